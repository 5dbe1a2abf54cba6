def mX0_addInQuotes_b55 (s0 : Option Nat) (s1 : Int32) (f : AH) (n : Nat) : Option (Int32 × HpN) := ((s0).bind fun j1 => rCk (isO f j1 5) (((mX5_add j1 s1 f n).bind fun r3 => some ((0 : Int32), (r3.2.1, r3.2.2)))))
set_option maxHeartbeats 1000000 in
theorem rmX0_addInQuotes_b55 {X : GX} {p : Program} {l : Launch} {e : Env} {s : State} {m : MethodId} {args : Array Value} {below : List Frame} {meth : Method} {c : Code} {r : Int32 × HpN} {s0 : Option Nat} {s1 : Int32} {f : AH} {n cells slots : Nat} (C : CC X p l (RM 1 0 0) s m args meth c RX0 cX0_addInQuotes 2 none) (hc : cells + 0 ≤ 0) (hs : slots + 0 ≤ 0) (h : mX0_addInQuotes_b55 s0 s1 f n = some r) : AW X p l e (RM 1 0 0) s m args below meth c 2 (ZM X below args s 0 0 (QHv r)) f n cells slots 55 [none, none] [.int s1, va_rf s0] := by
  have h : ((s0).bind fun j1 => rCk (isO f j1 5) (((mX5_add j1 s1 f n).bind fun r3 => some ((0 : Int32), (r3.2.1, r3.2.2))))) = some r := h
  obtain ⟨j1, hj1, h⟩ := Option.bind_eq_some_iff.mp h
  rw [hj1]
  obtain ⟨hb2, h⟩ := ck_some h
  obtain ⟨r3, hr3, h⟩ := Option.bind_eq_some_iff.mp h
  obtain ⟨fs4, hf4⟩ := isO_ex hb2
  refine aw_callV C (ci := 5) (b := j1) [.int s1] mv_X0_93 rfl rfl hf4 (rmX5_add hr3) rfl dX0_addInQuotes_55 (Nat.le_of_ble_eq_true rfl) (Nat.le_of_ble_eq_true rfl) rfl (Nat.le_of_ble_eq_true rfl) (show cells + 0 ≤ 0 by omega) (show slots + 0 ≤ 0 by omega) (fun v9 f9 n9 hh => ?_)
  obtain ⟨rfl, rfl, rfl⟩ := hh
  refine aw_pop C dX0_addInQuotes_58 rfl ?_
  cases h
  exact aw_vret C rfl dX0_addInQuotes_59 (by omega) (by omega) ⟨rfl, rfl, rfl⟩
def mX0_addInQuotes_b31 (v0 : Int32) (v1 : Option Nat) (f : AH) (n : Nat) : Option (Int32 × HpN) := (if v0 = (10 : Int32) then mX0_addInQuotes_b55 v1 (110 : Int32) f n else (if v0 = (9 : Int32) then mX0_addInQuotes_b55 v1 (116 : Int32) f n else mX0_addInQuotes_b55 v1 v0 f n))
set_option maxHeartbeats 1000000 in
theorem rmX0_addInQuotes_b31 {X : GX} {p : Program} {l : Launch} {e : Env} {s : State} {m : MethodId} {args : Array Value} {below : List Frame} {meth : Method} {c : Code} {r : Int32 × HpN} {v0 : Int32} {v1 : Option Nat} {f : AH} {n cells slots : Nat} (C : CC X p l (RM 1 0 0) s m args meth c RX0 cX0_addInQuotes 2 none) (hc : cells + 0 ≤ 0) (hs : slots + 0 ≤ 0) (h : mX0_addInQuotes_b31 v0 v1 f n = some r) : AW X p l e (RM 1 0 0) s m args below meth c 2 (ZM X below args s 0 0 (QHv r)) f n cells slots 31 [some (.int v0), some (va_rf v1)] [] := by
  have h : (if v0 = (10 : Int32) then mX0_addInQuotes_b55 v1 (110 : Int32) f n else (if v0 = (9 : Int32) then mX0_addInQuotes_b55 v1 (116 : Int32) f n else mX0_addInQuotes_b55 v1 v0 f n)) = some r := h
  refine aw_aload_n C dX0_addInQuotes_31 rfl (rf_or v1) ?_
  refine aw_iload_n C dX0_addInQuotes_32 rfl ?_
  refine aw_bipush C 10 dX0_addInQuotes_33 kb_10 ?_
  refine aw_icmp_ne C 43 dX0_addInQuotes_35 (by decide) (fun q => ?_) (fun q => ?_)
  · rw [if_neg q] at h
    refine aw_iload_n C dX0_addInQuotes_43 rfl ?_
    refine aw_bipush C 9 dX0_addInQuotes_44 kb_9 ?_
    refine aw_icmp_ne C 54 dX0_addInQuotes_46 (by decide) (fun q => ?_) (fun q => ?_)
    · rw [if_neg q] at h
      refine aw_iload_n C dX0_addInQuotes_54 rfl ?_
      refine aw_fl [none, none] trivial ?_
      exact rmX0_addInQuotes_b55 C (by omega) (by omega) h
    · rw [if_pos q] at h
      refine aw_bipush C 116 dX0_addInQuotes_49 kb_116 ?_
      refine aw_goto C 55 dX0_addInQuotes_51 (by decide) ?_
      refine aw_fl [none, none] trivial ?_
      exact rmX0_addInQuotes_b55 C (by omega) (by omega) h
  · rw [if_pos q] at h
    refine aw_bipush C 110 dX0_addInQuotes_38 kb_110 ?_
    refine aw_goto C 55 dX0_addInQuotes_40 (by decide) ?_
    refine aw_fl [none, none] trivial ?_
    exact rmX0_addInQuotes_b55 C (by omega) (by omega) h
def mX0_addInQuotes_b24 (v0 : Int32) (v1 : Option Nat) (f : AH) (n : Nat) : Option (Int32 × HpN) := ((v1).bind fun j1 => rCk (isO f j1 5) (((mX5_add j1 (92 : Int32) f n).bind fun r3 => mX0_addInQuotes_b31 v0 (some j1) r3.2.1 r3.2.2)))
set_option maxHeartbeats 1000000 in
theorem rmX0_addInQuotes_b24 {X : GX} {p : Program} {l : Launch} {e : Env} {s : State} {m : MethodId} {args : Array Value} {below : List Frame} {meth : Method} {c : Code} {r : Int32 × HpN} {v0 : Int32} {v1 : Option Nat} {f : AH} {n cells slots : Nat} (C : CC X p l (RM 1 0 0) s m args meth c RX0 cX0_addInQuotes 2 none) (hc : cells + 0 ≤ 0) (hs : slots + 0 ≤ 0) (h : mX0_addInQuotes_b24 v0 v1 f n = some r) : AW X p l e (RM 1 0 0) s m args below meth c 2 (ZM X below args s 0 0 (QHv r)) f n cells slots 24 [some (.int v0), some (va_rf v1)] [] := by
  have h : ((v1).bind fun j1 => rCk (isO f j1 5) (((mX5_add j1 (92 : Int32) f n).bind fun r3 => mX0_addInQuotes_b31 v0 (some j1) r3.2.1 r3.2.2))) = some r := h
  refine aw_aload_n C dX0_addInQuotes_24 rfl (rf_or v1) ?_
  refine aw_bipush C 92 dX0_addInQuotes_25 kb_92 ?_
  obtain ⟨j1, hj1, h⟩ := Option.bind_eq_some_iff.mp h
  rw [hj1]
  obtain ⟨hb2, h⟩ := ck_some h
  obtain ⟨r3, hr3, h⟩ := Option.bind_eq_some_iff.mp h
  obtain ⟨fs4, hf4⟩ := isO_ex hb2
  refine aw_callV C (ci := 5) (b := j1) [.int (92 : Int32)] mv_X0_93 rfl rfl hf4 (rmX5_add hr3) rfl dX0_addInQuotes_27 (Nat.le_of_ble_eq_true rfl) (Nat.le_of_ble_eq_true rfl) rfl (Nat.le_of_ble_eq_true rfl) (show cells + 0 ≤ 0 by omega) (show slots + 0 ≤ 0 by omega) (fun v9 f9 n9 hh => ?_)
  obtain ⟨rfl, rfl, rfl⟩ := hh
  refine aw_pop C dX0_addInQuotes_30 rfl ?_
  refine aw_fl [some (.int v0), some (va_rf (some j1))] ⟨rfl, ⟨rfl, trivial⟩⟩ ?_
  exact rmX0_addInQuotes_b31 C (by omega) (by omega) h
def mX0_addInQuotes (v0 : Int32) (v1 : Option Nat) (f : AH) (n : Nat) : Option (Int32 × HpN) := (if v0 = (92 : Int32) then mX0_addInQuotes_b24 v0 v1 f n else (if v0 = (10 : Int32) then mX0_addInQuotes_b24 v0 v1 f n else (if v0 = (9 : Int32) then mX0_addInQuotes_b24 v0 v1 f n else (if v0 = (34 : Int32) then mX0_addInQuotes_b24 v0 v1 f n else mX0_addInQuotes_b31 v0 v1 f n))))
set_option maxHeartbeats 1000000 in
theorem rmX0_addInQuotes {X : GX} {l : Launch} {r : Int32 × HpN} {v0 : Int32} {v1 : Option Nat} {f : AH} {n : Nat} (h : mX0_addInQuotes v0 v1 f n = some r) : AM X l yX0_addInQuotes cX0_addInQuotes 2 none 1 0 0 [.int v0, va_rf v1] f n (QHv r) := by
  have h : (if v0 = (92 : Int32) then mX0_addInQuotes_b24 v0 v1 f n else (if v0 = (10 : Int32) then mX0_addInQuotes_b24 v0 v1 f n else (if v0 = (9 : Int32) then mX0_addInQuotes_b24 v0 v1 f n else (if v0 = (34 : Int32) then mX0_addInQuotes_b24 v0 v1 f n else mX0_addInQuotes_b31 v0 v1 f n)))) = some r := h
  refine AM.of (by decide +kernel) (all1 rfl (all1 (rf_cat _) rfl)) (Nat.le_of_ble_eq_true rfl) (fun p e s m args below meth c C hnm => ?_)
  refine aw_nl [some (.int v0), some (va_rf v1)] rfl ?_
  refine aw_iload_n C dX0_addInQuotes_0 rfl ?_
  refine aw_bipush C 92 dX0_addInQuotes_1 kb_92 ?_
  refine aw_icmp_eq C 24 dX0_addInQuotes_3 (by decide) (fun q => ?_) (fun q => ?_)
  · rw [if_pos q] at h
    refine aw_fl [some (.int v0), some (va_rf v1)] ⟨rfl, ⟨rfl, trivial⟩⟩ ?_
    exact rmX0_addInQuotes_b24 C (by omega) (by omega) h
  · rw [if_neg q] at h
    refine aw_iload_n C dX0_addInQuotes_6 rfl ?_
    refine aw_bipush C 10 dX0_addInQuotes_7 kb_10 ?_
    refine aw_icmp_eq C 24 dX0_addInQuotes_9 (by decide) (fun q => ?_) (fun q => ?_)
    · rw [if_pos q] at h
      refine aw_fl [some (.int v0), some (va_rf v1)] ⟨rfl, ⟨rfl, trivial⟩⟩ ?_
      exact rmX0_addInQuotes_b24 C (by omega) (by omega) h
    · rw [if_neg q] at h
      refine aw_iload_n C dX0_addInQuotes_12 rfl ?_
      refine aw_bipush C 9 dX0_addInQuotes_13 kb_9 ?_
      refine aw_icmp_eq C 24 dX0_addInQuotes_15 (by decide) (fun q => ?_) (fun q => ?_)
      · rw [if_pos q] at h
        refine aw_fl [some (.int v0), some (va_rf v1)] ⟨rfl, ⟨rfl, trivial⟩⟩ ?_
        exact rmX0_addInQuotes_b24 C (by omega) (by omega) h
      · rw [if_neg q] at h
        refine aw_iload_n C dX0_addInQuotes_18 rfl ?_
        refine aw_bipush C 34 dX0_addInQuotes_19 kb_34 ?_
        refine aw_icmp_ne C 31 dX0_addInQuotes_21 (by decide) (fun q => ?_) (fun q => ?_)
        · rw [if_neg q] at h
          refine aw_fl [some (.int v0), some (va_rf v1)] ⟨rfl, ⟨rfl, trivial⟩⟩ ?_
          exact rmX0_addInQuotes_b31 C (by omega) (by omega) h
        · rw [if_pos q] at h
          refine aw_fl [some (.int v0), some (va_rf v1)] ⟨rfl, ⟨rfl, trivial⟩⟩ ?_
          exact rmX0_addInQuotes_b24 C (by omega) (by omega) h
def mX0_addEscaped_b109 (rec3 : (Option Nat) → (Option Nat) → Int32 → Int32 → Int32 → AH → Nat → Option (Int32 × HpN)) (v0 : Option Nat) (v1 : Option Nat) (v2 : Int32) (v3 : Int32) (v4 : Int32) (f : AH) (n : Nat) : Option (Int32 × HpN) := rec3 v0 v1 v2 v3 (v4 + (1 : Int32)) f n
set_option maxHeartbeats 1000000 in
theorem rmX0_addEscaped_b109 {X : GX} {p : Program} {l : Launch} {e : Env} {s : State} {m : MethodId} {args : Array Value} {below : List Frame} {meth : Method} {c : Code} {r : Int32 × HpN} {rec3 : (Option Nat) → (Option Nat) → Int32 → Int32 → Int32 → AH → Nat → Option (Int32 × HpN)} {v0 : Option Nat} {v1 : Option Nat} {v2 : Int32} {v3 : Int32} {v4 : Int32} {f : AH} {n cells slots : Nat} (C : CC X p l (RM 2 0 0) s m args meth c RX0 cX0_addEscaped 6 none) (Hr3 : ∀ (v0 : Option Nat) (v1 : Option Nat) (v2 : Int32) (v3 : Int32) (v4 : Int32) (f : AH) (n cells slots : Nat), cells + 0 ≤ 0 → slots + 0 ≤ 0 → rec3 v0 v1 v2 v3 v4 f n = some r → AW X p l e (RM 2 0 0) s m args below meth c 6 (ZM X below args s 0 0 (QHv r)) f n cells slots 3 [some (va_rf v0), some (va_rf v1), some (.int v2), some (.int v3), some (.int v4), none] []) (hc : cells + 0 ≤ 0) (hs : slots + 0 ≤ 0) (h : mX0_addEscaped_b109 rec3 v0 v1 v2 v3 v4 f n = some r) : AW X p l e (RM 2 0 0) s m args below meth c 6 (ZM X below args s 0 0 (QHv r)) f n cells slots 109 [some (va_rf v0), some (va_rf v1), some (.int v2), some (.int v3), some (.int v4), none] [] := by
  have h : rec3 v0 v1 v2 v3 (v4 + (1 : Int32)) f n = some r := h
  refine aw_iinc C (v4 + (1 : Int32)) dX0_addEscaped_109 rfl (by rw [ki_1]) (by decide) rfl ?_
  refine aw_nl [some (va_rf v0), some (va_rf v1), some (.int v2), some (.int v3), some (.int (v4 + (1 : Int32))), none] rfl ?_
  refine aw_goto C 3 dX0_addEscaped_112 (by decide) ?_
  refine aw_fl [some (va_rf v0), some (va_rf v1), some (.int v2), some (.int v3), some (.int (v4 + (1 : Int32))), none] ⟨rfl, ⟨rfl, ⟨rfl, ⟨rfl, ⟨rfl, trivial⟩⟩⟩⟩⟩ ?_
  exact Hr3 v0 v1 v2 v3 (v4 + (1 : Int32)) f n _ _ (by omega) (by omega) h
def mX0_addEscaped_b69 (rec3 : (Option Nat) → (Option Nat) → Int32 → Int32 → Int32 → AH → Nat → Option (Int32 × HpN)) (v0 : Option Nat) (v1 : Option Nat) (v2 : Int32) (v3 : Int32) (v4 : Int32) (s0 : Int32) (s1 : Option Nat) (s2 : Int32) (f : AH) (n : Nat) : Option (Int32 × HpN) := ((mX0_addInLine s0 s1 s2 f n).bind fun r1 => mX0_addEscaped_b109 rec3 v0 v1 v2 v3 v4 r1.2.1 r1.2.2)
set_option maxHeartbeats 1000000 in
theorem rmX0_addEscaped_b69 {X : GX} {p : Program} {l : Launch} {e : Env} {s : State} {m : MethodId} {args : Array Value} {below : List Frame} {meth : Method} {c : Code} {r : Int32 × HpN} {rec3 : (Option Nat) → (Option Nat) → Int32 → Int32 → Int32 → AH → Nat → Option (Int32 × HpN)} {v0 : Option Nat} {v1 : Option Nat} {v2 : Int32} {v3 : Int32} {v4 : Int32} {s0 : Int32} {s1 : Option Nat} {s2 : Int32} {f : AH} {n cells slots : Nat} (C : CC X p l (RM 2 0 0) s m args meth c RX0 cX0_addEscaped 6 none) (Hr3 : ∀ (v0 : Option Nat) (v1 : Option Nat) (v2 : Int32) (v3 : Int32) (v4 : Int32) (f : AH) (n cells slots : Nat), cells + 0 ≤ 0 → slots + 0 ≤ 0 → rec3 v0 v1 v2 v3 v4 f n = some r → AW X p l e (RM 2 0 0) s m args below meth c 6 (ZM X below args s 0 0 (QHv r)) f n cells slots 3 [some (va_rf v0), some (va_rf v1), some (.int v2), some (.int v3), some (.int v4), none] []) (hc : cells + 0 ≤ 0) (hs : slots + 0 ≤ 0) (h : mX0_addEscaped_b69 rec3 v0 v1 v2 v3 v4 s0 s1 s2 f n = some r) : AW X p l e (RM 2 0 0) s m args below meth c 6 (ZM X below args s 0 0 (QHv r)) f n cells slots 69 [some (va_rf v0), some (va_rf v1), some (.int v2), some (.int v3), some (.int v4), none] [.int s2, va_rf s1, .int s0] := by
  have h : ((mX0_addInLine s0 s1 s2 f n).bind fun r1 => mX0_addEscaped_b109 rec3 v0 v1 v2 v3 v4 r1.2.1 r1.2.2) = some r := h
  obtain ⟨r1, hr1, h⟩ := Option.bind_eq_some_iff.mp h
  refine aw_callS C [.int s0, va_rf s1, .int s2] ms_X0_107 (rmX0_addInLine hr1) rfl dX0_addEscaped_69 (Nat.le_of_ble_eq_true rfl) (Nat.le_of_ble_eq_true rfl) rfl (Nat.le_of_ble_eq_true rfl) (show cells + 0 ≤ 0 by omega) (show slots + 0 ≤ 0 by omega) (fun v9 f9 n9 hh => ?_)
  obtain ⟨rfl, rfl, rfl⟩ := hh
  refine aw_goto C 109 dX0_addEscaped_72 (by decide) ?_
  refine aw_fl [some (va_rf v0), some (va_rf v1), some (.int v2), some (.int v3), some (.int v4), none] ⟨rfl, ⟨rfl, ⟨rfl, ⟨rfl, ⟨rfl, trivial⟩⟩⟩⟩⟩ ?_
  exact rmX0_addEscaped_b109 C Hr3 (by omega) (by omega) h
def mX0_addEscaped_b68 (rec3 : (Option Nat) → (Option Nat) → Int32 → Int32 → Int32 → AH → Nat → Option (Int32 × HpN)) (v0 : Option Nat) (v1 : Option Nat) (v2 : Int32) (v3 : Int32) (v4 : Int32) (s0 : Int32) (s1 : Option Nat) (f : AH) (n : Nat) : Option (Int32 × HpN) := mX0_addEscaped_b69 rec3 v0 v1 v2 v3 v4 s0 s1 (0 : Int32) f n
set_option maxHeartbeats 1000000 in
theorem rmX0_addEscaped_b68 {X : GX} {p : Program} {l : Launch} {e : Env} {s : State} {m : MethodId} {args : Array Value} {below : List Frame} {meth : Method} {c : Code} {r : Int32 × HpN} {rec3 : (Option Nat) → (Option Nat) → Int32 → Int32 → Int32 → AH → Nat → Option (Int32 × HpN)} {v0 : Option Nat} {v1 : Option Nat} {v2 : Int32} {v3 : Int32} {v4 : Int32} {s0 : Int32} {s1 : Option Nat} {f : AH} {n cells slots : Nat} (C : CC X p l (RM 2 0 0) s m args meth c RX0 cX0_addEscaped 6 none) (Hr3 : ∀ (v0 : Option Nat) (v1 : Option Nat) (v2 : Int32) (v3 : Int32) (v4 : Int32) (f : AH) (n cells slots : Nat), cells + 0 ≤ 0 → slots + 0 ≤ 0 → rec3 v0 v1 v2 v3 v4 f n = some r → AW X p l e (RM 2 0 0) s m args below meth c 6 (ZM X below args s 0 0 (QHv r)) f n cells slots 3 [some (va_rf v0), some (va_rf v1), some (.int v2), some (.int v3), some (.int v4), none] []) (hc : cells + 0 ≤ 0) (hs : slots + 0 ≤ 0) (h : mX0_addEscaped_b68 rec3 v0 v1 v2 v3 v4 s0 s1 f n = some r) : AW X p l e (RM 2 0 0) s m args below meth c 6 (ZM X below args s 0 0 (QHv r)) f n cells slots 68 [some (va_rf v0), some (va_rf v1), some (.int v2), some (.int v3), some (.int v4), none] [va_rf s1, .int s0] := by
  have h : mX0_addEscaped_b69 rec3 v0 v1 v2 v3 v4 s0 s1 (0 : Int32) f n = some r := h
  refine aw_iconst C 0 dX0_addEscaped_68 ki_0 ?_
  refine aw_fl [some (va_rf v0), some (va_rf v1), some (.int v2), some (.int v3), some (.int v4), none] ⟨rfl, ⟨rfl, ⟨rfl, ⟨rfl, ⟨rfl, trivial⟩⟩⟩⟩⟩ ?_
  exact rmX0_addEscaped_b69 C Hr3 (by omega) (by omega) h
def mX0_addEscaped_l3 : Nat → (Option Nat) → (Option Nat) → Int32 → Int32 → Int32 → AH → Nat → Option (Int32 × HpN)
  | 0, _, _, _, _, _, _, _ => none
  | d + 1, v0, v1, v2, v3, v4, f, n => ((v0).bind fun j1 => rCk (isO f j1 5) (((mX5_size j1 f n).bind fun r3 => (if r3.1 ≤ v4 then some ((0 : Int32), (r3.2.1, r3.2.2)) else rCk (isO r3.2.1 j1 5) (((mX5_get j1 v4 r3.2.1 r3.2.2).bind fun r6 => (if v2 = (0 : Int32) then (if v3 = (0 : Int32) then mX0_addEscaped_b68 (fun v0 v1 v2 v3 v4 f n => mX0_addEscaped_l3 d v0 v1 v2 v3 v4 f n) (some j1) v1 v2 v3 v4 r6.1 v1 r6.2.1 r6.2.2 else (if v4 = (0 : Int32) then mX0_addEscaped_b69 (fun v0 v1 v2 v3 v4 f n => mX0_addEscaped_l3 d v0 v1 v2 v3 v4 f n) (some j1) v1 v2 v3 v4 r6.1 v1 (1 : Int32) r6.2.1 r6.2.2 else mX0_addEscaped_b68 (fun v0 v1 v2 v3 v4 f n => mX0_addEscaped_l3 d v0 v1 v2 v3 v4 f n) (some j1) v1 v2 v3 v4 r6.1 v1 r6.2.1 r6.2.2)) else if v2 = (1 : Int32) then ((mX0_addDoubled r6.1 v1 r6.2.1 r6.2.2).bind fun r8 => mX0_addEscaped_b109 (fun v0 v1 v2 v3 v4 f n => mX0_addEscaped_l3 d v0 v1 v2 v3 v4 f n) (some j1) v1 v2 v3 v4 r8.2.1 r8.2.2) else if v2 = (2 : Int32) then ((mX0_addInMarkup r6.1 v1 r6.2.1 r6.2.2).bind fun r9 => mX0_addEscaped_b109 (fun v0 v1 v2 v3 v4 f n => mX0_addEscaped_l3 d v0 v1 v2 v3 v4 f n) (some j1) v1 v2 v3 v4 r9.2.1 r9.2.2) else if v2 = (3 : Int32) then ((mX0_addInQuotes r6.1 v1 r6.2.1 r6.2.2).bind fun r10 => mX0_addEscaped_b109 (fun v0 v1 v2 v3 v4 f n => mX0_addEscaped_l3 d v0 v1 v2 v3 v4 f n) (some j1) v1 v2 v3 v4 r10.2.1 r10.2.2) else ((v1).bind fun j11 => rCk (isO r6.2.1 j11 5) (((mX5_add j11 r6.1 r6.2.1 r6.2.2).bind fun r13 => mX0_addEscaped_b109 (fun v0 v1 v2 v3 v4 f n => mX0_addEscaped_l3 d v0 v1 v2 v3 v4 f n) (some j1) (some j11) v2 v3 v4 r13.2.1 r13.2.2))))))))))
set_option maxHeartbeats 1000000 in
theorem rmX0_addEscaped_l3 {X : GX} {p : Program} {l : Launch} {e : Env} {s : State} {m : MethodId} {args : Array Value} {below : List Frame} {meth : Method} {c : Code} {r : Int32 × HpN} (C : CC X p l (RM 2 0 0) s m args meth c RX0 cX0_addEscaped 6 none) : ∀ (d : Nat) (v0 : Option Nat) (v1 : Option Nat) (v2 : Int32) (v3 : Int32) (v4 : Int32) (f : AH) (n cells slots : Nat) (_ : cells + 0 ≤ 0) (_ : slots + 0 ≤ 0) (_ : mX0_addEscaped_l3 d v0 v1 v2 v3 v4 f n = some r), AW X p l e (RM 2 0 0) s m args below meth c 6 (ZM X below args s 0 0 (QHv r)) f n cells slots 3 [some (va_rf v0), some (va_rf v1), some (.int v2), some (.int v3), some (.int v4), none] [] := by
  intro d
  induction d with
  | zero =>
    intro v0 v1 v2 v3 v4 f n cells slots hc hs h
    exact nomatch (show (none : Option (Int32 × HpN)) = some r from h)
  | succ d ih =>
    intro v0 v1 v2 v3 v4 f n cells slots hc hs h
    have h : ((v0).bind fun j1 => rCk (isO f j1 5) (((mX5_size j1 f n).bind fun r3 => (if r3.1 ≤ v4 then some ((0 : Int32), (r3.2.1, r3.2.2)) else rCk (isO r3.2.1 j1 5) (((mX5_get j1 v4 r3.2.1 r3.2.2).bind fun r6 => (if v2 = (0 : Int32) then (if v3 = (0 : Int32) then mX0_addEscaped_b68 (fun v0 v1 v2 v3 v4 f n => mX0_addEscaped_l3 d v0 v1 v2 v3 v4 f n) (some j1) v1 v2 v3 v4 r6.1 v1 r6.2.1 r6.2.2 else (if v4 = (0 : Int32) then mX0_addEscaped_b69 (fun v0 v1 v2 v3 v4 f n => mX0_addEscaped_l3 d v0 v1 v2 v3 v4 f n) (some j1) v1 v2 v3 v4 r6.1 v1 (1 : Int32) r6.2.1 r6.2.2 else mX0_addEscaped_b68 (fun v0 v1 v2 v3 v4 f n => mX0_addEscaped_l3 d v0 v1 v2 v3 v4 f n) (some j1) v1 v2 v3 v4 r6.1 v1 r6.2.1 r6.2.2)) else if v2 = (1 : Int32) then ((mX0_addDoubled r6.1 v1 r6.2.1 r6.2.2).bind fun r8 => mX0_addEscaped_b109 (fun v0 v1 v2 v3 v4 f n => mX0_addEscaped_l3 d v0 v1 v2 v3 v4 f n) (some j1) v1 v2 v3 v4 r8.2.1 r8.2.2) else if v2 = (2 : Int32) then ((mX0_addInMarkup r6.1 v1 r6.2.1 r6.2.2).bind fun r9 => mX0_addEscaped_b109 (fun v0 v1 v2 v3 v4 f n => mX0_addEscaped_l3 d v0 v1 v2 v3 v4 f n) (some j1) v1 v2 v3 v4 r9.2.1 r9.2.2) else if v2 = (3 : Int32) then ((mX0_addInQuotes r6.1 v1 r6.2.1 r6.2.2).bind fun r10 => mX0_addEscaped_b109 (fun v0 v1 v2 v3 v4 f n => mX0_addEscaped_l3 d v0 v1 v2 v3 v4 f n) (some j1) v1 v2 v3 v4 r10.2.1 r10.2.2) else ((v1).bind fun j11 => rCk (isO r6.2.1 j11 5) (((mX5_add j11 r6.1 r6.2.1 r6.2.2).bind fun r13 => mX0_addEscaped_b109 (fun v0 v1 v2 v3 v4 f n => mX0_addEscaped_l3 d v0 v1 v2 v3 v4 f n) (some j1) (some j11) v2 v3 v4 r13.2.1 r13.2.2)))))))))) = some r := h
    refine aw_iload C dX0_addEscaped_3 rfl ?_
    refine aw_aload_n C dX0_addEscaped_5 rfl (rf_or v0) ?_
    obtain ⟨j1, hj1, h⟩ := Option.bind_eq_some_iff.mp h
    rw [hj1]
    obtain ⟨hb2, h⟩ := ck_some h
    obtain ⟨r3, hr3, h⟩ := Option.bind_eq_some_iff.mp h
    obtain ⟨fs4, hf4⟩ := isO_ex hb2
    refine aw_callV C (ci := 5) (b := j1) [] mv_X0_57 rfl rfl hf4 (rmX5_size hr3) rfl dX0_addEscaped_6 (Nat.le_of_ble_eq_true rfl) (Nat.le_of_ble_eq_true rfl) rfl (Nat.le_of_ble_eq_true rfl) (show cells + 0 ≤ 0 by omega) (show slots + 0 ≤ 0 by omega) (fun v9 f9 n9 hh => ?_)
    obtain ⟨rfl, rfl, rfl⟩ := hh
    refine aw_icmp_ge C 115 dX0_addEscaped_9 (by decide) (fun q => ?_) (fun q => ?_)
    · rw [if_pos q] at h
      cases h
      exact aw_vret C rfl dX0_addEscaped_115 (by omega) (by omega) ⟨rfl, rfl, rfl⟩
    · rw [if_neg q] at h
      refine aw_ald_n C dX0_addEscaped_12 rfl ?_
      refine aw_iload C dX0_addEscaped_13 rfl ?_
      obtain ⟨hb5, h⟩ := ck_some h
      obtain ⟨r6, hr6, h⟩ := Option.bind_eq_some_iff.mp h
      obtain ⟨fs7, hf7⟩ := isO_ex hb5
      refine aw_callV C (ci := 5) (b := j1) [.int v4] mv_X0_104 rfl rfl hf7 (rmX5_get hr6) rfl dX0_addEscaped_15 (Nat.le_of_ble_eq_true rfl) (Nat.le_of_ble_eq_true rfl) rfl (Nat.le_of_ble_eq_true rfl) (show (cells + 0) + 0 ≤ 0 by omega) (show (slots + 0) + 0 ≤ 0 by omega) (fun v9 f9 n9 hh => ?_)
      obtain ⟨rfl, rfl, rfl⟩ := hh
      refine aw_istore C dX0_addEscaped_18 (by decide) rfl ?_
      refine aw_nl [some (.ref j1), some (va_rf v1), some (.int v2), some (.int v3), some (.int v4), some (.int r6.1)] rfl ?_
      refine aw_iload_n C dX0_addEscaped_20 rfl ?_
      by_cases q : v2 = (0 : Int32)
      · rw [if_pos q] at h
        refine aw_top (0 : Int32) q ?_
        refine aw_tabIn C (off := 31) 52 dX0_addEscaped_21 (by decide) (by decide) (by decide) (by decide) ?_
        refine aw_iload C dX0_addEscaped_52 rfl ?_
        refine aw_aload_n C dX0_addEscaped_54 rfl (rf_or v1) ?_
        refine aw_iload_n C dX0_addEscaped_55 rfl ?_
        refine aw_if_eq C 68 dX0_addEscaped_56 (by decide) (fun q => ?_) (fun q => ?_)
        · rw [if_pos q] at h
          refine aw_fl [some (va_rf (some j1)), some (va_rf v1), some (.int v2), some (.int v3), some (.int v4), none] ⟨rfl, ⟨rfl, ⟨rfl, ⟨rfl, ⟨rfl, trivial⟩⟩⟩⟩⟩ ?_
          exact rmX0_addEscaped_b68 C (fun v0 v1 v2 v3 v4 f n cells slots hc hs h => ih v0 v1 v2 v3 v4 f n cells slots hc hs h) (by omega) (by omega) h
        · rw [if_neg q] at h
          refine aw_iload C dX0_addEscaped_59 rfl ?_
          refine aw_if_ne C 68 dX0_addEscaped_61 (by decide) (fun q => ?_) (fun q => ?_)
          · rw [if_neg q] at h
            refine aw_fl [some (va_rf (some j1)), some (va_rf v1), some (.int v2), some (.int v3), some (.int v4), none] ⟨rfl, ⟨rfl, ⟨rfl, ⟨rfl, ⟨rfl, trivial⟩⟩⟩⟩⟩ ?_
            exact rmX0_addEscaped_b68 C (fun v0 v1 v2 v3 v4 f n cells slots hc hs h => ih v0 v1 v2 v3 v4 f n cells slots hc hs h) (by omega) (by omega) h
          · rw [if_pos q] at h
            refine aw_iconst C 1 dX0_addEscaped_64 ki_1 ?_
            refine aw_goto C 69 dX0_addEscaped_65 (by decide) ?_
            refine aw_fl [some (va_rf (some j1)), some (va_rf v1), some (.int v2), some (.int v3), some (.int v4), none] ⟨rfl, ⟨rfl, ⟨rfl, ⟨rfl, ⟨rfl, trivial⟩⟩⟩⟩⟩ ?_
            exact rmX0_addEscaped_b69 C (fun v0 v1 v2 v3 v4 f n cells slots hc hs h => ih v0 v1 v2 v3 v4 f n cells slots hc hs h) (by omega) (by omega) h
      · rw [if_neg q] at h
        have q0 := q
        by_cases q : v2 = (1 : Int32)
        · rw [if_pos q] at h
          refine aw_top (1 : Int32) q ?_
          refine aw_tabIn C (off := 54) 75 dX0_addEscaped_21 (by decide) (by decide) (by decide) (by decide) ?_
          refine aw_iload C dX0_addEscaped_75 rfl ?_
          refine aw_aload_n C dX0_addEscaped_77 rfl (rf_or v1) ?_
          obtain ⟨r8, hr8, h⟩ := Option.bind_eq_some_iff.mp h
          refine aw_callS C [.int r6.1, va_rf v1] ms_X0_111 (rmX0_addDoubled hr8) rfl dX0_addEscaped_78 (Nat.le_of_ble_eq_true rfl) (Nat.le_of_ble_eq_true rfl) rfl (Nat.le_of_ble_eq_true rfl) (show ((cells + 0) + 0) + 0 ≤ 0 by omega) (show ((slots + 0) + 0) + 0 ≤ 0 by omega) (fun v9 f9 n9 hh => ?_)
          obtain ⟨rfl, rfl, rfl⟩ := hh
          refine aw_goto C 109 dX0_addEscaped_81 (by decide) ?_
          refine aw_fl [some (va_rf (some j1)), some (va_rf v1), some (.int v2), some (.int v3), some (.int v4), none] ⟨rfl, ⟨rfl, ⟨rfl, ⟨rfl, ⟨rfl, trivial⟩⟩⟩⟩⟩ ?_
          exact rmX0_addEscaped_b109 C (fun v0 v1 v2 v3 v4 f n cells slots hc hs h => ih v0 v1 v2 v3 v4 f n cells slots hc hs h) (by omega) (by omega) h
        · rw [if_neg q] at h
          have q1 := q
          by_cases q : v2 = (2 : Int32)
          · rw [if_pos q] at h
            refine aw_top (2 : Int32) q ?_
            refine aw_tabIn C (off := 63) 84 dX0_addEscaped_21 (by decide) (by decide) (by decide) (by decide) ?_
            refine aw_iload C dX0_addEscaped_84 rfl ?_
            refine aw_aload_n C dX0_addEscaped_86 rfl (rf_or v1) ?_
            obtain ⟨r9, hr9, h⟩ := Option.bind_eq_some_iff.mp h
            refine aw_callS C [.int r6.1, va_rf v1] ms_X0_115 (rmX0_addInMarkup hr9) rfl dX0_addEscaped_87 (Nat.le_of_ble_eq_true rfl) (Nat.le_of_ble_eq_true rfl) rfl (Nat.le_of_ble_eq_true rfl) (show ((cells + 0) + 0) + 0 ≤ 0 by omega) (show ((slots + 0) + 0) + 0 ≤ 0 by omega) (fun v9 f9 n9 hh => ?_)
            obtain ⟨rfl, rfl, rfl⟩ := hh
            refine aw_goto C 109 dX0_addEscaped_90 (by decide) ?_
            refine aw_fl [some (va_rf (some j1)), some (va_rf v1), some (.int v2), some (.int v3), some (.int v4), none] ⟨rfl, ⟨rfl, ⟨rfl, ⟨rfl, ⟨rfl, trivial⟩⟩⟩⟩⟩ ?_
            exact rmX0_addEscaped_b109 C (fun v0 v1 v2 v3 v4 f n cells slots hc hs h => ih v0 v1 v2 v3 v4 f n cells slots hc hs h) (by omega) (by omega) h
          · rw [if_neg q] at h
            have q2 := q
            by_cases q : v2 = (3 : Int32)
            · rw [if_pos q] at h
              refine aw_top (3 : Int32) q ?_
              refine aw_tabIn C (off := 72) 93 dX0_addEscaped_21 (by decide) (by decide) (by decide) (by decide) ?_
              refine aw_iload C dX0_addEscaped_93 rfl ?_
              refine aw_aload_n C dX0_addEscaped_95 rfl (rf_or v1) ?_
              obtain ⟨r10, hr10, h⟩ := Option.bind_eq_some_iff.mp h
              refine aw_callS C [.int r6.1, va_rf v1] ms_X0_118 (rmX0_addInQuotes hr10) rfl dX0_addEscaped_96 (Nat.le_of_ble_eq_true rfl) (Nat.le_of_ble_eq_true rfl) rfl (Nat.le_of_ble_eq_true rfl) (show ((cells + 0) + 0) + 0 ≤ 0 by omega) (show ((slots + 0) + 0) + 0 ≤ 0 by omega) (fun v9 f9 n9 hh => ?_)
              obtain ⟨rfl, rfl, rfl⟩ := hh
              refine aw_goto C 109 dX0_addEscaped_99 (by decide) ?_
              refine aw_fl [some (va_rf (some j1)), some (va_rf v1), some (.int v2), some (.int v3), some (.int v4), none] ⟨rfl, ⟨rfl, ⟨rfl, ⟨rfl, ⟨rfl, trivial⟩⟩⟩⟩⟩ ?_
              exact rmX0_addEscaped_b109 C (fun v0 v1 v2 v3 v4 f n cells slots hc hs h => ih v0 v1 v2 v3 v4 f n cells slots hc hs h) (by omega) (by omega) h
            · rw [if_neg q] at h
              have q3 := q
              refine aw_tabOut C 102 dX0_addEscaped_21 (sx_out0_4 q0 q1 q2 q3) (by decide) ?_
              refine aw_aload_n C dX0_addEscaped_102 rfl (rf_or v1) ?_
              refine aw_iload C dX0_addEscaped_103 rfl ?_
              obtain ⟨j11, hj11, h⟩ := Option.bind_eq_some_iff.mp h
              rw [hj11]
              obtain ⟨hb12, h⟩ := ck_some h
              obtain ⟨r13, hr13, h⟩ := Option.bind_eq_some_iff.mp h
              obtain ⟨fs14, hf14⟩ := isO_ex hb12
              refine aw_callV C (ci := 5) (b := j11) [.int r6.1] mv_X0_93 rfl rfl hf14 (rmX5_add hr13) rfl dX0_addEscaped_105 (Nat.le_of_ble_eq_true rfl) (Nat.le_of_ble_eq_true rfl) rfl (Nat.le_of_ble_eq_true rfl) (show ((cells + 0) + 0) + 0 ≤ 0 by omega) (show ((slots + 0) + 0) + 0 ≤ 0 by omega) (fun v9 f9 n9 hh => ?_)
              obtain ⟨rfl, rfl, rfl⟩ := hh
              refine aw_pop C dX0_addEscaped_108 rfl ?_
              refine aw_fl [some (va_rf (some j1)), some (va_rf (some j11)), some (.int v2), some (.int v3), some (.int v4), none] ⟨rfl, ⟨rfl, ⟨rfl, ⟨rfl, ⟨rfl, trivial⟩⟩⟩⟩⟩ ?_
              exact rmX0_addEscaped_b109 C (fun v0 v1 v2 v3 v4 f n cells slots hc hs h => ih v0 v1 v2 v3 v4 f n cells slots hc hs h) (by omega) (by omega) h
def mX0_addEscaped (v0 : Option Nat) (v1 : Option Nat) (v2 : Int32) (v3 : Int32) (f : AH) (n : Nat) : Option (Int32 × HpN) := mX0_addEscaped_l3 rFU v0 v1 v2 v3 (0 : Int32) f n
set_option maxHeartbeats 1000000 in
theorem rmX0_addEscaped {X : GX} {l : Launch} {r : Int32 × HpN} {v0 : Option Nat} {v1 : Option Nat} {v2 : Int32} {v3 : Int32} {f : AH} {n : Nat} (h : mX0_addEscaped v0 v1 v2 v3 f n = some r) : AM X l yX0_addEscaped cX0_addEscaped 6 none 2 0 0 [va_rf v0, va_rf v1, .int v2, .int v3] f n (QHv r) := by
  have h : mX0_addEscaped_l3 rFU v0 v1 v2 v3 (0 : Int32) f n = some r := h
  refine AM.of (by decide +kernel) (all1 (rf_cat _) (all1 (rf_cat _) (all1 rfl (all1 rfl rfl)))) (Nat.le_of_ble_eq_true rfl) (fun p e s m args below meth c C hnm => ?_)
  refine aw_nl [some (va_rf v0), some (va_rf v1), some (.int v2), some (.int v3), none, none] rfl ?_
  refine aw_iconst C 0 dX0_addEscaped_0 ki_0 ?_
  refine aw_istore C dX0_addEscaped_1 (by decide) rfl ?_
  refine aw_nl [some (va_rf v0), some (va_rf v1), some (.int v2), some (.int v3), some (.int (0 : Int32)), none] rfl ?_
  refine aw_fl [some (va_rf v0), some (va_rf v1), some (.int v2), some (.int v3), some (.int (0 : Int32)), none] ⟨rfl, ⟨rfl, ⟨rfl, ⟨rfl, ⟨rfl, trivial⟩⟩⟩⟩⟩ ?_
  exact rmX0_addEscaped_l3 C rFU v0 v1 v2 v3 (0 : Int32) f n _ _ (by omega) (by omega) h
def mX0_escape_b270 (s0 : Int32) (f : AH) (n : Nat) : Option (Int32 × HpN) := rCk (rNb s0) (some (s0, (f, n)))
set_option maxHeartbeats 1000000 in
theorem rmX0_escape_b270 {X : GX} {p : Program} {l : Launch} {e : Env} {s : State} {m : MethodId} {args : Array Value} {below : List Frame} {meth : Method} {c : Code} {r : Int32 × HpN} {s0 : Int32} {f : AH} {n cells slots : Nat} (C : CC X p l (RM 3 0 0) s m args meth c RX0 cX0_escape 6 (some .boolean)) (hc : cells + 0 ≤ 0) (hs : slots + 0 ≤ 0) (h : mX0_escape_b270 s0 f n = some r) : AW X p l e (RM 3 0 0) s m args below meth c 6 (ZM X below args s 0 0 (QHi r)) f n cells slots 270 [none, none, none, none, none, none] [.int s0] := by
  have h : rCk (rNb s0) (some (s0, (f, n))) = some r := h
  obtain ⟨hb1, h⟩ := ck_some h
  cases h
  exact aw_iret C rfl (nb_nar hb1) dX0_escape_270 (by omega) (by omega) ⟨rfl, rfl, rfl⟩
def mX0_escape_b163 (v0 : Nat) (v2 : Option Nat) (v3 : Option Nat) (v4 : Int32) (f : AH) (n : Nat) : Option (Int32 × HpN) := (if v4 = (0 : Int32) then ((gR f v0 0 2).bind fun x34 => ((gR f v0 0 1).bind fun x35 => ((v3).bind fun j36 => ((gI f j36 7 1).bind fun x37 => ((v2).bind fun j38 => ((gI f j38 3 8).bind fun x39 => ((mX0_addEscaped x34 x35 x37 x39 f n).bind fun r40 => rCk (rNb (1 : Int32)) (some ((1 : Int32), (r40.2.1, r40.2.2)))))))))) else ((gR f v0 0 2).bind fun x1 => ((x1).bind fun j2 => rCk (isO f j2 5) (((mX5_breaksCell j2 f n).bind fun r4 => (if r4.1 = (0 : Int32) then ((gR r4.2.1 v0 0 1).bind fun x22 => ((gR r4.2.1 v0 0 2).bind fun x23 => ((gR r4.2.1 v0 0 2).bind fun x24 => ((x24).bind fun j25 => rCk (isO r4.2.1 j25 5) (((mX5_size j25 r4.2.1 r4.2.2).bind fun r27 => ((x22).bind fun j29 => rCk (isO r27.2.1 j29 5) (((mX5_addPart j29 x23 (0 : Int32) r27.1 r27.2.1 r27.2.2).bind fun r31 => rCk (rNb r31.1) (some (r31.1, (r31.2.1, r31.2.2)))))))))))) else ((pO r4.2.1 v0 0 3 (.int (1 : Int32))).bind fun f6 => ((gR f6 v0 0 1).bind fun x7 => ((x7).bind fun j8 => rCk (isO f6 j8 5) (((mX5_add j8 (34 : Int32) f6 r4.2.2).bind fun r10 => ((gR r10.2.1 v0 0 2).bind fun x12 => ((gR r10.2.1 v0 0 1).bind fun x13 => ((mX0_addEscaped x12 x13 (1 : Int32) (0 : Int32) r10.2.1 r10.2.2).bind fun r14 => ((gR r14.2.1 v0 0 1).bind fun x15 => ((x15).bind fun j16 => rCk (isO r14.2.1 j16 5) (((mX5_add j16 (34 : Int32) r14.2.1 r14.2.2).bind fun r18 => ((v3).bind fun j20 => ((gI r18.2.1 j20 7 2).bind fun x21 => (if x21 = (-1 : Int32) then mX0_escape_b270 (1 : Int32) r18.2.1 r18.2.2 else mX0_escape_b270 (0 : Int32) r18.2.1 r18.2.2)))))))))))))))))))))
set_option maxHeartbeats 1000000 in
theorem rmX0_escape_b163 {X : GX} {p : Program} {l : Launch} {e : Env} {s : State} {m : MethodId} {args : Array Value} {below : List Frame} {meth : Method} {c : Code} {r : Int32 × HpN} {v0 : Nat} {v2 : Option Nat} {v3 : Option Nat} {v4 : Int32} {f : AH} {n cells slots : Nat} (C : CC X p l (RM 3 0 0) s m args meth c RX0 cX0_escape 6 (some .boolean)) (hc : cells + 0 ≤ 0) (hs : slots + 0 ≤ 0) (h : mX0_escape_b163 v0 v2 v3 v4 f n = some r) : AW X p l e (RM 3 0 0) s m args below meth c 6 (ZM X below args s 0 0 (QHi r)) f n cells slots 163 [some (.ref v0), none, some (va_rf v2), some (va_rf v3), some (.int v4), none] [] := by
  have h : (if v4 = (0 : Int32) then ((gR f v0 0 2).bind fun x34 => ((gR f v0 0 1).bind fun x35 => ((v3).bind fun j36 => ((gI f j36 7 1).bind fun x37 => ((v2).bind fun j38 => ((gI f j38 3 8).bind fun x39 => ((mX0_addEscaped x34 x35 x37 x39 f n).bind fun r40 => rCk (rNb (1 : Int32)) (some ((1 : Int32), (r40.2.1, r40.2.2)))))))))) else ((gR f v0 0 2).bind fun x1 => ((x1).bind fun j2 => rCk (isO f j2 5) (((mX5_breaksCell j2 f n).bind fun r4 => (if r4.1 = (0 : Int32) then ((gR r4.2.1 v0 0 1).bind fun x22 => ((gR r4.2.1 v0 0 2).bind fun x23 => ((gR r4.2.1 v0 0 2).bind fun x24 => ((x24).bind fun j25 => rCk (isO r4.2.1 j25 5) (((mX5_size j25 r4.2.1 r4.2.2).bind fun r27 => ((x22).bind fun j29 => rCk (isO r27.2.1 j29 5) (((mX5_addPart j29 x23 (0 : Int32) r27.1 r27.2.1 r27.2.2).bind fun r31 => rCk (rNb r31.1) (some (r31.1, (r31.2.1, r31.2.2)))))))))))) else ((pO r4.2.1 v0 0 3 (.int (1 : Int32))).bind fun f6 => ((gR f6 v0 0 1).bind fun x7 => ((x7).bind fun j8 => rCk (isO f6 j8 5) (((mX5_add j8 (34 : Int32) f6 r4.2.2).bind fun r10 => ((gR r10.2.1 v0 0 2).bind fun x12 => ((gR r10.2.1 v0 0 1).bind fun x13 => ((mX0_addEscaped x12 x13 (1 : Int32) (0 : Int32) r10.2.1 r10.2.2).bind fun r14 => ((gR r14.2.1 v0 0 1).bind fun x15 => ((x15).bind fun j16 => rCk (isO r14.2.1 j16 5) (((mX5_add j16 (34 : Int32) r14.2.1 r14.2.2).bind fun r18 => ((v3).bind fun j20 => ((gI r18.2.1 j20 7 2).bind fun x21 => (if x21 = (-1 : Int32) then mX0_escape_b270 (1 : Int32) r18.2.1 r18.2.2 else mX0_escape_b270 (0 : Int32) r18.2.1 r18.2.2))))))))))))))))))))) = some r := h
  refine aw_iload C dX0_escape_163 rfl ?_
  refine aw_if_ne C 189 dX0_escape_165 (by decide) (fun q => ?_) (fun q => ?_)
  · rw [if_neg q] at h
    refine aw_ald_n C dX0_escape_189 rfl ?_
    obtain ⟨x1, hx1, h⟩ := Option.bind_eq_some_iff.mp h
    refine ah_getR C gf_X0_23 hx1 dX0_escape_190 ?_
    obtain ⟨j2, hj2, h⟩ := Option.bind_eq_some_iff.mp h
    rw [hj2]
    obtain ⟨hb3, h⟩ := ck_some h
    obtain ⟨r4, hr4, h⟩ := Option.bind_eq_some_iff.mp h
    obtain ⟨fs5, hf5⟩ := isO_ex hb3
    refine aw_callV C (ci := 5) (b := j2) [] mv_X0_89 rfl rfl hf5 (rmX5_breaksCell hr4) rfl dX0_escape_193 (Nat.le_of_ble_eq_true rfl) (Nat.le_of_ble_eq_true rfl) rfl (Nat.le_of_ble_eq_true rfl) (show cells + 0 ≤ 0 by omega) (show slots + 0 ≤ 0 by omega) (fun v9 f9 n9 hh => ?_)
    obtain ⟨rfl, rfl, rfl⟩ := hh
    refine aw_if_ne C 219 dX0_escape_196 (by decide) (fun q => ?_) (fun q => ?_)
    · rw [if_neg q] at h
      refine aw_ald_n C dX0_escape_219 rfl ?_
      refine aw_iconst C 1 dX0_escape_220 ki_1 ?_
      obtain ⟨f6, hf6, h⟩ := Option.bind_eq_some_iff.mp h
      refine ah_put C gf_X0_72 cf0 nf0_3 rfl rfl hf6 dX0_escape_221 ?_
      refine aw_ald_n C dX0_escape_224 rfl ?_
      obtain ⟨x7, hx7, h⟩ := Option.bind_eq_some_iff.mp h
      refine ah_getR C gf_X0_20 hx7 dX0_escape_225 ?_
      refine aw_bipush C 34 dX0_escape_228 kb_34 ?_
      obtain ⟨j8, hj8, h⟩ := Option.bind_eq_some_iff.mp h
      rw [hj8]
      obtain ⟨hb9, h⟩ := ck_some h
      obtain ⟨r10, hr10, h⟩ := Option.bind_eq_some_iff.mp h
      obtain ⟨fs11, hf11⟩ := isO_ex hb9
      refine aw_callV C (ci := 5) (b := j8) [.int (34 : Int32)] mv_X0_93 rfl rfl hf11 (rmX5_add hr10) rfl dX0_escape_230 (Nat.le_of_ble_eq_true rfl) (Nat.le_of_ble_eq_true rfl) rfl (Nat.le_of_ble_eq_true rfl) (show (cells + 0) + 0 ≤ 0 by omega) (show (slots + 0) + 0 ≤ 0 by omega) (fun v9 f9 n9 hh => ?_)
      obtain ⟨rfl, rfl, rfl⟩ := hh
      refine aw_pop C dX0_escape_233 rfl ?_
      refine aw_ald_n C dX0_escape_234 rfl ?_
      obtain ⟨x12, hx12, h⟩ := Option.bind_eq_some_iff.mp h
      refine ah_getR C gf_X0_23 hx12 dX0_escape_235 ?_
      refine aw_ald_n C dX0_escape_238 rfl ?_
      obtain ⟨x13, hx13, h⟩ := Option.bind_eq_some_iff.mp h
      refine ah_getR C gf_X0_20 hx13 dX0_escape_239 ?_
      refine aw_iconst C 1 dX0_escape_242 ki_1 ?_
      refine aw_iconst C 0 dX0_escape_243 ki_0 ?_
      obtain ⟨r14, hr14, h⟩ := Option.bind_eq_some_iff.mp h
      refine aw_callS C [va_rf x12, va_rf x13, .int (1 : Int32), .int (0 : Int32)] ms_X0_97 (rmX0_addEscaped hr14) rfl dX0_escape_244 (Nat.le_of_ble_eq_true rfl) (Nat.le_of_ble_eq_true rfl) rfl (Nat.le_of_ble_eq_true rfl) (show ((cells + 0) + 0) + 0 ≤ 0 by omega) (show ((slots + 0) + 0) + 0 ≤ 0 by omega) (fun v9 f9 n9 hh => ?_)
      obtain ⟨rfl, rfl, rfl⟩ := hh
      refine aw_ald_n C dX0_escape_247 rfl ?_
      obtain ⟨x15, hx15, h⟩ := Option.bind_eq_some_iff.mp h
      refine ah_getR C gf_X0_20 hx15 dX0_escape_248 ?_
      refine aw_bipush C 34 dX0_escape_251 kb_34 ?_
      obtain ⟨j16, hj16, h⟩ := Option.bind_eq_some_iff.mp h
      rw [hj16]
      obtain ⟨hb17, h⟩ := ck_some h
      obtain ⟨r18, hr18, h⟩ := Option.bind_eq_some_iff.mp h
      obtain ⟨fs19, hf19⟩ := isO_ex hb17
      refine aw_callV C (ci := 5) (b := j16) [.int (34 : Int32)] mv_X0_93 rfl rfl hf19 (rmX5_add hr18) rfl dX0_escape_253 (Nat.le_of_ble_eq_true rfl) (Nat.le_of_ble_eq_true rfl) rfl (Nat.le_of_ble_eq_true rfl) (show (((cells + 0) + 0) + 0) + 0 ≤ 0 by omega) (show (((slots + 0) + 0) + 0) + 0 ≤ 0 by omega) (fun v9 f9 n9 hh => ?_)
      obtain ⟨rfl, rfl, rfl⟩ := hh
      refine aw_pop C dX0_escape_256 rfl ?_
      refine aw_aload_n C dX0_escape_257 rfl (rf_or v3) ?_
      obtain ⟨j20, hj20, h⟩ := Option.bind_eq_some_iff.mp h
      rw [hj20]
      obtain ⟨x21, hx21, h⟩ := Option.bind_eq_some_iff.mp h
      refine ah_getI C gf_X0_83 hx21 dX0_escape_258 ?_
      refine aw_iconst C (-1) dX0_escape_261 ki_m1 ?_
      refine aw_icmp_ne C 269 dX0_escape_262 (by decide) (fun q => ?_) (fun q => ?_)
      · rw [if_neg q] at h
        refine aw_iconst C 0 dX0_escape_269 ki_0 ?_
        refine aw_fl [none, none, none, none, none, none] trivial ?_
        exact rmX0_escape_b270 C (by omega) (by omega) h
      · rw [if_pos q] at h
        refine aw_iconst C 1 dX0_escape_265 ki_1 ?_
        refine aw_goto C 270 dX0_escape_266 (by decide) ?_
        refine aw_fl [none, none, none, none, none, none] trivial ?_
        exact rmX0_escape_b270 C (by omega) (by omega) h
    · rw [if_pos q] at h
      refine aw_ald_n C dX0_escape_199 rfl ?_
      obtain ⟨x22, hx22, h⟩ := Option.bind_eq_some_iff.mp h
      refine ah_getR C gf_X0_20 hx22 dX0_escape_200 ?_
      refine aw_ald_n C dX0_escape_203 rfl ?_
      obtain ⟨x23, hx23, h⟩ := Option.bind_eq_some_iff.mp h
      refine ah_getR C gf_X0_23 hx23 dX0_escape_204 ?_
      refine aw_iconst C 0 dX0_escape_207 ki_0 ?_
      refine aw_ald_n C dX0_escape_208 rfl ?_
      obtain ⟨x24, hx24, h⟩ := Option.bind_eq_some_iff.mp h
      refine ah_getR C gf_X0_23 hx24 dX0_escape_209 ?_
      obtain ⟨j25, hj25, h⟩ := Option.bind_eq_some_iff.mp h
      rw [hj25]
      obtain ⟨hb26, h⟩ := ck_some h
      obtain ⟨r27, hr27, h⟩ := Option.bind_eq_some_iff.mp h
      obtain ⟨fs28, hf28⟩ := isO_ex hb26
      refine aw_callV C (ci := 5) (b := j25) [] mv_X0_57 rfl rfl hf28 (rmX5_size hr27) rfl dX0_escape_212 (Nat.le_of_ble_eq_true rfl) (Nat.le_of_ble_eq_true rfl) rfl (cs_1 rfl (cs_1 (rf_cat _) (cs_1 (rf_cat _) cs_0))) (show (cells + 0) + 0 ≤ 0 by omega) (show (slots + 0) + 0 ≤ 0 by omega) (fun v9 f9 n9 hh => ?_)
      obtain ⟨rfl, rfl, rfl⟩ := hh
      obtain ⟨j29, hj29, h⟩ := Option.bind_eq_some_iff.mp h
      rw [hj29]
      obtain ⟨hb30, h⟩ := ck_some h
      obtain ⟨r31, hr31, h⟩ := Option.bind_eq_some_iff.mp h
      obtain ⟨fs32, hf32⟩ := isO_ex hb30
      refine aw_callV C (ci := 5) (b := j29) [va_rf x23, .int (0 : Int32), .int r27.1] mv_X0_50 rfl rfl hf32 (rmX5_addPart hr31) rfl dX0_escape_215 (Nat.le_of_ble_eq_true rfl) (Nat.le_of_ble_eq_true rfl) rfl (Nat.le_of_ble_eq_true rfl) (show ((cells + 0) + 0) + 0 ≤ 0 by omega) (show ((slots + 0) + 0) + 0 ≤ 0 by omega) (fun v9 f9 n9 hh => ?_)
      obtain ⟨rfl, rfl, rfl⟩ := hh
      obtain ⟨hb33, h⟩ := ck_some h
      cases h
      exact aw_iret C rfl (nb_nar hb33) dX0_escape_218 (by omega) (by omega) ⟨rfl, rfl, rfl⟩
  · rw [if_pos q] at h
    refine aw_ald_n C dX0_escape_168 rfl ?_
    obtain ⟨x34, hx34, h⟩ := Option.bind_eq_some_iff.mp h
    refine ah_getR C gf_X0_23 hx34 dX0_escape_169 ?_
    refine aw_ald_n C dX0_escape_172 rfl ?_
    obtain ⟨x35, hx35, h⟩ := Option.bind_eq_some_iff.mp h
    refine ah_getR C gf_X0_20 hx35 dX0_escape_173 ?_
    refine aw_aload_n C dX0_escape_176 rfl (rf_or v3) ?_
    obtain ⟨j36, hj36, h⟩ := Option.bind_eq_some_iff.mp h
    rw [hj36]
    obtain ⟨x37, hx37, h⟩ := Option.bind_eq_some_iff.mp h
    refine ah_getI C gf_X0_76 hx37 dX0_escape_177 ?_
    refine aw_aload_n C dX0_escape_180 rfl (rf_or v2) ?_
    obtain ⟨j38, hj38, h⟩ := Option.bind_eq_some_iff.mp h
    rw [hj38]
    obtain ⟨x39, hx39, h⟩ := Option.bind_eq_some_iff.mp h
    refine ah_getI C gf_X0_101 hx39 dX0_escape_181 ?_
    obtain ⟨r40, hr40, h⟩ := Option.bind_eq_some_iff.mp h
    refine aw_callS C [va_rf x34, va_rf x35, .int x37, .int x39] ms_X0_97 (rmX0_addEscaped hr40) rfl dX0_escape_184 (Nat.le_of_ble_eq_true rfl) (Nat.le_of_ble_eq_true rfl) rfl (Nat.le_of_ble_eq_true rfl) (show cells + 0 ≤ 0 by omega) (show slots + 0 ≤ 0 by omega) (fun v9 f9 n9 hh => ?_)
    obtain ⟨rfl, rfl, rfl⟩ := hh
    refine aw_iconst C 1 dX0_escape_187 ki_1 ?_
    obtain ⟨hb41, h⟩ := ck_some h
    cases h
    exact aw_iret C rfl (nb_nar hb41) dX0_escape_188 (by omega) (by omega) ⟨rfl, rfl, rfl⟩
def mX0_escape_b159 (v0 : Nat) (v2 : Option Nat) (v3 : Option Nat) (v4 : Int32) (s0 : Option Nat) (s1 : Option Nat) (s2 : Int32) (f : AH) (n : Nat) : Option (Int32 × HpN) := ((mX0_addEscaped s0 s1 s2 (1 : Int32) f n).bind fun r1 => mX0_escape_b163 v0 v2 v3 v4 r1.2.1 r1.2.2)
set_option maxHeartbeats 1000000 in
theorem rmX0_escape_b159 {X : GX} {p : Program} {l : Launch} {e : Env} {s : State} {m : MethodId} {args : Array Value} {below : List Frame} {meth : Method} {c : Code} {r : Int32 × HpN} {v0 : Nat} {v2 : Option Nat} {v3 : Option Nat} {v4 : Int32} {s0 : Option Nat} {s1 : Option Nat} {s2 : Int32} {f : AH} {n cells slots : Nat} (C : CC X p l (RM 3 0 0) s m args meth c RX0 cX0_escape 6 (some .boolean)) (hc : cells + 0 ≤ 0) (hs : slots + 0 ≤ 0) (h : mX0_escape_b159 v0 v2 v3 v4 s0 s1 s2 f n = some r) : AW X p l e (RM 3 0 0) s m args below meth c 6 (ZM X below args s 0 0 (QHi r)) f n cells slots 159 [some (.ref v0), none, some (va_rf v2), some (va_rf v3), some (.int v4), none] [.int s2, va_rf s1, va_rf s0] := by
  have h : ((mX0_addEscaped s0 s1 s2 (1 : Int32) f n).bind fun r1 => mX0_escape_b163 v0 v2 v3 v4 r1.2.1 r1.2.2) = some r := h
  refine aw_iconst C 1 dX0_escape_159 ki_1 ?_
  obtain ⟨r1, hr1, h⟩ := Option.bind_eq_some_iff.mp h
  refine aw_callS C [va_rf s0, va_rf s1, .int s2, .int (1 : Int32)] ms_X0_97 (rmX0_addEscaped hr1) rfl dX0_escape_160 (Nat.le_of_ble_eq_true rfl) (Nat.le_of_ble_eq_true rfl) rfl (Nat.le_of_ble_eq_true rfl) (show cells + 0 ≤ 0 by omega) (show slots + 0 ≤ 0 by omega) (fun v9 f9 n9 hh => ?_)
  obtain ⟨rfl, rfl, rfl⟩ := hh
  refine aw_fl [some (.ref v0), none, some (va_rf v2), some (va_rf v3), some (.int v4), none] ⟨rfl, ⟨rfl, ⟨rfl, ⟨rfl, trivial⟩⟩⟩⟩ ?_
  exact rmX0_escape_b163 C (by omega) (by omega) h
def mX0_escape_b141 (v0 : Nat) (v1 : Option Nat) (v2 : Option Nat) (v3 : Option Nat) (v4 : Int32) (v5 : Int32) (f : AH) (n : Nat) : Option (Int32 × HpN) := ((gR f v0 0 2).bind fun x1 => (if v5 = (0 : Int32) then ((v3).bind fun j2 => ((gI f j2 7 2).bind fun x3 => mX0_escape_b159 v0 v2 (some j2) v4 v1 x1 x3 f n)) else mX0_escape_b159 v0 v2 v3 v4 v1 x1 (-1 : Int32) f n))
set_option maxHeartbeats 1000000 in
theorem rmX0_escape_b141 {X : GX} {p : Program} {l : Launch} {e : Env} {s : State} {m : MethodId} {args : Array Value} {below : List Frame} {meth : Method} {c : Code} {r : Int32 × HpN} {v0 : Nat} {v1 : Option Nat} {v2 : Option Nat} {v3 : Option Nat} {v4 : Int32} {v5 : Int32} {f : AH} {n cells slots : Nat} (C : CC X p l (RM 3 0 0) s m args meth c RX0 cX0_escape 6 (some .boolean)) (hc : cells + 0 ≤ 0) (hs : slots + 0 ≤ 0) (h : mX0_escape_b141 v0 v1 v2 v3 v4 v5 f n = some r) : AW X p l e (RM 3 0 0) s m args below meth c 6 (ZM X below args s 0 0 (QHi r)) f n cells slots 141 [some (.ref v0), some (va_rf v1), some (va_rf v2), some (va_rf v3), some (.int v4), some (.int v5)] [] := by
  have h : ((gR f v0 0 2).bind fun x1 => (if v5 = (0 : Int32) then ((v3).bind fun j2 => ((gI f j2 7 2).bind fun x3 => mX0_escape_b159 v0 v2 (some j2) v4 v1 x1 x3 f n)) else mX0_escape_b159 v0 v2 v3 v4 v1 x1 (-1 : Int32) f n)) = some r := h
  refine aw_aload_n C dX0_escape_141 rfl (rf_or v1) ?_
  refine aw_ald_n C dX0_escape_142 rfl ?_
  obtain ⟨x1, hx1, h⟩ := Option.bind_eq_some_iff.mp h
  refine ah_getR C gf_X0_23 hx1 dX0_escape_143 ?_
  refine aw_iload C dX0_escape_146 rfl ?_
  refine aw_if_eq C 155 dX0_escape_148 (by decide) (fun q => ?_) (fun q => ?_)
  · rw [if_pos q] at h
    refine aw_aload_n C dX0_escape_155 rfl (rf_or v3) ?_
    obtain ⟨j2, hj2, h⟩ := Option.bind_eq_some_iff.mp h
    rw [hj2]
    obtain ⟨x3, hx3, h⟩ := Option.bind_eq_some_iff.mp h
    refine ah_getI C gf_X0_83 hx3 dX0_escape_156 ?_
    refine aw_fl [some (.ref v0), none, some (va_rf v2), some (va_rf (some j2)), some (.int v4), none] ⟨rfl, ⟨rfl, ⟨rfl, ⟨rfl, trivial⟩⟩⟩⟩ ?_
    exact rmX0_escape_b159 C (by omega) (by omega) h
  · rw [if_neg q] at h
    refine aw_iconst C (-1) dX0_escape_151 ki_m1 ?_
    refine aw_goto C 159 dX0_escape_152 (by decide) ?_
    refine aw_fl [some (.ref v0), none, some (va_rf v2), some (va_rf v3), some (.int v4), none] ⟨rfl, ⟨rfl, ⟨rfl, ⟨rfl, trivial⟩⟩⟩⟩ ?_
    exact rmX0_escape_b159 C (by omega) (by omega) h
def mX0_escape_b135 (v0 : Nat) (v2 : Option Nat) (v3 : Option Nat) (v4 : Int32) (s0 : Nat) (s1 : Int32) (f : AH) (n : Nat) : Option (Int32 × HpN) := ((pO f s0 0 3 (.int s1)).bind fun f1 => mX0_escape_b163 v0 v2 v3 v4 f1 n)
set_option maxHeartbeats 1000000 in
theorem rmX0_escape_b135 {X : GX} {p : Program} {l : Launch} {e : Env} {s : State} {m : MethodId} {args : Array Value} {below : List Frame} {meth : Method} {c : Code} {r : Int32 × HpN} {v0 : Nat} {v2 : Option Nat} {v3 : Option Nat} {v4 : Int32} {s0 : Nat} {s1 : Int32} {f : AH} {n cells slots : Nat} (C : CC X p l (RM 3 0 0) s m args meth c RX0 cX0_escape 6 (some .boolean)) (hc : cells + 0 ≤ 0) (hs : slots + 0 ≤ 0) (h : mX0_escape_b135 v0 v2 v3 v4 s0 s1 f n = some r) : AW X p l e (RM 3 0 0) s m args below meth c 6 (ZM X below args s 0 0 (QHi r)) f n cells slots 135 [some (.ref v0), none, some (va_rf v2), some (va_rf v3), some (.int v4), none] [.int s1, .ref s0] := by
  have h : ((pO f s0 0 3 (.int s1)).bind fun f1 => mX0_escape_b163 v0 v2 v3 v4 f1 n) = some r := h
  obtain ⟨f1, hf1, h⟩ := Option.bind_eq_some_iff.mp h
  refine ah_put C gf_X0_72 cf0 nf0_3 rfl rfl hf1 dX0_escape_135 ?_
  refine aw_goto C 163 dX0_escape_138 (by decide) ?_
  refine aw_fl [some (.ref v0), none, some (va_rf v2), some (va_rf v3), some (.int v4), none] ⟨rfl, ⟨rfl, ⟨rfl, ⟨rfl, trivial⟩⟩⟩⟩ ?_
  exact rmX0_escape_b163 C (by omega) (by omega) h
def mX0_escape_b130 (v0 : Nat) (v2 : Option Nat) (v3 : Option Nat) (v4 : Int32) (s0 : Nat) (f : AH) (n : Nat) : Option (Int32 × HpN) := mX0_escape_b135 v0 v2 v3 v4 s0 (2 : Int32) f n
set_option maxHeartbeats 1000000 in
theorem rmX0_escape_b130 {X : GX} {p : Program} {l : Launch} {e : Env} {s : State} {m : MethodId} {args : Array Value} {below : List Frame} {meth : Method} {c : Code} {r : Int32 × HpN} {v0 : Nat} {v2 : Option Nat} {v3 : Option Nat} {v4 : Int32} {s0 : Nat} {f : AH} {n cells slots : Nat} (C : CC X p l (RM 3 0 0) s m args meth c RX0 cX0_escape 6 (some .boolean)) (hc : cells + 0 ≤ 0) (hs : slots + 0 ≤ 0) (h : mX0_escape_b130 v0 v2 v3 v4 s0 f n = some r) : AW X p l e (RM 3 0 0) s m args below meth c 6 (ZM X below args s 0 0 (QHi r)) f n cells slots 130 [some (.ref v0), none, some (va_rf v2), some (va_rf v3), some (.int v4), none] [.ref s0] := by
  have h : mX0_escape_b135 v0 v2 v3 v4 s0 (2 : Int32) f n = some r := h
  refine aw_iconst C 2 dX0_escape_130 ki_2 ?_
  refine aw_goto C 135 dX0_escape_131 (by decide) ?_
  refine aw_fl [some (.ref v0), none, some (va_rf v2), some (va_rf v3), some (.int v4), none] ⟨rfl, ⟨rfl, ⟨rfl, ⟨rfl, trivial⟩⟩⟩⟩ ?_
  exact rmX0_escape_b135 C (by omega) (by omega) h
def mX0_escape_b69 (v0 : Nat) (v1 : Option Nat) (v2 : Option Nat) (v3 : Option Nat) (v4 : Int32) (s0 : Int32) (f : AH) (n : Nat) : Option (Int32 × HpN) := (if s0 = (0 : Int32) then mX0_escape_b141 v0 v1 v2 v3 v4 s0 f n else ((v1).bind fun j1 => rCk (isO f j1 5) (((mX5_breaksCell j1 f n).bind fun r3 => (if r3.1 = (0 : Int32) then mX0_escape_b141 v0 (some j1) v2 v3 v4 s0 r3.2.1 r3.2.2 else ((gR r3.2.1 v0 0 2).bind fun x5 => ((x5).bind fun j6 => rCk (isO r3.2.1 j6 5) (((mX5_add j6 (34 : Int32) r3.2.1 r3.2.2).bind fun r8 => ((gR r8.2.1 v0 0 2).bind fun x10 => ((mX0_addEscaped (some j1) x10 (1 : Int32) (0 : Int32) r8.2.1 r8.2.2).bind fun r11 => ((gR r11.2.1 v0 0 2).bind fun x12 => ((x12).bind fun j13 => rCk (isO r11.2.1 j13 5) (((mX5_add j13 (34 : Int32) r11.2.1 r11.2.2).bind fun r15 => ((v3).bind fun j17 => ((gI r15.2.1 j17 7 1).bind fun x18 => (if x18 = (1 : Int32) then mX0_escape_b130 v0 v2 (some j17) v4 v0 r15.2.1 r15.2.2 else ((gI r15.2.1 j17 7 1).bind fun x19 => (if x19 = (3 : Int32) then mX0_escape_b130 v0 v2 (some j17) v4 v0 r15.2.1 r15.2.2 else mX0_escape_b135 v0 v2 (some j17) v4 v0 (1 : Int32) r15.2.1 r15.2.2))))))))))))))))))))
set_option maxHeartbeats 1000000 in
theorem rmX0_escape_b69 {X : GX} {p : Program} {l : Launch} {e : Env} {s : State} {m : MethodId} {args : Array Value} {below : List Frame} {meth : Method} {c : Code} {r : Int32 × HpN} {v0 : Nat} {v1 : Option Nat} {v2 : Option Nat} {v3 : Option Nat} {v4 : Int32} {s0 : Int32} {f : AH} {n cells slots : Nat} (C : CC X p l (RM 3 0 0) s m args meth c RX0 cX0_escape 6 (some .boolean)) (hc : cells + 0 ≤ 0) (hs : slots + 0 ≤ 0) (h : mX0_escape_b69 v0 v1 v2 v3 v4 s0 f n = some r) : AW X p l e (RM 3 0 0) s m args below meth c 6 (ZM X below args s 0 0 (QHi r)) f n cells slots 69 [some (.ref v0), some (va_rf v1), some (va_rf v2), some (va_rf v3), some (.int v4), none] [.int s0] := by
  have h : (if s0 = (0 : Int32) then mX0_escape_b141 v0 v1 v2 v3 v4 s0 f n else ((v1).bind fun j1 => rCk (isO f j1 5) (((mX5_breaksCell j1 f n).bind fun r3 => (if r3.1 = (0 : Int32) then mX0_escape_b141 v0 (some j1) v2 v3 v4 s0 r3.2.1 r3.2.2 else ((gR r3.2.1 v0 0 2).bind fun x5 => ((x5).bind fun j6 => rCk (isO r3.2.1 j6 5) (((mX5_add j6 (34 : Int32) r3.2.1 r3.2.2).bind fun r8 => ((gR r8.2.1 v0 0 2).bind fun x10 => ((mX0_addEscaped (some j1) x10 (1 : Int32) (0 : Int32) r8.2.1 r8.2.2).bind fun r11 => ((gR r11.2.1 v0 0 2).bind fun x12 => ((x12).bind fun j13 => rCk (isO r11.2.1 j13 5) (((mX5_add j13 (34 : Int32) r11.2.1 r11.2.2).bind fun r15 => ((v3).bind fun j17 => ((gI r15.2.1 j17 7 1).bind fun x18 => (if x18 = (1 : Int32) then mX0_escape_b130 v0 v2 (some j17) v4 v0 r15.2.1 r15.2.2 else ((gI r15.2.1 j17 7 1).bind fun x19 => (if x19 = (3 : Int32) then mX0_escape_b130 v0 v2 (some j17) v4 v0 r15.2.1 r15.2.2 else mX0_escape_b135 v0 v2 (some j17) v4 v0 (1 : Int32) r15.2.1 r15.2.2)))))))))))))))))))) = some r := h
  refine aw_istore C dX0_escape_69 (by decide) rfl ?_
  refine aw_nl [some (.ref v0), some (va_rf v1), some (va_rf v2), some (va_rf v3), some (.int v4), some (.int s0)] rfl ?_
  refine aw_iload C dX0_escape_71 rfl ?_
  refine aw_if_eq C 141 dX0_escape_73 (by decide) (fun q => ?_) (fun q => ?_)
  · rw [if_pos q] at h
    refine aw_fl [some (.ref v0), some (va_rf v1), some (va_rf v2), some (va_rf v3), some (.int v4), some (.int s0)] ⟨rfl, ⟨rfl, ⟨rfl, ⟨rfl, ⟨rfl, ⟨rfl, trivial⟩⟩⟩⟩⟩⟩ ?_
    exact rmX0_escape_b141 C (by omega) (by omega) h
  · rw [if_neg q] at h
    refine aw_aload_n C dX0_escape_76 rfl (rf_or v1) ?_
    obtain ⟨j1, hj1, h⟩ := Option.bind_eq_some_iff.mp h
    rw [hj1]
    obtain ⟨hb2, h⟩ := ck_some h
    obtain ⟨r3, hr3, h⟩ := Option.bind_eq_some_iff.mp h
    obtain ⟨fs4, hf4⟩ := isO_ex hb2
    refine aw_callV C (ci := 5) (b := j1) [] mv_X0_89 rfl rfl hf4 (rmX5_breaksCell hr3) rfl dX0_escape_77 (Nat.le_of_ble_eq_true rfl) (Nat.le_of_ble_eq_true rfl) rfl (Nat.le_of_ble_eq_true rfl) (show cells + 0 ≤ 0 by omega) (show slots + 0 ≤ 0 by omega) (fun v9 f9 n9 hh => ?_)
    obtain ⟨rfl, rfl, rfl⟩ := hh
    refine aw_if_eq C 141 dX0_escape_80 (by decide) (fun q => ?_) (fun q => ?_)
    · rw [if_pos q] at h
      refine aw_fl [some (.ref v0), some (va_rf (some j1)), some (va_rf v2), some (va_rf v3), some (.int v4), some (.int s0)] ⟨rfl, ⟨rfl, ⟨rfl, ⟨rfl, ⟨rfl, ⟨rfl, trivial⟩⟩⟩⟩⟩⟩ ?_
      exact rmX0_escape_b141 C (by omega) (by omega) h
    · rw [if_neg q] at h
      refine aw_ald_n C dX0_escape_83 rfl ?_
      obtain ⟨x5, hx5, h⟩ := Option.bind_eq_some_iff.mp h
      refine ah_getR C gf_X0_23 hx5 dX0_escape_84 ?_
      refine aw_bipush C 34 dX0_escape_87 kb_34 ?_
      obtain ⟨j6, hj6, h⟩ := Option.bind_eq_some_iff.mp h
      rw [hj6]
      obtain ⟨hb7, h⟩ := ck_some h
      obtain ⟨r8, hr8, h⟩ := Option.bind_eq_some_iff.mp h
      obtain ⟨fs9, hf9⟩ := isO_ex hb7
      refine aw_callV C (ci := 5) (b := j6) [.int (34 : Int32)] mv_X0_93 rfl rfl hf9 (rmX5_add hr8) rfl dX0_escape_89 (Nat.le_of_ble_eq_true rfl) (Nat.le_of_ble_eq_true rfl) rfl (Nat.le_of_ble_eq_true rfl) (show (cells + 0) + 0 ≤ 0 by omega) (show (slots + 0) + 0 ≤ 0 by omega) (fun v9 f9 n9 hh => ?_)
      obtain ⟨rfl, rfl, rfl⟩ := hh
      refine aw_pop C dX0_escape_92 rfl ?_
      refine aw_ald_n C dX0_escape_93 rfl ?_
      refine aw_ald_n C dX0_escape_94 rfl ?_
      obtain ⟨x10, hx10, h⟩ := Option.bind_eq_some_iff.mp h
      refine ah_getR C gf_X0_23 hx10 dX0_escape_95 ?_
      refine aw_iconst C 1 dX0_escape_98 ki_1 ?_
      refine aw_iconst C 0 dX0_escape_99 ki_0 ?_
      obtain ⟨r11, hr11, h⟩ := Option.bind_eq_some_iff.mp h
      refine aw_callS C [.ref j1, va_rf x10, .int (1 : Int32), .int (0 : Int32)] ms_X0_97 (rmX0_addEscaped hr11) rfl dX0_escape_100 (Nat.le_of_ble_eq_true rfl) (Nat.le_of_ble_eq_true rfl) rfl (Nat.le_of_ble_eq_true rfl) (show ((cells + 0) + 0) + 0 ≤ 0 by omega) (show ((slots + 0) + 0) + 0 ≤ 0 by omega) (fun v9 f9 n9 hh => ?_)
      obtain ⟨rfl, rfl, rfl⟩ := hh
      refine aw_ald_n C dX0_escape_103 rfl ?_
      obtain ⟨x12, hx12, h⟩ := Option.bind_eq_some_iff.mp h
      refine ah_getR C gf_X0_23 hx12 dX0_escape_104 ?_
      refine aw_bipush C 34 dX0_escape_107 kb_34 ?_
      obtain ⟨j13, hj13, h⟩ := Option.bind_eq_some_iff.mp h
      rw [hj13]
      obtain ⟨hb14, h⟩ := ck_some h
      obtain ⟨r15, hr15, h⟩ := Option.bind_eq_some_iff.mp h
      obtain ⟨fs16, hf16⟩ := isO_ex hb14
      refine aw_callV C (ci := 5) (b := j13) [.int (34 : Int32)] mv_X0_93 rfl rfl hf16 (rmX5_add hr15) rfl dX0_escape_109 (Nat.le_of_ble_eq_true rfl) (Nat.le_of_ble_eq_true rfl) rfl (Nat.le_of_ble_eq_true rfl) (show (((cells + 0) + 0) + 0) + 0 ≤ 0 by omega) (show (((slots + 0) + 0) + 0) + 0 ≤ 0 by omega) (fun v9 f9 n9 hh => ?_)
      obtain ⟨rfl, rfl, rfl⟩ := hh
      refine aw_pop C dX0_escape_112 rfl ?_
      refine aw_ald_n C dX0_escape_113 rfl ?_
      refine aw_aload_n C dX0_escape_114 rfl (rf_or v3) ?_
      obtain ⟨j17, hj17, h⟩ := Option.bind_eq_some_iff.mp h
      rw [hj17]
      obtain ⟨x18, hx18, h⟩ := Option.bind_eq_some_iff.mp h
      refine ah_getI C gf_X0_76 hx18 dX0_escape_115 ?_
      refine aw_iconst C 1 dX0_escape_118 ki_1 ?_
      refine aw_icmp_eq C 130 dX0_escape_119 (by decide) (fun q => ?_) (fun q => ?_)
      · rw [if_pos q] at h
        refine aw_fl [some (.ref v0), none, some (va_rf v2), some (va_rf (some j17)), some (.int v4), none] ⟨rfl, ⟨rfl, ⟨rfl, ⟨rfl, trivial⟩⟩⟩⟩ ?_
        exact rmX0_escape_b130 C (by omega) (by omega) h
      · rw [if_neg q] at h
        refine aw_ald_n C dX0_escape_122 rfl ?_
        obtain ⟨x19, hx19, h⟩ := Option.bind_eq_some_iff.mp h
        refine ah_getI C gf_X0_76 hx19 dX0_escape_123 ?_
        refine aw_iconst C 3 dX0_escape_126 ki_3 ?_
        refine aw_icmp_ne C 134 dX0_escape_127 (by decide) (fun q => ?_) (fun q => ?_)
        · rw [if_neg q] at h
          refine aw_iconst C 1 dX0_escape_134 ki_1 ?_
          refine aw_fl [some (.ref v0), none, some (va_rf v2), some (va_rf (some j17)), some (.int v4), none] ⟨rfl, ⟨rfl, ⟨rfl, ⟨rfl, trivial⟩⟩⟩⟩ ?_
          exact rmX0_escape_b135 C (by omega) (by omega) h
        · rw [if_pos q] at h
          refine aw_fl [some (.ref v0), none, some (va_rf v2), some (va_rf (some j17)), some (.int v4), none] ⟨rfl, ⟨rfl, ⟨rfl, ⟨rfl, trivial⟩⟩⟩⟩ ?_
          exact rmX0_escape_b130 C (by omega) (by omega) h
def mX0_escape_b68 (v0 : Nat) (v1 : Option Nat) (v2 : Option Nat) (v3 : Option Nat) (v4 : Int32) (f : AH) (n : Nat) : Option (Int32 × HpN) := mX0_escape_b69 v0 v1 v2 v3 v4 (0 : Int32) f n
set_option maxHeartbeats 1000000 in
theorem rmX0_escape_b68 {X : GX} {p : Program} {l : Launch} {e : Env} {s : State} {m : MethodId} {args : Array Value} {below : List Frame} {meth : Method} {c : Code} {r : Int32 × HpN} {v0 : Nat} {v1 : Option Nat} {v2 : Option Nat} {v3 : Option Nat} {v4 : Int32} {f : AH} {n cells slots : Nat} (C : CC X p l (RM 3 0 0) s m args meth c RX0 cX0_escape 6 (some .boolean)) (hc : cells + 0 ≤ 0) (hs : slots + 0 ≤ 0) (h : mX0_escape_b68 v0 v1 v2 v3 v4 f n = some r) : AW X p l e (RM 3 0 0) s m args below meth c 6 (ZM X below args s 0 0 (QHi r)) f n cells slots 68 [some (.ref v0), some (va_rf v1), some (va_rf v2), some (va_rf v3), some (.int v4), none] [] := by
  have h : mX0_escape_b69 v0 v1 v2 v3 v4 (0 : Int32) f n = some r := h
  refine aw_iconst C 0 dX0_escape_68 ki_0 ?_
  refine aw_fl [some (.ref v0), some (va_rf v1), some (va_rf v2), some (va_rf v3), some (.int v4), none] ⟨rfl, ⟨rfl, ⟨rfl, ⟨rfl, ⟨rfl, trivial⟩⟩⟩⟩⟩ ?_
  exact rmX0_escape_b69 C (by omega) (by omega) h
def mX0_escape_b47 (v0 : Nat) (v1 : Option Nat) (v2 : Option Nat) (v3 : Option Nat) (s0 : Int32) (f : AH) (n : Nat) : Option (Int32 × HpN) := ((v3).bind fun j1 => ((gI f j1 7 2).bind fun x2 => (if x2 = (1 : Int32) then ((v2).bind fun j3 => ((gI f j3 3 7).bind fun x4 => (if x4 = (0 : Int32) then mX0_escape_b69 v0 v1 (some j3) (some j1) s0 (1 : Int32) f n else mX0_escape_b68 v0 v1 (some j3) (some j1) s0 f n))) else mX0_escape_b68 v0 v1 v2 (some j1) s0 f n)))
set_option maxHeartbeats 1000000 in
theorem rmX0_escape_b47 {X : GX} {p : Program} {l : Launch} {e : Env} {s : State} {m : MethodId} {args : Array Value} {below : List Frame} {meth : Method} {c : Code} {r : Int32 × HpN} {v0 : Nat} {v1 : Option Nat} {v2 : Option Nat} {v3 : Option Nat} {s0 : Int32} {f : AH} {n cells slots : Nat} (C : CC X p l (RM 3 0 0) s m args meth c RX0 cX0_escape 6 (some .boolean)) (hc : cells + 0 ≤ 0) (hs : slots + 0 ≤ 0) (h : mX0_escape_b47 v0 v1 v2 v3 s0 f n = some r) : AW X p l e (RM 3 0 0) s m args below meth c 6 (ZM X below args s 0 0 (QHi r)) f n cells slots 47 [some (.ref v0), some (va_rf v1), some (va_rf v2), some (va_rf v3), none, none] [.int s0] := by
  have h : ((v3).bind fun j1 => ((gI f j1 7 2).bind fun x2 => (if x2 = (1 : Int32) then ((v2).bind fun j3 => ((gI f j3 3 7).bind fun x4 => (if x4 = (0 : Int32) then mX0_escape_b69 v0 v1 (some j3) (some j1) s0 (1 : Int32) f n else mX0_escape_b68 v0 v1 (some j3) (some j1) s0 f n))) else mX0_escape_b68 v0 v1 v2 (some j1) s0 f n))) = some r := h
  refine aw_istore C dX0_escape_47 (by decide) (ok_rf 3 rfl) ?_
  refine aw_nl [some (.ref v0), some (va_rf v1), some (va_rf v2), some (va_rf v3), some (.int s0), none] rfl ?_
  refine aw_aload_n C dX0_escape_49 rfl (rf_or v3) ?_
  obtain ⟨j1, hj1, h⟩ := Option.bind_eq_some_iff.mp h
  rw [hj1]
  obtain ⟨x2, hx2, h⟩ := Option.bind_eq_some_iff.mp h
  refine ah_getI C gf_X0_83 hx2 dX0_escape_50 ?_
  refine aw_iconst C 1 dX0_escape_53 ki_1 ?_
  refine aw_icmp_ne C 68 dX0_escape_54 (by decide) (fun q => ?_) (fun q => ?_)
  · rw [if_neg q] at h
    refine aw_fl [some (.ref v0), some (va_rf v1), some (va_rf v2), some (va_rf (some j1)), some (.int s0), none] ⟨rfl, ⟨rfl, ⟨rfl, ⟨rfl, ⟨rfl, trivial⟩⟩⟩⟩⟩ ?_
    exact rmX0_escape_b68 C (by omega) (by omega) h
  · rw [if_pos q] at h
    refine aw_aload_n C dX0_escape_57 rfl (rf_or v2) ?_
    obtain ⟨j3, hj3, h⟩ := Option.bind_eq_some_iff.mp h
    rw [hj3]
    obtain ⟨x4, hx4, h⟩ := Option.bind_eq_some_iff.mp h
    refine ah_getI C gf_X0_86 hx4 dX0_escape_58 ?_
    refine aw_if_ne C 68 dX0_escape_61 (by decide) (fun q => ?_) (fun q => ?_)
    · rw [if_neg q] at h
      refine aw_fl [some (.ref v0), some (va_rf v1), some (va_rf (some j3)), some (va_rf (some j1)), some (.int s0), none] ⟨rfl, ⟨rfl, ⟨rfl, ⟨rfl, ⟨rfl, trivial⟩⟩⟩⟩⟩ ?_
      exact rmX0_escape_b68 C (by omega) (by omega) h
    · rw [if_pos q] at h
      refine aw_iconst C 1 dX0_escape_64 ki_1 ?_
      refine aw_goto C 69 dX0_escape_65 (by decide) ?_
      refine aw_fl [some (.ref v0), some (va_rf v1), some (va_rf (some j3)), some (va_rf (some j1)), some (.int s0), none] ⟨rfl, ⟨rfl, ⟨rfl, ⟨rfl, ⟨rfl, trivial⟩⟩⟩⟩⟩ ?_
      exact rmX0_escape_b69 C (by omega) (by omega) h
def mX0_escape_b46 (v0 : Nat) (v1 : Option Nat) (v2 : Option Nat) (v3 : Option Nat) (f : AH) (n : Nat) : Option (Int32 × HpN) := mX0_escape_b47 v0 v1 v2 v3 (0 : Int32) f n
set_option maxHeartbeats 1000000 in
theorem rmX0_escape_b46 {X : GX} {p : Program} {l : Launch} {e : Env} {s : State} {m : MethodId} {args : Array Value} {below : List Frame} {meth : Method} {c : Code} {r : Int32 × HpN} {v0 : Nat} {v1 : Option Nat} {v2 : Option Nat} {v3 : Option Nat} {f : AH} {n cells slots : Nat} (C : CC X p l (RM 3 0 0) s m args meth c RX0 cX0_escape 6 (some .boolean)) (hc : cells + 0 ≤ 0) (hs : slots + 0 ≤ 0) (h : mX0_escape_b46 v0 v1 v2 v3 f n = some r) : AW X p l e (RM 3 0 0) s m args below meth c 6 (ZM X below args s 0 0 (QHi r)) f n cells slots 46 [some (.ref v0), some (va_rf v1), some (va_rf v2), some (va_rf v3), none, none] [] := by
  have h : mX0_escape_b47 v0 v1 v2 v3 (0 : Int32) f n = some r := h
  refine aw_iconst C 0 dX0_escape_46 ki_0 ?_
  refine aw_fl [some (.ref v0), some (va_rf v1), some (va_rf v2), some (va_rf v3), none, none] ⟨rfl, ⟨rfl, ⟨rfl, ⟨rfl, trivial⟩⟩⟩⟩ ?_
  exact rmX0_escape_b47 C (by omega) (by omega) h
def mX0_escape (v0 : Nat) (v1 : Option Nat) (v2 : Option Nat) (v3 : Option Nat) (f : AH) (n : Nat) : Option (Int32 × HpN) := (oN v2 (rCk (rNb (0 : Int32)) (some ((0 : Int32), (f, n)))) (fun j1 => ((pO f v0 0 3 (.int (0 : Int32))).bind fun f3 => ((gR f3 v0 0 2).bind fun x4 => ((x4).bind fun j5 => rCk (isO f3 j5 5) (((mX5_cutTo j5 (0 : Int32) f3 n).bind fun r7 => ((gR r7.2.1 v0 0 1).bind fun x9 => ((x9).bind fun j10 => rCk (isO r7.2.1 j10 5) (((mX5_cutTo j10 (0 : Int32) r7.2.1 r7.2.2).bind fun r12 => ((v3).bind fun j14 => ((gI r12.2.1 j14 7 1).bind fun x15 => (if x15 = (1 : Int32) then ((gI r12.2.1 j1 3 6).bind fun x16 => (if x16 = (0 : Int32) then mX0_escape_b47 v0 v1 (some j1) (some j14) (1 : Int32) r12.2.1 r12.2.2 else mX0_escape_b46 v0 v1 (some j1) (some j14) r12.2.1 r12.2.2)) else mX0_escape_b46 v0 v1 (some j1) (some j14) r12.2.1 r12.2.2))))))))))))))
set_option maxHeartbeats 1000000 in
theorem rmX0_escape {X : GX} {l : Launch} {r : Int32 × HpN} {v0 : Nat} {v1 : Option Nat} {v2 : Option Nat} {v3 : Option Nat} {f : AH} {n : Nat} (h : mX0_escape v0 v1 v2 v3 f n = some r) : AM X l yX0_escape cX0_escape 6 (some .boolean) 3 0 0 [.ref v0, va_rf v1, va_rf v2, va_rf v3] f n (QHi r) := by
  have h : (oN v2 (rCk (rNb (0 : Int32)) (some ((0 : Int32), (f, n)))) (fun j1 => ((pO f v0 0 3 (.int (0 : Int32))).bind fun f3 => ((gR f3 v0 0 2).bind fun x4 => ((x4).bind fun j5 => rCk (isO f3 j5 5) (((mX5_cutTo j5 (0 : Int32) f3 n).bind fun r7 => ((gR r7.2.1 v0 0 1).bind fun x9 => ((x9).bind fun j10 => rCk (isO r7.2.1 j10 5) (((mX5_cutTo j10 (0 : Int32) r7.2.1 r7.2.2).bind fun r12 => ((v3).bind fun j14 => ((gI r12.2.1 j14 7 1).bind fun x15 => (if x15 = (1 : Int32) then ((gI r12.2.1 j1 3 6).bind fun x16 => (if x16 = (0 : Int32) then mX0_escape_b47 v0 v1 (some j1) (some j14) (1 : Int32) r12.2.1 r12.2.2 else mX0_escape_b46 v0 v1 (some j1) (some j14) r12.2.1 r12.2.2)) else mX0_escape_b46 v0 v1 (some j1) (some j14) r12.2.1 r12.2.2)))))))))))))) = some r := h
  refine AM.of (by decide +kernel) (all1 rfl (all1 (rf_cat _) (all1 (rf_cat _) (all1 (rf_cat _) rfl)))) (Nat.le_of_ble_eq_true rfl) (fun p e s m args below meth c C hnm => ?_)
  refine aw_nl [some (.ref v0), some (va_rf v1), some (va_rf v2), some (va_rf v3), none, none] rfl ?_
  refine aw_aload_n C dX0_escape_0 rfl (rf_or v2) ?_
  cases v2 with
  | none =>
    replace h : rCk (rNb (0 : Int32)) (some ((0 : Int32), (f, n))) = some r := h
    refine aw_ifnonnull_n C 6 dX0_escape_1 (by decide) ?_
    refine aw_iconst C 0 dX0_escape_4 ki_0 ?_
    obtain ⟨hb2, h⟩ := ck_some h
    cases h
    exact aw_iret C rfl (nb_nar hb2) dX0_escape_5 (by omega) (by omega) ⟨rfl, rfl, rfl⟩
  | some j1 =>
    replace h : ((pO f v0 0 3 (.int (0 : Int32))).bind fun f3 => ((gR f3 v0 0 2).bind fun x4 => ((x4).bind fun j5 => rCk (isO f3 j5 5) (((mX5_cutTo j5 (0 : Int32) f3 n).bind fun r7 => ((gR r7.2.1 v0 0 1).bind fun x9 => ((x9).bind fun j10 => rCk (isO r7.2.1 j10 5) (((mX5_cutTo j10 (0 : Int32) r7.2.1 r7.2.2).bind fun r12 => ((v3).bind fun j14 => ((gI r12.2.1 j14 7 1).bind fun x15 => (if x15 = (1 : Int32) then ((gI r12.2.1 j1 3 6).bind fun x16 => (if x16 = (0 : Int32) then mX0_escape_b47 v0 v1 (some j1) (some j14) (1 : Int32) r12.2.1 r12.2.2 else mX0_escape_b46 v0 v1 (some j1) (some j14) r12.2.1 r12.2.2)) else mX0_escape_b46 v0 v1 (some j1) (some j14) r12.2.1 r12.2.2)))))))))))) = some r := h
    refine aw_ifnonnull_r C 6 dX0_escape_1 (by decide) ?_
    refine aw_ald_n C dX0_escape_6 rfl ?_
    refine aw_iconst C 0 dX0_escape_7 ki_0 ?_
    obtain ⟨f3, hf3, h⟩ := Option.bind_eq_some_iff.mp h
    refine ah_put C gf_X0_72 cf0 nf0_3 rfl rfl hf3 dX0_escape_8 ?_
    refine aw_ald_n C dX0_escape_11 rfl ?_
    obtain ⟨x4, hx4, h⟩ := Option.bind_eq_some_iff.mp h
    refine ah_getR C gf_X0_23 hx4 dX0_escape_12 ?_
    refine aw_iconst C 0 dX0_escape_15 ki_0 ?_
    obtain ⟨j5, hj5, h⟩ := Option.bind_eq_some_iff.mp h
    rw [hj5]
    obtain ⟨hb6, h⟩ := ck_some h
    obtain ⟨r7, hr7, h⟩ := Option.bind_eq_some_iff.mp h
    obtain ⟨fs8, hf8⟩ := isO_ex hb6
    refine aw_callV C (ci := 5) (b := j5) [.int (0 : Int32)] mv_X0_26 rfl rfl hf8 (rmX5_cutTo hr7) rfl dX0_escape_16 (Nat.le_of_ble_eq_true rfl) (Nat.le_of_ble_eq_true rfl) rfl (Nat.le_of_ble_eq_true rfl) (show 0 + 0 ≤ 0 by omega) (show 0 + 0 ≤ 0 by omega) (fun v9 f9 n9 hh => ?_)
    obtain ⟨rfl, rfl, rfl⟩ := hh
    refine aw_ald_n C dX0_escape_19 rfl ?_
    obtain ⟨x9, hx9, h⟩ := Option.bind_eq_some_iff.mp h
    refine ah_getR C gf_X0_20 hx9 dX0_escape_20 ?_
    refine aw_iconst C 0 dX0_escape_23 ki_0 ?_
    obtain ⟨j10, hj10, h⟩ := Option.bind_eq_some_iff.mp h
    rw [hj10]
    obtain ⟨hb11, h⟩ := ck_some h
    obtain ⟨r12, hr12, h⟩ := Option.bind_eq_some_iff.mp h
    obtain ⟨fs13, hf13⟩ := isO_ex hb11
    refine aw_callV C (ci := 5) (b := j10) [.int (0 : Int32)] mv_X0_26 rfl rfl hf13 (rmX5_cutTo hr12) rfl dX0_escape_24 (Nat.le_of_ble_eq_true rfl) (Nat.le_of_ble_eq_true rfl) rfl (Nat.le_of_ble_eq_true rfl) (show (0 + 0) + 0 ≤ 0 by omega) (show (0 + 0) + 0 ≤ 0 by omega) (fun v9 f9 n9 hh => ?_)
    obtain ⟨rfl, rfl, rfl⟩ := hh
    refine aw_aload_n C dX0_escape_27 rfl (rf_or v3) ?_
    obtain ⟨j14, hj14, h⟩ := Option.bind_eq_some_iff.mp h
    rw [hj14]
    obtain ⟨x15, hx15, h⟩ := Option.bind_eq_some_iff.mp h
    refine ah_getI C gf_X0_76 hx15 dX0_escape_28 ?_
    refine aw_iconst C 1 dX0_escape_31 ki_1 ?_
    refine aw_icmp_ne C 46 dX0_escape_32 (by decide) (fun q => ?_) (fun q => ?_)
    · rw [if_neg q] at h
      refine aw_fl [some (.ref v0), some (va_rf v1), some (va_rf (some j1)), some (va_rf (some j14)), none, none] ⟨rfl, ⟨rfl, ⟨rfl, ⟨rfl, trivial⟩⟩⟩⟩ ?_
      exact rmX0_escape_b46 C (by omega) (by omega) h
    · rw [if_pos q] at h
      refine aw_ald_n C dX0_escape_35 rfl ?_
      obtain ⟨x16, hx16, h⟩ := Option.bind_eq_some_iff.mp h
      refine ah_getI C gf_X0_79 hx16 dX0_escape_36 ?_
      refine aw_if_ne C 46 dX0_escape_39 (by decide) (fun q => ?_) (fun q => ?_)
      · rw [if_neg q] at h
        refine aw_fl [some (.ref v0), some (va_rf v1), some (va_rf (some j1)), some (va_rf (some j14)), none, none] ⟨rfl, ⟨rfl, ⟨rfl, ⟨rfl, trivial⟩⟩⟩⟩ ?_
        exact rmX0_escape_b46 C (by omega) (by omega) h
      · rw [if_pos q] at h
        refine aw_iconst C 1 dX0_escape_42 ki_1 ?_
        refine aw_goto C 47 dX0_escape_43 (by decide) ?_
        refine aw_fl [some (.ref v0), some (va_rf v1), some (va_rf (some j1)), some (va_rf (some j14)), none, none] ⟨rfl, ⟨rfl, ⟨rfl, ⟨rfl, trivial⟩⟩⟩⟩ ?_
        exact rmX0_escape_b47 C (by omega) (by omega) h
