/-! part 32ag.cls -/
section
def mX0_addInQuotes_b55 (s0 : Option Nat) (s1 : Int32) (f : AH) (n : Nat) : Option (Int32 × HpN) := ((s0).bind fun j1 => rCk (isO f j1 5) (((mX5_add j1 s1 f n).bind fun r3 => some ((0 : Int32), (r3.2.1, r3.2.2)))))
set_option maxHeartbeats 1000000 in
theorem rmX0_addInQuotes_b55 {X : GX} {p : Program} {l : Launch} {e : Env} {s : State} {m : MethodId} {args : Array Value} {below : List Frame} {meth : Method} {c : Code} {r : Int32 × HpN} {s0 : Option Nat} {s1 : Int32} {f : AH} {n cells slots : Nat} (C : CC X p l (RM 1 0 0) s m args meth c RX0 cX0_addInQuotes 2 none) (hc : cells + 0 ≤ 0) (hs : slots + 0 ≤ 0) (h : mX0_addInQuotes_b55 s0 s1 f n = some r) : AW X p l e (RM 1 0 0) s m args below meth c 2 (ZM X below args s 0 0 (QHv r)) f n cells slots 55 [none, none] [.int s1, va_rf s0] := by
  have h : ((s0).bind fun j1 => rCk (isO f j1 5) (((mX5_add j1 s1 f n).bind fun r3 => some ((0 : Int32), (r3.2.1, r3.2.2))))) = some r := h
  obtain ⟨j1, hj1, h⟩ := Option.bind_eq_some_iff.mp h
  rw [hj1]
  obtain ⟨hb2, h⟩ := ck_some h
  obtain ⟨r3, hr3, h⟩ := Option.bind_eq_some_iff.mp h
  obtain ⟨fs4, hf4⟩ := isO_ex hb2
  refine aw_callV C (ci := 5) (b := j1) [.int s1] mv_X0_93 rfl rfl hf4 (rmX5_add hr3) rfl dX0_addInQuotes_55 (Nat.le_of_ble_eq_true rfl) (Nat.le_of_ble_eq_true rfl) rfl (Nat.le_of_ble_eq_true rfl) (show cells + 0 ≤ 0 by omega) (show slots + 0 ≤ 0 by omega) (fun v9 f9 n9 hh => ?_)
  obtain ⟨rfl, rfl, rfl⟩ := hh
  refine aw_pop C dX0_addInQuotes_58 rfl ?_
  cases h
  exact aw_vret C rfl dX0_addInQuotes_59 (by omega) (by omega) ⟨rfl, rfl, rfl⟩
def mX0_addInQuotes_b31 (v0 : Int32) (v1 : Option Nat) (f : AH) (n : Nat) : Option (Int32 × HpN) := (if v0 = (10 : Int32) then mX0_addInQuotes_b55 v1 (110 : Int32) f n else (if v0 = (9 : Int32) then mX0_addInQuotes_b55 v1 (116 : Int32) f n else mX0_addInQuotes_b55 v1 v0 f n))
set_option maxHeartbeats 1000000 in
theorem rmX0_addInQuotes_b31 {X : GX} {p : Program} {l : Launch} {e : Env} {s : State} {m : MethodId} {args : Array Value} {below : List Frame} {meth : Method} {c : Code} {r : Int32 × HpN} {v0 : Int32} {v1 : Option Nat} {f : AH} {n cells slots : Nat} (C : CC X p l (RM 1 0 0) s m args meth c RX0 cX0_addInQuotes 2 none) (hc : cells + 0 ≤ 0) (hs : slots + 0 ≤ 0) (h : mX0_addInQuotes_b31 v0 v1 f n = some r) : AW X p l e (RM 1 0 0) s m args below meth c 2 (ZM X below args s 0 0 (QHv r)) f n cells slots 31 [some (.int v0), some (va_rf v1)] [] := by
  have h : (if v0 = (10 : Int32) then mX0_addInQuotes_b55 v1 (110 : Int32) f n else (if v0 = (9 : Int32) then mX0_addInQuotes_b55 v1 (116 : Int32) f n else mX0_addInQuotes_b55 v1 v0 f n)) = some r := h
  refine aw_aload_n C dX0_addInQuotes_31 rfl (rf_or v1) ?_
  refine aw_iload_n C dX0_addInQuotes_32 rfl ?_
  refine aw_bipush C 10 dX0_addInQuotes_33 kb_10 ?_
  refine aw_icmp_ne C 43 dX0_addInQuotes_35 (by decide) (fun q => ?_) (fun q => ?_)
  · rw [if_neg q] at h
    refine aw_iload_n C dX0_addInQuotes_43 rfl ?_
    refine aw_bipush C 9 dX0_addInQuotes_44 kb_9 ?_
    refine aw_icmp_ne C 54 dX0_addInQuotes_46 (by decide) (fun q => ?_) (fun q => ?_)
    · rw [if_neg q] at h
      refine aw_iload_n C dX0_addInQuotes_54 rfl ?_
      refine aw_fl [none, none] trivial ?_
      exact rmX0_addInQuotes_b55 C (by omega) (by omega) h
    · rw [if_pos q] at h
      refine aw_bipush C 116 dX0_addInQuotes_49 kb_116 ?_
      refine aw_goto C 55 dX0_addInQuotes_51 (by decide) ?_
      refine aw_fl [none, none] trivial ?_
      exact rmX0_addInQuotes_b55 C (by omega) (by omega) h
  · rw [if_pos q] at h
    refine aw_bipush C 110 dX0_addInQuotes_38 kb_110 ?_
    refine aw_goto C 55 dX0_addInQuotes_40 (by decide) ?_
    refine aw_fl [none, none] trivial ?_
    exact rmX0_addInQuotes_b55 C (by omega) (by omega) h
def mX0_addInQuotes_b24 (v0 : Int32) (v1 : Option Nat) (f : AH) (n : Nat) : Option (Int32 × HpN) := ((v1).bind fun j1 => rCk (isO f j1 5) (((mX5_add j1 (92 : Int32) f n).bind fun r3 => mX0_addInQuotes_b31 v0 (some j1) r3.2.1 r3.2.2)))
set_option maxHeartbeats 1000000 in
theorem rmX0_addInQuotes_b24 {X : GX} {p : Program} {l : Launch} {e : Env} {s : State} {m : MethodId} {args : Array Value} {below : List Frame} {meth : Method} {c : Code} {r : Int32 × HpN} {v0 : Int32} {v1 : Option Nat} {f : AH} {n cells slots : Nat} (C : CC X p l (RM 1 0 0) s m args meth c RX0 cX0_addInQuotes 2 none) (hc : cells + 0 ≤ 0) (hs : slots + 0 ≤ 0) (h : mX0_addInQuotes_b24 v0 v1 f n = some r) : AW X p l e (RM 1 0 0) s m args below meth c 2 (ZM X below args s 0 0 (QHv r)) f n cells slots 24 [some (.int v0), some (va_rf v1)] [] := by
  have h : ((v1).bind fun j1 => rCk (isO f j1 5) (((mX5_add j1 (92 : Int32) f n).bind fun r3 => mX0_addInQuotes_b31 v0 (some j1) r3.2.1 r3.2.2))) = some r := h
  refine aw_aload_n C dX0_addInQuotes_24 rfl (rf_or v1) ?_
  refine aw_bipush C 92 dX0_addInQuotes_25 kb_92 ?_
  obtain ⟨j1, hj1, h⟩ := Option.bind_eq_some_iff.mp h
  rw [hj1]
  obtain ⟨hb2, h⟩ := ck_some h
  obtain ⟨r3, hr3, h⟩ := Option.bind_eq_some_iff.mp h
  obtain ⟨fs4, hf4⟩ := isO_ex hb2
  refine aw_callV C (ci := 5) (b := j1) [.int (92 : Int32)] mv_X0_93 rfl rfl hf4 (rmX5_add hr3) rfl dX0_addInQuotes_27 (Nat.le_of_ble_eq_true rfl) (Nat.le_of_ble_eq_true rfl) rfl (Nat.le_of_ble_eq_true rfl) (show cells + 0 ≤ 0 by omega) (show slots + 0 ≤ 0 by omega) (fun v9 f9 n9 hh => ?_)
  obtain ⟨rfl, rfl, rfl⟩ := hh
  refine aw_pop C dX0_addInQuotes_30 rfl ?_
  refine aw_fl [some (.int v0), some (va_rf (some j1))] ⟨rfl, ⟨rfl, trivial⟩⟩ ?_
  exact rmX0_addInQuotes_b31 C (by omega) (by omega) h
def mX0_addInQuotes (v0 : Int32) (v1 : Option Nat) (f : AH) (n : Nat) : Option (Int32 × HpN) := (if v0 = (92 : Int32) then mX0_addInQuotes_b24 v0 v1 f n else (if v0 = (10 : Int32) then mX0_addInQuotes_b24 v0 v1 f n else (if v0 = (9 : Int32) then mX0_addInQuotes_b24 v0 v1 f n else (if v0 = (34 : Int32) then mX0_addInQuotes_b24 v0 v1 f n else mX0_addInQuotes_b31 v0 v1 f n))))
set_option maxHeartbeats 1000000 in
theorem rmX0_addInQuotes {X : GX} {l : Launch} {r : Int32 × HpN} {v0 : Int32} {v1 : Option Nat} {f : AH} {n : Nat} (h : mX0_addInQuotes v0 v1 f n = some r) : AM X l yX0_addInQuotes cX0_addInQuotes 2 none 1 0 0 [.int v0, va_rf v1] f n (QHv r) := by
  have h : (if v0 = (92 : Int32) then mX0_addInQuotes_b24 v0 v1 f n else (if v0 = (10 : Int32) then mX0_addInQuotes_b24 v0 v1 f n else (if v0 = (9 : Int32) then mX0_addInQuotes_b24 v0 v1 f n else (if v0 = (34 : Int32) then mX0_addInQuotes_b24 v0 v1 f n else mX0_addInQuotes_b31 v0 v1 f n)))) = some r := h
  refine AM.of (by decide +kernel) (all1 rfl (all1 (rf_cat _) rfl)) (Nat.le_of_ble_eq_true rfl) (fun p e s m args below meth c C hnm => ?_)
  refine aw_nl [some (.int v0), some (va_rf v1)] rfl ?_
  refine aw_iload_n C dX0_addInQuotes_0 rfl ?_
  refine aw_bipush C 92 dX0_addInQuotes_1 kb_92 ?_
  refine aw_icmp_eq C 24 dX0_addInQuotes_3 (by decide) (fun q => ?_) (fun q => ?_)
  · rw [if_pos q] at h
    refine aw_fl [some (.int v0), some (va_rf v1)] ⟨rfl, ⟨rfl, trivial⟩⟩ ?_
    exact rmX0_addInQuotes_b24 C (by omega) (by omega) h
  · rw [if_neg q] at h
    refine aw_iload_n C dX0_addInQuotes_6 rfl ?_
    refine aw_bipush C 10 dX0_addInQuotes_7 kb_10 ?_
    refine aw_icmp_eq C 24 dX0_addInQuotes_9 (by decide) (fun q => ?_) (fun q => ?_)
    · rw [if_pos q] at h
      refine aw_fl [some (.int v0), some (va_rf v1)] ⟨rfl, ⟨rfl, trivial⟩⟩ ?_
      exact rmX0_addInQuotes_b24 C (by omega) (by omega) h
    · rw [if_neg q] at h
      refine aw_iload_n C dX0_addInQuotes_12 rfl ?_
      refine aw_bipush C 9 dX0_addInQuotes_13 kb_9 ?_
      refine aw_icmp_eq C 24 dX0_addInQuotes_15 (by decide) (fun q => ?_) (fun q => ?_)
      · rw [if_pos q] at h
        refine aw_fl [some (.int v0), some (va_rf v1)] ⟨rfl, ⟨rfl, trivial⟩⟩ ?_
        exact rmX0_addInQuotes_b24 C (by omega) (by omega) h
      · rw [if_neg q] at h
        refine aw_iload_n C dX0_addInQuotes_18 rfl ?_
        refine aw_bipush C 34 dX0_addInQuotes_19 kb_34 ?_
        refine aw_icmp_ne C 31 dX0_addInQuotes_21 (by decide) (fun q => ?_) (fun q => ?_)
        · rw [if_neg q] at h
          refine aw_fl [some (.int v0), some (va_rf v1)] ⟨rfl, ⟨rfl, trivial⟩⟩ ?_
          exact rmX0_addInQuotes_b31 C (by omega) (by omega) h
        · rw [if_pos q] at h
          refine aw_fl [some (.int v0), some (va_rf v1)] ⟨rfl, ⟨rfl, trivial⟩⟩ ?_
          exact rmX0_addInQuotes_b24 C (by omega) (by omega) h
def mX0_addEscaped_b109 (rec3 : (Option Nat) → (Option Nat) → Int32 → Int32 → Int32 → AH → Nat → Option (Int32 × HpN)) (v0 : Option Nat) (v1 : Option Nat) (v2 : Int32) (v3 : Int32) (v4 : Int32) (f : AH) (n : Nat) : Option (Int32 × HpN) := rec3 v0 v1 v2 v3 (v4 + (1 : Int32)) f n
set_option maxHeartbeats 1000000 in
theorem rmX0_addEscaped_b109 {X : GX} {p : Program} {l : Launch} {e : Env} {s : State} {m : MethodId} {args : Array Value} {below : List Frame} {meth : Method} {c : Code} {r : Int32 × HpN} {rec3 : (Option Nat) → (Option Nat) → Int32 → Int32 → Int32 → AH → Nat → Option (Int32 × HpN)} {v0 : Option Nat} {v1 : Option Nat} {v2 : Int32} {v3 : Int32} {v4 : Int32} {f : AH} {n cells slots : Nat} (C : CC X p l (RM 2 0 0) s m args meth c RX0 cX0_addEscaped 6 none) (Hr3 : ∀ (v0 : Option Nat) (v1 : Option Nat) (v2 : Int32) (v3 : Int32) (v4 : Int32) (f : AH) (n cells slots : Nat), cells + 0 ≤ 0 → slots + 0 ≤ 0 → rec3 v0 v1 v2 v3 v4 f n = some r → AW X p l e (RM 2 0 0) s m args below meth c 6 (ZM X below args s 0 0 (QHv r)) f n cells slots 3 [some (va_rf v0), some (va_rf v1), some (.int v2), some (.int v3), some (.int v4), none] []) (hc : cells + 0 ≤ 0) (hs : slots + 0 ≤ 0) (h : mX0_addEscaped_b109 rec3 v0 v1 v2 v3 v4 f n = some r) : AW X p l e (RM 2 0 0) s m args below meth c 6 (ZM X below args s 0 0 (QHv r)) f n cells slots 109 [some (va_rf v0), some (va_rf v1), some (.int v2), some (.int v3), some (.int v4), none] [] := by
  have h : rec3 v0 v1 v2 v3 (v4 + (1 : Int32)) f n = some r := h
  refine aw_iinc C (v4 + (1 : Int32)) dX0_addEscaped_109 rfl (by rw [ki_1]) (by decide) rfl ?_
  refine aw_nl [some (va_rf v0), some (va_rf v1), some (.int v2), some (.int v3), some (.int (v4 + (1 : Int32))), none] rfl ?_
  refine aw_goto C 3 dX0_addEscaped_112 (by decide) ?_
  refine aw_fl [some (va_rf v0), some (va_rf v1), some (.int v2), some (.int v3), some (.int (v4 + (1 : Int32))), none] ⟨rfl, ⟨rfl, ⟨rfl, ⟨rfl, ⟨rfl, trivial⟩⟩⟩⟩⟩ ?_
  exact Hr3 v0 v1 v2 v3 (v4 + (1 : Int32)) f n _ _ (by omega) (by omega) h
def mX0_addEscaped_b69 (rec3 : (Option Nat) → (Option Nat) → Int32 → Int32 → Int32 → AH → Nat → Option (Int32 × HpN)) (v0 : Option Nat) (v1 : Option Nat) (v2 : Int32) (v3 : Int32) (v4 : Int32) (s0 : Int32) (s1 : Option Nat) (s2 : Int32) (f : AH) (n : Nat) : Option (Int32 × HpN) := ((mX0_addInLine s0 s1 s2 f n).bind fun r1 => mX0_addEscaped_b109 rec3 v0 v1 v2 v3 v4 r1.2.1 r1.2.2)
set_option maxHeartbeats 1000000 in
theorem rmX0_addEscaped_b69 {X : GX} {p : Program} {l : Launch} {e : Env} {s : State} {m : MethodId} {args : Array Value} {below : List Frame} {meth : Method} {c : Code} {r : Int32 × HpN} {rec3 : (Option Nat) → (Option Nat) → Int32 → Int32 → Int32 → AH → Nat → Option (Int32 × HpN)} {v0 : Option Nat} {v1 : Option Nat} {v2 : Int32} {v3 : Int32} {v4 : Int32} {s0 : Int32} {s1 : Option Nat} {s2 : Int32} {f : AH} {n cells slots : Nat} (C : CC X p l (RM 2 0 0) s m args meth c RX0 cX0_addEscaped 6 none) (Hr3 : ∀ (v0 : Option Nat) (v1 : Option Nat) (v2 : Int32) (v3 : Int32) (v4 : Int32) (f : AH) (n cells slots : Nat), cells + 0 ≤ 0 → slots + 0 ≤ 0 → rec3 v0 v1 v2 v3 v4 f n = some r → AW X p l e (RM 2 0 0) s m args below meth c 6 (ZM X below args s 0 0 (QHv r)) f n cells slots 3 [some (va_rf v0), some (va_rf v1), some (.int v2), some (.int v3), some (.int v4), none] []) (hc : cells + 0 ≤ 0) (hs : slots + 0 ≤ 0) (h : mX0_addEscaped_b69 rec3 v0 v1 v2 v3 v4 s0 s1 s2 f n = some r) : AW X p l e (RM 2 0 0) s m args below meth c 6 (ZM X below args s 0 0 (QHv r)) f n cells slots 69 [some (va_rf v0), some (va_rf v1), some (.int v2), some (.int v3), some (.int v4), none] [.int s2, va_rf s1, .int s0] := by
  have h : ((mX0_addInLine s0 s1 s2 f n).bind fun r1 => mX0_addEscaped_b109 rec3 v0 v1 v2 v3 v4 r1.2.1 r1.2.2) = some r := h
  obtain ⟨r1, hr1, h⟩ := Option.bind_eq_some_iff.mp h
  refine aw_callS C [.int s0, va_rf s1, .int s2] ms_X0_107 (rmX0_addInLine hr1) rfl dX0_addEscaped_69 (Nat.le_of_ble_eq_true rfl) (Nat.le_of_ble_eq_true rfl) rfl (Nat.le_of_ble_eq_true rfl) (show cells + 0 ≤ 0 by omega) (show slots + 0 ≤ 0 by omega) (fun v9 f9 n9 hh => ?_)
  obtain ⟨rfl, rfl, rfl⟩ := hh
  refine aw_goto C 109 dX0_addEscaped_72 (by decide) ?_
  refine aw_fl [some (va_rf v0), some (va_rf v1), some (.int v2), some (.int v3), some (.int v4), none] ⟨rfl, ⟨rfl, ⟨rfl, ⟨rfl, ⟨rfl, trivial⟩⟩⟩⟩⟩ ?_
  exact rmX0_addEscaped_b109 C Hr3 (by omega) (by omega) h
def mX0_addEscaped_b68 (rec3 : (Option Nat) → (Option Nat) → Int32 → Int32 → Int32 → AH → Nat → Option (Int32 × HpN)) (v0 : Option Nat) (v1 : Option Nat) (v2 : Int32) (v3 : Int32) (v4 : Int32) (s0 : Int32) (s1 : Option Nat) (f : AH) (n : Nat) : Option (Int32 × HpN) := mX0_addEscaped_b69 rec3 v0 v1 v2 v3 v4 s0 s1 (0 : Int32) f n
set_option maxHeartbeats 1000000 in
theorem rmX0_addEscaped_b68 {X : GX} {p : Program} {l : Launch} {e : Env} {s : State} {m : MethodId} {args : Array Value} {below : List Frame} {meth : Method} {c : Code} {r : Int32 × HpN} {rec3 : (Option Nat) → (Option Nat) → Int32 → Int32 → Int32 → AH → Nat → Option (Int32 × HpN)} {v0 : Option Nat} {v1 : Option Nat} {v2 : Int32} {v3 : Int32} {v4 : Int32} {s0 : Int32} {s1 : Option Nat} {f : AH} {n cells slots : Nat} (C : CC X p l (RM 2 0 0) s m args meth c RX0 cX0_addEscaped 6 none) (Hr3 : ∀ (v0 : Option Nat) (v1 : Option Nat) (v2 : Int32) (v3 : Int32) (v4 : Int32) (f : AH) (n cells slots : Nat), cells + 0 ≤ 0 → slots + 0 ≤ 0 → rec3 v0 v1 v2 v3 v4 f n = some r → AW X p l e (RM 2 0 0) s m args below meth c 6 (ZM X below args s 0 0 (QHv r)) f n cells slots 3 [some (va_rf v0), some (va_rf v1), some (.int v2), some (.int v3), some (.int v4), none] []) (hc : cells + 0 ≤ 0) (hs : slots + 0 ≤ 0) (h : mX0_addEscaped_b68 rec3 v0 v1 v2 v3 v4 s0 s1 f n = some r) : AW X p l e (RM 2 0 0) s m args below meth c 6 (ZM X below args s 0 0 (QHv r)) f n cells slots 68 [some (va_rf v0), some (va_rf v1), some (.int v2), some (.int v3), some (.int v4), none] [va_rf s1, .int s0] := by
  have h : mX0_addEscaped_b69 rec3 v0 v1 v2 v3 v4 s0 s1 (0 : Int32) f n = some r := h
  refine aw_iconst C 0 dX0_addEscaped_68 ki_0 ?_
  refine aw_fl [some (va_rf v0), some (va_rf v1), some (.int v2), some (.int v3), some (.int v4), none] ⟨rfl, ⟨rfl, ⟨rfl, ⟨rfl, ⟨rfl, trivial⟩⟩⟩⟩⟩ ?_
  exact rmX0_addEscaped_b69 C Hr3 (by omega) (by omega) h
def mX0_addEscaped_l3 : Nat → (Option Nat) → (Option Nat) → Int32 → Int32 → Int32 → AH → Nat → Option (Int32 × HpN)
  | 0, _, _, _, _, _, _, _ => none
  | d + 1, v0, v1, v2, v3, v4, f, n => ((v0).bind fun j1 => rCk (isO f j1 5) (((mX5_size j1 f n).bind fun r3 => (if r3.1 ≤ v4 then some ((0 : Int32), (r3.2.1, r3.2.2)) else rCk (isO r3.2.1 j1 5) (((mX5_get j1 v4 r3.2.1 r3.2.2).bind fun r6 => (if v2 = (0 : Int32) then (if v3 = (0 : Int32) then mX0_addEscaped_b68 (fun v0 v1 v2 v3 v4 f n => mX0_addEscaped_l3 d v0 v1 v2 v3 v4 f n) (some j1) v1 v2 v3 v4 r6.1 v1 r6.2.1 r6.2.2 else (if v4 = (0 : Int32) then mX0_addEscaped_b69 (fun v0 v1 v2 v3 v4 f n => mX0_addEscaped_l3 d v0 v1 v2 v3 v4 f n) (some j1) v1 v2 v3 v4 r6.1 v1 (1 : Int32) r6.2.1 r6.2.2 else mX0_addEscaped_b68 (fun v0 v1 v2 v3 v4 f n => mX0_addEscaped_l3 d v0 v1 v2 v3 v4 f n) (some j1) v1 v2 v3 v4 r6.1 v1 r6.2.1 r6.2.2)) else if v2 = (1 : Int32) then ((mX0_addDoubled r6.1 v1 r6.2.1 r6.2.2).bind fun r8 => mX0_addEscaped_b109 (fun v0 v1 v2 v3 v4 f n => mX0_addEscaped_l3 d v0 v1 v2 v3 v4 f n) (some j1) v1 v2 v3 v4 r8.2.1 r8.2.2) else if v2 = (2 : Int32) then ((mX0_addInMarkup r6.1 v1 r6.2.1 r6.2.2).bind fun r9 => mX0_addEscaped_b109 (fun v0 v1 v2 v3 v4 f n => mX0_addEscaped_l3 d v0 v1 v2 v3 v4 f n) (some j1) v1 v2 v3 v4 r9.2.1 r9.2.2) else if v2 = (3 : Int32) then ((mX0_addInQuotes r6.1 v1 r6.2.1 r6.2.2).bind fun r10 => mX0_addEscaped_b109 (fun v0 v1 v2 v3 v4 f n => mX0_addEscaped_l3 d v0 v1 v2 v3 v4 f n) (some j1) v1 v2 v3 v4 r10.2.1 r10.2.2) else ((v1).bind fun j11 => rCk (isO r6.2.1 j11 5) (((mX5_add j11 r6.1 r6.2.1 r6.2.2).bind fun r13 => mX0_addEscaped_b109 (fun v0 v1 v2 v3 v4 f n => mX0_addEscaped_l3 d v0 v1 v2 v3 v4 f n) (some j1) (some j11) v2 v3 v4 r13.2.1 r13.2.2))))))))))
set_option maxHeartbeats 1000000 in
theorem rmX0_addEscaped_l3 {X : GX} {p : Program} {l : Launch} {e : Env} {s : State} {m : MethodId} {args : Array Value} {below : List Frame} {meth : Method} {c : Code} {r : Int32 × HpN} (C : CC X p l (RM 2 0 0) s m args meth c RX0 cX0_addEscaped 6 none) : ∀ (d : Nat) (v0 : Option Nat) (v1 : Option Nat) (v2 : Int32) (v3 : Int32) (v4 : Int32) (f : AH) (n cells slots : Nat) (_ : cells + 0 ≤ 0) (_ : slots + 0 ≤ 0) (_ : mX0_addEscaped_l3 d v0 v1 v2 v3 v4 f n = some r), AW X p l e (RM 2 0 0) s m args below meth c 6 (ZM X below args s 0 0 (QHv r)) f n cells slots 3 [some (va_rf v0), some (va_rf v1), some (.int v2), some (.int v3), some (.int v4), none] [] := by
  intro d
  induction d with
  | zero =>
    intro v0 v1 v2 v3 v4 f n cells slots hc hs h
    exact nomatch (show (none : Option (Int32 × HpN)) = some r from h)
  | succ d ih =>
    intro v0 v1 v2 v3 v4 f n cells slots hc hs h
    have h : ((v0).bind fun j1 => rCk (isO f j1 5) (((mX5_size j1 f n).bind fun r3 => (if r3.1 ≤ v4 then some ((0 : Int32), (r3.2.1, r3.2.2)) else rCk (isO r3.2.1 j1 5) (((mX5_get j1 v4 r3.2.1 r3.2.2).bind fun r6 => (if v2 = (0 : Int32) then (if v3 = (0 : Int32) then mX0_addEscaped_b68 (fun v0 v1 v2 v3 v4 f n => mX0_addEscaped_l3 d v0 v1 v2 v3 v4 f n) (some j1) v1 v2 v3 v4 r6.1 v1 r6.2.1 r6.2.2 else (if v4 = (0 : Int32) then mX0_addEscaped_b69 (fun v0 v1 v2 v3 v4 f n => mX0_addEscaped_l3 d v0 v1 v2 v3 v4 f n) (some j1) v1 v2 v3 v4 r6.1 v1 (1 : Int32) r6.2.1 r6.2.2 else mX0_addEscaped_b68 (fun v0 v1 v2 v3 v4 f n => mX0_addEscaped_l3 d v0 v1 v2 v3 v4 f n) (some j1) v1 v2 v3 v4 r6.1 v1 r6.2.1 r6.2.2)) else if v2 = (1 : Int32) then ((mX0_addDoubled r6.1 v1 r6.2.1 r6.2.2).bind fun r8 => mX0_addEscaped_b109 (fun v0 v1 v2 v3 v4 f n => mX0_addEscaped_l3 d v0 v1 v2 v3 v4 f n) (some j1) v1 v2 v3 v4 r8.2.1 r8.2.2) else if v2 = (2 : Int32) then ((mX0_addInMarkup r6.1 v1 r6.2.1 r6.2.2).bind fun r9 => mX0_addEscaped_b109 (fun v0 v1 v2 v3 v4 f n => mX0_addEscaped_l3 d v0 v1 v2 v3 v4 f n) (some j1) v1 v2 v3 v4 r9.2.1 r9.2.2) else if v2 = (3 : Int32) then ((mX0_addInQuotes r6.1 v1 r6.2.1 r6.2.2).bind fun r10 => mX0_addEscaped_b109 (fun v0 v1 v2 v3 v4 f n => mX0_addEscaped_l3 d v0 v1 v2 v3 v4 f n) (some j1) v1 v2 v3 v4 r10.2.1 r10.2.2) else ((v1).bind fun j11 => rCk (isO r6.2.1 j11 5) (((mX5_add j11 r6.1 r6.2.1 r6.2.2).bind fun r13 => mX0_addEscaped_b109 (fun v0 v1 v2 v3 v4 f n => mX0_addEscaped_l3 d v0 v1 v2 v3 v4 f n) (some j1) (some j11) v2 v3 v4 r13.2.1 r13.2.2)))))))))) = some r := h
    refine aw_iload C dX0_addEscaped_3 rfl ?_
    refine aw_aload_n C dX0_addEscaped_5 rfl (rf_or v0) ?_
    obtain ⟨j1, hj1, h⟩ := Option.bind_eq_some_iff.mp h
    rw [hj1]
    obtain ⟨hb2, h⟩ := ck_some h
    obtain ⟨r3, hr3, h⟩ := Option.bind_eq_some_iff.mp h
    obtain ⟨fs4, hf4⟩ := isO_ex hb2
    refine aw_callV C (ci := 5) (b := j1) [] mv_X0_57 rfl rfl hf4 (rmX5_size hr3) rfl dX0_addEscaped_6 (Nat.le_of_ble_eq_true rfl) (Nat.le_of_ble_eq_true rfl) rfl (Nat.le_of_ble_eq_true rfl) (show cells + 0 ≤ 0 by omega) (show slots + 0 ≤ 0 by omega) (fun v9 f9 n9 hh => ?_)
    obtain ⟨rfl, rfl, rfl⟩ := hh
    refine aw_icmp_ge C 115 dX0_addEscaped_9 (by decide) (fun q => ?_) (fun q => ?_)
    · rw [if_pos q] at h
      cases h
      exact aw_vret C rfl dX0_addEscaped_115 (by omega) (by omega) ⟨rfl, rfl, rfl⟩
    · rw [if_neg q] at h
      refine aw_ald_n C dX0_addEscaped_12 rfl ?_
      refine aw_iload C dX0_addEscaped_13 rfl ?_
      obtain ⟨hb5, h⟩ := ck_some h
      obtain ⟨r6, hr6, h⟩ := Option.bind_eq_some_iff.mp h
      obtain ⟨fs7, hf7⟩ := isO_ex hb5
      refine aw_callV C (ci := 5) (b := j1) [.int v4] mv_X0_104 rfl rfl hf7 (rmX5_get hr6) rfl dX0_addEscaped_15 (Nat.le_of_ble_eq_true rfl) (Nat.le_of_ble_eq_true rfl) rfl (Nat.le_of_ble_eq_true rfl) (show (cells + 0) + 0 ≤ 0 by omega) (show (slots + 0) + 0 ≤ 0 by omega) (fun v9 f9 n9 hh => ?_)
      obtain ⟨rfl, rfl, rfl⟩ := hh
      refine aw_istore C dX0_addEscaped_18 (by decide) rfl ?_
      refine aw_nl [some (.ref j1), some (va_rf v1), some (.int v2), some (.int v3), some (.int v4), some (.int r6.1)] rfl ?_
      refine aw_iload_n C dX0_addEscaped_20 rfl ?_
      by_cases q : v2 = (0 : Int32)
      · rw [if_pos q] at h
        refine aw_top (0 : Int32) q ?_
        refine aw_tabIn C (off := 31) 52 dX0_addEscaped_21 (by decide) (by decide) (by decide) (by decide) ?_
        refine aw_iload C dX0_addEscaped_52 rfl ?_
        refine aw_aload_n C dX0_addEscaped_54 rfl (rf_or v1) ?_
        refine aw_iload_n C dX0_addEscaped_55 rfl ?_
        refine aw_if_eq C 68 dX0_addEscaped_56 (by decide) (fun q => ?_) (fun q => ?_)
        · rw [if_pos q] at h
          refine aw_fl [some (va_rf (some j1)), some (va_rf v1), some (.int v2), some (.int v3), some (.int v4), none] ⟨rfl, ⟨rfl, ⟨rfl, ⟨rfl, ⟨rfl, trivial⟩⟩⟩⟩⟩ ?_
          exact rmX0_addEscaped_b68 C (fun v0 v1 v2 v3 v4 f n cells slots hc hs h => ih v0 v1 v2 v3 v4 f n cells slots hc hs h) (by omega) (by omega) h
        · rw [if_neg q] at h
          refine aw_iload C dX0_addEscaped_59 rfl ?_
          refine aw_if_ne C 68 dX0_addEscaped_61 (by decide) (fun q => ?_) (fun q => ?_)
          · rw [if_neg q] at h
            refine aw_fl [some (va_rf (some j1)), some (va_rf v1), some (.int v2), some (.int v3), some (.int v4), none] ⟨rfl, ⟨rfl, ⟨rfl, ⟨rfl, ⟨rfl, trivial⟩⟩⟩⟩⟩ ?_
            exact rmX0_addEscaped_b68 C (fun v0 v1 v2 v3 v4 f n cells slots hc hs h => ih v0 v1 v2 v3 v4 f n cells slots hc hs h) (by omega) (by omega) h
          · rw [if_pos q] at h
            refine aw_iconst C 1 dX0_addEscaped_64 ki_1 ?_
            refine aw_goto C 69 dX0_addEscaped_65 (by decide) ?_
            refine aw_fl [some (va_rf (some j1)), some (va_rf v1), some (.int v2), some (.int v3), some (.int v4), none] ⟨rfl, ⟨rfl, ⟨rfl, ⟨rfl, ⟨rfl, trivial⟩⟩⟩⟩⟩ ?_
            exact rmX0_addEscaped_b69 C (fun v0 v1 v2 v3 v4 f n cells slots hc hs h => ih v0 v1 v2 v3 v4 f n cells slots hc hs h) (by omega) (by omega) h
      · rw [if_neg q] at h
        have q0 := q
        by_cases q : v2 = (1 : Int32)
        · rw [if_pos q] at h
          refine aw_top (1 : Int32) q ?_
          refine aw_tabIn C (off := 54) 75 dX0_addEscaped_21 (by decide) (by decide) (by decide) (by decide) ?_
          refine aw_iload C dX0_addEscaped_75 rfl ?_
          refine aw_aload_n C dX0_addEscaped_77 rfl (rf_or v1) ?_
          obtain ⟨r8, hr8, h⟩ := Option.bind_eq_some_iff.mp h
          refine aw_callS C [.int r6.1, va_rf v1] ms_X0_111 (rmX0_addDoubled hr8) rfl dX0_addEscaped_78 (Nat.le_of_ble_eq_true rfl) (Nat.le_of_ble_eq_true rfl) rfl (Nat.le_of_ble_eq_true rfl) (show ((cells + 0) + 0) + 0 ≤ 0 by omega) (show ((slots + 0) + 0) + 0 ≤ 0 by omega) (fun v9 f9 n9 hh => ?_)
          obtain ⟨rfl, rfl, rfl⟩ := hh
          refine aw_goto C 109 dX0_addEscaped_81 (by decide) ?_
          refine aw_fl [some (va_rf (some j1)), some (va_rf v1), some (.int v2), some (.int v3), some (.int v4), none] ⟨rfl, ⟨rfl, ⟨rfl, ⟨rfl, ⟨rfl, trivial⟩⟩⟩⟩⟩ ?_
          exact rmX0_addEscaped_b109 C (fun v0 v1 v2 v3 v4 f n cells slots hc hs h => ih v0 v1 v2 v3 v4 f n cells slots hc hs h) (by omega) (by omega) h
        · rw [if_neg q] at h
          have q1 := q
          by_cases q : v2 = (2 : Int32)
          · rw [if_pos q] at h
            refine aw_top (2 : Int32) q ?_
            refine aw_tabIn C (off := 63) 84 dX0_addEscaped_21 (by decide) (by decide) (by decide) (by decide) ?_
            refine aw_iload C dX0_addEscaped_84 rfl ?_
            refine aw_aload_n C dX0_addEscaped_86 rfl (rf_or v1) ?_
            obtain ⟨r9, hr9, h⟩ := Option.bind_eq_some_iff.mp h
            refine aw_callS C [.int r6.1, va_rf v1] ms_X0_115 (rmX0_addInMarkup hr9) rfl dX0_addEscaped_87 (Nat.le_of_ble_eq_true rfl) (Nat.le_of_ble_eq_true rfl) rfl (Nat.le_of_ble_eq_true rfl) (show ((cells + 0) + 0) + 0 ≤ 0 by omega) (show ((slots + 0) + 0) + 0 ≤ 0 by omega) (fun v9 f9 n9 hh => ?_)
            obtain ⟨rfl, rfl, rfl⟩ := hh
            refine aw_goto C 109 dX0_addEscaped_90 (by decide) ?_
            refine aw_fl [some (va_rf (some j1)), some (va_rf v1), some (.int v2), some (.int v3), some (.int v4), none] ⟨rfl, ⟨rfl, ⟨rfl, ⟨rfl, ⟨rfl, trivial⟩⟩⟩⟩⟩ ?_
            exact rmX0_addEscaped_b109 C (fun v0 v1 v2 v3 v4 f n cells slots hc hs h => ih v0 v1 v2 v3 v4 f n cells slots hc hs h) (by omega) (by omega) h
          · rw [if_neg q] at h
            have q2 := q
            by_cases q : v2 = (3 : Int32)
            · rw [if_pos q] at h
              refine aw_top (3 : Int32) q ?_
              refine aw_tabIn C (off := 72) 93 dX0_addEscaped_21 (by decide) (by decide) (by decide) (by decide) ?_
              refine aw_iload C dX0_addEscaped_93 rfl ?_
              refine aw_aload_n C dX0_addEscaped_95 rfl (rf_or v1) ?_
              obtain ⟨r10, hr10, h⟩ := Option.bind_eq_some_iff.mp h
              refine aw_callS C [.int r6.1, va_rf v1] ms_X0_118 (rmX0_addInQuotes hr10) rfl dX0_addEscaped_96 (Nat.le_of_ble_eq_true rfl) (Nat.le_of_ble_eq_true rfl) rfl (Nat.le_of_ble_eq_true rfl) (show ((cells + 0) + 0) + 0 ≤ 0 by omega) (show ((slots + 0) + 0) + 0 ≤ 0 by omega) (fun v9 f9 n9 hh => ?_)
              obtain ⟨rfl, rfl, rfl⟩ := hh
              refine aw_goto C 109 dX0_addEscaped_99 (by decide) ?_
              refine aw_fl [some (va_rf (some j1)), some (va_rf v1), some (.int v2), some (.int v3), some (.int v4), none] ⟨rfl, ⟨rfl, ⟨rfl, ⟨rfl, ⟨rfl, trivial⟩⟩⟩⟩⟩ ?_
              exact rmX0_addEscaped_b109 C (fun v0 v1 v2 v3 v4 f n cells slots hc hs h => ih v0 v1 v2 v3 v4 f n cells slots hc hs h) (by omega) (by omega) h
            · rw [if_neg q] at h
              have q3 := q
              refine aw_tabOut C 102 dX0_addEscaped_21 (sx_out0_4 q0 q1 q2 q3) (by decide) ?_
              refine aw_aload_n C dX0_addEscaped_102 rfl (rf_or v1) ?_
              refine aw_iload C dX0_addEscaped_103 rfl ?_
              obtain ⟨j11, hj11, h⟩ := Option.bind_eq_some_iff.mp h
              rw [hj11]
              obtain ⟨hb12, h⟩ := ck_some h
              obtain ⟨r13, hr13, h⟩ := Option.bind_eq_some_iff.mp h
              obtain ⟨fs14, hf14⟩ := isO_ex hb12
              refine aw_callV C (ci := 5) (b := j11) [.int r6.1] mv_X0_93 rfl rfl hf14 (rmX5_add hr13) rfl dX0_addEscaped_105 (Nat.le_of_ble_eq_true rfl) (Nat.le_of_ble_eq_true rfl) rfl (Nat.le_of_ble_eq_true rfl) (show ((cells + 0) + 0) + 0 ≤ 0 by omega) (show ((slots + 0) + 0) + 0 ≤ 0 by omega) (fun v9 f9 n9 hh => ?_)
              obtain ⟨rfl, rfl, rfl⟩ := hh
              refine aw_pop C dX0_addEscaped_108 rfl ?_
              refine aw_fl [some (va_rf (some j1)), some (va_rf (some j11)), some (.int v2), some (.int v3), some (.int v4), none] ⟨rfl, ⟨rfl, ⟨rfl, ⟨rfl, ⟨rfl, trivial⟩⟩⟩⟩⟩ ?_
              exact rmX0_addEscaped_b109 C (fun v0 v1 v2 v3 v4 f n cells slots hc hs h => ih v0 v1 v2 v3 v4 f n cells slots hc hs h) (by omega) (by omega) h
def mX0_addEscaped (v0 : Option Nat) (v1 : Option Nat) (v2 : Int32) (v3 : Int32) (f : AH) (n : Nat) : Option (Int32 × HpN) := mX0_addEscaped_l3 rFU v0 v1 v2 v3 (0 : Int32) f n
set_option maxHeartbeats 1000000 in
theorem rmX0_addEscaped {X : GX} {l : Launch} {r : Int32 × HpN} {v0 : Option Nat} {v1 : Option Nat} {v2 : Int32} {v3 : Int32} {f : AH} {n : Nat} (h : mX0_addEscaped v0 v1 v2 v3 f n = some r) : AM X l yX0_addEscaped cX0_addEscaped 6 none 2 0 0 [va_rf v0, va_rf v1, .int v2, .int v3] f n (QHv r) := by
  have h : mX0_addEscaped_l3 rFU v0 v1 v2 v3 (0 : Int32) f n = some r := h
  refine AM.of (by decide +kernel) (all1 (rf_cat _) (all1 (rf_cat _) (all1 rfl (all1 rfl rfl)))) (Nat.le_of_ble_eq_true rfl) (fun p e s m args below meth c C hnm => ?_)
  refine aw_nl [some (va_rf v0), some (va_rf v1), some (.int v2), some (.int v3), none, none] rfl ?_
  refine aw_iconst C 0 dX0_addEscaped_0 ki_0 ?_
  refine aw_istore C dX0_addEscaped_1 (by decide) rfl ?_
  refine aw_nl [some (va_rf v0), some (va_rf v1), some (.int v2), some (.int v3), some (.int (0 : Int32)), none] rfl ?_
  refine aw_fl [some (va_rf v0), some (va_rf v1), some (.int v2), some (.int v3), some (.int (0 : Int32)), none] ⟨rfl, ⟨rfl, ⟨rfl, ⟨rfl, ⟨rfl, trivial⟩⟩⟩⟩⟩ ?_
  exact rmX0_addEscaped_l3 C rFU v0 v1 v2 v3 (0 : Int32) f n _ _ (by omega) (by omega) h
def mX0_escape_b270 (s0 : Int32) (f : AH) (n : Nat) : Option (Int32 × HpN) := rCk (rNb s0) (some (s0, (f, n)))
set_option maxHeartbeats 1000000 in
theorem rmX0_escape_b270 {X : GX} {p : Program} {l : Launch} {e : Env} {s : State} {m : MethodId} {args : Array Value} {below : List Frame} {meth : Method} {c : Code} {r : Int32 × HpN} {s0 : Int32} {f : AH} {n cells slots : Nat} (C : CC X p l (RM 3 0 0) s m args meth c RX0 cX0_escape 6 (some .boolean)) (hc : cells + 0 ≤ 0) (hs : slots + 0 ≤ 0) (h : mX0_escape_b270 s0 f n = some r) : AW X p l e (RM 3 0 0) s m args below meth c 6 (ZM X below args s 0 0 (QHi r)) f n cells slots 270 [none, none, none, none, none, none] [.int s0] := by
  have h : rCk (rNb s0) (some (s0, (f, n))) = some r := h
  obtain ⟨hb1, h⟩ := ck_some h
  cases h
  exact aw_iret C rfl (nb_nar hb1) dX0_escape_270 (by omega) (by omega) ⟨rfl, rfl, rfl⟩
def mX0_escape_b163 (v0 : Nat) (v2 : Option Nat) (v3 : Option Nat) (v4 : Int32) (f : AH) (n : Nat) : Option (Int32 × HpN) := (if v4 = (0 : Int32) then ((gR f v0 0 2).bind fun x34 => ((gR f v0 0 1).bind fun x35 => ((v3).bind fun j36 => ((gI f j36 7 1).bind fun x37 => ((v2).bind fun j38 => ((gI f j38 3 8).bind fun x39 => ((mX0_addEscaped x34 x35 x37 x39 f n).bind fun r40 => rCk (rNb (1 : Int32)) (some ((1 : Int32), (r40.2.1, r40.2.2)))))))))) else ((gR f v0 0 2).bind fun x1 => ((x1).bind fun j2 => rCk (isO f j2 5) (((mX5_breaksCell j2 f n).bind fun r4 => (if r4.1 = (0 : Int32) then ((gR r4.2.1 v0 0 1).bind fun x22 => ((gR r4.2.1 v0 0 2).bind fun x23 => ((gR r4.2.1 v0 0 2).bind fun x24 => ((x24).bind fun j25 => rCk (isO r4.2.1 j25 5) (((mX5_size j25 r4.2.1 r4.2.2).bind fun r27 => ((x22).bind fun j29 => rCk (isO r27.2.1 j29 5) (((mX5_addPart j29 x23 (0 : Int32) r27.1 r27.2.1 r27.2.2).bind fun r31 => rCk (rNb r31.1) (some (r31.1, (r31.2.1, r31.2.2)))))))))))) else ((pO r4.2.1 v0 0 3 (.int (1 : Int32))).bind fun f6 => ((gR f6 v0 0 1).bind fun x7 => ((x7).bind fun j8 => rCk (isO f6 j8 5) (((mX5_add j8 (34 : Int32) f6 r4.2.2).bind fun r10 => ((gR r10.2.1 v0 0 2).bind fun x12 => ((gR r10.2.1 v0 0 1).bind fun x13 => ((mX0_addEscaped x12 x13 (1 : Int32) (0 : Int32) r10.2.1 r10.2.2).bind fun r14 => ((gR r14.2.1 v0 0 1).bind fun x15 => ((x15).bind fun j16 => rCk (isO r14.2.1 j16 5) (((mX5_add j16 (34 : Int32) r14.2.1 r14.2.2).bind fun r18 => ((v3).bind fun j20 => ((gI r18.2.1 j20 7 2).bind fun x21 => (if x21 = (-1 : Int32) then mX0_escape_b270 (1 : Int32) r18.2.1 r18.2.2 else mX0_escape_b270 (0 : Int32) r18.2.1 r18.2.2)))))))))))))))))))))
set_option maxHeartbeats 1000000 in
theorem rmX0_escape_b163 {X : GX} {p : Program} {l : Launch} {e : Env} {s : State} {m : MethodId} {args : Array Value} {below : List Frame} {meth : Method} {c : Code} {r : Int32 × HpN} {v0 : Nat} {v2 : Option Nat} {v3 : Option Nat} {v4 : Int32} {f : AH} {n cells slots : Nat} (C : CC X p l (RM 3 0 0) s m args meth c RX0 cX0_escape 6 (some .boolean)) (hc : cells + 0 ≤ 0) (hs : slots + 0 ≤ 0) (h : mX0_escape_b163 v0 v2 v3 v4 f n = some r) : AW X p l e (RM 3 0 0) s m args below meth c 6 (ZM X below args s 0 0 (QHi r)) f n cells slots 163 [some (.ref v0), none, some (va_rf v2), some (va_rf v3), some (.int v4), none] [] := by
  have h : (if v4 = (0 : Int32) then ((gR f v0 0 2).bind fun x34 => ((gR f v0 0 1).bind fun x35 => ((v3).bind fun j36 => ((gI f j36 7 1).bind fun x37 => ((v2).bind fun j38 => ((gI f j38 3 8).bind fun x39 => ((mX0_addEscaped x34 x35 x37 x39 f n).bind fun r40 => rCk (rNb (1 : Int32)) (some ((1 : Int32), (r40.2.1, r40.2.2)))))))))) else ((gR f v0 0 2).bind fun x1 => ((x1).bind fun j2 => rCk (isO f j2 5) (((mX5_breaksCell j2 f n).bind fun r4 => (if r4.1 = (0 : Int32) then ((gR r4.2.1 v0 0 1).bind fun x22 => ((gR r4.2.1 v0 0 2).bind fun x23 => ((gR r4.2.1 v0 0 2).bind fun x24 => ((x24).bind fun j25 => rCk (isO r4.2.1 j25 5) (((mX5_size j25 r4.2.1 r4.2.2).bind fun r27 => ((x22).bind fun j29 => rCk (isO r27.2.1 j29 5) (((mX5_addPart j29 x23 (0 : Int32) r27.1 r27.2.1 r27.2.2).bind fun r31 => rCk (rNb r31.1) (some (r31.1, (r31.2.1, r31.2.2)))))))))))) else ((pO r4.2.1 v0 0 3 (.int (1 : Int32))).bind fun f6 => ((gR f6 v0 0 1).bind fun x7 => ((x7).bind fun j8 => rCk (isO f6 j8 5) (((mX5_add j8 (34 : Int32) f6 r4.2.2).bind fun r10 => ((gR r10.2.1 v0 0 2).bind fun x12 => ((gR r10.2.1 v0 0 1).bind fun x13 => ((mX0_addEscaped x12 x13 (1 : Int32) (0 : Int32) r10.2.1 r10.2.2).bind fun r14 => ((gR r14.2.1 v0 0 1).bind fun x15 => ((x15).bind fun j16 => rCk (isO r14.2.1 j16 5) (((mX5_add j16 (34 : Int32) r14.2.1 r14.2.2).bind fun r18 => ((v3).bind fun j20 => ((gI r18.2.1 j20 7 2).bind fun x21 => (if x21 = (-1 : Int32) then mX0_escape_b270 (1 : Int32) r18.2.1 r18.2.2 else mX0_escape_b270 (0 : Int32) r18.2.1 r18.2.2))))))))))))))))))))) = some r := h
  refine aw_iload C dX0_escape_163 rfl ?_
  refine aw_if_ne C 189 dX0_escape_165 (by decide) (fun q => ?_) (fun q => ?_)
  · rw [if_neg q] at h
    refine aw_ald_n C dX0_escape_189 rfl ?_
    obtain ⟨x1, hx1, h⟩ := Option.bind_eq_some_iff.mp h
    refine ah_getR C gf_X0_23 hx1 dX0_escape_190 ?_
    obtain ⟨j2, hj2, h⟩ := Option.bind_eq_some_iff.mp h
    rw [hj2]
    obtain ⟨hb3, h⟩ := ck_some h
    obtain ⟨r4, hr4, h⟩ := Option.bind_eq_some_iff.mp h
    obtain ⟨fs5, hf5⟩ := isO_ex hb3
    refine aw_callV C (ci := 5) (b := j2) [] mv_X0_89 rfl rfl hf5 (rmX5_breaksCell hr4) rfl dX0_escape_193 (Nat.le_of_ble_eq_true rfl) (Nat.le_of_ble_eq_true rfl) rfl (Nat.le_of_ble_eq_true rfl) (show cells + 0 ≤ 0 by omega) (show slots + 0 ≤ 0 by omega) (fun v9 f9 n9 hh => ?_)
    obtain ⟨rfl, rfl, rfl⟩ := hh
    refine aw_if_ne C 219 dX0_escape_196 (by decide) (fun q => ?_) (fun q => ?_)
    · rw [if_neg q] at h
      refine aw_ald_n C dX0_escape_219 rfl ?_
      refine aw_iconst C 1 dX0_escape_220 ki_1 ?_
      obtain ⟨f6, hf6, h⟩ := Option.bind_eq_some_iff.mp h
      refine ah_put C gf_X0_72 cf0 nf0_3 rfl rfl hf6 dX0_escape_221 ?_
      refine aw_ald_n C dX0_escape_224 rfl ?_
      obtain ⟨x7, hx7, h⟩ := Option.bind_eq_some_iff.mp h
      refine ah_getR C gf_X0_20 hx7 dX0_escape_225 ?_
      refine aw_bipush C 34 dX0_escape_228 kb_34 ?_
      obtain ⟨j8, hj8, h⟩ := Option.bind_eq_some_iff.mp h
      rw [hj8]
      obtain ⟨hb9, h⟩ := ck_some h
      obtain ⟨r10, hr10, h⟩ := Option.bind_eq_some_iff.mp h
      obtain ⟨fs11, hf11⟩ := isO_ex hb9
      refine aw_callV C (ci := 5) (b := j8) [.int (34 : Int32)] mv_X0_93 rfl rfl hf11 (rmX5_add hr10) rfl dX0_escape_230 (Nat.le_of_ble_eq_true rfl) (Nat.le_of_ble_eq_true rfl) rfl (Nat.le_of_ble_eq_true rfl) (show (cells + 0) + 0 ≤ 0 by omega) (show (slots + 0) + 0 ≤ 0 by omega) (fun v9 f9 n9 hh => ?_)
      obtain ⟨rfl, rfl, rfl⟩ := hh
      refine aw_pop C dX0_escape_233 rfl ?_
      refine aw_ald_n C dX0_escape_234 rfl ?_
      obtain ⟨x12, hx12, h⟩ := Option.bind_eq_some_iff.mp h
      refine ah_getR C gf_X0_23 hx12 dX0_escape_235 ?_
      refine aw_ald_n C dX0_escape_238 rfl ?_
      obtain ⟨x13, hx13, h⟩ := Option.bind_eq_some_iff.mp h
      refine ah_getR C gf_X0_20 hx13 dX0_escape_239 ?_
      refine aw_iconst C 1 dX0_escape_242 ki_1 ?_
      refine aw_iconst C 0 dX0_escape_243 ki_0 ?_
      obtain ⟨r14, hr14, h⟩ := Option.bind_eq_some_iff.mp h
      refine aw_callS C [va_rf x12, va_rf x13, .int (1 : Int32), .int (0 : Int32)] ms_X0_97 (rmX0_addEscaped hr14) rfl dX0_escape_244 (Nat.le_of_ble_eq_true rfl) (Nat.le_of_ble_eq_true rfl) rfl (Nat.le_of_ble_eq_true rfl) (show ((cells + 0) + 0) + 0 ≤ 0 by omega) (show ((slots + 0) + 0) + 0 ≤ 0 by omega) (fun v9 f9 n9 hh => ?_)
      obtain ⟨rfl, rfl, rfl⟩ := hh
      refine aw_ald_n C dX0_escape_247 rfl ?_
      obtain ⟨x15, hx15, h⟩ := Option.bind_eq_some_iff.mp h
      refine ah_getR C gf_X0_20 hx15 dX0_escape_248 ?_
      refine aw_bipush C 34 dX0_escape_251 kb_34 ?_
      obtain ⟨j16, hj16, h⟩ := Option.bind_eq_some_iff.mp h
      rw [hj16]
      obtain ⟨hb17, h⟩ := ck_some h
      obtain ⟨r18, hr18, h⟩ := Option.bind_eq_some_iff.mp h
      obtain ⟨fs19, hf19⟩ := isO_ex hb17
      refine aw_callV C (ci := 5) (b := j16) [.int (34 : Int32)] mv_X0_93 rfl rfl hf19 (rmX5_add hr18) rfl dX0_escape_253 (Nat.le_of_ble_eq_true rfl) (Nat.le_of_ble_eq_true rfl) rfl (Nat.le_of_ble_eq_true rfl) (show (((cells + 0) + 0) + 0) + 0 ≤ 0 by omega) (show (((slots + 0) + 0) + 0) + 0 ≤ 0 by omega) (fun v9 f9 n9 hh => ?_)
      obtain ⟨rfl, rfl, rfl⟩ := hh
      refine aw_pop C dX0_escape_256 rfl ?_
      refine aw_aload_n C dX0_escape_257 rfl (rf_or v3) ?_
      obtain ⟨j20, hj20, h⟩ := Option.bind_eq_some_iff.mp h
      rw [hj20]
      obtain ⟨x21, hx21, h⟩ := Option.bind_eq_some_iff.mp h
      refine ah_getI C gf_X0_83 hx21 dX0_escape_258 ?_
      refine aw_iconst C (-1) dX0_escape_261 ki_m1 ?_
      refine aw_icmp_ne C 269 dX0_escape_262 (by decide) (fun q => ?_) (fun q => ?_)
      · rw [if_neg q] at h
        refine aw_iconst C 0 dX0_escape_269 ki_0 ?_
        refine aw_fl [none, none, none, none, none, none] trivial ?_
        exact rmX0_escape_b270 C (by omega) (by omega) h
      · rw [if_pos q] at h
        refine aw_iconst C 1 dX0_escape_265 ki_1 ?_
        refine aw_goto C 270 dX0_escape_266 (by decide) ?_
        refine aw_fl [none, none, none, none, none, none] trivial ?_
        exact rmX0_escape_b270 C (by omega) (by omega) h
    · rw [if_pos q] at h
      refine aw_ald_n C dX0_escape_199 rfl ?_
      obtain ⟨x22, hx22, h⟩ := Option.bind_eq_some_iff.mp h
      refine ah_getR C gf_X0_20 hx22 dX0_escape_200 ?_
      refine aw_ald_n C dX0_escape_203 rfl ?_
      obtain ⟨x23, hx23, h⟩ := Option.bind_eq_some_iff.mp h
      refine ah_getR C gf_X0_23 hx23 dX0_escape_204 ?_
      refine aw_iconst C 0 dX0_escape_207 ki_0 ?_
      refine aw_ald_n C dX0_escape_208 rfl ?_
      obtain ⟨x24, hx24, h⟩ := Option.bind_eq_some_iff.mp h
      refine ah_getR C gf_X0_23 hx24 dX0_escape_209 ?_
      obtain ⟨j25, hj25, h⟩ := Option.bind_eq_some_iff.mp h
      rw [hj25]
      obtain ⟨hb26, h⟩ := ck_some h
      obtain ⟨r27, hr27, h⟩ := Option.bind_eq_some_iff.mp h
      obtain ⟨fs28, hf28⟩ := isO_ex hb26
      refine aw_callV C (ci := 5) (b := j25) [] mv_X0_57 rfl rfl hf28 (rmX5_size hr27) rfl dX0_escape_212 (Nat.le_of_ble_eq_true rfl) (Nat.le_of_ble_eq_true rfl) rfl (cs_1 rfl (cs_1 (rf_cat _) (cs_1 (rf_cat _) cs_0))) (show (cells + 0) + 0 ≤ 0 by omega) (show (slots + 0) + 0 ≤ 0 by omega) (fun v9 f9 n9 hh => ?_)
      obtain ⟨rfl, rfl, rfl⟩ := hh
      obtain ⟨j29, hj29, h⟩ := Option.bind_eq_some_iff.mp h
      rw [hj29]
      obtain ⟨hb30, h⟩ := ck_some h
      obtain ⟨r31, hr31, h⟩ := Option.bind_eq_some_iff.mp h
      obtain ⟨fs32, hf32⟩ := isO_ex hb30
      refine aw_callV C (ci := 5) (b := j29) [va_rf x23, .int (0 : Int32), .int r27.1] mv_X0_50 rfl rfl hf32 (rmX5_addPart hr31) rfl dX0_escape_215 (Nat.le_of_ble_eq_true rfl) (Nat.le_of_ble_eq_true rfl) rfl (Nat.le_of_ble_eq_true rfl) (show ((cells + 0) + 0) + 0 ≤ 0 by omega) (show ((slots + 0) + 0) + 0 ≤ 0 by omega) (fun v9 f9 n9 hh => ?_)
      obtain ⟨rfl, rfl, rfl⟩ := hh
      obtain ⟨hb33, h⟩ := ck_some h
      cases h
      exact aw_iret C rfl (nb_nar hb33) dX0_escape_218 (by omega) (by omega) ⟨rfl, rfl, rfl⟩
  · rw [if_pos q] at h
    refine aw_ald_n C dX0_escape_168 rfl ?_
    obtain ⟨x34, hx34, h⟩ := Option.bind_eq_some_iff.mp h
    refine ah_getR C gf_X0_23 hx34 dX0_escape_169 ?_
    refine aw_ald_n C dX0_escape_172 rfl ?_
    obtain ⟨x35, hx35, h⟩ := Option.bind_eq_some_iff.mp h
    refine ah_getR C gf_X0_20 hx35 dX0_escape_173 ?_
    refine aw_aload_n C dX0_escape_176 rfl (rf_or v3) ?_
    obtain ⟨j36, hj36, h⟩ := Option.bind_eq_some_iff.mp h
    rw [hj36]
    obtain ⟨x37, hx37, h⟩ := Option.bind_eq_some_iff.mp h
    refine ah_getI C gf_X0_76 hx37 dX0_escape_177 ?_
    refine aw_aload_n C dX0_escape_180 rfl (rf_or v2) ?_
    obtain ⟨j38, hj38, h⟩ := Option.bind_eq_some_iff.mp h
    rw [hj38]
    obtain ⟨x39, hx39, h⟩ := Option.bind_eq_some_iff.mp h
    refine ah_getI C gf_X0_101 hx39 dX0_escape_181 ?_
    obtain ⟨r40, hr40, h⟩ := Option.bind_eq_some_iff.mp h
    refine aw_callS C [va_rf x34, va_rf x35, .int x37, .int x39] ms_X0_97 (rmX0_addEscaped hr40) rfl dX0_escape_184 (Nat.le_of_ble_eq_true rfl) (Nat.le_of_ble_eq_true rfl) rfl (Nat.le_of_ble_eq_true rfl) (show cells + 0 ≤ 0 by omega) (show slots + 0 ≤ 0 by omega) (fun v9 f9 n9 hh => ?_)
    obtain ⟨rfl, rfl, rfl⟩ := hh
    refine aw_iconst C 1 dX0_escape_187 ki_1 ?_
    obtain ⟨hb41, h⟩ := ck_some h
    cases h
    exact aw_iret C rfl (nb_nar hb41) dX0_escape_188 (by omega) (by omega) ⟨rfl, rfl, rfl⟩
def mX0_escape_b159 (v0 : Nat) (v2 : Option Nat) (v3 : Option Nat) (v4 : Int32) (s0 : Option Nat) (s1 : Option Nat) (s2 : Int32) (f : AH) (n : Nat) : Option (Int32 × HpN) := ((mX0_addEscaped s0 s1 s2 (1 : Int32) f n).bind fun r1 => mX0_escape_b163 v0 v2 v3 v4 r1.2.1 r1.2.2)
set_option maxHeartbeats 1000000 in
theorem rmX0_escape_b159 {X : GX} {p : Program} {l : Launch} {e : Env} {s : State} {m : MethodId} {args : Array Value} {below : List Frame} {meth : Method} {c : Code} {r : Int32 × HpN} {v0 : Nat} {v2 : Option Nat} {v3 : Option Nat} {v4 : Int32} {s0 : Option Nat} {s1 : Option Nat} {s2 : Int32} {f : AH} {n cells slots : Nat} (C : CC X p l (RM 3 0 0) s m args meth c RX0 cX0_escape 6 (some .boolean)) (hc : cells + 0 ≤ 0) (hs : slots + 0 ≤ 0) (h : mX0_escape_b159 v0 v2 v3 v4 s0 s1 s2 f n = some r) : AW X p l e (RM 3 0 0) s m args below meth c 6 (ZM X below args s 0 0 (QHi r)) f n cells slots 159 [some (.ref v0), none, some (va_rf v2), some (va_rf v3), some (.int v4), none] [.int s2, va_rf s1, va_rf s0] := by
  have h : ((mX0_addEscaped s0 s1 s2 (1 : Int32) f n).bind fun r1 => mX0_escape_b163 v0 v2 v3 v4 r1.2.1 r1.2.2) = some r := h
  refine aw_iconst C 1 dX0_escape_159 ki_1 ?_
  obtain ⟨r1, hr1, h⟩ := Option.bind_eq_some_iff.mp h
  refine aw_callS C [va_rf s0, va_rf s1, .int s2, .int (1 : Int32)] ms_X0_97 (rmX0_addEscaped hr1) rfl dX0_escape_160 (Nat.le_of_ble_eq_true rfl) (Nat.le_of_ble_eq_true rfl) rfl (Nat.le_of_ble_eq_true rfl) (show cells + 0 ≤ 0 by omega) (show slots + 0 ≤ 0 by omega) (fun v9 f9 n9 hh => ?_)
  obtain ⟨rfl, rfl, rfl⟩ := hh
  refine aw_fl [some (.ref v0), none, some (va_rf v2), some (va_rf v3), some (.int v4), none] ⟨rfl, ⟨rfl, ⟨rfl, ⟨rfl, trivial⟩⟩⟩⟩ ?_
  exact rmX0_escape_b163 C (by omega) (by omega) h
def mX0_escape_b141 (v0 : Nat) (v1 : Option Nat) (v2 : Option Nat) (v3 : Option Nat) (v4 : Int32) (v5 : Int32) (f : AH) (n : Nat) : Option (Int32 × HpN) := ((gR f v0 0 2).bind fun x1 => (if v5 = (0 : Int32) then ((v3).bind fun j2 => ((gI f j2 7 2).bind fun x3 => mX0_escape_b159 v0 v2 (some j2) v4 v1 x1 x3 f n)) else mX0_escape_b159 v0 v2 v3 v4 v1 x1 (-1 : Int32) f n))
set_option maxHeartbeats 1000000 in
theorem rmX0_escape_b141 {X : GX} {p : Program} {l : Launch} {e : Env} {s : State} {m : MethodId} {args : Array Value} {below : List Frame} {meth : Method} {c : Code} {r : Int32 × HpN} {v0 : Nat} {v1 : Option Nat} {v2 : Option Nat} {v3 : Option Nat} {v4 : Int32} {v5 : Int32} {f : AH} {n cells slots : Nat} (C : CC X p l (RM 3 0 0) s m args meth c RX0 cX0_escape 6 (some .boolean)) (hc : cells + 0 ≤ 0) (hs : slots + 0 ≤ 0) (h : mX0_escape_b141 v0 v1 v2 v3 v4 v5 f n = some r) : AW X p l e (RM 3 0 0) s m args below meth c 6 (ZM X below args s 0 0 (QHi r)) f n cells slots 141 [some (.ref v0), some (va_rf v1), some (va_rf v2), some (va_rf v3), some (.int v4), some (.int v5)] [] := by
  have h : ((gR f v0 0 2).bind fun x1 => (if v5 = (0 : Int32) then ((v3).bind fun j2 => ((gI f j2 7 2).bind fun x3 => mX0_escape_b159 v0 v2 (some j2) v4 v1 x1 x3 f n)) else mX0_escape_b159 v0 v2 v3 v4 v1 x1 (-1 : Int32) f n)) = some r := h
  refine aw_aload_n C dX0_escape_141 rfl (rf_or v1) ?_
  refine aw_ald_n C dX0_escape_142 rfl ?_
  obtain ⟨x1, hx1, h⟩ := Option.bind_eq_some_iff.mp h
  refine ah_getR C gf_X0_23 hx1 dX0_escape_143 ?_
  refine aw_iload C dX0_escape_146 rfl ?_
  refine aw_if_eq C 155 dX0_escape_148 (by decide) (fun q => ?_) (fun q => ?_)
  · rw [if_pos q] at h
    refine aw_aload_n C dX0_escape_155 rfl (rf_or v3) ?_
    obtain ⟨j2, hj2, h⟩ := Option.bind_eq_some_iff.mp h
    rw [hj2]
    obtain ⟨x3, hx3, h⟩ := Option.bind_eq_some_iff.mp h
    refine ah_getI C gf_X0_83 hx3 dX0_escape_156 ?_
    refine aw_fl [some (.ref v0), none, some (va_rf v2), some (va_rf (some j2)), some (.int v4), none] ⟨rfl, ⟨rfl, ⟨rfl, ⟨rfl, trivial⟩⟩⟩⟩ ?_
    exact rmX0_escape_b159 C (by omega) (by omega) h
  · rw [if_neg q] at h
    refine aw_iconst C (-1) dX0_escape_151 ki_m1 ?_
    refine aw_goto C 159 dX0_escape_152 (by decide) ?_
    refine aw_fl [some (.ref v0), none, some (va_rf v2), some (va_rf v3), some (.int v4), none] ⟨rfl, ⟨rfl, ⟨rfl, ⟨rfl, trivial⟩⟩⟩⟩ ?_
    exact rmX0_escape_b159 C (by omega) (by omega) h
def mX0_escape_b135 (v0 : Nat) (v2 : Option Nat) (v3 : Option Nat) (v4 : Int32) (s0 : Nat) (s1 : Int32) (f : AH) (n : Nat) : Option (Int32 × HpN) := ((pO f s0 0 3 (.int s1)).bind fun f1 => mX0_escape_b163 v0 v2 v3 v4 f1 n)
set_option maxHeartbeats 1000000 in
theorem rmX0_escape_b135 {X : GX} {p : Program} {l : Launch} {e : Env} {s : State} {m : MethodId} {args : Array Value} {below : List Frame} {meth : Method} {c : Code} {r : Int32 × HpN} {v0 : Nat} {v2 : Option Nat} {v3 : Option Nat} {v4 : Int32} {s0 : Nat} {s1 : Int32} {f : AH} {n cells slots : Nat} (C : CC X p l (RM 3 0 0) s m args meth c RX0 cX0_escape 6 (some .boolean)) (hc : cells + 0 ≤ 0) (hs : slots + 0 ≤ 0) (h : mX0_escape_b135 v0 v2 v3 v4 s0 s1 f n = some r) : AW X p l e (RM 3 0 0) s m args below meth c 6 (ZM X below args s 0 0 (QHi r)) f n cells slots 135 [some (.ref v0), none, some (va_rf v2), some (va_rf v3), some (.int v4), none] [.int s1, .ref s0] := by
  have h : ((pO f s0 0 3 (.int s1)).bind fun f1 => mX0_escape_b163 v0 v2 v3 v4 f1 n) = some r := h
  obtain ⟨f1, hf1, h⟩ := Option.bind_eq_some_iff.mp h
  refine ah_put C gf_X0_72 cf0 nf0_3 rfl rfl hf1 dX0_escape_135 ?_
  refine aw_goto C 163 dX0_escape_138 (by decide) ?_
  refine aw_fl [some (.ref v0), none, some (va_rf v2), some (va_rf v3), some (.int v4), none] ⟨rfl, ⟨rfl, ⟨rfl, ⟨rfl, trivial⟩⟩⟩⟩ ?_
  exact rmX0_escape_b163 C (by omega) (by omega) h
def mX0_escape_b130 (v0 : Nat) (v2 : Option Nat) (v3 : Option Nat) (v4 : Int32) (s0 : Nat) (f : AH) (n : Nat) : Option (Int32 × HpN) := mX0_escape_b135 v0 v2 v3 v4 s0 (2 : Int32) f n
set_option maxHeartbeats 1000000 in
theorem rmX0_escape_b130 {X : GX} {p : Program} {l : Launch} {e : Env} {s : State} {m : MethodId} {args : Array Value} {below : List Frame} {meth : Method} {c : Code} {r : Int32 × HpN} {v0 : Nat} {v2 : Option Nat} {v3 : Option Nat} {v4 : Int32} {s0 : Nat} {f : AH} {n cells slots : Nat} (C : CC X p l (RM 3 0 0) s m args meth c RX0 cX0_escape 6 (some .boolean)) (hc : cells + 0 ≤ 0) (hs : slots + 0 ≤ 0) (h : mX0_escape_b130 v0 v2 v3 v4 s0 f n = some r) : AW X p l e (RM 3 0 0) s m args below meth c 6 (ZM X below args s 0 0 (QHi r)) f n cells slots 130 [some (.ref v0), none, some (va_rf v2), some (va_rf v3), some (.int v4), none] [.ref s0] := by
  have h : mX0_escape_b135 v0 v2 v3 v4 s0 (2 : Int32) f n = some r := h
  refine aw_iconst C 2 dX0_escape_130 ki_2 ?_
  refine aw_goto C 135 dX0_escape_131 (by decide) ?_
  refine aw_fl [some (.ref v0), none, some (va_rf v2), some (va_rf v3), some (.int v4), none] ⟨rfl, ⟨rfl, ⟨rfl, ⟨rfl, trivial⟩⟩⟩⟩ ?_
  exact rmX0_escape_b135 C (by omega) (by omega) h
def mX0_escape_b69 (v0 : Nat) (v1 : Option Nat) (v2 : Option Nat) (v3 : Option Nat) (v4 : Int32) (s0 : Int32) (f : AH) (n : Nat) : Option (Int32 × HpN) := (if s0 = (0 : Int32) then mX0_escape_b141 v0 v1 v2 v3 v4 s0 f n else ((v1).bind fun j1 => rCk (isO f j1 5) (((mX5_breaksCell j1 f n).bind fun r3 => (if r3.1 = (0 : Int32) then mX0_escape_b141 v0 (some j1) v2 v3 v4 s0 r3.2.1 r3.2.2 else ((gR r3.2.1 v0 0 2).bind fun x5 => ((x5).bind fun j6 => rCk (isO r3.2.1 j6 5) (((mX5_add j6 (34 : Int32) r3.2.1 r3.2.2).bind fun r8 => ((gR r8.2.1 v0 0 2).bind fun x10 => ((mX0_addEscaped (some j1) x10 (1 : Int32) (0 : Int32) r8.2.1 r8.2.2).bind fun r11 => ((gR r11.2.1 v0 0 2).bind fun x12 => ((x12).bind fun j13 => rCk (isO r11.2.1 j13 5) (((mX5_add j13 (34 : Int32) r11.2.1 r11.2.2).bind fun r15 => ((v3).bind fun j17 => ((gI r15.2.1 j17 7 1).bind fun x18 => (if x18 = (1 : Int32) then mX0_escape_b130 v0 v2 (some j17) v4 v0 r15.2.1 r15.2.2 else ((gI r15.2.1 j17 7 1).bind fun x19 => (if x19 = (3 : Int32) then mX0_escape_b130 v0 v2 (some j17) v4 v0 r15.2.1 r15.2.2 else mX0_escape_b135 v0 v2 (some j17) v4 v0 (1 : Int32) r15.2.1 r15.2.2))))))))))))))))))))
set_option maxHeartbeats 1000000 in
theorem rmX0_escape_b69 {X : GX} {p : Program} {l : Launch} {e : Env} {s : State} {m : MethodId} {args : Array Value} {below : List Frame} {meth : Method} {c : Code} {r : Int32 × HpN} {v0 : Nat} {v1 : Option Nat} {v2 : Option Nat} {v3 : Option Nat} {v4 : Int32} {s0 : Int32} {f : AH} {n cells slots : Nat} (C : CC X p l (RM 3 0 0) s m args meth c RX0 cX0_escape 6 (some .boolean)) (hc : cells + 0 ≤ 0) (hs : slots + 0 ≤ 0) (h : mX0_escape_b69 v0 v1 v2 v3 v4 s0 f n = some r) : AW X p l e (RM 3 0 0) s m args below meth c 6 (ZM X below args s 0 0 (QHi r)) f n cells slots 69 [some (.ref v0), some (va_rf v1), some (va_rf v2), some (va_rf v3), some (.int v4), none] [.int s0] := by
  have h : (if s0 = (0 : Int32) then mX0_escape_b141 v0 v1 v2 v3 v4 s0 f n else ((v1).bind fun j1 => rCk (isO f j1 5) (((mX5_breaksCell j1 f n).bind fun r3 => (if r3.1 = (0 : Int32) then mX0_escape_b141 v0 (some j1) v2 v3 v4 s0 r3.2.1 r3.2.2 else ((gR r3.2.1 v0 0 2).bind fun x5 => ((x5).bind fun j6 => rCk (isO r3.2.1 j6 5) (((mX5_add j6 (34 : Int32) r3.2.1 r3.2.2).bind fun r8 => ((gR r8.2.1 v0 0 2).bind fun x10 => ((mX0_addEscaped (some j1) x10 (1 : Int32) (0 : Int32) r8.2.1 r8.2.2).bind fun r11 => ((gR r11.2.1 v0 0 2).bind fun x12 => ((x12).bind fun j13 => rCk (isO r11.2.1 j13 5) (((mX5_add j13 (34 : Int32) r11.2.1 r11.2.2).bind fun r15 => ((v3).bind fun j17 => ((gI r15.2.1 j17 7 1).bind fun x18 => (if x18 = (1 : Int32) then mX0_escape_b130 v0 v2 (some j17) v4 v0 r15.2.1 r15.2.2 else ((gI r15.2.1 j17 7 1).bind fun x19 => (if x19 = (3 : Int32) then mX0_escape_b130 v0 v2 (some j17) v4 v0 r15.2.1 r15.2.2 else mX0_escape_b135 v0 v2 (some j17) v4 v0 (1 : Int32) r15.2.1 r15.2.2)))))))))))))))))))) = some r := h
  refine aw_istore C dX0_escape_69 (by decide) rfl ?_
  refine aw_nl [some (.ref v0), some (va_rf v1), some (va_rf v2), some (va_rf v3), some (.int v4), some (.int s0)] rfl ?_
  refine aw_iload C dX0_escape_71 rfl ?_
  refine aw_if_eq C 141 dX0_escape_73 (by decide) (fun q => ?_) (fun q => ?_)
  · rw [if_pos q] at h
    refine aw_fl [some (.ref v0), some (va_rf v1), some (va_rf v2), some (va_rf v3), some (.int v4), some (.int s0)] ⟨rfl, ⟨rfl, ⟨rfl, ⟨rfl, ⟨rfl, ⟨rfl, trivial⟩⟩⟩⟩⟩⟩ ?_
    exact rmX0_escape_b141 C (by omega) (by omega) h
  · rw [if_neg q] at h
    refine aw_aload_n C dX0_escape_76 rfl (rf_or v1) ?_
    obtain ⟨j1, hj1, h⟩ := Option.bind_eq_some_iff.mp h
    rw [hj1]
    obtain ⟨hb2, h⟩ := ck_some h
    obtain ⟨r3, hr3, h⟩ := Option.bind_eq_some_iff.mp h
    obtain ⟨fs4, hf4⟩ := isO_ex hb2
    refine aw_callV C (ci := 5) (b := j1) [] mv_X0_89 rfl rfl hf4 (rmX5_breaksCell hr3) rfl dX0_escape_77 (Nat.le_of_ble_eq_true rfl) (Nat.le_of_ble_eq_true rfl) rfl (Nat.le_of_ble_eq_true rfl) (show cells + 0 ≤ 0 by omega) (show slots + 0 ≤ 0 by omega) (fun v9 f9 n9 hh => ?_)
    obtain ⟨rfl, rfl, rfl⟩ := hh
    refine aw_if_eq C 141 dX0_escape_80 (by decide) (fun q => ?_) (fun q => ?_)
    · rw [if_pos q] at h
      refine aw_fl [some (.ref v0), some (va_rf (some j1)), some (va_rf v2), some (va_rf v3), some (.int v4), some (.int s0)] ⟨rfl, ⟨rfl, ⟨rfl, ⟨rfl, ⟨rfl, ⟨rfl, trivial⟩⟩⟩⟩⟩⟩ ?_
      exact rmX0_escape_b141 C (by omega) (by omega) h
    · rw [if_neg q] at h
      refine aw_ald_n C dX0_escape_83 rfl ?_
      obtain ⟨x5, hx5, h⟩ := Option.bind_eq_some_iff.mp h
      refine ah_getR C gf_X0_23 hx5 dX0_escape_84 ?_
      refine aw_bipush C 34 dX0_escape_87 kb_34 ?_
      obtain ⟨j6, hj6, h⟩ := Option.bind_eq_some_iff.mp h
      rw [hj6]
      obtain ⟨hb7, h⟩ := ck_some h
      obtain ⟨r8, hr8, h⟩ := Option.bind_eq_some_iff.mp h
      obtain ⟨fs9, hf9⟩ := isO_ex hb7
      refine aw_callV C (ci := 5) (b := j6) [.int (34 : Int32)] mv_X0_93 rfl rfl hf9 (rmX5_add hr8) rfl dX0_escape_89 (Nat.le_of_ble_eq_true rfl) (Nat.le_of_ble_eq_true rfl) rfl (Nat.le_of_ble_eq_true rfl) (show (cells + 0) + 0 ≤ 0 by omega) (show (slots + 0) + 0 ≤ 0 by omega) (fun v9 f9 n9 hh => ?_)
      obtain ⟨rfl, rfl, rfl⟩ := hh
      refine aw_pop C dX0_escape_92 rfl ?_
      refine aw_ald_n C dX0_escape_93 rfl ?_
      refine aw_ald_n C dX0_escape_94 rfl ?_
      obtain ⟨x10, hx10, h⟩ := Option.bind_eq_some_iff.mp h
      refine ah_getR C gf_X0_23 hx10 dX0_escape_95 ?_
      refine aw_iconst C 1 dX0_escape_98 ki_1 ?_
      refine aw_iconst C 0 dX0_escape_99 ki_0 ?_
      obtain ⟨r11, hr11, h⟩ := Option.bind_eq_some_iff.mp h
      refine aw_callS C [.ref j1, va_rf x10, .int (1 : Int32), .int (0 : Int32)] ms_X0_97 (rmX0_addEscaped hr11) rfl dX0_escape_100 (Nat.le_of_ble_eq_true rfl) (Nat.le_of_ble_eq_true rfl) rfl (Nat.le_of_ble_eq_true rfl) (show ((cells + 0) + 0) + 0 ≤ 0 by omega) (show ((slots + 0) + 0) + 0 ≤ 0 by omega) (fun v9 f9 n9 hh => ?_)
      obtain ⟨rfl, rfl, rfl⟩ := hh
      refine aw_ald_n C dX0_escape_103 rfl ?_
      obtain ⟨x12, hx12, h⟩ := Option.bind_eq_some_iff.mp h
      refine ah_getR C gf_X0_23 hx12 dX0_escape_104 ?_
      refine aw_bipush C 34 dX0_escape_107 kb_34 ?_
      obtain ⟨j13, hj13, h⟩ := Option.bind_eq_some_iff.mp h
      rw [hj13]
      obtain ⟨hb14, h⟩ := ck_some h
      obtain ⟨r15, hr15, h⟩ := Option.bind_eq_some_iff.mp h
      obtain ⟨fs16, hf16⟩ := isO_ex hb14
      refine aw_callV C (ci := 5) (b := j13) [.int (34 : Int32)] mv_X0_93 rfl rfl hf16 (rmX5_add hr15) rfl dX0_escape_109 (Nat.le_of_ble_eq_true rfl) (Nat.le_of_ble_eq_true rfl) rfl (Nat.le_of_ble_eq_true rfl) (show (((cells + 0) + 0) + 0) + 0 ≤ 0 by omega) (show (((slots + 0) + 0) + 0) + 0 ≤ 0 by omega) (fun v9 f9 n9 hh => ?_)
      obtain ⟨rfl, rfl, rfl⟩ := hh
      refine aw_pop C dX0_escape_112 rfl ?_
      refine aw_ald_n C dX0_escape_113 rfl ?_
      refine aw_aload_n C dX0_escape_114 rfl (rf_or v3) ?_
      obtain ⟨j17, hj17, h⟩ := Option.bind_eq_some_iff.mp h
      rw [hj17]
      obtain ⟨x18, hx18, h⟩ := Option.bind_eq_some_iff.mp h
      refine ah_getI C gf_X0_76 hx18 dX0_escape_115 ?_
      refine aw_iconst C 1 dX0_escape_118 ki_1 ?_
      refine aw_icmp_eq C 130 dX0_escape_119 (by decide) (fun q => ?_) (fun q => ?_)
      · rw [if_pos q] at h
        refine aw_fl [some (.ref v0), none, some (va_rf v2), some (va_rf (some j17)), some (.int v4), none] ⟨rfl, ⟨rfl, ⟨rfl, ⟨rfl, trivial⟩⟩⟩⟩ ?_
        exact rmX0_escape_b130 C (by omega) (by omega) h
      · rw [if_neg q] at h
        refine aw_ald_n C dX0_escape_122 rfl ?_
        obtain ⟨x19, hx19, h⟩ := Option.bind_eq_some_iff.mp h
        refine ah_getI C gf_X0_76 hx19 dX0_escape_123 ?_
        refine aw_iconst C 3 dX0_escape_126 ki_3 ?_
        refine aw_icmp_ne C 134 dX0_escape_127 (by decide) (fun q => ?_) (fun q => ?_)
        · rw [if_neg q] at h
          refine aw_iconst C 1 dX0_escape_134 ki_1 ?_
          refine aw_fl [some (.ref v0), none, some (va_rf v2), some (va_rf (some j17)), some (.int v4), none] ⟨rfl, ⟨rfl, ⟨rfl, ⟨rfl, trivial⟩⟩⟩⟩ ?_
          exact rmX0_escape_b135 C (by omega) (by omega) h
        · rw [if_pos q] at h
          refine aw_fl [some (.ref v0), none, some (va_rf v2), some (va_rf (some j17)), some (.int v4), none] ⟨rfl, ⟨rfl, ⟨rfl, ⟨rfl, trivial⟩⟩⟩⟩ ?_
          exact rmX0_escape_b130 C (by omega) (by omega) h
def mX0_escape_b68 (v0 : Nat) (v1 : Option Nat) (v2 : Option Nat) (v3 : Option Nat) (v4 : Int32) (f : AH) (n : Nat) : Option (Int32 × HpN) := mX0_escape_b69 v0 v1 v2 v3 v4 (0 : Int32) f n
set_option maxHeartbeats 1000000 in
theorem rmX0_escape_b68 {X : GX} {p : Program} {l : Launch} {e : Env} {s : State} {m : MethodId} {args : Array Value} {below : List Frame} {meth : Method} {c : Code} {r : Int32 × HpN} {v0 : Nat} {v1 : Option Nat} {v2 : Option Nat} {v3 : Option Nat} {v4 : Int32} {f : AH} {n cells slots : Nat} (C : CC X p l (RM 3 0 0) s m args meth c RX0 cX0_escape 6 (some .boolean)) (hc : cells + 0 ≤ 0) (hs : slots + 0 ≤ 0) (h : mX0_escape_b68 v0 v1 v2 v3 v4 f n = some r) : AW X p l e (RM 3 0 0) s m args below meth c 6 (ZM X below args s 0 0 (QHi r)) f n cells slots 68 [some (.ref v0), some (va_rf v1), some (va_rf v2), some (va_rf v3), some (.int v4), none] [] := by
  have h : mX0_escape_b69 v0 v1 v2 v3 v4 (0 : Int32) f n = some r := h
  refine aw_iconst C 0 dX0_escape_68 ki_0 ?_
  refine aw_fl [some (.ref v0), some (va_rf v1), some (va_rf v2), some (va_rf v3), some (.int v4), none] ⟨rfl, ⟨rfl, ⟨rfl, ⟨rfl, ⟨rfl, trivial⟩⟩⟩⟩⟩ ?_
  exact rmX0_escape_b69 C (by omega) (by omega) h
def mX0_escape_b47 (v0 : Nat) (v1 : Option Nat) (v2 : Option Nat) (v3 : Option Nat) (s0 : Int32) (f : AH) (n : Nat) : Option (Int32 × HpN) := ((v3).bind fun j1 => ((gI f j1 7 2).bind fun x2 => (if x2 = (1 : Int32) then ((v2).bind fun j3 => ((gI f j3 3 7).bind fun x4 => (if x4 = (0 : Int32) then mX0_escape_b69 v0 v1 (some j3) (some j1) s0 (1 : Int32) f n else mX0_escape_b68 v0 v1 (some j3) (some j1) s0 f n))) else mX0_escape_b68 v0 v1 v2 (some j1) s0 f n)))
set_option maxHeartbeats 1000000 in
theorem rmX0_escape_b47 {X : GX} {p : Program} {l : Launch} {e : Env} {s : State} {m : MethodId} {args : Array Value} {below : List Frame} {meth : Method} {c : Code} {r : Int32 × HpN} {v0 : Nat} {v1 : Option Nat} {v2 : Option Nat} {v3 : Option Nat} {s0 : Int32} {f : AH} {n cells slots : Nat} (C : CC X p l (RM 3 0 0) s m args meth c RX0 cX0_escape 6 (some .boolean)) (hc : cells + 0 ≤ 0) (hs : slots + 0 ≤ 0) (h : mX0_escape_b47 v0 v1 v2 v3 s0 f n = some r) : AW X p l e (RM 3 0 0) s m args below meth c 6 (ZM X below args s 0 0 (QHi r)) f n cells slots 47 [some (.ref v0), some (va_rf v1), some (va_rf v2), some (va_rf v3), none, none] [.int s0] := by
  have h : ((v3).bind fun j1 => ((gI f j1 7 2).bind fun x2 => (if x2 = (1 : Int32) then ((v2).bind fun j3 => ((gI f j3 3 7).bind fun x4 => (if x4 = (0 : Int32) then mX0_escape_b69 v0 v1 (some j3) (some j1) s0 (1 : Int32) f n else mX0_escape_b68 v0 v1 (some j3) (some j1) s0 f n))) else mX0_escape_b68 v0 v1 v2 (some j1) s0 f n))) = some r := h
  refine aw_istore C dX0_escape_47 (by decide) (ok_rf 3 rfl) ?_
  refine aw_nl [some (.ref v0), some (va_rf v1), some (va_rf v2), some (va_rf v3), some (.int s0), none] rfl ?_
  refine aw_aload_n C dX0_escape_49 rfl (rf_or v3) ?_
  obtain ⟨j1, hj1, h⟩ := Option.bind_eq_some_iff.mp h
  rw [hj1]
  obtain ⟨x2, hx2, h⟩ := Option.bind_eq_some_iff.mp h
  refine ah_getI C gf_X0_83 hx2 dX0_escape_50 ?_
  refine aw_iconst C 1 dX0_escape_53 ki_1 ?_
  refine aw_icmp_ne C 68 dX0_escape_54 (by decide) (fun q => ?_) (fun q => ?_)
  · rw [if_neg q] at h
    refine aw_fl [some (.ref v0), some (va_rf v1), some (va_rf v2), some (va_rf (some j1)), some (.int s0), none] ⟨rfl, ⟨rfl, ⟨rfl, ⟨rfl, ⟨rfl, trivial⟩⟩⟩⟩⟩ ?_
    exact rmX0_escape_b68 C (by omega) (by omega) h
  · rw [if_pos q] at h
    refine aw_aload_n C dX0_escape_57 rfl (rf_or v2) ?_
    obtain ⟨j3, hj3, h⟩ := Option.bind_eq_some_iff.mp h
    rw [hj3]
    obtain ⟨x4, hx4, h⟩ := Option.bind_eq_some_iff.mp h
    refine ah_getI C gf_X0_86 hx4 dX0_escape_58 ?_
    refine aw_if_ne C 68 dX0_escape_61 (by decide) (fun q => ?_) (fun q => ?_)
    · rw [if_neg q] at h
      refine aw_fl [some (.ref v0), some (va_rf v1), some (va_rf (some j3)), some (va_rf (some j1)), some (.int s0), none] ⟨rfl, ⟨rfl, ⟨rfl, ⟨rfl, ⟨rfl, trivial⟩⟩⟩⟩⟩ ?_
      exact rmX0_escape_b68 C (by omega) (by omega) h
    · rw [if_pos q] at h
      refine aw_iconst C 1 dX0_escape_64 ki_1 ?_
      refine aw_goto C 69 dX0_escape_65 (by decide) ?_
      refine aw_fl [some (.ref v0), some (va_rf v1), some (va_rf (some j3)), some (va_rf (some j1)), some (.int s0), none] ⟨rfl, ⟨rfl, ⟨rfl, ⟨rfl, ⟨rfl, trivial⟩⟩⟩⟩⟩ ?_
      exact rmX0_escape_b69 C (by omega) (by omega) h
def mX0_escape_b46 (v0 : Nat) (v1 : Option Nat) (v2 : Option Nat) (v3 : Option Nat) (f : AH) (n : Nat) : Option (Int32 × HpN) := mX0_escape_b47 v0 v1 v2 v3 (0 : Int32) f n
set_option maxHeartbeats 1000000 in
theorem rmX0_escape_b46 {X : GX} {p : Program} {l : Launch} {e : Env} {s : State} {m : MethodId} {args : Array Value} {below : List Frame} {meth : Method} {c : Code} {r : Int32 × HpN} {v0 : Nat} {v1 : Option Nat} {v2 : Option Nat} {v3 : Option Nat} {f : AH} {n cells slots : Nat} (C : CC X p l (RM 3 0 0) s m args meth c RX0 cX0_escape 6 (some .boolean)) (hc : cells + 0 ≤ 0) (hs : slots + 0 ≤ 0) (h : mX0_escape_b46 v0 v1 v2 v3 f n = some r) : AW X p l e (RM 3 0 0) s m args below meth c 6 (ZM X below args s 0 0 (QHi r)) f n cells slots 46 [some (.ref v0), some (va_rf v1), some (va_rf v2), some (va_rf v3), none, none] [] := by
  have h : mX0_escape_b47 v0 v1 v2 v3 (0 : Int32) f n = some r := h
  refine aw_iconst C 0 dX0_escape_46 ki_0 ?_
  refine aw_fl [some (.ref v0), some (va_rf v1), some (va_rf v2), some (va_rf v3), none, none] ⟨rfl, ⟨rfl, ⟨rfl, ⟨rfl, trivial⟩⟩⟩⟩ ?_
  exact rmX0_escape_b47 C (by omega) (by omega) h
def mX0_escape (v0 : Nat) (v1 : Option Nat) (v2 : Option Nat) (v3 : Option Nat) (f : AH) (n : Nat) : Option (Int32 × HpN) := (oN v2 (rCk (rNb (0 : Int32)) (some ((0 : Int32), (f, n)))) (fun j1 => ((pO f v0 0 3 (.int (0 : Int32))).bind fun f3 => ((gR f3 v0 0 2).bind fun x4 => ((x4).bind fun j5 => rCk (isO f3 j5 5) (((mX5_cutTo j5 (0 : Int32) f3 n).bind fun r7 => ((gR r7.2.1 v0 0 1).bind fun x9 => ((x9).bind fun j10 => rCk (isO r7.2.1 j10 5) (((mX5_cutTo j10 (0 : Int32) r7.2.1 r7.2.2).bind fun r12 => ((v3).bind fun j14 => ((gI r12.2.1 j14 7 1).bind fun x15 => (if x15 = (1 : Int32) then ((gI r12.2.1 j1 3 6).bind fun x16 => (if x16 = (0 : Int32) then mX0_escape_b47 v0 v1 (some j1) (some j14) (1 : Int32) r12.2.1 r12.2.2 else mX0_escape_b46 v0 v1 (some j1) (some j14) r12.2.1 r12.2.2)) else mX0_escape_b46 v0 v1 (some j1) (some j14) r12.2.1 r12.2.2))))))))))))))
set_option maxHeartbeats 1000000 in
theorem rmX0_escape {X : GX} {l : Launch} {r : Int32 × HpN} {v0 : Nat} {v1 : Option Nat} {v2 : Option Nat} {v3 : Option Nat} {f : AH} {n : Nat} (h : mX0_escape v0 v1 v2 v3 f n = some r) : AM X l yX0_escape cX0_escape 6 (some .boolean) 3 0 0 [.ref v0, va_rf v1, va_rf v2, va_rf v3] f n (QHi r) := by
  have h : (oN v2 (rCk (rNb (0 : Int32)) (some ((0 : Int32), (f, n)))) (fun j1 => ((pO f v0 0 3 (.int (0 : Int32))).bind fun f3 => ((gR f3 v0 0 2).bind fun x4 => ((x4).bind fun j5 => rCk (isO f3 j5 5) (((mX5_cutTo j5 (0 : Int32) f3 n).bind fun r7 => ((gR r7.2.1 v0 0 1).bind fun x9 => ((x9).bind fun j10 => rCk (isO r7.2.1 j10 5) (((mX5_cutTo j10 (0 : Int32) r7.2.1 r7.2.2).bind fun r12 => ((v3).bind fun j14 => ((gI r12.2.1 j14 7 1).bind fun x15 => (if x15 = (1 : Int32) then ((gI r12.2.1 j1 3 6).bind fun x16 => (if x16 = (0 : Int32) then mX0_escape_b47 v0 v1 (some j1) (some j14) (1 : Int32) r12.2.1 r12.2.2 else mX0_escape_b46 v0 v1 (some j1) (some j14) r12.2.1 r12.2.2)) else mX0_escape_b46 v0 v1 (some j1) (some j14) r12.2.1 r12.2.2)))))))))))))) = some r := h
  refine AM.of (by decide +kernel) (all1 rfl (all1 (rf_cat _) (all1 (rf_cat _) (all1 (rf_cat _) rfl)))) (Nat.le_of_ble_eq_true rfl) (fun p e s m args below meth c C hnm => ?_)
  refine aw_nl [some (.ref v0), some (va_rf v1), some (va_rf v2), some (va_rf v3), none, none] rfl ?_
  refine aw_aload_n C dX0_escape_0 rfl (rf_or v2) ?_
  cases v2 with
  | none =>
    replace h : rCk (rNb (0 : Int32)) (some ((0 : Int32), (f, n))) = some r := h
    refine aw_ifnonnull_n C 6 dX0_escape_1 (by decide) ?_
    refine aw_iconst C 0 dX0_escape_4 ki_0 ?_
    obtain ⟨hb2, h⟩ := ck_some h
    cases h
    exact aw_iret C rfl (nb_nar hb2) dX0_escape_5 (by omega) (by omega) ⟨rfl, rfl, rfl⟩
  | some j1 =>
    replace h : ((pO f v0 0 3 (.int (0 : Int32))).bind fun f3 => ((gR f3 v0 0 2).bind fun x4 => ((x4).bind fun j5 => rCk (isO f3 j5 5) (((mX5_cutTo j5 (0 : Int32) f3 n).bind fun r7 => ((gR r7.2.1 v0 0 1).bind fun x9 => ((x9).bind fun j10 => rCk (isO r7.2.1 j10 5) (((mX5_cutTo j10 (0 : Int32) r7.2.1 r7.2.2).bind fun r12 => ((v3).bind fun j14 => ((gI r12.2.1 j14 7 1).bind fun x15 => (if x15 = (1 : Int32) then ((gI r12.2.1 j1 3 6).bind fun x16 => (if x16 = (0 : Int32) then mX0_escape_b47 v0 v1 (some j1) (some j14) (1 : Int32) r12.2.1 r12.2.2 else mX0_escape_b46 v0 v1 (some j1) (some j14) r12.2.1 r12.2.2)) else mX0_escape_b46 v0 v1 (some j1) (some j14) r12.2.1 r12.2.2)))))))))))) = some r := h
    refine aw_ifnonnull_r C 6 dX0_escape_1 (by decide) ?_
    refine aw_ald_n C dX0_escape_6 rfl ?_
    refine aw_iconst C 0 dX0_escape_7 ki_0 ?_
    obtain ⟨f3, hf3, h⟩ := Option.bind_eq_some_iff.mp h
    refine ah_put C gf_X0_72 cf0 nf0_3 rfl rfl hf3 dX0_escape_8 ?_
    refine aw_ald_n C dX0_escape_11 rfl ?_
    obtain ⟨x4, hx4, h⟩ := Option.bind_eq_some_iff.mp h
    refine ah_getR C gf_X0_23 hx4 dX0_escape_12 ?_
    refine aw_iconst C 0 dX0_escape_15 ki_0 ?_
    obtain ⟨j5, hj5, h⟩ := Option.bind_eq_some_iff.mp h
    rw [hj5]
    obtain ⟨hb6, h⟩ := ck_some h
    obtain ⟨r7, hr7, h⟩ := Option.bind_eq_some_iff.mp h
    obtain ⟨fs8, hf8⟩ := isO_ex hb6
    refine aw_callV C (ci := 5) (b := j5) [.int (0 : Int32)] mv_X0_26 rfl rfl hf8 (rmX5_cutTo hr7) rfl dX0_escape_16 (Nat.le_of_ble_eq_true rfl) (Nat.le_of_ble_eq_true rfl) rfl (Nat.le_of_ble_eq_true rfl) (show 0 + 0 ≤ 0 by omega) (show 0 + 0 ≤ 0 by omega) (fun v9 f9 n9 hh => ?_)
    obtain ⟨rfl, rfl, rfl⟩ := hh
    refine aw_ald_n C dX0_escape_19 rfl ?_
    obtain ⟨x9, hx9, h⟩ := Option.bind_eq_some_iff.mp h
    refine ah_getR C gf_X0_20 hx9 dX0_escape_20 ?_
    refine aw_iconst C 0 dX0_escape_23 ki_0 ?_
    obtain ⟨j10, hj10, h⟩ := Option.bind_eq_some_iff.mp h
    rw [hj10]
    obtain ⟨hb11, h⟩ := ck_some h
    obtain ⟨r12, hr12, h⟩ := Option.bind_eq_some_iff.mp h
    obtain ⟨fs13, hf13⟩ := isO_ex hb11
    refine aw_callV C (ci := 5) (b := j10) [.int (0 : Int32)] mv_X0_26 rfl rfl hf13 (rmX5_cutTo hr12) rfl dX0_escape_24 (Nat.le_of_ble_eq_true rfl) (Nat.le_of_ble_eq_true rfl) rfl (Nat.le_of_ble_eq_true rfl) (show (0 + 0) + 0 ≤ 0 by omega) (show (0 + 0) + 0 ≤ 0 by omega) (fun v9 f9 n9 hh => ?_)
    obtain ⟨rfl, rfl, rfl⟩ := hh
    refine aw_aload_n C dX0_escape_27 rfl (rf_or v3) ?_
    obtain ⟨j14, hj14, h⟩ := Option.bind_eq_some_iff.mp h
    rw [hj14]
    obtain ⟨x15, hx15, h⟩ := Option.bind_eq_some_iff.mp h
    refine ah_getI C gf_X0_76 hx15 dX0_escape_28 ?_
    refine aw_iconst C 1 dX0_escape_31 ki_1 ?_
    refine aw_icmp_ne C 46 dX0_escape_32 (by decide) (fun q => ?_) (fun q => ?_)
    · rw [if_neg q] at h
      refine aw_fl [some (.ref v0), some (va_rf v1), some (va_rf (some j1)), some (va_rf (some j14)), none, none] ⟨rfl, ⟨rfl, ⟨rfl, ⟨rfl, trivial⟩⟩⟩⟩ ?_
      exact rmX0_escape_b46 C (by omega) (by omega) h
    · rw [if_pos q] at h
      refine aw_ald_n C dX0_escape_35 rfl ?_
      obtain ⟨x16, hx16, h⟩ := Option.bind_eq_some_iff.mp h
      refine ah_getI C gf_X0_79 hx16 dX0_escape_36 ?_
      refine aw_if_ne C 46 dX0_escape_39 (by decide) (fun q => ?_) (fun q => ?_)
      · rw [if_neg q] at h
        refine aw_fl [some (.ref v0), some (va_rf v1), some (va_rf (some j1)), some (va_rf (some j14)), none, none] ⟨rfl, ⟨rfl, ⟨rfl, ⟨rfl, trivial⟩⟩⟩⟩ ?_
        exact rmX0_escape_b46 C (by omega) (by omega) h
      · rw [if_pos q] at h
        refine aw_iconst C 1 dX0_escape_42 ki_1 ?_
        refine aw_goto C 47 dX0_escape_43 (by decide) ?_
        refine aw_fl [some (.ref v0), some (va_rf v1), some (va_rf (some j1)), some (va_rf (some j14)), none, none] ⟨rfl, ⟨rfl, ⟨rfl, ⟨rfl, trivial⟩⟩⟩⟩ ?_
        exact rmX0_escape_b47 C (by omega) (by omega) h
end
/-! part 32ah.cls -/
section
def mX0_make_b243 (s0 : Int32) (f : AH) (n : Nat) : Option (Int32 × HpN) := rCk (rNb s0) (some (s0, (f, n)))
set_option maxHeartbeats 1000000 in
theorem rmX0_make_b243 {X : GX} {p : Program} {l : Launch} {e : Env} {s : State} {m : MethodId} {args : Array Value} {below : List Frame} {meth : Method} {c : Code} {r : Int32 × HpN} {s0 : Int32} {f : AH} {n cells slots : Nat} (C : CC X p l (RM 4 0 0) s m args meth c RX0 cX0_make 8 (some .boolean)) (hc : cells + 0 ≤ 0) (hs : slots + 0 ≤ 0) (h : mX0_make_b243 s0 f n = some r) : AW X p l e (RM 4 0 0) s m args below meth c 8 (ZM X below args s 0 0 (QHi r)) f n cells slots 243 [none, none, none, none, none, none, none, none] [.int s0] := by
  have h : rCk (rNb s0) (some (s0, (f, n))) = some r := h
  obtain ⟨hb1, h⟩ := ck_some h
  cases h
  exact aw_iret C rfl (nb_nar hb1) dX0_make_243 (by omega) (by omega) ⟨rfl, rfl, rfl⟩
def mX0_make_b242 (f : AH) (n : Nat) : Option (Int32 × HpN) := mX0_make_b243 (0 : Int32) f n
set_option maxHeartbeats 1000000 in
theorem rmX0_make_b242 {X : GX} {p : Program} {l : Launch} {e : Env} {s : State} {m : MethodId} {args : Array Value} {below : List Frame} {meth : Method} {c : Code} {r : Int32 × HpN} {f : AH} {n cells slots : Nat} (C : CC X p l (RM 4 0 0) s m args meth c RX0 cX0_make 8 (some .boolean)) (hc : cells + 0 ≤ 0) (hs : slots + 0 ≤ 0) (h : mX0_make_b242 f n = some r) : AW X p l e (RM 4 0 0) s m args below meth c 8 (ZM X below args s 0 0 (QHi r)) f n cells slots 242 [none, none, none, none, none, none, none, none] [] := by
  have h : mX0_make_b243 (0 : Int32) f n = some r := h
  refine aw_iconst C 0 dX0_make_242 ki_0 ?_
  refine aw_fl [none, none, none, none, none, none, none, none] trivial ?_
  exact rmX0_make_b243 C (by omega) (by omega) h
def mX0_make_b211 (v0 : Nat) (v1 : Option Nat) (v3 : Int32) (v4 : Int32) (f : AH) (n : Nat) : Option (Int32 × HpN) := (if v4 = (0 : Int32) then mX0_make_b242 f n else ((gR f v0 0 0).bind fun x1 => ((v1).bind fun j2 => ((gR f j2 7 0).bind fun x3 => ((gR f j2 7 0).bind fun x4 => ((x4).bind fun j5 => rCk (isO f j5 5) (((mX5_size j5 f n).bind fun r7 => ((x1).bind fun j9 => rCk (isO r7.2.1 j9 5) (((mX5_addPart j9 x3 v3 r7.1 r7.2.1 r7.2.2).bind fun r11 => (if r11.1 = (0 : Int32) then mX0_make_b242 r11.2.1 r11.2.2 else mX0_make_b243 (1 : Int32) r11.2.1 r11.2.2))))))))))))
set_option maxHeartbeats 1000000 in
theorem rmX0_make_b211 {X : GX} {p : Program} {l : Launch} {e : Env} {s : State} {m : MethodId} {args : Array Value} {below : List Frame} {meth : Method} {c : Code} {r : Int32 × HpN} {v0 : Nat} {v1 : Option Nat} {v3 : Int32} {v4 : Int32} {f : AH} {n cells slots : Nat} (C : CC X p l (RM 4 0 0) s m args meth c RX0 cX0_make 8 (some .boolean)) (hc : cells + 0 ≤ 0) (hs : slots + 0 ≤ 0) (h : mX0_make_b211 v0 v1 v3 v4 f n = some r) : AW X p l e (RM 4 0 0) s m args below meth c 8 (ZM X below args s 0 0 (QHi r)) f n cells slots 211 [some (.ref v0), some (va_rf v1), none, some (.int v3), some (.int v4), none, none, none] [] := by
  have h : (if v4 = (0 : Int32) then mX0_make_b242 f n else ((gR f v0 0 0).bind fun x1 => ((v1).bind fun j2 => ((gR f j2 7 0).bind fun x3 => ((gR f j2 7 0).bind fun x4 => ((x4).bind fun j5 => rCk (isO f j5 5) (((mX5_size j5 f n).bind fun r7 => ((x1).bind fun j9 => rCk (isO r7.2.1 j9 5) (((mX5_addPart j9 x3 v3 r7.1 r7.2.1 r7.2.2).bind fun r11 => (if r11.1 = (0 : Int32) then mX0_make_b242 r11.2.1 r11.2.2 else mX0_make_b243 (1 : Int32) r11.2.1 r11.2.2)))))))))))) = some r := h
  refine aw_iload C dX0_make_211 rfl ?_
  refine aw_if_eq C 242 dX0_make_213 (by decide) (fun q => ?_) (fun q => ?_)
  · rw [if_pos q] at h
    refine aw_fl [none, none, none, none, none, none, none, none] trivial ?_
    exact rmX0_make_b242 C (by omega) (by omega) h
  · rw [if_neg q] at h
    refine aw_ald_n C dX0_make_216 rfl ?_
    obtain ⟨x1, hx1, h⟩ := Option.bind_eq_some_iff.mp h
    refine ah_getR C gf_X0_14 hx1 dX0_make_217 ?_
    refine aw_aload_n C dX0_make_220 rfl (rf_or v1) ?_
    obtain ⟨j2, hj2, h⟩ := Option.bind_eq_some_iff.mp h
    rw [hj2]
    obtain ⟨x3, hx3, h⟩ := Option.bind_eq_some_iff.mp h
    refine ah_getR C gf_X0_39 hx3 dX0_make_221 ?_
    refine aw_iload_n C dX0_make_224 rfl ?_
    refine aw_ald_n C dX0_make_225 rfl ?_
    obtain ⟨x4, hx4, h⟩ := Option.bind_eq_some_iff.mp h
    refine ah_getR C gf_X0_39 hx4 dX0_make_226 ?_
    obtain ⟨j5, hj5, h⟩ := Option.bind_eq_some_iff.mp h
    rw [hj5]
    obtain ⟨hb6, h⟩ := ck_some h
    obtain ⟨r7, hr7, h⟩ := Option.bind_eq_some_iff.mp h
    obtain ⟨fs8, hf8⟩ := isO_ex hb6
    refine aw_callV C (ci := 5) (b := j5) [] mv_X0_57 rfl rfl hf8 (rmX5_size hr7) rfl dX0_make_229 (Nat.le_of_ble_eq_true rfl) (Nat.le_of_ble_eq_true rfl) rfl (cs_1 rfl (cs_1 (rf_cat _) (cs_1 (rf_cat _) cs_0))) (show cells + 0 ≤ 0 by omega) (show slots + 0 ≤ 0 by omega) (fun v9 f9 n9 hh => ?_)
    obtain ⟨rfl, rfl, rfl⟩ := hh
    obtain ⟨j9, hj9, h⟩ := Option.bind_eq_some_iff.mp h
    rw [hj9]
    obtain ⟨hb10, h⟩ := ck_some h
    obtain ⟨r11, hr11, h⟩ := Option.bind_eq_some_iff.mp h
    obtain ⟨fs12, hf12⟩ := isO_ex hb10
    refine aw_callV C (ci := 5) (b := j9) [va_rf x3, .int v3, .int r7.1] mv_X0_50 rfl rfl hf12 (rmX5_addPart hr11) rfl dX0_make_232 (Nat.le_of_ble_eq_true rfl) (Nat.le_of_ble_eq_true rfl) rfl (Nat.le_of_ble_eq_true rfl) (show (cells + 0) + 0 ≤ 0 by omega) (show (slots + 0) + 0 ≤ 0 by omega) (fun v9 f9 n9 hh => ?_)
    obtain ⟨rfl, rfl, rfl⟩ := hh
    refine aw_if_eq C 242 dX0_make_235 (by decide) (fun q => ?_) (fun q => ?_)
    · rw [if_pos q] at h
      refine aw_fl [none, none, none, none, none, none, none, none] trivial ?_
      exact rmX0_make_b242 C (by omega) (by omega) h
    · rw [if_neg q] at h
      refine aw_iconst C 1 dX0_make_238 ki_1 ?_
      refine aw_goto C 243 dX0_make_239 (by decide) ?_
      refine aw_fl [none, none, none, none, none, none, none, none] trivial ?_
      exact rmX0_make_b243 C (by omega) (by omega) h
def mX0_make_b202 (rec16 : Nat → (Option Nat) → (Option Nat) → Int32 → Int32 → Int32 → AH → Nat → Option (Int32 × HpN)) (v0 : Nat) (v1 : Option Nat) (v2 : Option Nat) (v3 : Int32) (v4 : Int32) (v5 : Int32) (s0 : Option Nat) (s1 : Int32) (f : AH) (n : Nat) : Option (Int32 × HpN) := ((s0).bind fun j1 => ((pO f j1 3 11 (.int s1)).bind fun f2 => rec16 v0 v1 v2 v3 v4 (v5 + (1 : Int32)) f2 n))
set_option maxHeartbeats 1000000 in
theorem rmX0_make_b202 {X : GX} {p : Program} {l : Launch} {e : Env} {s : State} {m : MethodId} {args : Array Value} {below : List Frame} {meth : Method} {c : Code} {r : Int32 × HpN} {rec16 : Nat → (Option Nat) → (Option Nat) → Int32 → Int32 → Int32 → AH → Nat → Option (Int32 × HpN)} {v0 : Nat} {v1 : Option Nat} {v2 : Option Nat} {v3 : Int32} {v4 : Int32} {v5 : Int32} {s0 : Option Nat} {s1 : Int32} {f : AH} {n cells slots : Nat} (C : CC X p l (RM 4 0 0) s m args meth c RX0 cX0_make 8 (some .boolean)) (Hr16 : ∀ (v0 : Nat) (v1 : Option Nat) (v2 : Option Nat) (v3 : Int32) (v4 : Int32) (v5 : Int32) (f : AH) (n cells slots : Nat), cells + 0 ≤ 0 → slots + 0 ≤ 0 → rec16 v0 v1 v2 v3 v4 v5 f n = some r → AW X p l e (RM 4 0 0) s m args below meth c 8 (ZM X below args s 0 0 (QHi r)) f n cells slots 16 [some (.ref v0), some (va_rf v1), some (va_rf v2), some (.int v3), some (.int v4), some (.int v5), none, none] []) (hc : cells + 0 ≤ 0) (hs : slots + 0 ≤ 0) (h : mX0_make_b202 rec16 v0 v1 v2 v3 v4 v5 s0 s1 f n = some r) : AW X p l e (RM 4 0 0) s m args below meth c 8 (ZM X below args s 0 0 (QHi r)) f n cells slots 202 [some (.ref v0), some (va_rf v1), some (va_rf v2), some (.int v3), some (.int v4), some (.int v5), none, none] [.int s1, va_rf s0] := by
  have h : ((s0).bind fun j1 => ((pO f j1 3 11 (.int s1)).bind fun f2 => rec16 v0 v1 v2 v3 v4 (v5 + (1 : Int32)) f2 n)) = some r := h
  obtain ⟨j1, hj1, h⟩ := Option.bind_eq_some_iff.mp h
  rw [hj1]
  obtain ⟨f2, hf2, h⟩ := Option.bind_eq_some_iff.mp h
  refine ah_put C gf_X0_75 cf3 nf3_11 rfl rfl hf2 dX0_make_202 ?_
  refine aw_iinc C (v5 + (1 : Int32)) dX0_make_205 rfl (by rw [ki_1]) (by decide) rfl ?_
  refine aw_nl [some (.ref v0), some (va_rf v1), some (va_rf v2), some (.int v3), some (.int v4), some (.int (v5 + (1 : Int32))), none, none] rfl ?_
  refine aw_goto C 16 dX0_make_208 (by decide) ?_
  refine aw_fl [some (.ref v0), some (va_rf v1), some (va_rf v2), some (.int v3), some (.int v4), some (.int (v5 + (1 : Int32))), none, none] ⟨rfl, ⟨rfl, ⟨rfl, ⟨rfl, ⟨rfl, ⟨rfl, trivial⟩⟩⟩⟩⟩⟩ ?_
  exact Hr16 v0 v1 v2 v3 v4 (v5 + (1 : Int32)) f2 n _ _ (by omega) (by omega) h
def mX0_make_b169 (rec16 : Nat → (Option Nat) → (Option Nat) → Int32 → Int32 → Int32 → AH → Nat → Option (Int32 × HpN)) (v0 : Nat) (v1 : Option Nat) (v2 : Option Nat) (v3 : Int32) (v4 : Int32) (v5 : Int32) (v6 : Option Nat) (v7 : Option Nat) (f : AH) (n : Nat) : Option (Int32 × HpN) := ((gR f v0 0 0).bind fun x1 => ((x1).bind fun j2 => rCk (isO f j2 5) (((mX5_size j2 f n).bind fun r4 => ((v6).bind fun j6 => ((gI r4.2.1 j6 3 9).bind fun x7 => ((pO r4.2.1 j6 3 10 (.int (r4.1 - x7))).bind fun f8 => (oN v7 (mX0_make_b202 rec16 v0 v1 v2 v3 v4 v5 (some j6) (0 : Int32) f8 r4.2.2) (fun j9 => ((gI f8 v0 0 3).bind fun x10 => mX0_make_b202 rec16 v0 v1 v2 v3 v4 v5 (some j6) x10 f8 r4.2.2))))))))))
set_option maxHeartbeats 1000000 in
theorem rmX0_make_b169 {X : GX} {p : Program} {l : Launch} {e : Env} {s : State} {m : MethodId} {args : Array Value} {below : List Frame} {meth : Method} {c : Code} {r : Int32 × HpN} {rec16 : Nat → (Option Nat) → (Option Nat) → Int32 → Int32 → Int32 → AH → Nat → Option (Int32 × HpN)} {v0 : Nat} {v1 : Option Nat} {v2 : Option Nat} {v3 : Int32} {v4 : Int32} {v5 : Int32} {v6 : Option Nat} {v7 : Option Nat} {f : AH} {n cells slots : Nat} (C : CC X p l (RM 4 0 0) s m args meth c RX0 cX0_make 8 (some .boolean)) (Hr16 : ∀ (v0 : Nat) (v1 : Option Nat) (v2 : Option Nat) (v3 : Int32) (v4 : Int32) (v5 : Int32) (f : AH) (n cells slots : Nat), cells + 0 ≤ 0 → slots + 0 ≤ 0 → rec16 v0 v1 v2 v3 v4 v5 f n = some r → AW X p l e (RM 4 0 0) s m args below meth c 8 (ZM X below args s 0 0 (QHi r)) f n cells slots 16 [some (.ref v0), some (va_rf v1), some (va_rf v2), some (.int v3), some (.int v4), some (.int v5), none, none] []) (hc : cells + 0 ≤ 0) (hs : slots + 0 ≤ 0) (h : mX0_make_b169 rec16 v0 v1 v2 v3 v4 v5 v6 v7 f n = some r) : AW X p l e (RM 4 0 0) s m args below meth c 8 (ZM X below args s 0 0 (QHi r)) f n cells slots 169 [some (.ref v0), some (va_rf v1), some (va_rf v2), some (.int v3), some (.int v4), some (.int v5), some (va_rf v6), some (va_rf v7)] [] := by
  have h : ((gR f v0 0 0).bind fun x1 => ((x1).bind fun j2 => rCk (isO f j2 5) (((mX5_size j2 f n).bind fun r4 => ((v6).bind fun j6 => ((gI r4.2.1 j6 3 9).bind fun x7 => ((pO r4.2.1 j6 3 10 (.int (r4.1 - x7))).bind fun f8 => (oN v7 (mX0_make_b202 rec16 v0 v1 v2 v3 v4 v5 (some j6) (0 : Int32) f8 r4.2.2) (fun j9 => ((gI f8 v0 0 3).bind fun x10 => mX0_make_b202 rec16 v0 v1 v2 v3 v4 v5 (some j6) x10 f8 r4.2.2)))))))))) = some r := h
  refine aw_aload C dX0_make_169 rfl (rf_or v6) ?_
  refine aw_ald_n C dX0_make_171 rfl ?_
  obtain ⟨x1, hx1, h⟩ := Option.bind_eq_some_iff.mp h
  refine ah_getR C gf_X0_14 hx1 dX0_make_172 ?_
  obtain ⟨j2, hj2, h⟩ := Option.bind_eq_some_iff.mp h
  rw [hj2]
  obtain ⟨hb3, h⟩ := ck_some h
  obtain ⟨r4, hr4, h⟩ := Option.bind_eq_some_iff.mp h
  obtain ⟨fs5, hf5⟩ := isO_ex hb3
  refine aw_callV C (ci := 5) (b := j2) [] mv_X0_57 rfl rfl hf5 (rmX5_size hr4) rfl dX0_make_175 (Nat.le_of_ble_eq_true rfl) (Nat.le_of_ble_eq_true rfl) rfl (cs_1 (rf_cat _) cs_0) (show cells + 0 ≤ 0 by omega) (show slots + 0 ≤ 0 by omega) (fun v9 f9 n9 hh => ?_)
  obtain ⟨rfl, rfl, rfl⟩ := hh
  refine aw_aload C dX0_make_178 rfl (rf_or v6) ?_
  obtain ⟨j6, hj6, h⟩ := Option.bind_eq_some_iff.mp h
  rw [hj6]
  obtain ⟨x7, hx7, h⟩ := Option.bind_eq_some_iff.mp h
  refine ah_getI C gf_X0_58 hx7 dX0_make_180 ?_
  refine aw_isub C dX0_make_183 ?_
  obtain ⟨f8, hf8, h⟩ := Option.bind_eq_some_iff.mp h
  refine ah_put C gf_X0_69 cf3 nf3_10 rfl rfl hf8 dX0_make_184 ?_
  refine aw_ald C dX0_make_187 rfl ?_
  refine aw_aload C dX0_make_189 rfl (rf_or v7) ?_
  cases v7 with
  | none =>
    replace h : mX0_make_b202 rec16 v0 v1 v2 v3 v4 v5 (some j6) (0 : Int32) f8 r4.2.2 = some r := h
    refine aw_ifnonnull_n C 198 dX0_make_191 (by decide) ?_
    refine aw_iconst C 0 dX0_make_194 ki_0 ?_
    refine aw_goto C 202 dX0_make_195 (by decide) ?_
    refine aw_fl [some (.ref v0), some (va_rf v1), some (va_rf v2), some (.int v3), some (.int v4), some (.int v5), none, none] ⟨rfl, ⟨rfl, ⟨rfl, ⟨rfl, ⟨rfl, ⟨rfl, trivial⟩⟩⟩⟩⟩⟩ ?_
    exact rmX0_make_b202 C Hr16 (by omega) (by omega) h
  | some j9 =>
    replace h : ((gI f8 v0 0 3).bind fun x10 => mX0_make_b202 rec16 v0 v1 v2 v3 v4 v5 (some j6) x10 f8 r4.2.2) = some r := h
    refine aw_ifnonnull_r C 198 dX0_make_191 (by decide) ?_
    refine aw_ald_n C dX0_make_198 rfl ?_
    obtain ⟨x10, hx10, h⟩ := Option.bind_eq_some_iff.mp h
    refine ah_getI C gf_X0_72 hx10 dX0_make_199 ?_
    refine aw_fl [some (.ref v0), some (va_rf v1), some (va_rf v2), some (.int v3), some (.int v4), some (.int v5), none, none] ⟨rfl, ⟨rfl, ⟨rfl, ⟨rfl, ⟨rfl, ⟨rfl, trivial⟩⟩⟩⟩⟩⟩ ?_
    exact rmX0_make_b202 C Hr16 (by omega) (by omega) h
def mX0_make_b166 (rec16 : Nat → (Option Nat) → (Option Nat) → Int32 → Int32 → Int32 → AH → Nat → Option (Int32 × HpN)) (v0 : Nat) (v1 : Option Nat) (v2 : Option Nat) (v3 : Int32) (v5 : Int32) (v6 : Option Nat) (v7 : Option Nat) (s0 : Int32) (s1 : Int32) (f : AH) (n : Nat) : Option (Int32 × HpN) := mX0_make_b169 rec16 v0 v1 v2 v3 (s0 &&& s1) v5 v6 v7 f n
set_option maxHeartbeats 1000000 in
theorem rmX0_make_b166 {X : GX} {p : Program} {l : Launch} {e : Env} {s : State} {m : MethodId} {args : Array Value} {below : List Frame} {meth : Method} {c : Code} {r : Int32 × HpN} {rec16 : Nat → (Option Nat) → (Option Nat) → Int32 → Int32 → Int32 → AH → Nat → Option (Int32 × HpN)} {v0 : Nat} {v1 : Option Nat} {v2 : Option Nat} {v3 : Int32} {v5 : Int32} {v6 : Option Nat} {v7 : Option Nat} {s0 : Int32} {s1 : Int32} {f : AH} {n cells slots : Nat} (C : CC X p l (RM 4 0 0) s m args meth c RX0 cX0_make 8 (some .boolean)) (Hr16 : ∀ (v0 : Nat) (v1 : Option Nat) (v2 : Option Nat) (v3 : Int32) (v4 : Int32) (v5 : Int32) (f : AH) (n cells slots : Nat), cells + 0 ≤ 0 → slots + 0 ≤ 0 → rec16 v0 v1 v2 v3 v4 v5 f n = some r → AW X p l e (RM 4 0 0) s m args below meth c 8 (ZM X below args s 0 0 (QHi r)) f n cells slots 16 [some (.ref v0), some (va_rf v1), some (va_rf v2), some (.int v3), some (.int v4), some (.int v5), none, none] []) (hc : cells + 0 ≤ 0) (hs : slots + 0 ≤ 0) (h : mX0_make_b166 rec16 v0 v1 v2 v3 v5 v6 v7 s0 s1 f n = some r) : AW X p l e (RM 4 0 0) s m args below meth c 8 (ZM X below args s 0 0 (QHi r)) f n cells slots 166 [some (.ref v0), some (va_rf v1), some (va_rf v2), some (.int v3), none, some (.int v5), some (va_rf v6), some (va_rf v7)] [.int s1, .int s0] := by
  have h : mX0_make_b169 rec16 v0 v1 v2 v3 (s0 &&& s1) v5 v6 v7 f n = some r := h
  refine aw_iand C dX0_make_166 ?_
  refine aw_istore C dX0_make_167 (by decide) rfl ?_
  refine aw_nl [some (.ref v0), some (va_rf v1), some (va_rf v2), some (.int v3), some (.int (s0 &&& s1)), some (.int v5), some (va_rf v6), some (va_rf v7)] rfl ?_
  refine aw_fl [some (.ref v0), some (va_rf v1), some (va_rf v2), some (.int v3), some (.int (s0 &&& s1)), some (.int v5), some (va_rf v6), some (va_rf v7)] ⟨rfl, ⟨rfl, ⟨rfl, ⟨rfl, ⟨rfl, ⟨rfl, ⟨rfl, ⟨rfl, trivial⟩⟩⟩⟩⟩⟩⟩⟩ ?_
  exact rmX0_make_b169 C Hr16 (by omega) (by omega) h
def mX0_make_b165 (rec16 : Nat → (Option Nat) → (Option Nat) → Int32 → Int32 → Int32 → AH → Nat → Option (Int32 × HpN)) (v0 : Nat) (v1 : Option Nat) (v2 : Option Nat) (v3 : Int32) (v5 : Int32) (v6 : Option Nat) (v7 : Option Nat) (s0 : Int32) (f : AH) (n : Nat) : Option (Int32 × HpN) := mX0_make_b166 rec16 v0 v1 v2 v3 v5 v6 v7 s0 (0 : Int32) f n
set_option maxHeartbeats 1000000 in
theorem rmX0_make_b165 {X : GX} {p : Program} {l : Launch} {e : Env} {s : State} {m : MethodId} {args : Array Value} {below : List Frame} {meth : Method} {c : Code} {r : Int32 × HpN} {rec16 : Nat → (Option Nat) → (Option Nat) → Int32 → Int32 → Int32 → AH → Nat → Option (Int32 × HpN)} {v0 : Nat} {v1 : Option Nat} {v2 : Option Nat} {v3 : Int32} {v5 : Int32} {v6 : Option Nat} {v7 : Option Nat} {s0 : Int32} {f : AH} {n cells slots : Nat} (C : CC X p l (RM 4 0 0) s m args meth c RX0 cX0_make 8 (some .boolean)) (Hr16 : ∀ (v0 : Nat) (v1 : Option Nat) (v2 : Option Nat) (v3 : Int32) (v4 : Int32) (v5 : Int32) (f : AH) (n cells slots : Nat), cells + 0 ≤ 0 → slots + 0 ≤ 0 → rec16 v0 v1 v2 v3 v4 v5 f n = some r → AW X p l e (RM 4 0 0) s m args below meth c 8 (ZM X below args s 0 0 (QHi r)) f n cells slots 16 [some (.ref v0), some (va_rf v1), some (va_rf v2), some (.int v3), some (.int v4), some (.int v5), none, none] []) (hc : cells + 0 ≤ 0) (hs : slots + 0 ≤ 0) (h : mX0_make_b165 rec16 v0 v1 v2 v3 v5 v6 v7 s0 f n = some r) : AW X p l e (RM 4 0 0) s m args below meth c 8 (ZM X below args s 0 0 (QHi r)) f n cells slots 165 [some (.ref v0), some (va_rf v1), some (va_rf v2), some (.int v3), none, some (.int v5), some (va_rf v6), some (va_rf v7)] [.int s0] := by
  have h : mX0_make_b166 rec16 v0 v1 v2 v3 v5 v6 v7 s0 (0 : Int32) f n = some r := h
  refine aw_iconst C 0 dX0_make_165 ki_0 ?_
  refine aw_fl [some (.ref v0), some (va_rf v1), some (va_rf v2), some (.int v3), none, some (.int v5), some (va_rf v6), some (va_rf v7)] ⟨rfl, ⟨rfl, ⟨rfl, ⟨rfl, ⟨rfl, ⟨rfl, ⟨rfl, trivial⟩⟩⟩⟩⟩⟩⟩ ?_
  exact rmX0_make_b166 C Hr16 (by omega) (by omega) h
def mX0_make_l16 : Nat → Nat → (Option Nat) → (Option Nat) → Int32 → Int32 → Int32 → AH → Nat → Option (Int32 × HpN)
  | 0, _, _, _, _, _, _, _, _ => none
  | d + 1, v0, v1, v2, v3, v4, v5, f, n => ((v2).bind fun j1 => rCk (isO f j1 1) (((mX1_size j1 f n).bind fun r3 => (if r3.1 ≤ v5 then mX0_make_b211 v0 v1 v3 v4 r3.2.1 r3.2.2 else (if v4 = (0 : Int32) then mX0_make_b211 v0 v1 v3 v4 r3.2.1 r3.2.2 else rCk (isO r3.2.1 j1 1) (((mX1_get j1 v5 r3.2.1 r3.2.2).bind fun r6 => ((some r6.1).bind fun x8 => (oN x8 (mX0_make_b211 v0 v1 v3 v4 r6.2.1 r6.2.2) (fun j9 => ((gR r6.2.1 v0 0 0).bind fun x10 => ((v1).bind fun j11 => ((gR r6.2.1 j11 7 0).bind fun x12 => ((gI r6.2.1 j9 3 0).bind fun x13 => ((x10).bind fun j14 => rCk (isO r6.2.1 j14 5) (((mX5_addPart j14 x12 v3 x13 r6.2.1 r6.2.2).bind fun r16 => ((gI r16.2.1 j9 3 1).bind fun x18 => ((gR r16.2.1 v0 0 0).bind fun x19 => ((x19).bind fun j20 => rCk (isO r16.2.1 j20 5) (((mX5_size j20 r16.2.1 r16.2.2).bind fun r22 => ((pO r22.2.1 j9 3 9 (.int r22.1)).bind fun f24 => rCk (isO f24 j11 7) (((mX7_toldFor j11 v5 f24 r22.2.2).bind fun r26 => ((some r26.1).bind fun x28 => (oN x28 (((gR r26.2.1 v0 0 0).bind fun x30 => ((gR r26.2.1 j11 7 0).bind fun x31 => ((gI r26.2.1 j9 3 0).bind fun x32 => ((gI r26.2.1 j9 3 1).bind fun x33 => ((x30).bind fun j34 => rCk (isO r26.2.1 j34 5) (((mX5_addPart j34 x31 x32 x33 r26.2.1 r26.2.2).bind fun r36 => mX0_make_b169 (fun v0 v1 v2 v3 v4 v5 f n => mX0_make_l16 d v0 v1 v2 v3 v4 v5 f n) v0 (some j11) (some j1) x18 (r16.1 &&& r36.1) v5 (some j9) (none : Option Nat) r36.2.1 r36.2.2)))))))) (fun j29 => rCk (isO r26.2.1 v0 0) (((mX0_escape v0 (some j29) (some j9) (some j11) r26.2.1 r26.2.2).bind fun r39 => (if r39.1 = (0 : Int32) then mX0_make_b165 (fun v0 v1 v2 v3 v4 v5 f n => mX0_make_l16 d v0 v1 v2 v3 v4 v5 f n) v0 (some j11) (some j1) x18 v5 (some j9) (some j29) r16.1 r39.2.1 r39.2.2 else ((gR r39.2.1 v0 0 0).bind fun x41 => ((gR r39.2.1 v0 0 1).bind fun x42 => ((gR r39.2.1 v0 0 1).bind fun x43 => ((x43).bind fun j44 => rCk (isO r39.2.1 j44 5) (((mX5_size j44 r39.2.1 r39.2.2).bind fun r46 => ((x41).bind fun j48 => rCk (isO r46.2.1 j48 5) (((mX5_addPart j48 x42 (0 : Int32) r46.1 r46.2.1 r46.2.2).bind fun r50 => (if r50.1 = (0 : Int32) then mX0_make_b165 (fun v0 v1 v2 v3 v4 v5 f n => mX0_make_l16 d v0 v1 v2 v3 v4 v5 f n) v0 (some j11) (some j1) x18 v5 (some j9) (some j29) r16.1 r50.2.1 r50.2.2 else mX0_make_b166 (fun v0 v1 v2 v3 v4 v5 f n => mX0_make_l16 d v0 v1 v2 v3 v4 v5 f n) v0 (some j11) (some j1) x18 v5 (some j9) (some j29) r16.1 (1 : Int32) r50.2.1 r50.2.2)))))))))))))))))))))))))))))))))))))))))
set_option maxHeartbeats 1000000 in
theorem rmX0_make_l16 {X : GX} {p : Program} {l : Launch} {e : Env} {s : State} {m : MethodId} {args : Array Value} {below : List Frame} {meth : Method} {c : Code} {r : Int32 × HpN} (C : CC X p l (RM 4 0 0) s m args meth c RX0 cX0_make 8 (some .boolean)) : ∀ (d : Nat) (v0 : Nat) (v1 : Option Nat) (v2 : Option Nat) (v3 : Int32) (v4 : Int32) (v5 : Int32) (f : AH) (n cells slots : Nat) (_ : cells + 0 ≤ 0) (_ : slots + 0 ≤ 0) (_ : mX0_make_l16 d v0 v1 v2 v3 v4 v5 f n = some r), AW X p l e (RM 4 0 0) s m args below meth c 8 (ZM X below args s 0 0 (QHi r)) f n cells slots 16 [some (.ref v0), some (va_rf v1), some (va_rf v2), some (.int v3), some (.int v4), some (.int v5), none, none] [] := by
  intro d
  induction d with
  | zero =>
    intro v0 v1 v2 v3 v4 v5 f n cells slots hc hs h
    exact nomatch (show (none : Option (Int32 × HpN)) = some r from h)
  | succ d ih =>
    intro v0 v1 v2 v3 v4 v5 f n cells slots hc hs h
    have h : ((v2).bind fun j1 => rCk (isO f j1 1) (((mX1_size j1 f n).bind fun r3 => (if r3.1 ≤ v5 then mX0_make_b211 v0 v1 v3 v4 r3.2.1 r3.2.2 else (if v4 = (0 : Int32) then mX0_make_b211 v0 v1 v3 v4 r3.2.1 r3.2.2 else rCk (isO r3.2.1 j1 1) (((mX1_get j1 v5 r3.2.1 r3.2.2).bind fun r6 => ((some r6.1).bind fun x8 => (oN x8 (mX0_make_b211 v0 v1 v3 v4 r6.2.1 r6.2.2) (fun j9 => ((gR r6.2.1 v0 0 0).bind fun x10 => ((v1).bind fun j11 => ((gR r6.2.1 j11 7 0).bind fun x12 => ((gI r6.2.1 j9 3 0).bind fun x13 => ((x10).bind fun j14 => rCk (isO r6.2.1 j14 5) (((mX5_addPart j14 x12 v3 x13 r6.2.1 r6.2.2).bind fun r16 => ((gI r16.2.1 j9 3 1).bind fun x18 => ((gR r16.2.1 v0 0 0).bind fun x19 => ((x19).bind fun j20 => rCk (isO r16.2.1 j20 5) (((mX5_size j20 r16.2.1 r16.2.2).bind fun r22 => ((pO r22.2.1 j9 3 9 (.int r22.1)).bind fun f24 => rCk (isO f24 j11 7) (((mX7_toldFor j11 v5 f24 r22.2.2).bind fun r26 => ((some r26.1).bind fun x28 => (oN x28 (((gR r26.2.1 v0 0 0).bind fun x30 => ((gR r26.2.1 j11 7 0).bind fun x31 => ((gI r26.2.1 j9 3 0).bind fun x32 => ((gI r26.2.1 j9 3 1).bind fun x33 => ((x30).bind fun j34 => rCk (isO r26.2.1 j34 5) (((mX5_addPart j34 x31 x32 x33 r26.2.1 r26.2.2).bind fun r36 => mX0_make_b169 (fun v0 v1 v2 v3 v4 v5 f n => mX0_make_l16 d v0 v1 v2 v3 v4 v5 f n) v0 (some j11) (some j1) x18 (r16.1 &&& r36.1) v5 (some j9) (none : Option Nat) r36.2.1 r36.2.2)))))))) (fun j29 => rCk (isO r26.2.1 v0 0) (((mX0_escape v0 (some j29) (some j9) (some j11) r26.2.1 r26.2.2).bind fun r39 => (if r39.1 = (0 : Int32) then mX0_make_b165 (fun v0 v1 v2 v3 v4 v5 f n => mX0_make_l16 d v0 v1 v2 v3 v4 v5 f n) v0 (some j11) (some j1) x18 v5 (some j9) (some j29) r16.1 r39.2.1 r39.2.2 else ((gR r39.2.1 v0 0 0).bind fun x41 => ((gR r39.2.1 v0 0 1).bind fun x42 => ((gR r39.2.1 v0 0 1).bind fun x43 => ((x43).bind fun j44 => rCk (isO r39.2.1 j44 5) (((mX5_size j44 r39.2.1 r39.2.2).bind fun r46 => ((x41).bind fun j48 => rCk (isO r46.2.1 j48 5) (((mX5_addPart j48 x42 (0 : Int32) r46.1 r46.2.1 r46.2.2).bind fun r50 => (if r50.1 = (0 : Int32) then mX0_make_b165 (fun v0 v1 v2 v3 v4 v5 f n => mX0_make_l16 d v0 v1 v2 v3 v4 v5 f n) v0 (some j11) (some j1) x18 v5 (some j9) (some j29) r16.1 r50.2.1 r50.2.2 else mX0_make_b166 (fun v0 v1 v2 v3 v4 v5 f n => mX0_make_l16 d v0 v1 v2 v3 v4 v5 f n) v0 (some j11) (some j1) x18 v5 (some j9) (some j29) r16.1 (1 : Int32) r50.2.1 r50.2.2))))))))))))))))))))))))))))))))))))))))) = some r := h
    refine aw_iload C dX0_make_16 rfl ?_
    refine aw_aload_n C dX0_make_18 rfl (rf_or v2) ?_
    obtain ⟨j1, hj1, h⟩ := Option.bind_eq_some_iff.mp h
    rw [hj1]
    obtain ⟨hb2, h⟩ := ck_some h
    obtain ⟨r3, hr3, h⟩ := Option.bind_eq_some_iff.mp h
    obtain ⟨fs4, hf4⟩ := isO_ex hb2
    refine aw_callV C (ci := 1) (b := j1) [] mv_X0_29 rfl rfl hf4 (rmX1_size hr3) rfl dX0_make_19 (Nat.le_of_ble_eq_true rfl) (Nat.le_of_ble_eq_true rfl) rfl (Nat.le_of_ble_eq_true rfl) (show cells + 0 ≤ 0 by omega) (show slots + 0 ≤ 0 by omega) (fun v9 f9 n9 hh => ?_)
    obtain ⟨rfl, rfl, rfl⟩ := hh
    refine aw_icmp_ge C 211 dX0_make_22 (by decide) (fun q => ?_) (fun q => ?_)
    · rw [if_pos q] at h
      refine aw_fl [some (.ref v0), some (va_rf v1), none, some (.int v3), some (.int v4), none, none, none] ⟨rfl, ⟨rfl, ⟨rfl, ⟨rfl, trivial⟩⟩⟩⟩ ?_
      exact rmX0_make_b211 C (by omega) (by omega) h
    · rw [if_neg q] at h
      refine aw_iload C dX0_make_25 rfl ?_
      refine aw_if_eq C 211 dX0_make_27 (by decide) (fun q => ?_) (fun q => ?_)
      · rw [if_pos q] at h
        refine aw_fl [some (.ref v0), some (va_rf v1), none, some (.int v3), some (.int v4), none, none, none] ⟨rfl, ⟨rfl, ⟨rfl, ⟨rfl, trivial⟩⟩⟩⟩ ?_
        exact rmX0_make_b211 C (by omega) (by omega) h
      · rw [if_neg q] at h
        refine aw_ald_n C dX0_make_30 rfl ?_
        refine aw_iload C dX0_make_31 rfl ?_
        obtain ⟨hb5, h⟩ := ck_some h
        obtain ⟨r6, hr6, h⟩ := Option.bind_eq_some_iff.mp h
        obtain ⟨fs7, hf7⟩ := isO_ex hb5
        refine aw_callV C (ci := 1) (b := j1) [.int v5] mv_X0_35 rfl rfl hf7 (rmX1_get hr6) rfl dX0_make_33 (Nat.le_of_ble_eq_true rfl) (Nat.le_of_ble_eq_true rfl) rfl (Nat.le_of_ble_eq_true rfl) (show (cells + 0) + 0 ≤ 0 by omega) (show (slots + 0) + 0 ≤ 0 by omega) (fun v9 f9 n9 hh => ?_)
        obtain ⟨rfl, rfl, rfl⟩ := hh
        obtain ⟨x8, hx8, h⟩ := Option.bind_eq_some_iff.mp h
        rw [Option.some.inj hx8]
        refine aw_astore C dX0_make_36 (by decide) rfl (rf_or x8) ?_
        refine aw_nl [some (.ref v0), some (va_rf v1), some (.ref j1), some (.int v3), some (.int v4), some (.int v5), some (va_rf x8), none] rfl ?_
        refine aw_aload C dX0_make_38 rfl (rf_or x8) ?_
        cases x8 with
        | none =>
          replace h : mX0_make_b211 v0 v1 v3 v4 r6.2.1 r6.2.2 = some r := h
          refine aw_ifnonnull_n C 46 dX0_make_40 (by decide) ?_
          refine aw_goto C 211 dX0_make_43 (by decide) ?_
          refine aw_fl [some (.ref v0), some (va_rf v1), none, some (.int v3), some (.int v4), none, none, none] ⟨rfl, ⟨rfl, ⟨rfl, ⟨rfl, trivial⟩⟩⟩⟩ ?_
          exact rmX0_make_b211 C (by omega) (by omega) h
        | some j9 =>
          replace h : ((gR r6.2.1 v0 0 0).bind fun x10 => ((v1).bind fun j11 => ((gR r6.2.1 j11 7 0).bind fun x12 => ((gI r6.2.1 j9 3 0).bind fun x13 => ((x10).bind fun j14 => rCk (isO r6.2.1 j14 5) (((mX5_addPart j14 x12 v3 x13 r6.2.1 r6.2.2).bind fun r16 => ((gI r16.2.1 j9 3 1).bind fun x18 => ((gR r16.2.1 v0 0 0).bind fun x19 => ((x19).bind fun j20 => rCk (isO r16.2.1 j20 5) (((mX5_size j20 r16.2.1 r16.2.2).bind fun r22 => ((pO r22.2.1 j9 3 9 (.int r22.1)).bind fun f24 => rCk (isO f24 j11 7) (((mX7_toldFor j11 v5 f24 r22.2.2).bind fun r26 => ((some r26.1).bind fun x28 => (oN x28 (((gR r26.2.1 v0 0 0).bind fun x30 => ((gR r26.2.1 j11 7 0).bind fun x31 => ((gI r26.2.1 j9 3 0).bind fun x32 => ((gI r26.2.1 j9 3 1).bind fun x33 => ((x30).bind fun j34 => rCk (isO r26.2.1 j34 5) (((mX5_addPart j34 x31 x32 x33 r26.2.1 r26.2.2).bind fun r36 => mX0_make_b169 (fun v0 v1 v2 v3 v4 v5 f n => mX0_make_l16 d v0 v1 v2 v3 v4 v5 f n) v0 (some j11) (some j1) x18 (r16.1 &&& r36.1) v5 (some j9) (none : Option Nat) r36.2.1 r36.2.2)))))))) (fun j29 => rCk (isO r26.2.1 v0 0) (((mX0_escape v0 (some j29) (some j9) (some j11) r26.2.1 r26.2.2).bind fun r39 => (if r39.1 = (0 : Int32) then mX0_make_b165 (fun v0 v1 v2 v3 v4 v5 f n => mX0_make_l16 d v0 v1 v2 v3 v4 v5 f n) v0 (some j11) (some j1) x18 v5 (some j9) (some j29) r16.1 r39.2.1 r39.2.2 else ((gR r39.2.1 v0 0 0).bind fun x41 => ((gR r39.2.1 v0 0 1).bind fun x42 => ((gR r39.2.1 v0 0 1).bind fun x43 => ((x43).bind fun j44 => rCk (isO r39.2.1 j44 5) (((mX5_size j44 r39.2.1 r39.2.2).bind fun r46 => ((x41).bind fun j48 => rCk (isO r46.2.1 j48 5) (((mX5_addPart j48 x42 (0 : Int32) r46.1 r46.2.1 r46.2.2).bind fun r50 => (if r50.1 = (0 : Int32) then mX0_make_b165 (fun v0 v1 v2 v3 v4 v5 f n => mX0_make_l16 d v0 v1 v2 v3 v4 v5 f n) v0 (some j11) (some j1) x18 v5 (some j9) (some j29) r16.1 r50.2.1 r50.2.2 else mX0_make_b166 (fun v0 v1 v2 v3 v4 v5 f n => mX0_make_l16 d v0 v1 v2 v3 v4 v5 f n) v0 (some j11) (some j1) x18 v5 (some j9) (some j29) r16.1 (1 : Int32) r50.2.1 r50.2.2))))))))))))))))))))))))))))))) = some r := h
          refine aw_ifnonnull_r C 46 dX0_make_40 (by decide) ?_
          refine aw_ald_n C dX0_make_46 rfl ?_
          obtain ⟨x10, hx10, h⟩ := Option.bind_eq_some_iff.mp h
          refine ah_getR C gf_X0_14 hx10 dX0_make_47 ?_
          refine aw_aload_n C dX0_make_50 rfl (rf_or v1) ?_
          obtain ⟨j11, hj11, h⟩ := Option.bind_eq_some_iff.mp h
          rw [hj11]
          obtain ⟨x12, hx12, h⟩ := Option.bind_eq_some_iff.mp h
          refine ah_getR C gf_X0_39 hx12 dX0_make_51 ?_
          refine aw_iload_n C dX0_make_54 rfl ?_
          refine aw_ald C dX0_make_55 rfl ?_
          obtain ⟨x13, hx13, h⟩ := Option.bind_eq_some_iff.mp h
          refine ah_getI C gf_X0_44 hx13 dX0_make_57 ?_
          obtain ⟨j14, hj14, h⟩ := Option.bind_eq_some_iff.mp h
          rw [hj14]
          obtain ⟨hb15, h⟩ := ck_some h
          obtain ⟨r16, hr16, h⟩ := Option.bind_eq_some_iff.mp h
          obtain ⟨fs17, hf17⟩ := isO_ex hb15
          refine aw_callV C (ci := 5) (b := j14) [va_rf x12, .int v3, .int x13] mv_X0_50 rfl rfl hf17 (rmX5_addPart hr16) rfl dX0_make_60 (Nat.le_of_ble_eq_true rfl) (Nat.le_of_ble_eq_true rfl) rfl (Nat.le_of_ble_eq_true rfl) (show ((cells + 0) + 0) + 0 ≤ 0 by omega) (show ((slots + 0) + 0) + 0 ≤ 0 by omega) (fun v9 f9 n9 hh => ?_)
          obtain ⟨rfl, rfl, rfl⟩ := hh
          refine aw_istore C dX0_make_63 (by decide) rfl ?_
          refine aw_nl [some (.ref v0), some (.ref j11), some (.ref j1), some (.int v3), some (.int r16.1), some (.int v5), some (.ref j9), none] rfl ?_
          refine aw_ald C dX0_make_65 rfl ?_
          obtain ⟨x18, hx18, h⟩ := Option.bind_eq_some_iff.mp h
          refine ah_getI C gf_X0_54 hx18 dX0_make_67 ?_
          refine aw_istore_n C dX0_make_70 (by decide) rfl ?_
          refine aw_nl [some (.ref v0), some (.ref j11), some (.ref j1), some (.int x18), some (.int r16.1), some (.int v5), some (.ref j9), none] rfl ?_
          refine aw_ald C dX0_make_71 rfl ?_
          refine aw_ald_n C dX0_make_73 rfl ?_
          obtain ⟨x19, hx19, h⟩ := Option.bind_eq_some_iff.mp h
          refine ah_getR C gf_X0_14 hx19 dX0_make_74 ?_
          obtain ⟨j20, hj20, h⟩ := Option.bind_eq_some_iff.mp h
          rw [hj20]
          obtain ⟨hb21, h⟩ := ck_some h
          obtain ⟨r22, hr22, h⟩ := Option.bind_eq_some_iff.mp h
          obtain ⟨fs23, hf23⟩ := isO_ex hb21
          refine aw_callV C (ci := 5) (b := j20) [] mv_X0_57 rfl rfl hf23 (rmX5_size hr22) rfl dX0_make_77 (Nat.le_of_ble_eq_true rfl) (Nat.le_of_ble_eq_true rfl) rfl (Nat.le_of_ble_eq_true rfl) (show (((cells + 0) + 0) + 0) + 0 ≤ 0 by omega) (show (((slots + 0) + 0) + 0) + 0 ≤ 0 by omega) (fun v9 f9 n9 hh => ?_)
          obtain ⟨rfl, rfl, rfl⟩ := hh
          obtain ⟨f24, hf24, h⟩ := Option.bind_eq_some_iff.mp h
          refine ah_put C gf_X0_58 cf3 nf3_9 rfl rfl hf24 dX0_make_80 ?_
          refine aw_ald_n C dX0_make_83 rfl ?_
          refine aw_iload C dX0_make_84 rfl ?_
          obtain ⟨hb25, h⟩ := ck_some h
          obtain ⟨r26, hr26, h⟩ := Option.bind_eq_some_iff.mp h
          obtain ⟨fs27, hf27⟩ := isO_ex hb25
          refine aw_callV C (ci := 7) (b := j11) [.int v5] mv_X0_61 rfl rfl hf27 (rmX7_toldFor hr26) rfl dX0_make_86 (Nat.le_of_ble_eq_true rfl) (Nat.le_of_ble_eq_true rfl) rfl (Nat.le_of_ble_eq_true rfl) (show ((((cells + 0) + 0) + 0) + 0) + 0 ≤ 0 by omega) (show ((((slots + 0) + 0) + 0) + 0) + 0 ≤ 0 by omega) (fun v9 f9 n9 hh => ?_)
          obtain ⟨rfl, rfl, rfl⟩ := hh
          obtain ⟨x28, hx28, h⟩ := Option.bind_eq_some_iff.mp h
          rw [Option.some.inj hx28]
          refine aw_astore C dX0_make_89 (by decide) rfl (rf_or x28) ?_
          refine aw_nl [some (.ref v0), some (.ref j11), some (.ref j1), some (.int x18), some (.int r16.1), some (.int v5), some (.ref j9), some (va_rf x28)] rfl ?_
          refine aw_aload C dX0_make_91 rfl (rf_or x28) ?_
          cases x28 with
          | none =>
            replace h : ((gR r26.2.1 v0 0 0).bind fun x30 => ((gR r26.2.1 j11 7 0).bind fun x31 => ((gI r26.2.1 j9 3 0).bind fun x32 => ((gI r26.2.1 j9 3 1).bind fun x33 => ((x30).bind fun j34 => rCk (isO r26.2.1 j34 5) (((mX5_addPart j34 x31 x32 x33 r26.2.1 r26.2.2).bind fun r36 => mX0_make_b169 (fun v0 v1 v2 v3 v4 v5 f n => mX0_make_l16 d v0 v1 v2 v3 v4 v5 f n) v0 (some j11) (some j1) x18 (r16.1 &&& r36.1) v5 (some j9) (none : Option Nat) r36.2.1 r36.2.2))))))) = some r := h
            refine aw_ifnonnull_n C 125 dX0_make_93 (by decide) ?_
            refine aw_iload C dX0_make_96 rfl ?_
            refine aw_ald_n C dX0_make_98 rfl ?_
            obtain ⟨x30, hx30, h⟩ := Option.bind_eq_some_iff.mp h
            refine ah_getR C gf_X0_14 hx30 dX0_make_99 ?_
            refine aw_ald_n C dX0_make_102 rfl ?_
            obtain ⟨x31, hx31, h⟩ := Option.bind_eq_some_iff.mp h
            refine ah_getR C gf_X0_39 hx31 dX0_make_103 ?_
            refine aw_ald C dX0_make_106 rfl ?_
            obtain ⟨x32, hx32, h⟩ := Option.bind_eq_some_iff.mp h
            refine ah_getI C gf_X0_44 hx32 dX0_make_108 ?_
            refine aw_ald C dX0_make_111 rfl ?_
            obtain ⟨x33, hx33, h⟩ := Option.bind_eq_some_iff.mp h
            refine ah_getI C gf_X0_54 hx33 dX0_make_113 ?_
            obtain ⟨j34, hj34, h⟩ := Option.bind_eq_some_iff.mp h
            rw [hj34]
            obtain ⟨hb35, h⟩ := ck_some h
            obtain ⟨r36, hr36, h⟩ := Option.bind_eq_some_iff.mp h
            obtain ⟨fs37, hf37⟩ := isO_ex hb35
            refine aw_callV C (ci := 5) (b := j34) [va_rf x31, .int x32, .int x33] mv_X0_50 rfl rfl hf37 (rmX5_addPart hr36) rfl dX0_make_116 (Nat.le_of_ble_eq_true rfl) (Nat.le_of_ble_eq_true rfl) rfl (Nat.le_of_ble_eq_true rfl) (show (((((cells + 0) + 0) + 0) + 0) + 0) + 0 ≤ 0 by omega) (show (((((slots + 0) + 0) + 0) + 0) + 0) + 0 ≤ 0 by omega) (fun v9 f9 n9 hh => ?_)
            obtain ⟨rfl, rfl, rfl⟩ := hh
            refine aw_iand C dX0_make_119 ?_
            refine aw_istore C dX0_make_120 (by decide) rfl ?_
            refine aw_nl [some (.ref v0), some (.ref j11), some (.ref j1), some (.int x18), some (.int (r16.1 &&& r36.1)), some (.int v5), some (.ref j9), some (.null)] rfl ?_
            refine aw_goto C 169 dX0_make_122 (by decide) ?_
            refine aw_fl [some (.ref v0), some (va_rf (some j11)), some (va_rf (some j1)), some (.int x18), some (.int (r16.1 &&& r36.1)), some (.int v5), some (va_rf (some j9)), some (va_rf (none : Option Nat))] ⟨rfl, ⟨rfl, ⟨rfl, ⟨rfl, ⟨rfl, ⟨rfl, ⟨rfl, ⟨rfl, trivial⟩⟩⟩⟩⟩⟩⟩⟩ ?_
            exact rmX0_make_b169 C (fun v0 v1 v2 v3 v4 v5 f n cells slots hc hs h => ih v0 v1 v2 v3 v4 v5 f n cells slots hc hs h) (by omega) (by omega) h
          | some j29 =>
            replace h : rCk (isO r26.2.1 v0 0) (((mX0_escape v0 (some j29) (some j9) (some j11) r26.2.1 r26.2.2).bind fun r39 => (if r39.1 = (0 : Int32) then mX0_make_b165 (fun v0 v1 v2 v3 v4 v5 f n => mX0_make_l16 d v0 v1 v2 v3 v4 v5 f n) v0 (some j11) (some j1) x18 v5 (some j9) (some j29) r16.1 r39.2.1 r39.2.2 else ((gR r39.2.1 v0 0 0).bind fun x41 => ((gR r39.2.1 v0 0 1).bind fun x42 => ((gR r39.2.1 v0 0 1).bind fun x43 => ((x43).bind fun j44 => rCk (isO r39.2.1 j44 5) (((mX5_size j44 r39.2.1 r39.2.2).bind fun r46 => ((x41).bind fun j48 => rCk (isO r46.2.1 j48 5) (((mX5_addPart j48 x42 (0 : Int32) r46.1 r46.2.1 r46.2.2).bind fun r50 => (if r50.1 = (0 : Int32) then mX0_make_b165 (fun v0 v1 v2 v3 v4 v5 f n => mX0_make_l16 d v0 v1 v2 v3 v4 v5 f n) v0 (some j11) (some j1) x18 v5 (some j9) (some j29) r16.1 r50.2.1 r50.2.2 else mX0_make_b166 (fun v0 v1 v2 v3 v4 v5 f n => mX0_make_l16 d v0 v1 v2 v3 v4 v5 f n) v0 (some j11) (some j1) x18 v5 (some j9) (some j29) r16.1 (1 : Int32) r50.2.1 r50.2.2))))))))))))) = some r := h
            refine aw_ifnonnull_r C 125 dX0_make_93 (by decide) ?_
            refine aw_iload C dX0_make_125 rfl ?_
            refine aw_ald_n C dX0_make_127 rfl ?_
            refine aw_ald C dX0_make_128 rfl ?_
            refine aw_ald C dX0_make_130 rfl ?_
            refine aw_ald_n C dX0_make_132 rfl ?_
            obtain ⟨hb38, h⟩ := ck_some h
            obtain ⟨r39, hr39, h⟩ := Option.bind_eq_some_iff.mp h
            obtain ⟨fs40, hf40⟩ := isO_ex hb38
            refine aw_callV C (ci := 0) (b := v0) [.ref j29, .ref j9, .ref j11] mv_X0_65 rfl rfl hf40 (rmX0_escape hr39) rfl dX0_make_133 (Nat.le_of_ble_eq_true rfl) (Nat.le_of_ble_eq_true rfl) rfl (Nat.le_of_ble_eq_true rfl) (show (((((cells + 0) + 0) + 0) + 0) + 0) + 0 ≤ 0 by omega) (show (((((slots + 0) + 0) + 0) + 0) + 0) + 0 ≤ 0 by omega) (fun v9 f9 n9 hh => ?_)
            obtain ⟨rfl, rfl, rfl⟩ := hh
            refine aw_if_eq C 165 dX0_make_136 (by decide) (fun q => ?_) (fun q => ?_)
            · rw [if_pos q] at h
              refine aw_fl [some (.ref v0), some (va_rf (some j11)), some (va_rf (some j1)), some (.int x18), none, some (.int v5), some (va_rf (some j9)), some (va_rf (some j29))] ⟨rfl, ⟨rfl, ⟨rfl, ⟨rfl, ⟨rfl, ⟨rfl, ⟨rfl, trivial⟩⟩⟩⟩⟩⟩⟩ ?_
              exact rmX0_make_b165 C (fun v0 v1 v2 v3 v4 v5 f n cells slots hc hs h => ih v0 v1 v2 v3 v4 v5 f n cells slots hc hs h) (by omega) (by omega) h
            · rw [if_neg q] at h
              refine aw_ald_n C dX0_make_139 rfl ?_
              obtain ⟨x41, hx41, h⟩ := Option.bind_eq_some_iff.mp h
              refine ah_getR C gf_X0_14 hx41 dX0_make_140 ?_
              refine aw_ald_n C dX0_make_143 rfl ?_
              obtain ⟨x42, hx42, h⟩ := Option.bind_eq_some_iff.mp h
              refine ah_getR C gf_X0_20 hx42 dX0_make_144 ?_
              refine aw_iconst C 0 dX0_make_147 ki_0 ?_
              refine aw_ald_n C dX0_make_148 rfl ?_
              obtain ⟨x43, hx43, h⟩ := Option.bind_eq_some_iff.mp h
              refine ah_getR C gf_X0_20 hx43 dX0_make_149 ?_
              obtain ⟨j44, hj44, h⟩ := Option.bind_eq_some_iff.mp h
              rw [hj44]
              obtain ⟨hb45, h⟩ := ck_some h
              obtain ⟨r46, hr46, h⟩ := Option.bind_eq_some_iff.mp h
              obtain ⟨fs47, hf47⟩ := isO_ex hb45
              refine aw_callV C (ci := 5) (b := j44) [] mv_X0_57 rfl rfl hf47 (rmX5_size hr46) rfl dX0_make_152 (Nat.le_of_ble_eq_true rfl) (Nat.le_of_ble_eq_true rfl) rfl (cs_1 rfl (cs_1 (rf_cat _) (cs_1 (rf_cat _) (cs_1 rfl cs_0)))) (show ((((((cells + 0) + 0) + 0) + 0) + 0) + 0) + 0 ≤ 0 by omega) (show ((((((slots + 0) + 0) + 0) + 0) + 0) + 0) + 0 ≤ 0 by omega) (fun v9 f9 n9 hh => ?_)
              obtain ⟨rfl, rfl, rfl⟩ := hh
              obtain ⟨j48, hj48, h⟩ := Option.bind_eq_some_iff.mp h
              rw [hj48]
              obtain ⟨hb49, h⟩ := ck_some h
              obtain ⟨r50, hr50, h⟩ := Option.bind_eq_some_iff.mp h
              obtain ⟨fs51, hf51⟩ := isO_ex hb49
              refine aw_callV C (ci := 5) (b := j48) [va_rf x42, .int (0 : Int32), .int r46.1] mv_X0_50 rfl rfl hf51 (rmX5_addPart hr50) rfl dX0_make_155 (Nat.le_of_ble_eq_true rfl) (Nat.le_of_ble_eq_true rfl) rfl (Nat.le_of_ble_eq_true rfl) (show (((((((cells + 0) + 0) + 0) + 0) + 0) + 0) + 0) + 0 ≤ 0 by omega) (show (((((((slots + 0) + 0) + 0) + 0) + 0) + 0) + 0) + 0 ≤ 0 by omega) (fun v9 f9 n9 hh => ?_)
              obtain ⟨rfl, rfl, rfl⟩ := hh
              refine aw_if_eq C 165 dX0_make_158 (by decide) (fun q => ?_) (fun q => ?_)
              · rw [if_pos q] at h
                refine aw_fl [some (.ref v0), some (va_rf (some j11)), some (va_rf (some j1)), some (.int x18), none, some (.int v5), some (va_rf (some j9)), some (va_rf (some j29))] ⟨rfl, ⟨rfl, ⟨rfl, ⟨rfl, ⟨rfl, ⟨rfl, ⟨rfl, trivial⟩⟩⟩⟩⟩⟩⟩ ?_
                exact rmX0_make_b165 C (fun v0 v1 v2 v3 v4 v5 f n cells slots hc hs h => ih v0 v1 v2 v3 v4 v5 f n cells slots hc hs h) (by omega) (by omega) h
              · rw [if_neg q] at h
                refine aw_iconst C 1 dX0_make_161 ki_1 ?_
                refine aw_goto C 166 dX0_make_162 (by decide) ?_
                refine aw_fl [some (.ref v0), some (va_rf (some j11)), some (va_rf (some j1)), some (.int x18), none, some (.int v5), some (va_rf (some j9)), some (va_rf (some j29))] ⟨rfl, ⟨rfl, ⟨rfl, ⟨rfl, ⟨rfl, ⟨rfl, ⟨rfl, trivial⟩⟩⟩⟩⟩⟩⟩ ?_
                exact rmX0_make_b166 C (fun v0 v1 v2 v3 v4 v5 f n cells slots hc hs h => ih v0 v1 v2 v3 v4 v5 f n cells slots hc hs h) (by omega) (by omega) h
def mX0_make (v0 : Nat) (v1 : Option Nat) (v2 : Option Nat) (f : AH) (n : Nat) : Option (Int32 × HpN) := ((gR f v0 0 0).bind fun x1 => ((x1).bind fun j2 => rCk (isO f j2 5) (((mX5_cutTo j2 (0 : Int32) f n).bind fun r4 => mX0_make_l16 rFU v0 v1 v2 (0 : Int32) (1 : Int32) (0 : Int32) r4.2.1 r4.2.2))))
set_option maxHeartbeats 1000000 in
theorem rmX0_make {X : GX} {l : Launch} {r : Int32 × HpN} {v0 : Nat} {v1 : Option Nat} {v2 : Option Nat} {f : AH} {n : Nat} (h : mX0_make v0 v1 v2 f n = some r) : AM X l yX0_make cX0_make 8 (some .boolean) 4 0 0 [.ref v0, va_rf v1, va_rf v2] f n (QHi r) := by
  have h : ((gR f v0 0 0).bind fun x1 => ((x1).bind fun j2 => rCk (isO f j2 5) (((mX5_cutTo j2 (0 : Int32) f n).bind fun r4 => mX0_make_l16 rFU v0 v1 v2 (0 : Int32) (1 : Int32) (0 : Int32) r4.2.1 r4.2.2)))) = some r := h
  refine AM.of (by decide +kernel) (all1 rfl (all1 (rf_cat _) (all1 (rf_cat _) rfl))) (Nat.le_of_ble_eq_true rfl) (fun p e s m args below meth c C hnm => ?_)
  refine aw_nl [some (.ref v0), some (va_rf v1), some (va_rf v2), none, none, none, none, none] rfl ?_
  refine aw_ald_n C dX0_make_0 rfl ?_
  obtain ⟨x1, hx1, h⟩ := Option.bind_eq_some_iff.mp h
  refine ah_getR C gf_X0_14 hx1 dX0_make_1 ?_
  refine aw_iconst C 0 dX0_make_4 ki_0 ?_
  obtain ⟨j2, hj2, h⟩ := Option.bind_eq_some_iff.mp h
  rw [hj2]
  obtain ⟨hb3, h⟩ := ck_some h
  obtain ⟨r4, hr4, h⟩ := Option.bind_eq_some_iff.mp h
  obtain ⟨fs5, hf5⟩ := isO_ex hb3
  refine aw_callV C (ci := 5) (b := j2) [.int (0 : Int32)] mv_X0_26 rfl rfl hf5 (rmX5_cutTo hr4) rfl dX0_make_5 (Nat.le_of_ble_eq_true rfl) (Nat.le_of_ble_eq_true rfl) rfl (Nat.le_of_ble_eq_true rfl) (show 0 + 0 ≤ 0 by omega) (show 0 + 0 ≤ 0 by omega) (fun v9 f9 n9 hh => ?_)
  obtain ⟨rfl, rfl, rfl⟩ := hh
  refine aw_iconst C 0 dX0_make_8 ki_0 ?_
  refine aw_istore_n C dX0_make_9 (by decide) (ok_rf 2 rfl) ?_
  refine aw_nl [some (.ref v0), some (va_rf v1), some (va_rf v2), some (.int (0 : Int32)), none, none, none, none] rfl ?_
  refine aw_iconst C 1 dX0_make_10 ki_1 ?_
  refine aw_istore C dX0_make_11 (by decide) rfl ?_
  refine aw_nl [some (.ref v0), some (va_rf v1), some (va_rf v2), some (.int (0 : Int32)), some (.int (1 : Int32)), none, none, none] rfl ?_
  refine aw_iconst C 0 dX0_make_13 ki_0 ?_
  refine aw_istore C dX0_make_14 (by decide) rfl ?_
  refine aw_nl [some (.ref v0), some (va_rf v1), some (va_rf v2), some (.int (0 : Int32)), some (.int (1 : Int32)), some (.int (0 : Int32)), none, none] rfl ?_
  refine aw_fl [some (.ref v0), some (va_rf v1), some (va_rf v2), some (.int (0 : Int32)), some (.int (1 : Int32)), some (.int (0 : Int32)), none, none] ⟨rfl, ⟨rfl, ⟨rfl, ⟨rfl, ⟨rfl, ⟨rfl, trivial⟩⟩⟩⟩⟩⟩ ?_
  exact rmX0_make_l16 C rFU v0 v1 v2 (0 : Int32) (1 : Int32) (0 : Int32) r4.2.1 r4.2.2 _ _ (by omega) (by omega) h
def mX8_cutAnew (v0 : Nat) (f : AH) (n : Nat) : Option (Int32 × HpN) := rCk (rNb (0 : Int32)) (((pO f v0 8 10 (.int (0 : Int32))).bind fun f2 => ((gR f2 v0 8 1).bind fun x3 => ((x3).bind fun j4 => rCk (isO f2 j4 7) (((mX7_forgetTold j4 f2 n).bind fun r6 => ((gR r6.2.1 v0 8 5).bind fun x8 => ((gR r6.2.1 v0 8 1).bind fun x9 => ((x9).bind fun j10 => ((gR r6.2.1 j10 7 0).bind fun x11 => ((gR r6.2.1 v0 8 1).bind fun x12 => ((x8).bind fun j13 => rCk (isO r6.2.1 j13 1) (((mX1_find j13 x11 x12 r6.2.1 r6.2.2).bind fun r15 => ((gR r15.2.1 v0 8 7).bind fun x17 => ((gR r15.2.1 v0 8 1).bind fun x18 => ((gR r15.2.1 v0 8 5).bind fun x19 => ((x17).bind fun j20 => rCk (isO r15.2.1 j20 0) (((mX0_make j20 x18 x19 r15.2.1 r15.2.2).bind fun r22 => some ((0 : Int32), (r22.2.1, r22.2.2))))))))))))))))))))))
set_option maxHeartbeats 1000000 in
theorem rmX8_cutAnew {X : GX} {l : Launch} {r : Int32 × HpN} {v0 : Nat} {f : AH} {n : Nat} (h : mX8_cutAnew v0 f n = some r) : AM X l yX8_cutAnew cX8_cutAnew 1 (some .int) 5 0 0 [.ref v0] f n (QHi r) := by
  have h : rCk (rNb (0 : Int32)) (((pO f v0 8 10 (.int (0 : Int32))).bind fun f2 => ((gR f2 v0 8 1).bind fun x3 => ((x3).bind fun j4 => rCk (isO f2 j4 7) (((mX7_forgetTold j4 f2 n).bind fun r6 => ((gR r6.2.1 v0 8 5).bind fun x8 => ((gR r6.2.1 v0 8 1).bind fun x9 => ((x9).bind fun j10 => ((gR r6.2.1 j10 7 0).bind fun x11 => ((gR r6.2.1 v0 8 1).bind fun x12 => ((x8).bind fun j13 => rCk (isO r6.2.1 j13 1) (((mX1_find j13 x11 x12 r6.2.1 r6.2.2).bind fun r15 => ((gR r15.2.1 v0 8 7).bind fun x17 => ((gR r15.2.1 v0 8 1).bind fun x18 => ((gR r15.2.1 v0 8 5).bind fun x19 => ((x17).bind fun j20 => rCk (isO r15.2.1 j20 0) (((mX0_make j20 x18 x19 r15.2.1 r15.2.2).bind fun r22 => some ((0 : Int32), (r22.2.1, r22.2.2)))))))))))))))))))))) = some r := h
  refine AM.of (by decide +kernel) rfl (Nat.le_of_ble_eq_true rfl) (fun p e s m args below meth c C hnm => ?_)
  refine aw_nl [some (.ref v0)] rfl ?_
  refine aw_ald_n C dX8_cutAnew_0 rfl ?_
  refine aw_iconst C 0 dX8_cutAnew_1 ki_0 ?_
  obtain ⟨hb1, h⟩ := ck_some h
  obtain ⟨f2, hf2, h⟩ := Option.bind_eq_some_iff.mp h
  refine ah_put C gf_X8_334 cf8 nf8_10 (nb_nar hb1) (nb_fit hb1) hf2 dX8_cutAnew_2 ?_
  refine aw_ald_n C dX8_cutAnew_5 rfl ?_
  obtain ⟨x3, hx3, h⟩ := Option.bind_eq_some_iff.mp h
  refine ah_getR C gf_X8_21 hx3 dX8_cutAnew_6 ?_
  obtain ⟨j4, hj4, h⟩ := Option.bind_eq_some_iff.mp h
  rw [hj4]
  obtain ⟨hb5, h⟩ := ck_some h
  obtain ⟨r6, hr6, h⟩ := Option.bind_eq_some_iff.mp h
  obtain ⟨fs7, hf7⟩ := isO_ex hb5
  refine aw_callV C (ci := 7) (b := j4) [] mv_X8_358 rfl rfl hf7 (rmX7_forgetTold hr6) rfl dX8_cutAnew_9 (Nat.le_of_ble_eq_true rfl) (Nat.le_of_ble_eq_true rfl) rfl (Nat.le_of_ble_eq_true rfl) (show 0 + 0 ≤ 0 by omega) (show 0 + 0 ≤ 0 by omega) (fun v9 f9 n9 hh => ?_)
  obtain ⟨rfl, rfl, rfl⟩ := hh
  refine aw_ald_n C dX8_cutAnew_12 rfl ?_
  obtain ⟨x8, hx8, h⟩ := Option.bind_eq_some_iff.mp h
  refine ah_getR C gf_X8_38 hx8 dX8_cutAnew_13 ?_
  refine aw_ald_n C dX8_cutAnew_16 rfl ?_
  obtain ⟨x9, hx9, h⟩ := Option.bind_eq_some_iff.mp h
  refine ah_getR C gf_X8_21 hx9 dX8_cutAnew_17 ?_
  obtain ⟨j10, hj10, h⟩ := Option.bind_eq_some_iff.mp h
  rw [hj10]
  obtain ⟨x11, hx11, h⟩ := Option.bind_eq_some_iff.mp h
  refine ah_getR C gf_X8_130 hx11 dX8_cutAnew_20 ?_
  refine aw_ald_n C dX8_cutAnew_23 rfl ?_
  obtain ⟨x12, hx12, h⟩ := Option.bind_eq_some_iff.mp h
  refine ah_getR C gf_X8_21 hx12 dX8_cutAnew_24 ?_
  obtain ⟨j13, hj13, h⟩ := Option.bind_eq_some_iff.mp h
  rw [hj13]
  obtain ⟨hb14, h⟩ := ck_some h
  obtain ⟨r15, hr15, h⟩ := Option.bind_eq_some_iff.mp h
  obtain ⟨fs16, hf16⟩ := isO_ex hb14
  refine aw_callV C (ci := 1) (b := j13) [va_rf x11, va_rf x12] mv_X8_361 rfl rfl hf16 (rmX1_find hr15) rfl dX8_cutAnew_27 (Nat.le_of_ble_eq_true rfl) (Nat.le_of_ble_eq_true rfl) rfl (Nat.le_of_ble_eq_true rfl) (show (0 + 0) + 0 ≤ 0 by omega) (show (0 + 0) + 0 ≤ 0 by omega) (fun v9 f9 n9 hh => ?_)
  obtain ⟨rfl, rfl, rfl⟩ := hh
  refine aw_ald_n C dX8_cutAnew_30 rfl ?_
  obtain ⟨x17, hx17, h⟩ := Option.bind_eq_some_iff.mp h
  refine ah_getR C gf_X8_48 hx17 dX8_cutAnew_31 ?_
  refine aw_ald_n C dX8_cutAnew_34 rfl ?_
  obtain ⟨x18, hx18, h⟩ := Option.bind_eq_some_iff.mp h
  refine ah_getR C gf_X8_21 hx18 dX8_cutAnew_35 ?_
  refine aw_ald_n C dX8_cutAnew_38 rfl ?_
  obtain ⟨x19, hx19, h⟩ := Option.bind_eq_some_iff.mp h
  refine ah_getR C gf_X8_38 hx19 dX8_cutAnew_39 ?_
  obtain ⟨j20, hj20, h⟩ := Option.bind_eq_some_iff.mp h
  rw [hj20]
  obtain ⟨hb21, h⟩ := ck_some h
  obtain ⟨r22, hr22, h⟩ := Option.bind_eq_some_iff.mp h
  obtain ⟨fs23, hf23⟩ := isO_ex hb21
  refine aw_callV C (ci := 0) (b := j20) [va_rf x18, va_rf x19] mv_X8_365 rfl rfl hf23 (rmX0_make hr22) rfl dX8_cutAnew_42 (Nat.le_of_ble_eq_true rfl) (Nat.le_of_ble_eq_true rfl) rfl (Nat.le_of_ble_eq_true rfl) (show ((0 + 0) + 0) + 0 ≤ 0 by omega) (show ((0 + 0) + 0) + 0 ≤ 0 by omega) (fun v9 f9 n9 hh => ?_)
  obtain ⟨rfl, rfl, rfl⟩ := hh
  refine aw_pop C dX8_cutAnew_45 rfl ?_
  refine aw_iconst C 0 dX8_cutAnew_46 ki_0 ?_
  cases h
  exact aw_iret C rfl rfl dX8_cutAnew_47 (by omega) (by omega) ⟨rfl, rfl, rfl⟩
def mX8_file (v0 : Nat) (f : AH) (n : Nat) : Option (Int32 × HpN) := ((gR f v0 8 1).bind fun x1 => ((gR f v0 8 0).bind fun x2 => ((gR f v0 8 0).bind fun x3 => ((x3).bind fun j4 => rCk (isO f j4 5) (((mX5_size j4 f n).bind fun r6 => ((x2).bind fun j8 => rCk (isO r6.2.1 j8 5) (((mX5_part 400 j8 (0 : Int32) r6.1 r6.2.1 r6.2.2).bind fun r10 => ((some r10.1).bind fun x12 => ((x1).bind fun j13 => ((pO r10.2.1 j13 7 0 (va_rf x12)).bind fun f14 => ((gR f14 v0 8 0).bind fun x15 => ((x15).bind fun j16 => rCk (isO f14 j16 5) (((mX5_cutTo j16 (0 : Int32) f14 r10.2.2).bind fun r18 => ((pO r18.2.1 v0 8 11 (.int (0 : Int32))).bind fun f20 => rCk (isO f20 v0 8) (((mX8_cutAnew v0 f20 r18.2.2).bind fun r22 => ((gR r22.2.1 v0 8 5).bind fun x24 => ((x24).bind fun j25 => rCk (isO r22.2.1 j25 1) (((mX1_size j25 r22.2.1 r22.2.2).bind fun r27 => some (r27.1, (r27.2.1, r27.2.2)))))))))))))))))))))))))
set_option maxHeartbeats 1000000 in
theorem rmX8_file {X : GX} {l : Launch} {r : Int32 × HpN} {v0 : Nat} {f : AH} {n : Nat} (h : mX8_file v0 f n = some r) : AM X l yX8_file cX8_file 1 (some .int) 6 2 402 [.ref v0] f n (QHi r) := by
  have h : ((gR f v0 8 1).bind fun x1 => ((gR f v0 8 0).bind fun x2 => ((gR f v0 8 0).bind fun x3 => ((x3).bind fun j4 => rCk (isO f j4 5) (((mX5_size j4 f n).bind fun r6 => ((x2).bind fun j8 => rCk (isO r6.2.1 j8 5) (((mX5_part 400 j8 (0 : Int32) r6.1 r6.2.1 r6.2.2).bind fun r10 => ((some r10.1).bind fun x12 => ((x1).bind fun j13 => ((pO r10.2.1 j13 7 0 (va_rf x12)).bind fun f14 => ((gR f14 v0 8 0).bind fun x15 => ((x15).bind fun j16 => rCk (isO f14 j16 5) (((mX5_cutTo j16 (0 : Int32) f14 r10.2.2).bind fun r18 => ((pO r18.2.1 v0 8 11 (.int (0 : Int32))).bind fun f20 => rCk (isO f20 v0 8) (((mX8_cutAnew v0 f20 r18.2.2).bind fun r22 => ((gR r22.2.1 v0 8 5).bind fun x24 => ((x24).bind fun j25 => rCk (isO r22.2.1 j25 1) (((mX1_size j25 r22.2.1 r22.2.2).bind fun r27 => some (r27.1, (r27.2.1, r27.2.2))))))))))))))))))))))))) = some r := h
  refine AM.of (by decide +kernel) rfl (Nat.le_of_ble_eq_true rfl) (fun p e s m args below meth c C hnm => ?_)
  refine aw_nl [some (.ref v0)] rfl ?_
  refine aw_ald_n C dX8_file_0 rfl ?_
  obtain ⟨x1, hx1, h⟩ := Option.bind_eq_some_iff.mp h
  refine ah_getR C gf_X8_21 hx1 dX8_file_1 ?_
  refine aw_ald_n C dX8_file_4 rfl ?_
  obtain ⟨x2, hx2, h⟩ := Option.bind_eq_some_iff.mp h
  refine ah_getR C gf_X8_14 hx2 dX8_file_5 ?_
  refine aw_iconst C 0 dX8_file_8 ki_0 ?_
  refine aw_ald_n C dX8_file_9 rfl ?_
  obtain ⟨x3, hx3, h⟩ := Option.bind_eq_some_iff.mp h
  refine ah_getR C gf_X8_14 hx3 dX8_file_10 ?_
  obtain ⟨j4, hj4, h⟩ := Option.bind_eq_some_iff.mp h
  rw [hj4]
  obtain ⟨hb5, h⟩ := ck_some h
  obtain ⟨r6, hr6, h⟩ := Option.bind_eq_some_iff.mp h
  obtain ⟨fs7, hf7⟩ := isO_ex hb5
  refine aw_callV C (ci := 5) (b := j4) [] mv_X8_63 rfl rfl hf7 (rmX5_size hr6) rfl dX8_file_13 (Nat.le_of_ble_eq_true rfl) (Nat.le_of_ble_eq_true rfl) rfl (cs_1 rfl (cs_1 (rf_cat _) (cs_1 (rf_cat _) cs_0))) (show 0 + 0 ≤ 2 by omega) (show 0 + 0 ≤ 402 by omega) (fun v9 f9 n9 hh => ?_)
  obtain ⟨rfl, rfl, rfl⟩ := hh
  obtain ⟨j8, hj8, h⟩ := Option.bind_eq_some_iff.mp h
  rw [hj8]
  obtain ⟨hb9, h⟩ := ck_some h
  obtain ⟨r10, hr10, h⟩ := Option.bind_eq_some_iff.mp h
  obtain ⟨fs11, hf11⟩ := isO_ex hb9
  refine aw_callV C (ci := 5) (b := j8) [.int (0 : Int32), .int r6.1] mv_X8_126 rfl rfl hf11 (rmX5_part hr10) rfl dX8_file_16 (Nat.le_of_ble_eq_true rfl) (Nat.le_of_ble_eq_true rfl) rfl (cs_1 (rf_cat _) cs_0) (show (0 + 0) + 2 ≤ 2 by omega) (show (0 + 0) + (2 + 400) ≤ 402 by omega) (fun v9 f9 n9 hh => ?_)
  obtain ⟨rfl, rfl, rfl⟩ := hh
  obtain ⟨x12, hx12, h⟩ := Option.bind_eq_some_iff.mp h
  rw [Option.some.inj hx12]
  obtain ⟨j13, hj13, h⟩ := Option.bind_eq_some_iff.mp h
  rw [hj13]
  obtain ⟨f14, hf14, h⟩ := Option.bind_eq_some_iff.mp h
  refine ah_put C gf_X8_130 cf7 nf7_0 (rf_nar _ x12) (rf_fit _ x12) hf14 dX8_file_19 ?_
  refine aw_ald_n C dX8_file_22 rfl ?_
  obtain ⟨x15, hx15, h⟩ := Option.bind_eq_some_iff.mp h
  refine ah_getR C gf_X8_14 hx15 dX8_file_23 ?_
  refine aw_iconst C 0 dX8_file_26 ki_0 ?_
  obtain ⟨j16, hj16, h⟩ := Option.bind_eq_some_iff.mp h
  rw [hj16]
  obtain ⟨hb17, h⟩ := ck_some h
  obtain ⟨r18, hr18, h⟩ := Option.bind_eq_some_iff.mp h
  obtain ⟨fs19, hf19⟩ := isO_ex hb17
  refine aw_callV C (ci := 5) (b := j16) [.int (0 : Int32)] mv_X8_70 rfl rfl hf19 (rmX5_cutTo hr18) rfl dX8_file_27 (Nat.le_of_ble_eq_true rfl) (Nat.le_of_ble_eq_true rfl) rfl (Nat.le_of_ble_eq_true rfl) (show ((0 + 0) + 2) + 0 ≤ 2 by omega) (show ((0 + 0) + (2 + 400)) + 0 ≤ 402 by omega) (fun v9 f9 n9 hh => ?_)
  obtain ⟨rfl, rfl, rfl⟩ := hh
  refine aw_ald_n C dX8_file_30 rfl ?_
  refine aw_iconst C 0 dX8_file_31 ki_0 ?_
  obtain ⟨f20, hf20, h⟩ := Option.bind_eq_some_iff.mp h
  refine ah_put C gf_X8_123 cf8 nf8_11 rfl rfl hf20 dX8_file_32 ?_
  refine aw_ald_n C dX8_file_35 rfl ?_
  obtain ⟨hb21, h⟩ := ck_some h
  obtain ⟨r22, hr22, h⟩ := Option.bind_eq_some_iff.mp h
  obtain ⟨fs23, hf23⟩ := isO_ex hb21
  refine aw_callV C (ci := 8) (b := v0) [] mv_X8_133 rfl rfl hf23 (rmX8_cutAnew hr22) rfl dX8_file_36 (Nat.le_of_ble_eq_true rfl) (Nat.le_of_ble_eq_true rfl) rfl (Nat.le_of_ble_eq_true rfl) (show (((0 + 0) + 2) + 0) + 0 ≤ 2 by omega) (show (((0 + 0) + (2 + 400)) + 0) + 0 ≤ 402 by omega) (fun v9 f9 n9 hh => ?_)
  obtain ⟨rfl, rfl, rfl⟩ := hh
  refine aw_pop C dX8_file_39 rfl ?_
  refine aw_ald_n C dX8_file_40 rfl ?_
  obtain ⟨x24, hx24, h⟩ := Option.bind_eq_some_iff.mp h
  refine ah_getR C gf_X8_38 hx24 dX8_file_41 ?_
  obtain ⟨j25, hj25, h⟩ := Option.bind_eq_some_iff.mp h
  rw [hj25]
  obtain ⟨hb26, h⟩ := ck_some h
  obtain ⟨r27, hr27, h⟩ := Option.bind_eq_some_iff.mp h
  obtain ⟨fs28, hf28⟩ := isO_ex hb26
  refine aw_callV C (ci := 1) (b := j25) [] mv_X8_136 rfl rfl hf28 (rmX1_size hr27) rfl dX8_file_44 (Nat.le_of_ble_eq_true rfl) (Nat.le_of_ble_eq_true rfl) rfl (Nat.le_of_ble_eq_true rfl) (show ((((0 + 0) + 2) + 0) + 0) + 0 ≤ 2 by omega) (show ((((0 + 0) + (2 + 400)) + 0) + 0) + 0 ≤ 402 by omega) (fun v9 f9 n9 hh => ?_)
  obtain ⟨rfl, rfl, rfl⟩ := hh
  cases h
  exact aw_iret C rfl rfl dX8_file_47 (by omega) (by omega) ⟨rfl, rfl, rfl⟩
end
/-! part 32ai.cls -/
section
def mX7_copyFrom_b140 (f : AH) (n : Nat) : Option (Int32 × HpN) := some ((0 : Int32), (f, n))
set_option maxHeartbeats 1000000 in
theorem rmX7_copyFrom_b140 {X : GX} {p : Program} {l : Launch} {e : Env} {s : State} {m : MethodId} {args : Array Value} {below : List Frame} {meth : Method} {c : Code} {r : Int32 × HpN} {f : AH} {n cells slots : Nat} (C : CC X p l (RM 0 0 0) s m args meth c RX7 cX7_copyFrom 3 none) (hc : cells + 0 ≤ 0) (hs : slots + 0 ≤ 0) (h : mX7_copyFrom_b140 f n = some r) : AW X p l e (RM 0 0 0) s m args below meth c 3 (ZM X below args s 0 0 (QHv r)) f n cells slots 140 [none, none, none] [] := by
  have h : some ((0 : Int32), (f, n)) = some r := h
  cases h
  exact aw_vret C rfl dX7_copyFrom_140 (by omega) (by omega) ⟨rfl, rfl, rfl⟩
def mX7_copyFrom_l104 : Nat → Nat → (Option Nat) → Int32 → AH → Nat → Option (Int32 × HpN)
  | 0, _, _, _, _, _ => none
  | d + 1, v0, v1, v2, f, n => ((gR f v0 7 9).bind fun x1 => ((x1).bind fun j2 => ((gL f j2).bind fun x3 => (if (nI x3) ≤ v2 then mX7_copyFrom_b140 f n else ((v1).bind fun j4 => ((gR f j4 7 9).bind fun x5 => ((x5).bind fun j6 => ((gL f j6).bind fun x7 => (if (nI x7) ≤ v2 then mX7_copyFrom_b140 f n else ((gR f v0 7 9).bind fun x8 => ((gR f j4 7 9).bind fun x9 => ((x9).bind fun j10 => ((gRA f j10 v2).bind fun x11 => ((x8).bind fun j12 => ((pRA f j12 v2 x11).bind fun f13 => mX7_copyFrom_l104 d v0 (some j4) (v2 + (1 : Int32)) f13 n)))))))))))))))
set_option maxHeartbeats 1000000 in
theorem rmX7_copyFrom_l104 {X : GX} {p : Program} {l : Launch} {e : Env} {s : State} {m : MethodId} {args : Array Value} {below : List Frame} {meth : Method} {c : Code} {r : Int32 × HpN} (C : CC X p l (RM 0 0 0) s m args meth c RX7 cX7_copyFrom 3 none) : ∀ (d : Nat) (v0 : Nat) (v1 : Option Nat) (v2 : Int32) (f : AH) (n cells slots : Nat) (_ : cells + 0 ≤ 0) (_ : slots + 0 ≤ 0) (_ : mX7_copyFrom_l104 d v0 v1 v2 f n = some r), AW X p l e (RM 0 0 0) s m args below meth c 3 (ZM X below args s 0 0 (QHv r)) f n cells slots 104 [some (.ref v0), some (va_rf v1), some (.int v2)] [] := by
  intro d
  induction d with
  | zero =>
    intro v0 v1 v2 f n cells slots hc hs h
    exact nomatch (show (none : Option (Int32 × HpN)) = some r from h)
  | succ d ih =>
    intro v0 v1 v2 f n cells slots hc hs h
    have h : ((gR f v0 7 9).bind fun x1 => ((x1).bind fun j2 => ((gL f j2).bind fun x3 => (if (nI x3) ≤ v2 then mX7_copyFrom_b140 f n else ((v1).bind fun j4 => ((gR f j4 7 9).bind fun x5 => ((x5).bind fun j6 => ((gL f j6).bind fun x7 => (if (nI x7) ≤ v2 then mX7_copyFrom_b140 f n else ((gR f v0 7 9).bind fun x8 => ((gR f j4 7 9).bind fun x9 => ((x9).bind fun j10 => ((gRA f j10 v2).bind fun x11 => ((x8).bind fun j12 => ((pRA f j12 v2 x11).bind fun f13 => mX7_copyFrom_l104 d v0 (some j4) (v2 + (1 : Int32)) f13 n))))))))))))))) = some r := h
    refine aw_iload_n C dX7_copyFrom_104 rfl ?_
    refine aw_ald_n C dX7_copyFrom_105 rfl ?_
    obtain ⟨x1, hx1, h⟩ := Option.bind_eq_some_iff.mp h
    refine ah_getR C gf_X7_34 hx1 dX7_copyFrom_106 ?_
    obtain ⟨j2, hj2, h⟩ := Option.bind_eq_some_iff.mp h
    rw [hj2]
    obtain ⟨x3, hx3, h⟩ := Option.bind_eq_some_iff.mp h
    refine ah_len C hx3 dX7_copyFrom_109 ?_
    refine aw_icmp_ge C 140 dX7_copyFrom_110 (by decide) (fun q => ?_) (fun q => ?_)
    · rw [if_pos q] at h
      refine aw_fl [none, none, none] trivial ?_
      exact rmX7_copyFrom_b140 C (by omega) (by omega) h
    · rw [if_neg q] at h
      refine aw_iload_n C dX7_copyFrom_113 rfl ?_
      refine aw_aload_n C dX7_copyFrom_114 rfl (rf_or v1) ?_
      obtain ⟨j4, hj4, h⟩ := Option.bind_eq_some_iff.mp h
      rw [hj4]
      obtain ⟨x5, hx5, h⟩ := Option.bind_eq_some_iff.mp h
      refine ah_getR C gf_X7_34 hx5 dX7_copyFrom_115 ?_
      obtain ⟨j6, hj6, h⟩ := Option.bind_eq_some_iff.mp h
      rw [hj6]
      obtain ⟨x7, hx7, h⟩ := Option.bind_eq_some_iff.mp h
      refine ah_len C hx7 dX7_copyFrom_118 ?_
      refine aw_icmp_ge C 140 dX7_copyFrom_119 (by decide) (fun q => ?_) (fun q => ?_)
      · rw [if_pos q] at h
        refine aw_fl [none, none, none] trivial ?_
        exact rmX7_copyFrom_b140 C (by omega) (by omega) h
      · rw [if_neg q] at h
        refine aw_ald_n C dX7_copyFrom_122 rfl ?_
        obtain ⟨x8, hx8, h⟩ := Option.bind_eq_some_iff.mp h
        refine ah_getR C gf_X7_34 hx8 dX7_copyFrom_123 ?_
        refine aw_iload_n C dX7_copyFrom_126 rfl ?_
        refine aw_ald_n C dX7_copyFrom_127 rfl ?_
        obtain ⟨x9, hx9, h⟩ := Option.bind_eq_some_iff.mp h
        refine ah_getR C gf_X7_34 hx9 dX7_copyFrom_128 ?_
        refine aw_iload_n C dX7_copyFrom_131 rfl ?_
        obtain ⟨j10, hj10, h⟩ := Option.bind_eq_some_iff.mp h
        rw [hj10]
        obtain ⟨x11, hx11, h⟩ := Option.bind_eq_some_iff.mp h
        refine ah_aald C hx11 dX7_copyFrom_132 ?_
        obtain ⟨j12, hj12, h⟩ := Option.bind_eq_some_iff.mp h
        rw [hj12]
        obtain ⟨f13, hf13, h⟩ := Option.bind_eq_some_iff.mp h
        refine ah_aast C hf13 dX7_copyFrom_133 ?_
        refine aw_iinc C (v2 + (1 : Int32)) dX7_copyFrom_134 rfl (by rw [ki_1]) (by decide) rfl ?_
        refine aw_nl [some (.ref v0), some (.ref j4), some (.int (v2 + (1 : Int32)))] rfl ?_
        refine aw_goto C 104 dX7_copyFrom_137 (by decide) ?_
        refine aw_fl [some (.ref v0), some (va_rf (some j4)), some (.int (v2 + (1 : Int32)))] ⟨rfl, ⟨rfl, ⟨rfl, trivial⟩⟩⟩ ?_
        exact ih v0 (some j4) (v2 + (1 : Int32)) f13 n _ _ (by omega) (by omega) h
def mX7_copyFrom_b102 (v0 : Nat) (v1 : Option Nat) (f : AH) (n : Nat) : Option (Int32 × HpN) := mX7_copyFrom_l104 rFU v0 v1 (0 : Int32) f n
set_option maxHeartbeats 1000000 in
theorem rmX7_copyFrom_b102 {X : GX} {p : Program} {l : Launch} {e : Env} {s : State} {m : MethodId} {args : Array Value} {below : List Frame} {meth : Method} {c : Code} {r : Int32 × HpN} {v0 : Nat} {v1 : Option Nat} {f : AH} {n cells slots : Nat} (C : CC X p l (RM 0 0 0) s m args meth c RX7 cX7_copyFrom 3 none) (hc : cells + 0 ≤ 0) (hs : slots + 0 ≤ 0) (h : mX7_copyFrom_b102 v0 v1 f n = some r) : AW X p l e (RM 0 0 0) s m args below meth c 3 (ZM X below args s 0 0 (QHv r)) f n cells slots 102 [some (.ref v0), some (va_rf v1), none] [] := by
  have h : mX7_copyFrom_l104 rFU v0 v1 (0 : Int32) f n = some r := h
  refine aw_iconst C 0 dX7_copyFrom_102 ki_0 ?_
  refine aw_istore_n C dX7_copyFrom_103 (by decide) (ok_rf 1 rfl) ?_
  refine aw_nl [some (.ref v0), some (va_rf v1), some (.int (0 : Int32))] rfl ?_
  refine aw_fl [some (.ref v0), some (va_rf v1), some (.int (0 : Int32))] ⟨rfl, ⟨rfl, ⟨rfl, trivial⟩⟩⟩ ?_
  exact rmX7_copyFrom_l104 C rFU v0 v1 (0 : Int32) f n _ _ (by omega) (by omega) h
def mX7_copyFrom_l66 : Nat → Nat → (Option Nat) → Int32 → AH → Nat → Option (Int32 × HpN)
  | 0, _, _, _, _, _ => none
  | d + 1, v0, v1, v2, f, n => ((gR f v0 7 8).bind fun x1 => ((x1).bind fun j2 => ((gL f j2).bind fun x3 => (if (nI x3) ≤ v2 then mX7_copyFrom_b102 v0 v1 f n else ((v1).bind fun j4 => ((gR f j4 7 8).bind fun x5 => ((x5).bind fun j6 => ((gL f j6).bind fun x7 => (if (nI x7) ≤ v2 then mX7_copyFrom_b102 v0 (some j4) f n else ((gR f v0 7 8).bind fun x8 => ((gR f j4 7 8).bind fun x9 => ((x9).bind fun j10 => ((gRA f j10 v2).bind fun x11 => ((x8).bind fun j12 => ((pRA f j12 v2 x11).bind fun f13 => mX7_copyFrom_l66 d v0 (some j4) (v2 + (1 : Int32)) f13 n)))))))))))))))
set_option maxHeartbeats 1000000 in
theorem rmX7_copyFrom_l66 {X : GX} {p : Program} {l : Launch} {e : Env} {s : State} {m : MethodId} {args : Array Value} {below : List Frame} {meth : Method} {c : Code} {r : Int32 × HpN} (C : CC X p l (RM 0 0 0) s m args meth c RX7 cX7_copyFrom 3 none) : ∀ (d : Nat) (v0 : Nat) (v1 : Option Nat) (v2 : Int32) (f : AH) (n cells slots : Nat) (_ : cells + 0 ≤ 0) (_ : slots + 0 ≤ 0) (_ : mX7_copyFrom_l66 d v0 v1 v2 f n = some r), AW X p l e (RM 0 0 0) s m args below meth c 3 (ZM X below args s 0 0 (QHv r)) f n cells slots 66 [some (.ref v0), some (va_rf v1), some (.int v2)] [] := by
  intro d
  induction d with
  | zero =>
    intro v0 v1 v2 f n cells slots hc hs h
    exact nomatch (show (none : Option (Int32 × HpN)) = some r from h)
  | succ d ih =>
    intro v0 v1 v2 f n cells slots hc hs h
    have h : ((gR f v0 7 8).bind fun x1 => ((x1).bind fun j2 => ((gL f j2).bind fun x3 => (if (nI x3) ≤ v2 then mX7_copyFrom_b102 v0 v1 f n else ((v1).bind fun j4 => ((gR f j4 7 8).bind fun x5 => ((x5).bind fun j6 => ((gL f j6).bind fun x7 => (if (nI x7) ≤ v2 then mX7_copyFrom_b102 v0 (some j4) f n else ((gR f v0 7 8).bind fun x8 => ((gR f j4 7 8).bind fun x9 => ((x9).bind fun j10 => ((gRA f j10 v2).bind fun x11 => ((x8).bind fun j12 => ((pRA f j12 v2 x11).bind fun f13 => mX7_copyFrom_l66 d v0 (some j4) (v2 + (1 : Int32)) f13 n))))))))))))))) = some r := h
    refine aw_iload_n C dX7_copyFrom_66 rfl ?_
    refine aw_ald_n C dX7_copyFrom_67 rfl ?_
    obtain ⟨x1, hx1, h⟩ := Option.bind_eq_some_iff.mp h
    refine ah_getR C gf_X7_30 hx1 dX7_copyFrom_68 ?_
    obtain ⟨j2, hj2, h⟩ := Option.bind_eq_some_iff.mp h
    rw [hj2]
    obtain ⟨x3, hx3, h⟩ := Option.bind_eq_some_iff.mp h
    refine ah_len C hx3 dX7_copyFrom_71 ?_
    refine aw_icmp_ge C 102 dX7_copyFrom_72 (by decide) (fun q => ?_) (fun q => ?_)
    · rw [if_pos q] at h
      refine aw_fl [some (.ref v0), some (va_rf v1), none] ⟨rfl, ⟨rfl, trivial⟩⟩ ?_
      exact rmX7_copyFrom_b102 C (by omega) (by omega) h
    · rw [if_neg q] at h
      refine aw_iload_n C dX7_copyFrom_75 rfl ?_
      refine aw_aload_n C dX7_copyFrom_76 rfl (rf_or v1) ?_
      obtain ⟨j4, hj4, h⟩ := Option.bind_eq_some_iff.mp h
      rw [hj4]
      obtain ⟨x5, hx5, h⟩ := Option.bind_eq_some_iff.mp h
      refine ah_getR C gf_X7_30 hx5 dX7_copyFrom_77 ?_
      obtain ⟨j6, hj6, h⟩ := Option.bind_eq_some_iff.mp h
      rw [hj6]
      obtain ⟨x7, hx7, h⟩ := Option.bind_eq_some_iff.mp h
      refine ah_len C hx7 dX7_copyFrom_80 ?_
      refine aw_icmp_ge C 102 dX7_copyFrom_81 (by decide) (fun q => ?_) (fun q => ?_)
      · rw [if_pos q] at h
        refine aw_fl [some (.ref v0), some (va_rf (some j4)), none] ⟨rfl, ⟨rfl, trivial⟩⟩ ?_
        exact rmX7_copyFrom_b102 C (by omega) (by omega) h
      · rw [if_neg q] at h
        refine aw_ald_n C dX7_copyFrom_84 rfl ?_
        obtain ⟨x8, hx8, h⟩ := Option.bind_eq_some_iff.mp h
        refine ah_getR C gf_X7_30 hx8 dX7_copyFrom_85 ?_
        refine aw_iload_n C dX7_copyFrom_88 rfl ?_
        refine aw_ald_n C dX7_copyFrom_89 rfl ?_
        obtain ⟨x9, hx9, h⟩ := Option.bind_eq_some_iff.mp h
        refine ah_getR C gf_X7_30 hx9 dX7_copyFrom_90 ?_
        refine aw_iload_n C dX7_copyFrom_93 rfl ?_
        obtain ⟨j10, hj10, h⟩ := Option.bind_eq_some_iff.mp h
        rw [hj10]
        obtain ⟨x11, hx11, h⟩ := Option.bind_eq_some_iff.mp h
        refine ah_aald C hx11 dX7_copyFrom_94 ?_
        obtain ⟨j12, hj12, h⟩ := Option.bind_eq_some_iff.mp h
        rw [hj12]
        obtain ⟨f13, hf13, h⟩ := Option.bind_eq_some_iff.mp h
        refine ah_aast C hf13 dX7_copyFrom_95 ?_
        refine aw_iinc C (v2 + (1 : Int32)) dX7_copyFrom_96 rfl (by rw [ki_1]) (by decide) rfl ?_
        refine aw_nl [some (.ref v0), some (.ref j4), some (.int (v2 + (1 : Int32)))] rfl ?_
        refine aw_goto C 66 dX7_copyFrom_99 (by decide) ?_
        refine aw_fl [some (.ref v0), some (va_rf (some j4)), some (.int (v2 + (1 : Int32)))] ⟨rfl, ⟨rfl, ⟨rfl, trivial⟩⟩⟩ ?_
        exact ih v0 (some j4) (v2 + (1 : Int32)) f13 n _ _ (by omega) (by omega) h
def mX7_copyFrom (v0 : Nat) (v1 : Option Nat) (f : AH) (n : Nat) : Option (Int32 × HpN) := ((v1).bind fun j1 => ((gR f j1 7 0).bind fun x2 => ((pO f v0 7 0 (va_rf x2)).bind fun f3 => ((gI f3 j1 7 1).bind fun x4 => ((pO f3 v0 7 1 (.int x4)).bind fun f5 => ((gI f5 j1 7 2).bind fun x6 => ((pO f5 v0 7 2 (.int x6)).bind fun f7 => ((gI f7 j1 7 3).bind fun x8 => rCk (rNb x8) (((pO f7 v0 7 3 (.int x8)).bind fun f10 => ((gI f10 j1 7 4).bind fun x11 => ((pO f10 v0 7 4 (.int x11)).bind fun f12 => ((gI f12 j1 7 5).bind fun x13 => ((pO f12 v0 7 5 (.int x13)).bind fun f14 => ((gR f14 j1 7 6).bind fun x15 => ((pO f14 v0 7 6 (va_rf x15)).bind fun f16 => ((gI f16 j1 7 7).bind fun x17 => ((pO f16 v0 7 7 (.int x17)).bind fun f18 => mX7_copyFrom_l66 rFU v0 (some j1) (0 : Int32) f18 n))))))))))))))))))
set_option maxHeartbeats 1000000 in
theorem rmX7_copyFrom {X : GX} {l : Launch} {r : Int32 × HpN} {v0 : Nat} {v1 : Option Nat} {f : AH} {n : Nat} (h : mX7_copyFrom v0 v1 f n = some r) : AM X l yX7_copyFrom cX7_copyFrom 3 none 0 0 0 [.ref v0, va_rf v1] f n (QHv r) := by
  have h : ((v1).bind fun j1 => ((gR f j1 7 0).bind fun x2 => ((pO f v0 7 0 (va_rf x2)).bind fun f3 => ((gI f3 j1 7 1).bind fun x4 => ((pO f3 v0 7 1 (.int x4)).bind fun f5 => ((gI f5 j1 7 2).bind fun x6 => ((pO f5 v0 7 2 (.int x6)).bind fun f7 => ((gI f7 j1 7 3).bind fun x8 => rCk (rNb x8) (((pO f7 v0 7 3 (.int x8)).bind fun f10 => ((gI f10 j1 7 4).bind fun x11 => ((pO f10 v0 7 4 (.int x11)).bind fun f12 => ((gI f12 j1 7 5).bind fun x13 => ((pO f12 v0 7 5 (.int x13)).bind fun f14 => ((gR f14 j1 7 6).bind fun x15 => ((pO f14 v0 7 6 (va_rf x15)).bind fun f16 => ((gI f16 j1 7 7).bind fun x17 => ((pO f16 v0 7 7 (.int x17)).bind fun f18 => mX7_copyFrom_l66 rFU v0 (some j1) (0 : Int32) f18 n)))))))))))))))))) = some r := h
  refine AM.of (by decide +kernel) (all1 rfl (all1 (rf_cat _) rfl)) (Nat.le_of_ble_eq_true rfl) (fun p e s m args below meth c C hnm => ?_)
  refine aw_nl [some (.ref v0), some (va_rf v1), none] rfl ?_
  refine aw_ald_n C dX7_copyFrom_0 rfl ?_
  refine aw_aload_n C dX7_copyFrom_1 rfl (rf_or v1) ?_
  obtain ⟨j1, hj1, h⟩ := Option.bind_eq_some_iff.mp h
  rw [hj1]
  obtain ⟨x2, hx2, h⟩ := Option.bind_eq_some_iff.mp h
  refine ah_getR C gf_X7_14 hx2 dX7_copyFrom_2 ?_
  obtain ⟨f3, hf3, h⟩ := Option.bind_eq_some_iff.mp h
  refine ah_put C gf_X7_14 cf7 nf7_0 (rf_nar _ x2) (rf_fit _ x2) hf3 dX7_copyFrom_5 ?_
  refine aw_ald_n C dX7_copyFrom_8 rfl ?_
  refine aw_ald_n C dX7_copyFrom_9 rfl ?_
  obtain ⟨x4, hx4, h⟩ := Option.bind_eq_some_iff.mp h
  refine ah_getI C gf_X7_20 hx4 dX7_copyFrom_10 ?_
  obtain ⟨f5, hf5, h⟩ := Option.bind_eq_some_iff.mp h
  refine ah_put C gf_X7_20 cf7 nf7_1 rfl rfl hf5 dX7_copyFrom_13 ?_
  refine aw_ald_n C dX7_copyFrom_16 rfl ?_
  refine aw_ald_n C dX7_copyFrom_17 rfl ?_
  obtain ⟨x6, hx6, h⟩ := Option.bind_eq_some_iff.mp h
  refine ah_getI C gf_X7_24 hx6 dX7_copyFrom_18 ?_
  obtain ⟨f7, hf7, h⟩ := Option.bind_eq_some_iff.mp h
  refine ah_put C gf_X7_24 cf7 nf7_2 rfl rfl hf7 dX7_copyFrom_21 ?_
  refine aw_ald_n C dX7_copyFrom_24 rfl ?_
  refine aw_ald_n C dX7_copyFrom_25 rfl ?_
  obtain ⟨x8, hx8, h⟩ := Option.bind_eq_some_iff.mp h
  refine ah_getI C gf_X7_37 hx8 dX7_copyFrom_26 ?_
  obtain ⟨hb9, h⟩ := ck_some h
  obtain ⟨f10, hf10, h⟩ := Option.bind_eq_some_iff.mp h
  refine ah_put C gf_X7_37 cf7 nf7_3 (nb_nar hb9) (nb_fit hb9) hf10 dX7_copyFrom_29 ?_
  refine aw_ald_n C dX7_copyFrom_32 rfl ?_
  refine aw_ald_n C dX7_copyFrom_33 rfl ?_
  obtain ⟨x11, hx11, h⟩ := Option.bind_eq_some_iff.mp h
  refine ah_getI C gf_X7_27 hx11 dX7_copyFrom_34 ?_
  obtain ⟨f12, hf12, h⟩ := Option.bind_eq_some_iff.mp h
  refine ah_put C gf_X7_27 cf7 nf7_4 rfl rfl hf12 dX7_copyFrom_37 ?_
  refine aw_ald_n C dX7_copyFrom_40 rfl ?_
  refine aw_ald_n C dX7_copyFrom_41 rfl ?_
  obtain ⟨x13, hx13, h⟩ := Option.bind_eq_some_iff.mp h
  refine ah_getI C gf_X7_41 hx13 dX7_copyFrom_42 ?_
  obtain ⟨f14, hf14, h⟩ := Option.bind_eq_some_iff.mp h
  refine ah_put C gf_X7_41 cf7 nf7_5 rfl rfl hf14 dX7_copyFrom_45 ?_
  refine aw_ald_n C dX7_copyFrom_48 rfl ?_
  refine aw_ald_n C dX7_copyFrom_49 rfl ?_
  obtain ⟨x15, hx15, h⟩ := Option.bind_eq_some_iff.mp h
  refine ah_getR C gf_X7_44 hx15 dX7_copyFrom_50 ?_
  obtain ⟨f16, hf16, h⟩ := Option.bind_eq_some_iff.mp h
  refine ah_put C gf_X7_44 cf7 nf7_6 (rf_nar _ x15) (rf_fit _ x15) hf16 dX7_copyFrom_53 ?_
  refine aw_ald_n C dX7_copyFrom_56 rfl ?_
  refine aw_ald_n C dX7_copyFrom_57 rfl ?_
  obtain ⟨x17, hx17, h⟩ := Option.bind_eq_some_iff.mp h
  refine ah_getI C gf_X7_48 hx17 dX7_copyFrom_58 ?_
  obtain ⟨f18, hf18, h⟩ := Option.bind_eq_some_iff.mp h
  refine ah_put C gf_X7_48 cf7 nf7_7 rfl rfl hf18 dX7_copyFrom_61 ?_
  refine aw_iconst C 0 dX7_copyFrom_64 ki_0 ?_
  refine aw_istore_n C dX7_copyFrom_65 (by decide) rfl ?_
  refine aw_nl [some (.ref v0), some (.ref j1), some (.int (0 : Int32))] rfl ?_
  refine aw_fl [some (.ref v0), some (va_rf (some j1)), some (.int (0 : Int32))] ⟨rfl, ⟨rfl, ⟨rfl, trivial⟩⟩⟩ ?_
  exact rmX7_copyFrom_l66 C rFU v0 (some j1) (0 : Int32) f18 n _ _ (by omega) (by omega) h
def mX7_addLock_b75 (rec24 : Nat → (Option Nat) → Int32 → AH → Nat → Option (Int32 × HpN)) (v0 : Nat) (v1 : Option Nat) (v2 : Int32) (f : AH) (n : Nat) : Option (Int32 × HpN) := rec24 v0 v1 (v2 + (1 : Int32)) f n
set_option maxHeartbeats 1000000 in
theorem rmX7_addLock_b75 {X : GX} {p : Program} {l : Launch} {e : Env} {s : State} {m : MethodId} {args : Array Value} {below : List Frame} {meth : Method} {c : Code} {r : Int32 × HpN} {rec24 : Nat → (Option Nat) → Int32 → AH → Nat → Option (Int32 × HpN)} {v0 : Nat} {v1 : Option Nat} {v2 : Int32} {f : AH} {n cells slots : Nat} (C : CC X p l (RM 2 0 0) s m args meth c RX7 cX7_addLock 4 (some .int)) (Hr24 : ∀ (v0 : Nat) (v1 : Option Nat) (v2 : Int32) (f : AH) (n cells slots : Nat), cells + 0 ≤ 0 → slots + 0 ≤ 0 → rec24 v0 v1 v2 f n = some r → AW X p l e (RM 2 0 0) s m args below meth c 4 (ZM X below args s 0 0 (QHi r)) f n cells slots 24 [some (.ref v0), some (va_rf v1), some (.int v2), none] []) (hc : cells + 0 ≤ 0) (hs : slots + 0 ≤ 0) (h : mX7_addLock_b75 rec24 v0 v1 v2 f n = some r) : AW X p l e (RM 2 0 0) s m args below meth c 4 (ZM X below args s 0 0 (QHi r)) f n cells slots 75 [some (.ref v0), some (va_rf v1), some (.int v2), none] [] := by
  have h : rec24 v0 v1 (v2 + (1 : Int32)) f n = some r := h
  refine aw_iinc C (v2 + (1 : Int32)) dX7_addLock_75 rfl (by rw [ki_1]) (by decide) (ok_rf 1 rfl) ?_
  refine aw_nl [some (.ref v0), some (va_rf v1), some (.int (v2 + (1 : Int32))), none] rfl ?_
  refine aw_goto C 24 dX7_addLock_78 (by decide) ?_
  refine aw_fl [some (.ref v0), some (va_rf v1), some (.int (v2 + (1 : Int32))), none] ⟨rfl, ⟨rfl, ⟨rfl, trivial⟩⟩⟩ ?_
  exact Hr24 v0 v1 (v2 + (1 : Int32)) f n _ _ (by omega) (by omega) h
def mX7_addLock_l24 : Nat → Nat → (Option Nat) → Int32 → AH → Nat → Option (Int32 × HpN)
  | 0, _, _, _, _, _ => none
  | d + 1, v0, v1, v2, f, n => ((gI f v0 7 5).bind fun x1 => (if x1 ≤ v2 then ((gR f v0 7 8).bind fun x2 => ((gI f v0 7 5).bind fun x3 => ((x2).bind fun j4 => ((pRA f j4 x3 v1).bind fun f5 => ((gI f5 v0 7 5).bind fun x6 => ((pO f5 v0 7 5 (.int (x6 + (1 : Int32)))).bind fun f7 => some ((0 : Int32), (f7, n)))))))) else ((gR f v0 7 8).bind fun x8 => ((x8).bind fun j9 => ((gRA f j9 v2).bind fun x10 => (oN x10 (mX7_addLock_b75 (fun v0 v1 v2 f n => mX7_addLock_l24 d v0 v1 v2 f n) v0 v1 v2 f n) (fun j11 => (oN v1 (mX7_addLock_b75 (fun v0 v1 v2 f n => mX7_addLock_l24 d v0 v1 v2 f n) v0 (none : Option Nat) v2 f n) (fun j12 => rCk (isO f j11 5) (((mX5_size j11 f n).bind fun r14 => rCk (isO r14.2.1 j12 5) (((mX5_size j12 r14.2.1 r14.2.2).bind fun r17 => (if r14.1 = r17.1 then rCk (isO r17.2.1 j11 5) (((mX5_size j11 r17.2.1 r17.2.2).bind fun r20 => rCk (isO r20.2.1 j11 5) (((mX5_isSame j11 (0 : Int32) (some j12) (0 : Int32) r20.1 r20.2.1 r20.2.2).bind fun r23 => (if r23.1 = (0 : Int32) then mX7_addLock_b75 (fun v0 v1 v2 f n => mX7_addLock_l24 d v0 v1 v2 f n) v0 (some j12) v2 r23.2.1 r23.2.2 else some ((7 : Int32), (r23.2.1, r23.2.2))))))) else mX7_addLock_b75 (fun v0 v1 v2 f n => mX7_addLock_l24 d v0 v1 v2 f n) v0 (some j12) v2 r17.2.1 r17.2.2))))))))))))))
set_option maxHeartbeats 1000000 in
theorem rmX7_addLock_l24 {X : GX} {p : Program} {l : Launch} {e : Env} {s : State} {m : MethodId} {args : Array Value} {below : List Frame} {meth : Method} {c : Code} {r : Int32 × HpN} (C : CC X p l (RM 2 0 0) s m args meth c RX7 cX7_addLock 4 (some .int)) : ∀ (d : Nat) (v0 : Nat) (v1 : Option Nat) (v2 : Int32) (f : AH) (n cells slots : Nat) (_ : cells + 0 ≤ 0) (_ : slots + 0 ≤ 0) (_ : mX7_addLock_l24 d v0 v1 v2 f n = some r), AW X p l e (RM 2 0 0) s m args below meth c 4 (ZM X below args s 0 0 (QHi r)) f n cells slots 24 [some (.ref v0), some (va_rf v1), some (.int v2), none] [] := by
  intro d
  induction d with
  | zero =>
    intro v0 v1 v2 f n cells slots hc hs h
    exact nomatch (show (none : Option (Int32 × HpN)) = some r from h)
  | succ d ih =>
    intro v0 v1 v2 f n cells slots hc hs h
    have h : ((gI f v0 7 5).bind fun x1 => (if x1 ≤ v2 then ((gR f v0 7 8).bind fun x2 => ((gI f v0 7 5).bind fun x3 => ((x2).bind fun j4 => ((pRA f j4 x3 v1).bind fun f5 => ((gI f5 v0 7 5).bind fun x6 => ((pO f5 v0 7 5 (.int (x6 + (1 : Int32)))).bind fun f7 => some ((0 : Int32), (f7, n)))))))) else ((gR f v0 7 8).bind fun x8 => ((x8).bind fun j9 => ((gRA f j9 v2).bind fun x10 => (oN x10 (mX7_addLock_b75 (fun v0 v1 v2 f n => mX7_addLock_l24 d v0 v1 v2 f n) v0 v1 v2 f n) (fun j11 => (oN v1 (mX7_addLock_b75 (fun v0 v1 v2 f n => mX7_addLock_l24 d v0 v1 v2 f n) v0 (none : Option Nat) v2 f n) (fun j12 => rCk (isO f j11 5) (((mX5_size j11 f n).bind fun r14 => rCk (isO r14.2.1 j12 5) (((mX5_size j12 r14.2.1 r14.2.2).bind fun r17 => (if r14.1 = r17.1 then rCk (isO r17.2.1 j11 5) (((mX5_size j11 r17.2.1 r17.2.2).bind fun r20 => rCk (isO r20.2.1 j11 5) (((mX5_isSame j11 (0 : Int32) (some j12) (0 : Int32) r20.1 r20.2.1 r20.2.2).bind fun r23 => (if r23.1 = (0 : Int32) then mX7_addLock_b75 (fun v0 v1 v2 f n => mX7_addLock_l24 d v0 v1 v2 f n) v0 (some j12) v2 r23.2.1 r23.2.2 else some ((7 : Int32), (r23.2.1, r23.2.2))))))) else mX7_addLock_b75 (fun v0 v1 v2 f n => mX7_addLock_l24 d v0 v1 v2 f n) v0 (some j12) v2 r17.2.1 r17.2.2)))))))))))))) = some r := h
    refine aw_iload_n C dX7_addLock_24 rfl ?_
    refine aw_ald_n C dX7_addLock_25 rfl ?_
    obtain ⟨x1, hx1, h⟩ := Option.bind_eq_some_iff.mp h
    refine ah_getI C gf_X7_41 hx1 dX7_addLock_26 ?_
    refine aw_icmp_ge C 81 dX7_addLock_29 (by decide) (fun q => ?_) (fun q => ?_)
    · rw [if_pos q] at h
      refine aw_ald_n C dX7_addLock_81 rfl ?_
      obtain ⟨x2, hx2, h⟩ := Option.bind_eq_some_iff.mp h
      refine ah_getR C gf_X7_30 hx2 dX7_addLock_82 ?_
      refine aw_ald_n C dX7_addLock_85 rfl ?_
      obtain ⟨x3, hx3, h⟩ := Option.bind_eq_some_iff.mp h
      refine ah_getI C gf_X7_41 hx3 dX7_addLock_86 ?_
      refine aw_aload_n C dX7_addLock_89 rfl (rf_or v1) ?_
      obtain ⟨j4, hj4, h⟩ := Option.bind_eq_some_iff.mp h
      rw [hj4]
      obtain ⟨f5, hf5, h⟩ := Option.bind_eq_some_iff.mp h
      refine ah_aast C hf5 dX7_addLock_90 ?_
      refine aw_ald_n C dX7_addLock_91 rfl ?_
      refine aw_dup C dX7_addLock_92 rfl ?_
      obtain ⟨x6, hx6, h⟩ := Option.bind_eq_some_iff.mp h
      refine ah_getI C gf_X7_41 hx6 dX7_addLock_93 ?_
      refine aw_iconst C 1 dX7_addLock_96 ki_1 ?_
      refine aw_iadd C dX7_addLock_97 ?_
      obtain ⟨f7, hf7, h⟩ := Option.bind_eq_some_iff.mp h
      refine ah_put C gf_X7_41 cf7 nf7_5 rfl rfl hf7 dX7_addLock_98 ?_
      refine aw_iconst C 0 dX7_addLock_101 ki_0 ?_
      cases h
      exact aw_iret C rfl rfl dX7_addLock_102 (by omega) (by omega) ⟨rfl, rfl, rfl⟩
    · rw [if_neg q] at h
      refine aw_ald_n C dX7_addLock_32 rfl ?_
      obtain ⟨x8, hx8, h⟩ := Option.bind_eq_some_iff.mp h
      refine ah_getR C gf_X7_30 hx8 dX7_addLock_33 ?_
      refine aw_iload_n C dX7_addLock_36 rfl ?_
      obtain ⟨j9, hj9, h⟩ := Option.bind_eq_some_iff.mp h
      rw [hj9]
      obtain ⟨x10, hx10, h⟩ := Option.bind_eq_some_iff.mp h
      refine ah_aald C hx10 dX7_addLock_37 ?_
      refine aw_astore_n C dX7_addLock_38 (by decide) rfl (rf_or x10) ?_
      refine aw_nl [some (.ref v0), some (va_rf v1), some (.int v2), some (va_rf x10)] rfl ?_
      refine aw_aload_n C dX7_addLock_39 rfl (rf_or x10) ?_
      cases x10 with
      | none =>
        replace h : mX7_addLock_b75 (fun v0 v1 v2 f n => mX7_addLock_l24 d v0 v1 v2 f n) v0 v1 v2 f n = some r := h
        refine aw_ifnull_n C 75 dX7_addLock_40 (by decide) ?_
        refine aw_fl [some (.ref v0), some (va_rf v1), some (.int v2), none] ⟨rfl, ⟨rfl, ⟨rfl, trivial⟩⟩⟩ ?_
        exact rmX7_addLock_b75 C (fun v0 v1 v2 f n cells slots hc hs h => ih v0 v1 v2 f n cells slots hc hs h) (by omega) (by omega) h
      | some j11 =>
        replace h : (oN v1 (mX7_addLock_b75 (fun v0 v1 v2 f n => mX7_addLock_l24 d v0 v1 v2 f n) v0 (none : Option Nat) v2 f n) (fun j12 => rCk (isO f j11 5) (((mX5_size j11 f n).bind fun r14 => rCk (isO r14.2.1 j12 5) (((mX5_size j12 r14.2.1 r14.2.2).bind fun r17 => (if r14.1 = r17.1 then rCk (isO r17.2.1 j11 5) (((mX5_size j11 r17.2.1 r17.2.2).bind fun r20 => rCk (isO r20.2.1 j11 5) (((mX5_isSame j11 (0 : Int32) (some j12) (0 : Int32) r20.1 r20.2.1 r20.2.2).bind fun r23 => (if r23.1 = (0 : Int32) then mX7_addLock_b75 (fun v0 v1 v2 f n => mX7_addLock_l24 d v0 v1 v2 f n) v0 (some j12) v2 r23.2.1 r23.2.2 else some ((7 : Int32), (r23.2.1, r23.2.2))))))) else mX7_addLock_b75 (fun v0 v1 v2 f n => mX7_addLock_l24 d v0 v1 v2 f n) v0 (some j12) v2 r17.2.1 r17.2.2))))))) = some r := h
        refine aw_ifnull_r C 75 dX7_addLock_40 (by decide) ?_
        refine aw_aload_n C dX7_addLock_43 rfl (rf_or v1) ?_
        cases v1 with
        | none =>
          replace h : mX7_addLock_b75 (fun v0 v1 v2 f n => mX7_addLock_l24 d v0 v1 v2 f n) v0 (none : Option Nat) v2 f n = some r := h
          refine aw_ifnull_n C 75 dX7_addLock_44 (by decide) ?_
          refine aw_fl [some (.ref v0), some (va_rf (none : Option Nat)), some (.int v2), none] ⟨rfl, ⟨rfl, ⟨rfl, trivial⟩⟩⟩ ?_
          exact rmX7_addLock_b75 C (fun v0 v1 v2 f n cells slots hc hs h => ih v0 v1 v2 f n cells slots hc hs h) (by omega) (by omega) h
        | some j12 =>
          replace h : rCk (isO f j11 5) (((mX5_size j11 f n).bind fun r14 => rCk (isO r14.2.1 j12 5) (((mX5_size j12 r14.2.1 r14.2.2).bind fun r17 => (if r14.1 = r17.1 then rCk (isO r17.2.1 j11 5) (((mX5_size j11 r17.2.1 r17.2.2).bind fun r20 => rCk (isO r20.2.1 j11 5) (((mX5_isSame j11 (0 : Int32) (some j12) (0 : Int32) r20.1 r20.2.1 r20.2.2).bind fun r23 => (if r23.1 = (0 : Int32) then mX7_addLock_b75 (fun v0 v1 v2 f n => mX7_addLock_l24 d v0 v1 v2 f n) v0 (some j12) v2 r23.2.1 r23.2.2 else some ((7 : Int32), (r23.2.1, r23.2.2))))))) else mX7_addLock_b75 (fun v0 v1 v2 f n => mX7_addLock_l24 d v0 v1 v2 f n) v0 (some j12) v2 r17.2.1 r17.2.2))))) = some r := h
          refine aw_ifnull_r C 75 dX7_addLock_44 (by decide) ?_
          refine aw_ald_n C dX7_addLock_47 rfl ?_
          obtain ⟨hb13, h⟩ := ck_some h
          obtain ⟨r14, hr14, h⟩ := Option.bind_eq_some_iff.mp h
          obtain ⟨fs15, hf15⟩ := isO_ex hb13
          refine aw_callV C (ci := 5) (b := j11) [] mv_X7_62 rfl rfl hf15 (rmX5_size hr14) rfl dX7_addLock_48 (Nat.le_of_ble_eq_true rfl) (Nat.le_of_ble_eq_true rfl) rfl (Nat.le_of_ble_eq_true rfl) (show cells + 0 ≤ 0 by omega) (show slots + 0 ≤ 0 by omega) (fun v9 f9 n9 hh => ?_)
          obtain ⟨rfl, rfl, rfl⟩ := hh
          refine aw_ald_n C dX7_addLock_51 rfl ?_
          obtain ⟨hb16, h⟩ := ck_some h
          obtain ⟨r17, hr17, h⟩ := Option.bind_eq_some_iff.mp h
          obtain ⟨fs18, hf18⟩ := isO_ex hb16
          refine aw_callV C (ci := 5) (b := j12) [] mv_X7_62 rfl rfl hf18 (rmX5_size hr17) rfl dX7_addLock_52 (Nat.le_of_ble_eq_true rfl) (Nat.le_of_ble_eq_true rfl) rfl (Nat.le_of_ble_eq_true rfl) (show (cells + 0) + 0 ≤ 0 by omega) (show (slots + 0) + 0 ≤ 0 by omega) (fun v9 f9 n9 hh => ?_)
          obtain ⟨rfl, rfl, rfl⟩ := hh
          refine aw_icmp_ne C 75 dX7_addLock_55 (by decide) (fun q => ?_) (fun q => ?_)
          · rw [if_neg q] at h
            refine aw_fl [some (.ref v0), some (va_rf (some j12)), some (.int v2), none] ⟨rfl, ⟨rfl, ⟨rfl, trivial⟩⟩⟩ ?_
            exact rmX7_addLock_b75 C (fun v0 v1 v2 f n cells slots hc hs h => ih v0 v1 v2 f n cells slots hc hs h) (by omega) (by omega) h
          · rw [if_pos q] at h
            refine aw_ald_n C dX7_addLock_58 rfl ?_
            refine aw_iconst C 0 dX7_addLock_59 ki_0 ?_
            refine aw_ald_n C dX7_addLock_60 rfl ?_
            refine aw_iconst C 0 dX7_addLock_61 ki_0 ?_
            refine aw_ald_n C dX7_addLock_62 rfl ?_
            obtain ⟨hb19, h⟩ := ck_some h
            obtain ⟨r20, hr20, h⟩ := Option.bind_eq_some_iff.mp h
            obtain ⟨fs21, hf21⟩ := isO_ex hb19
            refine aw_callV C (ci := 5) (b := j11) [] mv_X7_62 rfl rfl hf21 (rmX5_size hr20) rfl dX7_addLock_63 (Nat.le_of_ble_eq_true rfl) (Nat.le_of_ble_eq_true rfl) rfl (Nat.le_of_ble_eq_true rfl) (show ((cells + 0) + 0) + 0 ≤ 0 by omega) (show ((slots + 0) + 0) + 0 ≤ 0 by omega) (fun v9 f9 n9 hh => ?_)
            obtain ⟨rfl, rfl, rfl⟩ := hh
            obtain ⟨hb22, h⟩ := ck_some h
            obtain ⟨r23, hr23, h⟩ := Option.bind_eq_some_iff.mp h
            obtain ⟨fs24, hf24⟩ := isO_ex hb22
            refine aw_callV C (ci := 5) (b := j11) [.int (0 : Int32), .ref j12, .int (0 : Int32), .int r20.1] mv_X7_66 rfl rfl hf24 (rmX5_isSame hr23) rfl dX7_addLock_66 (Nat.le_of_ble_eq_true rfl) (Nat.le_of_ble_eq_true rfl) rfl (Nat.le_of_ble_eq_true rfl) (show (((cells + 0) + 0) + 0) + 0 ≤ 0 by omega) (show (((slots + 0) + 0) + 0) + 0 ≤ 0 by omega) (fun v9 f9 n9 hh => ?_)
            obtain ⟨rfl, rfl, rfl⟩ := hh
            refine aw_if_eq C 75 dX7_addLock_69 (by decide) (fun q => ?_) (fun q => ?_)
            · rw [if_pos q] at h
              refine aw_fl [some (.ref v0), some (va_rf (some j12)), some (.int v2), none] ⟨rfl, ⟨rfl, ⟨rfl, trivial⟩⟩⟩ ?_
              exact rmX7_addLock_b75 C (fun v0 v1 v2 f n cells slots hc hs h => ih v0 v1 v2 f n cells slots hc hs h) (by omega) (by omega) h
            · rw [if_neg q] at h
              refine aw_bipush C 7 dX7_addLock_72 kb_7 ?_
              cases h
              exact aw_iret C rfl rfl dX7_addLock_74 (by omega) (by omega) ⟨rfl, rfl, rfl⟩
def mX7_addLock_b19 (f : AH) (n : Nat) : Option (Int32 × HpN) := some ((6 : Int32), (f, n))
set_option maxHeartbeats 1000000 in
theorem rmX7_addLock_b19 {X : GX} {p : Program} {l : Launch} {e : Env} {s : State} {m : MethodId} {args : Array Value} {below : List Frame} {meth : Method} {c : Code} {r : Int32 × HpN} {f : AH} {n cells slots : Nat} (C : CC X p l (RM 2 0 0) s m args meth c RX7 cX7_addLock 4 (some .int)) (hc : cells + 0 ≤ 0) (hs : slots + 0 ≤ 0) (h : mX7_addLock_b19 f n = some r) : AW X p l e (RM 2 0 0) s m args below meth c 4 (ZM X below args s 0 0 (QHi r)) f n cells slots 19 [none, none, none, none] [] := by
  have h : some ((6 : Int32), (f, n)) = some r := h
  refine aw_bipush C 6 dX7_addLock_19 kb_6 ?_
  cases h
  exact aw_iret C rfl rfl dX7_addLock_21 (by omega) (by omega) ⟨rfl, rfl, rfl⟩
def mX7_addLock (v0 : Nat) (v1 : Option Nat) (f : AH) (n : Nat) : Option (Int32 × HpN) := ((gI f v0 7 5).bind fun x1 => (if x1 < (0 : Int32) then mX7_addLock_b19 f n else ((gI f v0 7 5).bind fun x2 => ((gR f v0 7 8).bind fun x3 => ((x3).bind fun j4 => ((gL f j4).bind fun x5 => (if x2 < (nI x5) then mX7_addLock_l24 rFU v0 v1 (0 : Int32) f n else mX7_addLock_b19 f n)))))))
set_option maxHeartbeats 1000000 in
theorem rmX7_addLock {X : GX} {l : Launch} {r : Int32 × HpN} {v0 : Nat} {v1 : Option Nat} {f : AH} {n : Nat} (h : mX7_addLock v0 v1 f n = some r) : AM X l yX7_addLock cX7_addLock 4 (some .int) 2 0 0 [.ref v0, va_rf v1] f n (QHi r) := by
  have h : ((gI f v0 7 5).bind fun x1 => (if x1 < (0 : Int32) then mX7_addLock_b19 f n else ((gI f v0 7 5).bind fun x2 => ((gR f v0 7 8).bind fun x3 => ((x3).bind fun j4 => ((gL f j4).bind fun x5 => (if x2 < (nI x5) then mX7_addLock_l24 rFU v0 v1 (0 : Int32) f n else mX7_addLock_b19 f n))))))) = some r := h
  refine AM.of (by decide +kernel) (all1 rfl (all1 (rf_cat _) rfl)) (Nat.le_of_ble_eq_true rfl) (fun p e s m args below meth c C hnm => ?_)
  refine aw_nl [some (.ref v0), some (va_rf v1), none, none] rfl ?_
  refine aw_ald_n C dX7_addLock_0 rfl ?_
  obtain ⟨x1, hx1, h⟩ := Option.bind_eq_some_iff.mp h
  refine ah_getI C gf_X7_41 hx1 dX7_addLock_1 ?_
  refine aw_if_lt C 19 dX7_addLock_4 (by decide) (fun q => ?_) (fun q => ?_)
  · rw [if_pos q] at h
    refine aw_fl [none, none, none, none] trivial ?_
    exact rmX7_addLock_b19 C (by omega) (by omega) h
  · rw [if_neg q] at h
    refine aw_ald_n C dX7_addLock_7 rfl ?_
    obtain ⟨x2, hx2, h⟩ := Option.bind_eq_some_iff.mp h
    refine ah_getI C gf_X7_41 hx2 dX7_addLock_8 ?_
    refine aw_ald_n C dX7_addLock_11 rfl ?_
    obtain ⟨x3, hx3, h⟩ := Option.bind_eq_some_iff.mp h
    refine ah_getR C gf_X7_30 hx3 dX7_addLock_12 ?_
    obtain ⟨j4, hj4, h⟩ := Option.bind_eq_some_iff.mp h
    rw [hj4]
    obtain ⟨x5, hx5, h⟩ := Option.bind_eq_some_iff.mp h
    refine ah_len C hx5 dX7_addLock_15 ?_
    refine aw_icmp_lt C 22 dX7_addLock_16 (by decide) (fun q => ?_) (fun q => ?_)
    · rw [if_pos q] at h
      refine aw_iconst C 0 dX7_addLock_22 ki_0 ?_
      refine aw_istore_n C dX7_addLock_23 (by decide) (ok_rf 1 rfl) ?_
      refine aw_nl [some (.ref v0), some (va_rf v1), some (.int (0 : Int32)), none] rfl ?_
      refine aw_fl [some (.ref v0), some (va_rf v1), some (.int (0 : Int32)), none] ⟨rfl, ⟨rfl, ⟨rfl, trivial⟩⟩⟩ ?_
      exact rmX7_addLock_l24 C rFU v0 v1 (0 : Int32) f n _ _ (by omega) (by omega) h
    · rw [if_neg q] at h
      refine aw_fl [none, none, none, none] trivial ?_
      exact rmX7_addLock_b19 C (by omega) (by omega) h
def mX7_setTold_b20 (f : AH) (n : Nat) : Option (Int32 × HpN) := some ((0 : Int32), (f, n))
set_option maxHeartbeats 1000000 in
theorem rmX7_setTold_b20 {X : GX} {p : Program} {l : Launch} {e : Env} {s : State} {m : MethodId} {args : Array Value} {below : List Frame} {meth : Method} {c : Code} {r : Int32 × HpN} {f : AH} {n cells slots : Nat} (C : CC X p l (RM 0 0 0) s m args meth c RX7 cX7_setTold 3 none) (hc : cells + 0 ≤ 0) (hs : slots + 0 ≤ 0) (h : mX7_setTold_b20 f n = some r) : AW X p l e (RM 0 0 0) s m args below meth c 3 (ZM X below args s 0 0 (QHv r)) f n cells slots 20 [none, none, none] [] := by
  have h : some ((0 : Int32), (f, n)) = some r := h
  cases h
  exact aw_vret C rfl dX7_setTold_20 (by omega) (by omega) ⟨rfl, rfl, rfl⟩
def mX7_setTold (v0 : Nat) (v1 : Int32) (v2 : Option Nat) (f : AH) (n : Nat) : Option (Int32 × HpN) := (if v1 < (0 : Int32) then mX7_setTold_b20 f n else ((gR f v0 7 9).bind fun x1 => ((x1).bind fun j2 => ((gL f j2).bind fun x3 => (if (nI x3) ≤ v1 then mX7_setTold_b20 f n else ((gR f v0 7 9).bind fun x4 => ((x4).bind fun j5 => ((pRA f j5 v1 v2).bind fun f6 => mX7_setTold_b20 f6 n))))))))
set_option maxHeartbeats 1000000 in
theorem rmX7_setTold {X : GX} {l : Launch} {r : Int32 × HpN} {v0 : Nat} {v1 : Int32} {v2 : Option Nat} {f : AH} {n : Nat} (h : mX7_setTold v0 v1 v2 f n = some r) : AM X l yX7_setTold cX7_setTold 3 none 0 0 0 [.ref v0, .int v1, va_rf v2] f n (QHv r) := by
  have h : (if v1 < (0 : Int32) then mX7_setTold_b20 f n else ((gR f v0 7 9).bind fun x1 => ((x1).bind fun j2 => ((gL f j2).bind fun x3 => (if (nI x3) ≤ v1 then mX7_setTold_b20 f n else ((gR f v0 7 9).bind fun x4 => ((x4).bind fun j5 => ((pRA f j5 v1 v2).bind fun f6 => mX7_setTold_b20 f6 n)))))))) = some r := h
  refine AM.of (by decide +kernel) (all1 rfl (all1 rfl (all1 (rf_cat _) rfl))) (Nat.le_of_ble_eq_true rfl) (fun p e s m args below meth c C hnm => ?_)
  refine aw_nl [some (.ref v0), some (.int v1), some (va_rf v2)] rfl ?_
  refine aw_iload_n C dX7_setTold_0 rfl ?_
  refine aw_if_lt C 20 dX7_setTold_1 (by decide) (fun q => ?_) (fun q => ?_)
  · rw [if_pos q] at h
    refine aw_fl [none, none, none] trivial ?_
    exact rmX7_setTold_b20 C (by omega) (by omega) h
  · rw [if_neg q] at h
    refine aw_iload_n C dX7_setTold_4 rfl ?_
    refine aw_ald_n C dX7_setTold_5 rfl ?_
    obtain ⟨x1, hx1, h⟩ := Option.bind_eq_some_iff.mp h
    refine ah_getR C gf_X7_34 hx1 dX7_setTold_6 ?_
    obtain ⟨j2, hj2, h⟩ := Option.bind_eq_some_iff.mp h
    rw [hj2]
    obtain ⟨x3, hx3, h⟩ := Option.bind_eq_some_iff.mp h
    refine ah_len C hx3 dX7_setTold_9 ?_
    refine aw_icmp_ge C 20 dX7_setTold_10 (by decide) (fun q => ?_) (fun q => ?_)
    · rw [if_pos q] at h
      refine aw_fl [none, none, none] trivial ?_
      exact rmX7_setTold_b20 C (by omega) (by omega) h
    · rw [if_neg q] at h
      refine aw_ald_n C dX7_setTold_13 rfl ?_
      obtain ⟨x4, hx4, h⟩ := Option.bind_eq_some_iff.mp h
      refine ah_getR C gf_X7_34 hx4 dX7_setTold_14 ?_
      refine aw_iload_n C dX7_setTold_17 rfl ?_
      refine aw_aload_n C dX7_setTold_18 rfl (rf_or v2) ?_
      obtain ⟨j5, hj5, h⟩ := Option.bind_eq_some_iff.mp h
      rw [hj5]
      obtain ⟨f6, hf6, h⟩ := Option.bind_eq_some_iff.mp h
      refine ah_aast C hf6 dX7_setTold_19 ?_
      refine aw_fl [none, none, none] trivial ?_
      exact rmX7_setTold_b20 C (by omega) (by omega) h
def mX8_freePiece_b58 (s0 : Int32) (f : AH) (n : Nat) : Option (Int32 × HpN) := some (s0, (f, n))
set_option maxHeartbeats 1000000 in
theorem rmX8_freePiece_b58 {X : GX} {p : Program} {l : Launch} {e : Env} {s : State} {m : MethodId} {args : Array Value} {below : List Frame} {meth : Method} {c : Code} {r : Int32 × HpN} {s0 : Int32} {f : AH} {n cells slots : Nat} (C : CC X p l (RM 5 0 0) s m args meth c RX8 cX8_freePiece 2 (some .int)) (hc : cells + 0 ≤ 0) (hs : slots + 0 ≤ 0) (h : mX8_freePiece_b58 s0 f n = some r) : AW X p l e (RM 5 0 0) s m args below meth c 2 (ZM X below args s 0 0 (QHi r)) f n cells slots 58 [none, none] [.int s0] := by
  have h : some (s0, (f, n)) = some r := h
  cases h
  exact aw_iret C rfl rfl dX8_freePiece_58 (by omega) (by omega) ⟨rfl, rfl, rfl⟩
def mX8_freePiece (v0 : Nat) (v1 : Int32) (f : AH) (n : Nat) : Option (Int32 × HpN) := ((gR f v0 8 5).bind fun x1 => ((x1).bind fun j2 => rCk (isO f j2 1) (((mX1_get j2 v1 f n).bind fun r4 => ((some r4.1).bind fun x6 => (oN x6 (some ((1 : Int32), (r4.2.1, r4.2.2))) (fun j7 => ((gR r4.2.1 v0 8 1).bind fun x8 => ((x8).bind fun j9 => rCk (isO r4.2.1 j9 7) (((mX7_toldFor j9 v1 r4.2.1 r4.2.2).bind fun r11 => ((some r11.1).bind fun x13 => (oN x13 (some ((4 : Int32), (r11.2.1, r11.2.2))) (fun j14 => ((gR r11.2.1 v0 8 1).bind fun x15 => ((x15).bind fun j16 => rCk (isO r11.2.1 j16 7) (((mX7_setTold j16 v1 (none : Option Nat) r11.2.1 r11.2.2).bind fun r18 => ((gR r18.2.1 v0 8 7).bind fun x20 => ((gR r18.2.1 v0 8 1).bind fun x21 => ((gR r18.2.1 v0 8 5).bind fun x22 => ((x20).bind fun j23 => rCk (isO r18.2.1 j23 0) (((mX0_make j23 x21 x22 r18.2.1 r18.2.2).bind fun r25 => (if r25.1 = (0 : Int32) then mX8_freePiece_b58 (3 : Int32) r25.2.1 r25.2.2 else mX8_freePiece_b58 (0 : Int32) r25.2.1 r25.2.2)))))))))))))))))))))))))
set_option maxHeartbeats 1000000 in
theorem rmX8_freePiece {X : GX} {l : Launch} {r : Int32 × HpN} {v0 : Nat} {v1 : Int32} {f : AH} {n : Nat} (h : mX8_freePiece v0 v1 f n = some r) : AM X l yX8_freePiece cX8_freePiece 2 (some .int) 5 0 0 [.ref v0, .int v1] f n (QHi r) := by
  have h : ((gR f v0 8 5).bind fun x1 => ((x1).bind fun j2 => rCk (isO f j2 1) (((mX1_get j2 v1 f n).bind fun r4 => ((some r4.1).bind fun x6 => (oN x6 (some ((1 : Int32), (r4.2.1, r4.2.2))) (fun j7 => ((gR r4.2.1 v0 8 1).bind fun x8 => ((x8).bind fun j9 => rCk (isO r4.2.1 j9 7) (((mX7_toldFor j9 v1 r4.2.1 r4.2.2).bind fun r11 => ((some r11.1).bind fun x13 => (oN x13 (some ((4 : Int32), (r11.2.1, r11.2.2))) (fun j14 => ((gR r11.2.1 v0 8 1).bind fun x15 => ((x15).bind fun j16 => rCk (isO r11.2.1 j16 7) (((mX7_setTold j16 v1 (none : Option Nat) r11.2.1 r11.2.2).bind fun r18 => ((gR r18.2.1 v0 8 7).bind fun x20 => ((gR r18.2.1 v0 8 1).bind fun x21 => ((gR r18.2.1 v0 8 5).bind fun x22 => ((x20).bind fun j23 => rCk (isO r18.2.1 j23 0) (((mX0_make j23 x21 x22 r18.2.1 r18.2.2).bind fun r25 => (if r25.1 = (0 : Int32) then mX8_freePiece_b58 (3 : Int32) r25.2.1 r25.2.2 else mX8_freePiece_b58 (0 : Int32) r25.2.1 r25.2.2))))))))))))))))))))))))) = some r := h
  refine AM.of (by decide +kernel) rfl (Nat.le_of_ble_eq_true rfl) (fun p e s m args below meth c C hnm => ?_)
  refine aw_nl [some (.ref v0), some (.int v1)] rfl ?_
  refine aw_ald_n C dX8_freePiece_0 rfl ?_
  obtain ⟨x1, hx1, h⟩ := Option.bind_eq_some_iff.mp h
  refine ah_getR C gf_X8_38 hx1 dX8_freePiece_1 ?_
  refine aw_iload_n C dX8_freePiece_4 rfl ?_
  obtain ⟨j2, hj2, h⟩ := Option.bind_eq_some_iff.mp h
  rw [hj2]
  obtain ⟨hb3, h⟩ := ck_some h
  obtain ⟨r4, hr4, h⟩ := Option.bind_eq_some_iff.mp h
  obtain ⟨fs5, hf5⟩ := isO_ex hb3
  refine aw_callV C (ci := 1) (b := j2) [.int v1] mv_X8_241 rfl rfl hf5 (rmX1_get hr4) rfl dX8_freePiece_5 (Nat.le_of_ble_eq_true rfl) (Nat.le_of_ble_eq_true rfl) rfl (Nat.le_of_ble_eq_true rfl) (show 0 + 0 ≤ 0 by omega) (show 0 + 0 ≤ 0 by omega) (fun v9 f9 n9 hh => ?_)
  obtain ⟨rfl, rfl, rfl⟩ := hh
  obtain ⟨x6, hx6, h⟩ := Option.bind_eq_some_iff.mp h
  rw [Option.some.inj hx6]
  cases x6 with
  | none =>
    replace h : some ((1 : Int32), (r4.2.1, r4.2.2)) = some r := h
    refine aw_ifnonnull_n C 13 dX8_freePiece_8 (by decide) ?_
    refine aw_iconst C 1 dX8_freePiece_11 ki_1 ?_
    cases h
    exact aw_iret C rfl rfl dX8_freePiece_12 (by omega) (by omega) ⟨rfl, rfl, rfl⟩
  | some j7 =>
    replace h : ((gR r4.2.1 v0 8 1).bind fun x8 => ((x8).bind fun j9 => rCk (isO r4.2.1 j9 7) (((mX7_toldFor j9 v1 r4.2.1 r4.2.2).bind fun r11 => ((some r11.1).bind fun x13 => (oN x13 (some ((4 : Int32), (r11.2.1, r11.2.2))) (fun j14 => ((gR r11.2.1 v0 8 1).bind fun x15 => ((x15).bind fun j16 => rCk (isO r11.2.1 j16 7) (((mX7_setTold j16 v1 (none : Option Nat) r11.2.1 r11.2.2).bind fun r18 => ((gR r18.2.1 v0 8 7).bind fun x20 => ((gR r18.2.1 v0 8 1).bind fun x21 => ((gR r18.2.1 v0 8 5).bind fun x22 => ((x20).bind fun j23 => rCk (isO r18.2.1 j23 0) (((mX0_make j23 x21 x22 r18.2.1 r18.2.2).bind fun r25 => (if r25.1 = (0 : Int32) then mX8_freePiece_b58 (3 : Int32) r25.2.1 r25.2.2 else mX8_freePiece_b58 (0 : Int32) r25.2.1 r25.2.2)))))))))))))))))) = some r := h
    refine aw_ifnonnull_r C 13 dX8_freePiece_8 (by decide) ?_
    refine aw_ald_n C dX8_freePiece_13 rfl ?_
    obtain ⟨x8, hx8, h⟩ := Option.bind_eq_some_iff.mp h
    refine ah_getR C gf_X8_21 hx8 dX8_freePiece_14 ?_
    refine aw_iload_n C dX8_freePiece_17 rfl ?_
    obtain ⟨j9, hj9, h⟩ := Option.bind_eq_some_iff.mp h
    rw [hj9]
    obtain ⟨hb10, h⟩ := ck_some h
    obtain ⟨r11, hr11, h⟩ := Option.bind_eq_some_iff.mp h
    obtain ⟨fs12, hf12⟩ := isO_ex hb10
    refine aw_callV C (ci := 7) (b := j9) [.int v1] mv_X8_194 rfl rfl hf12 (rmX7_toldFor hr11) rfl dX8_freePiece_18 (Nat.le_of_ble_eq_true rfl) (Nat.le_of_ble_eq_true rfl) rfl (Nat.le_of_ble_eq_true rfl) (show (0 + 0) + 0 ≤ 0 by omega) (show (0 + 0) + 0 ≤ 0 by omega) (fun v9 f9 n9 hh => ?_)
    obtain ⟨rfl, rfl, rfl⟩ := hh
    obtain ⟨x13, hx13, h⟩ := Option.bind_eq_some_iff.mp h
    rw [Option.some.inj hx13]
    cases x13 with
    | none =>
      replace h : some ((4 : Int32), (r11.2.1, r11.2.2)) = some r := h
      refine aw_ifnonnull_n C 26 dX8_freePiece_21 (by decide) ?_
      refine aw_iconst C 4 dX8_freePiece_24 ki_4 ?_
      cases h
      exact aw_iret C rfl rfl dX8_freePiece_25 (by omega) (by omega) ⟨rfl, rfl, rfl⟩
    | some j14 =>
      replace h : ((gR r11.2.1 v0 8 1).bind fun x15 => ((x15).bind fun j16 => rCk (isO r11.2.1 j16 7) (((mX7_setTold j16 v1 (none : Option Nat) r11.2.1 r11.2.2).bind fun r18 => ((gR r18.2.1 v0 8 7).bind fun x20 => ((gR r18.2.1 v0 8 1).bind fun x21 => ((gR r18.2.1 v0 8 5).bind fun x22 => ((x20).bind fun j23 => rCk (isO r18.2.1 j23 0) (((mX0_make j23 x21 x22 r18.2.1 r18.2.2).bind fun r25 => (if r25.1 = (0 : Int32) then mX8_freePiece_b58 (3 : Int32) r25.2.1 r25.2.2 else mX8_freePiece_b58 (0 : Int32) r25.2.1 r25.2.2))))))))))) = some r := h
      refine aw_ifnonnull_r C 26 dX8_freePiece_21 (by decide) ?_
      refine aw_ald_n C dX8_freePiece_26 rfl ?_
      obtain ⟨x15, hx15, h⟩ := Option.bind_eq_some_iff.mp h
      refine ah_getR C gf_X8_21 hx15 dX8_freePiece_27 ?_
      refine aw_iload_n C dX8_freePiece_30 rfl ?_
      refine aw_null C dX8_freePiece_31 ?_
      obtain ⟨j16, hj16, h⟩ := Option.bind_eq_some_iff.mp h
      rw [hj16]
      obtain ⟨hb17, h⟩ := ck_some h
      obtain ⟨r18, hr18, h⟩ := Option.bind_eq_some_iff.mp h
      obtain ⟨fs19, hf19⟩ := isO_ex hb17
      refine aw_callV C (ci := 7) (b := j16) [.int v1, .null] mv_X8_369 rfl rfl hf19 (rmX7_setTold hr18) rfl dX8_freePiece_32 (Nat.le_of_ble_eq_true rfl) (Nat.le_of_ble_eq_true rfl) rfl (Nat.le_of_ble_eq_true rfl) (show ((0 + 0) + 0) + 0 ≤ 0 by omega) (show ((0 + 0) + 0) + 0 ≤ 0 by omega) (fun v9 f9 n9 hh => ?_)
      obtain ⟨rfl, rfl, rfl⟩ := hh
      refine aw_ald_n C dX8_freePiece_35 rfl ?_
      obtain ⟨x20, hx20, h⟩ := Option.bind_eq_some_iff.mp h
      refine ah_getR C gf_X8_48 hx20 dX8_freePiece_36 ?_
      refine aw_ald_n C dX8_freePiece_39 rfl ?_
      obtain ⟨x21, hx21, h⟩ := Option.bind_eq_some_iff.mp h
      refine ah_getR C gf_X8_21 hx21 dX8_freePiece_40 ?_
      refine aw_ald_n C dX8_freePiece_43 rfl ?_
      obtain ⟨x22, hx22, h⟩ := Option.bind_eq_some_iff.mp h
      refine ah_getR C gf_X8_38 hx22 dX8_freePiece_44 ?_
      obtain ⟨j23, hj23, h⟩ := Option.bind_eq_some_iff.mp h
      rw [hj23]
      obtain ⟨hb24, h⟩ := ck_some h
      obtain ⟨r25, hr25, h⟩ := Option.bind_eq_some_iff.mp h
      obtain ⟨fs26, hf26⟩ := isO_ex hb24
      refine aw_callV C (ci := 0) (b := j23) [va_rf x21, va_rf x22] mv_X8_365 rfl rfl hf26 (rmX0_make hr25) rfl dX8_freePiece_47 (Nat.le_of_ble_eq_true rfl) (Nat.le_of_ble_eq_true rfl) rfl (Nat.le_of_ble_eq_true rfl) (show (((0 + 0) + 0) + 0) + 0 ≤ 0 by omega) (show (((0 + 0) + 0) + 0) + 0 ≤ 0 by omega) (fun v9 f9 n9 hh => ?_)
      obtain ⟨rfl, rfl, rfl⟩ := hh
      refine aw_if_eq C 57 dX8_freePiece_50 (by decide) (fun q => ?_) (fun q => ?_)
      · rw [if_pos q] at h
        refine aw_iconst C 3 dX8_freePiece_57 ki_3 ?_
        refine aw_fl [none, none] trivial ?_
        exact rmX8_freePiece_b58 C (by omega) (by omega) h
      · rw [if_neg q] at h
        refine aw_iconst C 0 dX8_freePiece_53 ki_0 ?_
        refine aw_goto C 58 dX8_freePiece_54 (by decide) ?_
        refine aw_fl [none, none] trivial ?_
        exact rmX8_freePiece_b58 C (by omega) (by omega) h
def mX1_areLike_b66 (s0 : Int32) (f : AH) (n : Nat) : Option (Int32 × HpN) := rCk (rNb s0) (some (s0, (f, n)))
set_option maxHeartbeats 1000000 in
theorem rmX1_areLike_b66 {X : GX} {p : Program} {l : Launch} {e : Env} {s : State} {m : MethodId} {args : Array Value} {below : List Frame} {meth : Method} {c : Code} {r : Int32 × HpN} {s0 : Int32} {f : AH} {n cells slots : Nat} (C : CC X p l (RM 2 0 0) s m args meth c RX1 cX1_areLike 5 (some .boolean)) (hc : cells + 0 ≤ 0) (hs : slots + 0 ≤ 0) (h : mX1_areLike_b66 s0 f n = some r) : AW X p l e (RM 2 0 0) s m args below meth c 5 (ZM X below args s 0 0 (QHi r)) f n cells slots 66 [none, none, none, none, none] [.int s0] := by
  have h : rCk (rNb s0) (some (s0, (f, n))) = some r := h
  obtain ⟨hb1, h⟩ := ck_some h
  cases h
  exact aw_iret C rfl (nb_nar hb1) dX1_areLike_66 (by omega) (by omega) ⟨rfl, rfl, rfl⟩
def mX1_areLike_b65 (f : AH) (n : Nat) : Option (Int32 × HpN) := mX1_areLike_b66 (0 : Int32) f n
set_option maxHeartbeats 1000000 in
theorem rmX1_areLike_b65 {X : GX} {p : Program} {l : Launch} {e : Env} {s : State} {m : MethodId} {args : Array Value} {below : List Frame} {meth : Method} {c : Code} {r : Int32 × HpN} {f : AH} {n cells slots : Nat} (C : CC X p l (RM 2 0 0) s m args meth c RX1 cX1_areLike 5 (some .boolean)) (hc : cells + 0 ≤ 0) (hs : slots + 0 ≤ 0) (h : mX1_areLike_b65 f n = some r) : AW X p l e (RM 2 0 0) s m args below meth c 5 (ZM X below args s 0 0 (QHi r)) f n cells slots 65 [none, none, none, none, none] [] := by
  have h : mX1_areLike_b66 (0 : Int32) f n = some r := h
  refine aw_iconst C 0 dX1_areLike_65 ki_0 ?_
  refine aw_fl [none, none, none, none, none] trivial ?_
  exact rmX1_areLike_b66 C (by omega) (by omega) h
def mX1_areLike (v0 : Nat) (v1 : Int32) (v2 : Int32) (f : AH) (n : Nat) : Option (Int32 × HpN) := rCk (isO f v0 1) (((mX1_get v0 v1 f n).bind fun r2 => ((some r2.1).bind fun x4 => rCk (isO r2.2.1 v0 1) (((mX1_get v0 v2 r2.2.1 r2.2.2).bind fun r6 => ((some r6.1).bind fun x8 => (oN x4 (mX1_areLike_b65 r6.2.1 r6.2.2) (fun j9 => (oN x8 (mX1_areLike_b65 r6.2.1 r6.2.2) (fun j10 => ((gI r6.2.1 j9 3 3).bind fun x11 => ((gI r6.2.1 j10 3 3).bind fun x12 => (if x11 = x12 then ((gR r6.2.1 v0 1 0).bind fun x13 => ((gI r6.2.1 j9 3 2).bind fun x14 => ((gR r6.2.1 v0 1 0).bind fun x15 => ((gI r6.2.1 j10 3 2).bind fun x16 => ((gI r6.2.1 j9 3 3).bind fun x17 => ((x13).bind fun j18 => rCk (isO r6.2.1 j18 5) (((mX5_isSame j18 x14 x15 x16 x17 r6.2.1 r6.2.2).bind fun r20 => (if r20.1 = (0 : Int32) then mX1_areLike_b65 r20.2.1 r20.2.2 else mX1_areLike_b66 (1 : Int32) r20.2.1 r20.2.2))))))))) else mX1_areLike_b65 r6.2.1 r6.2.2)))))))))))))
set_option maxHeartbeats 1000000 in
theorem rmX1_areLike {X : GX} {l : Launch} {r : Int32 × HpN} {v0 : Nat} {v1 : Int32} {v2 : Int32} {f : AH} {n : Nat} (h : mX1_areLike v0 v1 v2 f n = some r) : AM X l yX1_areLike cX1_areLike 5 (some .boolean) 2 0 0 [.ref v0, .int v1, .int v2] f n (QHi r) := by
  have h : rCk (isO f v0 1) (((mX1_get v0 v1 f n).bind fun r2 => ((some r2.1).bind fun x4 => rCk (isO r2.2.1 v0 1) (((mX1_get v0 v2 r2.2.1 r2.2.2).bind fun r6 => ((some r6.1).bind fun x8 => (oN x4 (mX1_areLike_b65 r6.2.1 r6.2.2) (fun j9 => (oN x8 (mX1_areLike_b65 r6.2.1 r6.2.2) (fun j10 => ((gI r6.2.1 j9 3 3).bind fun x11 => ((gI r6.2.1 j10 3 3).bind fun x12 => (if x11 = x12 then ((gR r6.2.1 v0 1 0).bind fun x13 => ((gI r6.2.1 j9 3 2).bind fun x14 => ((gR r6.2.1 v0 1 0).bind fun x15 => ((gI r6.2.1 j10 3 2).bind fun x16 => ((gI r6.2.1 j9 3 3).bind fun x17 => ((x13).bind fun j18 => rCk (isO r6.2.1 j18 5) (((mX5_isSame j18 x14 x15 x16 x17 r6.2.1 r6.2.2).bind fun r20 => (if r20.1 = (0 : Int32) then mX1_areLike_b65 r20.2.1 r20.2.2 else mX1_areLike_b66 (1 : Int32) r20.2.1 r20.2.2))))))))) else mX1_areLike_b65 r6.2.1 r6.2.2))))))))))))) = some r := h
  refine AM.of (by decide +kernel) rfl (Nat.le_of_ble_eq_true rfl) (fun p e s m args below meth c C hnm => ?_)
  refine aw_nl [some (.ref v0), some (.int v1), some (.int v2), none, none] rfl ?_
  refine aw_ald_n C dX1_areLike_0 rfl ?_
  refine aw_iload_n C dX1_areLike_1 rfl ?_
  obtain ⟨hb1, h⟩ := ck_some h
  obtain ⟨r2, hr2, h⟩ := Option.bind_eq_some_iff.mp h
  obtain ⟨fs3, hf3⟩ := isO_ex hb1
  refine aw_callV C (ci := 1) (b := v0) [.int v1] mv_X1_154 rfl rfl hf3 (rmX1_get hr2) rfl dX1_areLike_2 (Nat.le_of_ble_eq_true rfl) (Nat.le_of_ble_eq_true rfl) rfl (Nat.le_of_ble_eq_true rfl) (show 0 + 0 ≤ 0 by omega) (show 0 + 0 ≤ 0 by omega) (fun v9 f9 n9 hh => ?_)
  obtain ⟨rfl, rfl, rfl⟩ := hh
  obtain ⟨x4, hx4, h⟩ := Option.bind_eq_some_iff.mp h
  rw [Option.some.inj hx4]
  refine aw_astore_n C dX1_areLike_5 (by decide) rfl (rf_or x4) ?_
  refine aw_nl [some (.ref v0), some (.int v1), some (.int v2), some (va_rf x4), none] rfl ?_
  refine aw_ald_n C dX1_areLike_6 rfl ?_
  refine aw_iload_n C dX1_areLike_7 rfl ?_
  obtain ⟨hb5, h⟩ := ck_some h
  obtain ⟨r6, hr6, h⟩ := Option.bind_eq_some_iff.mp h
  obtain ⟨fs7, hf7⟩ := isO_ex hb5
  refine aw_callV C (ci := 1) (b := v0) [.int v2] mv_X1_154 rfl rfl hf7 (rmX1_get hr6) rfl dX1_areLike_8 (Nat.le_of_ble_eq_true rfl) (Nat.le_of_ble_eq_true rfl) rfl (Nat.le_of_ble_eq_true rfl) (show (0 + 0) + 0 ≤ 0 by omega) (show (0 + 0) + 0 ≤ 0 by omega) (fun v9 f9 n9 hh => ?_)
  obtain ⟨rfl, rfl, rfl⟩ := hh
  obtain ⟨x8, hx8, h⟩ := Option.bind_eq_some_iff.mp h
  rw [Option.some.inj hx8]
  refine aw_astore C dX1_areLike_11 (by decide) (ok_rf 3 rfl) (rf_or x8) ?_
  refine aw_nl [some (.ref v0), some (.int v1), some (.int v2), some (va_rf x4), some (va_rf x8)] rfl ?_
  refine aw_aload_n C dX1_areLike_13 rfl (rf_or x4) ?_
  cases x4 with
  | none =>
    replace h : mX1_areLike_b65 r6.2.1 r6.2.2 = some r := h
    refine aw_ifnull_n C 65 dX1_areLike_14 (by decide) ?_
    refine aw_fl [none, none, none, none, none] trivial ?_
    exact rmX1_areLike_b65 C (by omega) (by omega) h
  | some j9 =>
    replace h : (oN x8 (mX1_areLike_b65 r6.2.1 r6.2.2) (fun j10 => ((gI r6.2.1 j9 3 3).bind fun x11 => ((gI r6.2.1 j10 3 3).bind fun x12 => (if x11 = x12 then ((gR r6.2.1 v0 1 0).bind fun x13 => ((gI r6.2.1 j9 3 2).bind fun x14 => ((gR r6.2.1 v0 1 0).bind fun x15 => ((gI r6.2.1 j10 3 2).bind fun x16 => ((gI r6.2.1 j9 3 3).bind fun x17 => ((x13).bind fun j18 => rCk (isO r6.2.1 j18 5) (((mX5_isSame j18 x14 x15 x16 x17 r6.2.1 r6.2.2).bind fun r20 => (if r20.1 = (0 : Int32) then mX1_areLike_b65 r20.2.1 r20.2.2 else mX1_areLike_b66 (1 : Int32) r20.2.1 r20.2.2))))))))) else mX1_areLike_b65 r6.2.1 r6.2.2))))) = some r := h
    refine aw_ifnull_r C 65 dX1_areLike_14 (by decide) ?_
    refine aw_aload C dX1_areLike_17 rfl (rf_or x8) ?_
    cases x8 with
    | none =>
      replace h : mX1_areLike_b65 r6.2.1 r6.2.2 = some r := h
      refine aw_ifnull_n C 65 dX1_areLike_19 (by decide) ?_
      refine aw_fl [none, none, none, none, none] trivial ?_
      exact rmX1_areLike_b65 C (by omega) (by omega) h
    | some j10 =>
      replace h : ((gI r6.2.1 j9 3 3).bind fun x11 => ((gI r6.2.1 j10 3 3).bind fun x12 => (if x11 = x12 then ((gR r6.2.1 v0 1 0).bind fun x13 => ((gI r6.2.1 j9 3 2).bind fun x14 => ((gR r6.2.1 v0 1 0).bind fun x15 => ((gI r6.2.1 j10 3 2).bind fun x16 => ((gI r6.2.1 j9 3 3).bind fun x17 => ((x13).bind fun j18 => rCk (isO r6.2.1 j18 5) (((mX5_isSame j18 x14 x15 x16 x17 r6.2.1 r6.2.2).bind fun r20 => (if r20.1 = (0 : Int32) then mX1_areLike_b65 r20.2.1 r20.2.2 else mX1_areLike_b66 (1 : Int32) r20.2.1 r20.2.2))))))))) else mX1_areLike_b65 r6.2.1 r6.2.2))) = some r := h
      refine aw_ifnull_r C 65 dX1_areLike_19 (by decide) ?_
      refine aw_ald_n C dX1_areLike_22 rfl ?_
      obtain ⟨x11, hx11, h⟩ := Option.bind_eq_some_iff.mp h
      refine ah_getI C gf_X1_133 hx11 dX1_areLike_23 ?_
      refine aw_ald C dX1_areLike_26 rfl ?_
      obtain ⟨x12, hx12, h⟩ := Option.bind_eq_some_iff.mp h
      refine ah_getI C gf_X1_133 hx12 dX1_areLike_28 ?_
      refine aw_icmp_ne C 65 dX1_areLike_31 (by decide) (fun q => ?_) (fun q => ?_)
      · rw [if_neg q] at h
        refine aw_fl [none, none, none, none, none] trivial ?_
        exact rmX1_areLike_b65 C (by omega) (by omega) h
      · rw [if_pos q] at h
        refine aw_ald_n C dX1_areLike_34 rfl ?_
        obtain ⟨x13, hx13, h⟩ := Option.bind_eq_some_iff.mp h
        refine ah_getR C gf_X1_14 hx13 dX1_areLike_35 ?_
        refine aw_ald_n C dX1_areLike_38 rfl ?_
        obtain ⟨x14, hx14, h⟩ := Option.bind_eq_some_iff.mp h
        refine ah_getI C gf_X1_130 hx14 dX1_areLike_39 ?_
        refine aw_ald_n C dX1_areLike_42 rfl ?_
        obtain ⟨x15, hx15, h⟩ := Option.bind_eq_some_iff.mp h
        refine ah_getR C gf_X1_14 hx15 dX1_areLike_43 ?_
        refine aw_ald C dX1_areLike_46 rfl ?_
        obtain ⟨x16, hx16, h⟩ := Option.bind_eq_some_iff.mp h
        refine ah_getI C gf_X1_130 hx16 dX1_areLike_48 ?_
        refine aw_ald_n C dX1_areLike_51 rfl ?_
        obtain ⟨x17, hx17, h⟩ := Option.bind_eq_some_iff.mp h
        refine ah_getI C gf_X1_133 hx17 dX1_areLike_52 ?_
        obtain ⟨j18, hj18, h⟩ := Option.bind_eq_some_iff.mp h
        rw [hj18]
        obtain ⟨hb19, h⟩ := ck_some h
        obtain ⟨r20, hr20, h⟩ := Option.bind_eq_some_iff.mp h
        obtain ⟨fs21, hf21⟩ := isO_ex hb19
        refine aw_callV C (ci := 5) (b := j18) [.int x14, va_rf x15, .int x16, .int x17] mv_X1_157 rfl rfl hf21 (rmX5_isSame hr20) rfl dX1_areLike_55 (Nat.le_of_ble_eq_true rfl) (Nat.le_of_ble_eq_true rfl) rfl (Nat.le_of_ble_eq_true rfl) (show ((0 + 0) + 0) + 0 ≤ 0 by omega) (show ((0 + 0) + 0) + 0 ≤ 0 by omega) (fun v9 f9 n9 hh => ?_)
        obtain ⟨rfl, rfl, rfl⟩ := hh
        refine aw_if_eq C 65 dX1_areLike_58 (by decide) (fun q => ?_) (fun q => ?_)
        · rw [if_pos q] at h
          refine aw_fl [none, none, none, none, none] trivial ?_
          exact rmX1_areLike_b65 C (by omega) (by omega) h
        · rw [if_neg q] at h
          refine aw_iconst C 1 dX1_areLike_61 ki_1 ?_
          refine aw_goto C 66 dX1_areLike_62 (by decide) ?_
          refine aw_fl [none, none, none, none, none] trivial ?_
          exact rmX1_areLike_b66 C (by omega) (by omega) h
end
