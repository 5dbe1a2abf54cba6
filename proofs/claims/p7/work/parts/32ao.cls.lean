def mX4_readNumber_b157 (s0 : Int32) (f : AH) (n : Nat) : Option (Int32 × HpN) := some (s0, (f, n))
set_option maxHeartbeats 1000000 in
theorem rmX4_readNumber_b157 {X : GX} {p : Program} {l : Launch} {e : Env} {s : State} {m : MethodId} {args : Array Value} {below : List Frame} {meth : Method} {c : Code} {r : Int32 × HpN} {s0 : Int32} {f : AH} {n cells slots : Nat} (C : CC X p l (RM 1 0 0) s m args meth c RX4 cX4_readNumber 6 (some .int)) (hc : cells + 0 ≤ 0) (hs : slots + 0 ≤ 0) (h : mX4_readNumber_b157 s0 f n = some r) : AW X p l e (RM 1 0 0) s m args below meth c 6 (ZM X below args s 0 0 (QHi r)) f n cells slots 157 [none, none, none, none, none, none] [.int s0] := by
  have h : some (s0, (f, n)) = some r := h
  cases h
  exact aw_iret C rfl rfl dX4_readNumber_157 (by omega) (by omega) ⟨rfl, rfl, rfl⟩
def mX4_readNumber_b156 (v3 : Int32) (f : AH) (n : Nat) : Option (Int32 × HpN) := mX4_readNumber_b157 v3 f n
set_option maxHeartbeats 1000000 in
theorem rmX4_readNumber_b156 {X : GX} {p : Program} {l : Launch} {e : Env} {s : State} {m : MethodId} {args : Array Value} {below : List Frame} {meth : Method} {c : Code} {r : Int32 × HpN} {v3 : Int32} {f : AH} {n cells slots : Nat} (C : CC X p l (RM 1 0 0) s m args meth c RX4 cX4_readNumber 6 (some .int)) (hc : cells + 0 ≤ 0) (hs : slots + 0 ≤ 0) (h : mX4_readNumber_b156 v3 f n = some r) : AW X p l e (RM 1 0 0) s m args below meth c 6 (ZM X below args s 0 0 (QHi r)) f n cells slots 156 [none, none, none, some (.int v3), none, none] [] := by
  have h : mX4_readNumber_b157 v3 f n = some r := h
  refine aw_iload_n C dX4_readNumber_156 rfl ?_
  refine aw_fl [none, none, none, none, none, none] trivial ?_
  exact rmX4_readNumber_b157 C (by omega) (by omega) h
def mX4_readNumber_b116 (v0 : Nat) (v1 : Int32) (v2 : Int32) (v3 : Int32) (v4 : Int32) (f : AH) (n : Nat) : Option (Int32 × HpN) := ((pO f v0 4 1 (.int (v3 + v4))).bind fun f1 => (if v4 < (1 : Int32) then mX4_readNumber_b156 v3 f1 n else (if (2 : Int32) < v4 then mX4_readNumber_b156 v3 f1 n else ((gI f1 v0 4 6).bind fun x2 => (if x2 < v1 then mX4_readNumber_b156 v3 f1 n else ((gI f1 v0 4 6).bind fun x3 => (if v2 < x3 then mX4_readNumber_b156 v3 f1 n else mX4_readNumber_b157 (-1 : Int32) f1 n)))))))
set_option maxHeartbeats 1000000 in
theorem rmX4_readNumber_b116 {X : GX} {p : Program} {l : Launch} {e : Env} {s : State} {m : MethodId} {args : Array Value} {below : List Frame} {meth : Method} {c : Code} {r : Int32 × HpN} {v0 : Nat} {v1 : Int32} {v2 : Int32} {v3 : Int32} {v4 : Int32} {f : AH} {n cells slots : Nat} (C : CC X p l (RM 1 0 0) s m args meth c RX4 cX4_readNumber 6 (some .int)) (hc : cells + 0 ≤ 0) (hs : slots + 0 ≤ 0) (h : mX4_readNumber_b116 v0 v1 v2 v3 v4 f n = some r) : AW X p l e (RM 1 0 0) s m args below meth c 6 (ZM X below args s 0 0 (QHi r)) f n cells slots 116 [some (.ref v0), some (.int v1), some (.int v2), some (.int v3), some (.int v4), none] [] := by
  have h : ((pO f v0 4 1 (.int (v3 + v4))).bind fun f1 => (if v4 < (1 : Int32) then mX4_readNumber_b156 v3 f1 n else (if (2 : Int32) < v4 then mX4_readNumber_b156 v3 f1 n else ((gI f1 v0 4 6).bind fun x2 => (if x2 < v1 then mX4_readNumber_b156 v3 f1 n else ((gI f1 v0 4 6).bind fun x3 => (if v2 < x3 then mX4_readNumber_b156 v3 f1 n else mX4_readNumber_b157 (-1 : Int32) f1 n))))))) = some r := h
  refine aw_ald_n C dX4_readNumber_116 rfl ?_
  refine aw_iload_n C dX4_readNumber_117 rfl ?_
  refine aw_iload C dX4_readNumber_118 rfl ?_
  refine aw_iadd C dX4_readNumber_120 ?_
  obtain ⟨f1, hf1, h⟩ := Option.bind_eq_some_iff.mp h
  refine ah_put C gf_X4_28 cf4 nf4_1 rfl rfl hf1 dX4_readNumber_121 ?_
  refine aw_iload C dX4_readNumber_124 rfl ?_
  refine aw_iconst C 1 dX4_readNumber_126 ki_1 ?_
  refine aw_icmp_lt C 156 dX4_readNumber_127 (by decide) (fun q => ?_) (fun q => ?_)
  · rw [if_pos q] at h
    refine aw_fl [none, none, none, some (.int v3), none, none] ⟨rfl, trivial⟩ ?_
    exact rmX4_readNumber_b156 C (by omega) (by omega) h
  · rw [if_neg q] at h
    refine aw_iload C dX4_readNumber_130 rfl ?_
    refine aw_iconst C 2 dX4_readNumber_132 ki_2 ?_
    refine aw_icmp_gt C 156 dX4_readNumber_133 (by decide) (fun q => ?_) (fun q => ?_)
    · rw [if_pos q] at h
      refine aw_fl [none, none, none, some (.int v3), none, none] ⟨rfl, trivial⟩ ?_
      exact rmX4_readNumber_b156 C (by omega) (by omega) h
    · rw [if_neg q] at h
      refine aw_ald_n C dX4_readNumber_136 rfl ?_
      obtain ⟨x2, hx2, h⟩ := Option.bind_eq_some_iff.mp h
      refine ah_getI C gf_X4_93 hx2 dX4_readNumber_137 ?_
      refine aw_iload_n C dX4_readNumber_140 rfl ?_
      refine aw_icmp_lt C 156 dX4_readNumber_141 (by decide) (fun q => ?_) (fun q => ?_)
      · rw [if_pos q] at h
        refine aw_fl [none, none, none, some (.int v3), none, none] ⟨rfl, trivial⟩ ?_
        exact rmX4_readNumber_b156 C (by omega) (by omega) h
      · rw [if_neg q] at h
        refine aw_ald_n C dX4_readNumber_144 rfl ?_
        obtain ⟨x3, hx3, h⟩ := Option.bind_eq_some_iff.mp h
        refine ah_getI C gf_X4_93 hx3 dX4_readNumber_145 ?_
        refine aw_iload_n C dX4_readNumber_148 rfl ?_
        refine aw_icmp_gt C 156 dX4_readNumber_149 (by decide) (fun q => ?_) (fun q => ?_)
        · rw [if_pos q] at h
          refine aw_fl [none, none, none, some (.int v3), none, none] ⟨rfl, trivial⟩ ?_
          exact rmX4_readNumber_b156 C (by omega) (by omega) h
        · rw [if_neg q] at h
          refine aw_iconst C (-1) dX4_readNumber_152 ki_m1 ?_
          refine aw_goto C 157 dX4_readNumber_153 (by decide) ?_
          refine aw_fl [none, none, none, none, none, none] trivial ?_
          exact rmX4_readNumber_b157 C (by omega) (by omega) h
def mX4_readNumber_b107 (rec30 : Nat → Int32 → Int32 → Int32 → Int32 → Int32 → AH → Nat → Option (Int32 × HpN)) (v0 : Nat) (v1 : Int32) (v2 : Int32) (v3 : Int32) (v4 : Int32) (v5 : Int32) (s0 : Nat) (s1 : Int32) (f : AH) (n : Nat) : Option (Int32 × HpN) := ((pO f s0 4 6 (.int s1)).bind fun f1 => rec30 v0 v1 v2 v3 v4 (v5 + (1 : Int32)) f1 n)
set_option maxHeartbeats 1000000 in
theorem rmX4_readNumber_b107 {X : GX} {p : Program} {l : Launch} {e : Env} {s : State} {m : MethodId} {args : Array Value} {below : List Frame} {meth : Method} {c : Code} {r : Int32 × HpN} {rec30 : Nat → Int32 → Int32 → Int32 → Int32 → Int32 → AH → Nat → Option (Int32 × HpN)} {v0 : Nat} {v1 : Int32} {v2 : Int32} {v3 : Int32} {v4 : Int32} {v5 : Int32} {s0 : Nat} {s1 : Int32} {f : AH} {n cells slots : Nat} (C : CC X p l (RM 1 0 0) s m args meth c RX4 cX4_readNumber 6 (some .int)) (Hr30 : ∀ (v0 : Nat) (v1 : Int32) (v2 : Int32) (v3 : Int32) (v4 : Int32) (v5 : Int32) (f : AH) (n cells slots : Nat), cells + 0 ≤ 0 → slots + 0 ≤ 0 → rec30 v0 v1 v2 v3 v4 v5 f n = some r → AW X p l e (RM 1 0 0) s m args below meth c 6 (ZM X below args s 0 0 (QHi r)) f n cells slots 30 [some (.ref v0), some (.int v1), some (.int v2), some (.int v3), some (.int v4), some (.int v5)] []) (hc : cells + 0 ≤ 0) (hs : slots + 0 ≤ 0) (h : mX4_readNumber_b107 rec30 v0 v1 v2 v3 v4 v5 s0 s1 f n = some r) : AW X p l e (RM 1 0 0) s m args below meth c 6 (ZM X below args s 0 0 (QHi r)) f n cells slots 107 [some (.ref v0), some (.int v1), some (.int v2), some (.int v3), some (.int v4), some (.int v5)] [.int s1, .ref s0] := by
  have h : ((pO f s0 4 6 (.int s1)).bind fun f1 => rec30 v0 v1 v2 v3 v4 (v5 + (1 : Int32)) f1 n) = some r := h
  obtain ⟨f1, hf1, h⟩ := Option.bind_eq_some_iff.mp h
  refine ah_put C gf_X4_93 cf4 nf4_6 rfl rfl hf1 dX4_readNumber_107 ?_
  refine aw_iinc C (v5 + (1 : Int32)) dX4_readNumber_110 rfl (by rw [ki_1]) (by decide) rfl ?_
  refine aw_nl [some (.ref v0), some (.int v1), some (.int v2), some (.int v3), some (.int v4), some (.int (v5 + (1 : Int32)))] rfl ?_
  refine aw_goto C 30 dX4_readNumber_113 (by decide) ?_
  refine aw_fl [some (.ref v0), some (.int v1), some (.int v2), some (.int v3), some (.int v4), some (.int (v5 + (1 : Int32)))] ⟨rfl, ⟨rfl, ⟨rfl, ⟨rfl, ⟨rfl, ⟨rfl, trivial⟩⟩⟩⟩⟩⟩ ?_
  exact Hr30 v0 v1 v2 v3 v4 (v5 + (1 : Int32)) f1 n _ _ (by omega) (by omega) h
def mX4_readNumber_l30 : Nat → Nat → Int32 → Int32 → Int32 → Int32 → Int32 → AH → Nat → Option (Int32 × HpN)
  | 0, _, _, _, _, _, _, _, _ => none
  | d + 1, v0, v1, v2, v3, v4, v5, f, n => ((gR f v0 4 7).bind fun x1 => ((x1).bind fun j2 => rCk (isO f j2 5) (((mX5_size j2 f n).bind fun r4 => (if r4.1 ≤ v5 then mX4_readNumber_b116 v0 v1 v2 v3 v4 r4.2.1 r4.2.2 else ((gR r4.2.1 v0 4 7).bind fun x6 => ((x6).bind fun j7 => rCk (isO r4.2.1 j7 5) (((mX5_get j7 v5 r4.2.1 r4.2.2).bind fun r9 => (if r9.1 < (48 : Int32) then mX4_readNumber_b116 v0 v1 v2 v3 v4 r9.2.1 r9.2.2 else ((gR r9.2.1 v0 4 7).bind fun x11 => ((x11).bind fun j12 => rCk (isO r9.2.1 j12 5) (((mX5_get j12 v5 r9.2.1 r9.2.2).bind fun r14 => (if (57 : Int32) < r14.1 then mX4_readNumber_b116 v0 v1 v2 v3 v4 r14.2.1 r14.2.2 else (if (v4 + (1 : Int32)) ≤ (2 : Int32) then ((gI r14.2.1 v0 4 6).bind fun x16 => ((gR r14.2.1 v0 4 7).bind fun x17 => ((x17).bind fun j18 => rCk (isO r14.2.1 j18 5) (((mX5_get j18 v5 r14.2.1 r14.2.2).bind fun r20 => mX4_readNumber_b107 (fun v0 v1 v2 v3 v4 v5 f n => mX4_readNumber_l30 d v0 v1 v2 v3 v4 v5 f n) v0 v1 v2 v3 (v4 + (1 : Int32)) v5 v0 (((x16 * (10 : Int32)) + r20.1) - (48 : Int32)) r20.2.1 r20.2.2))))) else ((gI r14.2.1 v0 4 6).bind fun x22 => mX4_readNumber_b107 (fun v0 v1 v2 v3 v4 v5 f n => mX4_readNumber_l30 d v0 v1 v2 v3 v4 v5 f n) v0 v1 v2 v3 (v4 + (1 : Int32)) v5 v0 x22 r14.2.1 r14.2.2)))))))))))))))))
set_option maxHeartbeats 1000000 in
theorem rmX4_readNumber_l30 {X : GX} {p : Program} {l : Launch} {e : Env} {s : State} {m : MethodId} {args : Array Value} {below : List Frame} {meth : Method} {c : Code} {r : Int32 × HpN} (C : CC X p l (RM 1 0 0) s m args meth c RX4 cX4_readNumber 6 (some .int)) : ∀ (d : Nat) (v0 : Nat) (v1 : Int32) (v2 : Int32) (v3 : Int32) (v4 : Int32) (v5 : Int32) (f : AH) (n cells slots : Nat) (_ : cells + 0 ≤ 0) (_ : slots + 0 ≤ 0) (_ : mX4_readNumber_l30 d v0 v1 v2 v3 v4 v5 f n = some r), AW X p l e (RM 1 0 0) s m args below meth c 6 (ZM X below args s 0 0 (QHi r)) f n cells slots 30 [some (.ref v0), some (.int v1), some (.int v2), some (.int v3), some (.int v4), some (.int v5)] [] := by
  intro d
  induction d with
  | zero =>
    intro v0 v1 v2 v3 v4 v5 f n cells slots hc hs h
    exact nomatch (show (none : Option (Int32 × HpN)) = some r from h)
  | succ d ih =>
    intro v0 v1 v2 v3 v4 v5 f n cells slots hc hs h
    have h : ((gR f v0 4 7).bind fun x1 => ((x1).bind fun j2 => rCk (isO f j2 5) (((mX5_size j2 f n).bind fun r4 => (if r4.1 ≤ v5 then mX4_readNumber_b116 v0 v1 v2 v3 v4 r4.2.1 r4.2.2 else ((gR r4.2.1 v0 4 7).bind fun x6 => ((x6).bind fun j7 => rCk (isO r4.2.1 j7 5) (((mX5_get j7 v5 r4.2.1 r4.2.2).bind fun r9 => (if r9.1 < (48 : Int32) then mX4_readNumber_b116 v0 v1 v2 v3 v4 r9.2.1 r9.2.2 else ((gR r9.2.1 v0 4 7).bind fun x11 => ((x11).bind fun j12 => rCk (isO r9.2.1 j12 5) (((mX5_get j12 v5 r9.2.1 r9.2.2).bind fun r14 => (if (57 : Int32) < r14.1 then mX4_readNumber_b116 v0 v1 v2 v3 v4 r14.2.1 r14.2.2 else (if (v4 + (1 : Int32)) ≤ (2 : Int32) then ((gI r14.2.1 v0 4 6).bind fun x16 => ((gR r14.2.1 v0 4 7).bind fun x17 => ((x17).bind fun j18 => rCk (isO r14.2.1 j18 5) (((mX5_get j18 v5 r14.2.1 r14.2.2).bind fun r20 => mX4_readNumber_b107 (fun v0 v1 v2 v3 v4 v5 f n => mX4_readNumber_l30 d v0 v1 v2 v3 v4 v5 f n) v0 v1 v2 v3 (v4 + (1 : Int32)) v5 v0 (((x16 * (10 : Int32)) + r20.1) - (48 : Int32)) r20.2.1 r20.2.2))))) else ((gI r14.2.1 v0 4 6).bind fun x22 => mX4_readNumber_b107 (fun v0 v1 v2 v3 v4 v5 f n => mX4_readNumber_l30 d v0 v1 v2 v3 v4 v5 f n) v0 v1 v2 v3 (v4 + (1 : Int32)) v5 v0 x22 r14.2.1 r14.2.2))))))))))))))))) = some r := h
    refine aw_iload C dX4_readNumber_30 rfl ?_
    refine aw_ald_n C dX4_readNumber_32 rfl ?_
    obtain ⟨x1, hx1, h⟩ := Option.bind_eq_some_iff.mp h
    refine ah_getR C gf_X4_14 hx1 dX4_readNumber_33 ?_
    obtain ⟨j2, hj2, h⟩ := Option.bind_eq_some_iff.mp h
    rw [hj2]
    obtain ⟨hb3, h⟩ := ck_some h
    obtain ⟨r4, hr4, h⟩ := Option.bind_eq_some_iff.mp h
    obtain ⟨fs5, hf5⟩ := isO_ex hb3
    refine aw_callV C (ci := 5) (b := j2) [] mv_X4_20 rfl rfl hf5 (rmX5_size hr4) rfl dX4_readNumber_36 (Nat.le_of_ble_eq_true rfl) (Nat.le_of_ble_eq_true rfl) rfl (Nat.le_of_ble_eq_true rfl) (show cells + 0 ≤ 0 by omega) (show slots + 0 ≤ 0 by omega) (fun v9 f9 n9 hh => ?_)
    obtain ⟨rfl, rfl, rfl⟩ := hh
    refine aw_icmp_ge C 116 dX4_readNumber_39 (by decide) (fun q => ?_) (fun q => ?_)
    · rw [if_pos q] at h
      refine aw_fl [some (.ref v0), some (.int v1), some (.int v2), some (.int v3), some (.int v4), none] ⟨rfl, ⟨rfl, ⟨rfl, ⟨rfl, ⟨rfl, trivial⟩⟩⟩⟩⟩ ?_
      exact rmX4_readNumber_b116 C (by omega) (by omega) h
    · rw [if_neg q] at h
      refine aw_ald_n C dX4_readNumber_42 rfl ?_
      obtain ⟨x6, hx6, h⟩ := Option.bind_eq_some_iff.mp h
      refine ah_getR C gf_X4_14 hx6 dX4_readNumber_43 ?_
      refine aw_iload C dX4_readNumber_46 rfl ?_
      obtain ⟨j7, hj7, h⟩ := Option.bind_eq_some_iff.mp h
      rw [hj7]
      obtain ⟨hb8, h⟩ := ck_some h
      obtain ⟨r9, hr9, h⟩ := Option.bind_eq_some_iff.mp h
      obtain ⟨fs10, hf10⟩ := isO_ex hb8
      refine aw_callV C (ci := 5) (b := j7) [.int v5] mv_X4_36 rfl rfl hf10 (rmX5_get hr9) rfl dX4_readNumber_48 (Nat.le_of_ble_eq_true rfl) (Nat.le_of_ble_eq_true rfl) rfl (Nat.le_of_ble_eq_true rfl) (show (cells + 0) + 0 ≤ 0 by omega) (show (slots + 0) + 0 ≤ 0 by omega) (fun v9 f9 n9 hh => ?_)
      obtain ⟨rfl, rfl, rfl⟩ := hh
      refine aw_bipush C 48 dX4_readNumber_51 kb_48 ?_
      refine aw_icmp_lt C 116 dX4_readNumber_53 (by decide) (fun q => ?_) (fun q => ?_)
      · rw [if_pos q] at h
        refine aw_fl [some (.ref v0), some (.int v1), some (.int v2), some (.int v3), some (.int v4), none] ⟨rfl, ⟨rfl, ⟨rfl, ⟨rfl, ⟨rfl, trivial⟩⟩⟩⟩⟩ ?_
        exact rmX4_readNumber_b116 C (by omega) (by omega) h
      · rw [if_neg q] at h
        refine aw_ald_n C dX4_readNumber_56 rfl ?_
        obtain ⟨x11, hx11, h⟩ := Option.bind_eq_some_iff.mp h
        refine ah_getR C gf_X4_14 hx11 dX4_readNumber_57 ?_
        refine aw_iload C dX4_readNumber_60 rfl ?_
        obtain ⟨j12, hj12, h⟩ := Option.bind_eq_some_iff.mp h
        rw [hj12]
        obtain ⟨hb13, h⟩ := ck_some h
        obtain ⟨r14, hr14, h⟩ := Option.bind_eq_some_iff.mp h
        obtain ⟨fs15, hf15⟩ := isO_ex hb13
        refine aw_callV C (ci := 5) (b := j12) [.int v5] mv_X4_36 rfl rfl hf15 (rmX5_get hr14) rfl dX4_readNumber_62 (Nat.le_of_ble_eq_true rfl) (Nat.le_of_ble_eq_true rfl) rfl (Nat.le_of_ble_eq_true rfl) (show ((cells + 0) + 0) + 0 ≤ 0 by omega) (show ((slots + 0) + 0) + 0 ≤ 0 by omega) (fun v9 f9 n9 hh => ?_)
        obtain ⟨rfl, rfl, rfl⟩ := hh
        refine aw_bipush C 57 dX4_readNumber_65 kb_57 ?_
        refine aw_icmp_gt C 116 dX4_readNumber_67 (by decide) (fun q => ?_) (fun q => ?_)
        · rw [if_pos q] at h
          refine aw_fl [some (.ref v0), some (.int v1), some (.int v2), some (.int v3), some (.int v4), none] ⟨rfl, ⟨rfl, ⟨rfl, ⟨rfl, ⟨rfl, trivial⟩⟩⟩⟩⟩ ?_
          exact rmX4_readNumber_b116 C (by omega) (by omega) h
        · rw [if_neg q] at h
          refine aw_iinc C (v4 + (1 : Int32)) dX4_readNumber_70 rfl (by rw [ki_1]) (by decide) rfl ?_
          refine aw_nl [some (.ref v0), some (.int v1), some (.int v2), some (.int v3), some (.int (v4 + (1 : Int32))), some (.int v5)] rfl ?_
          refine aw_ald_n C dX4_readNumber_73 rfl ?_
          refine aw_iload C dX4_readNumber_74 rfl ?_
          refine aw_iconst C 2 dX4_readNumber_76 ki_2 ?_
          refine aw_icmp_le C 87 dX4_readNumber_77 (by decide) (fun q => ?_) (fun q => ?_)
          · rw [if_pos q] at h
            refine aw_ald_n C dX4_readNumber_87 rfl ?_
            obtain ⟨x16, hx16, h⟩ := Option.bind_eq_some_iff.mp h
            refine ah_getI C gf_X4_93 hx16 dX4_readNumber_88 ?_
            refine aw_bipush C 10 dX4_readNumber_91 kb_10 ?_
            refine aw_imul C dX4_readNumber_93 ?_
            refine aw_ald_n C dX4_readNumber_94 rfl ?_
            obtain ⟨x17, hx17, h⟩ := Option.bind_eq_some_iff.mp h
            refine ah_getR C gf_X4_14 hx17 dX4_readNumber_95 ?_
            refine aw_iload C dX4_readNumber_98 rfl ?_
            obtain ⟨j18, hj18, h⟩ := Option.bind_eq_some_iff.mp h
            rw [hj18]
            obtain ⟨hb19, h⟩ := ck_some h
            obtain ⟨r20, hr20, h⟩ := Option.bind_eq_some_iff.mp h
            obtain ⟨fs21, hf21⟩ := isO_ex hb19
            refine aw_callV C (ci := 5) (b := j18) [.int v5] mv_X4_36 rfl rfl hf21 (rmX5_get hr20) rfl dX4_readNumber_100 (Nat.le_of_ble_eq_true rfl) (Nat.le_of_ble_eq_true rfl) rfl (Nat.le_of_ble_eq_true rfl) (show (((cells + 0) + 0) + 0) + 0 ≤ 0 by omega) (show (((slots + 0) + 0) + 0) + 0 ≤ 0 by omega) (fun v9 f9 n9 hh => ?_)
            obtain ⟨rfl, rfl, rfl⟩ := hh
            refine aw_iadd C dX4_readNumber_103 ?_
            refine aw_bipush C 48 dX4_readNumber_104 kb_48 ?_
            refine aw_isub C dX4_readNumber_106 ?_
            refine aw_fl [some (.ref v0), some (.int v1), some (.int v2), some (.int v3), some (.int (v4 + (1 : Int32))), some (.int v5)] ⟨rfl, ⟨rfl, ⟨rfl, ⟨rfl, ⟨rfl, ⟨rfl, trivial⟩⟩⟩⟩⟩⟩ ?_
            exact rmX4_readNumber_b107 C (fun v0 v1 v2 v3 v4 v5 f n cells slots hc hs h => ih v0 v1 v2 v3 v4 v5 f n cells slots hc hs h) (by omega) (by omega) h
          · rw [if_neg q] at h
            refine aw_ald_n C dX4_readNumber_80 rfl ?_
            obtain ⟨x22, hx22, h⟩ := Option.bind_eq_some_iff.mp h
            refine ah_getI C gf_X4_93 hx22 dX4_readNumber_81 ?_
            refine aw_goto C 107 dX4_readNumber_84 (by decide) ?_
            refine aw_fl [some (.ref v0), some (.int v1), some (.int v2), some (.int v3), some (.int (v4 + (1 : Int32))), some (.int v5)] ⟨rfl, ⟨rfl, ⟨rfl, ⟨rfl, ⟨rfl, ⟨rfl, trivial⟩⟩⟩⟩⟩⟩ ?_
            exact rmX4_readNumber_b107 C (fun v0 v1 v2 v3 v4 v5 f n cells slots hc hs h => ih v0 v1 v2 v3 v4 v5 f n cells slots hc hs h) (by omega) (by omega) h
def mX4_readNumber (v0 : Nat) (v1 : Int32) (v2 : Int32) (f : AH) (n : Nat) : Option (Int32 × HpN) := ((gR f v0 4 7).bind fun x1 => ((gI f v0 4 1).bind fun x2 => ((gR f v0 4 7).bind fun x3 => ((x3).bind fun j4 => rCk (isO f j4 5) (((mX5_size j4 f n).bind fun r6 => ((x1).bind fun j8 => rCk (isO r6.2.1 j8 5) (((mX5_behindBlanks j8 x2 r6.1 r6.2.1 r6.2.2).bind fun r10 => ((pO r10.2.1 v0 4 6 (.int (0 : Int32))).bind fun f12 => mX4_readNumber_l30 rFU v0 v1 v2 r10.1 (0 : Int32) r10.1 f12 r10.2.2))))))))))
set_option maxHeartbeats 1000000 in
theorem rmX4_readNumber {X : GX} {l : Launch} {r : Int32 × HpN} {v0 : Nat} {v1 : Int32} {v2 : Int32} {f : AH} {n : Nat} (h : mX4_readNumber v0 v1 v2 f n = some r) : AM X l yX4_readNumber cX4_readNumber 6 (some .int) 1 0 0 [.ref v0, .int v1, .int v2] f n (QHi r) := by
  have h : ((gR f v0 4 7).bind fun x1 => ((gI f v0 4 1).bind fun x2 => ((gR f v0 4 7).bind fun x3 => ((x3).bind fun j4 => rCk (isO f j4 5) (((mX5_size j4 f n).bind fun r6 => ((x1).bind fun j8 => rCk (isO r6.2.1 j8 5) (((mX5_behindBlanks j8 x2 r6.1 r6.2.1 r6.2.2).bind fun r10 => ((pO r10.2.1 v0 4 6 (.int (0 : Int32))).bind fun f12 => mX4_readNumber_l30 rFU v0 v1 v2 r10.1 (0 : Int32) r10.1 f12 r10.2.2)))))))))) = some r := h
  refine AM.of (by decide +kernel) rfl (Nat.le_of_ble_eq_true rfl) (fun p e s m args below meth c C hnm => ?_)
  refine aw_nl [some (.ref v0), some (.int v1), some (.int v2), none, none, none] rfl ?_
  refine aw_ald_n C dX4_readNumber_0 rfl ?_
  obtain ⟨x1, hx1, h⟩ := Option.bind_eq_some_iff.mp h
  refine ah_getR C gf_X4_14 hx1 dX4_readNumber_1 ?_
  refine aw_ald_n C dX4_readNumber_4 rfl ?_
  obtain ⟨x2, hx2, h⟩ := Option.bind_eq_some_iff.mp h
  refine ah_getI C gf_X4_28 hx2 dX4_readNumber_5 ?_
  refine aw_ald_n C dX4_readNumber_8 rfl ?_
  obtain ⟨x3, hx3, h⟩ := Option.bind_eq_some_iff.mp h
  refine ah_getR C gf_X4_14 hx3 dX4_readNumber_9 ?_
  obtain ⟨j4, hj4, h⟩ := Option.bind_eq_some_iff.mp h
  rw [hj4]
  obtain ⟨hb5, h⟩ := ck_some h
  obtain ⟨r6, hr6, h⟩ := Option.bind_eq_some_iff.mp h
  obtain ⟨fs7, hf7⟩ := isO_ex hb5
  refine aw_callV C (ci := 5) (b := j4) [] mv_X4_20 rfl rfl hf7 (rmX5_size hr6) rfl dX4_readNumber_12 (Nat.le_of_ble_eq_true rfl) (Nat.le_of_ble_eq_true rfl) rfl (cs_1 rfl (cs_1 (rf_cat _) cs_0)) (show 0 + 0 ≤ 0 by omega) (show 0 + 0 ≤ 0 by omega) (fun v9 f9 n9 hh => ?_)
  obtain ⟨rfl, rfl, rfl⟩ := hh
  obtain ⟨j8, hj8, h⟩ := Option.bind_eq_some_iff.mp h
  rw [hj8]
  obtain ⟨hb9, h⟩ := ck_some h
  obtain ⟨r10, hr10, h⟩ := Option.bind_eq_some_iff.mp h
  obtain ⟨fs11, hf11⟩ := isO_ex hb9
  refine aw_callV C (ci := 5) (b := j8) [.int x2, .int r6.1] mv_X4_24 rfl rfl hf11 (rmX5_behindBlanks hr10) rfl dX4_readNumber_15 (Nat.le_of_ble_eq_true rfl) (Nat.le_of_ble_eq_true rfl) rfl (Nat.le_of_ble_eq_true rfl) (show (0 + 0) + 0 ≤ 0 by omega) (show (0 + 0) + 0 ≤ 0 by omega) (fun v9 f9 n9 hh => ?_)
  obtain ⟨rfl, rfl, rfl⟩ := hh
  refine aw_istore_n C dX4_readNumber_18 (by decide) rfl ?_
  refine aw_nl [some (.ref v0), some (.int v1), some (.int v2), some (.int r10.1), none, none] rfl ?_
  refine aw_iconst C 0 dX4_readNumber_19 ki_0 ?_
  refine aw_istore C dX4_readNumber_20 (by decide) rfl ?_
  refine aw_nl [some (.ref v0), some (.int v1), some (.int v2), some (.int r10.1), some (.int (0 : Int32)), none] rfl ?_
  refine aw_ald_n C dX4_readNumber_22 rfl ?_
  refine aw_iconst C 0 dX4_readNumber_23 ki_0 ?_
  obtain ⟨f12, hf12, h⟩ := Option.bind_eq_some_iff.mp h
  refine ah_put C gf_X4_93 cf4 nf4_6 rfl rfl hf12 dX4_readNumber_24 ?_
  refine aw_iload_n C dX4_readNumber_27 rfl ?_
  refine aw_istore C dX4_readNumber_28 (by decide) rfl ?_
  refine aw_nl [some (.ref v0), some (.int v1), some (.int v2), some (.int r10.1), some (.int (0 : Int32)), some (.int r10.1)] rfl ?_
  refine aw_fl [some (.ref v0), some (.int v1), some (.int v2), some (.int r10.1), some (.int (0 : Int32)), some (.int r10.1)] ⟨rfl, ⟨rfl, ⟨rfl, ⟨rfl, ⟨rfl, ⟨rfl, trivial⟩⟩⟩⟩⟩⟩ ?_
  exact rmX4_readNumber_l30 C rFU v0 v1 v2 r10.1 (0 : Int32) r10.1 f12 r10.2.2 _ _ (by omega) (by omega) h
def mX4_readFirst (v0 : Nat) (v1 : Int32) (v2 : Int32) (f : AH) (n : Nat) : Option (Int32 × HpN) := rCk (isO f v0 4) (((mX4_readNumber v0 v1 v2 f n).bind fun r2 => ((gI r2.2.1 v0 4 6).bind fun x4 => ((pO r2.2.1 v0 4 3 (.int x4)).bind fun f5 => some (r2.1, (f5, r2.2.2))))))
set_option maxHeartbeats 1000000 in
theorem rmX4_readFirst {X : GX} {l : Launch} {r : Int32 × HpN} {v0 : Nat} {v1 : Int32} {v2 : Int32} {f : AH} {n : Nat} (h : mX4_readFirst v0 v1 v2 f n = some r) : AM X l yX4_readFirst cX4_readFirst 4 (some .int) 2 0 0 [.ref v0, .int v1, .int v2] f n (QHi r) := by
  have h : rCk (isO f v0 4) (((mX4_readNumber v0 v1 v2 f n).bind fun r2 => ((gI r2.2.1 v0 4 6).bind fun x4 => ((pO r2.2.1 v0 4 3 (.int x4)).bind fun f5 => some (r2.1, (f5, r2.2.2)))))) = some r := h
  refine AM.of (by decide +kernel) rfl (Nat.le_of_ble_eq_true rfl) (fun p e s m args below meth c C hnm => ?_)
  refine aw_nl [some (.ref v0), some (.int v1), some (.int v2), none] rfl ?_
  refine aw_ald_n C dX4_readFirst_0 rfl ?_
  refine aw_iload_n C dX4_readFirst_1 rfl ?_
  refine aw_iload_n C dX4_readFirst_2 rfl ?_
  obtain ⟨hb1, h⟩ := ck_some h
  obtain ⟨r2, hr2, h⟩ := Option.bind_eq_some_iff.mp h
  obtain ⟨fs3, hf3⟩ := isO_ex hb1
  refine aw_callV C (ci := 4) (b := v0) [.int v1, .int v2] mv_X4_90 rfl rfl hf3 (rmX4_readNumber hr2) rfl dX4_readFirst_3 (Nat.le_of_ble_eq_true rfl) (Nat.le_of_ble_eq_true rfl) rfl (Nat.le_of_ble_eq_true rfl) (show 0 + 0 ≤ 0 by omega) (show 0 + 0 ≤ 0 by omega) (fun v9 f9 n9 hh => ?_)
  obtain ⟨rfl, rfl, rfl⟩ := hh
  refine aw_istore_n C dX4_readFirst_6 (by decide) rfl ?_
  refine aw_nl [some (.ref v0), some (.int v1), some (.int v2), some (.int r2.1)] rfl ?_
  refine aw_ald_n C dX4_readFirst_7 rfl ?_
  refine aw_ald_n C dX4_readFirst_8 rfl ?_
  obtain ⟨x4, hx4, h⟩ := Option.bind_eq_some_iff.mp h
  refine ah_getI C gf_X4_93 hx4 dX4_readFirst_9 ?_
  obtain ⟨f5, hf5, h⟩ := Option.bind_eq_some_iff.mp h
  refine ah_put C gf_X4_96 cf4 nf4_3 rfl rfl hf5 dX4_readFirst_12 ?_
  refine aw_iload_n C dX4_readFirst_15 rfl ?_
  cases h
  exact aw_iret C rfl rfl dX4_readFirst_16 (by omega) (by omega) ⟨rfl, rfl, rfl⟩
def mX4_readSecond (v0 : Nat) (f : AH) (n : Nat) : Option (Int32 × HpN) := rCk (isO f v0 4) (((mX4_readNumber v0 (0 : Int32) (39 : Int32) f n).bind fun r2 => ((gI r2.2.1 v0 4 6).bind fun x4 => ((pO r2.2.1 v0 4 4 (.int x4)).bind fun f5 => some (r2.1, (f5, r2.2.2))))))
set_option maxHeartbeats 1000000 in
theorem rmX4_readSecond {X : GX} {l : Launch} {r : Int32 × HpN} {v0 : Nat} {f : AH} {n : Nat} (h : mX4_readSecond v0 f n = some r) : AM X l yX4_readSecond cX4_readSecond 2 (some .int) 2 0 0 [.ref v0] f n (QHi r) := by
  have h : rCk (isO f v0 4) (((mX4_readNumber v0 (0 : Int32) (39 : Int32) f n).bind fun r2 => ((gI r2.2.1 v0 4 6).bind fun x4 => ((pO r2.2.1 v0 4 4 (.int x4)).bind fun f5 => some (r2.1, (f5, r2.2.2)))))) = some r := h
  refine AM.of (by decide +kernel) rfl (Nat.le_of_ble_eq_true rfl) (fun p e s m args below meth c C hnm => ?_)
  refine aw_nl [some (.ref v0), none] rfl ?_
  refine aw_ald_n C dX4_readSecond_0 rfl ?_
  refine aw_iconst C 0 dX4_readSecond_1 ki_0 ?_
  refine aw_bipush C 39 dX4_readSecond_2 kb_39 ?_
  obtain ⟨hb1, h⟩ := ck_some h
  obtain ⟨r2, hr2, h⟩ := Option.bind_eq_some_iff.mp h
  obtain ⟨fs3, hf3⟩ := isO_ex hb1
  refine aw_callV C (ci := 4) (b := v0) [.int (0 : Int32), .int (39 : Int32)] mv_X4_90 rfl rfl hf3 (rmX4_readNumber hr2) rfl dX4_readSecond_4 (Nat.le_of_ble_eq_true rfl) (Nat.le_of_ble_eq_true rfl) rfl (Nat.le_of_ble_eq_true rfl) (show 0 + 0 ≤ 0 by omega) (show 0 + 0 ≤ 0 by omega) (fun v9 f9 n9 hh => ?_)
  obtain ⟨rfl, rfl, rfl⟩ := hh
  refine aw_istore_n C dX4_readSecond_7 (by decide) rfl ?_
  refine aw_nl [some (.ref v0), some (.int r2.1)] rfl ?_
  refine aw_ald_n C dX4_readSecond_8 rfl ?_
  refine aw_ald_n C dX4_readSecond_9 rfl ?_
  obtain ⟨x4, hx4, h⟩ := Option.bind_eq_some_iff.mp h
  refine ah_getI C gf_X4_93 hx4 dX4_readSecond_10 ?_
  obtain ⟨f5, hf5, h⟩ := Option.bind_eq_some_iff.mp h
  refine ah_put C gf_X4_99 cf4 nf4_4 rfl rfl hf5 dX4_readSecond_13 ?_
  refine aw_iload_n C dX4_readSecond_16 rfl ?_
  cases h
  exact aw_iret C rfl rfl dX4_readSecond_17 (by omega) (by omega) ⟨rfl, rfl, rfl⟩
def mX4_readWord_b50 (v1 : Int32) (f : AH) (n : Nat) : Option (Int32 × HpN) := some (v1, (f, n))
set_option maxHeartbeats 1000000 in
theorem rmX4_readWord_b50 {X : GX} {p : Program} {l : Launch} {e : Env} {s : State} {m : MethodId} {args : Array Value} {below : List Frame} {meth : Method} {c : Code} {r : Int32 × HpN} {v1 : Int32} {f : AH} {n cells slots : Nat} (C : CC X p l (RM 3 2 10) s m args meth c RX4 cX4_readWord 3 (some .int)) (hc : cells + 0 ≤ 2) (hs : slots + 0 ≤ 10) (h : mX4_readWord_b50 v1 f n = some r) : AW X p l e (RM 3 2 10) s m args below meth c 3 (ZM X below args s 2 10 (QHi r)) f n cells slots 50 [none, some (.int v1), none] [] := by
  have h : some (v1, (f, n)) = some r := h
  refine aw_iload_n C dX4_readWord_50 rfl ?_
  cases h
  exact aw_iret C rfl rfl dX4_readWord_51 (by omega) (by omega) ⟨rfl, rfl, rfl⟩
def mX4_readWord (v0 : Nat) (f : AH) (n : Nat) : Option (Int32 × HpN) := ((gR f v0 4 7).bind fun x1 => ((gI f v0 4 1).bind fun x2 => ((gR f v0 4 7).bind fun x3 => ((x3).bind fun j4 => rCk (isO f j4 5) (((mX5_size j4 f n).bind fun r6 => ((x1).bind fun j8 => rCk (isO r6.2.1 j8 5) (((mX5_behindBlanks j8 x2 r6.1 r6.2.1 r6.2.2).bind fun r10 => ((pO r10.2.1 v0 4 1 (.int r10.1)).bind fun f12 => rCk (isO f12 v0 4) (((mX4_lettersEnd v0 f12 r10.2.2).bind fun r14 => ((pO r14.2.1 v0 4 1 (.int r14.1)).bind fun f16 => ((gI f16 v0 4 1).bind fun x17 => (if (x17 - r10.1) < (1 : Int32) then mX4_readWord_b50 r10.1 f16 r14.2.2 else (if (x17 - r10.1) ≤ (8 : Int32) then ((gR f16 v0 4 7).bind fun x18 => ((x18).bind fun j19 => rCk (isO f16 j19 5) (((mX5_part 8 j19 r10.1 (x17 - r10.1) f16 r14.2.2).bind fun r21 => ((some r21.1).bind fun x23 => ((pO r21.2.1 v0 4 5 (va_rf x23)).bind fun f24 => some ((-1 : Int32), (f24, r21.2.2)))))))) else mX4_readWord_b50 r10.1 f16 r14.2.2))))))))))))))))
set_option maxHeartbeats 1000000 in
theorem rmX4_readWord {X : GX} {l : Launch} {r : Int32 × HpN} {v0 : Nat} {f : AH} {n : Nat} (h : mX4_readWord v0 f n = some r) : AM X l yX4_readWord cX4_readWord 3 (some .int) 3 2 10 [.ref v0] f n (QHi r) := by
  have h : ((gR f v0 4 7).bind fun x1 => ((gI f v0 4 1).bind fun x2 => ((gR f v0 4 7).bind fun x3 => ((x3).bind fun j4 => rCk (isO f j4 5) (((mX5_size j4 f n).bind fun r6 => ((x1).bind fun j8 => rCk (isO r6.2.1 j8 5) (((mX5_behindBlanks j8 x2 r6.1 r6.2.1 r6.2.2).bind fun r10 => ((pO r10.2.1 v0 4 1 (.int r10.1)).bind fun f12 => rCk (isO f12 v0 4) (((mX4_lettersEnd v0 f12 r10.2.2).bind fun r14 => ((pO r14.2.1 v0 4 1 (.int r14.1)).bind fun f16 => ((gI f16 v0 4 1).bind fun x17 => (if (x17 - r10.1) < (1 : Int32) then mX4_readWord_b50 r10.1 f16 r14.2.2 else (if (x17 - r10.1) ≤ (8 : Int32) then ((gR f16 v0 4 7).bind fun x18 => ((x18).bind fun j19 => rCk (isO f16 j19 5) (((mX5_part 8 j19 r10.1 (x17 - r10.1) f16 r14.2.2).bind fun r21 => ((some r21.1).bind fun x23 => ((pO r21.2.1 v0 4 5 (va_rf x23)).bind fun f24 => some ((-1 : Int32), (f24, r21.2.2)))))))) else mX4_readWord_b50 r10.1 f16 r14.2.2)))))))))))))))) = some r := h
  refine AM.of (by decide +kernel) rfl (Nat.le_of_ble_eq_true rfl) (fun p e s m args below meth c C hnm => ?_)
  refine aw_nl [some (.ref v0), none, none] rfl ?_
  refine aw_ald_n C dX4_readWord_0 rfl ?_
  obtain ⟨x1, hx1, h⟩ := Option.bind_eq_some_iff.mp h
  refine ah_getR C gf_X4_14 hx1 dX4_readWord_1 ?_
  refine aw_ald_n C dX4_readWord_4 rfl ?_
  obtain ⟨x2, hx2, h⟩ := Option.bind_eq_some_iff.mp h
  refine ah_getI C gf_X4_28 hx2 dX4_readWord_5 ?_
  refine aw_ald_n C dX4_readWord_8 rfl ?_
  obtain ⟨x3, hx3, h⟩ := Option.bind_eq_some_iff.mp h
  refine ah_getR C gf_X4_14 hx3 dX4_readWord_9 ?_
  obtain ⟨j4, hj4, h⟩ := Option.bind_eq_some_iff.mp h
  rw [hj4]
  obtain ⟨hb5, h⟩ := ck_some h
  obtain ⟨r6, hr6, h⟩ := Option.bind_eq_some_iff.mp h
  obtain ⟨fs7, hf7⟩ := isO_ex hb5
  refine aw_callV C (ci := 5) (b := j4) [] mv_X4_20 rfl rfl hf7 (rmX5_size hr6) rfl dX4_readWord_12 (Nat.le_of_ble_eq_true rfl) (Nat.le_of_ble_eq_true rfl) rfl (cs_1 rfl (cs_1 (rf_cat _) cs_0)) (show 0 + 0 ≤ 2 by omega) (show 0 + 0 ≤ 10 by omega) (fun v9 f9 n9 hh => ?_)
  obtain ⟨rfl, rfl, rfl⟩ := hh
  obtain ⟨j8, hj8, h⟩ := Option.bind_eq_some_iff.mp h
  rw [hj8]
  obtain ⟨hb9, h⟩ := ck_some h
  obtain ⟨r10, hr10, h⟩ := Option.bind_eq_some_iff.mp h
  obtain ⟨fs11, hf11⟩ := isO_ex hb9
  refine aw_callV C (ci := 5) (b := j8) [.int x2, .int r6.1] mv_X4_24 rfl rfl hf11 (rmX5_behindBlanks hr10) rfl dX4_readWord_15 (Nat.le_of_ble_eq_true rfl) (Nat.le_of_ble_eq_true rfl) rfl (Nat.le_of_ble_eq_true rfl) (show (0 + 0) + 0 ≤ 2 by omega) (show (0 + 0) + 0 ≤ 10 by omega) (fun v9 f9 n9 hh => ?_)
  obtain ⟨rfl, rfl, rfl⟩ := hh
  refine aw_istore_n C dX4_readWord_18 (by decide) rfl ?_
  refine aw_nl [some (.ref v0), some (.int r10.1), none] rfl ?_
  refine aw_ald_n C dX4_readWord_19 rfl ?_
  refine aw_iload_n C dX4_readWord_20 rfl ?_
  obtain ⟨f12, hf12, h⟩ := Option.bind_eq_some_iff.mp h
  refine ah_put C gf_X4_28 cf4 nf4_1 rfl rfl hf12 dX4_readWord_21 ?_
  refine aw_ald_n C dX4_readWord_24 rfl ?_
  refine aw_ald_n C dX4_readWord_25 rfl ?_
  obtain ⟨hb13, h⟩ := ck_some h
  obtain ⟨r14, hr14, h⟩ := Option.bind_eq_some_iff.mp h
  obtain ⟨fs15, hf15⟩ := isO_ex hb13
  refine aw_callV C (ci := 4) (b := v0) [] mv_X4_40 rfl rfl hf15 (rmX4_lettersEnd hr14) rfl dX4_readWord_26 (Nat.le_of_ble_eq_true rfl) (Nat.le_of_ble_eq_true rfl) rfl (Nat.le_of_ble_eq_true rfl) (show ((0 + 0) + 0) + 0 ≤ 2 by omega) (show ((0 + 0) + 0) + 0 ≤ 10 by omega) (fun v9 f9 n9 hh => ?_)
  obtain ⟨rfl, rfl, rfl⟩ := hh
  obtain ⟨f16, hf16, h⟩ := Option.bind_eq_some_iff.mp h
  refine ah_put C gf_X4_28 cf4 nf4_1 rfl rfl hf16 dX4_readWord_29 ?_
  refine aw_ald_n C dX4_readWord_32 rfl ?_
  obtain ⟨x17, hx17, h⟩ := Option.bind_eq_some_iff.mp h
  refine ah_getI C gf_X4_28 hx17 dX4_readWord_33 ?_
  refine aw_iload_n C dX4_readWord_36 rfl ?_
  refine aw_isub C dX4_readWord_37 ?_
  refine aw_istore_n C dX4_readWord_38 (by decide) rfl ?_
  refine aw_nl [some (.ref v0), some (.int r10.1), some (.int (x17 - r10.1))] rfl ?_
  refine aw_iload_n C dX4_readWord_39 rfl ?_
  refine aw_iconst C 1 dX4_readWord_40 ki_1 ?_
  refine aw_icmp_lt C 50 dX4_readWord_41 (by decide) (fun q => ?_) (fun q => ?_)
  · rw [if_pos q] at h
    refine aw_fl [none, some (.int r10.1), none] ⟨rfl, trivial⟩ ?_
    exact rmX4_readWord_b50 C (by omega) (by omega) h
  · rw [if_neg q] at h
    refine aw_iload_n C dX4_readWord_44 rfl ?_
    refine aw_bipush C 8 dX4_readWord_45 kb_8 ?_
    refine aw_icmp_le C 52 dX4_readWord_47 (by decide) (fun q => ?_) (fun q => ?_)
    · rw [if_pos q] at h
      refine aw_ald_n C dX4_readWord_52 rfl ?_
      refine aw_ald_n C dX4_readWord_53 rfl ?_
      obtain ⟨x18, hx18, h⟩ := Option.bind_eq_some_iff.mp h
      refine ah_getR C gf_X4_14 hx18 dX4_readWord_54 ?_
      refine aw_iload_n C dX4_readWord_57 rfl ?_
      refine aw_iload_n C dX4_readWord_58 rfl ?_
      obtain ⟨j19, hj19, h⟩ := Option.bind_eq_some_iff.mp h
      rw [hj19]
      obtain ⟨hb20, h⟩ := ck_some h
      obtain ⟨r21, hr21, h⟩ := Option.bind_eq_some_iff.mp h
      obtain ⟨fs22, hf22⟩ := isO_ex hb20
      refine aw_callV C (ci := 5) (b := j19) [.int r10.1, .int (x17 - r10.1)] mv_X4_102 rfl rfl hf22 (rmX5_part hr21) rfl dX4_readWord_59 (Nat.le_of_ble_eq_true rfl) (Nat.le_of_ble_eq_true rfl) rfl (Nat.le_of_ble_eq_true rfl) (show (((0 + 0) + 0) + 0) + 2 ≤ 2 by omega) (show (((0 + 0) + 0) + 0) + (2 + 8) ≤ 10 by omega) (fun v9 f9 n9 hh => ?_)
      obtain ⟨rfl, rfl, rfl⟩ := hh
      obtain ⟨x23, hx23, h⟩ := Option.bind_eq_some_iff.mp h
      rw [Option.some.inj hx23]
      obtain ⟨f24, hf24, h⟩ := Option.bind_eq_some_iff.mp h
      refine ah_put C gf_X4_106 cf4 nf4_5 (rf_nar _ x23) (rf_fit _ x23) hf24 dX4_readWord_62 ?_
      refine aw_iconst C (-1) dX4_readWord_65 ki_m1 ?_
      cases h
      exact aw_iret C rfl rfl dX4_readWord_66 (by omega) (by omega) ⟨rfl, rfl, rfl⟩
    · rw [if_neg q] at h
      refine aw_fl [none, some (.int r10.1), none] ⟨rfl, trivial⟩ ?_
      exact rmX4_readWord_b50 C (by omega) (by omega) h
def mX4_readAct_b148 (f : AH) (n : Nat) : Option (Int32 × HpN) := some ((-1 : Int32), (f, n))
set_option maxHeartbeats 1000000 in
theorem rmX4_readAct_b148 {X : GX} {p : Program} {l : Launch} {e : Env} {s : State} {m : MethodId} {args : Array Value} {below : List Frame} {meth : Method} {c : Code} {r : Int32 × HpN} {f : AH} {n cells slots : Nat} (C : CC X p l (RM 6 2 10) s m args meth c RX4 cX4_readAct 3 (some .int)) (hc : cells + 0 ≤ 2) (hs : slots + 0 ≤ 10) (h : mX4_readAct_b148 f n = some r) : AW X p l e (RM 6 2 10) s m args below meth c 3 (ZM X below args s 2 10 (QHi r)) f n cells slots 148 [none, none, none] [] := by
  have h : some ((-1 : Int32), (f, n)) = some r := h
  refine aw_iconst C (-1) dX4_readAct_148 ki_m1 ?_
  cases h
  exact aw_iret C rfl rfl dX4_readAct_149 (by omega) (by omega) ⟨rfl, rfl, rfl⟩
def mX4_readAct_b142 (s0 : Int32) (f : AH) (n : Nat) : Option (Int32 × HpN) := some (s0, (f, n))
set_option maxHeartbeats 1000000 in
theorem rmX4_readAct_b142 {X : GX} {p : Program} {l : Launch} {e : Env} {s : State} {m : MethodId} {args : Array Value} {below : List Frame} {meth : Method} {c : Code} {r : Int32 × HpN} {s0 : Int32} {f : AH} {n cells slots : Nat} (C : CC X p l (RM 6 2 10) s m args meth c RX4 cX4_readAct 3 (some .int)) (hc : cells + 0 ≤ 2) (hs : slots + 0 ≤ 10) (h : mX4_readAct_b142 s0 f n = some r) : AW X p l e (RM 6 2 10) s m args below meth c 3 (ZM X below args s 2 10 (QHi r)) f n cells slots 142 [none, none, none] [.int s0] := by
  have h : some (s0, (f, n)) = some r := h
  cases h
  exact aw_iret C rfl rfl dX4_readAct_142 (by omega) (by omega) ⟨rfl, rfl, rfl⟩
def mX4_readAct_b113 (v0 : Nat) (f : AH) (n : Nat) : Option (Int32 × HpN) := rCk (isO f v0 4) (((mX4_readFirst v0 (0 : Int32) (39 : Int32) f n).bind fun r2 => some (r2.1, (r2.2.1, r2.2.2))))
set_option maxHeartbeats 1000000 in
theorem rmX4_readAct_b113 {X : GX} {p : Program} {l : Launch} {e : Env} {s : State} {m : MethodId} {args : Array Value} {below : List Frame} {meth : Method} {c : Code} {r : Int32 × HpN} {v0 : Nat} {f : AH} {n cells slots : Nat} (C : CC X p l (RM 6 2 10) s m args meth c RX4 cX4_readAct 3 (some .int)) (hc : cells + 0 ≤ 2) (hs : slots + 0 ≤ 10) (h : mX4_readAct_b113 v0 f n = some r) : AW X p l e (RM 6 2 10) s m args below meth c 3 (ZM X below args s 2 10 (QHi r)) f n cells slots 113 [some (.ref v0), none, none] [] := by
  have h : rCk (isO f v0 4) (((mX4_readFirst v0 (0 : Int32) (39 : Int32) f n).bind fun r2 => some (r2.1, (r2.2.1, r2.2.2)))) = some r := h
  refine aw_ald_n C dX4_readAct_113 rfl ?_
  refine aw_iconst C 0 dX4_readAct_114 ki_0 ?_
  refine aw_bipush C 39 dX4_readAct_115 kb_39 ?_
  obtain ⟨hb1, h⟩ := ck_some h
  obtain ⟨r2, hr2, h⟩ := Option.bind_eq_some_iff.mp h
  obtain ⟨fs3, hf3⟩ := isO_ex hb1
  refine aw_callV C (ci := 4) (b := v0) [.int (0 : Int32), .int (39 : Int32)] mv_X4_49 rfl rfl hf3 (rmX4_readFirst hr2) rfl dX4_readAct_117 (Nat.le_of_ble_eq_true rfl) (Nat.le_of_ble_eq_true rfl) rfl (Nat.le_of_ble_eq_true rfl) (show cells + 0 ≤ 2 by omega) (show slots + 0 ≤ 10 by omega) (fun v9 f9 n9 hh => ?_)
  obtain ⟨rfl, rfl, rfl⟩ := hh
  cases h
  exact aw_iret C rfl rfl dX4_readAct_120 (by omega) (by omega) ⟨rfl, rfl, rfl⟩
def mX4_readAct_b98 (v0 : Nat) (f : AH) (n : Nat) : Option (Int32 × HpN) := rCk (isO f v0 4) (((mX4_readFirst v0 (0 : Int32) (3 : Int32) f n).bind fun r2 => some (r2.1, (r2.2.1, r2.2.2))))
set_option maxHeartbeats 1000000 in
theorem rmX4_readAct_b98 {X : GX} {p : Program} {l : Launch} {e : Env} {s : State} {m : MethodId} {args : Array Value} {below : List Frame} {meth : Method} {c : Code} {r : Int32 × HpN} {v0 : Nat} {f : AH} {n cells slots : Nat} (C : CC X p l (RM 6 2 10) s m args meth c RX4 cX4_readAct 3 (some .int)) (hc : cells + 0 ≤ 2) (hs : slots + 0 ≤ 10) (h : mX4_readAct_b98 v0 f n = some r) : AW X p l e (RM 6 2 10) s m args below meth c 3 (ZM X below args s 2 10 (QHi r)) f n cells slots 98 [some (.ref v0), none, none] [] := by
  have h : rCk (isO f v0 4) (((mX4_readFirst v0 (0 : Int32) (3 : Int32) f n).bind fun r2 => some (r2.1, (r2.2.1, r2.2.2)))) = some r := h
  refine aw_ald_n C dX4_readAct_98 rfl ?_
  refine aw_iconst C 0 dX4_readAct_99 ki_0 ?_
  refine aw_iconst C 3 dX4_readAct_100 ki_3 ?_
  obtain ⟨hb1, h⟩ := ck_some h
  obtain ⟨r2, hr2, h⟩ := Option.bind_eq_some_iff.mp h
  obtain ⟨fs3, hf3⟩ := isO_ex hb1
  refine aw_callV C (ci := 4) (b := v0) [.int (0 : Int32), .int (3 : Int32)] mv_X4_49 rfl rfl hf3 (rmX4_readFirst hr2) rfl dX4_readAct_101 (Nat.le_of_ble_eq_true rfl) (Nat.le_of_ble_eq_true rfl) rfl (Nat.le_of_ble_eq_true rfl) (show cells + 0 ≤ 2 by omega) (show slots + 0 ≤ 10 by omega) (fun v9 f9 n9 hh => ?_)
  obtain ⟨rfl, rfl, rfl⟩ := hh
  cases h
  exact aw_iret C rfl rfl dX4_readAct_104 (by omega) (by omega) ⟨rfl, rfl, rfl⟩
def mX4_readAct (v0 : Nat) (f : AH) (n : Nat) : Option (Int32 × HpN) := ((gI f v0 4 1).bind fun x1 => rCk (isO f v0 4) (((mX4_lettersEnd v0 f n).bind fun r3 => ((pO r3.2.1 v0 4 1 (.int r3.1)).bind fun f5 => ((gI f5 v0 4 1).bind fun x6 => rCk (isO f5 v0 4) (((mX4_actNamed v0 x1 (x6 - x1) f5 r3.2.2).bind fun r8 => ((pO r8.2.1 v0 4 2 (.int r8.1)).bind fun f10 => ((gI f10 v0 4 2).bind fun x11 => (if x11 = (-1 : Int32) then some (x1, (f10, r8.2.2)) else if x11 = (0 : Int32) then mX4_readAct_b98 v0 f10 r8.2.2 else if x11 = (1 : Int32) then mX4_readAct_b98 v0 f10 r8.2.2 else if x11 = (2 : Int32) then mX4_readAct_b148 f10 r8.2.2 else if x11 = (3 : Int32) then mX4_readAct_b148 f10 r8.2.2 else if x11 = (4 : Int32) then mX4_readAct_b148 f10 r8.2.2 else if x11 = (5 : Int32) then rCk (isO f10 v0 4) (((mX4_readFirst v0 (1 : Int32) (40 : Int32) f10 r8.2.2).bind fun r13 => some (r13.1, (r13.2.1, r13.2.2)))) else if x11 = (6 : Int32) then rCk (isO f10 v0 4) (((mX4_readWord v0 f10 r8.2.2).bind fun r16 => some (r16.1, (r16.2.1, r16.2.2)))) else if x11 = (7 : Int32) then mX4_readAct_b148 f10 r8.2.2 else if x11 = (8 : Int32) then mX4_readAct_b113 v0 f10 r8.2.2 else if x11 = (9 : Int32) then mX4_readAct_b113 v0 f10 r8.2.2 else if x11 = (10 : Int32) then rCk (isO f10 v0 4) (((mX4_readFirst v0 (0 : Int32) (39 : Int32) f10 r8.2.2).bind fun r19 => (if r19.1 = (-1 : Int32) then rCk (isO r19.2.1 v0 4) (((mX4_readSecond v0 r19.2.1 r19.2.2).bind fun r22 => mX4_readAct_b142 r22.1 r22.2.1 r22.2.2)) else mX4_readAct_b142 r19.1 r19.2.1 r19.2.2))) else mX4_readAct_b148 f10 r8.2.2))))))))))
set_option maxHeartbeats 1000000 in
theorem rmX4_readAct {X : GX} {l : Launch} {r : Int32 × HpN} {v0 : Nat} {f : AH} {n : Nat} (h : mX4_readAct v0 f n = some r) : AM X l yX4_readAct cX4_readAct 3 (some .int) 6 2 10 [.ref v0] f n (QHi r) := by
  have h : ((gI f v0 4 1).bind fun x1 => rCk (isO f v0 4) (((mX4_lettersEnd v0 f n).bind fun r3 => ((pO r3.2.1 v0 4 1 (.int r3.1)).bind fun f5 => ((gI f5 v0 4 1).bind fun x6 => rCk (isO f5 v0 4) (((mX4_actNamed v0 x1 (x6 - x1) f5 r3.2.2).bind fun r8 => ((pO r8.2.1 v0 4 2 (.int r8.1)).bind fun f10 => ((gI f10 v0 4 2).bind fun x11 => (if x11 = (-1 : Int32) then some (x1, (f10, r8.2.2)) else if x11 = (0 : Int32) then mX4_readAct_b98 v0 f10 r8.2.2 else if x11 = (1 : Int32) then mX4_readAct_b98 v0 f10 r8.2.2 else if x11 = (2 : Int32) then mX4_readAct_b148 f10 r8.2.2 else if x11 = (3 : Int32) then mX4_readAct_b148 f10 r8.2.2 else if x11 = (4 : Int32) then mX4_readAct_b148 f10 r8.2.2 else if x11 = (5 : Int32) then rCk (isO f10 v0 4) (((mX4_readFirst v0 (1 : Int32) (40 : Int32) f10 r8.2.2).bind fun r13 => some (r13.1, (r13.2.1, r13.2.2)))) else if x11 = (6 : Int32) then rCk (isO f10 v0 4) (((mX4_readWord v0 f10 r8.2.2).bind fun r16 => some (r16.1, (r16.2.1, r16.2.2)))) else if x11 = (7 : Int32) then mX4_readAct_b148 f10 r8.2.2 else if x11 = (8 : Int32) then mX4_readAct_b113 v0 f10 r8.2.2 else if x11 = (9 : Int32) then mX4_readAct_b113 v0 f10 r8.2.2 else if x11 = (10 : Int32) then rCk (isO f10 v0 4) (((mX4_readFirst v0 (0 : Int32) (39 : Int32) f10 r8.2.2).bind fun r19 => (if r19.1 = (-1 : Int32) then rCk (isO r19.2.1 v0 4) (((mX4_readSecond v0 r19.2.1 r19.2.2).bind fun r22 => mX4_readAct_b142 r22.1 r22.2.1 r22.2.2)) else mX4_readAct_b142 r19.1 r19.2.1 r19.2.2))) else mX4_readAct_b148 f10 r8.2.2)))))))))) = some r := h
  refine AM.of (by decide +kernel) rfl (Nat.le_of_ble_eq_true rfl) (fun p e s m args below meth c C hnm => ?_)
  refine aw_nl [some (.ref v0), none, none] rfl ?_
  refine aw_ald_n C dX4_readAct_0 rfl ?_
  obtain ⟨x1, hx1, h⟩ := Option.bind_eq_some_iff.mp h
  refine ah_getI C gf_X4_28 hx1 dX4_readAct_1 ?_
  refine aw_istore_n C dX4_readAct_4 (by decide) rfl ?_
  refine aw_nl [some (.ref v0), some (.int x1), none] rfl ?_
  refine aw_ald_n C dX4_readAct_5 rfl ?_
  refine aw_ald_n C dX4_readAct_6 rfl ?_
  obtain ⟨hb2, h⟩ := ck_some h
  obtain ⟨r3, hr3, h⟩ := Option.bind_eq_some_iff.mp h
  obtain ⟨fs4, hf4⟩ := isO_ex hb2
  refine aw_callV C (ci := 4) (b := v0) [] mv_X4_40 rfl rfl hf4 (rmX4_lettersEnd hr3) rfl dX4_readAct_7 (Nat.le_of_ble_eq_true rfl) (Nat.le_of_ble_eq_true rfl) rfl (Nat.le_of_ble_eq_true rfl) (show 0 + 0 ≤ 2 by omega) (show 0 + 0 ≤ 10 by omega) (fun v9 f9 n9 hh => ?_)
  obtain ⟨rfl, rfl, rfl⟩ := hh
  obtain ⟨f5, hf5, h⟩ := Option.bind_eq_some_iff.mp h
  refine ah_put C gf_X4_28 cf4 nf4_1 rfl rfl hf5 dX4_readAct_10 ?_
  refine aw_ald_n C dX4_readAct_13 rfl ?_
  refine aw_ald_n C dX4_readAct_14 rfl ?_
  refine aw_iload_n C dX4_readAct_15 rfl ?_
  refine aw_ald_n C dX4_readAct_16 rfl ?_
  obtain ⟨x6, hx6, h⟩ := Option.bind_eq_some_iff.mp h
  refine ah_getI C gf_X4_28 hx6 dX4_readAct_17 ?_
  refine aw_iload_n C dX4_readAct_20 rfl ?_
  refine aw_isub C dX4_readAct_21 ?_
  obtain ⟨hb7, h⟩ := ck_some h
  obtain ⟨r8, hr8, h⟩ := Option.bind_eq_some_iff.mp h
  obtain ⟨fs9, hf9⟩ := isO_ex hb7
  refine aw_callV C (ci := 4) (b := v0) [.int x1, .int (x6 - x1)] mv_X4_43 rfl rfl hf9 (rmX4_actNamed hr8) rfl dX4_readAct_22 (Nat.le_of_ble_eq_true rfl) (Nat.le_of_ble_eq_true rfl) rfl (Nat.le_of_ble_eq_true rfl) (show (0 + 0) + 0 ≤ 2 by omega) (show (0 + 0) + 0 ≤ 10 by omega) (fun v9 f9 n9 hh => ?_)
  obtain ⟨rfl, rfl, rfl⟩ := hh
  obtain ⟨f10, hf10, h⟩ := Option.bind_eq_some_iff.mp h
  refine ah_put C gf_X4_46 cf4 nf4_2 rfl rfl hf10 dX4_readAct_25 ?_
  refine aw_ald_n C dX4_readAct_28 rfl ?_
  obtain ⟨x11, hx11, h⟩ := Option.bind_eq_some_iff.mp h
  refine ah_getI C gf_X4_46 hx11 dX4_readAct_29 ?_
  by_cases q : x11 = (-1 : Int32)
  · rw [if_pos q] at h
    refine aw_top (-1 : Int32) q ?_
    refine aw_tabIn C (off := 64) 96 dX4_readAct_32 (by decide) (by decide) (by decide) (by decide) ?_
    refine aw_iload_n C dX4_readAct_96 rfl ?_
    cases h
    exact aw_iret C rfl rfl dX4_readAct_97 (by omega) (by omega) ⟨rfl, rfl, rfl⟩
  · rw [if_neg q] at h
    have q0 := q
    by_cases q : x11 = (0 : Int32)
    · rw [if_pos q] at h
      refine aw_top (0 : Int32) q ?_
      refine aw_tabIn C (off := 66) 98 dX4_readAct_32 (by decide) (by decide) (by decide) (by decide) ?_
      refine aw_fl [some (.ref v0), none, none] ⟨rfl, trivial⟩ ?_
      exact rmX4_readAct_b98 C (by omega) (by omega) h
    · rw [if_neg q] at h
      have q1 := q
      by_cases q : x11 = (1 : Int32)
      · rw [if_pos q] at h
        refine aw_top (1 : Int32) q ?_
        refine aw_tabIn C (off := 66) 98 dX4_readAct_32 (by decide) (by decide) (by decide) (by decide) ?_
        refine aw_fl [some (.ref v0), none, none] ⟨rfl, trivial⟩ ?_
        exact rmX4_readAct_b98 C (by omega) (by omega) h
      · rw [if_neg q] at h
        have q2 := q
        by_cases q : x11 = (2 : Int32)
        · rw [if_pos q] at h
          refine aw_top (2 : Int32) q ?_
          refine aw_tabIn C (off := 116) 148 dX4_readAct_32 (by decide) (by decide) (by decide) (by decide) ?_
          refine aw_fl [none, none, none] trivial ?_
          exact rmX4_readAct_b148 C (by omega) (by omega) h
        · rw [if_neg q] at h
          have q3 := q
          by_cases q : x11 = (3 : Int32)
          · rw [if_pos q] at h
            refine aw_top (3 : Int32) q ?_
            refine aw_tabIn C (off := 116) 148 dX4_readAct_32 (by decide) (by decide) (by decide) (by decide) ?_
            refine aw_fl [none, none, none] trivial ?_
            exact rmX4_readAct_b148 C (by omega) (by omega) h
          · rw [if_neg q] at h
            have q4 := q
            by_cases q : x11 = (4 : Int32)
            · rw [if_pos q] at h
              refine aw_top (4 : Int32) q ?_
              refine aw_tabIn C (off := 116) 148 dX4_readAct_32 (by decide) (by decide) (by decide) (by decide) ?_
              refine aw_fl [none, none, none] trivial ?_
              exact rmX4_readAct_b148 C (by omega) (by omega) h
            · rw [if_neg q] at h
              have q5 := q
              by_cases q : x11 = (5 : Int32)
              · rw [if_pos q] at h
                refine aw_top (5 : Int32) q ?_
                refine aw_tabIn C (off := 73) 105 dX4_readAct_32 (by decide) (by decide) (by decide) (by decide) ?_
                refine aw_ald_n C dX4_readAct_105 rfl ?_
                refine aw_iconst C 1 dX4_readAct_106 ki_1 ?_
                refine aw_bipush C 40 dX4_readAct_107 kb_40 ?_
                obtain ⟨hb12, h⟩ := ck_some h
                obtain ⟨r13, hr13, h⟩ := Option.bind_eq_some_iff.mp h
                obtain ⟨fs14, hf14⟩ := isO_ex hb12
                refine aw_callV C (ci := 4) (b := v0) [.int (1 : Int32), .int (40 : Int32)] mv_X4_49 rfl rfl hf14 (rmX4_readFirst hr13) rfl dX4_readAct_109 (Nat.le_of_ble_eq_true rfl) (Nat.le_of_ble_eq_true rfl) rfl (Nat.le_of_ble_eq_true rfl) (show ((0 + 0) + 0) + 0 ≤ 2 by omega) (show ((0 + 0) + 0) + 0 ≤ 10 by omega) (fun v9 f9 n9 hh => ?_)
                obtain ⟨rfl, rfl, rfl⟩ := hh
                cases h
                exact aw_iret C rfl rfl dX4_readAct_112 (by omega) (by omega) ⟨rfl, rfl, rfl⟩
              · rw [if_neg q] at h
                have q6 := q
                by_cases q : x11 = (6 : Int32)
                · rw [if_pos q] at h
                  refine aw_top (6 : Int32) q ?_
                  refine aw_tabIn C (off := 111) 143 dX4_readAct_32 (by decide) (by decide) (by decide) (by decide) ?_
                  refine aw_ald_n C dX4_readAct_143 rfl ?_
                  obtain ⟨hb15, h⟩ := ck_some h
                  obtain ⟨r16, hr16, h⟩ := Option.bind_eq_some_iff.mp h
                  obtain ⟨fs17, hf17⟩ := isO_ex hb15
                  refine aw_callV C (ci := 4) (b := v0) [] mv_X4_55 rfl rfl hf17 (rmX4_readWord hr16) rfl dX4_readAct_144 (Nat.le_of_ble_eq_true rfl) (Nat.le_of_ble_eq_true rfl) rfl (Nat.le_of_ble_eq_true rfl) (show ((0 + 0) + 0) + 2 ≤ 2 by omega) (show ((0 + 0) + 0) + 10 ≤ 10 by omega) (fun v9 f9 n9 hh => ?_)
                  obtain ⟨rfl, rfl, rfl⟩ := hh
                  cases h
                  exact aw_iret C rfl rfl dX4_readAct_147 (by omega) (by omega) ⟨rfl, rfl, rfl⟩
                · rw [if_neg q] at h
                  have q7 := q
                  by_cases q : x11 = (7 : Int32)
                  · rw [if_pos q] at h
                    refine aw_top (7 : Int32) q ?_
                    refine aw_tabIn C (off := 116) 148 dX4_readAct_32 (by decide) (by decide) (by decide) (by decide) ?_
                    refine aw_fl [none, none, none] trivial ?_
                    exact rmX4_readAct_b148 C (by omega) (by omega) h
                  · rw [if_neg q] at h
                    have q8 := q
                    by_cases q : x11 = (8 : Int32)
                    · rw [if_pos q] at h
                      refine aw_top (8 : Int32) q ?_
                      refine aw_tabIn C (off := 81) 113 dX4_readAct_32 (by decide) (by decide) (by decide) (by decide) ?_
                      refine aw_fl [some (.ref v0), none, none] ⟨rfl, trivial⟩ ?_
                      exact rmX4_readAct_b113 C (by omega) (by omega) h
                    · rw [if_neg q] at h
                      have q9 := q
                      by_cases q : x11 = (9 : Int32)
                      · rw [if_pos q] at h
                        refine aw_top (9 : Int32) q ?_
                        refine aw_tabIn C (off := 81) 113 dX4_readAct_32 (by decide) (by decide) (by decide) (by decide) ?_
                        refine aw_fl [some (.ref v0), none, none] ⟨rfl, trivial⟩ ?_
                        exact rmX4_readAct_b113 C (by omega) (by omega) h
                      · rw [if_neg q] at h
                        have q10 := q
                        by_cases q : x11 = (10 : Int32)
                        · rw [if_pos q] at h
                          refine aw_top (10 : Int32) q ?_
                          refine aw_tabIn C (off := 89) 121 dX4_readAct_32 (by decide) (by decide) (by decide) (by decide) ?_
                          refine aw_ald_n C dX4_readAct_121 rfl ?_
                          refine aw_iconst C 0 dX4_readAct_122 ki_0 ?_
                          refine aw_bipush C 39 dX4_readAct_123 kb_39 ?_
                          obtain ⟨hb18, h⟩ := ck_some h
                          obtain ⟨r19, hr19, h⟩ := Option.bind_eq_some_iff.mp h
                          obtain ⟨fs20, hf20⟩ := isO_ex hb18
                          refine aw_callV C (ci := 4) (b := v0) [.int (0 : Int32), .int (39 : Int32)] mv_X4_49 rfl rfl hf20 (rmX4_readFirst hr19) rfl dX4_readAct_125 (Nat.le_of_ble_eq_true rfl) (Nat.le_of_ble_eq_true rfl) rfl (Nat.le_of_ble_eq_true rfl) (show ((0 + 0) + 0) + 0 ≤ 2 by omega) (show ((0 + 0) + 0) + 0 ≤ 10 by omega) (fun v9 f9 n9 hh => ?_)
                          obtain ⟨rfl, rfl, rfl⟩ := hh
                          refine aw_istore_n C dX4_readAct_128 (by decide) rfl ?_
                          refine aw_nl [some (.ref v0), some (.int x1), some (.int r19.1)] rfl ?_
                          refine aw_iload_n C dX4_readAct_129 rfl ?_
                          refine aw_iconst C (-1) dX4_readAct_130 ki_m1 ?_
                          refine aw_icmp_ne C 141 dX4_readAct_131 (by decide) (fun q => ?_) (fun q => ?_)
                          · rw [if_neg q] at h
                            refine aw_iload_n C dX4_readAct_141 rfl ?_
                            refine aw_fl [none, none, none] trivial ?_
                            exact rmX4_readAct_b142 C (by omega) (by omega) h
                          · rw [if_pos q] at h
                            refine aw_ald_n C dX4_readAct_134 rfl ?_
                            obtain ⟨hb21, h⟩ := ck_some h
                            obtain ⟨r22, hr22, h⟩ := Option.bind_eq_some_iff.mp h
                            obtain ⟨fs23, hf23⟩ := isO_ex hb21
                            refine aw_callV C (ci := 4) (b := v0) [] mv_X4_52 rfl rfl hf23 (rmX4_readSecond hr22) rfl dX4_readAct_135 (Nat.le_of_ble_eq_true rfl) (Nat.le_of_ble_eq_true rfl) rfl (Nat.le_of_ble_eq_true rfl) (show (((0 + 0) + 0) + 0) + 0 ≤ 2 by omega) (show (((0 + 0) + 0) + 0) + 0 ≤ 10 by omega) (fun v9 f9 n9 hh => ?_)
                            obtain ⟨rfl, rfl, rfl⟩ := hh
                            refine aw_goto C 142 dX4_readAct_138 (by decide) ?_
                            refine aw_fl [none, none, none] trivial ?_
                            exact rmX4_readAct_b142 C (by omega) (by omega) h
                        · rw [if_neg q] at h
                          have q11 := q
                          refine aw_tabOut C 148 dX4_readAct_32 (sx_outm1_12 q0 q1 q2 q3 q4 q5 q6 q7 q8 q9 q10 q11) (by decide) ?_
                          refine aw_fl [none, none, none] trivial ?_
                          exact rmX4_readAct_b148 C (by omega) (by omega) h
def mX4_readBehindAct_b73 (v0 : Nat) (f : AH) (n : Nat) : Option (Int32 × HpN) := ((gR f v0 4 7).bind fun x1 => ((gI f v0 4 1).bind fun x2 => ((gR f v0 4 7).bind fun x3 => ((x3).bind fun j4 => rCk (isO f j4 5) (((mX5_size j4 f n).bind fun r6 => ((x1).bind fun j8 => rCk (isO r6.2.1 j8 5) (((mX5_behindBlanks j8 (x2 + (1 : Int32)) r6.1 r6.2.1 r6.2.2).bind fun r10 => ((pO r10.2.1 v0 4 1 (.int r10.1)).bind fun f12 => some ((-1 : Int32), (f12, r10.2.2))))))))))))
set_option maxHeartbeats 1000000 in
theorem rmX4_readBehindAct_b73 {X : GX} {p : Program} {l : Launch} {e : Env} {s : State} {m : MethodId} {args : Array Value} {below : List Frame} {meth : Method} {c : Code} {r : Int32 × HpN} {v0 : Nat} {f : AH} {n cells slots : Nat} (C : CC X p l (RM 1 0 0) s m args meth c RX4 cX4_readBehindAct 1 (some .int)) (hc : cells + 0 ≤ 0) (hs : slots + 0 ≤ 0) (h : mX4_readBehindAct_b73 v0 f n = some r) : AW X p l e (RM 1 0 0) s m args below meth c 1 (ZM X below args s 0 0 (QHi r)) f n cells slots 73 [some (.ref v0)] [] := by
  have h : ((gR f v0 4 7).bind fun x1 => ((gI f v0 4 1).bind fun x2 => ((gR f v0 4 7).bind fun x3 => ((x3).bind fun j4 => rCk (isO f j4 5) (((mX5_size j4 f n).bind fun r6 => ((x1).bind fun j8 => rCk (isO r6.2.1 j8 5) (((mX5_behindBlanks j8 (x2 + (1 : Int32)) r6.1 r6.2.1 r6.2.2).bind fun r10 => ((pO r10.2.1 v0 4 1 (.int r10.1)).bind fun f12 => some ((-1 : Int32), (f12, r10.2.2)))))))))))) = some r := h
  refine aw_ald_n C dX4_readBehindAct_73 rfl ?_
  refine aw_ald_n C dX4_readBehindAct_74 rfl ?_
  obtain ⟨x1, hx1, h⟩ := Option.bind_eq_some_iff.mp h
  refine ah_getR C gf_X4_14 hx1 dX4_readBehindAct_75 ?_
  refine aw_ald_n C dX4_readBehindAct_78 rfl ?_
  obtain ⟨x2, hx2, h⟩ := Option.bind_eq_some_iff.mp h
  refine ah_getI C gf_X4_28 hx2 dX4_readBehindAct_79 ?_
  refine aw_iconst C 1 dX4_readBehindAct_82 ki_1 ?_
  refine aw_iadd C dX4_readBehindAct_83 ?_
  refine aw_ald_n C dX4_readBehindAct_84 rfl ?_
  obtain ⟨x3, hx3, h⟩ := Option.bind_eq_some_iff.mp h
  refine ah_getR C gf_X4_14 hx3 dX4_readBehindAct_85 ?_
  obtain ⟨j4, hj4, h⟩ := Option.bind_eq_some_iff.mp h
  rw [hj4]
  obtain ⟨hb5, h⟩ := ck_some h
  obtain ⟨r6, hr6, h⟩ := Option.bind_eq_some_iff.mp h
  obtain ⟨fs7, hf7⟩ := isO_ex hb5
  refine aw_callV C (ci := 5) (b := j4) [] mv_X4_20 rfl rfl hf7 (rmX5_size hr6) rfl dX4_readBehindAct_88 (Nat.le_of_ble_eq_true rfl) (Nat.le_of_ble_eq_true rfl) rfl (cs_1 rfl (cs_1 (rf_cat _) (cs_1 rfl cs_0))) (show cells + 0 ≤ 0 by omega) (show slots + 0 ≤ 0 by omega) (fun v9 f9 n9 hh => ?_)
  obtain ⟨rfl, rfl, rfl⟩ := hh
  obtain ⟨j8, hj8, h⟩ := Option.bind_eq_some_iff.mp h
  rw [hj8]
  obtain ⟨hb9, h⟩ := ck_some h
  obtain ⟨r10, hr10, h⟩ := Option.bind_eq_some_iff.mp h
  obtain ⟨fs11, hf11⟩ := isO_ex hb9
  refine aw_callV C (ci := 5) (b := j8) [.int (x2 + (1 : Int32)), .int r6.1] mv_X4_24 rfl rfl hf11 (rmX5_behindBlanks hr10) rfl dX4_readBehindAct_91 (Nat.le_of_ble_eq_true rfl) (Nat.le_of_ble_eq_true rfl) rfl (Nat.le_of_ble_eq_true rfl) (show (cells + 0) + 0 ≤ 0 by omega) (show (slots + 0) + 0 ≤ 0 by omega) (fun v9 f9 n9 hh => ?_)
  obtain ⟨rfl, rfl, rfl⟩ := hh
  obtain ⟨f12, hf12, h⟩ := Option.bind_eq_some_iff.mp h
  refine ah_put C gf_X4_28 cf4 nf4_1 rfl rfl hf12 dX4_readBehindAct_94 ?_
  refine aw_iconst C (-1) dX4_readBehindAct_97 ki_m1 ?_
  cases h
  exact aw_iret C rfl rfl dX4_readBehindAct_98 (by omega) (by omega) ⟨rfl, rfl, rfl⟩
def mX4_readBehindAct_b42 (v0 : Nat) (s0 : Nat) (s1 : Int32) (f : AH) (n : Nat) : Option (Int32 × HpN) := rCk (rNb s1) (((pO f s0 4 0 (.int s1)).bind fun f2 => ((gI f2 v0 4 0).bind fun x3 => (if x3 = (0 : Int32) then mX4_readBehindAct_b73 v0 f2 n else ((gR f2 v0 4 7).bind fun x4 => ((gI f2 v0 4 1).bind fun x5 => ((x4).bind fun j6 => rCk (isO f2 j6 5) (((mX5_get j6 x5 f2 n).bind fun r8 => (if r8.1 = (59 : Int32) then mX4_readBehindAct_b73 v0 r8.2.1 r8.2.2 else ((gI r8.2.1 v0 4 1).bind fun x10 => some (x10, (r8.2.1, r8.2.2)))))))))))))
set_option maxHeartbeats 1000000 in
theorem rmX4_readBehindAct_b42 {X : GX} {p : Program} {l : Launch} {e : Env} {s : State} {m : MethodId} {args : Array Value} {below : List Frame} {meth : Method} {c : Code} {r : Int32 × HpN} {v0 : Nat} {s0 : Nat} {s1 : Int32} {f : AH} {n cells slots : Nat} (C : CC X p l (RM 1 0 0) s m args meth c RX4 cX4_readBehindAct 1 (some .int)) (hc : cells + 0 ≤ 0) (hs : slots + 0 ≤ 0) (h : mX4_readBehindAct_b42 v0 s0 s1 f n = some r) : AW X p l e (RM 1 0 0) s m args below meth c 1 (ZM X below args s 0 0 (QHi r)) f n cells slots 42 [some (.ref v0)] [.int s1, .ref s0] := by
  have h : rCk (rNb s1) (((pO f s0 4 0 (.int s1)).bind fun f2 => ((gI f2 v0 4 0).bind fun x3 => (if x3 = (0 : Int32) then mX4_readBehindAct_b73 v0 f2 n else ((gR f2 v0 4 7).bind fun x4 => ((gI f2 v0 4 1).bind fun x5 => ((x4).bind fun j6 => rCk (isO f2 j6 5) (((mX5_get j6 x5 f2 n).bind fun r8 => (if r8.1 = (59 : Int32) then mX4_readBehindAct_b73 v0 r8.2.1 r8.2.2 else ((gI r8.2.1 v0 4 1).bind fun x10 => some (x10, (r8.2.1, r8.2.2))))))))))))) = some r := h
  obtain ⟨hb1, h⟩ := ck_some h
  obtain ⟨f2, hf2, h⟩ := Option.bind_eq_some_iff.mp h
  refine ah_put C gf_X4_32 cf4 nf4_0 (nb_nar hb1) (nb_fit hb1) hf2 dX4_readBehindAct_42 ?_
  refine aw_ald_n C dX4_readBehindAct_45 rfl ?_
  obtain ⟨x3, hx3, h⟩ := Option.bind_eq_some_iff.mp h
  refine ah_getI C gf_X4_32 hx3 dX4_readBehindAct_46 ?_
  refine aw_if_eq C 73 dX4_readBehindAct_49 (by decide) (fun q => ?_) (fun q => ?_)
  · rw [if_pos q] at h
    refine aw_fl [some (.ref v0)] ⟨rfl, trivial⟩ ?_
    exact rmX4_readBehindAct_b73 C (by omega) (by omega) h
  · rw [if_neg q] at h
    refine aw_ald_n C dX4_readBehindAct_52 rfl ?_
    obtain ⟨x4, hx4, h⟩ := Option.bind_eq_some_iff.mp h
    refine ah_getR C gf_X4_14 hx4 dX4_readBehindAct_53 ?_
    refine aw_ald_n C dX4_readBehindAct_56 rfl ?_
    obtain ⟨x5, hx5, h⟩ := Option.bind_eq_some_iff.mp h
    refine ah_getI C gf_X4_28 hx5 dX4_readBehindAct_57 ?_
    obtain ⟨j6, hj6, h⟩ := Option.bind_eq_some_iff.mp h
    rw [hj6]
    obtain ⟨hb7, h⟩ := ck_some h
    obtain ⟨r8, hr8, h⟩ := Option.bind_eq_some_iff.mp h
    obtain ⟨fs9, hf9⟩ := isO_ex hb7
    refine aw_callV C (ci := 5) (b := j6) [.int x5] mv_X4_36 rfl rfl hf9 (rmX5_get hr8) rfl dX4_readBehindAct_60 (Nat.le_of_ble_eq_true rfl) (Nat.le_of_ble_eq_true rfl) rfl (Nat.le_of_ble_eq_true rfl) (show cells + 0 ≤ 0 by omega) (show slots + 0 ≤ 0 by omega) (fun v9 f9 n9 hh => ?_)
    obtain ⟨rfl, rfl, rfl⟩ := hh
    refine aw_bipush C 59 dX4_readBehindAct_63 kb_59 ?_
    refine aw_icmp_eq C 73 dX4_readBehindAct_65 (by decide) (fun q => ?_) (fun q => ?_)
    · rw [if_pos q] at h
      refine aw_fl [some (.ref v0)] ⟨rfl, trivial⟩ ?_
      exact rmX4_readBehindAct_b73 C (by omega) (by omega) h
    · rw [if_neg q] at h
      refine aw_ald_n C dX4_readBehindAct_68 rfl ?_
      obtain ⟨x10, hx10, h⟩ := Option.bind_eq_some_iff.mp h
      refine ah_getI C gf_X4_28 hx10 dX4_readBehindAct_69 ?_
      cases h
      exact aw_iret C rfl rfl dX4_readBehindAct_72 (by omega) (by omega) ⟨rfl, rfl, rfl⟩
def mX4_readBehindAct (v0 : Nat) (f : AH) (n : Nat) : Option (Int32 × HpN) := ((gR f v0 4 7).bind fun x1 => ((gI f v0 4 1).bind fun x2 => ((gR f v0 4 7).bind fun x3 => ((x3).bind fun j4 => rCk (isO f j4 5) (((mX5_size j4 f n).bind fun r6 => ((x1).bind fun j8 => rCk (isO r6.2.1 j8 5) (((mX5_behindBlanks j8 x2 r6.1 r6.2.1 r6.2.2).bind fun r10 => ((pO r10.2.1 v0 4 1 (.int r10.1)).bind fun f12 => ((gI f12 v0 4 1).bind fun x13 => ((gR f12 v0 4 7).bind fun x14 => ((x14).bind fun j15 => rCk (isO f12 j15 5) (((mX5_size j15 f12 r10.2.2).bind fun r17 => (if r17.1 ≤ x13 then mX4_readBehindAct_b42 v0 v0 (0 : Int32) r17.2.1 r17.2.2 else mX4_readBehindAct_b42 v0 v0 (1 : Int32) r17.2.1 r17.2.2))))))))))))))))
set_option maxHeartbeats 1000000 in
theorem rmX4_readBehindAct {X : GX} {l : Launch} {r : Int32 × HpN} {v0 : Nat} {f : AH} {n : Nat} (h : mX4_readBehindAct v0 f n = some r) : AM X l yX4_readBehindAct cX4_readBehindAct 1 (some .int) 1 0 0 [.ref v0] f n (QHi r) := by
  have h : ((gR f v0 4 7).bind fun x1 => ((gI f v0 4 1).bind fun x2 => ((gR f v0 4 7).bind fun x3 => ((x3).bind fun j4 => rCk (isO f j4 5) (((mX5_size j4 f n).bind fun r6 => ((x1).bind fun j8 => rCk (isO r6.2.1 j8 5) (((mX5_behindBlanks j8 x2 r6.1 r6.2.1 r6.2.2).bind fun r10 => ((pO r10.2.1 v0 4 1 (.int r10.1)).bind fun f12 => ((gI f12 v0 4 1).bind fun x13 => ((gR f12 v0 4 7).bind fun x14 => ((x14).bind fun j15 => rCk (isO f12 j15 5) (((mX5_size j15 f12 r10.2.2).bind fun r17 => (if r17.1 ≤ x13 then mX4_readBehindAct_b42 v0 v0 (0 : Int32) r17.2.1 r17.2.2 else mX4_readBehindAct_b42 v0 v0 (1 : Int32) r17.2.1 r17.2.2)))))))))))))))) = some r := h
  refine AM.of (by decide +kernel) rfl (Nat.le_of_ble_eq_true rfl) (fun p e s m args below meth c C hnm => ?_)
  refine aw_nl [some (.ref v0)] rfl ?_
  refine aw_ald_n C dX4_readBehindAct_0 rfl ?_
  refine aw_ald_n C dX4_readBehindAct_1 rfl ?_
  obtain ⟨x1, hx1, h⟩ := Option.bind_eq_some_iff.mp h
  refine ah_getR C gf_X4_14 hx1 dX4_readBehindAct_2 ?_
  refine aw_ald_n C dX4_readBehindAct_5 rfl ?_
  obtain ⟨x2, hx2, h⟩ := Option.bind_eq_some_iff.mp h
  refine ah_getI C gf_X4_28 hx2 dX4_readBehindAct_6 ?_
  refine aw_ald_n C dX4_readBehindAct_9 rfl ?_
  obtain ⟨x3, hx3, h⟩ := Option.bind_eq_some_iff.mp h
  refine ah_getR C gf_X4_14 hx3 dX4_readBehindAct_10 ?_
  obtain ⟨j4, hj4, h⟩ := Option.bind_eq_some_iff.mp h
  rw [hj4]
  obtain ⟨hb5, h⟩ := ck_some h
  obtain ⟨r6, hr6, h⟩ := Option.bind_eq_some_iff.mp h
  obtain ⟨fs7, hf7⟩ := isO_ex hb5
  refine aw_callV C (ci := 5) (b := j4) [] mv_X4_20 rfl rfl hf7 (rmX5_size hr6) rfl dX4_readBehindAct_13 (Nat.le_of_ble_eq_true rfl) (Nat.le_of_ble_eq_true rfl) rfl (cs_1 rfl (cs_1 (rf_cat _) (cs_1 rfl cs_0))) (show 0 + 0 ≤ 0 by omega) (show 0 + 0 ≤ 0 by omega) (fun v9 f9 n9 hh => ?_)
  obtain ⟨rfl, rfl, rfl⟩ := hh
  obtain ⟨j8, hj8, h⟩ := Option.bind_eq_some_iff.mp h
  rw [hj8]
  obtain ⟨hb9, h⟩ := ck_some h
  obtain ⟨r10, hr10, h⟩ := Option.bind_eq_some_iff.mp h
  obtain ⟨fs11, hf11⟩ := isO_ex hb9
  refine aw_callV C (ci := 5) (b := j8) [.int x2, .int r6.1] mv_X4_24 rfl rfl hf11 (rmX5_behindBlanks hr10) rfl dX4_readBehindAct_16 (Nat.le_of_ble_eq_true rfl) (Nat.le_of_ble_eq_true rfl) rfl (Nat.le_of_ble_eq_true rfl) (show (0 + 0) + 0 ≤ 0 by omega) (show (0 + 0) + 0 ≤ 0 by omega) (fun v9 f9 n9 hh => ?_)
  obtain ⟨rfl, rfl, rfl⟩ := hh
  obtain ⟨f12, hf12, h⟩ := Option.bind_eq_some_iff.mp h
  refine ah_put C gf_X4_28 cf4 nf4_1 rfl rfl hf12 dX4_readBehindAct_19 ?_
  refine aw_ald_n C dX4_readBehindAct_22 rfl ?_
  refine aw_ald_n C dX4_readBehindAct_23 rfl ?_
  obtain ⟨x13, hx13, h⟩ := Option.bind_eq_some_iff.mp h
  refine ah_getI C gf_X4_28 hx13 dX4_readBehindAct_24 ?_
  refine aw_ald_n C dX4_readBehindAct_27 rfl ?_
  obtain ⟨x14, hx14, h⟩ := Option.bind_eq_some_iff.mp h
  refine ah_getR C gf_X4_14 hx14 dX4_readBehindAct_28 ?_
  obtain ⟨j15, hj15, h⟩ := Option.bind_eq_some_iff.mp h
  rw [hj15]
  obtain ⟨hb16, h⟩ := ck_some h
  obtain ⟨r17, hr17, h⟩ := Option.bind_eq_some_iff.mp h
  obtain ⟨fs18, hf18⟩ := isO_ex hb16
  refine aw_callV C (ci := 5) (b := j15) [] mv_X4_20 rfl rfl hf18 (rmX5_size hr17) rfl dX4_readBehindAct_31 (Nat.le_of_ble_eq_true rfl) (Nat.le_of_ble_eq_true rfl) rfl (Nat.le_of_ble_eq_true rfl) (show ((0 + 0) + 0) + 0 ≤ 0 by omega) (show ((0 + 0) + 0) + 0 ≤ 0 by omega) (fun v9 f9 n9 hh => ?_)
  obtain ⟨rfl, rfl, rfl⟩ := hh
  refine aw_icmp_ge C 41 dX4_readBehindAct_34 (by decide) (fun q => ?_) (fun q => ?_)
  · rw [if_pos q] at h
    refine aw_iconst C 0 dX4_readBehindAct_41 ki_0 ?_
    refine aw_fl [some (.ref v0)] ⟨rfl, trivial⟩ ?_
    exact rmX4_readBehindAct_b42 C (by omega) (by omega) h
  · rw [if_neg q] at h
    refine aw_iconst C 1 dX4_readBehindAct_37 ki_1 ?_
    refine aw_goto C 42 dX4_readBehindAct_38 (by decide) ?_
    refine aw_fl [some (.ref v0)] ⟨rfl, trivial⟩ ?_
    exact rmX4_readBehindAct_b42 C (by omega) (by omega) h
