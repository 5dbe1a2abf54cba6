def mX8_acts_b199 (v0 : Nat) (v1 : Int32) (s0 : Nat) (s1 : Int32) (f : AH) (n : Nat) : Option ((Int32 ⊕ String) × HpN) := ((pO f s0 8 12 (.int s1)).bind fun f1 => ((pO f1 v0 8 11 (.int (0 : Int32))).bind fun f2 => some (.inl v1, (f2, n))))
set_option maxHeartbeats 1000000 in
theorem rmX8_acts_b199 {X : GX} {p : Program} {l : Launch} {e : Env} {s : State} {m : MethodId} {args : Array Value} {below : List Frame} {meth : Method} {c : Code} {r : (Int32 ⊕ String) × HpN} {v0 : Nat} {v1 : Int32} {s0 : Nat} {s1 : Int32} {f : AH} {n cells slots : Nat} (C : CC X p l (RM 7 108 2412) s m args meth c RX8 cX8_acts 6 (some .int)) (hl0 : l.stackTraces = false) (htab : ∀ x ∈ c.exceptionTable.toList, False) (hc : cells + 0 ≤ 108) (hs : slots + 0 ≤ 2412) (h : mX8_acts_b199 v0 v1 s0 s1 f n = some r) : AW X p l e (RM 7 108 2412) s m args below meth c 6 (ZX X below args s 108 2412 (QTr (QHi) r) (QTx r)) f n cells slots 199 [some (.ref v0), some (.int v1), none, none, none, none] [.int s1, .ref s0] := by
  have h : ((pO f s0 8 12 (.int s1)).bind fun f1 => ((pO f1 v0 8 11 (.int (0 : Int32))).bind fun f2 => some (.inl v1, (f2, n)))) = some r := h
  obtain ⟨f1, hf1, h⟩ := Option.bind_eq_some_iff.mp h
  refine ah_put C gf_X8_110 cf8 nf8_12 rfl rfl hf1 dX8_acts_199 ?_
  refine aw_ald_n C dX8_acts_202 rfl ?_
  refine aw_iconst C 0 dX8_acts_203 ki_0 ?_
  obtain ⟨f2, hf2, h⟩ := Option.bind_eq_some_iff.mp h
  refine ah_put C gf_X8_123 cf8 nf8_11 rfl rfl hf2 dX8_acts_204 ?_
  refine aw_iload_n C dX8_acts_207 rfl ?_
  cases h
  exact ax_of (aw_iret C rfl rfl dX8_acts_208 (by omega) (by omega) ⟨_, rfl, rfl, rfl, rfl⟩)
def mX8_acts_b150 (v0 : Nat) (v1 : Int32) (v2 : Int32) (f : AH) (n : Nat) : Option ((Int32 ⊕ String) × HpN) := ((gR f v0 8 0).bind fun x1 => ((x1).bind fun j2 => rCk (isO f j2 5) (((mX5_cutTo j2 (0 : Int32) f n).bind fun r4 => ((pO r4.2.1 v0 8 13 (.int v2)).bind fun f6 => (if v2 = (-1 : Int32) then (if v1 ≤ (0 : Int32) then ((gI f6 v0 8 12).bind fun x7 => mX8_acts_b199 v0 v1 v0 x7 f6 r4.2.2) else mX8_acts_b199 v0 v1 v0 (0 : Int32) f6 r4.2.2) else ((gR f6 v0 8 2).bind fun x8 => rCk (isO f6 v0 8) (((mX8_restore v0 x8 f6 r4.2.2).bind fun r10 => some (.inr eA, (r10.2.1, r10.2.2)))))))))))
set_option maxHeartbeats 1000000 in
theorem rmX8_acts_b150 {X : GX} {p : Program} {l : Launch} {e : Env} {s : State} {m : MethodId} {args : Array Value} {below : List Frame} {meth : Method} {c : Code} {r : (Int32 ⊕ String) × HpN} {v0 : Nat} {v1 : Int32} {v2 : Int32} {f : AH} {n cells slots : Nat} (C : CC X p l (RM 7 108 2412) s m args meth c RX8 cX8_acts 6 (some .int)) (hl0 : l.stackTraces = false) (htab : ∀ x ∈ c.exceptionTable.toList, False) (hc : cells + 1 ≤ 108) (hs : slots + 6 ≤ 2412) (h : mX8_acts_b150 v0 v1 v2 f n = some r) : AW X p l e (RM 7 108 2412) s m args below meth c 6 (ZX X below args s 108 2412 (QTr (QHi) r) (QTx r)) f n cells slots 150 [some (.ref v0), some (.int v1), some (.int v2), none, none, none] [] := by
  have h : ((gR f v0 8 0).bind fun x1 => ((x1).bind fun j2 => rCk (isO f j2 5) (((mX5_cutTo j2 (0 : Int32) f n).bind fun r4 => ((pO r4.2.1 v0 8 13 (.int v2)).bind fun f6 => (if v2 = (-1 : Int32) then (if v1 ≤ (0 : Int32) then ((gI f6 v0 8 12).bind fun x7 => mX8_acts_b199 v0 v1 v0 x7 f6 r4.2.2) else mX8_acts_b199 v0 v1 v0 (0 : Int32) f6 r4.2.2) else ((gR f6 v0 8 2).bind fun x8 => rCk (isO f6 v0 8) (((mX8_restore v0 x8 f6 r4.2.2).bind fun r10 => some (.inr eA, (r10.2.1, r10.2.2))))))))))) = some r := h
  refine aw_ald_n C dX8_acts_150 rfl ?_
  obtain ⟨x1, hx1, h⟩ := Option.bind_eq_some_iff.mp h
  refine ah_getR C gf_X8_14 hx1 dX8_acts_151 ?_
  refine aw_iconst C 0 dX8_acts_154 ki_0 ?_
  obtain ⟨j2, hj2, h⟩ := Option.bind_eq_some_iff.mp h
  rw [hj2]
  obtain ⟨hb3, h⟩ := ck_some h
  obtain ⟨r4, hr4, h⟩ := Option.bind_eq_some_iff.mp h
  obtain ⟨fs5, hf5⟩ := isO_ex hb3
  refine aw_callV C (ci := 5) (b := j2) [.int (0 : Int32)] mv_X8_70 rfl rfl hf5 (rmX5_cutTo hr4) rfl dX8_acts_155 (Nat.le_of_ble_eq_true rfl) (Nat.le_of_ble_eq_true rfl) rfl (Nat.le_of_ble_eq_true rfl) (show cells + 0 ≤ 108 by omega) (show slots + 0 ≤ 2412 by omega) (fun v9 f9 n9 hh => ?_)
  obtain ⟨rfl, rfl, rfl⟩ := hh
  refine aw_ald_n C dX8_acts_158 rfl ?_
  refine aw_iload_n C dX8_acts_159 rfl ?_
  obtain ⟨f6, hf6, h⟩ := Option.bind_eq_some_iff.mp h
  refine ah_put C gf_X8_59 cf8 nf8_13 rfl rfl hf6 dX8_acts_160 ?_
  refine aw_iload_n C dX8_acts_163 rfl ?_
  refine aw_iconst C (-1) dX8_acts_164 ki_m1 ?_
  refine aw_icmp_eq C 186 dX8_acts_165 (by decide) (fun q => ?_) (fun q => ?_)
  · rw [if_pos q] at h
    refine aw_ald_n C dX8_acts_186 rfl ?_
    refine aw_iload_n C dX8_acts_187 rfl ?_
    refine aw_if_le C 195 dX8_acts_188 (by decide) (fun q => ?_) (fun q => ?_)
    · rw [if_pos q] at h
      refine aw_ald_n C dX8_acts_195 rfl ?_
      obtain ⟨x7, hx7, h⟩ := Option.bind_eq_some_iff.mp h
      refine ah_getI C gf_X8_110 hx7 dX8_acts_196 ?_
      refine aw_fl [some (.ref v0), some (.int v1), none, none, none, none] ⟨rfl, ⟨rfl, trivial⟩⟩ ?_
      exact rmX8_acts_b199 C hl0 htab (by omega) (by omega) h
    · rw [if_neg q] at h
      refine aw_iconst C 0 dX8_acts_191 ki_0 ?_
      refine aw_goto C 199 dX8_acts_192 (by decide) ?_
      refine aw_fl [some (.ref v0), some (.int v1), none, none, none, none] ⟨rfl, ⟨rfl, trivial⟩⟩ ?_
      exact rmX8_acts_b199 C hl0 htab (by omega) (by omega) h
  · rw [if_neg q] at h
    refine aw_ald_n C dX8_acts_168 rfl ?_
    refine aw_ald_n C dX8_acts_169 rfl ?_
    obtain ⟨x8, hx8, h⟩ := Option.bind_eq_some_iff.mp h
    refine ah_getR C gf_X8_25 hx8 dX8_acts_170 ?_
    obtain ⟨hb9, h⟩ := ck_some h
    obtain ⟨r10, hr10, h⟩ := Option.bind_eq_some_iff.mp h
    obtain ⟨fs11, hf11⟩ := isO_ex hb9
    refine aw_callV C (ci := 8) (b := v0) [va_rf x8] mv_X8_113 rfl rfl hf11 (rmX8_restore hr10) rfl dX8_acts_173 (Nat.le_of_ble_eq_true rfl) (Nat.le_of_ble_eq_true rfl) rfl (Nat.le_of_ble_eq_true rfl) (show (cells + 0) + 0 ≤ 108 by omega) (show (slots + 0) + 0 ≤ 2412 by omega) (fun v9 f9 n9 hh => ?_)
    obtain ⟨rfl, rfl, rfl⟩ := hh
    cases h
    exact ax_throw C htab hl0 th_eA sx_118 dX8_acts_176 dX8_acts_179 dX8_acts_180 dX8_acts_182 dX8_acts_185 (Nat.le_of_ble_eq_true rfl) (Nat.le_of_ble_eq_true rfl) (show ((cells + 0) + 0) + 1 ≤ 108 by omega) (show ((slots + 0) + 0) + 6 ≤ 2412 by omega) (by omega) (by omega) (fun n9 h9 => ⟨rfl, rfl, h9⟩)
def mX8_acts_b144 (rec28 : Nat → Int32 → Int32 → Int32 → AH → Nat → Option ((Int32 ⊕ String) × HpN)) (v0 : Nat) (v1 : Int32) (v2 : Int32) (v3 : Int32) (f : AH) (n : Nat) : Option ((Int32 ⊕ String) × HpN) := rec28 v0 v1 v2 (v3 + (1 : Int32)) f n
set_option maxHeartbeats 1000000 in
theorem rmX8_acts_b144 {X : GX} {p : Program} {l : Launch} {e : Env} {s : State} {m : MethodId} {args : Array Value} {below : List Frame} {meth : Method} {c : Code} {r : (Int32 ⊕ String) × HpN} {rec28 : Nat → Int32 → Int32 → Int32 → AH → Nat → Option ((Int32 ⊕ String) × HpN)} {v0 : Nat} {v1 : Int32} {v2 : Int32} {v3 : Int32} {f : AH} {n cells slots : Nat} {Dc Ds : Nat} (C : CC X p l (RM 7 108 2412) s m args meth c RX8 cX8_acts 6 (some .int)) (hl0 : l.stackTraces = false) (htab : ∀ x ∈ c.exceptionTable.toList, False) (Hr28 : ∀ (v0 : Nat) (v1 : Int32) (v2 : Int32) (v3 : Int32) (f : AH) (n cells slots : Nat), cells + Dc ≤ 108 → slots + Ds ≤ 2412 → rec28 v0 v1 v2 v3 f n = some r → AW X p l e (RM 7 108 2412) s m args below meth c 6 (ZX X below args s 108 2412 (QTr (QHi) r) (QTx r)) f n cells slots 28 [some (.ref v0), some (.int v1), some (.int v2), some (.int v3), none, none] []) (hc : cells + 0 + Dc ≤ 108) (hs : slots + 0 + Ds ≤ 2412) (h : mX8_acts_b144 rec28 v0 v1 v2 v3 f n = some r) : AW X p l e (RM 7 108 2412) s m args below meth c 6 (ZX X below args s 108 2412 (QTr (QHi) r) (QTx r)) f n cells slots 144 [some (.ref v0), some (.int v1), some (.int v2), some (.int v3), none, none] [] := by
  have h : rec28 v0 v1 v2 (v3 + (1 : Int32)) f n = some r := h
  refine aw_iinc C (v3 + (1 : Int32)) dX8_acts_144 rfl (by rw [ki_1]) (by decide) rfl ?_
  refine aw_nl [some (.ref v0), some (.int v1), some (.int v2), some (.int (v3 + (1 : Int32))), none, none] rfl ?_
  refine aw_goto C 28 dX8_acts_147 (by decide) ?_
  refine aw_fl [some (.ref v0), some (.int v1), some (.int v2), some (.int (v3 + (1 : Int32))), none, none] ⟨rfl, ⟨rfl, ⟨rfl, ⟨rfl, trivial⟩⟩⟩⟩ ?_
  exact Hr28 v0 v1 v2 (v3 + (1 : Int32)) f n _ _ (by omega) (by omega) h
def mX8_acts_b76 (rec28 : Nat → Int32 → Int32 → Int32 → AH → Nat → Option ((Int32 ⊕ String) × HpN)) (v0 : Nat) (v1 : Int32) (v3 : Int32) (v4 : Int32) (s0 : Int32) (f : AH) (n : Nat) : Option ((Int32 ⊕ String) × HpN) := (if s0 = (-1 : Int32) then ((gR f v0 8 8).bind fun x1 => ((x1).bind fun j2 => ((gI f j2 4 2).bind fun x3 => ((gR f v0 8 8).bind fun x4 => ((x4).bind fun j5 => ((gI f j5 4 3).bind fun x6 => ((gR f v0 8 8).bind fun x7 => ((x7).bind fun j8 => ((gI f j8 4 4).bind fun x9 => ((gR f v0 8 8).bind fun x10 => ((x10).bind fun j11 => ((gR f j11 4 5).bind fun x12 => rCk (isO f v0 8) (((mX8_doAct v0 x3 x6 x9 x12 f n).bind fun r14 => (if r14.1 = (0 : Int32) then ((gR r14.2.1 v0 8 8).bind fun x17 => ((x17).bind fun j18 => rCk (isO r14.2.1 j18 4) (((mX4_readBehindAct j18 r14.2.1 r14.2.2).bind fun r20 => mX8_acts_b144 rec28 v0 (v1 + (1 : Int32)) r20.1 v3 r20.2.1 r20.2.2)))) else ((pO r14.2.1 v0 8 12 (.int r14.1)).bind fun f16 => mX8_acts_b144 rec28 v0 v1 v4 v3 f16 r14.2.2)))))))))))))))) else mX8_acts_b144 rec28 v0 v1 s0 v3 f n)
set_option maxHeartbeats 1000000 in
theorem rmX8_acts_b76 {X : GX} {p : Program} {l : Launch} {e : Env} {s : State} {m : MethodId} {args : Array Value} {below : List Frame} {meth : Method} {c : Code} {r : (Int32 ⊕ String) × HpN} {rec28 : Nat → Int32 → Int32 → Int32 → AH → Nat → Option ((Int32 ⊕ String) × HpN)} {v0 : Nat} {v1 : Int32} {v3 : Int32} {v4 : Int32} {s0 : Int32} {f : AH} {n cells slots : Nat} {Dc Ds : Nat} (C : CC X p l (RM 7 108 2412) s m args meth c RX8 cX8_acts 6 (some .int)) (hl0 : l.stackTraces = false) (htab : ∀ x ∈ c.exceptionTable.toList, False) (Hr28 : ∀ (v0 : Nat) (v1 : Int32) (v2 : Int32) (v3 : Int32) (f : AH) (n cells slots : Nat), cells + Dc ≤ 108 → slots + Ds ≤ 2412 → rec28 v0 v1 v2 v3 f n = some r → AW X p l e (RM 7 108 2412) s m args below meth c 6 (ZX X below args s 108 2412 (QTr (QHi) r) (QTx r)) f n cells slots 28 [some (.ref v0), some (.int v1), some (.int v2), some (.int v3), none, none] []) (hc : cells + 4 + Dc ≤ 108) (hs : slots + 124 + Ds ≤ 2412) (h : mX8_acts_b76 rec28 v0 v1 v3 v4 s0 f n = some r) : AW X p l e (RM 7 108 2412) s m args below meth c 6 (ZX X below args s 108 2412 (QTr (QHi) r) (QTx r)) f n cells slots 76 [some (.ref v0), some (.int v1), none, some (.int v3), some (.int v4), none] [.int s0] := by
  have h : (if s0 = (-1 : Int32) then ((gR f v0 8 8).bind fun x1 => ((x1).bind fun j2 => ((gI f j2 4 2).bind fun x3 => ((gR f v0 8 8).bind fun x4 => ((x4).bind fun j5 => ((gI f j5 4 3).bind fun x6 => ((gR f v0 8 8).bind fun x7 => ((x7).bind fun j8 => ((gI f j8 4 4).bind fun x9 => ((gR f v0 8 8).bind fun x10 => ((x10).bind fun j11 => ((gR f j11 4 5).bind fun x12 => rCk (isO f v0 8) (((mX8_doAct v0 x3 x6 x9 x12 f n).bind fun r14 => (if r14.1 = (0 : Int32) then ((gR r14.2.1 v0 8 8).bind fun x17 => ((x17).bind fun j18 => rCk (isO r14.2.1 j18 4) (((mX4_readBehindAct j18 r14.2.1 r14.2.2).bind fun r20 => mX8_acts_b144 rec28 v0 (v1 + (1 : Int32)) r20.1 v3 r20.2.1 r20.2.2)))) else ((pO r14.2.1 v0 8 12 (.int r14.1)).bind fun f16 => mX8_acts_b144 rec28 v0 v1 v4 v3 f16 r14.2.2)))))))))))))))) else mX8_acts_b144 rec28 v0 v1 s0 v3 f n) = some r := h
  refine aw_istore_n C dX8_acts_76 (by decide) rfl ?_
  refine aw_nl [some (.ref v0), some (.int v1), some (.int s0), some (.int v3), some (.int v4), none] rfl ?_
  refine aw_iload_n C dX8_acts_77 rfl ?_
  refine aw_iconst C (-1) dX8_acts_78 ki_m1 ?_
  refine aw_icmp_ne C 144 dX8_acts_79 (by decide) (fun q => ?_) (fun q => ?_)
  · rw [if_neg q] at h
    refine aw_fl [some (.ref v0), some (.int v1), some (.int s0), some (.int v3), none, none] ⟨rfl, ⟨rfl, ⟨rfl, ⟨rfl, trivial⟩⟩⟩⟩ ?_
    exact rmX8_acts_b144 C hl0 htab Hr28 (by omega) (by omega) h
  · rw [if_pos q] at h
    refine aw_ald_n C dX8_acts_82 rfl ?_
    refine aw_ald_n C dX8_acts_83 rfl ?_
    obtain ⟨x1, hx1, h⟩ := Option.bind_eq_some_iff.mp h
    refine ah_getR C gf_X8_55 hx1 dX8_acts_84 ?_
    obtain ⟨j2, hj2, h⟩ := Option.bind_eq_some_iff.mp h
    rw [hj2]
    obtain ⟨x3, hx3, h⟩ := Option.bind_eq_some_iff.mp h
    refine ah_getI C gf_X8_91 hx3 dX8_acts_87 ?_
    refine aw_ald_n C dX8_acts_90 rfl ?_
    obtain ⟨x4, hx4, h⟩ := Option.bind_eq_some_iff.mp h
    refine ah_getR C gf_X8_55 hx4 dX8_acts_91 ?_
    obtain ⟨j5, hj5, h⟩ := Option.bind_eq_some_iff.mp h
    rw [hj5]
    obtain ⟨x6, hx6, h⟩ := Option.bind_eq_some_iff.mp h
    refine ah_getI C gf_X8_94 hx6 dX8_acts_94 ?_
    refine aw_ald_n C dX8_acts_97 rfl ?_
    obtain ⟨x7, hx7, h⟩ := Option.bind_eq_some_iff.mp h
    refine ah_getR C gf_X8_55 hx7 dX8_acts_98 ?_
    obtain ⟨j8, hj8, h⟩ := Option.bind_eq_some_iff.mp h
    rw [hj8]
    obtain ⟨x9, hx9, h⟩ := Option.bind_eq_some_iff.mp h
    refine ah_getI C gf_X8_97 hx9 dX8_acts_101 ?_
    refine aw_ald_n C dX8_acts_104 rfl ?_
    obtain ⟨x10, hx10, h⟩ := Option.bind_eq_some_iff.mp h
    refine ah_getR C gf_X8_55 hx10 dX8_acts_105 ?_
    obtain ⟨j11, hj11, h⟩ := Option.bind_eq_some_iff.mp h
    rw [hj11]
    obtain ⟨x12, hx12, h⟩ := Option.bind_eq_some_iff.mp h
    refine ah_getR C gf_X8_100 hx12 dX8_acts_108 ?_
    obtain ⟨hb13, h⟩ := ck_some h
    obtain ⟨r14, hr14, h⟩ := Option.bind_eq_some_iff.mp h
    obtain ⟨fs15, hf15⟩ := isO_ex hb13
    refine aw_callV C (ci := 8) (b := v0) [.int x3, .int x6, .int x9, va_rf x12] mv_X8_103 rfl rfl hf15 (rmX8_doAct hr14) rfl dX8_acts_111 (Nat.le_of_ble_eq_true rfl) (Nat.le_of_ble_eq_true rfl) rfl (Nat.le_of_ble_eq_true rfl) (show cells + 4 ≤ 108 by omega) (show slots + 124 ≤ 2412 by omega) (fun v9 f9 n9 hh => ?_)
    obtain ⟨rfl, rfl, rfl⟩ := hh
    refine aw_istore C dX8_acts_114 (by decide) rfl ?_
    refine aw_nl [some (.ref v0), some (.int v1), some (.int s0), some (.int v3), some (.int v4), some (.int r14.1)] rfl ?_
    refine aw_iload C dX8_acts_116 rfl ?_
    refine aw_if_ne C 135 dX8_acts_118 (by decide) (fun q => ?_) (fun q => ?_)
    · rw [if_neg q] at h
      refine aw_ald_n C dX8_acts_135 rfl ?_
      refine aw_iload C dX8_acts_136 rfl ?_
      obtain ⟨f16, hf16, h⟩ := Option.bind_eq_some_iff.mp h
      refine ah_put C gf_X8_110 cf8 nf8_12 rfl rfl hf16 dX8_acts_138 ?_
      refine aw_iload C dX8_acts_141 rfl ?_
      refine aw_istore_n C dX8_acts_143 (by decide) rfl ?_
      refine aw_nl [some (.ref v0), some (.int v1), some (.int v4), some (.int v3), some (.int v4), some (.int r14.1)] rfl ?_
      refine aw_fl [some (.ref v0), some (.int v1), some (.int v4), some (.int v3), none, none] ⟨rfl, ⟨rfl, ⟨rfl, ⟨rfl, trivial⟩⟩⟩⟩ ?_
      exact rmX8_acts_b144 C hl0 htab Hr28 (by omega) (by omega) h
    · rw [if_pos q] at h
      refine aw_iinc C (v1 + (1 : Int32)) dX8_acts_121 rfl (by rw [ki_1]) (by decide) rfl ?_
      refine aw_nl [some (.ref v0), some (.int (v1 + (1 : Int32))), some (.int s0), some (.int v3), some (.int v4), some (.int r14.1)] rfl ?_
      refine aw_ald_n C dX8_acts_124 rfl ?_
      obtain ⟨x17, hx17, h⟩ := Option.bind_eq_some_iff.mp h
      refine ah_getR C gf_X8_55 hx17 dX8_acts_125 ?_
      obtain ⟨j18, hj18, h⟩ := Option.bind_eq_some_iff.mp h
      rw [hj18]
      obtain ⟨hb19, h⟩ := ck_some h
      obtain ⟨r20, hr20, h⟩ := Option.bind_eq_some_iff.mp h
      obtain ⟨fs21, hf21⟩ := isO_ex hb19
      refine aw_callV C (ci := 4) (b := j18) [] mv_X8_107 rfl rfl hf21 (rmX4_readBehindAct hr20) rfl dX8_acts_128 (Nat.le_of_ble_eq_true rfl) (Nat.le_of_ble_eq_true rfl) rfl (Nat.le_of_ble_eq_true rfl) (show (cells + 4) + 0 ≤ 108 by omega) (show (slots + 124) + 0 ≤ 2412 by omega) (fun v9 f9 n9 hh => ?_)
      obtain ⟨rfl, rfl, rfl⟩ := hh
      refine aw_istore_n C dX8_acts_131 (by decide) rfl ?_
      refine aw_nl [some (.ref v0), some (.int (v1 + (1 : Int32))), some (.int r20.1), some (.int v3), some (.int v4), some (.int r14.1)] rfl ?_
      refine aw_goto C 144 dX8_acts_132 (by decide) ?_
      refine aw_fl [some (.ref v0), some (.int (v1 + (1 : Int32))), some (.int r20.1), some (.int v3), none, none] ⟨rfl, ⟨rfl, ⟨rfl, ⟨rfl, trivial⟩⟩⟩⟩ ?_
      exact rmX8_acts_b144 C hl0 htab Hr28 (by omega) (by omega) h
def mX8_acts_l28 : Nat → Nat → Int32 → Int32 → Int32 → AH → Nat → Option ((Int32 ⊕ String) × HpN)
  | 0, _, _, _, _, _, _ => none
  | d + 1, v0, v1, v2, v3, f, n => (if (14 : Int32) < v3 then mX8_acts_b150 v0 v1 v2 f n else ((gR f v0 8 8).bind fun x1 => ((x1).bind fun j2 => ((gI f j2 4 0).bind fun x3 => (if x3 = (0 : Int32) then mX8_acts_b150 v0 v1 v2 f n else (if v2 = (-1 : Int32) then ((gR f v0 8 8).bind fun x4 => ((x4).bind fun j5 => ((gI f j5 4 1).bind fun x6 => (if (14 : Int32) ≤ v3 then mX8_acts_b76 (fun v0 v1 v2 v3 f n => mX8_acts_l28 d v0 v1 v2 v3 f n) v0 v1 v3 x6 x6 f n else ((gR f v0 8 8).bind fun x7 => ((x7).bind fun j8 => rCk (isO f j8 4) (((mX4_readAct j8 f n).bind fun r10 => mX8_acts_b76 (fun v0 v1 v2 v3 f n => mX8_acts_l28 d v0 v1 v2 v3 f n) v0 v1 v3 x6 r10.1 r10.2.1 r10.2.2)))))))) else mX8_acts_b150 v0 v1 v2 f n))))))
set_option maxHeartbeats 1000000 in
theorem rmX8_acts_l28 {X : GX} {p : Program} {l : Launch} {e : Env} {s : State} {m : MethodId} {args : Array Value} {below : List Frame} {meth : Method} {c : Code} {r : (Int32 ⊕ String) × HpN} (C : CC X p l (RM 7 108 2412) s m args meth c RX8 cX8_acts 6 (some .int)) (hl0 : l.stackTraces = false) (htab : ∀ x ∈ c.exceptionTable.toList, False) : ∀ (d : Nat) (v0 : Nat) (v1 : Int32) (v2 : Int32) (v3 : Int32) (f : AH) (n cells slots : Nat) (_ : cells + (6 + d * 6) ≤ 108) (_ : slots + (134 + d * 134) ≤ 2412) (_ : mX8_acts_l28 d v0 v1 v2 v3 f n = some r), AW X p l e (RM 7 108 2412) s m args below meth c 6 (ZX X below args s 108 2412 (QTr (QHi) r) (QTx r)) f n cells slots 28 [some (.ref v0), some (.int v1), some (.int v2), some (.int v3), none, none] [] := by
  intro d
  induction d with
  | zero =>
    intro v0 v1 v2 v3 f n cells slots hc hs h
    exact nomatch (show (none : Option ((Int32 ⊕ String) × HpN)) = some r from h)
  | succ d ih =>
    intro v0 v1 v2 v3 f n cells slots hc hs h
    have h : (if (14 : Int32) < v3 then mX8_acts_b150 v0 v1 v2 f n else ((gR f v0 8 8).bind fun x1 => ((x1).bind fun j2 => ((gI f j2 4 0).bind fun x3 => (if x3 = (0 : Int32) then mX8_acts_b150 v0 v1 v2 f n else (if v2 = (-1 : Int32) then ((gR f v0 8 8).bind fun x4 => ((x4).bind fun j5 => ((gI f j5 4 1).bind fun x6 => (if (14 : Int32) ≤ v3 then mX8_acts_b76 (fun v0 v1 v2 v3 f n => mX8_acts_l28 d v0 v1 v2 v3 f n) v0 v1 v3 x6 x6 f n else ((gR f v0 8 8).bind fun x7 => ((x7).bind fun j8 => rCk (isO f j8 4) (((mX4_readAct j8 f n).bind fun r10 => mX8_acts_b76 (fun v0 v1 v2 v3 f n => mX8_acts_l28 d v0 v1 v2 v3 f n) v0 v1 v3 x6 r10.1 r10.2.1 r10.2.2)))))))) else mX8_acts_b150 v0 v1 v2 f n)))))) = some r := h
    refine aw_iload_n C dX8_acts_28 rfl ?_
    refine aw_bipush C 14 dX8_acts_29 kb_14 ?_
    refine aw_icmp_gt C 150 dX8_acts_31 (by decide) (fun q => ?_) (fun q => ?_)
    · rw [if_pos q] at h
      refine aw_fl [some (.ref v0), some (.int v1), some (.int v2), none, none, none] ⟨rfl, ⟨rfl, ⟨rfl, trivial⟩⟩⟩ ?_
      exact rmX8_acts_b150 C hl0 htab (by omega) (by omega) h
    · rw [if_neg q] at h
      refine aw_ald_n C dX8_acts_34 rfl ?_
      obtain ⟨x1, hx1, h⟩ := Option.bind_eq_some_iff.mp h
      refine ah_getR C gf_X8_55 hx1 dX8_acts_35 ?_
      obtain ⟨j2, hj2, h⟩ := Option.bind_eq_some_iff.mp h
      rw [hj2]
      obtain ⟨x3, hx3, h⟩ := Option.bind_eq_some_iff.mp h
      refine ah_getI C gf_X8_81 hx3 dX8_acts_38 ?_
      refine aw_if_eq C 150 dX8_acts_41 (by decide) (fun q => ?_) (fun q => ?_)
      · rw [if_pos q] at h
        refine aw_fl [some (.ref v0), some (.int v1), some (.int v2), none, none, none] ⟨rfl, ⟨rfl, ⟨rfl, trivial⟩⟩⟩ ?_
        exact rmX8_acts_b150 C hl0 htab (by omega) (by omega) h
      · rw [if_neg q] at h
        refine aw_iload_n C dX8_acts_44 rfl ?_
        refine aw_iconst C (-1) dX8_acts_45 ki_m1 ?_
        refine aw_icmp_ne C 150 dX8_acts_46 (by decide) (fun q => ?_) (fun q => ?_)
        · rw [if_neg q] at h
          refine aw_fl [some (.ref v0), some (.int v1), some (.int v2), none, none, none] ⟨rfl, ⟨rfl, ⟨rfl, trivial⟩⟩⟩ ?_
          exact rmX8_acts_b150 C hl0 htab (by omega) (by omega) h
        · rw [if_pos q] at h
          refine aw_ald_n C dX8_acts_49 rfl ?_
          obtain ⟨x4, hx4, h⟩ := Option.bind_eq_some_iff.mp h
          refine ah_getR C gf_X8_55 hx4 dX8_acts_50 ?_
          obtain ⟨j5, hj5, h⟩ := Option.bind_eq_some_iff.mp h
          rw [hj5]
          obtain ⟨x6, hx6, h⟩ := Option.bind_eq_some_iff.mp h
          refine ah_getI C gf_X8_85 hx6 dX8_acts_53 ?_
          refine aw_istore C dX8_acts_56 (by decide) rfl ?_
          refine aw_nl [some (.ref v0), some (.int v1), some (.int v2), some (.int v3), some (.int x6), none] rfl ?_
          refine aw_iload_n C dX8_acts_58 rfl ?_
          refine aw_bipush C 14 dX8_acts_59 kb_14 ?_
          refine aw_icmp_ge C 74 dX8_acts_61 (by decide) (fun q => ?_) (fun q => ?_)
          · rw [if_pos q] at h
            refine aw_iload C dX8_acts_74 rfl ?_
            refine aw_fl [some (.ref v0), some (.int v1), none, some (.int v3), some (.int x6), none] ⟨rfl, ⟨rfl, ⟨rfl, ⟨rfl, trivial⟩⟩⟩⟩ ?_
            exact rmX8_acts_b76 C hl0 htab (fun v0 v1 v2 v3 f n cells slots hc hs h => ih v0 v1 v2 v3 f n cells slots hc hs h) (by omega) (by omega) h
          · rw [if_neg q] at h
            refine aw_ald_n C dX8_acts_64 rfl ?_
            obtain ⟨x7, hx7, h⟩ := Option.bind_eq_some_iff.mp h
            refine ah_getR C gf_X8_55 hx7 dX8_acts_65 ?_
            obtain ⟨j8, hj8, h⟩ := Option.bind_eq_some_iff.mp h
            rw [hj8]
            obtain ⟨hb9, h⟩ := ck_some h
            obtain ⟨r10, hr10, h⟩ := Option.bind_eq_some_iff.mp h
            obtain ⟨fs11, hf11⟩ := isO_ex hb9
            refine aw_callV C (ci := 4) (b := j8) [] mv_X8_88 rfl rfl hf11 (rmX4_readAct hr10) rfl dX8_acts_68 (Nat.le_of_ble_eq_true rfl) (Nat.le_of_ble_eq_true rfl) rfl (Nat.le_of_ble_eq_true rfl) (show cells + 2 ≤ 108 by omega) (show slots + 10 ≤ 2412 by omega) (fun v9 f9 n9 hh => ?_)
            obtain ⟨rfl, rfl, rfl⟩ := hh
            refine aw_goto C 76 dX8_acts_71 (by decide) ?_
            refine aw_fl [some (.ref v0), some (.int v1), none, some (.int v3), some (.int x6), none] ⟨rfl, ⟨rfl, ⟨rfl, ⟨rfl, trivial⟩⟩⟩⟩ ?_
            exact rmX8_acts_b76 C hl0 htab (fun v0 v1 v2 v3 f n cells slots hc hs h => ih v0 v1 v2 v3 f n cells slots hc hs h) (by omega) (by omega) h
def mX8_acts (v0 : Nat) (f : AH) (n : Nat) : Option ((Int32 ⊕ String) × HpN) := ((gR f v0 8 2).bind fun x1 => ((gR f v0 8 1).bind fun x2 => ((x1).bind fun j3 => rCk (isO f j3 7) (((mX7_copyFrom j3 x2 f n).bind fun r5 => ((gR r5.2.1 v0 8 8).bind fun x7 => ((gR r5.2.1 v0 8 0).bind fun x8 => ((x7).bind fun j9 => rCk (isO r5.2.1 j9 4) (((mX4_start j9 x8 r5.2.1 r5.2.2).bind fun r11 => mX8_acts_l28 17 v0 (0 : Int32) (-1 : Int32) (0 : Int32) r11.2.1 r11.2.2))))))))))
set_option maxHeartbeats 1000000 in
theorem rmX8_acts {X : GX} {l : Launch} {r : (Int32 ⊕ String) × HpN} {v0 : Nat} {f : AH} {n : Nat} (hl0 : l.stackTraces = false) (h : mX8_acts v0 f n = some r) : AX X l yX8_acts cX8_acts 6 (some .int) 7 108 2412 [.ref v0] f n (QTr (QHi) r) (QTx r) := by
  have h : ((gR f v0 8 2).bind fun x1 => ((gR f v0 8 1).bind fun x2 => ((x1).bind fun j3 => rCk (isO f j3 7) (((mX7_copyFrom j3 x2 f n).bind fun r5 => ((gR r5.2.1 v0 8 8).bind fun x7 => ((gR r5.2.1 v0 8 0).bind fun x8 => ((x7).bind fun j9 => rCk (isO r5.2.1 j9 4) (((mX4_start j9 x8 r5.2.1 r5.2.2).bind fun r11 => mX8_acts_l28 17 v0 (0 : Int32) (-1 : Int32) (0 : Int32) r11.2.1 r11.2.2)))))))))) = some r := h
  refine AX.of (by decide +kernel) rfl (Nat.le_of_ble_eq_true rfl) (fun p e s m args below meth c C htab => ?_)
  refine aw_nl [some (.ref v0), none, none, none, none, none] rfl ?_
  refine aw_ald_n C dX8_acts_0 rfl ?_
  obtain ⟨x1, hx1, h⟩ := Option.bind_eq_some_iff.mp h
  refine ah_getR C gf_X8_25 hx1 dX8_acts_1 ?_
  refine aw_ald_n C dX8_acts_4 rfl ?_
  obtain ⟨x2, hx2, h⟩ := Option.bind_eq_some_iff.mp h
  refine ah_getR C gf_X8_21 hx2 dX8_acts_5 ?_
  obtain ⟨j3, hj3, h⟩ := Option.bind_eq_some_iff.mp h
  rw [hj3]
  obtain ⟨hb4, h⟩ := ck_some h
  obtain ⟨r5, hr5, h⟩ := Option.bind_eq_some_iff.mp h
  obtain ⟨fs6, hf6⟩ := isO_ex hb4
  refine aw_callV C (ci := 7) (b := j3) [va_rf x2] mv_X8_73 rfl rfl hf6 (rmX7_copyFrom hr5) rfl dX8_acts_8 (Nat.le_of_ble_eq_true rfl) (Nat.le_of_ble_eq_true rfl) rfl (Nat.le_of_ble_eq_true rfl) (show 0 + 0 ≤ 108 by omega) (show 0 + 0 ≤ 2412 by omega) (fun v9 f9 n9 hh => ?_)
  obtain ⟨rfl, rfl, rfl⟩ := hh
  refine aw_ald_n C dX8_acts_11 rfl ?_
  obtain ⟨x7, hx7, h⟩ := Option.bind_eq_some_iff.mp h
  refine ah_getR C gf_X8_55 hx7 dX8_acts_12 ?_
  refine aw_ald_n C dX8_acts_15 rfl ?_
  obtain ⟨x8, hx8, h⟩ := Option.bind_eq_some_iff.mp h
  refine ah_getR C gf_X8_14 hx8 dX8_acts_16 ?_
  obtain ⟨j9, hj9, h⟩ := Option.bind_eq_some_iff.mp h
  rw [hj9]
  obtain ⟨hb10, h⟩ := ck_some h
  obtain ⟨r11, hr11, h⟩ := Option.bind_eq_some_iff.mp h
  obtain ⟨fs12, hf12⟩ := isO_ex hb10
  refine aw_callV C (ci := 4) (b := j9) [va_rf x8] mv_X8_77 rfl rfl hf12 (rmX4_start hr11) rfl dX8_acts_19 (Nat.le_of_ble_eq_true rfl) (Nat.le_of_ble_eq_true rfl) rfl (Nat.le_of_ble_eq_true rfl) (show (0 + 0) + 0 ≤ 108 by omega) (show (0 + 0) + 0 ≤ 2412 by omega) (fun v9 f9 n9 hh => ?_)
  obtain ⟨rfl, rfl, rfl⟩ := hh
  refine aw_iconst C 0 dX8_acts_22 ki_0 ?_
  refine aw_istore_n C dX8_acts_23 (by decide) rfl ?_
  refine aw_nl [some (.ref v0), some (.int (0 : Int32)), none, none, none, none] rfl ?_
  refine aw_iconst C (-1) dX8_acts_24 ki_m1 ?_
  refine aw_istore_n C dX8_acts_25 (by decide) rfl ?_
  refine aw_nl [some (.ref v0), some (.int (0 : Int32)), some (.int (-1 : Int32)), none, none, none] rfl ?_
  refine aw_iconst C 0 dX8_acts_26 ki_0 ?_
  refine aw_istore_n C dX8_acts_27 (by decide) rfl ?_
  refine aw_nl [some (.ref v0), some (.int (0 : Int32)), some (.int (-1 : Int32)), some (.int (0 : Int32)), none, none] rfl ?_
  refine aw_fl [some (.ref v0), some (.int (0 : Int32)), some (.int (-1 : Int32)), some (.int (0 : Int32)), none, none] ⟨rfl, ⟨rfl, ⟨rfl, ⟨rfl, trivial⟩⟩⟩⟩ ?_
  exact rmX8_acts_l28 C hl0 htab 17 v0 (0 : Int32) (-1 : Int32) (0 : Int32) r11.2.1 r11.2.2 _ _ (by omega) (by omega) h
def mX8_kind_b50 (v0 : Nat) (v1 : Int32) (s0 : Nat) (s1 : Nat) (s2 : Int32) (f : AH) (n : Nat) : Option ((Int32 ⊕ String) × HpN) := rCk (isO f s1 8) (((mX8_doAct s1 s2 v1 (0 : Int32) (none : Option Nat) f n).bind fun r2 => rCk (isO r2.2.1 s0 8) (((mX8_finishCall s0 r2.1 r2.2.1 r2.2.2).bind fun r5 => (tS r5.1 r5.2 (fun y5 => ((gR r5.2.1 v0 8 5).bind fun x7 => ((x7).bind fun j8 => rCk (isO r5.2.1 j8 1) (((mX1_size j8 r5.2.1 r5.2.2).bind fun r10 => some (.inl r10.1, (r10.2.1, r10.2.2))))))))))))
set_option maxHeartbeats 1000000 in
theorem rmX8_kind_b50 {X : GX} {p : Program} {l : Launch} {e : Env} {s : State} {m : MethodId} {args : Array Value} {below : List Frame} {meth : Method} {c : Code} {r : (Int32 ⊕ String) × HpN} {v0 : Nat} {v1 : Int32} {s0 : Nat} {s1 : Nat} {s2 : Int32} {f : AH} {n cells slots : Nat} (C : CC X p l (RM 7 5 130) s m args meth c RX8 cX8_kind 3 (some .int)) (hl0 : l.stackTraces = false) (htab : ∀ x ∈ c.exceptionTable.toList, False) (hc : cells + 5 ≤ 5) (hs : slots + 130 ≤ 130) (h : mX8_kind_b50 v0 v1 s0 s1 s2 f n = some r) : AW X p l e (RM 7 5 130) s m args below meth c 3 (ZX X below args s 5 130 (QTr (QHi) r) (QTx r)) f n cells slots 50 [some (.ref v0), some (.int v1), none] [.int s2, .ref s1, .ref s0] := by
  have h : rCk (isO f s1 8) (((mX8_doAct s1 s2 v1 (0 : Int32) (none : Option Nat) f n).bind fun r2 => rCk (isO r2.2.1 s0 8) (((mX8_finishCall s0 r2.1 r2.2.1 r2.2.2).bind fun r5 => (tS r5.1 r5.2 (fun y5 => ((gR r5.2.1 v0 8 5).bind fun x7 => ((x7).bind fun j8 => rCk (isO r5.2.1 j8 1) (((mX1_size j8 r5.2.1 r5.2.2).bind fun r10 => some (.inl r10.1, (r10.2.1, r10.2.2)))))))))))) = some r := h
  refine aw_iload_n C dX8_kind_50 rfl ?_
  refine aw_iconst C 0 dX8_kind_51 ki_0 ?_
  refine aw_null C dX8_kind_52 ?_
  obtain ⟨hb1, h⟩ := ck_some h
  obtain ⟨r2, hr2, h⟩ := Option.bind_eq_some_iff.mp h
  obtain ⟨fs3, hf3⟩ := isO_ex hb1
  refine aw_callV C (ci := 8) (b := s1) [.int s2, .int v1, .int (0 : Int32), .null] mv_X8_103 rfl rfl hf3 (rmX8_doAct hr2) rfl dX8_kind_53 (Nat.le_of_ble_eq_true rfl) (Nat.le_of_ble_eq_true rfl) rfl (Nat.le_of_ble_eq_true rfl) (show cells + 4 ≤ 5 by omega) (show slots + 124 ≤ 130 by omega) (fun v9 f9 n9 hh => ?_)
  obtain ⟨rfl, rfl, rfl⟩ := hh
  obtain ⟨hb4, h⟩ := ck_some h
  obtain ⟨r5, hr5, h⟩ := Option.bind_eq_some_iff.mp h
  obtain ⟨fs6, hf6⟩ := isO_ex hb4
  refine ax_callV C (ci := 8) (b := s0) [.int r2.1] mv_X8_139 rfl rfl hf6 (rmX8_finishCall hl0 hr5) rfl dX8_kind_56 (Nat.le_of_ble_eq_true rfl) (Nat.le_of_ble_eq_true rfl) rfl (Nat.le_of_ble_eq_true rfl) (show (cells + 4) + 1 ≤ 5 by omega) (show (slots + 124) + 6 ≤ 130 by omega) (fun E9 f9 n9 hq => ?_) (fun v9 f9 n9 hq => ?_)
  · obtain ⟨e1, e2, e3⟩ := hq
    rw [tS_r e1] at h
    cases h
    exact at_out C htab ⟨rfl, e2, e3⟩ (by omega) (by omega)
  obtain ⟨y5, e5, rfl, rfl, rfl⟩ := hq
  rw [tS_l e5] at h
  replace h : ((gR r5.2.1 v0 8 5).bind fun x7 => ((x7).bind fun j8 => rCk (isO r5.2.1 j8 1) (((mX1_size j8 r5.2.1 r5.2.2).bind fun r10 => some (.inl r10.1, (r10.2.1, r10.2.2)))))) = some r := h
  refine aw_ald_n C dX8_kind_59 rfl ?_
  obtain ⟨x7, hx7, h⟩ := Option.bind_eq_some_iff.mp h
  refine ah_getR C gf_X8_38 hx7 dX8_kind_60 ?_
  obtain ⟨j8, hj8, h⟩ := Option.bind_eq_some_iff.mp h
  rw [hj8]
  obtain ⟨hb9, h⟩ := ck_some h
  obtain ⟨r10, hr10, h⟩ := Option.bind_eq_some_iff.mp h
  obtain ⟨fs11, hf11⟩ := isO_ex hb9
  refine aw_callV C (ci := 1) (b := j8) [] mv_X8_136 rfl rfl hf11 (rmX1_size hr10) rfl dX8_kind_63 (Nat.le_of_ble_eq_true rfl) (Nat.le_of_ble_eq_true rfl) rfl (Nat.le_of_ble_eq_true rfl) (show ((cells + 4) + 1) + 0 ≤ 5 by omega) (show ((slots + 124) + 6) + 0 ≤ 130 by omega) (fun v9 f9 n9 hh => ?_)
  obtain ⟨rfl, rfl, rfl⟩ := hh
  cases h
  exact ax_of (aw_iret C rfl rfl dX8_kind_66 (by omega) (by omega) ⟨_, rfl, rfl, rfl, rfl⟩)
def mX8_kind_b18 (f : AH) (n : Nat) : Option ((Int32 ⊕ String) × HpN) := some (.inr eA, (f, n))
set_option maxHeartbeats 1000000 in
theorem rmX8_kind_b18 {X : GX} {p : Program} {l : Launch} {e : Env} {s : State} {m : MethodId} {args : Array Value} {below : List Frame} {meth : Method} {c : Code} {r : (Int32 ⊕ String) × HpN} {f : AH} {n cells slots : Nat} (C : CC X p l (RM 7 5 130) s m args meth c RX8 cX8_kind 3 (some .int)) (hl0 : l.stackTraces = false) (htab : ∀ x ∈ c.exceptionTable.toList, False) (hc : cells + 1 ≤ 5) (hs : slots + 6 ≤ 130) (h : mX8_kind_b18 f n = some r) : AW X p l e (RM 7 5 130) s m args below meth c 3 (ZX X below args s 5 130 (QTr (QHi) r) (QTx r)) f n cells slots 18 [none, none, none] [] := by
  have h : some (.inr eA, (f, n)) = some r := h
  cases h
  exact ax_throw C htab hl0 th_eA sx_137 dX8_kind_18 dX8_kind_21 dX8_kind_22 dX8_kind_24 dX8_kind_27 (Nat.le_of_ble_eq_true rfl) (Nat.le_of_ble_eq_true rfl) (show cells + 1 ≤ 5 by omega) (show slots + 6 ≤ 130 by omega) (by omega) (by omega) (fun n9 h9 => ⟨rfl, rfl, h9⟩)
def mX8_kind_b15 (v0 : Nat) (v1 : Int32) (v2 : Int32) (s0 : Int32) (s1 : Int32) (f : AH) (n : Nat) : Option ((Int32 ⊕ String) × HpN) := (if s1 ≤ s0 then ((gR f v0 8 2).bind fun x1 => ((gR f v0 8 1).bind fun x2 => ((x1).bind fun j3 => rCk (isO f j3 7) (((mX7_copyFrom j3 x2 f n).bind fun r5 => (if v2 = (0 : Int32) then mX8_kind_b50 v0 v1 v0 v0 (0 : Int32) r5.2.1 r5.2.2 else mX8_kind_b50 v0 v1 v0 v0 (1 : Int32) r5.2.1 r5.2.2)))))) else mX8_kind_b18 f n)
set_option maxHeartbeats 1000000 in
theorem rmX8_kind_b15 {X : GX} {p : Program} {l : Launch} {e : Env} {s : State} {m : MethodId} {args : Array Value} {below : List Frame} {meth : Method} {c : Code} {r : (Int32 ⊕ String) × HpN} {v0 : Nat} {v1 : Int32} {v2 : Int32} {s0 : Int32} {s1 : Int32} {f : AH} {n cells slots : Nat} (C : CC X p l (RM 7 5 130) s m args meth c RX8 cX8_kind 3 (some .int)) (hl0 : l.stackTraces = false) (htab : ∀ x ∈ c.exceptionTable.toList, False) (hc : cells + 5 ≤ 5) (hs : slots + 130 ≤ 130) (h : mX8_kind_b15 v0 v1 v2 s0 s1 f n = some r) : AW X p l e (RM 7 5 130) s m args below meth c 3 (ZX X below args s 5 130 (QTr (QHi) r) (QTx r)) f n cells slots 15 [some (.ref v0), some (.int v1), some (.int v2)] [.int s1, .int s0] := by
  have h : (if s1 ≤ s0 then ((gR f v0 8 2).bind fun x1 => ((gR f v0 8 1).bind fun x2 => ((x1).bind fun j3 => rCk (isO f j3 7) (((mX7_copyFrom j3 x2 f n).bind fun r5 => (if v2 = (0 : Int32) then mX8_kind_b50 v0 v1 v0 v0 (0 : Int32) r5.2.1 r5.2.2 else mX8_kind_b50 v0 v1 v0 v0 (1 : Int32) r5.2.1 r5.2.2)))))) else mX8_kind_b18 f n) = some r := h
  refine aw_icmp_ge C 28 dX8_kind_15 (by decide) (fun q => ?_) (fun q => ?_)
  · rw [if_pos q] at h
    refine aw_ald_n C dX8_kind_28 rfl ?_
    obtain ⟨x1, hx1, h⟩ := Option.bind_eq_some_iff.mp h
    refine ah_getR C gf_X8_25 hx1 dX8_kind_29 ?_
    refine aw_ald_n C dX8_kind_32 rfl ?_
    obtain ⟨x2, hx2, h⟩ := Option.bind_eq_some_iff.mp h
    refine ah_getR C gf_X8_21 hx2 dX8_kind_33 ?_
    obtain ⟨j3, hj3, h⟩ := Option.bind_eq_some_iff.mp h
    rw [hj3]
    obtain ⟨hb4, h⟩ := ck_some h
    obtain ⟨r5, hr5, h⟩ := Option.bind_eq_some_iff.mp h
    obtain ⟨fs6, hf6⟩ := isO_ex hb4
    refine aw_callV C (ci := 7) (b := j3) [va_rf x2] mv_X8_73 rfl rfl hf6 (rmX7_copyFrom hr5) rfl dX8_kind_36 (Nat.le_of_ble_eq_true rfl) (Nat.le_of_ble_eq_true rfl) rfl (Nat.le_of_ble_eq_true rfl) (show cells + 0 ≤ 5 by omega) (show slots + 0 ≤ 130 by omega) (fun v9 f9 n9 hh => ?_)
    obtain ⟨rfl, rfl, rfl⟩ := hh
    refine aw_ald_n C dX8_kind_39 rfl ?_
    refine aw_ald_n C dX8_kind_40 rfl ?_
    refine aw_iload_n C dX8_kind_41 rfl ?_
    refine aw_if_eq C 49 dX8_kind_42 (by decide) (fun q => ?_) (fun q => ?_)
    · rw [if_pos q] at h
      refine aw_iconst C 0 dX8_kind_49 ki_0 ?_
      refine aw_fl [some (.ref v0), some (.int v1), none] ⟨rfl, ⟨rfl, trivial⟩⟩ ?_
      exact rmX8_kind_b50 C hl0 htab (by omega) (by omega) h
    · rw [if_neg q] at h
      refine aw_iconst C 1 dX8_kind_45 ki_1 ?_
      refine aw_goto C 50 dX8_kind_46 (by decide) ?_
      refine aw_fl [some (.ref v0), some (.int v1), none] ⟨rfl, ⟨rfl, trivial⟩⟩ ?_
      exact rmX8_kind_b50 C hl0 htab (by omega) (by omega) h
  · rw [if_neg q] at h
    refine aw_fl [none, none, none] trivial ?_
    exact rmX8_kind_b18 C hl0 htab (by omega) (by omega) h
def mX8_kind (v0 : Nat) (v1 : Int32) (v2 : Int32) (f : AH) (n : Nat) : Option ((Int32 ⊕ String) × HpN) := (if (3 : Int32) < v1 then mX8_kind_b18 f n else (if v2 = (0 : Int32) then mX8_kind_b15 v0 v1 v2 v1 (0 : Int32) f n else mX8_kind_b15 v0 v1 v2 v1 (-1 : Int32) f n))
set_option maxHeartbeats 1000000 in
theorem rmX8_kind {X : GX} {l : Launch} {r : (Int32 ⊕ String) × HpN} {v0 : Nat} {v1 : Int32} {v2 : Int32} {f : AH} {n : Nat} (hl0 : l.stackTraces = false) (h : mX8_kind v0 v1 v2 f n = some r) : AX X l yX8_kind cX8_kind 3 (some .int) 7 5 130 [.ref v0, .int v1, .int v2] f n (QTr (QHi) r) (QTx r) := by
  have h : (if (3 : Int32) < v1 then mX8_kind_b18 f n else (if v2 = (0 : Int32) then mX8_kind_b15 v0 v1 v2 v1 (0 : Int32) f n else mX8_kind_b15 v0 v1 v2 v1 (-1 : Int32) f n)) = some r := h
  refine AX.of (by decide +kernel) rfl (Nat.le_of_ble_eq_true rfl) (fun p e s m args below meth c C htab => ?_)
  refine aw_nl [some (.ref v0), some (.int v1), some (.int v2)] rfl ?_
  refine aw_iload_n C dX8_kind_0 rfl ?_
  refine aw_iconst C 3 dX8_kind_1 ki_3 ?_
  refine aw_icmp_gt C 18 dX8_kind_2 (by decide) (fun q => ?_) (fun q => ?_)
  · rw [if_pos q] at h
    refine aw_fl [none, none, none] trivial ?_
    exact rmX8_kind_b18 C hl0 htab (by omega) (by omega) h
  · rw [if_neg q] at h
    refine aw_iload_n C dX8_kind_5 rfl ?_
    refine aw_iload_n C dX8_kind_6 rfl ?_
    refine aw_if_eq C 14 dX8_kind_7 (by decide) (fun q => ?_) (fun q => ?_)
    · rw [if_pos q] at h
      refine aw_iconst C 0 dX8_kind_14 ki_0 ?_
      refine aw_fl [some (.ref v0), some (.int v1), some (.int v2)] ⟨rfl, ⟨rfl, ⟨rfl, trivial⟩⟩⟩ ?_
      exact rmX8_kind_b15 C hl0 htab (by omega) (by omega) h
    · rw [if_neg q] at h
      refine aw_iconst C (-1) dX8_kind_10 ki_m1 ?_
      refine aw_goto C 15 dX8_kind_11 (by decide) ?_
      refine aw_fl [some (.ref v0), some (.int v1), some (.int v2)] ⟨rfl, ⟨rfl, ⟨rfl, trivial⟩⟩⟩ ?_
      exact rmX8_kind_b15 C hl0 htab (by omega) (by omega) h
def mX8_rule_b107 (v0 : Nat) (f : AH) (n : Nat) : Option ((Int32 ⊕ String) × HpN) := ((gR f v0 8 5).bind fun x1 => ((x1).bind fun j2 => rCk (isO f j2 1) (((mX1_size j2 f n).bind fun r4 => some (.inl r4.1, (r4.2.1, r4.2.2))))))
set_option maxHeartbeats 1000000 in
theorem rmX8_rule_b107 {X : GX} {p : Program} {l : Launch} {e : Env} {s : State} {m : MethodId} {args : Array Value} {below : List Frame} {meth : Method} {c : Code} {r : (Int32 ⊕ String) × HpN} {v0 : Nat} {f : AH} {n cells slots : Nat} (C : CC X p l (RM 7 5 130) s m args meth c RX8 cX8_rule 3 (some .int)) (hl0 : l.stackTraces = false) (htab : ∀ x ∈ c.exceptionTable.toList, False) (hc : cells + 0 ≤ 5) (hs : slots + 0 ≤ 130) (h : mX8_rule_b107 v0 f n = some r) : AW X p l e (RM 7 5 130) s m args below meth c 3 (ZX X below args s 5 130 (QTr (QHi) r) (QTx r)) f n cells slots 107 [some (.ref v0), none, none] [] := by
  have h : ((gR f v0 8 5).bind fun x1 => ((x1).bind fun j2 => rCk (isO f j2 1) (((mX1_size j2 f n).bind fun r4 => some (.inl r4.1, (r4.2.1, r4.2.2)))))) = some r := h
  refine aw_ald_n C dX8_rule_107 rfl ?_
  obtain ⟨x1, hx1, h⟩ := Option.bind_eq_some_iff.mp h
  refine ah_getR C gf_X8_38 hx1 dX8_rule_108 ?_
  obtain ⟨j2, hj2, h⟩ := Option.bind_eq_some_iff.mp h
  rw [hj2]
  obtain ⟨hb3, h⟩ := ck_some h
  obtain ⟨r4, hr4, h⟩ := Option.bind_eq_some_iff.mp h
  obtain ⟨fs5, hf5⟩ := isO_ex hb3
  refine aw_callV C (ci := 1) (b := j2) [] mv_X8_136 rfl rfl hf5 (rmX1_size hr4) rfl dX8_rule_111 (Nat.le_of_ble_eq_true rfl) (Nat.le_of_ble_eq_true rfl) rfl (Nat.le_of_ble_eq_true rfl) (show cells + 0 ≤ 5 by omega) (show slots + 0 ≤ 130 by omega) (fun v9 f9 n9 hh => ?_)
  obtain ⟨rfl, rfl, rfl⟩ := hh
  cases h
  exact ax_of (aw_iret C rfl rfl dX8_rule_114 (by omega) (by omega) ⟨_, rfl, rfl, rfl, rfl⟩)
def mX8_rule_b83 (v0 : Nat) (s0 : Nat) (s1 : Nat) (s2 : Int32) (f : AH) (n : Nat) : Option ((Int32 ⊕ String) × HpN) := rCk (isO f s1 8) (((mX8_doAct s1 s2 (0 : Int32) (0 : Int32) (none : Option Nat) f n).bind fun r2 => rCk (isO r2.2.1 s0 8) (((mX8_finishCall s0 r2.1 r2.2.1 r2.2.2).bind fun r5 => (tS r5.1 r5.2 (fun y5 => mX8_rule_b107 v0 r5.2.1 r5.2.2))))))
set_option maxHeartbeats 1000000 in
theorem rmX8_rule_b83 {X : GX} {p : Program} {l : Launch} {e : Env} {s : State} {m : MethodId} {args : Array Value} {below : List Frame} {meth : Method} {c : Code} {r : (Int32 ⊕ String) × HpN} {v0 : Nat} {s0 : Nat} {s1 : Nat} {s2 : Int32} {f : AH} {n cells slots : Nat} (C : CC X p l (RM 7 5 130) s m args meth c RX8 cX8_rule 3 (some .int)) (hl0 : l.stackTraces = false) (htab : ∀ x ∈ c.exceptionTable.toList, False) (hc : cells + 5 ≤ 5) (hs : slots + 130 ≤ 130) (h : mX8_rule_b83 v0 s0 s1 s2 f n = some r) : AW X p l e (RM 7 5 130) s m args below meth c 3 (ZX X below args s 5 130 (QTr (QHi) r) (QTx r)) f n cells slots 83 [some (.ref v0), none, none] [.int s2, .ref s1, .ref s0] := by
  have h : rCk (isO f s1 8) (((mX8_doAct s1 s2 (0 : Int32) (0 : Int32) (none : Option Nat) f n).bind fun r2 => rCk (isO r2.2.1 s0 8) (((mX8_finishCall s0 r2.1 r2.2.1 r2.2.2).bind fun r5 => (tS r5.1 r5.2 (fun y5 => mX8_rule_b107 v0 r5.2.1 r5.2.2)))))) = some r := h
  refine aw_iconst C 0 dX8_rule_83 ki_0 ?_
  refine aw_iconst C 0 dX8_rule_84 ki_0 ?_
  refine aw_null C dX8_rule_85 ?_
  obtain ⟨hb1, h⟩ := ck_some h
  obtain ⟨r2, hr2, h⟩ := Option.bind_eq_some_iff.mp h
  obtain ⟨fs3, hf3⟩ := isO_ex hb1
  refine aw_callV C (ci := 8) (b := s1) [.int s2, .int (0 : Int32), .int (0 : Int32), .null] mv_X8_103 rfl rfl hf3 (rmX8_doAct hr2) rfl dX8_rule_86 (Nat.le_of_ble_eq_true rfl) (Nat.le_of_ble_eq_true rfl) rfl (Nat.le_of_ble_eq_true rfl) (show cells + 4 ≤ 5 by omega) (show slots + 124 ≤ 130 by omega) (fun v9 f9 n9 hh => ?_)
  obtain ⟨rfl, rfl, rfl⟩ := hh
  obtain ⟨hb4, h⟩ := ck_some h
  obtain ⟨r5, hr5, h⟩ := Option.bind_eq_some_iff.mp h
  obtain ⟨fs6, hf6⟩ := isO_ex hb4
  refine ax_callV C (ci := 8) (b := s0) [.int r2.1] mv_X8_139 rfl rfl hf6 (rmX8_finishCall hl0 hr5) rfl dX8_rule_89 (Nat.le_of_ble_eq_true rfl) (Nat.le_of_ble_eq_true rfl) rfl (Nat.le_of_ble_eq_true rfl) (show (cells + 4) + 1 ≤ 5 by omega) (show (slots + 124) + 6 ≤ 130 by omega) (fun E9 f9 n9 hq => ?_) (fun v9 f9 n9 hq => ?_)
  · obtain ⟨e1, e2, e3⟩ := hq
    rw [tS_r e1] at h
    cases h
    exact at_out C htab ⟨rfl, e2, e3⟩ (by omega) (by omega)
  obtain ⟨y5, e5, rfl, rfl, rfl⟩ := hq
  rw [tS_l e5] at h
  replace h : mX8_rule_b107 v0 r5.2.1 r5.2.2 = some r := h
  refine aw_goto C 107 dX8_rule_92 (by decide) ?_
  refine aw_fl [some (.ref v0), none, none] ⟨rfl, trivial⟩ ?_
  exact rmX8_rule_b107 C hl0 htab (by omega) (by omega) h
def mX8_rule_b56 (v0 : Nat) (v1 : Int32) (v2 : Int32) (f : AH) (n : Nat) : Option ((Int32 ⊕ String) × HpN) := ((gR f v0 8 2).bind fun x1 => ((gR f v0 8 1).bind fun x2 => ((x1).bind fun j3 => rCk (isO f j3 7) (((mX7_copyFrom j3 x2 f n).bind fun r5 => (if v1 = (0 : Int32) then (if v2 = (1 : Int32) then mX8_rule_b83 v0 v0 v0 (3 : Int32) r5.2.1 r5.2.2 else mX8_rule_b83 v0 v0 v0 (4 : Int32) r5.2.1 r5.2.2) else rCk (isO r5.2.1 v0 8) (((mX8_doAct v0 (5 : Int32) v2 (0 : Int32) (none : Option Nat) r5.2.1 r5.2.2).bind fun r8 => rCk (isO r8.2.1 v0 8) (((mX8_finishCall v0 r8.1 r8.2.1 r8.2.2).bind fun r11 => (tS r11.1 r11.2 (fun y11 => mX8_rule_b107 v0 r11.2.1 r11.2.2))))))))))))
set_option maxHeartbeats 1000000 in
theorem rmX8_rule_b56 {X : GX} {p : Program} {l : Launch} {e : Env} {s : State} {m : MethodId} {args : Array Value} {below : List Frame} {meth : Method} {c : Code} {r : (Int32 ⊕ String) × HpN} {v0 : Nat} {v1 : Int32} {v2 : Int32} {f : AH} {n cells slots : Nat} (C : CC X p l (RM 7 5 130) s m args meth c RX8 cX8_rule 3 (some .int)) (hl0 : l.stackTraces = false) (htab : ∀ x ∈ c.exceptionTable.toList, False) (hc : cells + 5 ≤ 5) (hs : slots + 130 ≤ 130) (h : mX8_rule_b56 v0 v1 v2 f n = some r) : AW X p l e (RM 7 5 130) s m args below meth c 3 (ZX X below args s 5 130 (QTr (QHi) r) (QTx r)) f n cells slots 56 [some (.ref v0), some (.int v1), some (.int v2)] [] := by
  have h : ((gR f v0 8 2).bind fun x1 => ((gR f v0 8 1).bind fun x2 => ((x1).bind fun j3 => rCk (isO f j3 7) (((mX7_copyFrom j3 x2 f n).bind fun r5 => (if v1 = (0 : Int32) then (if v2 = (1 : Int32) then mX8_rule_b83 v0 v0 v0 (3 : Int32) r5.2.1 r5.2.2 else mX8_rule_b83 v0 v0 v0 (4 : Int32) r5.2.1 r5.2.2) else rCk (isO r5.2.1 v0 8) (((mX8_doAct v0 (5 : Int32) v2 (0 : Int32) (none : Option Nat) r5.2.1 r5.2.2).bind fun r8 => rCk (isO r8.2.1 v0 8) (((mX8_finishCall v0 r8.1 r8.2.1 r8.2.2).bind fun r11 => (tS r11.1 r11.2 (fun y11 => mX8_rule_b107 v0 r11.2.1 r11.2.2)))))))))))) = some r := h
  refine aw_ald_n C dX8_rule_56 rfl ?_
  obtain ⟨x1, hx1, h⟩ := Option.bind_eq_some_iff.mp h
  refine ah_getR C gf_X8_25 hx1 dX8_rule_57 ?_
  refine aw_ald_n C dX8_rule_60 rfl ?_
  obtain ⟨x2, hx2, h⟩ := Option.bind_eq_some_iff.mp h
  refine ah_getR C gf_X8_21 hx2 dX8_rule_61 ?_
  obtain ⟨j3, hj3, h⟩ := Option.bind_eq_some_iff.mp h
  rw [hj3]
  obtain ⟨hb4, h⟩ := ck_some h
  obtain ⟨r5, hr5, h⟩ := Option.bind_eq_some_iff.mp h
  obtain ⟨fs6, hf6⟩ := isO_ex hb4
  refine aw_callV C (ci := 7) (b := j3) [va_rf x2] mv_X8_73 rfl rfl hf6 (rmX7_copyFrom hr5) rfl dX8_rule_64 (Nat.le_of_ble_eq_true rfl) (Nat.le_of_ble_eq_true rfl) rfl (Nat.le_of_ble_eq_true rfl) (show cells + 0 ≤ 5 by omega) (show slots + 0 ≤ 130 by omega) (fun v9 f9 n9 hh => ?_)
  obtain ⟨rfl, rfl, rfl⟩ := hh
  refine aw_iload_n C dX8_rule_67 rfl ?_
  refine aw_if_ne C 95 dX8_rule_68 (by decide) (fun q => ?_) (fun q => ?_)
  · rw [if_neg q] at h
    refine aw_ald_n C dX8_rule_95 rfl ?_
    refine aw_ald_n C dX8_rule_96 rfl ?_
    refine aw_iconst C 5 dX8_rule_97 ki_5 ?_
    refine aw_iload_n C dX8_rule_98 rfl ?_
    refine aw_iconst C 0 dX8_rule_99 ki_0 ?_
    refine aw_null C dX8_rule_100 ?_
    obtain ⟨hb7, h⟩ := ck_some h
    obtain ⟨r8, hr8, h⟩ := Option.bind_eq_some_iff.mp h
    obtain ⟨fs9, hf9⟩ := isO_ex hb7
    refine aw_callV C (ci := 8) (b := v0) [.int (5 : Int32), .int v2, .int (0 : Int32), .null] mv_X8_103 rfl rfl hf9 (rmX8_doAct hr8) rfl dX8_rule_101 (Nat.le_of_ble_eq_true rfl) (Nat.le_of_ble_eq_true rfl) rfl (Nat.le_of_ble_eq_true rfl) (show (cells + 0) + 4 ≤ 5 by omega) (show (slots + 0) + 124 ≤ 130 by omega) (fun v9 f9 n9 hh => ?_)
    obtain ⟨rfl, rfl, rfl⟩ := hh
    obtain ⟨hb10, h⟩ := ck_some h
    obtain ⟨r11, hr11, h⟩ := Option.bind_eq_some_iff.mp h
    obtain ⟨fs12, hf12⟩ := isO_ex hb10
    refine ax_callV C (ci := 8) (b := v0) [.int r8.1] mv_X8_139 rfl rfl hf12 (rmX8_finishCall hl0 hr11) rfl dX8_rule_104 (Nat.le_of_ble_eq_true rfl) (Nat.le_of_ble_eq_true rfl) rfl (Nat.le_of_ble_eq_true rfl) (show ((cells + 0) + 4) + 1 ≤ 5 by omega) (show ((slots + 0) + 124) + 6 ≤ 130 by omega) (fun E9 f9 n9 hq => ?_) (fun v9 f9 n9 hq => ?_)
    · obtain ⟨e1, e2, e3⟩ := hq
      rw [tS_r e1] at h
      cases h
      exact at_out C htab ⟨rfl, e2, e3⟩ (by omega) (by omega)
    obtain ⟨y11, e11, rfl, rfl, rfl⟩ := hq
    rw [tS_l e11] at h
    replace h : mX8_rule_b107 v0 r11.2.1 r11.2.2 = some r := h
    refine aw_fl [some (.ref v0), none, none] ⟨rfl, trivial⟩ ?_
    exact rmX8_rule_b107 C hl0 htab (by omega) (by omega) h
  · rw [if_pos q] at h
    refine aw_ald_n C dX8_rule_71 rfl ?_
    refine aw_ald_n C dX8_rule_72 rfl ?_
    refine aw_iload_n C dX8_rule_73 rfl ?_
    refine aw_iconst C 1 dX8_rule_74 ki_1 ?_
    refine aw_icmp_ne C 82 dX8_rule_75 (by decide) (fun q => ?_) (fun q => ?_)
    · rw [if_neg q] at h
      refine aw_iconst C 4 dX8_rule_82 ki_4 ?_
      refine aw_fl [some (.ref v0), none, none] ⟨rfl, trivial⟩ ?_
      exact rmX8_rule_b83 C hl0 htab (by omega) (by omega) h
    · rw [if_pos q] at h
      refine aw_iconst C 3 dX8_rule_78 ki_3 ?_
      refine aw_goto C 83 dX8_rule_79 (by decide) ?_
      refine aw_fl [some (.ref v0), none, none] ⟨rfl, trivial⟩ ?_
      exact rmX8_rule_b83 C hl0 htab (by omega) (by omega) h
def mX8_rule_b46 (f : AH) (n : Nat) : Option ((Int32 ⊕ String) × HpN) := some (.inr eA, (f, n))
set_option maxHeartbeats 1000000 in
theorem rmX8_rule_b46 {X : GX} {p : Program} {l : Launch} {e : Env} {s : State} {m : MethodId} {args : Array Value} {below : List Frame} {meth : Method} {c : Code} {r : (Int32 ⊕ String) × HpN} {f : AH} {n cells slots : Nat} (C : CC X p l (RM 7 5 130) s m args meth c RX8 cX8_rule 3 (some .int)) (hl0 : l.stackTraces = false) (htab : ∀ x ∈ c.exceptionTable.toList, False) (hc : cells + 1 ≤ 5) (hs : slots + 6 ≤ 130) (h : mX8_rule_b46 f n = some r) : AW X p l e (RM 7 5 130) s m args below meth c 3 (ZX X below args s 5 130 (QTr (QHi) r) (QTx r)) f n cells slots 46 [none, none, none] [] := by
  have h : some (.inr eA, (f, n)) = some r := h
  cases h
  exact ax_throw C htab hl0 th_eA sx_147 dX8_rule_46 dX8_rule_49 dX8_rule_50 dX8_rule_52 dX8_rule_55 (Nat.le_of_ble_eq_true rfl) (Nat.le_of_ble_eq_true rfl) (show cells + 1 ≤ 5 by omega) (show slots + 6 ≤ 130 by omega) (by omega) (by omega) (fun n9 h9 => ⟨rfl, rfl, h9⟩)
def mX8_rule_b19 (v0 : Nat) (v1 : Int32) (v2 : Int32) (f : AH) (n : Nat) : Option ((Int32 ⊕ String) × HpN) := (if v1 = (0 : Int32) then (if v2 < (0 : Int32) then mX8_rule_b46 f n else (if v2 ≤ (1 : Int32) then mX8_rule_b56 v0 v1 v2 f n else mX8_rule_b46 f n)) else (if v2 < (1 : Int32) then mX8_rule_b46 f n else (if v2 ≤ (40 : Int32) then mX8_rule_b56 v0 v1 v2 f n else mX8_rule_b46 f n)))
set_option maxHeartbeats 1000000 in
theorem rmX8_rule_b19 {X : GX} {p : Program} {l : Launch} {e : Env} {s : State} {m : MethodId} {args : Array Value} {below : List Frame} {meth : Method} {c : Code} {r : (Int32 ⊕ String) × HpN} {v0 : Nat} {v1 : Int32} {v2 : Int32} {f : AH} {n cells slots : Nat} (C : CC X p l (RM 7 5 130) s m args meth c RX8 cX8_rule 3 (some .int)) (hl0 : l.stackTraces = false) (htab : ∀ x ∈ c.exceptionTable.toList, False) (hc : cells + 5 ≤ 5) (hs : slots + 130 ≤ 130) (h : mX8_rule_b19 v0 v1 v2 f n = some r) : AW X p l e (RM 7 5 130) s m args below meth c 3 (ZX X below args s 5 130 (QTr (QHi) r) (QTx r)) f n cells slots 19 [some (.ref v0), some (.int v1), some (.int v2)] [] := by
  have h : (if v1 = (0 : Int32) then (if v2 < (0 : Int32) then mX8_rule_b46 f n else (if v2 ≤ (1 : Int32) then mX8_rule_b56 v0 v1 v2 f n else mX8_rule_b46 f n)) else (if v2 < (1 : Int32) then mX8_rule_b46 f n else (if v2 ≤ (40 : Int32) then mX8_rule_b56 v0 v1 v2 f n else mX8_rule_b46 f n))) = some r := h
  refine aw_iload_n C dX8_rule_19 rfl ?_
  refine aw_if_ne C 35 dX8_rule_20 (by decide) (fun q => ?_) (fun q => ?_)
  · rw [if_neg q] at h
    refine aw_iload_n C dX8_rule_35 rfl ?_
    refine aw_iconst C 1 dX8_rule_36 ki_1 ?_
    refine aw_icmp_lt C 46 dX8_rule_37 (by decide) (fun q => ?_) (fun q => ?_)
    · rw [if_pos q] at h
      refine aw_fl [none, none, none] trivial ?_
      exact rmX8_rule_b46 C hl0 htab (by omega) (by omega) h
    · rw [if_neg q] at h
      refine aw_iload_n C dX8_rule_40 rfl ?_
      refine aw_bipush C 40 dX8_rule_41 kb_40 ?_
      refine aw_icmp_le C 56 dX8_rule_43 (by decide) (fun q => ?_) (fun q => ?_)
      · rw [if_pos q] at h
        refine aw_fl [some (.ref v0), some (.int v1), some (.int v2)] ⟨rfl, ⟨rfl, ⟨rfl, trivial⟩⟩⟩ ?_
        exact rmX8_rule_b56 C hl0 htab (by omega) (by omega) h
      · rw [if_neg q] at h
        refine aw_fl [none, none, none] trivial ?_
        exact rmX8_rule_b46 C hl0 htab (by omega) (by omega) h
  · rw [if_pos q] at h
    refine aw_iload_n C dX8_rule_23 rfl ?_
    refine aw_if_lt C 46 dX8_rule_24 (by decide) (fun q => ?_) (fun q => ?_)
    · rw [if_pos q] at h
      refine aw_fl [none, none, none] trivial ?_
      exact rmX8_rule_b46 C hl0 htab (by omega) (by omega) h
    · rw [if_neg q] at h
      refine aw_iload_n C dX8_rule_27 rfl ?_
      refine aw_iconst C 1 dX8_rule_28 ki_1 ?_
      refine aw_icmp_le C 56 dX8_rule_29 (by decide) (fun q => ?_) (fun q => ?_)
      · rw [if_pos q] at h
        refine aw_fl [some (.ref v0), some (.int v1), some (.int v2)] ⟨rfl, ⟨rfl, ⟨rfl, trivial⟩⟩⟩ ?_
        exact rmX8_rule_b56 C hl0 htab (by omega) (by omega) h
      · rw [if_neg q] at h
        refine aw_goto C 46 dX8_rule_32 (by decide) ?_
        refine aw_fl [none, none, none] trivial ?_
        exact rmX8_rule_b46 C hl0 htab (by omega) (by omega) h
def mX8_rule (v0 : Nat) (v1 : Int32) (v2 : Int32) (f : AH) (n : Nat) : Option ((Int32 ⊕ String) × HpN) := (if v1 = (0 : Int32) then mX8_rule_b19 v0 v1 v2 f n else (if v1 = (1 : Int32) then mX8_rule_b19 v0 v1 v2 f n else some (.inr eN, (f, n))))
set_option maxHeartbeats 1000000 in
theorem rmX8_rule {X : GX} {l : Launch} {r : (Int32 ⊕ String) × HpN} {v0 : Nat} {v1 : Int32} {v2 : Int32} {f : AH} {n : Nat} (hl0 : l.stackTraces = false) (h : mX8_rule v0 v1 v2 f n = some r) : AX X l yX8_rule cX8_rule 3 (some .int) 7 5 130 [.ref v0, .int v1, .int v2] f n (QTr (QHi) r) (QTx r) := by
  have h : (if v1 = (0 : Int32) then mX8_rule_b19 v0 v1 v2 f n else (if v1 = (1 : Int32) then mX8_rule_b19 v0 v1 v2 f n else some (.inr eN, (f, n)))) = some r := h
  refine AX.of (by decide +kernel) rfl (Nat.le_of_ble_eq_true rfl) (fun p e s m args below meth c C htab => ?_)
  refine aw_nl [some (.ref v0), some (.int v1), some (.int v2)] rfl ?_
  refine aw_iload_n C dX8_rule_0 rfl ?_
  refine aw_if_eq C 19 dX8_rule_1 (by decide) (fun q => ?_) (fun q => ?_)
  · rw [if_pos q] at h
    refine aw_fl [some (.ref v0), some (.int v1), some (.int v2)] ⟨rfl, ⟨rfl, ⟨rfl, trivial⟩⟩⟩ ?_
    exact rmX8_rule_b19 C hl0 htab (by omega) (by omega) h
  · rw [if_neg q] at h
    refine aw_iload_n C dX8_rule_4 rfl ?_
    refine aw_iconst C 1 dX8_rule_5 ki_1 ?_
    refine aw_icmp_eq C 19 dX8_rule_6 (by decide) (fun q => ?_) (fun q => ?_)
    · rw [if_pos q] at h
      refine aw_fl [some (.ref v0), some (.int v1), some (.int v2)] ⟨rfl, ⟨rfl, ⟨rfl, trivial⟩⟩⟩ ?_
      exact rmX8_rule_b19 C hl0 htab (by omega) (by omega) h
    · rw [if_neg q] at h
      cases h
      exact ax_throwN C htab hl0 th_eN sx_144 dX8_rule_9 dX8_rule_12 dX8_rule_13 dX8_rule_15 dX8_rule_18 (Nat.le_of_ble_eq_true rfl) (Nat.le_of_ble_eq_true rfl) (show 0 + 1 ≤ 5 by omega) (show 0 + 6 ≤ 130 by omega) (by omega) (by omega) (fun n9 h9 => ⟨rfl, rfl, h9⟩)
def mX5_isWord_b60 (s0 : Int32) (f : AH) (n : Nat) : Option (Int32 × HpN) := rCk (rNb s0) (some (s0, (f, n)))
set_option maxHeartbeats 1000000 in
theorem rmX5_isWord_b60 {X : GX} {p : Program} {l : Launch} {e : Env} {s : State} {m : MethodId} {args : Array Value} {below : List Frame} {meth : Method} {c : Code} {r : Int32 × HpN} {s0 : Int32} {f : AH} {n cells slots : Nat} (C : CC X p l (RM 1 0 0) s m args meth c RX5 cX5_isWord 2 (some .boolean)) (hc : cells + 0 ≤ 0) (hs : slots + 0 ≤ 0) (h : mX5_isWord_b60 s0 f n = some r) : AW X p l e (RM 1 0 0) s m args below meth c 2 (ZM X below args s 0 0 (QHi r)) f n cells slots 60 [none, none] [.int s0] := by
  have h : rCk (rNb s0) (some (s0, (f, n))) = some r := h
  obtain ⟨hb1, h⟩ := ck_some h
  cases h
  exact aw_iret C rfl (nb_nar hb1) dX5_isWord_60 (by omega) (by omega) ⟨rfl, rfl, rfl⟩
def mX5_isWord_b59 (f : AH) (n : Nat) : Option (Int32 × HpN) := mX5_isWord_b60 (0 : Int32) f n
set_option maxHeartbeats 1000000 in
theorem rmX5_isWord_b59 {X : GX} {p : Program} {l : Launch} {e : Env} {s : State} {m : MethodId} {args : Array Value} {below : List Frame} {meth : Method} {c : Code} {r : Int32 × HpN} {f : AH} {n cells slots : Nat} (C : CC X p l (RM 1 0 0) s m args meth c RX5 cX5_isWord 2 (some .boolean)) (hc : cells + 0 ≤ 0) (hs : slots + 0 ≤ 0) (h : mX5_isWord_b59 f n = some r) : AW X p l e (RM 1 0 0) s m args below meth c 2 (ZM X below args s 0 0 (QHi r)) f n cells slots 59 [none, none] [] := by
  have h : mX5_isWord_b60 (0 : Int32) f n = some r := h
  refine aw_iconst C 0 dX5_isWord_59 ki_0 ?_
  refine aw_fl [none, none] trivial ?_
  exact rmX5_isWord_b60 C (by omega) (by omega) h
def mX5_isWord_b30 (f : AH) (n : Nat) : Option (Int32 × HpN) := rCk (rNb (0 : Int32)) (some ((0 : Int32), (f, n)))
set_option maxHeartbeats 1000000 in
theorem rmX5_isWord_b30 {X : GX} {p : Program} {l : Launch} {e : Env} {s : State} {m : MethodId} {args : Array Value} {below : List Frame} {meth : Method} {c : Code} {r : Int32 × HpN} {f : AH} {n cells slots : Nat} (C : CC X p l (RM 1 0 0) s m args meth c RX5 cX5_isWord 2 (some .boolean)) (hc : cells + 0 ≤ 0) (hs : slots + 0 ≤ 0) (h : mX5_isWord_b30 f n = some r) : AW X p l e (RM 1 0 0) s m args below meth c 2 (ZM X below args s 0 0 (QHi r)) f n cells slots 30 [none, none] [] := by
  have h : rCk (rNb (0 : Int32)) (some ((0 : Int32), (f, n))) = some r := h
  refine aw_iconst C 0 dX5_isWord_30 ki_0 ?_
  obtain ⟨hb1, h⟩ := ck_some h
  cases h
  exact aw_iret C rfl (nb_nar hb1) dX5_isWord_31 (by omega) (by omega) ⟨rfl, rfl, rfl⟩
def mX5_isWord_l2 : Nat → Nat → Int32 → AH → Nat → Option (Int32 × HpN)
  | 0, _, _, _, _ => none
  | d + 1, v0, v1, f, n => ((gI f v0 5 1).bind fun x1 => (if x1 ≤ v1 then ((gI f v0 5 1).bind fun x2 => (if x2 < (1 : Int32) then mX5_isWord_b59 f n else ((gI f v0 5 1).bind fun x3 => (if (8 : Int32) < x3 then mX5_isWord_b59 f n else mX5_isWord_b60 (1 : Int32) f n)))) else rCk (isO f v0 5) (((mX5_get v0 v1 f n).bind fun r5 => (if r5.1 < (97 : Int32) then mX5_isWord_b30 r5.2.1 r5.2.2 else rCk (isO r5.2.1 v0 5) (((mX5_get v0 v1 r5.2.1 r5.2.2).bind fun r8 => (if r8.1 ≤ (122 : Int32) then mX5_isWord_l2 d v0 (v1 + (1 : Int32)) r8.2.1 r8.2.2 else mX5_isWord_b30 r8.2.1 r8.2.2))))))))
set_option maxHeartbeats 1000000 in
theorem rmX5_isWord_l2 {X : GX} {p : Program} {l : Launch} {e : Env} {s : State} {m : MethodId} {args : Array Value} {below : List Frame} {meth : Method} {c : Code} {r : Int32 × HpN} (C : CC X p l (RM 1 0 0) s m args meth c RX5 cX5_isWord 2 (some .boolean)) : ∀ (d : Nat) (v0 : Nat) (v1 : Int32) (f : AH) (n cells slots : Nat) (_ : cells + 0 ≤ 0) (_ : slots + 0 ≤ 0) (_ : mX5_isWord_l2 d v0 v1 f n = some r), AW X p l e (RM 1 0 0) s m args below meth c 2 (ZM X below args s 0 0 (QHi r)) f n cells slots 2 [some (.ref v0), some (.int v1)] [] := by
  intro d
  induction d with
  | zero =>
    intro v0 v1 f n cells slots hc hs h
    exact nomatch (show (none : Option (Int32 × HpN)) = some r from h)
  | succ d ih =>
    intro v0 v1 f n cells slots hc hs h
    have h : ((gI f v0 5 1).bind fun x1 => (if x1 ≤ v1 then ((gI f v0 5 1).bind fun x2 => (if x2 < (1 : Int32) then mX5_isWord_b59 f n else ((gI f v0 5 1).bind fun x3 => (if (8 : Int32) < x3 then mX5_isWord_b59 f n else mX5_isWord_b60 (1 : Int32) f n)))) else rCk (isO f v0 5) (((mX5_get v0 v1 f n).bind fun r5 => (if r5.1 < (97 : Int32) then mX5_isWord_b30 r5.2.1 r5.2.2 else rCk (isO r5.2.1 v0 5) (((mX5_get v0 v1 r5.2.1 r5.2.2).bind fun r8 => (if r8.1 ≤ (122 : Int32) then mX5_isWord_l2 d v0 (v1 + (1 : Int32)) r8.2.1 r8.2.2 else mX5_isWord_b30 r8.2.1 r8.2.2)))))))) = some r := h
    refine aw_iload_n C dX5_isWord_2 rfl ?_
    refine aw_ald_n C dX5_isWord_3 rfl ?_
    obtain ⟨x1, hx1, h⟩ := Option.bind_eq_some_iff.mp h
    refine ah_getI C gf_X5_15 hx1 dX5_isWord_4 ?_
    refine aw_icmp_ge C 38 dX5_isWord_7 (by decide) (fun q => ?_) (fun q => ?_)
    · rw [if_pos q] at h
      refine aw_ald_n C dX5_isWord_38 rfl ?_
      obtain ⟨x2, hx2, h⟩ := Option.bind_eq_some_iff.mp h
      refine ah_getI C gf_X5_15 hx2 dX5_isWord_39 ?_
      refine aw_iconst C 1 dX5_isWord_42 ki_1 ?_
      refine aw_icmp_lt C 59 dX5_isWord_43 (by decide) (fun q => ?_) (fun q => ?_)
      · rw [if_pos q] at h
        refine aw_fl [none, none] trivial ?_
        exact rmX5_isWord_b59 C (by omega) (by omega) h
      · rw [if_neg q] at h
        refine aw_ald_n C dX5_isWord_46 rfl ?_
        obtain ⟨x3, hx3, h⟩ := Option.bind_eq_some_iff.mp h
        refine ah_getI C gf_X5_15 hx3 dX5_isWord_47 ?_
        refine aw_bipush C 8 dX5_isWord_50 kb_8 ?_
        refine aw_icmp_gt C 59 dX5_isWord_52 (by decide) (fun q => ?_) (fun q => ?_)
        · rw [if_pos q] at h
          refine aw_fl [none, none] trivial ?_
          exact rmX5_isWord_b59 C (by omega) (by omega) h
        · rw [if_neg q] at h
          refine aw_iconst C 1 dX5_isWord_55 ki_1 ?_
          refine aw_goto C 60 dX5_isWord_56 (by decide) ?_
          refine aw_fl [none, none] trivial ?_
          exact rmX5_isWord_b60 C (by omega) (by omega) h
    · rw [if_neg q] at h
      refine aw_ald_n C dX5_isWord_10 rfl ?_
      refine aw_iload_n C dX5_isWord_11 rfl ?_
      obtain ⟨hb4, h⟩ := ck_some h
      obtain ⟨r5, hr5, h⟩ := Option.bind_eq_some_iff.mp h
      obtain ⟨fs6, hf6⟩ := isO_ex hb4
      refine aw_callV C (ci := 5) (b := v0) [.int v1] mv_X5_19 rfl rfl hf6 (rmX5_get hr5) rfl dX5_isWord_12 (Nat.le_of_ble_eq_true rfl) (Nat.le_of_ble_eq_true rfl) rfl (Nat.le_of_ble_eq_true rfl) (show cells + 0 ≤ 0 by omega) (show slots + 0 ≤ 0 by omega) (fun v9 f9 n9 hh => ?_)
      obtain ⟨rfl, rfl, rfl⟩ := hh
      refine aw_bipush C 97 dX5_isWord_15 kb_97 ?_
      refine aw_icmp_lt C 30 dX5_isWord_17 (by decide) (fun q => ?_) (fun q => ?_)
      · rw [if_pos q] at h
        refine aw_fl [none, none] trivial ?_
        exact rmX5_isWord_b30 C (by omega) (by omega) h
      · rw [if_neg q] at h
        refine aw_ald_n C dX5_isWord_20 rfl ?_
        refine aw_iload_n C dX5_isWord_21 rfl ?_
        obtain ⟨hb7, h⟩ := ck_some h
        obtain ⟨r8, hr8, h⟩ := Option.bind_eq_some_iff.mp h
        obtain ⟨fs9, hf9⟩ := isO_ex hb7
        refine aw_callV C (ci := 5) (b := v0) [.int v1] mv_X5_19 rfl rfl hf9 (rmX5_get hr8) rfl dX5_isWord_22 (Nat.le_of_ble_eq_true rfl) (Nat.le_of_ble_eq_true rfl) rfl (Nat.le_of_ble_eq_true rfl) (show (cells + 0) + 0 ≤ 0 by omega) (show (slots + 0) + 0 ≤ 0 by omega) (fun v9 f9 n9 hh => ?_)
        obtain ⟨rfl, rfl, rfl⟩ := hh
        refine aw_bipush C 122 dX5_isWord_25 kb_122 ?_
        refine aw_icmp_le C 32 dX5_isWord_27 (by decide) (fun q => ?_) (fun q => ?_)
        · rw [if_pos q] at h
          refine aw_iinc C (v1 + (1 : Int32)) dX5_isWord_32 rfl (by rw [ki_1]) (by decide) rfl ?_
          refine aw_nl [some (.ref v0), some (.int (v1 + (1 : Int32)))] rfl ?_
          refine aw_goto C 2 dX5_isWord_35 (by decide) ?_
          refine aw_fl [some (.ref v0), some (.int (v1 + (1 : Int32)))] ⟨rfl, ⟨rfl, trivial⟩⟩ ?_
          exact ih v0 (v1 + (1 : Int32)) r8.2.1 r8.2.2 _ _ (by omega) (by omega) h
        · rw [if_neg q] at h
          refine aw_fl [none, none] trivial ?_
          exact rmX5_isWord_b30 C (by omega) (by omega) h
def mX5_isWord (v0 : Nat) (f : AH) (n : Nat) : Option (Int32 × HpN) := mX5_isWord_l2 rFU v0 (0 : Int32) f n
set_option maxHeartbeats 1000000 in
theorem rmX5_isWord {X : GX} {l : Launch} {r : Int32 × HpN} {v0 : Nat} {f : AH} {n : Nat} (h : mX5_isWord v0 f n = some r) : AM X l yX5_isWord cX5_isWord 2 (some .boolean) 1 0 0 [.ref v0] f n (QHi r) := by
  have h : mX5_isWord_l2 rFU v0 (0 : Int32) f n = some r := h
  refine AM.of (by decide +kernel) rfl (Nat.le_of_ble_eq_true rfl) (fun p e s m args below meth c C hnm => ?_)
  refine aw_nl [some (.ref v0), none] rfl ?_
  refine aw_iconst C 0 dX5_isWord_0 ki_0 ?_
  refine aw_istore_n C dX5_isWord_1 (by decide) rfl ?_
  refine aw_nl [some (.ref v0), some (.int (0 : Int32))] rfl ?_
  refine aw_fl [some (.ref v0), some (.int (0 : Int32))] ⟨rfl, ⟨rfl, trivial⟩⟩ ?_
  exact rmX5_isWord_l2 C rFU v0 (0 : Int32) f n _ _ (by omega) (by omega) h
def mX8_takeWord_b29 (v0 : Nat) (s0 : Option Nat) (f : AH) (n : Nat) : Option (Option Nat × HpN) := ((gR f v0 8 0).bind fun x1 => ((x1).bind fun j2 => rCk (isO f j2 5) (((mX5_cutTo j2 (0 : Int32) f n).bind fun r4 => some (s0, (r4.2.1, r4.2.2))))))
set_option maxHeartbeats 1000000 in
theorem rmX8_takeWord_b29 {X : GX} {p : Program} {l : Launch} {e : Env} {s : State} {m : MethodId} {args : Array Value} {below : List Frame} {meth : Method} {c : Code} {r : Option Nat × HpN} {v0 : Nat} {s0 : Option Nat} {f : AH} {n cells slots : Nat} (C : CC X p l (RM 3 2 10) s m args meth c RX8 cX8_takeWord 2 (some (.object "PieceFiles$Row"))) (hc : cells + 0 ≤ 2) (hs : slots + 0 ≤ 10) (h : mX8_takeWord_b29 v0 s0 f n = some r) : AW X p l e (RM 3 2 10) s m args below meth c 2 (ZM X below args s 2 10 (QHr r)) f n cells slots 29 [some (.ref v0), none] [va_rf s0] := by
  have h : ((gR f v0 8 0).bind fun x1 => ((x1).bind fun j2 => rCk (isO f j2 5) (((mX5_cutTo j2 (0 : Int32) f n).bind fun r4 => some (s0, (r4.2.1, r4.2.2)))))) = some r := h
  refine aw_astore_n C dX8_takeWord_29 (by decide) rfl (rf_or s0) ?_
  refine aw_nl [some (.ref v0), some (va_rf s0)] rfl ?_
  refine aw_ald_n C dX8_takeWord_30 rfl ?_
  obtain ⟨x1, hx1, h⟩ := Option.bind_eq_some_iff.mp h
  refine ah_getR C gf_X8_14 hx1 dX8_takeWord_31 ?_
  refine aw_iconst C 0 dX8_takeWord_34 ki_0 ?_
  obtain ⟨j2, hj2, h⟩ := Option.bind_eq_some_iff.mp h
  rw [hj2]
  obtain ⟨hb3, h⟩ := ck_some h
  obtain ⟨r4, hr4, h⟩ := Option.bind_eq_some_iff.mp h
  obtain ⟨fs5, hf5⟩ := isO_ex hb3
  refine aw_callV C (ci := 5) (b := j2) [.int (0 : Int32)] mv_X8_70 rfl rfl hf5 (rmX5_cutTo hr4) rfl dX8_takeWord_35 (Nat.le_of_ble_eq_true rfl) (Nat.le_of_ble_eq_true rfl) rfl (Nat.le_of_ble_eq_true rfl) (show cells + 0 ≤ 2 by omega) (show slots + 0 ≤ 10 by omega) (fun v9 f9 n9 hh => ?_)
  obtain ⟨rfl, rfl, rfl⟩ := hh
  refine aw_aload_n C dX8_takeWord_38 rfl (rf_or s0) ?_
  cases h
  exact aw_aret C rfl (rf_or _) dX8_takeWord_39 (by omega) (by omega) ⟨rfl, rfl, rfl⟩
def mX8_takeWord (v0 : Nat) (f : AH) (n : Nat) : Option (Option Nat × HpN) := ((gR f v0 8 0).bind fun x1 => ((x1).bind fun j2 => rCk (isO f j2 5) (((mX5_isWord j2 f n).bind fun r4 => (if r4.1 = (0 : Int32) then mX8_takeWord_b29 v0 (none : Option Nat) r4.2.1 r4.2.2 else ((gR r4.2.1 v0 8 0).bind fun x6 => ((gR r4.2.1 v0 8 0).bind fun x7 => ((x7).bind fun j8 => rCk (isO r4.2.1 j8 5) (((mX5_size j8 r4.2.1 r4.2.2).bind fun r10 => ((x6).bind fun j12 => rCk (isO r10.2.1 j12 5) (((mX5_part 8 j12 (0 : Int32) r10.1 r10.2.1 r10.2.2).bind fun r14 => ((some r14.1).bind fun x16 => mX8_takeWord_b29 v0 x16 r14.2.1 r14.2.2))))))))))))))
set_option maxHeartbeats 1000000 in
theorem rmX8_takeWord {X : GX} {l : Launch} {r : Option Nat × HpN} {v0 : Nat} {f : AH} {n : Nat} (h : mX8_takeWord v0 f n = some r) : AM X l yX8_takeWord cX8_takeWord 2 (some (.object "PieceFiles$Row")) 3 2 10 [.ref v0] f n (QHr r) := by
  have h : ((gR f v0 8 0).bind fun x1 => ((x1).bind fun j2 => rCk (isO f j2 5) (((mX5_isWord j2 f n).bind fun r4 => (if r4.1 = (0 : Int32) then mX8_takeWord_b29 v0 (none : Option Nat) r4.2.1 r4.2.2 else ((gR r4.2.1 v0 8 0).bind fun x6 => ((gR r4.2.1 v0 8 0).bind fun x7 => ((x7).bind fun j8 => rCk (isO r4.2.1 j8 5) (((mX5_size j8 r4.2.1 r4.2.2).bind fun r10 => ((x6).bind fun j12 => rCk (isO r10.2.1 j12 5) (((mX5_part 8 j12 (0 : Int32) r10.1 r10.2.1 r10.2.2).bind fun r14 => ((some r14.1).bind fun x16 => mX8_takeWord_b29 v0 x16 r14.2.1 r14.2.2)))))))))))))) = some r := h
  refine AM.of (by decide +kernel) rfl (Nat.le_of_ble_eq_true rfl) (fun p e s m args below meth c C hnm => ?_)
  refine aw_nl [some (.ref v0), none] rfl ?_
  refine aw_ald_n C dX8_takeWord_0 rfl ?_
  obtain ⟨x1, hx1, h⟩ := Option.bind_eq_some_iff.mp h
  refine ah_getR C gf_X8_14 hx1 dX8_takeWord_1 ?_
  obtain ⟨j2, hj2, h⟩ := Option.bind_eq_some_iff.mp h
  rw [hj2]
  obtain ⟨hb3, h⟩ := ck_some h
  obtain ⟨r4, hr4, h⟩ := Option.bind_eq_some_iff.mp h
  obtain ⟨fs5, hf5⟩ := isO_ex hb3
  refine aw_callV C (ci := 5) (b := j2) [] mv_X8_317 rfl rfl hf5 (rmX5_isWord hr4) rfl dX8_takeWord_4 (Nat.le_of_ble_eq_true rfl) (Nat.le_of_ble_eq_true rfl) rfl (Nat.le_of_ble_eq_true rfl) (show 0 + 0 ≤ 2 by omega) (show 0 + 0 ≤ 10 by omega) (fun v9 f9 n9 hh => ?_)
  obtain ⟨rfl, rfl, rfl⟩ := hh
  refine aw_if_eq C 28 dX8_takeWord_7 (by decide) (fun q => ?_) (fun q => ?_)
  · rw [if_pos q] at h
    refine aw_null C dX8_takeWord_28 ?_
    refine aw_fl [some (.ref v0), none] ⟨rfl, trivial⟩ ?_
    exact rmX8_takeWord_b29 C (by omega) (by omega) h
  · rw [if_neg q] at h
    refine aw_ald_n C dX8_takeWord_10 rfl ?_
    obtain ⟨x6, hx6, h⟩ := Option.bind_eq_some_iff.mp h
    refine ah_getR C gf_X8_14 hx6 dX8_takeWord_11 ?_
    refine aw_iconst C 0 dX8_takeWord_14 ki_0 ?_
    refine aw_ald_n C dX8_takeWord_15 rfl ?_
    obtain ⟨x7, hx7, h⟩ := Option.bind_eq_some_iff.mp h
    refine ah_getR C gf_X8_14 hx7 dX8_takeWord_16 ?_
    obtain ⟨j8, hj8, h⟩ := Option.bind_eq_some_iff.mp h
    rw [hj8]
    obtain ⟨hb9, h⟩ := ck_some h
    obtain ⟨r10, hr10, h⟩ := Option.bind_eq_some_iff.mp h
    obtain ⟨fs11, hf11⟩ := isO_ex hb9
    refine aw_callV C (ci := 5) (b := j8) [] mv_X8_63 rfl rfl hf11 (rmX5_size hr10) rfl dX8_takeWord_19 (Nat.le_of_ble_eq_true rfl) (Nat.le_of_ble_eq_true rfl) rfl (cs_1 rfl (cs_1 (rf_cat _) cs_0)) (show (0 + 0) + 0 ≤ 2 by omega) (show (0 + 0) + 0 ≤ 10 by omega) (fun v9 f9 n9 hh => ?_)
    obtain ⟨rfl, rfl, rfl⟩ := hh
    obtain ⟨j12, hj12, h⟩ := Option.bind_eq_some_iff.mp h
    rw [hj12]
    obtain ⟨hb13, h⟩ := ck_some h
    obtain ⟨r14, hr14, h⟩ := Option.bind_eq_some_iff.mp h
    obtain ⟨fs15, hf15⟩ := isO_ex hb13
    refine aw_callV C (ci := 5) (b := j12) [.int (0 : Int32), .int r10.1] mv_X8_126 rfl rfl hf15 (rmX5_part hr14) rfl dX8_takeWord_22 (Nat.le_of_ble_eq_true rfl) (Nat.le_of_ble_eq_true rfl) rfl (Nat.le_of_ble_eq_true rfl) (show ((0 + 0) + 0) + 2 ≤ 2 by omega) (show ((0 + 0) + 0) + (2 + 8) ≤ 10 by omega) (fun v9 f9 n9 hh => ?_)
    obtain ⟨rfl, rfl, rfl⟩ := hh
    obtain ⟨x16, hx16, h⟩ := Option.bind_eq_some_iff.mp h
    rw [Option.some.inj hx16]
    refine aw_goto C 29 dX8_takeWord_25 (by decide) ?_
    refine aw_fl [some (.ref v0), none] ⟨rfl, trivial⟩ ?_
    exact rmX8_takeWord_b29 C (by omega) (by omega) h
