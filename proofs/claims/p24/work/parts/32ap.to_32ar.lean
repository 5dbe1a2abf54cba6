/-! part 32ap.cls -/
section
def mX8_acts_b199 (v0 : Nat) (v1 : Int32) (s0 : Nat) (s1 : Int32) (f : AH) (n : Nat) : Option ((Int32 ⊕ String) × HpN) := ((pO f s0 8 12 (.int s1)).bind fun f1 => ((pO f1 v0 8 11 (.int (0 : Int32))).bind fun f2 => some (.inl v1, (f2, n))))
set_option maxHeartbeats 1000000 in
theorem rmX8_acts_b199 {X : GX} {p : Program} {l : Launch} {e : Env} {s : State} {m : MethodId} {args : Array Value} {below : List Frame} {meth : Method} {c : Code} {r : (Int32 ⊕ String) × HpN} {v0 : Nat} {v1 : Int32} {s0 : Nat} {s1 : Int32} {f : AH} {n cells slots : Nat} (C : CC X p l (RM 7 108 2412) s m args meth c RX8 cX8_acts 6 (some .int)) (hl0 : l.stackTraces = false) (htab : ∀ x ∈ c.exceptionTable.toList, False) (hc : cells + 0 ≤ 108) (hs : slots + 0 ≤ 2412) (h : mX8_acts_b199 v0 v1 s0 s1 f n = some r) : AW X p l e (RM 7 108 2412) s m args below meth c 6 (ZX X below args s 108 2412 (QTr (QHi) r) (QTx r)) f n cells slots 199 [some (.ref v0), some (.int v1), none, none, none, none] [.int s1, .ref s0] := by
  have h : ((pO f s0 8 12 (.int s1)).bind fun f1 => ((pO f1 v0 8 11 (.int (0 : Int32))).bind fun f2 => some (.inl v1, (f2, n)))) = some r := h
  obtain ⟨f1, hf1, h⟩ := Option.bind_eq_some_iff.mp h
  refine ah_put C gf_X8_110 cf8 nf8_12 rfl rfl hf1 dX8_acts_199 ?_
  refine aw_ald_n C dX8_acts_202 rfl ?_
  refine aw_iconst C 0 dX8_acts_203 ki_0 ?_
  obtain ⟨f2, hf2, h⟩ := Option.bind_eq_some_iff.mp h
  refine ah_put C gf_X8_123 cf8 nf8_11 rfl rfl hf2 dX8_acts_204 ?_
  refine aw_iload_n C dX8_acts_207 rfl ?_
  cases h
  exact ax_of (aw_iret C rfl rfl dX8_acts_208 (by omega) (by omega) ⟨_, rfl, rfl, rfl, rfl⟩)
def mX8_acts_b150 (v0 : Nat) (v1 : Int32) (v2 : Int32) (f : AH) (n : Nat) : Option ((Int32 ⊕ String) × HpN) := ((gR f v0 8 0).bind fun x1 => ((x1).bind fun j2 => rCk (isO f j2 5) (((mX5_cutTo j2 (0 : Int32) f n).bind fun r4 => ((pO r4.2.1 v0 8 13 (.int v2)).bind fun f6 => (if v2 = (-1 : Int32) then (if v1 ≤ (0 : Int32) then ((gI f6 v0 8 12).bind fun x7 => mX8_acts_b199 v0 v1 v0 x7 f6 r4.2.2) else mX8_acts_b199 v0 v1 v0 (0 : Int32) f6 r4.2.2) else ((gR f6 v0 8 2).bind fun x8 => rCk (isO f6 v0 8) (((mX8_restore v0 x8 f6 r4.2.2).bind fun r10 => some (.inr eA, (r10.2.1, r10.2.2)))))))))))
set_option maxHeartbeats 1000000 in
theorem rmX8_acts_b150 {X : GX} {p : Program} {l : Launch} {e : Env} {s : State} {m : MethodId} {args : Array Value} {below : List Frame} {meth : Method} {c : Code} {r : (Int32 ⊕ String) × HpN} {v0 : Nat} {v1 : Int32} {v2 : Int32} {f : AH} {n cells slots : Nat} (C : CC X p l (RM 7 108 2412) s m args meth c RX8 cX8_acts 6 (some .int)) (hl0 : l.stackTraces = false) (htab : ∀ x ∈ c.exceptionTable.toList, False) (hc : cells + 1 ≤ 108) (hs : slots + 6 ≤ 2412) (h : mX8_acts_b150 v0 v1 v2 f n = some r) : AW X p l e (RM 7 108 2412) s m args below meth c 6 (ZX X below args s 108 2412 (QTr (QHi) r) (QTx r)) f n cells slots 150 [some (.ref v0), some (.int v1), some (.int v2), none, none, none] [] := by
  have h : ((gR f v0 8 0).bind fun x1 => ((x1).bind fun j2 => rCk (isO f j2 5) (((mX5_cutTo j2 (0 : Int32) f n).bind fun r4 => ((pO r4.2.1 v0 8 13 (.int v2)).bind fun f6 => (if v2 = (-1 : Int32) then (if v1 ≤ (0 : Int32) then ((gI f6 v0 8 12).bind fun x7 => mX8_acts_b199 v0 v1 v0 x7 f6 r4.2.2) else mX8_acts_b199 v0 v1 v0 (0 : Int32) f6 r4.2.2) else ((gR f6 v0 8 2).bind fun x8 => rCk (isO f6 v0 8) (((mX8_restore v0 x8 f6 r4.2.2).bind fun r10 => some (.inr eA, (r10.2.1, r10.2.2))))))))))) = some r := h
  refine aw_ald_n C dX8_acts_150 rfl ?_
  obtain ⟨x1, hx1, h⟩ := Option.bind_eq_some_iff.mp h
  refine ah_getR C gf_X8_14 hx1 dX8_acts_151 ?_
  refine aw_iconst C 0 dX8_acts_154 ki_0 ?_
  obtain ⟨j2, hj2, h⟩ := Option.bind_eq_some_iff.mp h
  rw [hj2]
  obtain ⟨hb3, h⟩ := ck_some h
  obtain ⟨r4, hr4, h⟩ := Option.bind_eq_some_iff.mp h
  obtain ⟨fs5, hf5⟩ := isO_ex hb3
  refine aw_callV C (ci := 5) (b := j2) [.int (0 : Int32)] mv_X8_70 rfl rfl hf5 (rmX5_cutTo hr4) rfl dX8_acts_155 (Nat.le_of_ble_eq_true rfl) (Nat.le_of_ble_eq_true rfl) rfl (Nat.le_of_ble_eq_true rfl) (show cells + 0 ≤ 108 by omega) (show slots + 0 ≤ 2412 by omega) (fun v9 f9 n9 hh => ?_)
  obtain ⟨rfl, rfl, rfl⟩ := hh
  refine aw_ald_n C dX8_acts_158 rfl ?_
  refine aw_iload_n C dX8_acts_159 rfl ?_
  obtain ⟨f6, hf6, h⟩ := Option.bind_eq_some_iff.mp h
  refine ah_put C gf_X8_59 cf8 nf8_13 rfl rfl hf6 dX8_acts_160 ?_
  refine aw_iload_n C dX8_acts_163 rfl ?_
  refine aw_iconst C (-1) dX8_acts_164 ki_m1 ?_
  refine aw_icmp_eq C 186 dX8_acts_165 (by decide) (fun q => ?_) (fun q => ?_)
  · rw [if_pos q] at h
    refine aw_ald_n C dX8_acts_186 rfl ?_
    refine aw_iload_n C dX8_acts_187 rfl ?_
    refine aw_if_le C 195 dX8_acts_188 (by decide) (fun q => ?_) (fun q => ?_)
    · rw [if_pos q] at h
      refine aw_ald_n C dX8_acts_195 rfl ?_
      obtain ⟨x7, hx7, h⟩ := Option.bind_eq_some_iff.mp h
      refine ah_getI C gf_X8_110 hx7 dX8_acts_196 ?_
      refine aw_fl [some (.ref v0), some (.int v1), none, none, none, none] ⟨rfl, ⟨rfl, trivial⟩⟩ ?_
      exact rmX8_acts_b199 C hl0 htab (by omega) (by omega) h
    · rw [if_neg q] at h
      refine aw_iconst C 0 dX8_acts_191 ki_0 ?_
      refine aw_goto C 199 dX8_acts_192 (by decide) ?_
      refine aw_fl [some (.ref v0), some (.int v1), none, none, none, none] ⟨rfl, ⟨rfl, trivial⟩⟩ ?_
      exact rmX8_acts_b199 C hl0 htab (by omega) (by omega) h
  · rw [if_neg q] at h
    refine aw_ald_n C dX8_acts_168 rfl ?_
    refine aw_ald_n C dX8_acts_169 rfl ?_
    obtain ⟨x8, hx8, h⟩ := Option.bind_eq_some_iff.mp h
    refine ah_getR C gf_X8_25 hx8 dX8_acts_170 ?_
    obtain ⟨hb9, h⟩ := ck_some h
    obtain ⟨r10, hr10, h⟩ := Option.bind_eq_some_iff.mp h
    obtain ⟨fs11, hf11⟩ := isO_ex hb9
    refine aw_callV C (ci := 8) (b := v0) [va_rf x8] mv_X8_113 rfl rfl hf11 (rmX8_restore hr10) rfl dX8_acts_173 (Nat.le_of_ble_eq_true rfl) (Nat.le_of_ble_eq_true rfl) rfl (Nat.le_of_ble_eq_true rfl) (show (cells + 0) + 0 ≤ 108 by omega) (show (slots + 0) + 0 ≤ 2412 by omega) (fun v9 f9 n9 hh => ?_)
    obtain ⟨rfl, rfl, rfl⟩ := hh
    cases h
    exact ax_throw C htab hl0 th_eA sx_118 dX8_acts_176 dX8_acts_179 dX8_acts_180 dX8_acts_182 dX8_acts_185 (Nat.le_of_ble_eq_true rfl) (Nat.le_of_ble_eq_true rfl) (show ((cells + 0) + 0) + 1 ≤ 108 by omega) (show ((slots + 0) + 0) + 6 ≤ 2412 by omega) (by omega) (by omega) (fun n9 h9 => ⟨rfl, rfl, h9⟩)
def mX8_acts_b144 (rec28 : Nat → Int32 → Int32 → Int32 → AH → Nat → Option ((Int32 ⊕ String) × HpN)) (v0 : Nat) (v1 : Int32) (v2 : Int32) (v3 : Int32) (f : AH) (n : Nat) : Option ((Int32 ⊕ String) × HpN) := rec28 v0 v1 v2 (v3 + (1 : Int32)) f n
set_option maxHeartbeats 1000000 in
theorem rmX8_acts_b144 {X : GX} {p : Program} {l : Launch} {e : Env} {s : State} {m : MethodId} {args : Array Value} {below : List Frame} {meth : Method} {c : Code} {r : (Int32 ⊕ String) × HpN} {rec28 : Nat → Int32 → Int32 → Int32 → AH → Nat → Option ((Int32 ⊕ String) × HpN)} {v0 : Nat} {v1 : Int32} {v2 : Int32} {v3 : Int32} {f : AH} {n cells slots : Nat} {Dc Ds : Nat} (C : CC X p l (RM 7 108 2412) s m args meth c RX8 cX8_acts 6 (some .int)) (hl0 : l.stackTraces = false) (htab : ∀ x ∈ c.exceptionTable.toList, False) (Hr28 : ∀ (v0 : Nat) (v1 : Int32) (v2 : Int32) (v3 : Int32) (f : AH) (n cells slots : Nat), cells + Dc ≤ 108 → slots + Ds ≤ 2412 → rec28 v0 v1 v2 v3 f n = some r → AW X p l e (RM 7 108 2412) s m args below meth c 6 (ZX X below args s 108 2412 (QTr (QHi) r) (QTx r)) f n cells slots 28 [some (.ref v0), some (.int v1), some (.int v2), some (.int v3), none, none] []) (hc : cells + 0 + Dc ≤ 108) (hs : slots + 0 + Ds ≤ 2412) (h : mX8_acts_b144 rec28 v0 v1 v2 v3 f n = some r) : AW X p l e (RM 7 108 2412) s m args below meth c 6 (ZX X below args s 108 2412 (QTr (QHi) r) (QTx r)) f n cells slots 144 [some (.ref v0), some (.int v1), some (.int v2), some (.int v3), none, none] [] := by
  have h : rec28 v0 v1 v2 (v3 + (1 : Int32)) f n = some r := h
  refine aw_iinc C (v3 + (1 : Int32)) dX8_acts_144 rfl (by rw [ki_1]) (by decide) rfl ?_
  refine aw_nl [some (.ref v0), some (.int v1), some (.int v2), some (.int (v3 + (1 : Int32))), none, none] rfl ?_
  refine aw_goto C 28 dX8_acts_147 (by decide) ?_
  refine aw_fl [some (.ref v0), some (.int v1), some (.int v2), some (.int (v3 + (1 : Int32))), none, none] ⟨rfl, ⟨rfl, ⟨rfl, ⟨rfl, trivial⟩⟩⟩⟩ ?_
  exact Hr28 v0 v1 v2 (v3 + (1 : Int32)) f n _ _ (by omega) (by omega) h
def mX8_acts_b76 (rec28 : Nat → Int32 → Int32 → Int32 → AH → Nat → Option ((Int32 ⊕ String) × HpN)) (v0 : Nat) (v1 : Int32) (v3 : Int32) (v4 : Int32) (s0 : Int32) (f : AH) (n : Nat) : Option ((Int32 ⊕ String) × HpN) := (if s0 = (-1 : Int32) then ((gR f v0 8 8).bind fun x1 => ((x1).bind fun j2 => ((gI f j2 4 2).bind fun x3 => ((gR f v0 8 8).bind fun x4 => ((x4).bind fun j5 => ((gI f j5 4 3).bind fun x6 => ((gR f v0 8 8).bind fun x7 => ((x7).bind fun j8 => ((gI f j8 4 4).bind fun x9 => ((gR f v0 8 8).bind fun x10 => ((x10).bind fun j11 => ((gR f j11 4 5).bind fun x12 => rCk (isO f v0 8) (((mX8_doAct v0 x3 x6 x9 x12 f n).bind fun r14 => (if r14.1 = (0 : Int32) then ((gR r14.2.1 v0 8 8).bind fun x17 => ((x17).bind fun j18 => rCk (isO r14.2.1 j18 4) (((mX4_readBehindAct j18 r14.2.1 r14.2.2).bind fun r20 => mX8_acts_b144 rec28 v0 (v1 + (1 : Int32)) r20.1 v3 r20.2.1 r20.2.2)))) else ((pO r14.2.1 v0 8 12 (.int r14.1)).bind fun f16 => mX8_acts_b144 rec28 v0 v1 v4 v3 f16 r14.2.2)))))))))))))))) else mX8_acts_b144 rec28 v0 v1 s0 v3 f n)
set_option maxHeartbeats 1000000 in
theorem rmX8_acts_b76 {X : GX} {p : Program} {l : Launch} {e : Env} {s : State} {m : MethodId} {args : Array Value} {below : List Frame} {meth : Method} {c : Code} {r : (Int32 ⊕ String) × HpN} {rec28 : Nat → Int32 → Int32 → Int32 → AH → Nat → Option ((Int32 ⊕ String) × HpN)} {v0 : Nat} {v1 : Int32} {v3 : Int32} {v4 : Int32} {s0 : Int32} {f : AH} {n cells slots : Nat} {Dc Ds : Nat} (C : CC X p l (RM 7 108 2412) s m args meth c RX8 cX8_acts 6 (some .int)) (hl0 : l.stackTraces = false) (htab : ∀ x ∈ c.exceptionTable.toList, False) (Hr28 : ∀ (v0 : Nat) (v1 : Int32) (v2 : Int32) (v3 : Int32) (f : AH) (n cells slots : Nat), cells + Dc ≤ 108 → slots + Ds ≤ 2412 → rec28 v0 v1 v2 v3 f n = some r → AW X p l e (RM 7 108 2412) s m args below meth c 6 (ZX X below args s 108 2412 (QTr (QHi) r) (QTx r)) f n cells slots 28 [some (.ref v0), some (.int v1), some (.int v2), some (.int v3), none, none] []) (hc : cells + 4 + Dc ≤ 108) (hs : slots + 124 + Ds ≤ 2412) (h : mX8_acts_b76 rec28 v0 v1 v3 v4 s0 f n = some r) : AW X p l e (RM 7 108 2412) s m args below meth c 6 (ZX X below args s 108 2412 (QTr (QHi) r) (QTx r)) f n cells slots 76 [some (.ref v0), some (.int v1), none, some (.int v3), some (.int v4), none] [.int s0] := by
  have h : (if s0 = (-1 : Int32) then ((gR f v0 8 8).bind fun x1 => ((x1).bind fun j2 => ((gI f j2 4 2).bind fun x3 => ((gR f v0 8 8).bind fun x4 => ((x4).bind fun j5 => ((gI f j5 4 3).bind fun x6 => ((gR f v0 8 8).bind fun x7 => ((x7).bind fun j8 => ((gI f j8 4 4).bind fun x9 => ((gR f v0 8 8).bind fun x10 => ((x10).bind fun j11 => ((gR f j11 4 5).bind fun x12 => rCk (isO f v0 8) (((mX8_doAct v0 x3 x6 x9 x12 f n).bind fun r14 => (if r14.1 = (0 : Int32) then ((gR r14.2.1 v0 8 8).bind fun x17 => ((x17).bind fun j18 => rCk (isO r14.2.1 j18 4) (((mX4_readBehindAct j18 r14.2.1 r14.2.2).bind fun r20 => mX8_acts_b144 rec28 v0 (v1 + (1 : Int32)) r20.1 v3 r20.2.1 r20.2.2)))) else ((pO r14.2.1 v0 8 12 (.int r14.1)).bind fun f16 => mX8_acts_b144 rec28 v0 v1 v4 v3 f16 r14.2.2)))))))))))))))) else mX8_acts_b144 rec28 v0 v1 s0 v3 f n) = some r := h
  refine aw_istore_n C dX8_acts_76 (by decide) rfl ?_
  refine aw_nl [some (.ref v0), some (.int v1), some (.int s0), some (.int v3), some (.int v4), none] rfl ?_
  refine aw_iload_n C dX8_acts_77 rfl ?_
  refine aw_iconst C (-1) dX8_acts_78 ki_m1 ?_
  refine aw_icmp_ne C 144 dX8_acts_79 (by decide) (fun q => ?_) (fun q => ?_)
  · rw [if_neg q] at h
    refine aw_fl [some (.ref v0), some (.int v1), some (.int s0), some (.int v3), none, none] ⟨rfl, ⟨rfl, ⟨rfl, ⟨rfl, trivial⟩⟩⟩⟩ ?_
    exact rmX8_acts_b144 C hl0 htab Hr28 (by omega) (by omega) h
  · rw [if_pos q] at h
    refine aw_ald_n C dX8_acts_82 rfl ?_
    refine aw_ald_n C dX8_acts_83 rfl ?_
    obtain ⟨x1, hx1, h⟩ := Option.bind_eq_some_iff.mp h
    refine ah_getR C gf_X8_55 hx1 dX8_acts_84 ?_
    obtain ⟨j2, hj2, h⟩ := Option.bind_eq_some_iff.mp h
    rw [hj2]
    obtain ⟨x3, hx3, h⟩ := Option.bind_eq_some_iff.mp h
    refine ah_getI C gf_X8_91 hx3 dX8_acts_87 ?_
    refine aw_ald_n C dX8_acts_90 rfl ?_
    obtain ⟨x4, hx4, h⟩ := Option.bind_eq_some_iff.mp h
    refine ah_getR C gf_X8_55 hx4 dX8_acts_91 ?_
    obtain ⟨j5, hj5, h⟩ := Option.bind_eq_some_iff.mp h
    rw [hj5]
    obtain ⟨x6, hx6, h⟩ := Option.bind_eq_some_iff.mp h
    refine ah_getI C gf_X8_94 hx6 dX8_acts_94 ?_
    refine aw_ald_n C dX8_acts_97 rfl ?_
    obtain ⟨x7, hx7, h⟩ := Option.bind_eq_some_iff.mp h
    refine ah_getR C gf_X8_55 hx7 dX8_acts_98 ?_
    obtain ⟨j8, hj8, h⟩ := Option.bind_eq_some_iff.mp h
    rw [hj8]
    obtain ⟨x9, hx9, h⟩ := Option.bind_eq_some_iff.mp h
    refine ah_getI C gf_X8_97 hx9 dX8_acts_101 ?_
    refine aw_ald_n C dX8_acts_104 rfl ?_
    obtain ⟨x10, hx10, h⟩ := Option.bind_eq_some_iff.mp h
    refine ah_getR C gf_X8_55 hx10 dX8_acts_105 ?_
    obtain ⟨j11, hj11, h⟩ := Option.bind_eq_some_iff.mp h
    rw [hj11]
    obtain ⟨x12, hx12, h⟩ := Option.bind_eq_some_iff.mp h
    refine ah_getR C gf_X8_100 hx12 dX8_acts_108 ?_
    obtain ⟨hb13, h⟩ := ck_some h
    obtain ⟨r14, hr14, h⟩ := Option.bind_eq_some_iff.mp h
    obtain ⟨fs15, hf15⟩ := isO_ex hb13
    refine aw_callV C (ci := 8) (b := v0) [.int x3, .int x6, .int x9, va_rf x12] mv_X8_103 rfl rfl hf15 (rmX8_doAct hr14) rfl dX8_acts_111 (Nat.le_of_ble_eq_true rfl) (Nat.le_of_ble_eq_true rfl) rfl (Nat.le_of_ble_eq_true rfl) (show cells + 4 ≤ 108 by omega) (show slots + 124 ≤ 2412 by omega) (fun v9 f9 n9 hh => ?_)
    obtain ⟨rfl, rfl, rfl⟩ := hh
    refine aw_istore C dX8_acts_114 (by decide) rfl ?_
    refine aw_nl [some (.ref v0), some (.int v1), some (.int s0), some (.int v3), some (.int v4), some (.int r14.1)] rfl ?_
    refine aw_iload C dX8_acts_116 rfl ?_
    refine aw_if_ne C 135 dX8_acts_118 (by decide) (fun q => ?_) (fun q => ?_)
    · rw [if_neg q] at h
      refine aw_ald_n C dX8_acts_135 rfl ?_
      refine aw_iload C dX8_acts_136 rfl ?_
      obtain ⟨f16, hf16, h⟩ := Option.bind_eq_some_iff.mp h
      refine ah_put C gf_X8_110 cf8 nf8_12 rfl rfl hf16 dX8_acts_138 ?_
      refine aw_iload C dX8_acts_141 rfl ?_
      refine aw_istore_n C dX8_acts_143 (by decide) rfl ?_
      refine aw_nl [some (.ref v0), some (.int v1), some (.int v4), some (.int v3), some (.int v4), some (.int r14.1)] rfl ?_
      refine aw_fl [some (.ref v0), some (.int v1), some (.int v4), some (.int v3), none, none] ⟨rfl, ⟨rfl, ⟨rfl, ⟨rfl, trivial⟩⟩⟩⟩ ?_
      exact rmX8_acts_b144 C hl0 htab Hr28 (by omega) (by omega) h
    · rw [if_pos q] at h
      refine aw_iinc C (v1 + (1 : Int32)) dX8_acts_121 rfl (by rw [ki_1]) (by decide) rfl ?_
      refine aw_nl [some (.ref v0), some (.int (v1 + (1 : Int32))), some (.int s0), some (.int v3), some (.int v4), some (.int r14.1)] rfl ?_
      refine aw_ald_n C dX8_acts_124 rfl ?_
      obtain ⟨x17, hx17, h⟩ := Option.bind_eq_some_iff.mp h
      refine ah_getR C gf_X8_55 hx17 dX8_acts_125 ?_
      obtain ⟨j18, hj18, h⟩ := Option.bind_eq_some_iff.mp h
      rw [hj18]
      obtain ⟨hb19, h⟩ := ck_some h
      obtain ⟨r20, hr20, h⟩ := Option.bind_eq_some_iff.mp h
      obtain ⟨fs21, hf21⟩ := isO_ex hb19
      refine aw_callV C (ci := 4) (b := j18) [] mv_X8_107 rfl rfl hf21 (rmX4_readBehindAct hr20) rfl dX8_acts_128 (Nat.le_of_ble_eq_true rfl) (Nat.le_of_ble_eq_true rfl) rfl (Nat.le_of_ble_eq_true rfl) (show (cells + 4) + 0 ≤ 108 by omega) (show (slots + 124) + 0 ≤ 2412 by omega) (fun v9 f9 n9 hh => ?_)
      obtain ⟨rfl, rfl, rfl⟩ := hh
      refine aw_istore_n C dX8_acts_131 (by decide) rfl ?_
      refine aw_nl [some (.ref v0), some (.int (v1 + (1 : Int32))), some (.int r20.1), some (.int v3), some (.int v4), some (.int r14.1)] rfl ?_
      refine aw_goto C 144 dX8_acts_132 (by decide) ?_
      refine aw_fl [some (.ref v0), some (.int (v1 + (1 : Int32))), some (.int r20.1), some (.int v3), none, none] ⟨rfl, ⟨rfl, ⟨rfl, ⟨rfl, trivial⟩⟩⟩⟩ ?_
      exact rmX8_acts_b144 C hl0 htab Hr28 (by omega) (by omega) h
def mX8_acts_l28 : Nat → Nat → Int32 → Int32 → Int32 → AH → Nat → Option ((Int32 ⊕ String) × HpN)
  | 0, _, _, _, _, _, _ => none
  | d + 1, v0, v1, v2, v3, f, n => (if (14 : Int32) < v3 then mX8_acts_b150 v0 v1 v2 f n else ((gR f v0 8 8).bind fun x1 => ((x1).bind fun j2 => ((gI f j2 4 0).bind fun x3 => (if x3 = (0 : Int32) then mX8_acts_b150 v0 v1 v2 f n else (if v2 = (-1 : Int32) then ((gR f v0 8 8).bind fun x4 => ((x4).bind fun j5 => ((gI f j5 4 1).bind fun x6 => (if (14 : Int32) ≤ v3 then mX8_acts_b76 (fun v0 v1 v2 v3 f n => mX8_acts_l28 d v0 v1 v2 v3 f n) v0 v1 v3 x6 x6 f n else ((gR f v0 8 8).bind fun x7 => ((x7).bind fun j8 => rCk (isO f j8 4) (((mX4_readAct j8 f n).bind fun r10 => mX8_acts_b76 (fun v0 v1 v2 v3 f n => mX8_acts_l28 d v0 v1 v2 v3 f n) v0 v1 v3 x6 r10.1 r10.2.1 r10.2.2)))))))) else mX8_acts_b150 v0 v1 v2 f n))))))
set_option maxHeartbeats 1000000 in
theorem rmX8_acts_l28 {X : GX} {p : Program} {l : Launch} {e : Env} {s : State} {m : MethodId} {args : Array Value} {below : List Frame} {meth : Method} {c : Code} {r : (Int32 ⊕ String) × HpN} (C : CC X p l (RM 7 108 2412) s m args meth c RX8 cX8_acts 6 (some .int)) (hl0 : l.stackTraces = false) (htab : ∀ x ∈ c.exceptionTable.toList, False) : ∀ (d : Nat) (v0 : Nat) (v1 : Int32) (v2 : Int32) (v3 : Int32) (f : AH) (n cells slots : Nat) (_ : cells + (6 + d * 6) ≤ 108) (_ : slots + (134 + d * 134) ≤ 2412) (_ : mX8_acts_l28 d v0 v1 v2 v3 f n = some r), AW X p l e (RM 7 108 2412) s m args below meth c 6 (ZX X below args s 108 2412 (QTr (QHi) r) (QTx r)) f n cells slots 28 [some (.ref v0), some (.int v1), some (.int v2), some (.int v3), none, none] [] := by
  intro d
  induction d with
  | zero =>
    intro v0 v1 v2 v3 f n cells slots hc hs h
    exact nomatch (show (none : Option ((Int32 ⊕ String) × HpN)) = some r from h)
  | succ d ih =>
    intro v0 v1 v2 v3 f n cells slots hc hs h
    have h : (if (14 : Int32) < v3 then mX8_acts_b150 v0 v1 v2 f n else ((gR f v0 8 8).bind fun x1 => ((x1).bind fun j2 => ((gI f j2 4 0).bind fun x3 => (if x3 = (0 : Int32) then mX8_acts_b150 v0 v1 v2 f n else (if v2 = (-1 : Int32) then ((gR f v0 8 8).bind fun x4 => ((x4).bind fun j5 => ((gI f j5 4 1).bind fun x6 => (if (14 : Int32) ≤ v3 then mX8_acts_b76 (fun v0 v1 v2 v3 f n => mX8_acts_l28 d v0 v1 v2 v3 f n) v0 v1 v3 x6 x6 f n else ((gR f v0 8 8).bind fun x7 => ((x7).bind fun j8 => rCk (isO f j8 4) (((mX4_readAct j8 f n).bind fun r10 => mX8_acts_b76 (fun v0 v1 v2 v3 f n => mX8_acts_l28 d v0 v1 v2 v3 f n) v0 v1 v3 x6 r10.1 r10.2.1 r10.2.2)))))))) else mX8_acts_b150 v0 v1 v2 f n)))))) = some r := h
    refine aw_iload_n C dX8_acts_28 rfl ?_
    refine aw_bipush C 14 dX8_acts_29 kb_14 ?_
    refine aw_icmp_gt C 150 dX8_acts_31 (by decide) (fun q => ?_) (fun q => ?_)
    · rw [if_pos q] at h
      refine aw_fl [some (.ref v0), some (.int v1), some (.int v2), none, none, none] ⟨rfl, ⟨rfl, ⟨rfl, trivial⟩⟩⟩ ?_
      exact rmX8_acts_b150 C hl0 htab (by omega) (by omega) h
    · rw [if_neg q] at h
      refine aw_ald_n C dX8_acts_34 rfl ?_
      obtain ⟨x1, hx1, h⟩ := Option.bind_eq_some_iff.mp h
      refine ah_getR C gf_X8_55 hx1 dX8_acts_35 ?_
      obtain ⟨j2, hj2, h⟩ := Option.bind_eq_some_iff.mp h
      rw [hj2]
      obtain ⟨x3, hx3, h⟩ := Option.bind_eq_some_iff.mp h
      refine ah_getI C gf_X8_81 hx3 dX8_acts_38 ?_
      refine aw_if_eq C 150 dX8_acts_41 (by decide) (fun q => ?_) (fun q => ?_)
      · rw [if_pos q] at h
        refine aw_fl [some (.ref v0), some (.int v1), some (.int v2), none, none, none] ⟨rfl, ⟨rfl, ⟨rfl, trivial⟩⟩⟩ ?_
        exact rmX8_acts_b150 C hl0 htab (by omega) (by omega) h
      · rw [if_neg q] at h
        refine aw_iload_n C dX8_acts_44 rfl ?_
        refine aw_iconst C (-1) dX8_acts_45 ki_m1 ?_
        refine aw_icmp_ne C 150 dX8_acts_46 (by decide) (fun q => ?_) (fun q => ?_)
        · rw [if_neg q] at h
          refine aw_fl [some (.ref v0), some (.int v1), some (.int v2), none, none, none] ⟨rfl, ⟨rfl, ⟨rfl, trivial⟩⟩⟩ ?_
          exact rmX8_acts_b150 C hl0 htab (by omega) (by omega) h
        · rw [if_pos q] at h
          refine aw_ald_n C dX8_acts_49 rfl ?_
          obtain ⟨x4, hx4, h⟩ := Option.bind_eq_some_iff.mp h
          refine ah_getR C gf_X8_55 hx4 dX8_acts_50 ?_
          obtain ⟨j5, hj5, h⟩ := Option.bind_eq_some_iff.mp h
          rw [hj5]
          obtain ⟨x6, hx6, h⟩ := Option.bind_eq_some_iff.mp h
          refine ah_getI C gf_X8_85 hx6 dX8_acts_53 ?_
          refine aw_istore C dX8_acts_56 (by decide) rfl ?_
          refine aw_nl [some (.ref v0), some (.int v1), some (.int v2), some (.int v3), some (.int x6), none] rfl ?_
          refine aw_iload_n C dX8_acts_58 rfl ?_
          refine aw_bipush C 14 dX8_acts_59 kb_14 ?_
          refine aw_icmp_ge C 74 dX8_acts_61 (by decide) (fun q => ?_) (fun q => ?_)
          · rw [if_pos q] at h
            refine aw_iload C dX8_acts_74 rfl ?_
            refine aw_fl [some (.ref v0), some (.int v1), none, some (.int v3), some (.int x6), none] ⟨rfl, ⟨rfl, ⟨rfl, ⟨rfl, trivial⟩⟩⟩⟩ ?_
            exact rmX8_acts_b76 C hl0 htab (fun v0 v1 v2 v3 f n cells slots hc hs h => ih v0 v1 v2 v3 f n cells slots hc hs h) (by omega) (by omega) h
          · rw [if_neg q] at h
            refine aw_ald_n C dX8_acts_64 rfl ?_
            obtain ⟨x7, hx7, h⟩ := Option.bind_eq_some_iff.mp h
            refine ah_getR C gf_X8_55 hx7 dX8_acts_65 ?_
            obtain ⟨j8, hj8, h⟩ := Option.bind_eq_some_iff.mp h
            rw [hj8]
            obtain ⟨hb9, h⟩ := ck_some h
            obtain ⟨r10, hr10, h⟩ := Option.bind_eq_some_iff.mp h
            obtain ⟨fs11, hf11⟩ := isO_ex hb9
            refine aw_callV C (ci := 4) (b := j8) [] mv_X8_88 rfl rfl hf11 (rmX4_readAct hr10) rfl dX8_acts_68 (Nat.le_of_ble_eq_true rfl) (Nat.le_of_ble_eq_true rfl) rfl (Nat.le_of_ble_eq_true rfl) (show cells + 2 ≤ 108 by omega) (show slots + 10 ≤ 2412 by omega) (fun v9 f9 n9 hh => ?_)
            obtain ⟨rfl, rfl, rfl⟩ := hh
            refine aw_goto C 76 dX8_acts_71 (by decide) ?_
            refine aw_fl [some (.ref v0), some (.int v1), none, some (.int v3), some (.int x6), none] ⟨rfl, ⟨rfl, ⟨rfl, ⟨rfl, trivial⟩⟩⟩⟩ ?_
            exact rmX8_acts_b76 C hl0 htab (fun v0 v1 v2 v3 f n cells slots hc hs h => ih v0 v1 v2 v3 f n cells slots hc hs h) (by omega) (by omega) h
def mX8_acts (v0 : Nat) (f : AH) (n : Nat) : Option ((Int32 ⊕ String) × HpN) := ((gR f v0 8 2).bind fun x1 => ((gR f v0 8 1).bind fun x2 => ((x1).bind fun j3 => rCk (isO f j3 7) (((mX7_copyFrom j3 x2 f n).bind fun r5 => ((gR r5.2.1 v0 8 8).bind fun x7 => ((gR r5.2.1 v0 8 0).bind fun x8 => ((x7).bind fun j9 => rCk (isO r5.2.1 j9 4) (((mX4_start j9 x8 r5.2.1 r5.2.2).bind fun r11 => mX8_acts_l28 17 v0 (0 : Int32) (-1 : Int32) (0 : Int32) r11.2.1 r11.2.2))))))))))
set_option maxHeartbeats 1000000 in
theorem rmX8_acts {X : GX} {l : Launch} {r : (Int32 ⊕ String) × HpN} {v0 : Nat} {f : AH} {n : Nat} (hl0 : l.stackTraces = false) (h : mX8_acts v0 f n = some r) : AX X l yX8_acts cX8_acts 6 (some .int) 7 108 2412 [.ref v0] f n (QTr (QHi) r) (QTx r) := by
  have h : ((gR f v0 8 2).bind fun x1 => ((gR f v0 8 1).bind fun x2 => ((x1).bind fun j3 => rCk (isO f j3 7) (((mX7_copyFrom j3 x2 f n).bind fun r5 => ((gR r5.2.1 v0 8 8).bind fun x7 => ((gR r5.2.1 v0 8 0).bind fun x8 => ((x7).bind fun j9 => rCk (isO r5.2.1 j9 4) (((mX4_start j9 x8 r5.2.1 r5.2.2).bind fun r11 => mX8_acts_l28 17 v0 (0 : Int32) (-1 : Int32) (0 : Int32) r11.2.1 r11.2.2)))))))))) = some r := h
  refine AX.of (by decide +kernel) rfl (Nat.le_of_ble_eq_true rfl) (fun p e s m args below meth c C htab => ?_)
  refine aw_nl [some (.ref v0), none, none, none, none, none] rfl ?_
  refine aw_ald_n C dX8_acts_0 rfl ?_
  obtain ⟨x1, hx1, h⟩ := Option.bind_eq_some_iff.mp h
  refine ah_getR C gf_X8_25 hx1 dX8_acts_1 ?_
  refine aw_ald_n C dX8_acts_4 rfl ?_
  obtain ⟨x2, hx2, h⟩ := Option.bind_eq_some_iff.mp h
  refine ah_getR C gf_X8_21 hx2 dX8_acts_5 ?_
  obtain ⟨j3, hj3, h⟩ := Option.bind_eq_some_iff.mp h
  rw [hj3]
  obtain ⟨hb4, h⟩ := ck_some h
  obtain ⟨r5, hr5, h⟩ := Option.bind_eq_some_iff.mp h
  obtain ⟨fs6, hf6⟩ := isO_ex hb4
  refine aw_callV C (ci := 7) (b := j3) [va_rf x2] mv_X8_73 rfl rfl hf6 (rmX7_copyFrom hr5) rfl dX8_acts_8 (Nat.le_of_ble_eq_true rfl) (Nat.le_of_ble_eq_true rfl) rfl (Nat.le_of_ble_eq_true rfl) (show 0 + 0 ≤ 108 by omega) (show 0 + 0 ≤ 2412 by omega) (fun v9 f9 n9 hh => ?_)
  obtain ⟨rfl, rfl, rfl⟩ := hh
  refine aw_ald_n C dX8_acts_11 rfl ?_
  obtain ⟨x7, hx7, h⟩ := Option.bind_eq_some_iff.mp h
  refine ah_getR C gf_X8_55 hx7 dX8_acts_12 ?_
  refine aw_ald_n C dX8_acts_15 rfl ?_
  obtain ⟨x8, hx8, h⟩ := Option.bind_eq_some_iff.mp h
  refine ah_getR C gf_X8_14 hx8 dX8_acts_16 ?_
  obtain ⟨j9, hj9, h⟩ := Option.bind_eq_some_iff.mp h
  rw [hj9]
  obtain ⟨hb10, h⟩ := ck_some h
  obtain ⟨r11, hr11, h⟩ := Option.bind_eq_some_iff.mp h
  obtain ⟨fs12, hf12⟩ := isO_ex hb10
  refine aw_callV C (ci := 4) (b := j9) [va_rf x8] mv_X8_77 rfl rfl hf12 (rmX4_start hr11) rfl dX8_acts_19 (Nat.le_of_ble_eq_true rfl) (Nat.le_of_ble_eq_true rfl) rfl (Nat.le_of_ble_eq_true rfl) (show (0 + 0) + 0 ≤ 108 by omega) (show (0 + 0) + 0 ≤ 2412 by omega) (fun v9 f9 n9 hh => ?_)
  obtain ⟨rfl, rfl, rfl⟩ := hh
  refine aw_iconst C 0 dX8_acts_22 ki_0 ?_
  refine aw_istore_n C dX8_acts_23 (by decide) rfl ?_
  refine aw_nl [some (.ref v0), some (.int (0 : Int32)), none, none, none, none] rfl ?_
  refine aw_iconst C (-1) dX8_acts_24 ki_m1 ?_
  refine aw_istore_n C dX8_acts_25 (by decide) rfl ?_
  refine aw_nl [some (.ref v0), some (.int (0 : Int32)), some (.int (-1 : Int32)), none, none, none] rfl ?_
  refine aw_iconst C 0 dX8_acts_26 ki_0 ?_
  refine aw_istore_n C dX8_acts_27 (by decide) rfl ?_
  refine aw_nl [some (.ref v0), some (.int (0 : Int32)), some (.int (-1 : Int32)), some (.int (0 : Int32)), none, none] rfl ?_
  refine aw_fl [some (.ref v0), some (.int (0 : Int32)), some (.int (-1 : Int32)), some (.int (0 : Int32)), none, none] ⟨rfl, ⟨rfl, ⟨rfl, ⟨rfl, trivial⟩⟩⟩⟩ ?_
  exact rmX8_acts_l28 C hl0 htab 17 v0 (0 : Int32) (-1 : Int32) (0 : Int32) r11.2.1 r11.2.2 _ _ (by omega) (by omega) h
def mX8_kind_b50 (v0 : Nat) (v1 : Int32) (s0 : Nat) (s1 : Nat) (s2 : Int32) (f : AH) (n : Nat) : Option ((Int32 ⊕ String) × HpN) := rCk (isO f s1 8) (((mX8_doAct s1 s2 v1 (0 : Int32) (none : Option Nat) f n).bind fun r2 => rCk (isO r2.2.1 s0 8) (((mX8_finishCall s0 r2.1 r2.2.1 r2.2.2).bind fun r5 => (tS r5.1 r5.2 (fun y5 => ((gR r5.2.1 v0 8 5).bind fun x7 => ((x7).bind fun j8 => rCk (isO r5.2.1 j8 1) (((mX1_size j8 r5.2.1 r5.2.2).bind fun r10 => some (.inl r10.1, (r10.2.1, r10.2.2))))))))))))
set_option maxHeartbeats 1000000 in
theorem rmX8_kind_b50 {X : GX} {p : Program} {l : Launch} {e : Env} {s : State} {m : MethodId} {args : Array Value} {below : List Frame} {meth : Method} {c : Code} {r : (Int32 ⊕ String) × HpN} {v0 : Nat} {v1 : Int32} {s0 : Nat} {s1 : Nat} {s2 : Int32} {f : AH} {n cells slots : Nat} (C : CC X p l (RM 7 5 130) s m args meth c RX8 cX8_kind 3 (some .int)) (hl0 : l.stackTraces = false) (htab : ∀ x ∈ c.exceptionTable.toList, False) (hc : cells + 5 ≤ 5) (hs : slots + 130 ≤ 130) (h : mX8_kind_b50 v0 v1 s0 s1 s2 f n = some r) : AW X p l e (RM 7 5 130) s m args below meth c 3 (ZX X below args s 5 130 (QTr (QHi) r) (QTx r)) f n cells slots 50 [some (.ref v0), some (.int v1), none] [.int s2, .ref s1, .ref s0] := by
  have h : rCk (isO f s1 8) (((mX8_doAct s1 s2 v1 (0 : Int32) (none : Option Nat) f n).bind fun r2 => rCk (isO r2.2.1 s0 8) (((mX8_finishCall s0 r2.1 r2.2.1 r2.2.2).bind fun r5 => (tS r5.1 r5.2 (fun y5 => ((gR r5.2.1 v0 8 5).bind fun x7 => ((x7).bind fun j8 => rCk (isO r5.2.1 j8 1) (((mX1_size j8 r5.2.1 r5.2.2).bind fun r10 => some (.inl r10.1, (r10.2.1, r10.2.2)))))))))))) = some r := h
  refine aw_iload_n C dX8_kind_50 rfl ?_
  refine aw_iconst C 0 dX8_kind_51 ki_0 ?_
  refine aw_null C dX8_kind_52 ?_
  obtain ⟨hb1, h⟩ := ck_some h
  obtain ⟨r2, hr2, h⟩ := Option.bind_eq_some_iff.mp h
  obtain ⟨fs3, hf3⟩ := isO_ex hb1
  refine aw_callV C (ci := 8) (b := s1) [.int s2, .int v1, .int (0 : Int32), .null] mv_X8_103 rfl rfl hf3 (rmX8_doAct hr2) rfl dX8_kind_53 (Nat.le_of_ble_eq_true rfl) (Nat.le_of_ble_eq_true rfl) rfl (Nat.le_of_ble_eq_true rfl) (show cells + 4 ≤ 5 by omega) (show slots + 124 ≤ 130 by omega) (fun v9 f9 n9 hh => ?_)
  obtain ⟨rfl, rfl, rfl⟩ := hh
  obtain ⟨hb4, h⟩ := ck_some h
  obtain ⟨r5, hr5, h⟩ := Option.bind_eq_some_iff.mp h
  obtain ⟨fs6, hf6⟩ := isO_ex hb4
  refine ax_callV C (ci := 8) (b := s0) [.int r2.1] mv_X8_139 rfl rfl hf6 (rmX8_finishCall hl0 hr5) rfl dX8_kind_56 (Nat.le_of_ble_eq_true rfl) (Nat.le_of_ble_eq_true rfl) rfl (Nat.le_of_ble_eq_true rfl) (show (cells + 4) + 1 ≤ 5 by omega) (show (slots + 124) + 6 ≤ 130 by omega) (fun E9 f9 n9 hq => ?_) (fun v9 f9 n9 hq => ?_)
  · obtain ⟨e1, e2, e3⟩ := hq
    rw [tS_r e1] at h
    cases h
    exact at_out C htab ⟨rfl, e2, e3⟩ (by omega) (by omega)
  obtain ⟨y5, e5, rfl, rfl, rfl⟩ := hq
  rw [tS_l e5] at h
  replace h : ((gR r5.2.1 v0 8 5).bind fun x7 => ((x7).bind fun j8 => rCk (isO r5.2.1 j8 1) (((mX1_size j8 r5.2.1 r5.2.2).bind fun r10 => some (.inl r10.1, (r10.2.1, r10.2.2)))))) = some r := h
  refine aw_ald_n C dX8_kind_59 rfl ?_
  obtain ⟨x7, hx7, h⟩ := Option.bind_eq_some_iff.mp h
  refine ah_getR C gf_X8_38 hx7 dX8_kind_60 ?_
  obtain ⟨j8, hj8, h⟩ := Option.bind_eq_some_iff.mp h
  rw [hj8]
  obtain ⟨hb9, h⟩ := ck_some h
  obtain ⟨r10, hr10, h⟩ := Option.bind_eq_some_iff.mp h
  obtain ⟨fs11, hf11⟩ := isO_ex hb9
  refine aw_callV C (ci := 1) (b := j8) [] mv_X8_136 rfl rfl hf11 (rmX1_size hr10) rfl dX8_kind_63 (Nat.le_of_ble_eq_true rfl) (Nat.le_of_ble_eq_true rfl) rfl (Nat.le_of_ble_eq_true rfl) (show ((cells + 4) + 1) + 0 ≤ 5 by omega) (show ((slots + 124) + 6) + 0 ≤ 130 by omega) (fun v9 f9 n9 hh => ?_)
  obtain ⟨rfl, rfl, rfl⟩ := hh
  cases h
  exact ax_of (aw_iret C rfl rfl dX8_kind_66 (by omega) (by omega) ⟨_, rfl, rfl, rfl, rfl⟩)
def mX8_kind_b18 (f : AH) (n : Nat) : Option ((Int32 ⊕ String) × HpN) := some (.inr eA, (f, n))
set_option maxHeartbeats 1000000 in
theorem rmX8_kind_b18 {X : GX} {p : Program} {l : Launch} {e : Env} {s : State} {m : MethodId} {args : Array Value} {below : List Frame} {meth : Method} {c : Code} {r : (Int32 ⊕ String) × HpN} {f : AH} {n cells slots : Nat} (C : CC X p l (RM 7 5 130) s m args meth c RX8 cX8_kind 3 (some .int)) (hl0 : l.stackTraces = false) (htab : ∀ x ∈ c.exceptionTable.toList, False) (hc : cells + 1 ≤ 5) (hs : slots + 6 ≤ 130) (h : mX8_kind_b18 f n = some r) : AW X p l e (RM 7 5 130) s m args below meth c 3 (ZX X below args s 5 130 (QTr (QHi) r) (QTx r)) f n cells slots 18 [none, none, none] [] := by
  have h : some (.inr eA, (f, n)) = some r := h
  cases h
  exact ax_throw C htab hl0 th_eA sx_137 dX8_kind_18 dX8_kind_21 dX8_kind_22 dX8_kind_24 dX8_kind_27 (Nat.le_of_ble_eq_true rfl) (Nat.le_of_ble_eq_true rfl) (show cells + 1 ≤ 5 by omega) (show slots + 6 ≤ 130 by omega) (by omega) (by omega) (fun n9 h9 => ⟨rfl, rfl, h9⟩)
def mX8_kind_b15 (v0 : Nat) (v1 : Int32) (v2 : Int32) (s0 : Int32) (s1 : Int32) (f : AH) (n : Nat) : Option ((Int32 ⊕ String) × HpN) := (if s1 ≤ s0 then ((gR f v0 8 2).bind fun x1 => ((gR f v0 8 1).bind fun x2 => ((x1).bind fun j3 => rCk (isO f j3 7) (((mX7_copyFrom j3 x2 f n).bind fun r5 => (if v2 = (0 : Int32) then mX8_kind_b50 v0 v1 v0 v0 (0 : Int32) r5.2.1 r5.2.2 else mX8_kind_b50 v0 v1 v0 v0 (1 : Int32) r5.2.1 r5.2.2)))))) else mX8_kind_b18 f n)
set_option maxHeartbeats 1000000 in
theorem rmX8_kind_b15 {X : GX} {p : Program} {l : Launch} {e : Env} {s : State} {m : MethodId} {args : Array Value} {below : List Frame} {meth : Method} {c : Code} {r : (Int32 ⊕ String) × HpN} {v0 : Nat} {v1 : Int32} {v2 : Int32} {s0 : Int32} {s1 : Int32} {f : AH} {n cells slots : Nat} (C : CC X p l (RM 7 5 130) s m args meth c RX8 cX8_kind 3 (some .int)) (hl0 : l.stackTraces = false) (htab : ∀ x ∈ c.exceptionTable.toList, False) (hc : cells + 5 ≤ 5) (hs : slots + 130 ≤ 130) (h : mX8_kind_b15 v0 v1 v2 s0 s1 f n = some r) : AW X p l e (RM 7 5 130) s m args below meth c 3 (ZX X below args s 5 130 (QTr (QHi) r) (QTx r)) f n cells slots 15 [some (.ref v0), some (.int v1), some (.int v2)] [.int s1, .int s0] := by
  have h : (if s1 ≤ s0 then ((gR f v0 8 2).bind fun x1 => ((gR f v0 8 1).bind fun x2 => ((x1).bind fun j3 => rCk (isO f j3 7) (((mX7_copyFrom j3 x2 f n).bind fun r5 => (if v2 = (0 : Int32) then mX8_kind_b50 v0 v1 v0 v0 (0 : Int32) r5.2.1 r5.2.2 else mX8_kind_b50 v0 v1 v0 v0 (1 : Int32) r5.2.1 r5.2.2)))))) else mX8_kind_b18 f n) = some r := h
  refine aw_icmp_ge C 28 dX8_kind_15 (by decide) (fun q => ?_) (fun q => ?_)
  · rw [if_pos q] at h
    refine aw_ald_n C dX8_kind_28 rfl ?_
    obtain ⟨x1, hx1, h⟩ := Option.bind_eq_some_iff.mp h
    refine ah_getR C gf_X8_25 hx1 dX8_kind_29 ?_
    refine aw_ald_n C dX8_kind_32 rfl ?_
    obtain ⟨x2, hx2, h⟩ := Option.bind_eq_some_iff.mp h
    refine ah_getR C gf_X8_21 hx2 dX8_kind_33 ?_
    obtain ⟨j3, hj3, h⟩ := Option.bind_eq_some_iff.mp h
    rw [hj3]
    obtain ⟨hb4, h⟩ := ck_some h
    obtain ⟨r5, hr5, h⟩ := Option.bind_eq_some_iff.mp h
    obtain ⟨fs6, hf6⟩ := isO_ex hb4
    refine aw_callV C (ci := 7) (b := j3) [va_rf x2] mv_X8_73 rfl rfl hf6 (rmX7_copyFrom hr5) rfl dX8_kind_36 (Nat.le_of_ble_eq_true rfl) (Nat.le_of_ble_eq_true rfl) rfl (Nat.le_of_ble_eq_true rfl) (show cells + 0 ≤ 5 by omega) (show slots + 0 ≤ 130 by omega) (fun v9 f9 n9 hh => ?_)
    obtain ⟨rfl, rfl, rfl⟩ := hh
    refine aw_ald_n C dX8_kind_39 rfl ?_
    refine aw_ald_n C dX8_kind_40 rfl ?_
    refine aw_iload_n C dX8_kind_41 rfl ?_
    refine aw_if_eq C 49 dX8_kind_42 (by decide) (fun q => ?_) (fun q => ?_)
    · rw [if_pos q] at h
      refine aw_iconst C 0 dX8_kind_49 ki_0 ?_
      refine aw_fl [some (.ref v0), some (.int v1), none] ⟨rfl, ⟨rfl, trivial⟩⟩ ?_
      exact rmX8_kind_b50 C hl0 htab (by omega) (by omega) h
    · rw [if_neg q] at h
      refine aw_iconst C 1 dX8_kind_45 ki_1 ?_
      refine aw_goto C 50 dX8_kind_46 (by decide) ?_
      refine aw_fl [some (.ref v0), some (.int v1), none] ⟨rfl, ⟨rfl, trivial⟩⟩ ?_
      exact rmX8_kind_b50 C hl0 htab (by omega) (by omega) h
  · rw [if_neg q] at h
    refine aw_fl [none, none, none] trivial ?_
    exact rmX8_kind_b18 C hl0 htab (by omega) (by omega) h
def mX8_kind (v0 : Nat) (v1 : Int32) (v2 : Int32) (f : AH) (n : Nat) : Option ((Int32 ⊕ String) × HpN) := (if (3 : Int32) < v1 then mX8_kind_b18 f n else (if v2 = (0 : Int32) then mX8_kind_b15 v0 v1 v2 v1 (0 : Int32) f n else mX8_kind_b15 v0 v1 v2 v1 (-1 : Int32) f n))
set_option maxHeartbeats 1000000 in
theorem rmX8_kind {X : GX} {l : Launch} {r : (Int32 ⊕ String) × HpN} {v0 : Nat} {v1 : Int32} {v2 : Int32} {f : AH} {n : Nat} (hl0 : l.stackTraces = false) (h : mX8_kind v0 v1 v2 f n = some r) : AX X l yX8_kind cX8_kind 3 (some .int) 7 5 130 [.ref v0, .int v1, .int v2] f n (QTr (QHi) r) (QTx r) := by
  have h : (if (3 : Int32) < v1 then mX8_kind_b18 f n else (if v2 = (0 : Int32) then mX8_kind_b15 v0 v1 v2 v1 (0 : Int32) f n else mX8_kind_b15 v0 v1 v2 v1 (-1 : Int32) f n)) = some r := h
  refine AX.of (by decide +kernel) rfl (Nat.le_of_ble_eq_true rfl) (fun p e s m args below meth c C htab => ?_)
  refine aw_nl [some (.ref v0), some (.int v1), some (.int v2)] rfl ?_
  refine aw_iload_n C dX8_kind_0 rfl ?_
  refine aw_iconst C 3 dX8_kind_1 ki_3 ?_
  refine aw_icmp_gt C 18 dX8_kind_2 (by decide) (fun q => ?_) (fun q => ?_)
  · rw [if_pos q] at h
    refine aw_fl [none, none, none] trivial ?_
    exact rmX8_kind_b18 C hl0 htab (by omega) (by omega) h
  · rw [if_neg q] at h
    refine aw_iload_n C dX8_kind_5 rfl ?_
    refine aw_iload_n C dX8_kind_6 rfl ?_
    refine aw_if_eq C 14 dX8_kind_7 (by decide) (fun q => ?_) (fun q => ?_)
    · rw [if_pos q] at h
      refine aw_iconst C 0 dX8_kind_14 ki_0 ?_
      refine aw_fl [some (.ref v0), some (.int v1), some (.int v2)] ⟨rfl, ⟨rfl, ⟨rfl, trivial⟩⟩⟩ ?_
      exact rmX8_kind_b15 C hl0 htab (by omega) (by omega) h
    · rw [if_neg q] at h
      refine aw_iconst C (-1) dX8_kind_10 ki_m1 ?_
      refine aw_goto C 15 dX8_kind_11 (by decide) ?_
      refine aw_fl [some (.ref v0), some (.int v1), some (.int v2)] ⟨rfl, ⟨rfl, ⟨rfl, trivial⟩⟩⟩ ?_
      exact rmX8_kind_b15 C hl0 htab (by omega) (by omega) h
def mX8_rule_b107 (v0 : Nat) (f : AH) (n : Nat) : Option ((Int32 ⊕ String) × HpN) := ((gR f v0 8 5).bind fun x1 => ((x1).bind fun j2 => rCk (isO f j2 1) (((mX1_size j2 f n).bind fun r4 => some (.inl r4.1, (r4.2.1, r4.2.2))))))
set_option maxHeartbeats 1000000 in
theorem rmX8_rule_b107 {X : GX} {p : Program} {l : Launch} {e : Env} {s : State} {m : MethodId} {args : Array Value} {below : List Frame} {meth : Method} {c : Code} {r : (Int32 ⊕ String) × HpN} {v0 : Nat} {f : AH} {n cells slots : Nat} (C : CC X p l (RM 7 5 130) s m args meth c RX8 cX8_rule 3 (some .int)) (hl0 : l.stackTraces = false) (htab : ∀ x ∈ c.exceptionTable.toList, False) (hc : cells + 0 ≤ 5) (hs : slots + 0 ≤ 130) (h : mX8_rule_b107 v0 f n = some r) : AW X p l e (RM 7 5 130) s m args below meth c 3 (ZX X below args s 5 130 (QTr (QHi) r) (QTx r)) f n cells slots 107 [some (.ref v0), none, none] [] := by
  have h : ((gR f v0 8 5).bind fun x1 => ((x1).bind fun j2 => rCk (isO f j2 1) (((mX1_size j2 f n).bind fun r4 => some (.inl r4.1, (r4.2.1, r4.2.2)))))) = some r := h
  refine aw_ald_n C dX8_rule_107 rfl ?_
  obtain ⟨x1, hx1, h⟩ := Option.bind_eq_some_iff.mp h
  refine ah_getR C gf_X8_38 hx1 dX8_rule_108 ?_
  obtain ⟨j2, hj2, h⟩ := Option.bind_eq_some_iff.mp h
  rw [hj2]
  obtain ⟨hb3, h⟩ := ck_some h
  obtain ⟨r4, hr4, h⟩ := Option.bind_eq_some_iff.mp h
  obtain ⟨fs5, hf5⟩ := isO_ex hb3
  refine aw_callV C (ci := 1) (b := j2) [] mv_X8_136 rfl rfl hf5 (rmX1_size hr4) rfl dX8_rule_111 (Nat.le_of_ble_eq_true rfl) (Nat.le_of_ble_eq_true rfl) rfl (Nat.le_of_ble_eq_true rfl) (show cells + 0 ≤ 5 by omega) (show slots + 0 ≤ 130 by omega) (fun v9 f9 n9 hh => ?_)
  obtain ⟨rfl, rfl, rfl⟩ := hh
  cases h
  exact ax_of (aw_iret C rfl rfl dX8_rule_114 (by omega) (by omega) ⟨_, rfl, rfl, rfl, rfl⟩)
def mX8_rule_b83 (v0 : Nat) (s0 : Nat) (s1 : Nat) (s2 : Int32) (f : AH) (n : Nat) : Option ((Int32 ⊕ String) × HpN) := rCk (isO f s1 8) (((mX8_doAct s1 s2 (0 : Int32) (0 : Int32) (none : Option Nat) f n).bind fun r2 => rCk (isO r2.2.1 s0 8) (((mX8_finishCall s0 r2.1 r2.2.1 r2.2.2).bind fun r5 => (tS r5.1 r5.2 (fun y5 => mX8_rule_b107 v0 r5.2.1 r5.2.2))))))
set_option maxHeartbeats 1000000 in
theorem rmX8_rule_b83 {X : GX} {p : Program} {l : Launch} {e : Env} {s : State} {m : MethodId} {args : Array Value} {below : List Frame} {meth : Method} {c : Code} {r : (Int32 ⊕ String) × HpN} {v0 : Nat} {s0 : Nat} {s1 : Nat} {s2 : Int32} {f : AH} {n cells slots : Nat} (C : CC X p l (RM 7 5 130) s m args meth c RX8 cX8_rule 3 (some .int)) (hl0 : l.stackTraces = false) (htab : ∀ x ∈ c.exceptionTable.toList, False) (hc : cells + 5 ≤ 5) (hs : slots + 130 ≤ 130) (h : mX8_rule_b83 v0 s0 s1 s2 f n = some r) : AW X p l e (RM 7 5 130) s m args below meth c 3 (ZX X below args s 5 130 (QTr (QHi) r) (QTx r)) f n cells slots 83 [some (.ref v0), none, none] [.int s2, .ref s1, .ref s0] := by
  have h : rCk (isO f s1 8) (((mX8_doAct s1 s2 (0 : Int32) (0 : Int32) (none : Option Nat) f n).bind fun r2 => rCk (isO r2.2.1 s0 8) (((mX8_finishCall s0 r2.1 r2.2.1 r2.2.2).bind fun r5 => (tS r5.1 r5.2 (fun y5 => mX8_rule_b107 v0 r5.2.1 r5.2.2)))))) = some r := h
  refine aw_iconst C 0 dX8_rule_83 ki_0 ?_
  refine aw_iconst C 0 dX8_rule_84 ki_0 ?_
  refine aw_null C dX8_rule_85 ?_
  obtain ⟨hb1, h⟩ := ck_some h
  obtain ⟨r2, hr2, h⟩ := Option.bind_eq_some_iff.mp h
  obtain ⟨fs3, hf3⟩ := isO_ex hb1
  refine aw_callV C (ci := 8) (b := s1) [.int s2, .int (0 : Int32), .int (0 : Int32), .null] mv_X8_103 rfl rfl hf3 (rmX8_doAct hr2) rfl dX8_rule_86 (Nat.le_of_ble_eq_true rfl) (Nat.le_of_ble_eq_true rfl) rfl (Nat.le_of_ble_eq_true rfl) (show cells + 4 ≤ 5 by omega) (show slots + 124 ≤ 130 by omega) (fun v9 f9 n9 hh => ?_)
  obtain ⟨rfl, rfl, rfl⟩ := hh
  obtain ⟨hb4, h⟩ := ck_some h
  obtain ⟨r5, hr5, h⟩ := Option.bind_eq_some_iff.mp h
  obtain ⟨fs6, hf6⟩ := isO_ex hb4
  refine ax_callV C (ci := 8) (b := s0) [.int r2.1] mv_X8_139 rfl rfl hf6 (rmX8_finishCall hl0 hr5) rfl dX8_rule_89 (Nat.le_of_ble_eq_true rfl) (Nat.le_of_ble_eq_true rfl) rfl (Nat.le_of_ble_eq_true rfl) (show (cells + 4) + 1 ≤ 5 by omega) (show (slots + 124) + 6 ≤ 130 by omega) (fun E9 f9 n9 hq => ?_) (fun v9 f9 n9 hq => ?_)
  · obtain ⟨e1, e2, e3⟩ := hq
    rw [tS_r e1] at h
    cases h
    exact at_out C htab ⟨rfl, e2, e3⟩ (by omega) (by omega)
  obtain ⟨y5, e5, rfl, rfl, rfl⟩ := hq
  rw [tS_l e5] at h
  replace h : mX8_rule_b107 v0 r5.2.1 r5.2.2 = some r := h
  refine aw_goto C 107 dX8_rule_92 (by decide) ?_
  refine aw_fl [some (.ref v0), none, none] ⟨rfl, trivial⟩ ?_
  exact rmX8_rule_b107 C hl0 htab (by omega) (by omega) h
def mX8_rule_b56 (v0 : Nat) (v1 : Int32) (v2 : Int32) (f : AH) (n : Nat) : Option ((Int32 ⊕ String) × HpN) := ((gR f v0 8 2).bind fun x1 => ((gR f v0 8 1).bind fun x2 => ((x1).bind fun j3 => rCk (isO f j3 7) (((mX7_copyFrom j3 x2 f n).bind fun r5 => (if v1 = (0 : Int32) then (if v2 = (1 : Int32) then mX8_rule_b83 v0 v0 v0 (3 : Int32) r5.2.1 r5.2.2 else mX8_rule_b83 v0 v0 v0 (4 : Int32) r5.2.1 r5.2.2) else rCk (isO r5.2.1 v0 8) (((mX8_doAct v0 (5 : Int32) v2 (0 : Int32) (none : Option Nat) r5.2.1 r5.2.2).bind fun r8 => rCk (isO r8.2.1 v0 8) (((mX8_finishCall v0 r8.1 r8.2.1 r8.2.2).bind fun r11 => (tS r11.1 r11.2 (fun y11 => mX8_rule_b107 v0 r11.2.1 r11.2.2))))))))))))
set_option maxHeartbeats 1000000 in
theorem rmX8_rule_b56 {X : GX} {p : Program} {l : Launch} {e : Env} {s : State} {m : MethodId} {args : Array Value} {below : List Frame} {meth : Method} {c : Code} {r : (Int32 ⊕ String) × HpN} {v0 : Nat} {v1 : Int32} {v2 : Int32} {f : AH} {n cells slots : Nat} (C : CC X p l (RM 7 5 130) s m args meth c RX8 cX8_rule 3 (some .int)) (hl0 : l.stackTraces = false) (htab : ∀ x ∈ c.exceptionTable.toList, False) (hc : cells + 5 ≤ 5) (hs : slots + 130 ≤ 130) (h : mX8_rule_b56 v0 v1 v2 f n = some r) : AW X p l e (RM 7 5 130) s m args below meth c 3 (ZX X below args s 5 130 (QTr (QHi) r) (QTx r)) f n cells slots 56 [some (.ref v0), some (.int v1), some (.int v2)] [] := by
  have h : ((gR f v0 8 2).bind fun x1 => ((gR f v0 8 1).bind fun x2 => ((x1).bind fun j3 => rCk (isO f j3 7) (((mX7_copyFrom j3 x2 f n).bind fun r5 => (if v1 = (0 : Int32) then (if v2 = (1 : Int32) then mX8_rule_b83 v0 v0 v0 (3 : Int32) r5.2.1 r5.2.2 else mX8_rule_b83 v0 v0 v0 (4 : Int32) r5.2.1 r5.2.2) else rCk (isO r5.2.1 v0 8) (((mX8_doAct v0 (5 : Int32) v2 (0 : Int32) (none : Option Nat) r5.2.1 r5.2.2).bind fun r8 => rCk (isO r8.2.1 v0 8) (((mX8_finishCall v0 r8.1 r8.2.1 r8.2.2).bind fun r11 => (tS r11.1 r11.2 (fun y11 => mX8_rule_b107 v0 r11.2.1 r11.2.2)))))))))))) = some r := h
  refine aw_ald_n C dX8_rule_56 rfl ?_
  obtain ⟨x1, hx1, h⟩ := Option.bind_eq_some_iff.mp h
  refine ah_getR C gf_X8_25 hx1 dX8_rule_57 ?_
  refine aw_ald_n C dX8_rule_60 rfl ?_
  obtain ⟨x2, hx2, h⟩ := Option.bind_eq_some_iff.mp h
  refine ah_getR C gf_X8_21 hx2 dX8_rule_61 ?_
  obtain ⟨j3, hj3, h⟩ := Option.bind_eq_some_iff.mp h
  rw [hj3]
  obtain ⟨hb4, h⟩ := ck_some h
  obtain ⟨r5, hr5, h⟩ := Option.bind_eq_some_iff.mp h
  obtain ⟨fs6, hf6⟩ := isO_ex hb4
  refine aw_callV C (ci := 7) (b := j3) [va_rf x2] mv_X8_73 rfl rfl hf6 (rmX7_copyFrom hr5) rfl dX8_rule_64 (Nat.le_of_ble_eq_true rfl) (Nat.le_of_ble_eq_true rfl) rfl (Nat.le_of_ble_eq_true rfl) (show cells + 0 ≤ 5 by omega) (show slots + 0 ≤ 130 by omega) (fun v9 f9 n9 hh => ?_)
  obtain ⟨rfl, rfl, rfl⟩ := hh
  refine aw_iload_n C dX8_rule_67 rfl ?_
  refine aw_if_ne C 95 dX8_rule_68 (by decide) (fun q => ?_) (fun q => ?_)
  · rw [if_neg q] at h
    refine aw_ald_n C dX8_rule_95 rfl ?_
    refine aw_ald_n C dX8_rule_96 rfl ?_
    refine aw_iconst C 5 dX8_rule_97 ki_5 ?_
    refine aw_iload_n C dX8_rule_98 rfl ?_
    refine aw_iconst C 0 dX8_rule_99 ki_0 ?_
    refine aw_null C dX8_rule_100 ?_
    obtain ⟨hb7, h⟩ := ck_some h
    obtain ⟨r8, hr8, h⟩ := Option.bind_eq_some_iff.mp h
    obtain ⟨fs9, hf9⟩ := isO_ex hb7
    refine aw_callV C (ci := 8) (b := v0) [.int (5 : Int32), .int v2, .int (0 : Int32), .null] mv_X8_103 rfl rfl hf9 (rmX8_doAct hr8) rfl dX8_rule_101 (Nat.le_of_ble_eq_true rfl) (Nat.le_of_ble_eq_true rfl) rfl (Nat.le_of_ble_eq_true rfl) (show (cells + 0) + 4 ≤ 5 by omega) (show (slots + 0) + 124 ≤ 130 by omega) (fun v9 f9 n9 hh => ?_)
    obtain ⟨rfl, rfl, rfl⟩ := hh
    obtain ⟨hb10, h⟩ := ck_some h
    obtain ⟨r11, hr11, h⟩ := Option.bind_eq_some_iff.mp h
    obtain ⟨fs12, hf12⟩ := isO_ex hb10
    refine ax_callV C (ci := 8) (b := v0) [.int r8.1] mv_X8_139 rfl rfl hf12 (rmX8_finishCall hl0 hr11) rfl dX8_rule_104 (Nat.le_of_ble_eq_true rfl) (Nat.le_of_ble_eq_true rfl) rfl (Nat.le_of_ble_eq_true rfl) (show ((cells + 0) + 4) + 1 ≤ 5 by omega) (show ((slots + 0) + 124) + 6 ≤ 130 by omega) (fun E9 f9 n9 hq => ?_) (fun v9 f9 n9 hq => ?_)
    · obtain ⟨e1, e2, e3⟩ := hq
      rw [tS_r e1] at h
      cases h
      exact at_out C htab ⟨rfl, e2, e3⟩ (by omega) (by omega)
    obtain ⟨y11, e11, rfl, rfl, rfl⟩ := hq
    rw [tS_l e11] at h
    replace h : mX8_rule_b107 v0 r11.2.1 r11.2.2 = some r := h
    refine aw_fl [some (.ref v0), none, none] ⟨rfl, trivial⟩ ?_
    exact rmX8_rule_b107 C hl0 htab (by omega) (by omega) h
  · rw [if_pos q] at h
    refine aw_ald_n C dX8_rule_71 rfl ?_
    refine aw_ald_n C dX8_rule_72 rfl ?_
    refine aw_iload_n C dX8_rule_73 rfl ?_
    refine aw_iconst C 1 dX8_rule_74 ki_1 ?_
    refine aw_icmp_ne C 82 dX8_rule_75 (by decide) (fun q => ?_) (fun q => ?_)
    · rw [if_neg q] at h
      refine aw_iconst C 4 dX8_rule_82 ki_4 ?_
      refine aw_fl [some (.ref v0), none, none] ⟨rfl, trivial⟩ ?_
      exact rmX8_rule_b83 C hl0 htab (by omega) (by omega) h
    · rw [if_pos q] at h
      refine aw_iconst C 3 dX8_rule_78 ki_3 ?_
      refine aw_goto C 83 dX8_rule_79 (by decide) ?_
      refine aw_fl [some (.ref v0), none, none] ⟨rfl, trivial⟩ ?_
      exact rmX8_rule_b83 C hl0 htab (by omega) (by omega) h
def mX8_rule_b46 (f : AH) (n : Nat) : Option ((Int32 ⊕ String) × HpN) := some (.inr eA, (f, n))
set_option maxHeartbeats 1000000 in
theorem rmX8_rule_b46 {X : GX} {p : Program} {l : Launch} {e : Env} {s : State} {m : MethodId} {args : Array Value} {below : List Frame} {meth : Method} {c : Code} {r : (Int32 ⊕ String) × HpN} {f : AH} {n cells slots : Nat} (C : CC X p l (RM 7 5 130) s m args meth c RX8 cX8_rule 3 (some .int)) (hl0 : l.stackTraces = false) (htab : ∀ x ∈ c.exceptionTable.toList, False) (hc : cells + 1 ≤ 5) (hs : slots + 6 ≤ 130) (h : mX8_rule_b46 f n = some r) : AW X p l e (RM 7 5 130) s m args below meth c 3 (ZX X below args s 5 130 (QTr (QHi) r) (QTx r)) f n cells slots 46 [none, none, none] [] := by
  have h : some (.inr eA, (f, n)) = some r := h
  cases h
  exact ax_throw C htab hl0 th_eA sx_147 dX8_rule_46 dX8_rule_49 dX8_rule_50 dX8_rule_52 dX8_rule_55 (Nat.le_of_ble_eq_true rfl) (Nat.le_of_ble_eq_true rfl) (show cells + 1 ≤ 5 by omega) (show slots + 6 ≤ 130 by omega) (by omega) (by omega) (fun n9 h9 => ⟨rfl, rfl, h9⟩)
def mX8_rule_b19 (v0 : Nat) (v1 : Int32) (v2 : Int32) (f : AH) (n : Nat) : Option ((Int32 ⊕ String) × HpN) := (if v1 = (0 : Int32) then (if v2 < (0 : Int32) then mX8_rule_b46 f n else (if v2 ≤ (1 : Int32) then mX8_rule_b56 v0 v1 v2 f n else mX8_rule_b46 f n)) else (if v2 < (1 : Int32) then mX8_rule_b46 f n else (if v2 ≤ (40 : Int32) then mX8_rule_b56 v0 v1 v2 f n else mX8_rule_b46 f n)))
set_option maxHeartbeats 1000000 in
theorem rmX8_rule_b19 {X : GX} {p : Program} {l : Launch} {e : Env} {s : State} {m : MethodId} {args : Array Value} {below : List Frame} {meth : Method} {c : Code} {r : (Int32 ⊕ String) × HpN} {v0 : Nat} {v1 : Int32} {v2 : Int32} {f : AH} {n cells slots : Nat} (C : CC X p l (RM 7 5 130) s m args meth c RX8 cX8_rule 3 (some .int)) (hl0 : l.stackTraces = false) (htab : ∀ x ∈ c.exceptionTable.toList, False) (hc : cells + 5 ≤ 5) (hs : slots + 130 ≤ 130) (h : mX8_rule_b19 v0 v1 v2 f n = some r) : AW X p l e (RM 7 5 130) s m args below meth c 3 (ZX X below args s 5 130 (QTr (QHi) r) (QTx r)) f n cells slots 19 [some (.ref v0), some (.int v1), some (.int v2)] [] := by
  have h : (if v1 = (0 : Int32) then (if v2 < (0 : Int32) then mX8_rule_b46 f n else (if v2 ≤ (1 : Int32) then mX8_rule_b56 v0 v1 v2 f n else mX8_rule_b46 f n)) else (if v2 < (1 : Int32) then mX8_rule_b46 f n else (if v2 ≤ (40 : Int32) then mX8_rule_b56 v0 v1 v2 f n else mX8_rule_b46 f n))) = some r := h
  refine aw_iload_n C dX8_rule_19 rfl ?_
  refine aw_if_ne C 35 dX8_rule_20 (by decide) (fun q => ?_) (fun q => ?_)
  · rw [if_neg q] at h
    refine aw_iload_n C dX8_rule_35 rfl ?_
    refine aw_iconst C 1 dX8_rule_36 ki_1 ?_
    refine aw_icmp_lt C 46 dX8_rule_37 (by decide) (fun q => ?_) (fun q => ?_)
    · rw [if_pos q] at h
      refine aw_fl [none, none, none] trivial ?_
      exact rmX8_rule_b46 C hl0 htab (by omega) (by omega) h
    · rw [if_neg q] at h
      refine aw_iload_n C dX8_rule_40 rfl ?_
      refine aw_bipush C 40 dX8_rule_41 kb_40 ?_
      refine aw_icmp_le C 56 dX8_rule_43 (by decide) (fun q => ?_) (fun q => ?_)
      · rw [if_pos q] at h
        refine aw_fl [some (.ref v0), some (.int v1), some (.int v2)] ⟨rfl, ⟨rfl, ⟨rfl, trivial⟩⟩⟩ ?_
        exact rmX8_rule_b56 C hl0 htab (by omega) (by omega) h
      · rw [if_neg q] at h
        refine aw_fl [none, none, none] trivial ?_
        exact rmX8_rule_b46 C hl0 htab (by omega) (by omega) h
  · rw [if_pos q] at h
    refine aw_iload_n C dX8_rule_23 rfl ?_
    refine aw_if_lt C 46 dX8_rule_24 (by decide) (fun q => ?_) (fun q => ?_)
    · rw [if_pos q] at h
      refine aw_fl [none, none, none] trivial ?_
      exact rmX8_rule_b46 C hl0 htab (by omega) (by omega) h
    · rw [if_neg q] at h
      refine aw_iload_n C dX8_rule_27 rfl ?_
      refine aw_iconst C 1 dX8_rule_28 ki_1 ?_
      refine aw_icmp_le C 56 dX8_rule_29 (by decide) (fun q => ?_) (fun q => ?_)
      · rw [if_pos q] at h
        refine aw_fl [some (.ref v0), some (.int v1), some (.int v2)] ⟨rfl, ⟨rfl, ⟨rfl, trivial⟩⟩⟩ ?_
        exact rmX8_rule_b56 C hl0 htab (by omega) (by omega) h
      · rw [if_neg q] at h
        refine aw_goto C 46 dX8_rule_32 (by decide) ?_
        refine aw_fl [none, none, none] trivial ?_
        exact rmX8_rule_b46 C hl0 htab (by omega) (by omega) h
def mX8_rule (v0 : Nat) (v1 : Int32) (v2 : Int32) (f : AH) (n : Nat) : Option ((Int32 ⊕ String) × HpN) := (if v1 = (0 : Int32) then mX8_rule_b19 v0 v1 v2 f n else (if v1 = (1 : Int32) then mX8_rule_b19 v0 v1 v2 f n else some (.inr eN, (f, n))))
set_option maxHeartbeats 1000000 in
theorem rmX8_rule {X : GX} {l : Launch} {r : (Int32 ⊕ String) × HpN} {v0 : Nat} {v1 : Int32} {v2 : Int32} {f : AH} {n : Nat} (hl0 : l.stackTraces = false) (h : mX8_rule v0 v1 v2 f n = some r) : AX X l yX8_rule cX8_rule 3 (some .int) 7 5 130 [.ref v0, .int v1, .int v2] f n (QTr (QHi) r) (QTx r) := by
  have h : (if v1 = (0 : Int32) then mX8_rule_b19 v0 v1 v2 f n else (if v1 = (1 : Int32) then mX8_rule_b19 v0 v1 v2 f n else some (.inr eN, (f, n)))) = some r := h
  refine AX.of (by decide +kernel) rfl (Nat.le_of_ble_eq_true rfl) (fun p e s m args below meth c C htab => ?_)
  refine aw_nl [some (.ref v0), some (.int v1), some (.int v2)] rfl ?_
  refine aw_iload_n C dX8_rule_0 rfl ?_
  refine aw_if_eq C 19 dX8_rule_1 (by decide) (fun q => ?_) (fun q => ?_)
  · rw [if_pos q] at h
    refine aw_fl [some (.ref v0), some (.int v1), some (.int v2)] ⟨rfl, ⟨rfl, ⟨rfl, trivial⟩⟩⟩ ?_
    exact rmX8_rule_b19 C hl0 htab (by omega) (by omega) h
  · rw [if_neg q] at h
    refine aw_iload_n C dX8_rule_4 rfl ?_
    refine aw_iconst C 1 dX8_rule_5 ki_1 ?_
    refine aw_icmp_eq C 19 dX8_rule_6 (by decide) (fun q => ?_) (fun q => ?_)
    · rw [if_pos q] at h
      refine aw_fl [some (.ref v0), some (.int v1), some (.int v2)] ⟨rfl, ⟨rfl, ⟨rfl, trivial⟩⟩⟩ ?_
      exact rmX8_rule_b19 C hl0 htab (by omega) (by omega) h
    · rw [if_neg q] at h
      cases h
      exact ax_throwN C htab hl0 th_eN sx_144 dX8_rule_9 dX8_rule_12 dX8_rule_13 dX8_rule_15 dX8_rule_18 (Nat.le_of_ble_eq_true rfl) (Nat.le_of_ble_eq_true rfl) (show 0 + 1 ≤ 5 by omega) (show 0 + 6 ≤ 130 by omega) (by omega) (by omega) (fun n9 h9 => ⟨rfl, rfl, h9⟩)
def mX5_isWord_b60 (s0 : Int32) (f : AH) (n : Nat) : Option (Int32 × HpN) := rCk (rNb s0) (some (s0, (f, n)))
set_option maxHeartbeats 1000000 in
theorem rmX5_isWord_b60 {X : GX} {p : Program} {l : Launch} {e : Env} {s : State} {m : MethodId} {args : Array Value} {below : List Frame} {meth : Method} {c : Code} {r : Int32 × HpN} {s0 : Int32} {f : AH} {n cells slots : Nat} (C : CC X p l (RM 1 0 0) s m args meth c RX5 cX5_isWord 2 (some .boolean)) (hc : cells + 0 ≤ 0) (hs : slots + 0 ≤ 0) (h : mX5_isWord_b60 s0 f n = some r) : AW X p l e (RM 1 0 0) s m args below meth c 2 (ZM X below args s 0 0 (QHi r)) f n cells slots 60 [none, none] [.int s0] := by
  have h : rCk (rNb s0) (some (s0, (f, n))) = some r := h
  obtain ⟨hb1, h⟩ := ck_some h
  cases h
  exact aw_iret C rfl (nb_nar hb1) dX5_isWord_60 (by omega) (by omega) ⟨rfl, rfl, rfl⟩
def mX5_isWord_b59 (f : AH) (n : Nat) : Option (Int32 × HpN) := mX5_isWord_b60 (0 : Int32) f n
set_option maxHeartbeats 1000000 in
theorem rmX5_isWord_b59 {X : GX} {p : Program} {l : Launch} {e : Env} {s : State} {m : MethodId} {args : Array Value} {below : List Frame} {meth : Method} {c : Code} {r : Int32 × HpN} {f : AH} {n cells slots : Nat} (C : CC X p l (RM 1 0 0) s m args meth c RX5 cX5_isWord 2 (some .boolean)) (hc : cells + 0 ≤ 0) (hs : slots + 0 ≤ 0) (h : mX5_isWord_b59 f n = some r) : AW X p l e (RM 1 0 0) s m args below meth c 2 (ZM X below args s 0 0 (QHi r)) f n cells slots 59 [none, none] [] := by
  have h : mX5_isWord_b60 (0 : Int32) f n = some r := h
  refine aw_iconst C 0 dX5_isWord_59 ki_0 ?_
  refine aw_fl [none, none] trivial ?_
  exact rmX5_isWord_b60 C (by omega) (by omega) h
def mX5_isWord_b30 (f : AH) (n : Nat) : Option (Int32 × HpN) := rCk (rNb (0 : Int32)) (some ((0 : Int32), (f, n)))
set_option maxHeartbeats 1000000 in
theorem rmX5_isWord_b30 {X : GX} {p : Program} {l : Launch} {e : Env} {s : State} {m : MethodId} {args : Array Value} {below : List Frame} {meth : Method} {c : Code} {r : Int32 × HpN} {f : AH} {n cells slots : Nat} (C : CC X p l (RM 1 0 0) s m args meth c RX5 cX5_isWord 2 (some .boolean)) (hc : cells + 0 ≤ 0) (hs : slots + 0 ≤ 0) (h : mX5_isWord_b30 f n = some r) : AW X p l e (RM 1 0 0) s m args below meth c 2 (ZM X below args s 0 0 (QHi r)) f n cells slots 30 [none, none] [] := by
  have h : rCk (rNb (0 : Int32)) (some ((0 : Int32), (f, n))) = some r := h
  refine aw_iconst C 0 dX5_isWord_30 ki_0 ?_
  obtain ⟨hb1, h⟩ := ck_some h
  cases h
  exact aw_iret C rfl (nb_nar hb1) dX5_isWord_31 (by omega) (by omega) ⟨rfl, rfl, rfl⟩
def mX5_isWord_l2 : Nat → Nat → Int32 → AH → Nat → Option (Int32 × HpN)
  | 0, _, _, _, _ => none
  | d + 1, v0, v1, f, n => ((gI f v0 5 1).bind fun x1 => (if x1 ≤ v1 then ((gI f v0 5 1).bind fun x2 => (if x2 < (1 : Int32) then mX5_isWord_b59 f n else ((gI f v0 5 1).bind fun x3 => (if (8 : Int32) < x3 then mX5_isWord_b59 f n else mX5_isWord_b60 (1 : Int32) f n)))) else rCk (isO f v0 5) (((mX5_get v0 v1 f n).bind fun r5 => (if r5.1 < (97 : Int32) then mX5_isWord_b30 r5.2.1 r5.2.2 else rCk (isO r5.2.1 v0 5) (((mX5_get v0 v1 r5.2.1 r5.2.2).bind fun r8 => (if r8.1 ≤ (122 : Int32) then mX5_isWord_l2 d v0 (v1 + (1 : Int32)) r8.2.1 r8.2.2 else mX5_isWord_b30 r8.2.1 r8.2.2))))))))
set_option maxHeartbeats 1000000 in
theorem rmX5_isWord_l2 {X : GX} {p : Program} {l : Launch} {e : Env} {s : State} {m : MethodId} {args : Array Value} {below : List Frame} {meth : Method} {c : Code} {r : Int32 × HpN} (C : CC X p l (RM 1 0 0) s m args meth c RX5 cX5_isWord 2 (some .boolean)) : ∀ (d : Nat) (v0 : Nat) (v1 : Int32) (f : AH) (n cells slots : Nat) (_ : cells + 0 ≤ 0) (_ : slots + 0 ≤ 0) (_ : mX5_isWord_l2 d v0 v1 f n = some r), AW X p l e (RM 1 0 0) s m args below meth c 2 (ZM X below args s 0 0 (QHi r)) f n cells slots 2 [some (.ref v0), some (.int v1)] [] := by
  intro d
  induction d with
  | zero =>
    intro v0 v1 f n cells slots hc hs h
    exact nomatch (show (none : Option (Int32 × HpN)) = some r from h)
  | succ d ih =>
    intro v0 v1 f n cells slots hc hs h
    have h : ((gI f v0 5 1).bind fun x1 => (if x1 ≤ v1 then ((gI f v0 5 1).bind fun x2 => (if x2 < (1 : Int32) then mX5_isWord_b59 f n else ((gI f v0 5 1).bind fun x3 => (if (8 : Int32) < x3 then mX5_isWord_b59 f n else mX5_isWord_b60 (1 : Int32) f n)))) else rCk (isO f v0 5) (((mX5_get v0 v1 f n).bind fun r5 => (if r5.1 < (97 : Int32) then mX5_isWord_b30 r5.2.1 r5.2.2 else rCk (isO r5.2.1 v0 5) (((mX5_get v0 v1 r5.2.1 r5.2.2).bind fun r8 => (if r8.1 ≤ (122 : Int32) then mX5_isWord_l2 d v0 (v1 + (1 : Int32)) r8.2.1 r8.2.2 else mX5_isWord_b30 r8.2.1 r8.2.2)))))))) = some r := h
    refine aw_iload_n C dX5_isWord_2 rfl ?_
    refine aw_ald_n C dX5_isWord_3 rfl ?_
    obtain ⟨x1, hx1, h⟩ := Option.bind_eq_some_iff.mp h
    refine ah_getI C gf_X5_15 hx1 dX5_isWord_4 ?_
    refine aw_icmp_ge C 38 dX5_isWord_7 (by decide) (fun q => ?_) (fun q => ?_)
    · rw [if_pos q] at h
      refine aw_ald_n C dX5_isWord_38 rfl ?_
      obtain ⟨x2, hx2, h⟩ := Option.bind_eq_some_iff.mp h
      refine ah_getI C gf_X5_15 hx2 dX5_isWord_39 ?_
      refine aw_iconst C 1 dX5_isWord_42 ki_1 ?_
      refine aw_icmp_lt C 59 dX5_isWord_43 (by decide) (fun q => ?_) (fun q => ?_)
      · rw [if_pos q] at h
        refine aw_fl [none, none] trivial ?_
        exact rmX5_isWord_b59 C (by omega) (by omega) h
      · rw [if_neg q] at h
        refine aw_ald_n C dX5_isWord_46 rfl ?_
        obtain ⟨x3, hx3, h⟩ := Option.bind_eq_some_iff.mp h
        refine ah_getI C gf_X5_15 hx3 dX5_isWord_47 ?_
        refine aw_bipush C 8 dX5_isWord_50 kb_8 ?_
        refine aw_icmp_gt C 59 dX5_isWord_52 (by decide) (fun q => ?_) (fun q => ?_)
        · rw [if_pos q] at h
          refine aw_fl [none, none] trivial ?_
          exact rmX5_isWord_b59 C (by omega) (by omega) h
        · rw [if_neg q] at h
          refine aw_iconst C 1 dX5_isWord_55 ki_1 ?_
          refine aw_goto C 60 dX5_isWord_56 (by decide) ?_
          refine aw_fl [none, none] trivial ?_
          exact rmX5_isWord_b60 C (by omega) (by omega) h
    · rw [if_neg q] at h
      refine aw_ald_n C dX5_isWord_10 rfl ?_
      refine aw_iload_n C dX5_isWord_11 rfl ?_
      obtain ⟨hb4, h⟩ := ck_some h
      obtain ⟨r5, hr5, h⟩ := Option.bind_eq_some_iff.mp h
      obtain ⟨fs6, hf6⟩ := isO_ex hb4
      refine aw_callV C (ci := 5) (b := v0) [.int v1] mv_X5_19 rfl rfl hf6 (rmX5_get hr5) rfl dX5_isWord_12 (Nat.le_of_ble_eq_true rfl) (Nat.le_of_ble_eq_true rfl) rfl (Nat.le_of_ble_eq_true rfl) (show cells + 0 ≤ 0 by omega) (show slots + 0 ≤ 0 by omega) (fun v9 f9 n9 hh => ?_)
      obtain ⟨rfl, rfl, rfl⟩ := hh
      refine aw_bipush C 97 dX5_isWord_15 kb_97 ?_
      refine aw_icmp_lt C 30 dX5_isWord_17 (by decide) (fun q => ?_) (fun q => ?_)
      · rw [if_pos q] at h
        refine aw_fl [none, none] trivial ?_
        exact rmX5_isWord_b30 C (by omega) (by omega) h
      · rw [if_neg q] at h
        refine aw_ald_n C dX5_isWord_20 rfl ?_
        refine aw_iload_n C dX5_isWord_21 rfl ?_
        obtain ⟨hb7, h⟩ := ck_some h
        obtain ⟨r8, hr8, h⟩ := Option.bind_eq_some_iff.mp h
        obtain ⟨fs9, hf9⟩ := isO_ex hb7
        refine aw_callV C (ci := 5) (b := v0) [.int v1] mv_X5_19 rfl rfl hf9 (rmX5_get hr8) rfl dX5_isWord_22 (Nat.le_of_ble_eq_true rfl) (Nat.le_of_ble_eq_true rfl) rfl (Nat.le_of_ble_eq_true rfl) (show (cells + 0) + 0 ≤ 0 by omega) (show (slots + 0) + 0 ≤ 0 by omega) (fun v9 f9 n9 hh => ?_)
        obtain ⟨rfl, rfl, rfl⟩ := hh
        refine aw_bipush C 122 dX5_isWord_25 kb_122 ?_
        refine aw_icmp_le C 32 dX5_isWord_27 (by decide) (fun q => ?_) (fun q => ?_)
        · rw [if_pos q] at h
          refine aw_iinc C (v1 + (1 : Int32)) dX5_isWord_32 rfl (by rw [ki_1]) (by decide) rfl ?_
          refine aw_nl [some (.ref v0), some (.int (v1 + (1 : Int32)))] rfl ?_
          refine aw_goto C 2 dX5_isWord_35 (by decide) ?_
          refine aw_fl [some (.ref v0), some (.int (v1 + (1 : Int32)))] ⟨rfl, ⟨rfl, trivial⟩⟩ ?_
          exact ih v0 (v1 + (1 : Int32)) r8.2.1 r8.2.2 _ _ (by omega) (by omega) h
        · rw [if_neg q] at h
          refine aw_fl [none, none] trivial ?_
          exact rmX5_isWord_b30 C (by omega) (by omega) h
def mX5_isWord (v0 : Nat) (f : AH) (n : Nat) : Option (Int32 × HpN) := mX5_isWord_l2 rFU v0 (0 : Int32) f n
set_option maxHeartbeats 1000000 in
theorem rmX5_isWord {X : GX} {l : Launch} {r : Int32 × HpN} {v0 : Nat} {f : AH} {n : Nat} (h : mX5_isWord v0 f n = some r) : AM X l yX5_isWord cX5_isWord 2 (some .boolean) 1 0 0 [.ref v0] f n (QHi r) := by
  have h : mX5_isWord_l2 rFU v0 (0 : Int32) f n = some r := h
  refine AM.of (by decide +kernel) rfl (Nat.le_of_ble_eq_true rfl) (fun p e s m args below meth c C hnm => ?_)
  refine aw_nl [some (.ref v0), none] rfl ?_
  refine aw_iconst C 0 dX5_isWord_0 ki_0 ?_
  refine aw_istore_n C dX5_isWord_1 (by decide) rfl ?_
  refine aw_nl [some (.ref v0), some (.int (0 : Int32))] rfl ?_
  refine aw_fl [some (.ref v0), some (.int (0 : Int32))] ⟨rfl, ⟨rfl, trivial⟩⟩ ?_
  exact rmX5_isWord_l2 C rFU v0 (0 : Int32) f n _ _ (by omega) (by omega) h
def mX8_takeWord_b29 (v0 : Nat) (s0 : Option Nat) (f : AH) (n : Nat) : Option (Option Nat × HpN) := ((gR f v0 8 0).bind fun x1 => ((x1).bind fun j2 => rCk (isO f j2 5) (((mX5_cutTo j2 (0 : Int32) f n).bind fun r4 => some (s0, (r4.2.1, r4.2.2))))))
set_option maxHeartbeats 1000000 in
theorem rmX8_takeWord_b29 {X : GX} {p : Program} {l : Launch} {e : Env} {s : State} {m : MethodId} {args : Array Value} {below : List Frame} {meth : Method} {c : Code} {r : Option Nat × HpN} {v0 : Nat} {s0 : Option Nat} {f : AH} {n cells slots : Nat} (C : CC X p l (RM 3 2 10) s m args meth c RX8 cX8_takeWord 2 (some (.object "PieceFiles$Row"))) (hc : cells + 0 ≤ 2) (hs : slots + 0 ≤ 10) (h : mX8_takeWord_b29 v0 s0 f n = some r) : AW X p l e (RM 3 2 10) s m args below meth c 2 (ZM X below args s 2 10 (QHr r)) f n cells slots 29 [some (.ref v0), none] [va_rf s0] := by
  have h : ((gR f v0 8 0).bind fun x1 => ((x1).bind fun j2 => rCk (isO f j2 5) (((mX5_cutTo j2 (0 : Int32) f n).bind fun r4 => some (s0, (r4.2.1, r4.2.2)))))) = some r := h
  refine aw_astore_n C dX8_takeWord_29 (by decide) rfl (rf_or s0) ?_
  refine aw_nl [some (.ref v0), some (va_rf s0)] rfl ?_
  refine aw_ald_n C dX8_takeWord_30 rfl ?_
  obtain ⟨x1, hx1, h⟩ := Option.bind_eq_some_iff.mp h
  refine ah_getR C gf_X8_14 hx1 dX8_takeWord_31 ?_
  refine aw_iconst C 0 dX8_takeWord_34 ki_0 ?_
  obtain ⟨j2, hj2, h⟩ := Option.bind_eq_some_iff.mp h
  rw [hj2]
  obtain ⟨hb3, h⟩ := ck_some h
  obtain ⟨r4, hr4, h⟩ := Option.bind_eq_some_iff.mp h
  obtain ⟨fs5, hf5⟩ := isO_ex hb3
  refine aw_callV C (ci := 5) (b := j2) [.int (0 : Int32)] mv_X8_70 rfl rfl hf5 (rmX5_cutTo hr4) rfl dX8_takeWord_35 (Nat.le_of_ble_eq_true rfl) (Nat.le_of_ble_eq_true rfl) rfl (Nat.le_of_ble_eq_true rfl) (show cells + 0 ≤ 2 by omega) (show slots + 0 ≤ 10 by omega) (fun v9 f9 n9 hh => ?_)
  obtain ⟨rfl, rfl, rfl⟩ := hh
  refine aw_aload_n C dX8_takeWord_38 rfl (rf_or s0) ?_
  cases h
  exact aw_aret C rfl (rf_or _) dX8_takeWord_39 (by omega) (by omega) ⟨rfl, rfl, rfl⟩
def mX8_takeWord (v0 : Nat) (f : AH) (n : Nat) : Option (Option Nat × HpN) := ((gR f v0 8 0).bind fun x1 => ((x1).bind fun j2 => rCk (isO f j2 5) (((mX5_isWord j2 f n).bind fun r4 => (if r4.1 = (0 : Int32) then mX8_takeWord_b29 v0 (none : Option Nat) r4.2.1 r4.2.2 else ((gR r4.2.1 v0 8 0).bind fun x6 => ((gR r4.2.1 v0 8 0).bind fun x7 => ((x7).bind fun j8 => rCk (isO r4.2.1 j8 5) (((mX5_size j8 r4.2.1 r4.2.2).bind fun r10 => ((x6).bind fun j12 => rCk (isO r10.2.1 j12 5) (((mX5_part 8 j12 (0 : Int32) r10.1 r10.2.1 r10.2.2).bind fun r14 => ((some r14.1).bind fun x16 => mX8_takeWord_b29 v0 x16 r14.2.1 r14.2.2))))))))))))))
set_option maxHeartbeats 1000000 in
theorem rmX8_takeWord {X : GX} {l : Launch} {r : Option Nat × HpN} {v0 : Nat} {f : AH} {n : Nat} (h : mX8_takeWord v0 f n = some r) : AM X l yX8_takeWord cX8_takeWord 2 (some (.object "PieceFiles$Row")) 3 2 10 [.ref v0] f n (QHr r) := by
  have h : ((gR f v0 8 0).bind fun x1 => ((x1).bind fun j2 => rCk (isO f j2 5) (((mX5_isWord j2 f n).bind fun r4 => (if r4.1 = (0 : Int32) then mX8_takeWord_b29 v0 (none : Option Nat) r4.2.1 r4.2.2 else ((gR r4.2.1 v0 8 0).bind fun x6 => ((gR r4.2.1 v0 8 0).bind fun x7 => ((x7).bind fun j8 => rCk (isO r4.2.1 j8 5) (((mX5_size j8 r4.2.1 r4.2.2).bind fun r10 => ((x6).bind fun j12 => rCk (isO r10.2.1 j12 5) (((mX5_part 8 j12 (0 : Int32) r10.1 r10.2.1 r10.2.2).bind fun r14 => ((some r14.1).bind fun x16 => mX8_takeWord_b29 v0 x16 r14.2.1 r14.2.2)))))))))))))) = some r := h
  refine AM.of (by decide +kernel) rfl (Nat.le_of_ble_eq_true rfl) (fun p e s m args below meth c C hnm => ?_)
  refine aw_nl [some (.ref v0), none] rfl ?_
  refine aw_ald_n C dX8_takeWord_0 rfl ?_
  obtain ⟨x1, hx1, h⟩ := Option.bind_eq_some_iff.mp h
  refine ah_getR C gf_X8_14 hx1 dX8_takeWord_1 ?_
  obtain ⟨j2, hj2, h⟩ := Option.bind_eq_some_iff.mp h
  rw [hj2]
  obtain ⟨hb3, h⟩ := ck_some h
  obtain ⟨r4, hr4, h⟩ := Option.bind_eq_some_iff.mp h
  obtain ⟨fs5, hf5⟩ := isO_ex hb3
  refine aw_callV C (ci := 5) (b := j2) [] mv_X8_317 rfl rfl hf5 (rmX5_isWord hr4) rfl dX8_takeWord_4 (Nat.le_of_ble_eq_true rfl) (Nat.le_of_ble_eq_true rfl) rfl (Nat.le_of_ble_eq_true rfl) (show 0 + 0 ≤ 2 by omega) (show 0 + 0 ≤ 10 by omega) (fun v9 f9 n9 hh => ?_)
  obtain ⟨rfl, rfl, rfl⟩ := hh
  refine aw_if_eq C 28 dX8_takeWord_7 (by decide) (fun q => ?_) (fun q => ?_)
  · rw [if_pos q] at h
    refine aw_null C dX8_takeWord_28 ?_
    refine aw_fl [some (.ref v0), none] ⟨rfl, trivial⟩ ?_
    exact rmX8_takeWord_b29 C (by omega) (by omega) h
  · rw [if_neg q] at h
    refine aw_ald_n C dX8_takeWord_10 rfl ?_
    obtain ⟨x6, hx6, h⟩ := Option.bind_eq_some_iff.mp h
    refine ah_getR C gf_X8_14 hx6 dX8_takeWord_11 ?_
    refine aw_iconst C 0 dX8_takeWord_14 ki_0 ?_
    refine aw_ald_n C dX8_takeWord_15 rfl ?_
    obtain ⟨x7, hx7, h⟩ := Option.bind_eq_some_iff.mp h
    refine ah_getR C gf_X8_14 hx7 dX8_takeWord_16 ?_
    obtain ⟨j8, hj8, h⟩ := Option.bind_eq_some_iff.mp h
    rw [hj8]
    obtain ⟨hb9, h⟩ := ck_some h
    obtain ⟨r10, hr10, h⟩ := Option.bind_eq_some_iff.mp h
    obtain ⟨fs11, hf11⟩ := isO_ex hb9
    refine aw_callV C (ci := 5) (b := j8) [] mv_X8_63 rfl rfl hf11 (rmX5_size hr10) rfl dX8_takeWord_19 (Nat.le_of_ble_eq_true rfl) (Nat.le_of_ble_eq_true rfl) rfl (cs_1 rfl (cs_1 (rf_cat _) cs_0)) (show (0 + 0) + 0 ≤ 2 by omega) (show (0 + 0) + 0 ≤ 10 by omega) (fun v9 f9 n9 hh => ?_)
    obtain ⟨rfl, rfl, rfl⟩ := hh
    obtain ⟨j12, hj12, h⟩ := Option.bind_eq_some_iff.mp h
    rw [hj12]
    obtain ⟨hb13, h⟩ := ck_some h
    obtain ⟨r14, hr14, h⟩ := Option.bind_eq_some_iff.mp h
    obtain ⟨fs15, hf15⟩ := isO_ex hb13
    refine aw_callV C (ci := 5) (b := j12) [.int (0 : Int32), .int r10.1] mv_X8_126 rfl rfl hf15 (rmX5_part hr14) rfl dX8_takeWord_22 (Nat.le_of_ble_eq_true rfl) (Nat.le_of_ble_eq_true rfl) rfl (Nat.le_of_ble_eq_true rfl) (show ((0 + 0) + 0) + 2 ≤ 2 by omega) (show ((0 + 0) + 0) + (2 + 8) ≤ 10 by omega) (fun v9 f9 n9 hh => ?_)
    obtain ⟨rfl, rfl, rfl⟩ := hh
    obtain ⟨x16, hx16, h⟩ := Option.bind_eq_some_iff.mp h
    rw [Option.some.inj hx16]
    refine aw_goto C 29 dX8_takeWord_25 (by decide) ?_
    refine aw_fl [some (.ref v0), none] ⟨rfl, trivial⟩ ?_
    exact rmX8_takeWord_b29 C (by omega) (by omega) h
end
/-! part 32aq.cls -/
section
def mX8_lock (v0 : Nat) (f : AH) (n : Nat) : Option ((Int32 ⊕ String) × HpN) := rCk (isO f v0 8) (((mX8_takeWord v0 f n).bind fun r2 => ((some r2.1).bind fun x4 => (oN x4 (some (.inr eA, (r2.2.1, r2.2.2))) (fun j5 => ((gR r2.2.1 v0 8 2).bind fun x6 => ((gR r2.2.1 v0 8 1).bind fun x7 => ((x6).bind fun j8 => rCk (isO r2.2.1 j8 7) (((mX7_copyFrom j8 x7 r2.2.1 r2.2.2).bind fun r10 => rCk (isO r10.2.1 v0 8) (((mX8_doAct v0 (6 : Int32) (0 : Int32) (0 : Int32) (some j5) r10.2.1 r10.2.2).bind fun r13 => rCk (isO r13.2.1 v0 8) (((mX8_finishCall v0 r13.1 r13.2.1 r13.2.2).bind fun r16 => (tS r16.1 r16.2 (fun y16 => ((gR r16.2.1 v0 8 5).bind fun x18 => ((x18).bind fun j19 => rCk (isO r16.2.1 j19 1) (((mX1_size j19 r16.2.1 r16.2.2).bind fun r21 => some (.inl r21.1, (r21.2.1, r21.2.2))))))))))))))))))))))
set_option maxHeartbeats 1000000 in
theorem rmX8_lock {X : GX} {l : Launch} {r : (Int32 ⊕ String) × HpN} {v0 : Nat} {f : AH} {n : Nat} (hl0 : l.stackTraces = false) (h : mX8_lock v0 f n = some r) : AX X l yX8_lock cX8_lock 2 (some .int) 7 7 140 [.ref v0] f n (QTr (QHi) r) (QTx r) := by
  have h : rCk (isO f v0 8) (((mX8_takeWord v0 f n).bind fun r2 => ((some r2.1).bind fun x4 => (oN x4 (some (.inr eA, (r2.2.1, r2.2.2))) (fun j5 => ((gR r2.2.1 v0 8 2).bind fun x6 => ((gR r2.2.1 v0 8 1).bind fun x7 => ((x6).bind fun j8 => rCk (isO r2.2.1 j8 7) (((mX7_copyFrom j8 x7 r2.2.1 r2.2.2).bind fun r10 => rCk (isO r10.2.1 v0 8) (((mX8_doAct v0 (6 : Int32) (0 : Int32) (0 : Int32) (some j5) r10.2.1 r10.2.2).bind fun r13 => rCk (isO r13.2.1 v0 8) (((mX8_finishCall v0 r13.1 r13.2.1 r13.2.2).bind fun r16 => (tS r16.1 r16.2 (fun y16 => ((gR r16.2.1 v0 8 5).bind fun x18 => ((x18).bind fun j19 => rCk (isO r16.2.1 j19 1) (((mX1_size j19 r16.2.1 r16.2.2).bind fun r21 => some (.inl r21.1, (r21.2.1, r21.2.2)))))))))))))))))))))) = some r := h
  refine AX.of (by decide +kernel) rfl (Nat.le_of_ble_eq_true rfl) (fun p e s m args below meth c C htab => ?_)
  refine aw_nl [some (.ref v0), none] rfl ?_
  refine aw_ald_n C dX8_lock_0 rfl ?_
  obtain ⟨hb1, h⟩ := ck_some h
  obtain ⟨r2, hr2, h⟩ := Option.bind_eq_some_iff.mp h
  obtain ⟨fs3, hf3⟩ := isO_ex hb1
  refine aw_callV C (ci := 8) (b := v0) [] mv_X8_149 rfl rfl hf3 (rmX8_takeWord hr2) rfl dX8_lock_1 (Nat.le_of_ble_eq_true rfl) (Nat.le_of_ble_eq_true rfl) rfl (Nat.le_of_ble_eq_true rfl) (show 0 + 2 ≤ 7 by omega) (show 0 + 10 ≤ 140 by omega) (fun v9 f9 n9 hh => ?_)
  obtain ⟨rfl, rfl, rfl⟩ := hh
  obtain ⟨x4, hx4, h⟩ := Option.bind_eq_some_iff.mp h
  rw [Option.some.inj hx4]
  refine aw_astore_n C dX8_lock_4 (by decide) rfl (rf_or x4) ?_
  refine aw_nl [some (.ref v0), some (va_rf x4)] rfl ?_
  refine aw_aload_n C dX8_lock_5 rfl (rf_or x4) ?_
  cases x4 with
  | none =>
    replace h : some (.inr eA, (r2.2.1, r2.2.2)) = some r := h
    refine aw_ifnonnull_n C 19 dX8_lock_6 (by decide) ?_
    cases h
    exact ax_throw C htab hl0 th_eA sx_153 dX8_lock_9 dX8_lock_12 dX8_lock_13 dX8_lock_15 dX8_lock_18 (Nat.le_of_ble_eq_true rfl) (Nat.le_of_ble_eq_true rfl) (show (0 + 2) + 1 ≤ 7 by omega) (show (0 + 10) + 6 ≤ 140 by omega) (by omega) (by omega) (fun n9 h9 => ⟨rfl, rfl, h9⟩)
  | some j5 =>
    replace h : ((gR r2.2.1 v0 8 2).bind fun x6 => ((gR r2.2.1 v0 8 1).bind fun x7 => ((x6).bind fun j8 => rCk (isO r2.2.1 j8 7) (((mX7_copyFrom j8 x7 r2.2.1 r2.2.2).bind fun r10 => rCk (isO r10.2.1 v0 8) (((mX8_doAct v0 (6 : Int32) (0 : Int32) (0 : Int32) (some j5) r10.2.1 r10.2.2).bind fun r13 => rCk (isO r13.2.1 v0 8) (((mX8_finishCall v0 r13.1 r13.2.1 r13.2.2).bind fun r16 => (tS r16.1 r16.2 (fun y16 => ((gR r16.2.1 v0 8 5).bind fun x18 => ((x18).bind fun j19 => rCk (isO r16.2.1 j19 1) (((mX1_size j19 r16.2.1 r16.2.2).bind fun r21 => some (.inl r21.1, (r21.2.1, r21.2.2))))))))))))))))) = some r := h
    refine aw_ifnonnull_r C 19 dX8_lock_6 (by decide) ?_
    refine aw_ald_n C dX8_lock_19 rfl ?_
    obtain ⟨x6, hx6, h⟩ := Option.bind_eq_some_iff.mp h
    refine ah_getR C gf_X8_25 hx6 dX8_lock_20 ?_
    refine aw_ald_n C dX8_lock_23 rfl ?_
    obtain ⟨x7, hx7, h⟩ := Option.bind_eq_some_iff.mp h
    refine ah_getR C gf_X8_21 hx7 dX8_lock_24 ?_
    obtain ⟨j8, hj8, h⟩ := Option.bind_eq_some_iff.mp h
    rw [hj8]
    obtain ⟨hb9, h⟩ := ck_some h
    obtain ⟨r10, hr10, h⟩ := Option.bind_eq_some_iff.mp h
    obtain ⟨fs11, hf11⟩ := isO_ex hb9
    refine aw_callV C (ci := 7) (b := j8) [va_rf x7] mv_X8_73 rfl rfl hf11 (rmX7_copyFrom hr10) rfl dX8_lock_27 (Nat.le_of_ble_eq_true rfl) (Nat.le_of_ble_eq_true rfl) rfl (Nat.le_of_ble_eq_true rfl) (show (0 + 2) + 0 ≤ 7 by omega) (show (0 + 10) + 0 ≤ 140 by omega) (fun v9 f9 n9 hh => ?_)
    obtain ⟨rfl, rfl, rfl⟩ := hh
    refine aw_ald_n C dX8_lock_30 rfl ?_
    refine aw_ald_n C dX8_lock_31 rfl ?_
    refine aw_bipush C 6 dX8_lock_32 kb_6 ?_
    refine aw_iconst C 0 dX8_lock_34 ki_0 ?_
    refine aw_iconst C 0 dX8_lock_35 ki_0 ?_
    refine aw_ald_n C dX8_lock_36 rfl ?_
    obtain ⟨hb12, h⟩ := ck_some h
    obtain ⟨r13, hr13, h⟩ := Option.bind_eq_some_iff.mp h
    obtain ⟨fs14, hf14⟩ := isO_ex hb12
    refine aw_callV C (ci := 8) (b := v0) [.int (6 : Int32), .int (0 : Int32), .int (0 : Int32), .ref j5] mv_X8_103 rfl rfl hf14 (rmX8_doAct hr13) rfl dX8_lock_37 (Nat.le_of_ble_eq_true rfl) (Nat.le_of_ble_eq_true rfl) rfl (Nat.le_of_ble_eq_true rfl) (show ((0 + 2) + 0) + 4 ≤ 7 by omega) (show ((0 + 10) + 0) + 124 ≤ 140 by omega) (fun v9 f9 n9 hh => ?_)
    obtain ⟨rfl, rfl, rfl⟩ := hh
    obtain ⟨hb15, h⟩ := ck_some h
    obtain ⟨r16, hr16, h⟩ := Option.bind_eq_some_iff.mp h
    obtain ⟨fs17, hf17⟩ := isO_ex hb15
    refine ax_callV C (ci := 8) (b := v0) [.int r13.1] mv_X8_139 rfl rfl hf17 (rmX8_finishCall hl0 hr16) rfl dX8_lock_40 (Nat.le_of_ble_eq_true rfl) (Nat.le_of_ble_eq_true rfl) rfl (Nat.le_of_ble_eq_true rfl) (show (((0 + 2) + 0) + 4) + 1 ≤ 7 by omega) (show (((0 + 10) + 0) + 124) + 6 ≤ 140 by omega) (fun E9 f9 n9 hq => ?_) (fun v9 f9 n9 hq => ?_)
    · obtain ⟨e1, e2, e3⟩ := hq
      rw [tS_r e1] at h
      cases h
      exact at_out C htab ⟨rfl, e2, e3⟩ (by omega) (by omega)
    obtain ⟨y16, e16, rfl, rfl, rfl⟩ := hq
    rw [tS_l e16] at h
    replace h : ((gR r16.2.1 v0 8 5).bind fun x18 => ((x18).bind fun j19 => rCk (isO r16.2.1 j19 1) (((mX1_size j19 r16.2.1 r16.2.2).bind fun r21 => some (.inl r21.1, (r21.2.1, r21.2.2)))))) = some r := h
    refine aw_ald_n C dX8_lock_43 rfl ?_
    obtain ⟨x18, hx18, h⟩ := Option.bind_eq_some_iff.mp h
    refine ah_getR C gf_X8_38 hx18 dX8_lock_44 ?_
    obtain ⟨j19, hj19, h⟩ := Option.bind_eq_some_iff.mp h
    rw [hj19]
    obtain ⟨hb20, h⟩ := ck_some h
    obtain ⟨r21, hr21, h⟩ := Option.bind_eq_some_iff.mp h
    obtain ⟨fs22, hf22⟩ := isO_ex hb20
    refine aw_callV C (ci := 1) (b := j19) [] mv_X8_136 rfl rfl hf22 (rmX1_size hr21) rfl dX8_lock_47 (Nat.le_of_ble_eq_true rfl) (Nat.le_of_ble_eq_true rfl) rfl (Nat.le_of_ble_eq_true rfl) (show ((((0 + 2) + 0) + 4) + 1) + 0 ≤ 7 by omega) (show ((((0 + 10) + 0) + 124) + 6) + 0 ≤ 140 by omega) (fun v9 f9 n9 hh => ?_)
    obtain ⟨rfl, rfl, rfl⟩ := hh
    cases h
    exact ax_of (aw_iret C rfl rfl dX8_lock_50 (by omega) (by omega) ⟨_, rfl, rfl, rfl, rfl⟩)
def mX8_takeTold_b31 (v0 : Nat) (s0 : Option Nat) (f : AH) (n : Nat) : Option (Option Nat × HpN) := ((gR f v0 8 0).bind fun x1 => ((x1).bind fun j2 => rCk (isO f j2 5) (((mX5_cutTo j2 (0 : Int32) f n).bind fun r4 => some (s0, (r4.2.1, r4.2.2))))))
set_option maxHeartbeats 1000000 in
theorem rmX8_takeTold_b31 {X : GX} {p : Program} {l : Launch} {e : Env} {s : State} {m : MethodId} {args : Array Value} {below : List Frame} {meth : Method} {c : Code} {r : Option Nat × HpN} {v0 : Nat} {s0 : Option Nat} {f : AH} {n cells slots : Nat} (C : CC X p l (RM 3 2 62) s m args meth c RX8 cX8_takeTold 2 (some (.object "PieceFiles$Row"))) (hc : cells + 0 ≤ 2) (hs : slots + 0 ≤ 62) (h : mX8_takeTold_b31 v0 s0 f n = some r) : AW X p l e (RM 3 2 62) s m args below meth c 2 (ZM X below args s 2 62 (QHr r)) f n cells slots 31 [some (.ref v0), none] [va_rf s0] := by
  have h : ((gR f v0 8 0).bind fun x1 => ((x1).bind fun j2 => rCk (isO f j2 5) (((mX5_cutTo j2 (0 : Int32) f n).bind fun r4 => some (s0, (r4.2.1, r4.2.2)))))) = some r := h
  refine aw_astore_n C dX8_takeTold_31 (by decide) rfl (rf_or s0) ?_
  refine aw_nl [some (.ref v0), some (va_rf s0)] rfl ?_
  refine aw_ald_n C dX8_takeTold_32 rfl ?_
  obtain ⟨x1, hx1, h⟩ := Option.bind_eq_some_iff.mp h
  refine ah_getR C gf_X8_14 hx1 dX8_takeTold_33 ?_
  refine aw_iconst C 0 dX8_takeTold_36 ki_0 ?_
  obtain ⟨j2, hj2, h⟩ := Option.bind_eq_some_iff.mp h
  rw [hj2]
  obtain ⟨hb3, h⟩ := ck_some h
  obtain ⟨r4, hr4, h⟩ := Option.bind_eq_some_iff.mp h
  obtain ⟨fs5, hf5⟩ := isO_ex hb3
  refine aw_callV C (ci := 5) (b := j2) [.int (0 : Int32)] mv_X8_70 rfl rfl hf5 (rmX5_cutTo hr4) rfl dX8_takeTold_37 (Nat.le_of_ble_eq_true rfl) (Nat.le_of_ble_eq_true rfl) rfl (Nat.le_of_ble_eq_true rfl) (show cells + 0 ≤ 2 by omega) (show slots + 0 ≤ 62 by omega) (fun v9 f9 n9 hh => ?_)
  obtain ⟨rfl, rfl, rfl⟩ := hh
  refine aw_aload_n C dX8_takeTold_40 rfl (rf_or s0) ?_
  cases h
  exact aw_aret C rfl (rf_or _) dX8_takeTold_41 (by omega) (by omega) ⟨rfl, rfl, rfl⟩
def mX8_takeTold (v0 : Nat) (f : AH) (n : Nat) : Option (Option Nat × HpN) := ((gR f v0 8 0).bind fun x1 => ((x1).bind fun j2 => rCk (isO f j2 5) (((mX5_size j2 f n).bind fun r4 => (if r4.1 ≤ (60 : Int32) then ((gR r4.2.1 v0 8 0).bind fun x6 => ((gR r4.2.1 v0 8 0).bind fun x7 => ((x7).bind fun j8 => rCk (isO r4.2.1 j8 5) (((mX5_size j8 r4.2.1 r4.2.2).bind fun r10 => ((x6).bind fun j12 => rCk (isO r10.2.1 j12 5) (((mX5_part 60 j12 (0 : Int32) r10.1 r10.2.1 r10.2.2).bind fun r14 => ((some r14.1).bind fun x16 => mX8_takeTold_b31 v0 x16 r14.2.1 r14.2.2))))))))) else mX8_takeTold_b31 v0 (none : Option Nat) r4.2.1 r4.2.2)))))
set_option maxHeartbeats 1000000 in
theorem rmX8_takeTold {X : GX} {l : Launch} {r : Option Nat × HpN} {v0 : Nat} {f : AH} {n : Nat} (h : mX8_takeTold v0 f n = some r) : AM X l yX8_takeTold cX8_takeTold 2 (some (.object "PieceFiles$Row")) 3 2 62 [.ref v0] f n (QHr r) := by
  have h : ((gR f v0 8 0).bind fun x1 => ((x1).bind fun j2 => rCk (isO f j2 5) (((mX5_size j2 f n).bind fun r4 => (if r4.1 ≤ (60 : Int32) then ((gR r4.2.1 v0 8 0).bind fun x6 => ((gR r4.2.1 v0 8 0).bind fun x7 => ((x7).bind fun j8 => rCk (isO r4.2.1 j8 5) (((mX5_size j8 r4.2.1 r4.2.2).bind fun r10 => ((x6).bind fun j12 => rCk (isO r10.2.1 j12 5) (((mX5_part 60 j12 (0 : Int32) r10.1 r10.2.1 r10.2.2).bind fun r14 => ((some r14.1).bind fun x16 => mX8_takeTold_b31 v0 x16 r14.2.1 r14.2.2))))))))) else mX8_takeTold_b31 v0 (none : Option Nat) r4.2.1 r4.2.2))))) = some r := h
  refine AM.of (by decide +kernel) rfl (Nat.le_of_ble_eq_true rfl) (fun p e s m args below meth c C hnm => ?_)
  refine aw_nl [some (.ref v0), none] rfl ?_
  refine aw_ald_n C dX8_takeTold_0 rfl ?_
  obtain ⟨x1, hx1, h⟩ := Option.bind_eq_some_iff.mp h
  refine ah_getR C gf_X8_14 hx1 dX8_takeTold_1 ?_
  obtain ⟨j2, hj2, h⟩ := Option.bind_eq_some_iff.mp h
  rw [hj2]
  obtain ⟨hb3, h⟩ := ck_some h
  obtain ⟨r4, hr4, h⟩ := Option.bind_eq_some_iff.mp h
  obtain ⟨fs5, hf5⟩ := isO_ex hb3
  refine aw_callV C (ci := 5) (b := j2) [] mv_X8_63 rfl rfl hf5 (rmX5_size hr4) rfl dX8_takeTold_4 (Nat.le_of_ble_eq_true rfl) (Nat.le_of_ble_eq_true rfl) rfl (Nat.le_of_ble_eq_true rfl) (show 0 + 0 ≤ 2 by omega) (show 0 + 0 ≤ 62 by omega) (fun v9 f9 n9 hh => ?_)
  obtain ⟨rfl, rfl, rfl⟩ := hh
  refine aw_bipush C 60 dX8_takeTold_7 kb_60 ?_
  refine aw_icmp_le C 16 dX8_takeTold_9 (by decide) (fun q => ?_) (fun q => ?_)
  · rw [if_pos q] at h
    refine aw_ald_n C dX8_takeTold_16 rfl ?_
    obtain ⟨x6, hx6, h⟩ := Option.bind_eq_some_iff.mp h
    refine ah_getR C gf_X8_14 hx6 dX8_takeTold_17 ?_
    refine aw_iconst C 0 dX8_takeTold_20 ki_0 ?_
    refine aw_ald_n C dX8_takeTold_21 rfl ?_
    obtain ⟨x7, hx7, h⟩ := Option.bind_eq_some_iff.mp h
    refine ah_getR C gf_X8_14 hx7 dX8_takeTold_22 ?_
    obtain ⟨j8, hj8, h⟩ := Option.bind_eq_some_iff.mp h
    rw [hj8]
    obtain ⟨hb9, h⟩ := ck_some h
    obtain ⟨r10, hr10, h⟩ := Option.bind_eq_some_iff.mp h
    obtain ⟨fs11, hf11⟩ := isO_ex hb9
    refine aw_callV C (ci := 5) (b := j8) [] mv_X8_63 rfl rfl hf11 (rmX5_size hr10) rfl dX8_takeTold_25 (Nat.le_of_ble_eq_true rfl) (Nat.le_of_ble_eq_true rfl) rfl (cs_1 rfl (cs_1 (rf_cat _) cs_0)) (show (0 + 0) + 0 ≤ 2 by omega) (show (0 + 0) + 0 ≤ 62 by omega) (fun v9 f9 n9 hh => ?_)
    obtain ⟨rfl, rfl, rfl⟩ := hh
    obtain ⟨j12, hj12, h⟩ := Option.bind_eq_some_iff.mp h
    rw [hj12]
    obtain ⟨hb13, h⟩ := ck_some h
    obtain ⟨r14, hr14, h⟩ := Option.bind_eq_some_iff.mp h
    obtain ⟨fs15, hf15⟩ := isO_ex hb13
    refine aw_callV C (ci := 5) (b := j12) [.int (0 : Int32), .int r10.1] mv_X8_126 rfl rfl hf15 (rmX5_part hr14) rfl dX8_takeTold_28 (Nat.le_of_ble_eq_true rfl) (Nat.le_of_ble_eq_true rfl) rfl (Nat.le_of_ble_eq_true rfl) (show ((0 + 0) + 0) + 2 ≤ 2 by omega) (show ((0 + 0) + 0) + (2 + 60) ≤ 62 by omega) (fun v9 f9 n9 hh => ?_)
    obtain ⟨rfl, rfl, rfl⟩ := hh
    obtain ⟨x16, hx16, h⟩ := Option.bind_eq_some_iff.mp h
    rw [Option.some.inj hx16]
    refine aw_fl [some (.ref v0), none] ⟨rfl, trivial⟩ ?_
    exact rmX8_takeTold_b31 C (by omega) (by omega) h
  · rw [if_neg q] at h
    refine aw_null C dX8_takeTold_12 ?_
    refine aw_goto C 31 dX8_takeTold_13 (by decide) ?_
    refine aw_fl [some (.ref v0), none] ⟨rfl, trivial⟩ ?_
    exact rmX8_takeTold_b31 C (by omega) (by omega) h
def mX8_tell (v0 : Nat) (v1 : Int32) (f : AH) (n : Nat) : Option ((Int32 ⊕ String) × HpN) := rCk (isO f v0 8) (((mX8_takeTold v0 f n).bind fun r2 => ((some r2.1).bind fun x4 => (oN x4 (some (.inr eA, (r2.2.1, r2.2.2))) (fun j5 => ((gR r2.2.1 v0 8 2).bind fun x6 => ((gR r2.2.1 v0 8 1).bind fun x7 => ((x6).bind fun j8 => rCk (isO r2.2.1 j8 7) (((mX7_copyFrom j8 x7 r2.2.1 r2.2.2).bind fun r10 => rCk (isO r10.2.1 v0 8) (((mX8_doAct v0 (12 : Int32) v1 (0 : Int32) (some j5) r10.2.1 r10.2.2).bind fun r13 => rCk (isO r13.2.1 v0 8) (((mX8_finishCall v0 r13.1 r13.2.1 r13.2.2).bind fun r16 => (tS r16.1 r16.2 (fun y16 => ((gR r16.2.1 v0 8 7).bind fun x18 => ((x18).bind fun j19 => ((gR r16.2.1 j19 0 0).bind fun x20 => ((x20).bind fun j21 => rCk (isO r16.2.1 j21 5) (((mX5_size j21 r16.2.1 r16.2.2).bind fun r23 => some (.inl r23.1, (r23.2.1, r23.2.2))))))))))))))))))))))))
set_option maxHeartbeats 1000000 in
theorem rmX8_tell {X : GX} {l : Launch} {r : (Int32 ⊕ String) × HpN} {v0 : Nat} {v1 : Int32} {f : AH} {n : Nat} (hl0 : l.stackTraces = false) (h : mX8_tell v0 v1 f n = some r) : AX X l yX8_tell cX8_tell 3 (some .int) 7 7 192 [.ref v0, .int v1] f n (QTr (QHi) r) (QTx r) := by
  have h : rCk (isO f v0 8) (((mX8_takeTold v0 f n).bind fun r2 => ((some r2.1).bind fun x4 => (oN x4 (some (.inr eA, (r2.2.1, r2.2.2))) (fun j5 => ((gR r2.2.1 v0 8 2).bind fun x6 => ((gR r2.2.1 v0 8 1).bind fun x7 => ((x6).bind fun j8 => rCk (isO r2.2.1 j8 7) (((mX7_copyFrom j8 x7 r2.2.1 r2.2.2).bind fun r10 => rCk (isO r10.2.1 v0 8) (((mX8_doAct v0 (12 : Int32) v1 (0 : Int32) (some j5) r10.2.1 r10.2.2).bind fun r13 => rCk (isO r13.2.1 v0 8) (((mX8_finishCall v0 r13.1 r13.2.1 r13.2.2).bind fun r16 => (tS r16.1 r16.2 (fun y16 => ((gR r16.2.1 v0 8 7).bind fun x18 => ((x18).bind fun j19 => ((gR r16.2.1 j19 0 0).bind fun x20 => ((x20).bind fun j21 => rCk (isO r16.2.1 j21 5) (((mX5_size j21 r16.2.1 r16.2.2).bind fun r23 => some (.inl r23.1, (r23.2.1, r23.2.2)))))))))))))))))))))))) = some r := h
  refine AX.of (by decide +kernel) rfl (Nat.le_of_ble_eq_true rfl) (fun p e s m args below meth c C htab => ?_)
  refine aw_nl [some (.ref v0), some (.int v1), none] rfl ?_
  refine aw_ald_n C dX8_tell_0 rfl ?_
  obtain ⟨hb1, h⟩ := ck_some h
  obtain ⟨r2, hr2, h⟩ := Option.bind_eq_some_iff.mp h
  obtain ⟨fs3, hf3⟩ := isO_ex hb1
  refine aw_callV C (ci := 8) (b := v0) [] mv_X8_155 rfl rfl hf3 (rmX8_takeTold hr2) rfl dX8_tell_1 (Nat.le_of_ble_eq_true rfl) (Nat.le_of_ble_eq_true rfl) rfl (Nat.le_of_ble_eq_true rfl) (show 0 + 2 ≤ 7 by omega) (show 0 + 62 ≤ 192 by omega) (fun v9 f9 n9 hh => ?_)
  obtain ⟨rfl, rfl, rfl⟩ := hh
  obtain ⟨x4, hx4, h⟩ := Option.bind_eq_some_iff.mp h
  rw [Option.some.inj hx4]
  refine aw_astore_n C dX8_tell_4 (by decide) rfl (rf_or x4) ?_
  refine aw_nl [some (.ref v0), some (.int v1), some (va_rf x4)] rfl ?_
  refine aw_aload_n C dX8_tell_5 rfl (rf_or x4) ?_
  cases x4 with
  | none =>
    replace h : some (.inr eA, (r2.2.1, r2.2.2)) = some r := h
    refine aw_ifnonnull_n C 19 dX8_tell_6 (by decide) ?_
    cases h
    exact ax_throw C htab hl0 th_eA sx_158 dX8_tell_9 dX8_tell_12 dX8_tell_13 dX8_tell_15 dX8_tell_18 (Nat.le_of_ble_eq_true rfl) (Nat.le_of_ble_eq_true rfl) (show (0 + 2) + 1 ≤ 7 by omega) (show (0 + 62) + 6 ≤ 192 by omega) (by omega) (by omega) (fun n9 h9 => ⟨rfl, rfl, h9⟩)
  | some j5 =>
    replace h : ((gR r2.2.1 v0 8 2).bind fun x6 => ((gR r2.2.1 v0 8 1).bind fun x7 => ((x6).bind fun j8 => rCk (isO r2.2.1 j8 7) (((mX7_copyFrom j8 x7 r2.2.1 r2.2.2).bind fun r10 => rCk (isO r10.2.1 v0 8) (((mX8_doAct v0 (12 : Int32) v1 (0 : Int32) (some j5) r10.2.1 r10.2.2).bind fun r13 => rCk (isO r13.2.1 v0 8) (((mX8_finishCall v0 r13.1 r13.2.1 r13.2.2).bind fun r16 => (tS r16.1 r16.2 (fun y16 => ((gR r16.2.1 v0 8 7).bind fun x18 => ((x18).bind fun j19 => ((gR r16.2.1 j19 0 0).bind fun x20 => ((x20).bind fun j21 => rCk (isO r16.2.1 j21 5) (((mX5_size j21 r16.2.1 r16.2.2).bind fun r23 => some (.inl r23.1, (r23.2.1, r23.2.2))))))))))))))))))) = some r := h
    refine aw_ifnonnull_r C 19 dX8_tell_6 (by decide) ?_
    refine aw_ald_n C dX8_tell_19 rfl ?_
    obtain ⟨x6, hx6, h⟩ := Option.bind_eq_some_iff.mp h
    refine ah_getR C gf_X8_25 hx6 dX8_tell_20 ?_
    refine aw_ald_n C dX8_tell_23 rfl ?_
    obtain ⟨x7, hx7, h⟩ := Option.bind_eq_some_iff.mp h
    refine ah_getR C gf_X8_21 hx7 dX8_tell_24 ?_
    obtain ⟨j8, hj8, h⟩ := Option.bind_eq_some_iff.mp h
    rw [hj8]
    obtain ⟨hb9, h⟩ := ck_some h
    obtain ⟨r10, hr10, h⟩ := Option.bind_eq_some_iff.mp h
    obtain ⟨fs11, hf11⟩ := isO_ex hb9
    refine aw_callV C (ci := 7) (b := j8) [va_rf x7] mv_X8_73 rfl rfl hf11 (rmX7_copyFrom hr10) rfl dX8_tell_27 (Nat.le_of_ble_eq_true rfl) (Nat.le_of_ble_eq_true rfl) rfl (Nat.le_of_ble_eq_true rfl) (show (0 + 2) + 0 ≤ 7 by omega) (show (0 + 62) + 0 ≤ 192 by omega) (fun v9 f9 n9 hh => ?_)
    obtain ⟨rfl, rfl, rfl⟩ := hh
    refine aw_ald_n C dX8_tell_30 rfl ?_
    refine aw_ald_n C dX8_tell_31 rfl ?_
    refine aw_bipush C 12 dX8_tell_32 kb_12 ?_
    refine aw_iload_n C dX8_tell_34 rfl ?_
    refine aw_iconst C 0 dX8_tell_35 ki_0 ?_
    refine aw_ald_n C dX8_tell_36 rfl ?_
    obtain ⟨hb12, h⟩ := ck_some h
    obtain ⟨r13, hr13, h⟩ := Option.bind_eq_some_iff.mp h
    obtain ⟨fs14, hf14⟩ := isO_ex hb12
    refine aw_callV C (ci := 8) (b := v0) [.int (12 : Int32), .int v1, .int (0 : Int32), .ref j5] mv_X8_103 rfl rfl hf14 (rmX8_doAct hr13) rfl dX8_tell_37 (Nat.le_of_ble_eq_true rfl) (Nat.le_of_ble_eq_true rfl) rfl (Nat.le_of_ble_eq_true rfl) (show ((0 + 2) + 0) + 4 ≤ 7 by omega) (show ((0 + 62) + 0) + 124 ≤ 192 by omega) (fun v9 f9 n9 hh => ?_)
    obtain ⟨rfl, rfl, rfl⟩ := hh
    obtain ⟨hb15, h⟩ := ck_some h
    obtain ⟨r16, hr16, h⟩ := Option.bind_eq_some_iff.mp h
    obtain ⟨fs17, hf17⟩ := isO_ex hb15
    refine ax_callV C (ci := 8) (b := v0) [.int r13.1] mv_X8_139 rfl rfl hf17 (rmX8_finishCall hl0 hr16) rfl dX8_tell_40 (Nat.le_of_ble_eq_true rfl) (Nat.le_of_ble_eq_true rfl) rfl (Nat.le_of_ble_eq_true rfl) (show (((0 + 2) + 0) + 4) + 1 ≤ 7 by omega) (show (((0 + 62) + 0) + 124) + 6 ≤ 192 by omega) (fun E9 f9 n9 hq => ?_) (fun v9 f9 n9 hq => ?_)
    · obtain ⟨e1, e2, e3⟩ := hq
      rw [tS_r e1] at h
      cases h
      exact at_out C htab ⟨rfl, e2, e3⟩ (by omega) (by omega)
    obtain ⟨y16, e16, rfl, rfl, rfl⟩ := hq
    rw [tS_l e16] at h
    replace h : ((gR r16.2.1 v0 8 7).bind fun x18 => ((x18).bind fun j19 => ((gR r16.2.1 j19 0 0).bind fun x20 => ((x20).bind fun j21 => rCk (isO r16.2.1 j21 5) (((mX5_size j21 r16.2.1 r16.2.2).bind fun r23 => some (.inl r23.1, (r23.2.1, r23.2.2)))))))) = some r := h
    refine aw_ald_n C dX8_tell_43 rfl ?_
    obtain ⟨x18, hx18, h⟩ := Option.bind_eq_some_iff.mp h
    refine ah_getR C gf_X8_48 hx18 dX8_tell_44 ?_
    obtain ⟨j19, hj19, h⟩ := Option.bind_eq_some_iff.mp h
    rw [hj19]
    obtain ⟨x20, hx20, h⟩ := Option.bind_eq_some_iff.mp h
    refine ah_getR C gf_X8_160 hx20 dX8_tell_47 ?_
    obtain ⟨j21, hj21, h⟩ := Option.bind_eq_some_iff.mp h
    rw [hj21]
    obtain ⟨hb22, h⟩ := ck_some h
    obtain ⟨r23, hr23, h⟩ := Option.bind_eq_some_iff.mp h
    obtain ⟨fs24, hf24⟩ := isO_ex hb22
    refine aw_callV C (ci := 5) (b := j21) [] mv_X8_63 rfl rfl hf24 (rmX5_size hr23) rfl dX8_tell_50 (Nat.le_of_ble_eq_true rfl) (Nat.le_of_ble_eq_true rfl) rfl (Nat.le_of_ble_eq_true rfl) (show ((((0 + 2) + 0) + 4) + 1) + 0 ≤ 7 by omega) (show ((((0 + 62) + 0) + 124) + 6) + 0 ≤ 192 by omega) (fun v9 f9 n9 hh => ?_)
    obtain ⟨rfl, rfl, rfl⟩ := hh
    cases h
    exact ax_of (aw_iret C rfl rfl dX8_tell_53 (by omega) (by omega) ⟨_, rfl, rfl, rfl, rfl⟩)
def mX8_free (v0 : Nat) (v1 : Int32) (f : AH) (n : Nat) : Option ((Int32 ⊕ String) × HpN) := ((gR f v0 8 2).bind fun x1 => ((gR f v0 8 1).bind fun x2 => ((x1).bind fun j3 => rCk (isO f j3 7) (((mX7_copyFrom j3 x2 f n).bind fun r5 => rCk (isO r5.2.1 v0 8) (((mX8_doAct v0 (8 : Int32) v1 (0 : Int32) (none : Option Nat) r5.2.1 r5.2.2).bind fun r8 => rCk (isO r8.2.1 v0 8) (((mX8_finishCall v0 r8.1 r8.2.1 r8.2.2).bind fun r11 => (tS r11.1 r11.2 (fun y11 => ((gR r11.2.1 v0 8 7).bind fun x13 => ((x13).bind fun j14 => ((gR r11.2.1 j14 0 0).bind fun x15 => ((x15).bind fun j16 => rCk (isO r11.2.1 j16 5) (((mX5_size j16 r11.2.1 r11.2.2).bind fun r18 => some (.inl r18.1, (r18.2.1, r18.2.2)))))))))))))))))))
set_option maxHeartbeats 1000000 in
theorem rmX8_free {X : GX} {l : Launch} {r : (Int32 ⊕ String) × HpN} {v0 : Nat} {v1 : Int32} {f : AH} {n : Nat} (hl0 : l.stackTraces = false) (h : mX8_free v0 v1 f n = some r) : AX X l yX8_free cX8_free 2 (some .int) 7 5 130 [.ref v0, .int v1] f n (QTr (QHi) r) (QTx r) := by
  have h : ((gR f v0 8 2).bind fun x1 => ((gR f v0 8 1).bind fun x2 => ((x1).bind fun j3 => rCk (isO f j3 7) (((mX7_copyFrom j3 x2 f n).bind fun r5 => rCk (isO r5.2.1 v0 8) (((mX8_doAct v0 (8 : Int32) v1 (0 : Int32) (none : Option Nat) r5.2.1 r5.2.2).bind fun r8 => rCk (isO r8.2.1 v0 8) (((mX8_finishCall v0 r8.1 r8.2.1 r8.2.2).bind fun r11 => (tS r11.1 r11.2 (fun y11 => ((gR r11.2.1 v0 8 7).bind fun x13 => ((x13).bind fun j14 => ((gR r11.2.1 j14 0 0).bind fun x15 => ((x15).bind fun j16 => rCk (isO r11.2.1 j16 5) (((mX5_size j16 r11.2.1 r11.2.2).bind fun r18 => some (.inl r18.1, (r18.2.1, r18.2.2))))))))))))))))))) = some r := h
  refine AX.of (by decide +kernel) rfl (Nat.le_of_ble_eq_true rfl) (fun p e s m args below meth c C htab => ?_)
  refine aw_nl [some (.ref v0), some (.int v1)] rfl ?_
  refine aw_ald_n C dX8_free_0 rfl ?_
  obtain ⟨x1, hx1, h⟩ := Option.bind_eq_some_iff.mp h
  refine ah_getR C gf_X8_25 hx1 dX8_free_1 ?_
  refine aw_ald_n C dX8_free_4 rfl ?_
  obtain ⟨x2, hx2, h⟩ := Option.bind_eq_some_iff.mp h
  refine ah_getR C gf_X8_21 hx2 dX8_free_5 ?_
  obtain ⟨j3, hj3, h⟩ := Option.bind_eq_some_iff.mp h
  rw [hj3]
  obtain ⟨hb4, h⟩ := ck_some h
  obtain ⟨r5, hr5, h⟩ := Option.bind_eq_some_iff.mp h
  obtain ⟨fs6, hf6⟩ := isO_ex hb4
  refine aw_callV C (ci := 7) (b := j3) [va_rf x2] mv_X8_73 rfl rfl hf6 (rmX7_copyFrom hr5) rfl dX8_free_8 (Nat.le_of_ble_eq_true rfl) (Nat.le_of_ble_eq_true rfl) rfl (Nat.le_of_ble_eq_true rfl) (show 0 + 0 ≤ 5 by omega) (show 0 + 0 ≤ 130 by omega) (fun v9 f9 n9 hh => ?_)
  obtain ⟨rfl, rfl, rfl⟩ := hh
  refine aw_ald_n C dX8_free_11 rfl ?_
  refine aw_ald_n C dX8_free_12 rfl ?_
  refine aw_bipush C 8 dX8_free_13 kb_8 ?_
  refine aw_iload_n C dX8_free_15 rfl ?_
  refine aw_iconst C 0 dX8_free_16 ki_0 ?_
  refine aw_null C dX8_free_17 ?_
  obtain ⟨hb7, h⟩ := ck_some h
  obtain ⟨r8, hr8, h⟩ := Option.bind_eq_some_iff.mp h
  obtain ⟨fs9, hf9⟩ := isO_ex hb7
  refine aw_callV C (ci := 8) (b := v0) [.int (8 : Int32), .int v1, .int (0 : Int32), .null] mv_X8_103 rfl rfl hf9 (rmX8_doAct hr8) rfl dX8_free_18 (Nat.le_of_ble_eq_true rfl) (Nat.le_of_ble_eq_true rfl) rfl (Nat.le_of_ble_eq_true rfl) (show (0 + 0) + 4 ≤ 5 by omega) (show (0 + 0) + 124 ≤ 130 by omega) (fun v9 f9 n9 hh => ?_)
  obtain ⟨rfl, rfl, rfl⟩ := hh
  obtain ⟨hb10, h⟩ := ck_some h
  obtain ⟨r11, hr11, h⟩ := Option.bind_eq_some_iff.mp h
  obtain ⟨fs12, hf12⟩ := isO_ex hb10
  refine ax_callV C (ci := 8) (b := v0) [.int r8.1] mv_X8_139 rfl rfl hf12 (rmX8_finishCall hl0 hr11) rfl dX8_free_21 (Nat.le_of_ble_eq_true rfl) (Nat.le_of_ble_eq_true rfl) rfl (Nat.le_of_ble_eq_true rfl) (show ((0 + 0) + 4) + 1 ≤ 5 by omega) (show ((0 + 0) + 124) + 6 ≤ 130 by omega) (fun E9 f9 n9 hq => ?_) (fun v9 f9 n9 hq => ?_)
  · obtain ⟨e1, e2, e3⟩ := hq
    rw [tS_r e1] at h
    cases h
    exact at_out C htab ⟨rfl, e2, e3⟩ (by omega) (by omega)
  obtain ⟨y11, e11, rfl, rfl, rfl⟩ := hq
  rw [tS_l e11] at h
  replace h : ((gR r11.2.1 v0 8 7).bind fun x13 => ((x13).bind fun j14 => ((gR r11.2.1 j14 0 0).bind fun x15 => ((x15).bind fun j16 => rCk (isO r11.2.1 j16 5) (((mX5_size j16 r11.2.1 r11.2.2).bind fun r18 => some (.inl r18.1, (r18.2.1, r18.2.2)))))))) = some r := h
  refine aw_ald_n C dX8_free_24 rfl ?_
  obtain ⟨x13, hx13, h⟩ := Option.bind_eq_some_iff.mp h
  refine ah_getR C gf_X8_48 hx13 dX8_free_25 ?_
  obtain ⟨j14, hj14, h⟩ := Option.bind_eq_some_iff.mp h
  rw [hj14]
  obtain ⟨x15, hx15, h⟩ := Option.bind_eq_some_iff.mp h
  refine ah_getR C gf_X8_160 hx15 dX8_free_28 ?_
  obtain ⟨j16, hj16, h⟩ := Option.bind_eq_some_iff.mp h
  rw [hj16]
  obtain ⟨hb17, h⟩ := ck_some h
  obtain ⟨r18, hr18, h⟩ := Option.bind_eq_some_iff.mp h
  obtain ⟨fs19, hf19⟩ := isO_ex hb17
  refine aw_callV C (ci := 5) (b := j16) [] mv_X8_63 rfl rfl hf19 (rmX5_size hr18) rfl dX8_free_31 (Nat.le_of_ble_eq_true rfl) (Nat.le_of_ble_eq_true rfl) rfl (Nat.le_of_ble_eq_true rfl) (show (((0 + 0) + 4) + 1) + 0 ≤ 5 by omega) (show (((0 + 0) + 124) + 6) + 0 ≤ 130 by omega) (fun v9 f9 n9 hh => ?_)
  obtain ⟨rfl, rfl, rfl⟩ := hh
  cases h
  exact ax_of (aw_iret C rfl rfl dX8_free_34 (by omega) (by omega) ⟨_, rfl, rfl, rfl, rfl⟩)
def mX1_likeCount_b24 (rec4 : Nat → Int32 → Int32 → Int32 → AH → Nat → Option (Int32 × HpN)) (v0 : Nat) (v1 : Int32) (v2 : Int32) (v3 : Int32) (f : AH) (n : Nat) : Option (Int32 × HpN) := rec4 v0 v1 v2 (v3 + (1 : Int32)) f n
set_option maxHeartbeats 1000000 in
theorem rmX1_likeCount_b24 {X : GX} {p : Program} {l : Launch} {e : Env} {s : State} {m : MethodId} {args : Array Value} {below : List Frame} {meth : Method} {c : Code} {r : Int32 × HpN} {rec4 : Nat → Int32 → Int32 → Int32 → AH → Nat → Option (Int32 × HpN)} {v0 : Nat} {v1 : Int32} {v2 : Int32} {v3 : Int32} {f : AH} {n cells slots : Nat} (C : CC X p l (RM 3 0 0) s m args meth c RX1 cX1_likeCount 4 (some .int)) (Hr4 : ∀ (v0 : Nat) (v1 : Int32) (v2 : Int32) (v3 : Int32) (f : AH) (n cells slots : Nat), cells + 0 ≤ 0 → slots + 0 ≤ 0 → rec4 v0 v1 v2 v3 f n = some r → AW X p l e (RM 3 0 0) s m args below meth c 4 (ZM X below args s 0 0 (QHi r)) f n cells slots 4 [some (.ref v0), some (.int v1), some (.int v2), some (.int v3)] []) (hc : cells + 0 ≤ 0) (hs : slots + 0 ≤ 0) (h : mX1_likeCount_b24 rec4 v0 v1 v2 v3 f n = some r) : AW X p l e (RM 3 0 0) s m args below meth c 4 (ZM X below args s 0 0 (QHi r)) f n cells slots 24 [some (.ref v0), some (.int v1), some (.int v2), some (.int v3)] [] := by
  have h : rec4 v0 v1 v2 (v3 + (1 : Int32)) f n = some r := h
  refine aw_iinc C (v3 + (1 : Int32)) dX1_likeCount_24 rfl (by rw [ki_1]) (by decide) rfl ?_
  refine aw_nl [some (.ref v0), some (.int v1), some (.int v2), some (.int (v3 + (1 : Int32)))] rfl ?_
  refine aw_goto C 4 dX1_likeCount_27 (by decide) ?_
  refine aw_fl [some (.ref v0), some (.int v1), some (.int v2), some (.int (v3 + (1 : Int32)))] ⟨rfl, ⟨rfl, ⟨rfl, ⟨rfl, trivial⟩⟩⟩⟩ ?_
  exact Hr4 v0 v1 v2 (v3 + (1 : Int32)) f n _ _ (by omega) (by omega) h
def mX1_likeCount_l4 : Nat → Nat → Int32 → Int32 → Int32 → AH → Nat → Option (Int32 × HpN)
  | 0, _, _, _, _, _, _ => none
  | d + 1, v0, v1, v2, v3, f, n => ((gI f v0 1 3).bind fun x1 => (if x1 ≤ v3 then some (v2, (f, n)) else rCk (isO f v0 1) (((mX1_areLike v0 v1 v3 f n).bind fun r3 => (if r3.1 = (0 : Int32) then mX1_likeCount_b24 (fun v0 v1 v2 v3 f n => mX1_likeCount_l4 d v0 v1 v2 v3 f n) v0 v1 v2 v3 r3.2.1 r3.2.2 else mX1_likeCount_b24 (fun v0 v1 v2 v3 f n => mX1_likeCount_l4 d v0 v1 v2 v3 f n) v0 v1 (v2 + (1 : Int32)) v3 r3.2.1 r3.2.2)))))
set_option maxHeartbeats 1000000 in
theorem rmX1_likeCount_l4 {X : GX} {p : Program} {l : Launch} {e : Env} {s : State} {m : MethodId} {args : Array Value} {below : List Frame} {meth : Method} {c : Code} {r : Int32 × HpN} (C : CC X p l (RM 3 0 0) s m args meth c RX1 cX1_likeCount 4 (some .int)) : ∀ (d : Nat) (v0 : Nat) (v1 : Int32) (v2 : Int32) (v3 : Int32) (f : AH) (n cells slots : Nat) (_ : cells + 0 ≤ 0) (_ : slots + 0 ≤ 0) (_ : mX1_likeCount_l4 d v0 v1 v2 v3 f n = some r), AW X p l e (RM 3 0 0) s m args below meth c 4 (ZM X below args s 0 0 (QHi r)) f n cells slots 4 [some (.ref v0), some (.int v1), some (.int v2), some (.int v3)] [] := by
  intro d
  induction d with
  | zero =>
    intro v0 v1 v2 v3 f n cells slots hc hs h
    exact nomatch (show (none : Option (Int32 × HpN)) = some r from h)
  | succ d ih =>
    intro v0 v1 v2 v3 f n cells slots hc hs h
    have h : ((gI f v0 1 3).bind fun x1 => (if x1 ≤ v3 then some (v2, (f, n)) else rCk (isO f v0 1) (((mX1_areLike v0 v1 v3 f n).bind fun r3 => (if r3.1 = (0 : Int32) then mX1_likeCount_b24 (fun v0 v1 v2 v3 f n => mX1_likeCount_l4 d v0 v1 v2 v3 f n) v0 v1 v2 v3 r3.2.1 r3.2.2 else mX1_likeCount_b24 (fun v0 v1 v2 v3 f n => mX1_likeCount_l4 d v0 v1 v2 v3 f n) v0 v1 (v2 + (1 : Int32)) v3 r3.2.1 r3.2.2))))) = some r := h
    refine aw_iload_n C dX1_likeCount_4 rfl ?_
    refine aw_ald_n C dX1_likeCount_5 rfl ?_
    obtain ⟨x1, hx1, h⟩ := Option.bind_eq_some_iff.mp h
    refine ah_getI C gf_X1_46 hx1 dX1_likeCount_6 ?_
    refine aw_icmp_ge C 30 dX1_likeCount_9 (by decide) (fun q => ?_) (fun q => ?_)
    · rw [if_pos q] at h
      refine aw_iload_n C dX1_likeCount_30 rfl ?_
      cases h
      exact aw_iret C rfl rfl dX1_likeCount_31 (by omega) (by omega) ⟨rfl, rfl, rfl⟩
    · rw [if_neg q] at h
      refine aw_ald_n C dX1_likeCount_12 rfl ?_
      refine aw_iload_n C dX1_likeCount_13 rfl ?_
      refine aw_iload_n C dX1_likeCount_14 rfl ?_
      obtain ⟨hb2, h⟩ := ck_some h
      obtain ⟨r3, hr3, h⟩ := Option.bind_eq_some_iff.mp h
      obtain ⟨fs4, hf4⟩ := isO_ex hb2
      refine aw_callV C (ci := 1) (b := v0) [.int v1, .int v3] mv_X1_161 rfl rfl hf4 (rmX1_areLike hr3) rfl dX1_likeCount_15 (Nat.le_of_ble_eq_true rfl) (Nat.le_of_ble_eq_true rfl) rfl (Nat.le_of_ble_eq_true rfl) (show cells + 0 ≤ 0 by omega) (show slots + 0 ≤ 0 by omega) (fun v9 f9 n9 hh => ?_)
      obtain ⟨rfl, rfl, rfl⟩ := hh
      refine aw_if_eq C 24 dX1_likeCount_18 (by decide) (fun q => ?_) (fun q => ?_)
      · rw [if_pos q] at h
        refine aw_fl [some (.ref v0), some (.int v1), some (.int v2), some (.int v3)] ⟨rfl, ⟨rfl, ⟨rfl, ⟨rfl, trivial⟩⟩⟩⟩ ?_
        exact rmX1_likeCount_b24 C (fun v0 v1 v2 v3 f n cells slots hc hs h => ih v0 v1 v2 v3 f n cells slots hc hs h) (by omega) (by omega) h
      · rw [if_neg q] at h
        refine aw_iinc C (v2 + (1 : Int32)) dX1_likeCount_21 rfl (by rw [ki_1]) (by decide) rfl ?_
        refine aw_nl [some (.ref v0), some (.int v1), some (.int (v2 + (1 : Int32))), some (.int v3)] rfl ?_
        refine aw_fl [some (.ref v0), some (.int v1), some (.int (v2 + (1 : Int32))), some (.int v3)] ⟨rfl, ⟨rfl, ⟨rfl, ⟨rfl, trivial⟩⟩⟩⟩ ?_
        exact rmX1_likeCount_b24 C (fun v0 v1 v2 v3 f n cells slots hc hs h => ih v0 v1 v2 v3 f n cells slots hc hs h) (by omega) (by omega) h
def mX1_likeCount (v0 : Nat) (v1 : Int32) (f : AH) (n : Nat) : Option (Int32 × HpN) := mX1_likeCount_l4 rFU v0 v1 (0 : Int32) (0 : Int32) f n
set_option maxHeartbeats 1000000 in
theorem rmX1_likeCount {X : GX} {l : Launch} {r : Int32 × HpN} {v0 : Nat} {v1 : Int32} {f : AH} {n : Nat} (h : mX1_likeCount v0 v1 f n = some r) : AM X l yX1_likeCount cX1_likeCount 4 (some .int) 3 0 0 [.ref v0, .int v1] f n (QHi r) := by
  have h : mX1_likeCount_l4 rFU v0 v1 (0 : Int32) (0 : Int32) f n = some r := h
  refine AM.of (by decide +kernel) rfl (Nat.le_of_ble_eq_true rfl) (fun p e s m args below meth c C hnm => ?_)
  refine aw_nl [some (.ref v0), some (.int v1), none, none] rfl ?_
  refine aw_iconst C 0 dX1_likeCount_0 ki_0 ?_
  refine aw_istore_n C dX1_likeCount_1 (by decide) rfl ?_
  refine aw_nl [some (.ref v0), some (.int v1), some (.int (0 : Int32)), none] rfl ?_
  refine aw_iconst C 0 dX1_likeCount_2 ki_0 ?_
  refine aw_istore_n C dX1_likeCount_3 (by decide) rfl ?_
  refine aw_nl [some (.ref v0), some (.int v1), some (.int (0 : Int32)), some (.int (0 : Int32))] rfl ?_
  refine aw_fl [some (.ref v0), some (.int v1), some (.int (0 : Int32)), some (.int (0 : Int32))] ⟨rfl, ⟨rfl, ⟨rfl, ⟨rfl, trivial⟩⟩⟩⟩ ?_
  exact rmX1_likeCount_l4 C rFU v0 v1 (0 : Int32) (0 : Int32) f n _ _ (by omega) (by omega) h
def mX8_spread (v0 : Nat) (v1 : Int32) (f : AH) (n : Nat) : Option ((Int32 ⊕ String) × HpN) := ((gR f v0 8 2).bind fun x1 => ((gR f v0 8 1).bind fun x2 => ((x1).bind fun j3 => rCk (isO f j3 7) (((mX7_copyFrom j3 x2 f n).bind fun r5 => rCk (isO r5.2.1 v0 8) (((mX8_doAct v0 (9 : Int32) v1 (0 : Int32) (none : Option Nat) r5.2.1 r5.2.2).bind fun r8 => rCk (isO r8.2.1 v0 8) (((mX8_finishCall v0 r8.1 r8.2.1 r8.2.2).bind fun r11 => (tS r11.1 r11.2 (fun y11 => ((gR r11.2.1 v0 8 5).bind fun x13 => ((x13).bind fun j14 => rCk (isO r11.2.1 j14 1) (((mX1_likeCount j14 v1 r11.2.1 r11.2.2).bind fun r16 => some (.inl (r16.1 - (1 : Int32)), (r16.2.1, r16.2.2)))))))))))))))))
set_option maxHeartbeats 1000000 in
theorem rmX8_spread {X : GX} {l : Launch} {r : (Int32 ⊕ String) × HpN} {v0 : Nat} {v1 : Int32} {f : AH} {n : Nat} (hl0 : l.stackTraces = false) (h : mX8_spread v0 v1 f n = some r) : AX X l yX8_spread cX8_spread 2 (some .int) 7 5 130 [.ref v0, .int v1] f n (QTr (QHi) r) (QTx r) := by
  have h : ((gR f v0 8 2).bind fun x1 => ((gR f v0 8 1).bind fun x2 => ((x1).bind fun j3 => rCk (isO f j3 7) (((mX7_copyFrom j3 x2 f n).bind fun r5 => rCk (isO r5.2.1 v0 8) (((mX8_doAct v0 (9 : Int32) v1 (0 : Int32) (none : Option Nat) r5.2.1 r5.2.2).bind fun r8 => rCk (isO r8.2.1 v0 8) (((mX8_finishCall v0 r8.1 r8.2.1 r8.2.2).bind fun r11 => (tS r11.1 r11.2 (fun y11 => ((gR r11.2.1 v0 8 5).bind fun x13 => ((x13).bind fun j14 => rCk (isO r11.2.1 j14 1) (((mX1_likeCount j14 v1 r11.2.1 r11.2.2).bind fun r16 => some (.inl (r16.1 - (1 : Int32)), (r16.2.1, r16.2.2))))))))))))))))) = some r := h
  refine AX.of (by decide +kernel) rfl (Nat.le_of_ble_eq_true rfl) (fun p e s m args below meth c C htab => ?_)
  refine aw_nl [some (.ref v0), some (.int v1)] rfl ?_
  refine aw_ald_n C dX8_spread_0 rfl ?_
  obtain ⟨x1, hx1, h⟩ := Option.bind_eq_some_iff.mp h
  refine ah_getR C gf_X8_25 hx1 dX8_spread_1 ?_
  refine aw_ald_n C dX8_spread_4 rfl ?_
  obtain ⟨x2, hx2, h⟩ := Option.bind_eq_some_iff.mp h
  refine ah_getR C gf_X8_21 hx2 dX8_spread_5 ?_
  obtain ⟨j3, hj3, h⟩ := Option.bind_eq_some_iff.mp h
  rw [hj3]
  obtain ⟨hb4, h⟩ := ck_some h
  obtain ⟨r5, hr5, h⟩ := Option.bind_eq_some_iff.mp h
  obtain ⟨fs6, hf6⟩ := isO_ex hb4
  refine aw_callV C (ci := 7) (b := j3) [va_rf x2] mv_X8_73 rfl rfl hf6 (rmX7_copyFrom hr5) rfl dX8_spread_8 (Nat.le_of_ble_eq_true rfl) (Nat.le_of_ble_eq_true rfl) rfl (Nat.le_of_ble_eq_true rfl) (show 0 + 0 ≤ 5 by omega) (show 0 + 0 ≤ 130 by omega) (fun v9 f9 n9 hh => ?_)
  obtain ⟨rfl, rfl, rfl⟩ := hh
  refine aw_ald_n C dX8_spread_11 rfl ?_
  refine aw_ald_n C dX8_spread_12 rfl ?_
  refine aw_bipush C 9 dX8_spread_13 kb_9 ?_
  refine aw_iload_n C dX8_spread_15 rfl ?_
  refine aw_iconst C 0 dX8_spread_16 ki_0 ?_
  refine aw_null C dX8_spread_17 ?_
  obtain ⟨hb7, h⟩ := ck_some h
  obtain ⟨r8, hr8, h⟩ := Option.bind_eq_some_iff.mp h
  obtain ⟨fs9, hf9⟩ := isO_ex hb7
  refine aw_callV C (ci := 8) (b := v0) [.int (9 : Int32), .int v1, .int (0 : Int32), .null] mv_X8_103 rfl rfl hf9 (rmX8_doAct hr8) rfl dX8_spread_18 (Nat.le_of_ble_eq_true rfl) (Nat.le_of_ble_eq_true rfl) rfl (Nat.le_of_ble_eq_true rfl) (show (0 + 0) + 4 ≤ 5 by omega) (show (0 + 0) + 124 ≤ 130 by omega) (fun v9 f9 n9 hh => ?_)
  obtain ⟨rfl, rfl, rfl⟩ := hh
  obtain ⟨hb10, h⟩ := ck_some h
  obtain ⟨r11, hr11, h⟩ := Option.bind_eq_some_iff.mp h
  obtain ⟨fs12, hf12⟩ := isO_ex hb10
  refine ax_callV C (ci := 8) (b := v0) [.int r8.1] mv_X8_139 rfl rfl hf12 (rmX8_finishCall hl0 hr11) rfl dX8_spread_21 (Nat.le_of_ble_eq_true rfl) (Nat.le_of_ble_eq_true rfl) rfl (Nat.le_of_ble_eq_true rfl) (show ((0 + 0) + 4) + 1 ≤ 5 by omega) (show ((0 + 0) + 124) + 6 ≤ 130 by omega) (fun E9 f9 n9 hq => ?_) (fun v9 f9 n9 hq => ?_)
  · obtain ⟨e1, e2, e3⟩ := hq
    rw [tS_r e1] at h
    cases h
    exact at_out C htab ⟨rfl, e2, e3⟩ (by omega) (by omega)
  obtain ⟨y11, e11, rfl, rfl, rfl⟩ := hq
  rw [tS_l e11] at h
  replace h : ((gR r11.2.1 v0 8 5).bind fun x13 => ((x13).bind fun j14 => rCk (isO r11.2.1 j14 1) (((mX1_likeCount j14 v1 r11.2.1 r11.2.2).bind fun r16 => some (.inl (r16.1 - (1 : Int32)), (r16.2.1, r16.2.2)))))) = some r := h
  refine aw_ald_n C dX8_spread_24 rfl ?_
  obtain ⟨x13, hx13, h⟩ := Option.bind_eq_some_iff.mp h
  refine ah_getR C gf_X8_38 hx13 dX8_spread_25 ?_
  refine aw_iload_n C dX8_spread_28 rfl ?_
  obtain ⟨j14, hj14, h⟩ := Option.bind_eq_some_iff.mp h
  rw [hj14]
  obtain ⟨hb15, h⟩ := ck_some h
  obtain ⟨r16, hr16, h⟩ := Option.bind_eq_some_iff.mp h
  obtain ⟨fs17, hf17⟩ := isO_ex hb15
  refine aw_callV C (ci := 1) (b := j14) [.int v1] mv_X8_163 rfl rfl hf17 (rmX1_likeCount hr16) rfl dX8_spread_29 (Nat.le_of_ble_eq_true rfl) (Nat.le_of_ble_eq_true rfl) rfl (Nat.le_of_ble_eq_true rfl) (show (((0 + 0) + 4) + 1) + 0 ≤ 5 by omega) (show (((0 + 0) + 124) + 6) + 0 ≤ 130 by omega) (fun v9 f9 n9 hh => ?_)
  obtain ⟨rfl, rfl, rfl⟩ := hh
  refine aw_iconst C 1 dX8_spread_32 ki_1 ?_
  refine aw_isub C dX8_spread_33 ?_
  cases h
  exact ax_of (aw_iret C rfl rfl dX8_spread_34 (by omega) (by omega) ⟨_, rfl, rfl, rfl, rfl⟩)
def mX8_swap (v0 : Nat) (v1 : Int32) (v2 : Int32) (f : AH) (n : Nat) : Option ((Int32 ⊕ String) × HpN) := ((gR f v0 8 2).bind fun x1 => ((gR f v0 8 1).bind fun x2 => ((x1).bind fun j3 => rCk (isO f j3 7) (((mX7_copyFrom j3 x2 f n).bind fun r5 => rCk (isO r5.2.1 v0 8) (((mX8_doAct v0 (10 : Int32) v1 v2 (none : Option Nat) r5.2.1 r5.2.2).bind fun r8 => rCk (isO r8.2.1 v0 8) (((mX8_finishCall v0 r8.1 r8.2.1 r8.2.2).bind fun r11 => (tS r11.1 r11.2 (fun y11 => ((gR r11.2.1 v0 8 7).bind fun x13 => ((x13).bind fun j14 => ((gR r11.2.1 j14 0 0).bind fun x15 => ((x15).bind fun j16 => rCk (isO r11.2.1 j16 5) (((mX5_size j16 r11.2.1 r11.2.2).bind fun r18 => some (.inl r18.1, (r18.2.1, r18.2.2)))))))))))))))))))
set_option maxHeartbeats 1000000 in
theorem rmX8_swap {X : GX} {l : Launch} {r : (Int32 ⊕ String) × HpN} {v0 : Nat} {v1 : Int32} {v2 : Int32} {f : AH} {n : Nat} (hl0 : l.stackTraces = false) (h : mX8_swap v0 v1 v2 f n = some r) : AX X l yX8_swap cX8_swap 3 (some .int) 7 5 130 [.ref v0, .int v1, .int v2] f n (QTr (QHi) r) (QTx r) := by
  have h : ((gR f v0 8 2).bind fun x1 => ((gR f v0 8 1).bind fun x2 => ((x1).bind fun j3 => rCk (isO f j3 7) (((mX7_copyFrom j3 x2 f n).bind fun r5 => rCk (isO r5.2.1 v0 8) (((mX8_doAct v0 (10 : Int32) v1 v2 (none : Option Nat) r5.2.1 r5.2.2).bind fun r8 => rCk (isO r8.2.1 v0 8) (((mX8_finishCall v0 r8.1 r8.2.1 r8.2.2).bind fun r11 => (tS r11.1 r11.2 (fun y11 => ((gR r11.2.1 v0 8 7).bind fun x13 => ((x13).bind fun j14 => ((gR r11.2.1 j14 0 0).bind fun x15 => ((x15).bind fun j16 => rCk (isO r11.2.1 j16 5) (((mX5_size j16 r11.2.1 r11.2.2).bind fun r18 => some (.inl r18.1, (r18.2.1, r18.2.2))))))))))))))))))) = some r := h
  refine AX.of (by decide +kernel) rfl (Nat.le_of_ble_eq_true rfl) (fun p e s m args below meth c C htab => ?_)
  refine aw_nl [some (.ref v0), some (.int v1), some (.int v2)] rfl ?_
  refine aw_ald_n C dX8_swap_0 rfl ?_
  obtain ⟨x1, hx1, h⟩ := Option.bind_eq_some_iff.mp h
  refine ah_getR C gf_X8_25 hx1 dX8_swap_1 ?_
  refine aw_ald_n C dX8_swap_4 rfl ?_
  obtain ⟨x2, hx2, h⟩ := Option.bind_eq_some_iff.mp h
  refine ah_getR C gf_X8_21 hx2 dX8_swap_5 ?_
  obtain ⟨j3, hj3, h⟩ := Option.bind_eq_some_iff.mp h
  rw [hj3]
  obtain ⟨hb4, h⟩ := ck_some h
  obtain ⟨r5, hr5, h⟩ := Option.bind_eq_some_iff.mp h
  obtain ⟨fs6, hf6⟩ := isO_ex hb4
  refine aw_callV C (ci := 7) (b := j3) [va_rf x2] mv_X8_73 rfl rfl hf6 (rmX7_copyFrom hr5) rfl dX8_swap_8 (Nat.le_of_ble_eq_true rfl) (Nat.le_of_ble_eq_true rfl) rfl (Nat.le_of_ble_eq_true rfl) (show 0 + 0 ≤ 5 by omega) (show 0 + 0 ≤ 130 by omega) (fun v9 f9 n9 hh => ?_)
  obtain ⟨rfl, rfl, rfl⟩ := hh
  refine aw_ald_n C dX8_swap_11 rfl ?_
  refine aw_ald_n C dX8_swap_12 rfl ?_
  refine aw_bipush C 10 dX8_swap_13 kb_10 ?_
  refine aw_iload_n C dX8_swap_15 rfl ?_
  refine aw_iload_n C dX8_swap_16 rfl ?_
  refine aw_null C dX8_swap_17 ?_
  obtain ⟨hb7, h⟩ := ck_some h
  obtain ⟨r8, hr8, h⟩ := Option.bind_eq_some_iff.mp h
  obtain ⟨fs9, hf9⟩ := isO_ex hb7
  refine aw_callV C (ci := 8) (b := v0) [.int (10 : Int32), .int v1, .int v2, .null] mv_X8_103 rfl rfl hf9 (rmX8_doAct hr8) rfl dX8_swap_18 (Nat.le_of_ble_eq_true rfl) (Nat.le_of_ble_eq_true rfl) rfl (Nat.le_of_ble_eq_true rfl) (show (0 + 0) + 4 ≤ 5 by omega) (show (0 + 0) + 124 ≤ 130 by omega) (fun v9 f9 n9 hh => ?_)
  obtain ⟨rfl, rfl, rfl⟩ := hh
  obtain ⟨hb10, h⟩ := ck_some h
  obtain ⟨r11, hr11, h⟩ := Option.bind_eq_some_iff.mp h
  obtain ⟨fs12, hf12⟩ := isO_ex hb10
  refine ax_callV C (ci := 8) (b := v0) [.int r8.1] mv_X8_139 rfl rfl hf12 (rmX8_finishCall hl0 hr11) rfl dX8_swap_21 (Nat.le_of_ble_eq_true rfl) (Nat.le_of_ble_eq_true rfl) rfl (Nat.le_of_ble_eq_true rfl) (show ((0 + 0) + 4) + 1 ≤ 5 by omega) (show ((0 + 0) + 124) + 6 ≤ 130 by omega) (fun E9 f9 n9 hq => ?_) (fun v9 f9 n9 hq => ?_)
  · obtain ⟨e1, e2, e3⟩ := hq
    rw [tS_r e1] at h
    cases h
    exact at_out C htab ⟨rfl, e2, e3⟩ (by omega) (by omega)
  obtain ⟨y11, e11, rfl, rfl, rfl⟩ := hq
  rw [tS_l e11] at h
  replace h : ((gR r11.2.1 v0 8 7).bind fun x13 => ((x13).bind fun j14 => ((gR r11.2.1 j14 0 0).bind fun x15 => ((x15).bind fun j16 => rCk (isO r11.2.1 j16 5) (((mX5_size j16 r11.2.1 r11.2.2).bind fun r18 => some (.inl r18.1, (r18.2.1, r18.2.2)))))))) = some r := h
  refine aw_ald_n C dX8_swap_24 rfl ?_
  obtain ⟨x13, hx13, h⟩ := Option.bind_eq_some_iff.mp h
  refine ah_getR C gf_X8_48 hx13 dX8_swap_25 ?_
  obtain ⟨j14, hj14, h⟩ := Option.bind_eq_some_iff.mp h
  rw [hj14]
  obtain ⟨x15, hx15, h⟩ := Option.bind_eq_some_iff.mp h
  refine ah_getR C gf_X8_160 hx15 dX8_swap_28 ?_
  obtain ⟨j16, hj16, h⟩ := Option.bind_eq_some_iff.mp h
  rw [hj16]
  obtain ⟨hb17, h⟩ := ck_some h
  obtain ⟨r18, hr18, h⟩ := Option.bind_eq_some_iff.mp h
  obtain ⟨fs19, hf19⟩ := isO_ex hb17
  refine aw_callV C (ci := 5) (b := j16) [] mv_X8_63 rfl rfl hf19 (rmX5_size hr18) rfl dX8_swap_31 (Nat.le_of_ble_eq_true rfl) (Nat.le_of_ble_eq_true rfl) rfl (Nat.le_of_ble_eq_true rfl) (show (((0 + 0) + 4) + 1) + 0 ≤ 5 by omega) (show (((0 + 0) + 124) + 6) + 0 ≤ 130 by omega) (fun v9 f9 n9 hh => ?_)
  obtain ⟨rfl, rfl, rfl⟩ := hh
  cases h
  exact ax_of (aw_iret C rfl rfl dX8_swap_34 (by omega) (by omega) ⟨_, rfl, rfl, rfl, rfl⟩)
def mX8_wipe (v0 : Nat) (f : AH) (n : Nat) : Option ((Int32 ⊕ String) × HpN) := ((gR f v0 8 1).bind fun x1 => ((x1).bind fun j2 => rCk (isO f j2 7) (((mX7_toldCount j2 f n).bind fun r4 => ((gR r4.2.1 v0 8 2).bind fun x6 => ((gR r4.2.1 v0 8 1).bind fun x7 => ((x6).bind fun j8 => rCk (isO r4.2.1 j8 7) (((mX7_copyFrom j8 x7 r4.2.1 r4.2.2).bind fun r10 => rCk (isO r10.2.1 v0 8) (((mX8_doAct v0 (11 : Int32) (0 : Int32) (0 : Int32) (none : Option Nat) r10.2.1 r10.2.2).bind fun r13 => rCk (isO r13.2.1 v0 8) (((mX8_finishCall v0 r13.1 r13.2.1 r13.2.2).bind fun r16 => (tS r16.1 r16.2 (fun y16 => some (.inl r4.1, (r16.2.1, r16.2.2)))))))))))))))))
set_option maxHeartbeats 1000000 in
theorem rmX8_wipe {X : GX} {l : Launch} {r : (Int32 ⊕ String) × HpN} {v0 : Nat} {f : AH} {n : Nat} (hl0 : l.stackTraces = false) (h : mX8_wipe v0 f n = some r) : AX X l yX8_wipe cX8_wipe 2 (some .int) 7 5 130 [.ref v0] f n (QTr (QHi) r) (QTx r) := by
  have h : ((gR f v0 8 1).bind fun x1 => ((x1).bind fun j2 => rCk (isO f j2 7) (((mX7_toldCount j2 f n).bind fun r4 => ((gR r4.2.1 v0 8 2).bind fun x6 => ((gR r4.2.1 v0 8 1).bind fun x7 => ((x6).bind fun j8 => rCk (isO r4.2.1 j8 7) (((mX7_copyFrom j8 x7 r4.2.1 r4.2.2).bind fun r10 => rCk (isO r10.2.1 v0 8) (((mX8_doAct v0 (11 : Int32) (0 : Int32) (0 : Int32) (none : Option Nat) r10.2.1 r10.2.2).bind fun r13 => rCk (isO r13.2.1 v0 8) (((mX8_finishCall v0 r13.1 r13.2.1 r13.2.2).bind fun r16 => (tS r16.1 r16.2 (fun y16 => some (.inl r4.1, (r16.2.1, r16.2.2))))))))))))))))) = some r := h
  refine AX.of (by decide +kernel) rfl (Nat.le_of_ble_eq_true rfl) (fun p e s m args below meth c C htab => ?_)
  refine aw_nl [some (.ref v0), none] rfl ?_
  refine aw_ald_n C dX8_wipe_0 rfl ?_
  obtain ⟨x1, hx1, h⟩ := Option.bind_eq_some_iff.mp h
  refine ah_getR C gf_X8_21 hx1 dX8_wipe_1 ?_
  obtain ⟨j2, hj2, h⟩ := Option.bind_eq_some_iff.mp h
  rw [hj2]
  obtain ⟨hb3, h⟩ := ck_some h
  obtain ⟨r4, hr4, h⟩ := Option.bind_eq_some_iff.mp h
  obtain ⟨fs5, hf5⟩ := isO_ex hb3
  refine aw_callV C (ci := 7) (b := j2) [] mv_X8_167 rfl rfl hf5 (rmX7_toldCount hr4) rfl dX8_wipe_4 (Nat.le_of_ble_eq_true rfl) (Nat.le_of_ble_eq_true rfl) rfl (Nat.le_of_ble_eq_true rfl) (show 0 + 0 ≤ 5 by omega) (show 0 + 0 ≤ 130 by omega) (fun v9 f9 n9 hh => ?_)
  obtain ⟨rfl, rfl, rfl⟩ := hh
  refine aw_istore_n C dX8_wipe_7 (by decide) rfl ?_
  refine aw_nl [some (.ref v0), some (.int r4.1)] rfl ?_
  refine aw_ald_n C dX8_wipe_8 rfl ?_
  obtain ⟨x6, hx6, h⟩ := Option.bind_eq_some_iff.mp h
  refine ah_getR C gf_X8_25 hx6 dX8_wipe_9 ?_
  refine aw_ald_n C dX8_wipe_12 rfl ?_
  obtain ⟨x7, hx7, h⟩ := Option.bind_eq_some_iff.mp h
  refine ah_getR C gf_X8_21 hx7 dX8_wipe_13 ?_
  obtain ⟨j8, hj8, h⟩ := Option.bind_eq_some_iff.mp h
  rw [hj8]
  obtain ⟨hb9, h⟩ := ck_some h
  obtain ⟨r10, hr10, h⟩ := Option.bind_eq_some_iff.mp h
  obtain ⟨fs11, hf11⟩ := isO_ex hb9
  refine aw_callV C (ci := 7) (b := j8) [va_rf x7] mv_X8_73 rfl rfl hf11 (rmX7_copyFrom hr10) rfl dX8_wipe_16 (Nat.le_of_ble_eq_true rfl) (Nat.le_of_ble_eq_true rfl) rfl (Nat.le_of_ble_eq_true rfl) (show (0 + 0) + 0 ≤ 5 by omega) (show (0 + 0) + 0 ≤ 130 by omega) (fun v9 f9 n9 hh => ?_)
  obtain ⟨rfl, rfl, rfl⟩ := hh
  refine aw_ald_n C dX8_wipe_19 rfl ?_
  refine aw_ald_n C dX8_wipe_20 rfl ?_
  refine aw_bipush C 11 dX8_wipe_21 kb_11 ?_
  refine aw_iconst C 0 dX8_wipe_23 ki_0 ?_
  refine aw_iconst C 0 dX8_wipe_24 ki_0 ?_
  refine aw_null C dX8_wipe_25 ?_
  obtain ⟨hb12, h⟩ := ck_some h
  obtain ⟨r13, hr13, h⟩ := Option.bind_eq_some_iff.mp h
  obtain ⟨fs14, hf14⟩ := isO_ex hb12
  refine aw_callV C (ci := 8) (b := v0) [.int (11 : Int32), .int (0 : Int32), .int (0 : Int32), .null] mv_X8_103 rfl rfl hf14 (rmX8_doAct hr13) rfl dX8_wipe_26 (Nat.le_of_ble_eq_true rfl) (Nat.le_of_ble_eq_true rfl) rfl (Nat.le_of_ble_eq_true rfl) (show ((0 + 0) + 0) + 4 ≤ 5 by omega) (show ((0 + 0) + 0) + 124 ≤ 130 by omega) (fun v9 f9 n9 hh => ?_)
  obtain ⟨rfl, rfl, rfl⟩ := hh
  obtain ⟨hb15, h⟩ := ck_some h
  obtain ⟨r16, hr16, h⟩ := Option.bind_eq_some_iff.mp h
  obtain ⟨fs17, hf17⟩ := isO_ex hb15
  refine ax_callV C (ci := 8) (b := v0) [.int r13.1] mv_X8_139 rfl rfl hf17 (rmX8_finishCall hl0 hr16) rfl dX8_wipe_29 (Nat.le_of_ble_eq_true rfl) (Nat.le_of_ble_eq_true rfl) rfl (Nat.le_of_ble_eq_true rfl) (show (((0 + 0) + 0) + 4) + 1 ≤ 5 by omega) (show (((0 + 0) + 0) + 124) + 6 ≤ 130 by omega) (fun E9 f9 n9 hq => ?_) (fun v9 f9 n9 hq => ?_)
  · obtain ⟨e1, e2, e3⟩ := hq
    rw [tS_r e1] at h
    cases h
    exact at_out C htab ⟨rfl, e2, e3⟩ (by omega) (by omega)
  obtain ⟨y16, e16, rfl, rfl, rfl⟩ := hq
  rw [tS_l e16] at h
  replace h : some (.inl r4.1, (r16.2.1, r16.2.2)) = some r := h
  refine aw_iload_n C dX8_wipe_32 rfl ?_
  cases h
  exact ax_of (aw_iret C rfl rfl dX8_wipe_33 (by omega) (by omega) ⟨_, rfl, rfl, rfl, rfl⟩)
def mX8_undo_b34 (f : AH) (n : Nat) : Option ((Int32 ⊕ String) × HpN) := some (.inr eS, (f, n))
set_option maxHeartbeats 1000000 in
theorem rmX8_undo_b34 {X : GX} {p : Program} {l : Launch} {e : Env} {s : State} {m : MethodId} {args : Array Value} {below : List Frame} {meth : Method} {c : Code} {r : (Int32 ⊕ String) × HpN} {f : AH} {n cells slots : Nat} (C : CC X p l (RM 6 1 6) s m args meth c RX8 cX8_undo 1 (some .int)) (hl0 : l.stackTraces = false) (htab : ∀ x ∈ c.exceptionTable.toList, False) (hc : cells + 1 ≤ 1) (hs : slots + 6 ≤ 6) (h : mX8_undo_b34 f n = some r) : AW X p l e (RM 6 1 6) s m args below meth c 1 (ZX X below args s 1 6 (QTr (QHi) r) (QTx r)) f n cells slots 34 [none] [] := by
  have h : some (.inr eS, (f, n)) = some r := h
  cases h
  exact ax_throw C htab hl0 th_eS sx_172 dX8_undo_34 dX8_undo_37 dX8_undo_38 dX8_undo_40 dX8_undo_43 (Nat.le_of_ble_eq_true rfl) (Nat.le_of_ble_eq_true rfl) (show cells + 1 ≤ 1 by omega) (show slots + 6 ≤ 6 by omega) (by omega) (by omega) (fun n9 h9 => ⟨rfl, rfl, h9⟩)
def mX8_undo (v0 : Nat) (f : AH) (n : Nat) : Option ((Int32 ⊕ String) × HpN) := ((gI f v0 8 11).bind fun x1 => (if x1 < (1 : Int32) then mX8_undo_b34 f n else ((gI f v0 8 11).bind fun x2 => ((gR f v0 8 4).bind fun x3 => ((x3).bind fun j4 => ((gL f j4).bind fun x5 => (if (nI x5) < x2 then mX8_undo_b34 f n else ((gR f v0 8 4).bind fun x6 => ((gI f v0 8 11).bind fun x7 => ((x6).bind fun j8 => ((gRA f j8 (x7 - (1 : Int32))).bind fun x9 => (oN x9 (mX8_undo_b34 f n) (fun j10 => ((gI f v0 8 11).bind fun x11 => ((pO f v0 8 11 (.int (x11 - (1 : Int32)))).bind fun f12 => ((gR f12 v0 8 4).bind fun x13 => ((gI f12 v0 8 11).bind fun x14 => ((x13).bind fun j15 => ((gRA f12 j15 x14).bind fun x16 => rCk (isO f12 v0 8) (((mX8_restore v0 x16 f12 n).bind fun r18 => ((gI r18.2.1 v0 8 11).bind fun x20 => some (.inl x20, (r18.2.1, r18.2.2))))))))))))))))))))))))
set_option maxHeartbeats 1000000 in
theorem rmX8_undo {X : GX} {l : Launch} {r : (Int32 ⊕ String) × HpN} {v0 : Nat} {f : AH} {n : Nat} (hl0 : l.stackTraces = false) (h : mX8_undo v0 f n = some r) : AX X l yX8_undo cX8_undo 1 (some .int) 6 1 6 [.ref v0] f n (QTr (QHi) r) (QTx r) := by
  have h : ((gI f v0 8 11).bind fun x1 => (if x1 < (1 : Int32) then mX8_undo_b34 f n else ((gI f v0 8 11).bind fun x2 => ((gR f v0 8 4).bind fun x3 => ((x3).bind fun j4 => ((gL f j4).bind fun x5 => (if (nI x5) < x2 then mX8_undo_b34 f n else ((gR f v0 8 4).bind fun x6 => ((gI f v0 8 11).bind fun x7 => ((x6).bind fun j8 => ((gRA f j8 (x7 - (1 : Int32))).bind fun x9 => (oN x9 (mX8_undo_b34 f n) (fun j10 => ((gI f v0 8 11).bind fun x11 => ((pO f v0 8 11 (.int (x11 - (1 : Int32)))).bind fun f12 => ((gR f12 v0 8 4).bind fun x13 => ((gI f12 v0 8 11).bind fun x14 => ((x13).bind fun j15 => ((gRA f12 j15 x14).bind fun x16 => rCk (isO f12 v0 8) (((mX8_restore v0 x16 f12 n).bind fun r18 => ((gI r18.2.1 v0 8 11).bind fun x20 => some (.inl x20, (r18.2.1, r18.2.2)))))))))))))))))))))))) = some r := h
  refine AX.of (by decide +kernel) rfl (Nat.le_of_ble_eq_true rfl) (fun p e s m args below meth c C htab => ?_)
  refine aw_nl [some (.ref v0)] rfl ?_
  refine aw_ald_n C dX8_undo_0 rfl ?_
  obtain ⟨x1, hx1, h⟩ := Option.bind_eq_some_iff.mp h
  refine ah_getI C gf_X8_123 hx1 dX8_undo_1 ?_
  refine aw_iconst C 1 dX8_undo_4 ki_1 ?_
  refine aw_icmp_lt C 34 dX8_undo_5 (by decide) (fun q => ?_) (fun q => ?_)
  · rw [if_pos q] at h
    refine aw_fl [none] trivial ?_
    exact rmX8_undo_b34 C hl0 htab (by omega) (by omega) h
  · rw [if_neg q] at h
    refine aw_ald_n C dX8_undo_8 rfl ?_
    obtain ⟨x2, hx2, h⟩ := Option.bind_eq_some_iff.mp h
    refine ah_getI C gf_X8_123 hx2 dX8_undo_9 ?_
    refine aw_ald_n C dX8_undo_12 rfl ?_
    obtain ⟨x3, hx3, h⟩ := Option.bind_eq_some_iff.mp h
    refine ah_getR C gf_X8_31 hx3 dX8_undo_13 ?_
    obtain ⟨j4, hj4, h⟩ := Option.bind_eq_some_iff.mp h
    rw [hj4]
    obtain ⟨x5, hx5, h⟩ := Option.bind_eq_some_iff.mp h
    refine ah_len C hx5 dX8_undo_16 ?_
    refine aw_icmp_gt C 34 dX8_undo_17 (by decide) (fun q => ?_) (fun q => ?_)
    · rw [if_pos q] at h
      refine aw_fl [none] trivial ?_
      exact rmX8_undo_b34 C hl0 htab (by omega) (by omega) h
    · rw [if_neg q] at h
      refine aw_ald_n C dX8_undo_20 rfl ?_
      obtain ⟨x6, hx6, h⟩ := Option.bind_eq_some_iff.mp h
      refine ah_getR C gf_X8_31 hx6 dX8_undo_21 ?_
      refine aw_ald_n C dX8_undo_24 rfl ?_
      obtain ⟨x7, hx7, h⟩ := Option.bind_eq_some_iff.mp h
      refine ah_getI C gf_X8_123 hx7 dX8_undo_25 ?_
      refine aw_iconst C 1 dX8_undo_28 ki_1 ?_
      refine aw_isub C dX8_undo_29 ?_
      obtain ⟨j8, hj8, h⟩ := Option.bind_eq_some_iff.mp h
      rw [hj8]
      obtain ⟨x9, hx9, h⟩ := Option.bind_eq_some_iff.mp h
      refine ah_aald C hx9 dX8_undo_30 ?_
      cases x9 with
      | none =>
        replace h : mX8_undo_b34 f n = some r := h
        refine aw_ifnonnull_n C 44 dX8_undo_31 (by decide) ?_
        refine aw_fl [none] trivial ?_
        exact rmX8_undo_b34 C hl0 htab (by omega) (by omega) h
      | some j10 =>
        replace h : ((gI f v0 8 11).bind fun x11 => ((pO f v0 8 11 (.int (x11 - (1 : Int32)))).bind fun f12 => ((gR f12 v0 8 4).bind fun x13 => ((gI f12 v0 8 11).bind fun x14 => ((x13).bind fun j15 => ((gRA f12 j15 x14).bind fun x16 => rCk (isO f12 v0 8) (((mX8_restore v0 x16 f12 n).bind fun r18 => ((gI r18.2.1 v0 8 11).bind fun x20 => some (.inl x20, (r18.2.1, r18.2.2))))))))))) = some r := h
        refine aw_ifnonnull_r C 44 dX8_undo_31 (by decide) ?_
        refine aw_ald_n C dX8_undo_44 rfl ?_
        refine aw_dup C dX8_undo_45 rfl ?_
        obtain ⟨x11, hx11, h⟩ := Option.bind_eq_some_iff.mp h
        refine ah_getI C gf_X8_123 hx11 dX8_undo_46 ?_
        refine aw_iconst C 1 dX8_undo_49 ki_1 ?_
        refine aw_isub C dX8_undo_50 ?_
        obtain ⟨f12, hf12, h⟩ := Option.bind_eq_some_iff.mp h
        refine ah_put C gf_X8_123 cf8 nf8_11 rfl rfl hf12 dX8_undo_51 ?_
        refine aw_ald_n C dX8_undo_54 rfl ?_
        refine aw_ald_n C dX8_undo_55 rfl ?_
        obtain ⟨x13, hx13, h⟩ := Option.bind_eq_some_iff.mp h
        refine ah_getR C gf_X8_31 hx13 dX8_undo_56 ?_
        refine aw_ald_n C dX8_undo_59 rfl ?_
        obtain ⟨x14, hx14, h⟩ := Option.bind_eq_some_iff.mp h
        refine ah_getI C gf_X8_123 hx14 dX8_undo_60 ?_
        obtain ⟨j15, hj15, h⟩ := Option.bind_eq_some_iff.mp h
        rw [hj15]
        obtain ⟨x16, hx16, h⟩ := Option.bind_eq_some_iff.mp h
        refine ah_aald C hx16 dX8_undo_63 ?_
        obtain ⟨hb17, h⟩ := ck_some h
        obtain ⟨r18, hr18, h⟩ := Option.bind_eq_some_iff.mp h
        obtain ⟨fs19, hf19⟩ := isO_ex hb17
        refine aw_callV C (ci := 8) (b := v0) [va_rf x16] mv_X8_113 rfl rfl hf19 (rmX8_restore hr18) rfl dX8_undo_64 (Nat.le_of_ble_eq_true rfl) (Nat.le_of_ble_eq_true rfl) rfl (Nat.le_of_ble_eq_true rfl) (show 0 + 0 ≤ 1 by omega) (show 0 + 0 ≤ 6 by omega) (fun v9 f9 n9 hh => ?_)
        obtain ⟨rfl, rfl, rfl⟩ := hh
        refine aw_ald_n C dX8_undo_67 rfl ?_
        obtain ⟨x20, hx20, h⟩ := Option.bind_eq_some_iff.mp h
        refine ah_getI C gf_X8_123 hx20 dX8_undo_68 ?_
        cases h
        exact ax_of (aw_iret C rfl rfl dX8_undo_71 (by omega) (by omega) ⟨_, rfl, rfl, rfl, rfl⟩)
def mX8_pieceOrThrow (v0 : Nat) (v1 : Int32) (f : AH) (n : Nat) : Option ((Option Nat ⊕ String) × HpN) := ((gR f v0 8 5).bind fun x1 => ((x1).bind fun j2 => rCk (isO f j2 1) (((mX1_get j2 v1 f n).bind fun r4 => ((some r4.1).bind fun x6 => (oN x6 (some (.inr eI, (r4.2.1, r4.2.2))) (fun j7 => some (.inl (some j7), (r4.2.1, r4.2.2)))))))))
set_option maxHeartbeats 1000000 in
theorem rmX8_pieceOrThrow {X : GX} {l : Launch} {r : (Option Nat ⊕ String) × HpN} {v0 : Nat} {v1 : Int32} {f : AH} {n : Nat} (hl0 : l.stackTraces = false) (h : mX8_pieceOrThrow v0 v1 f n = some r) : AX X l yX8_pieceOrThrow cX8_pieceOrThrow 3 (some (.object "PieceFiles$Piece")) 6 1 6 [.ref v0, .int v1] f n (QTr (QHr) r) (QTx r) := by
  have h : ((gR f v0 8 5).bind fun x1 => ((x1).bind fun j2 => rCk (isO f j2 1) (((mX1_get j2 v1 f n).bind fun r4 => ((some r4.1).bind fun x6 => (oN x6 (some (.inr eI, (r4.2.1, r4.2.2))) (fun j7 => some (.inl (some j7), (r4.2.1, r4.2.2))))))))) = some r := h
  refine AX.of (by decide +kernel) rfl (Nat.le_of_ble_eq_true rfl) (fun p e s m args below meth c C htab => ?_)
  refine aw_nl [some (.ref v0), some (.int v1), none] rfl ?_
  refine aw_ald_n C dX8_pieceOrThrow_0 rfl ?_
  obtain ⟨x1, hx1, h⟩ := Option.bind_eq_some_iff.mp h
  refine ah_getR C gf_X8_38 hx1 dX8_pieceOrThrow_1 ?_
  refine aw_iload_n C dX8_pieceOrThrow_4 rfl ?_
  obtain ⟨j2, hj2, h⟩ := Option.bind_eq_some_iff.mp h
  rw [hj2]
  obtain ⟨hb3, h⟩ := ck_some h
  obtain ⟨r4, hr4, h⟩ := Option.bind_eq_some_iff.mp h
  obtain ⟨fs5, hf5⟩ := isO_ex hb3
  refine aw_callV C (ci := 1) (b := j2) [.int v1] mv_X8_241 rfl rfl hf5 (rmX1_get hr4) rfl dX8_pieceOrThrow_5 (Nat.le_of_ble_eq_true rfl) (Nat.le_of_ble_eq_true rfl) rfl (Nat.le_of_ble_eq_true rfl) (show 0 + 0 ≤ 1 by omega) (show 0 + 0 ≤ 6 by omega) (fun v9 f9 n9 hh => ?_)
  obtain ⟨rfl, rfl, rfl⟩ := hh
  obtain ⟨x6, hx6, h⟩ := Option.bind_eq_some_iff.mp h
  rw [Option.some.inj hx6]
  refine aw_astore_n C dX8_pieceOrThrow_8 (by decide) rfl (rf_or x6) ?_
  refine aw_nl [some (.ref v0), some (.int v1), some (va_rf x6)] rfl ?_
  refine aw_aload_n C dX8_pieceOrThrow_9 rfl (rf_or x6) ?_
  cases x6 with
  | none =>
    replace h : some (.inr eI, (r4.2.1, r4.2.2)) = some r := h
    refine aw_ifnonnull_n C 24 dX8_pieceOrThrow_10 (by decide) ?_
    cases h
    exact ax_throwW C htab hl0 th_eI sx_323 dX8_pieceOrThrow_13 dX8_pieceOrThrow_16 dX8_pieceOrThrow_17 dX8_pieceOrThrow_20 dX8_pieceOrThrow_23 (Nat.le_of_ble_eq_true rfl) (Nat.le_of_ble_eq_true rfl) (show (0 + 0) + 1 ≤ 1 by omega) (show (0 + 0) + 6 ≤ 6 by omega) (by omega) (by omega) (fun n9 h9 => ⟨rfl, rfl, h9⟩)
  | some j7 =>
    replace h : some (.inl (some j7), (r4.2.1, r4.2.2)) = some r := h
    refine aw_ifnonnull_r C 24 dX8_pieceOrThrow_10 (by decide) ?_
    refine aw_ald_n C dX8_pieceOrThrow_24 rfl ?_
    cases h
    exact ax_of (aw_aret C rfl (Or.inr ⟨_, rfl⟩) dX8_pieceOrThrow_25 (by omega) (by omega) ⟨_, rfl, rfl, rfl, rfl⟩)
end
/-! part 32ar.cls -/
section
def mX8_knownPair_b78 (f : AH) (n : Nat) : Option (Int32 × HpN) := some ((-1 : Int32), (f, n))
set_option maxHeartbeats 1000000 in
theorem rmX8_knownPair_b78 {X : GX} {p : Program} {l : Launch} {e : Env} {s : State} {m : MethodId} {args : Array Value} {below : List Frame} {meth : Method} {c : Code} {r : Int32 × HpN} {f : AH} {n cells slots : Nat} (C : CC X p l (RM 2 0 0) s m args meth c RX8 cX8_knownPair 4 (some .int)) (hc : cells + 0 ≤ 0) (hs : slots + 0 ≤ 0) (h : mX8_knownPair_b78 f n = some r) : AW X p l e (RM 2 0 0) s m args below meth c 4 (ZM X below args s 0 0 (QHi r)) f n cells slots 78 [none, none, none, none] [] := by
  have h : some ((-1 : Int32), (f, n)) = some r := h
  refine aw_iconst C (-1) dX8_knownPair_78 ki_m1 ?_
  cases h
  exact aw_iret C rfl rfl dX8_knownPair_79 (by omega) (by omega) ⟨rfl, rfl, rfl⟩
def mX8_knownPair_b67 (rec10 : Nat → (Option Nat) → (Option Nat) → Int32 → AH → Nat → Option (Int32 × HpN)) (v0 : Nat) (v1 : Option Nat) (v2 : Option Nat) (v3 : Int32) (f : AH) (n : Nat) : Option (Int32 × HpN) := ((v2).bind fun j1 => ((gR f j1 2 2).bind fun x2 => rec10 v0 v1 x2 (v3 + (1 : Int32)) f n))
set_option maxHeartbeats 1000000 in
theorem rmX8_knownPair_b67 {X : GX} {p : Program} {l : Launch} {e : Env} {s : State} {m : MethodId} {args : Array Value} {below : List Frame} {meth : Method} {c : Code} {r : Int32 × HpN} {rec10 : Nat → (Option Nat) → (Option Nat) → Int32 → AH → Nat → Option (Int32 × HpN)} {v0 : Nat} {v1 : Option Nat} {v2 : Option Nat} {v3 : Int32} {f : AH} {n cells slots : Nat} (C : CC X p l (RM 2 0 0) s m args meth c RX8 cX8_knownPair 4 (some .int)) (Hr10 : ∀ (v0 : Nat) (v1 : Option Nat) (v2 : Option Nat) (v3 : Int32) (f : AH) (n cells slots : Nat), cells + 0 ≤ 0 → slots + 0 ≤ 0 → rec10 v0 v1 v2 v3 f n = some r → AW X p l e (RM 2 0 0) s m args below meth c 4 (ZM X below args s 0 0 (QHi r)) f n cells slots 10 [some (.ref v0), some (va_rf v1), some (va_rf v2), some (.int v3)] []) (hc : cells + 0 ≤ 0) (hs : slots + 0 ≤ 0) (h : mX8_knownPair_b67 rec10 v0 v1 v2 v3 f n = some r) : AW X p l e (RM 2 0 0) s m args below meth c 4 (ZM X below args s 0 0 (QHi r)) f n cells slots 67 [some (.ref v0), some (va_rf v1), some (va_rf v2), some (.int v3)] [] := by
  have h : ((v2).bind fun j1 => ((gR f j1 2 2).bind fun x2 => rec10 v0 v1 x2 (v3 + (1 : Int32)) f n)) = some r := h
  refine aw_aload_n C dX8_knownPair_67 rfl (rf_or v2) ?_
  obtain ⟨j1, hj1, h⟩ := Option.bind_eq_some_iff.mp h
  rw [hj1]
  obtain ⟨x2, hx2, h⟩ := Option.bind_eq_some_iff.mp h
  refine ah_getR C gf_X8_265 hx2 dX8_knownPair_68 ?_
  refine aw_astore_n C dX8_knownPair_71 (by decide) (ok_rf 1 rfl) (rf_or x2) ?_
  refine aw_nl [some (.ref v0), some (va_rf v1), some (va_rf x2), some (.int v3)] rfl ?_
  refine aw_iinc C (v3 + (1 : Int32)) dX8_knownPair_72 rfl (by rw [ki_1]) (by decide) (ok_rf 2 rfl) ?_
  refine aw_nl [some (.ref v0), some (va_rf v1), some (va_rf x2), some (.int (v3 + (1 : Int32)))] rfl ?_
  refine aw_goto C 10 dX8_knownPair_75 (by decide) ?_
  refine aw_fl [some (.ref v0), some (va_rf v1), some (va_rf x2), some (.int (v3 + (1 : Int32)))] ⟨rfl, ⟨rfl, ⟨rfl, ⟨rfl, trivial⟩⟩⟩⟩ ?_
  exact Hr10 v0 v1 x2 (v3 + (1 : Int32)) f n _ _ (by omega) (by omega) h
def mX8_knownPair_l10 : Nat → Nat → (Option Nat) → (Option Nat) → Int32 → AH → Nat → Option (Int32 × HpN)
  | 0, _, _, _, _, _, _ => none
  | d + 1, v0, v1, v2, v3, f, n => ((gR f v0 8 1).bind fun x1 => ((x1).bind fun j2 => ((gI f j2 7 7).bind fun x3 => (if x3 ≤ v3 then mX8_knownPair_b78 f n else (oN v2 (mX8_knownPair_b78 f n) (fun j4 => ((gR f j4 2 0).bind fun x5 => ((x5).bind fun j6 => rCk (isO f j6 5) (((mX5_size j6 f n).bind fun r8 => ((v1).bind fun j10 => ((gI r8.2.1 j10 3 3).bind fun x11 => (if r8.1 = x11 then ((gR r8.2.1 j4 2 0).bind fun x12 => ((gR r8.2.1 v0 8 5).bind fun x13 => ((x13).bind fun j14 => ((gR r8.2.1 j14 1 0).bind fun x15 => ((gI r8.2.1 j10 3 2).bind fun x16 => ((gI r8.2.1 j10 3 3).bind fun x17 => ((x12).bind fun j18 => rCk (isO r8.2.1 j18 5) (((mX5_isSame j18 (0 : Int32) x15 x16 x17 r8.2.1 r8.2.2).bind fun r20 => (if r20.1 = (0 : Int32) then mX8_knownPair_b67 (fun v0 v1 v2 v3 f n => mX8_knownPair_l10 d v0 v1 v2 v3 f n) v0 (some j10) (some j4) v3 r20.2.1 r20.2.2 else some (v3, (r20.2.1, r20.2.2)))))))))))) else mX8_knownPair_b67 (fun v0 v1 v2 v3 f n => mX8_knownPair_l10 d v0 v1 v2 v3 f n) v0 (some j10) (some j4) v3 r8.2.1 r8.2.2)))))))))))))
set_option maxHeartbeats 1000000 in
theorem rmX8_knownPair_l10 {X : GX} {p : Program} {l : Launch} {e : Env} {s : State} {m : MethodId} {args : Array Value} {below : List Frame} {meth : Method} {c : Code} {r : Int32 × HpN} (C : CC X p l (RM 2 0 0) s m args meth c RX8 cX8_knownPair 4 (some .int)) : ∀ (d : Nat) (v0 : Nat) (v1 : Option Nat) (v2 : Option Nat) (v3 : Int32) (f : AH) (n cells slots : Nat) (_ : cells + 0 ≤ 0) (_ : slots + 0 ≤ 0) (_ : mX8_knownPair_l10 d v0 v1 v2 v3 f n = some r), AW X p l e (RM 2 0 0) s m args below meth c 4 (ZM X below args s 0 0 (QHi r)) f n cells slots 10 [some (.ref v0), some (va_rf v1), some (va_rf v2), some (.int v3)] [] := by
  intro d
  induction d with
  | zero =>
    intro v0 v1 v2 v3 f n cells slots hc hs h
    exact nomatch (show (none : Option (Int32 × HpN)) = some r from h)
  | succ d ih =>
    intro v0 v1 v2 v3 f n cells slots hc hs h
    have h : ((gR f v0 8 1).bind fun x1 => ((x1).bind fun j2 => ((gI f j2 7 7).bind fun x3 => (if x3 ≤ v3 then mX8_knownPair_b78 f n else (oN v2 (mX8_knownPair_b78 f n) (fun j4 => ((gR f j4 2 0).bind fun x5 => ((x5).bind fun j6 => rCk (isO f j6 5) (((mX5_size j6 f n).bind fun r8 => ((v1).bind fun j10 => ((gI r8.2.1 j10 3 3).bind fun x11 => (if r8.1 = x11 then ((gR r8.2.1 j4 2 0).bind fun x12 => ((gR r8.2.1 v0 8 5).bind fun x13 => ((x13).bind fun j14 => ((gR r8.2.1 j14 1 0).bind fun x15 => ((gI r8.2.1 j10 3 2).bind fun x16 => ((gI r8.2.1 j10 3 3).bind fun x17 => ((x12).bind fun j18 => rCk (isO r8.2.1 j18 5) (((mX5_isSame j18 (0 : Int32) x15 x16 x17 r8.2.1 r8.2.2).bind fun r20 => (if r20.1 = (0 : Int32) then mX8_knownPair_b67 (fun v0 v1 v2 v3 f n => mX8_knownPair_l10 d v0 v1 v2 v3 f n) v0 (some j10) (some j4) v3 r20.2.1 r20.2.2 else some (v3, (r20.2.1, r20.2.2)))))))))))) else mX8_knownPair_b67 (fun v0 v1 v2 v3 f n => mX8_knownPair_l10 d v0 v1 v2 v3 f n) v0 (some j10) (some j4) v3 r8.2.1 r8.2.2))))))))))))) = some r := h
    refine aw_iload_n C dX8_knownPair_10 rfl ?_
    refine aw_ald_n C dX8_knownPair_11 rfl ?_
    obtain ⟨x1, hx1, h⟩ := Option.bind_eq_some_iff.mp h
    refine ah_getR C gf_X8_21 hx1 dX8_knownPair_12 ?_
    obtain ⟨j2, hj2, h⟩ := Option.bind_eq_some_iff.mp h
    rw [hj2]
    obtain ⟨x3, hx3, h⟩ := Option.bind_eq_some_iff.mp h
    refine ah_getI C gf_X8_258 hx3 dX8_knownPair_15 ?_
    refine aw_icmp_ge C 78 dX8_knownPair_18 (by decide) (fun q => ?_) (fun q => ?_)
    · rw [if_pos q] at h
      refine aw_fl [none, none, none, none] trivial ?_
      exact rmX8_knownPair_b78 C (by omega) (by omega) h
    · rw [if_neg q] at h
      refine aw_aload_n C dX8_knownPair_21 rfl (rf_or v2) ?_
      cases v2 with
      | none =>
        replace h : mX8_knownPair_b78 f n = some r := h
        refine aw_ifnull_n C 78 dX8_knownPair_22 (by decide) ?_
        refine aw_fl [none, none, none, none] trivial ?_
        exact rmX8_knownPair_b78 C (by omega) (by omega) h
      | some j4 =>
        replace h : ((gR f j4 2 0).bind fun x5 => ((x5).bind fun j6 => rCk (isO f j6 5) (((mX5_size j6 f n).bind fun r8 => ((v1).bind fun j10 => ((gI r8.2.1 j10 3 3).bind fun x11 => (if r8.1 = x11 then ((gR r8.2.1 j4 2 0).bind fun x12 => ((gR r8.2.1 v0 8 5).bind fun x13 => ((x13).bind fun j14 => ((gR r8.2.1 j14 1 0).bind fun x15 => ((gI r8.2.1 j10 3 2).bind fun x16 => ((gI r8.2.1 j10 3 3).bind fun x17 => ((x12).bind fun j18 => rCk (isO r8.2.1 j18 5) (((mX5_isSame j18 (0 : Int32) x15 x16 x17 r8.2.1 r8.2.2).bind fun r20 => (if r20.1 = (0 : Int32) then mX8_knownPair_b67 (fun v0 v1 v2 v3 f n => mX8_knownPair_l10 d v0 v1 v2 v3 f n) v0 (some j10) (some j4) v3 r20.2.1 r20.2.2 else some (v3, (r20.2.1, r20.2.2)))))))))))) else mX8_knownPair_b67 (fun v0 v1 v2 v3 f n => mX8_knownPair_l10 d v0 v1 v2 v3 f n) v0 (some j10) (some j4) v3 r8.2.1 r8.2.2))))))) = some r := h
        refine aw_ifnull_r C 78 dX8_knownPair_22 (by decide) ?_
        refine aw_ald_n C dX8_knownPair_25 rfl ?_
        obtain ⟨x5, hx5, h⟩ := Option.bind_eq_some_iff.mp h
        refine ah_getR C gf_X8_273 hx5 dX8_knownPair_26 ?_
        obtain ⟨j6, hj6, h⟩ := Option.bind_eq_some_iff.mp h
        rw [hj6]
        obtain ⟨hb7, h⟩ := ck_some h
        obtain ⟨r8, hr8, h⟩ := Option.bind_eq_some_iff.mp h
        obtain ⟨fs9, hf9⟩ := isO_ex hb7
        refine aw_callV C (ci := 5) (b := j6) [] mv_X8_63 rfl rfl hf9 (rmX5_size hr8) rfl dX8_knownPair_29 (Nat.le_of_ble_eq_true rfl) (Nat.le_of_ble_eq_true rfl) rfl (Nat.le_of_ble_eq_true rfl) (show cells + 0 ≤ 0 by omega) (show slots + 0 ≤ 0 by omega) (fun v9 f9 n9 hh => ?_)
        obtain ⟨rfl, rfl, rfl⟩ := hh
        refine aw_aload_n C dX8_knownPair_32 rfl (rf_or v1) ?_
        obtain ⟨j10, hj10, h⟩ := Option.bind_eq_some_iff.mp h
        rw [hj10]
        obtain ⟨x11, hx11, h⟩ := Option.bind_eq_some_iff.mp h
        refine ah_getI C gf_X8_187 hx11 dX8_knownPair_33 ?_
        refine aw_icmp_ne C 67 dX8_knownPair_36 (by decide) (fun q => ?_) (fun q => ?_)
        · rw [if_neg q] at h
          refine aw_fl [some (.ref v0), some (va_rf (some j10)), some (va_rf (some j4)), some (.int v3)] ⟨rfl, ⟨rfl, ⟨rfl, ⟨rfl, trivial⟩⟩⟩⟩ ?_
          exact rmX8_knownPair_b67 C (fun v0 v1 v2 v3 f n cells slots hc hs h => ih v0 v1 v2 v3 f n cells slots hc hs h) (by omega) (by omega) h
        · rw [if_pos q] at h
          refine aw_ald_n C dX8_knownPair_39 rfl ?_
          obtain ⟨x12, hx12, h⟩ := Option.bind_eq_some_iff.mp h
          refine ah_getR C gf_X8_273 hx12 dX8_knownPair_40 ?_
          refine aw_iconst C 0 dX8_knownPair_43 ki_0 ?_
          refine aw_ald_n C dX8_knownPair_44 rfl ?_
          obtain ⟨x13, hx13, h⟩ := Option.bind_eq_some_iff.mp h
          refine ah_getR C gf_X8_38 hx13 dX8_knownPair_45 ?_
          obtain ⟨j14, hj14, h⟩ := Option.bind_eq_some_iff.mp h
          rw [hj14]
          obtain ⟨x15, hx15, h⟩ := Option.bind_eq_some_iff.mp h
          refine ah_getR C gf_X8_373 hx15 dX8_knownPair_48 ?_
          refine aw_ald_n C dX8_knownPair_51 rfl ?_
          obtain ⟨x16, hx16, h⟩ := Option.bind_eq_some_iff.mp h
          refine ah_getI C gf_X8_224 hx16 dX8_knownPair_52 ?_
          refine aw_ald_n C dX8_knownPair_55 rfl ?_
          obtain ⟨x17, hx17, h⟩ := Option.bind_eq_some_iff.mp h
          refine ah_getI C gf_X8_187 hx17 dX8_knownPair_56 ?_
          obtain ⟨j18, hj18, h⟩ := Option.bind_eq_some_iff.mp h
          rw [hj18]
          obtain ⟨hb19, h⟩ := ck_some h
          obtain ⟨r20, hr20, h⟩ := Option.bind_eq_some_iff.mp h
          obtain ⟨fs21, hf21⟩ := isO_ex hb19
          refine aw_callV C (ci := 5) (b := j18) [.int (0 : Int32), va_rf x15, .int x16, .int x17] mv_X8_382 rfl rfl hf21 (rmX5_isSame hr20) rfl dX8_knownPair_59 (Nat.le_of_ble_eq_true rfl) (Nat.le_of_ble_eq_true rfl) rfl (Nat.le_of_ble_eq_true rfl) (show (cells + 0) + 0 ≤ 0 by omega) (show (slots + 0) + 0 ≤ 0 by omega) (fun v9 f9 n9 hh => ?_)
          obtain ⟨rfl, rfl, rfl⟩ := hh
          refine aw_if_eq C 67 dX8_knownPair_62 (by decide) (fun q => ?_) (fun q => ?_)
          · rw [if_pos q] at h
            refine aw_fl [some (.ref v0), some (va_rf (some j10)), some (va_rf (some j4)), some (.int v3)] ⟨rfl, ⟨rfl, ⟨rfl, ⟨rfl, trivial⟩⟩⟩⟩ ?_
            exact rmX8_knownPair_b67 C (fun v0 v1 v2 v3 f n cells slots hc hs h => ih v0 v1 v2 v3 f n cells slots hc hs h) (by omega) (by omega) h
          · rw [if_neg q] at h
            refine aw_iload_n C dX8_knownPair_65 rfl ?_
            cases h
            exact aw_iret C rfl rfl dX8_knownPair_66 (by omega) (by omega) ⟨rfl, rfl, rfl⟩
def mX8_knownPair (v0 : Nat) (v1 : Option Nat) (f : AH) (n : Nat) : Option (Int32 × HpN) := ((gR f v0 8 1).bind fun x1 => ((x1).bind fun j2 => ((gR f j2 7 6).bind fun x3 => mX8_knownPair_l10 rFU v0 v1 x3 (0 : Int32) f n)))
set_option maxHeartbeats 1000000 in
theorem rmX8_knownPair {X : GX} {l : Launch} {r : Int32 × HpN} {v0 : Nat} {v1 : Option Nat} {f : AH} {n : Nat} (h : mX8_knownPair v0 v1 f n = some r) : AM X l yX8_knownPair cX8_knownPair 4 (some .int) 2 0 0 [.ref v0, va_rf v1] f n (QHi r) := by
  have h : ((gR f v0 8 1).bind fun x1 => ((x1).bind fun j2 => ((gR f j2 7 6).bind fun x3 => mX8_knownPair_l10 rFU v0 v1 x3 (0 : Int32) f n))) = some r := h
  refine AM.of (by decide +kernel) (all1 rfl (all1 (rf_cat _) rfl)) (Nat.le_of_ble_eq_true rfl) (fun p e s m args below meth c C hnm => ?_)
  refine aw_nl [some (.ref v0), some (va_rf v1), none, none] rfl ?_
  refine aw_ald_n C dX8_knownPair_0 rfl ?_
  obtain ⟨x1, hx1, h⟩ := Option.bind_eq_some_iff.mp h
  refine ah_getR C gf_X8_21 hx1 dX8_knownPair_1 ?_
  obtain ⟨j2, hj2, h⟩ := Option.bind_eq_some_iff.mp h
  rw [hj2]
  obtain ⟨x3, hx3, h⟩ := Option.bind_eq_some_iff.mp h
  refine ah_getR C gf_X8_261 hx3 dX8_knownPair_4 ?_
  refine aw_astore_n C dX8_knownPair_7 (by decide) (ok_rf 1 rfl) (rf_or x3) ?_
  refine aw_nl [some (.ref v0), some (va_rf v1), some (va_rf x3), none] rfl ?_
  refine aw_iconst C 0 dX8_knownPair_8 ki_0 ?_
  refine aw_istore_n C dX8_knownPair_9 (by decide) (ok_rf 2 rfl) ?_
  refine aw_nl [some (.ref v0), some (va_rf v1), some (va_rf x3), some (.int (0 : Int32))] rfl ?_
  refine aw_fl [some (.ref v0), some (va_rf v1), some (va_rf x3), some (.int (0 : Int32))] ⟨rfl, ⟨rfl, ⟨rfl, ⟨rfl, trivial⟩⟩⟩⟩ ?_
  exact rmX8_knownPair_l10 C rFU v0 v1 x3 (0 : Int32) f n _ _ (by omega) (by omega) h
def mX8_piece_b98 (s0 : Int32) (f : AH) (n : Nat) : Option ((Int32 ⊕ String) × HpN) := some (.inl s0, (f, n))
set_option maxHeartbeats 1000000 in
theorem rmX8_piece_b98 {X : GX} {p : Program} {l : Launch} {e : Env} {s : State} {m : MethodId} {args : Array Value} {below : List Frame} {meth : Method} {c : Code} {r : (Int32 ⊕ String) × HpN} {s0 : Int32} {f : AH} {n cells slots : Nat} (C : CC X p l (RM 7 2 12) s m args meth c RX8 cX8_piece 4 (some .int)) (hl0 : l.stackTraces = false) (htab : ∀ x ∈ c.exceptionTable.toList, False) (hc : cells + 0 ≤ 2) (hs : slots + 0 ≤ 12) (h : mX8_piece_b98 s0 f n = some r) : AW X p l e (RM 7 2 12) s m args below meth c 4 (ZX X below args s 2 12 (QTr (QHi) r) (QTx r)) f n cells slots 98 [none, none, none, none] [.int s0] := by
  have h : some (.inl s0, (f, n)) = some r := h
  cases h
  exact ax_of (aw_iret C rfl rfl dX8_piece_98 (by omega) (by omega) ⟨_, rfl, rfl, rfl, rfl⟩)
def mX8_piece (v0 : Nat) (v1 : Int32) (v2 : Int32) (f : AH) (n : Nat) : Option ((Int32 ⊕ String) × HpN) := rCk (isO f v0 8) (((mX8_pieceOrThrow v0 v1 f n).bind fun r2 => (tS r2.1 r2.2 (fun y2 => ((some y2).bind fun x4 => (if v2 = (0 : Int32) then ((x4).bind fun j5 => ((gI r2.2.1 j5 3 0).bind fun x6 => some (.inl x6, (r2.2.1, r2.2.2)))) else if v2 = (1 : Int32) then ((x4).bind fun j7 => ((gI r2.2.1 j7 3 1).bind fun x8 => some (.inl x8, (r2.2.1, r2.2.2)))) else if v2 = (2 : Int32) then ((x4).bind fun j9 => ((gI r2.2.1 j9 3 3).bind fun x10 => some (.inl x10, (r2.2.1, r2.2.2)))) else if v2 = (3 : Int32) then rCk (isO r2.2.1 v0 8) (((mX8_nowSize v0 v1 x4 r2.2.1 r2.2.2).bind fun r12 => some (.inl r12.1, (r12.2.1, r12.2.2)))) else if v2 = (4 : Int32) then ((gR r2.2.1 v0 8 1).bind fun x14 => ((x14).bind fun j15 => rCk (isO r2.2.1 j15 7) (((mX7_toldFor j15 v1 r2.2.1 r2.2.2).bind fun r17 => ((some r17.1).bind fun x19 => (oN x19 (mX8_piece_b98 (0 : Int32) r17.2.1 r17.2.2) (fun j20 => mX8_piece_b98 (1 : Int32) r17.2.1 r17.2.2))))))) else if v2 = (5 : Int32) then ((gR r2.2.1 v0 8 5).bind fun x21 => ((x21).bind fun j22 => rCk (isO r2.2.1 j22 1) (((mX1_likeCount j22 v1 r2.2.1 r2.2.2).bind fun r24 => some (.inl r24.1, (r24.2.1, r24.2.2)))))) else if v2 = (6 : Int32) then rCk (isO r2.2.1 v0 8) (((mX8_countWords v0 v1 x4 r2.2.1 r2.2.2).bind fun r27 => some (.inl r27.1, (r27.2.1, r27.2.2)))) else if v2 = (7 : Int32) then rCk (isO r2.2.1 v0 8) (((mX8_knownPair v0 x4 r2.2.1 r2.2.2).bind fun r30 => some (.inl r30.1, (r30.2.1, r30.2.2)))) else if v2 = (8 : Int32) then ((x4).bind fun j32 => ((gI r2.2.1 j32 3 10).bind fun x33 => some (.inl x33, (r2.2.1, r2.2.2)))) else if v2 = (9 : Int32) then ((x4).bind fun j34 => ((gI r2.2.1 j34 3 9).bind fun x35 => some (.inl x35, (r2.2.1, r2.2.2)))) else some (.inr eN, (r2.2.1, r2.2.2))))))))
set_option maxHeartbeats 1000000 in
theorem rmX8_piece {X : GX} {l : Launch} {r : (Int32 ⊕ String) × HpN} {v0 : Nat} {v1 : Int32} {v2 : Int32} {f : AH} {n : Nat} (hl0 : l.stackTraces = false) (h : mX8_piece v0 v1 v2 f n = some r) : AX X l yX8_piece cX8_piece 4 (some .int) 7 2 12 [.ref v0, .int v1, .int v2] f n (QTr (QHi) r) (QTx r) := by
  have h : rCk (isO f v0 8) (((mX8_pieceOrThrow v0 v1 f n).bind fun r2 => (tS r2.1 r2.2 (fun y2 => ((some y2).bind fun x4 => (if v2 = (0 : Int32) then ((x4).bind fun j5 => ((gI r2.2.1 j5 3 0).bind fun x6 => some (.inl x6, (r2.2.1, r2.2.2)))) else if v2 = (1 : Int32) then ((x4).bind fun j7 => ((gI r2.2.1 j7 3 1).bind fun x8 => some (.inl x8, (r2.2.1, r2.2.2)))) else if v2 = (2 : Int32) then ((x4).bind fun j9 => ((gI r2.2.1 j9 3 3).bind fun x10 => some (.inl x10, (r2.2.1, r2.2.2)))) else if v2 = (3 : Int32) then rCk (isO r2.2.1 v0 8) (((mX8_nowSize v0 v1 x4 r2.2.1 r2.2.2).bind fun r12 => some (.inl r12.1, (r12.2.1, r12.2.2)))) else if v2 = (4 : Int32) then ((gR r2.2.1 v0 8 1).bind fun x14 => ((x14).bind fun j15 => rCk (isO r2.2.1 j15 7) (((mX7_toldFor j15 v1 r2.2.1 r2.2.2).bind fun r17 => ((some r17.1).bind fun x19 => (oN x19 (mX8_piece_b98 (0 : Int32) r17.2.1 r17.2.2) (fun j20 => mX8_piece_b98 (1 : Int32) r17.2.1 r17.2.2))))))) else if v2 = (5 : Int32) then ((gR r2.2.1 v0 8 5).bind fun x21 => ((x21).bind fun j22 => rCk (isO r2.2.1 j22 1) (((mX1_likeCount j22 v1 r2.2.1 r2.2.2).bind fun r24 => some (.inl r24.1, (r24.2.1, r24.2.2)))))) else if v2 = (6 : Int32) then rCk (isO r2.2.1 v0 8) (((mX8_countWords v0 v1 x4 r2.2.1 r2.2.2).bind fun r27 => some (.inl r27.1, (r27.2.1, r27.2.2)))) else if v2 = (7 : Int32) then rCk (isO r2.2.1 v0 8) (((mX8_knownPair v0 x4 r2.2.1 r2.2.2).bind fun r30 => some (.inl r30.1, (r30.2.1, r30.2.2)))) else if v2 = (8 : Int32) then ((x4).bind fun j32 => ((gI r2.2.1 j32 3 10).bind fun x33 => some (.inl x33, (r2.2.1, r2.2.2)))) else if v2 = (9 : Int32) then ((x4).bind fun j34 => ((gI r2.2.1 j34 3 9).bind fun x35 => some (.inl x35, (r2.2.1, r2.2.2)))) else some (.inr eN, (r2.2.1, r2.2.2)))))))) = some r := h
  refine AX.of (by decide +kernel) rfl (Nat.le_of_ble_eq_true rfl) (fun p e s m args below meth c C htab => ?_)
  refine aw_nl [some (.ref v0), some (.int v1), some (.int v2), none] rfl ?_
  refine aw_ald_n C dX8_piece_0 rfl ?_
  refine aw_iload_n C dX8_piece_1 rfl ?_
  obtain ⟨hb1, h⟩ := ck_some h
  obtain ⟨r2, hr2, h⟩ := Option.bind_eq_some_iff.mp h
  obtain ⟨fs3, hf3⟩ := isO_ex hb1
  refine ax_callV C (ci := 8) (b := v0) [.int v1] mv_X8_175 rfl rfl hf3 (rmX8_pieceOrThrow hl0 hr2) rfl dX8_piece_2 (Nat.le_of_ble_eq_true rfl) (Nat.le_of_ble_eq_true rfl) rfl (Nat.le_of_ble_eq_true rfl) (show 0 + 1 ≤ 2 by omega) (show 0 + 6 ≤ 12 by omega) (fun E9 f9 n9 hq => ?_) (fun v9 f9 n9 hq => ?_)
  · obtain ⟨e1, e2, e3⟩ := hq
    rw [tS_r e1] at h
    cases h
    exact at_out C htab ⟨rfl, e2, e3⟩ (by omega) (by omega)
  obtain ⟨y2, e2, rfl, rfl, rfl⟩ := hq
  rw [tS_l e2] at h
  replace h : ((some y2).bind fun x4 => (if v2 = (0 : Int32) then ((x4).bind fun j5 => ((gI r2.2.1 j5 3 0).bind fun x6 => some (.inl x6, (r2.2.1, r2.2.2)))) else if v2 = (1 : Int32) then ((x4).bind fun j7 => ((gI r2.2.1 j7 3 1).bind fun x8 => some (.inl x8, (r2.2.1, r2.2.2)))) else if v2 = (2 : Int32) then ((x4).bind fun j9 => ((gI r2.2.1 j9 3 3).bind fun x10 => some (.inl x10, (r2.2.1, r2.2.2)))) else if v2 = (3 : Int32) then rCk (isO r2.2.1 v0 8) (((mX8_nowSize v0 v1 x4 r2.2.1 r2.2.2).bind fun r12 => some (.inl r12.1, (r12.2.1, r12.2.2)))) else if v2 = (4 : Int32) then ((gR r2.2.1 v0 8 1).bind fun x14 => ((x14).bind fun j15 => rCk (isO r2.2.1 j15 7) (((mX7_toldFor j15 v1 r2.2.1 r2.2.2).bind fun r17 => ((some r17.1).bind fun x19 => (oN x19 (mX8_piece_b98 (0 : Int32) r17.2.1 r17.2.2) (fun j20 => mX8_piece_b98 (1 : Int32) r17.2.1 r17.2.2))))))) else if v2 = (5 : Int32) then ((gR r2.2.1 v0 8 5).bind fun x21 => ((x21).bind fun j22 => rCk (isO r2.2.1 j22 1) (((mX1_likeCount j22 v1 r2.2.1 r2.2.2).bind fun r24 => some (.inl r24.1, (r24.2.1, r24.2.2)))))) else if v2 = (6 : Int32) then rCk (isO r2.2.1 v0 8) (((mX8_countWords v0 v1 x4 r2.2.1 r2.2.2).bind fun r27 => some (.inl r27.1, (r27.2.1, r27.2.2)))) else if v2 = (7 : Int32) then rCk (isO r2.2.1 v0 8) (((mX8_knownPair v0 x4 r2.2.1 r2.2.2).bind fun r30 => some (.inl r30.1, (r30.2.1, r30.2.2)))) else if v2 = (8 : Int32) then ((x4).bind fun j32 => ((gI r2.2.1 j32 3 10).bind fun x33 => some (.inl x33, (r2.2.1, r2.2.2)))) else if v2 = (9 : Int32) then ((x4).bind fun j34 => ((gI r2.2.1 j34 3 9).bind fun x35 => some (.inl x35, (r2.2.1, r2.2.2)))) else some (.inr eN, (r2.2.1, r2.2.2)))) = some r := h
  obtain ⟨x4, hx4, h⟩ := Option.bind_eq_some_iff.mp h
  rw [Option.some.inj hx4]
  refine aw_astore_n C dX8_piece_5 (by decide) rfl (rf_or x4) ?_
  refine aw_nl [some (.ref v0), some (.int v1), some (.int v2), some (va_rf x4)] rfl ?_
  refine aw_iload_n C dX8_piece_6 rfl ?_
  by_cases q : v2 = (0 : Int32)
  · rw [if_pos q] at h
    refine aw_top (0 : Int32) q ?_
    refine aw_tabIn C (off := 53) 60 dX8_piece_7 (by decide) (by decide) (by decide) (by decide) ?_
    refine aw_aload_n C dX8_piece_60 rfl (rf_or x4) ?_
    obtain ⟨j5, hj5, h⟩ := Option.bind_eq_some_iff.mp h
    rw [hj5]
    obtain ⟨x6, hx6, h⟩ := Option.bind_eq_some_iff.mp h
    refine ah_getI C gf_X8_179 hx6 dX8_piece_61 ?_
    cases h
    exact ax_of (aw_iret C rfl rfl dX8_piece_64 (by omega) (by omega) ⟨_, rfl, rfl, rfl, rfl⟩)
  · rw [if_neg q] at h
    have q0 := q
    by_cases q : v2 = (1 : Int32)
    · rw [if_pos q] at h
      refine aw_top (1 : Int32) q ?_
      refine aw_tabIn C (off := 58) 65 dX8_piece_7 (by decide) (by decide) (by decide) (by decide) ?_
      refine aw_aload_n C dX8_piece_65 rfl (rf_or x4) ?_
      obtain ⟨j7, hj7, h⟩ := Option.bind_eq_some_iff.mp h
      rw [hj7]
      obtain ⟨x8, hx8, h⟩ := Option.bind_eq_some_iff.mp h
      refine ah_getI C gf_X8_184 hx8 dX8_piece_66 ?_
      cases h
      exact ax_of (aw_iret C rfl rfl dX8_piece_69 (by omega) (by omega) ⟨_, rfl, rfl, rfl, rfl⟩)
    · rw [if_neg q] at h
      have q1 := q
      by_cases q : v2 = (2 : Int32)
      · rw [if_pos q] at h
        refine aw_top (2 : Int32) q ?_
        refine aw_tabIn C (off := 63) 70 dX8_piece_7 (by decide) (by decide) (by decide) (by decide) ?_
        refine aw_aload_n C dX8_piece_70 rfl (rf_or x4) ?_
        obtain ⟨j9, hj9, h⟩ := Option.bind_eq_some_iff.mp h
        rw [hj9]
        obtain ⟨x10, hx10, h⟩ := Option.bind_eq_some_iff.mp h
        refine ah_getI C gf_X8_187 hx10 dX8_piece_71 ?_
        cases h
        exact ax_of (aw_iret C rfl rfl dX8_piece_74 (by omega) (by omega) ⟨_, rfl, rfl, rfl, rfl⟩)
      · rw [if_neg q] at h
        have q2 := q
        by_cases q : v2 = (3 : Int32)
        · rw [if_pos q] at h
          refine aw_top (3 : Int32) q ?_
          refine aw_tabIn C (off := 68) 75 dX8_piece_7 (by decide) (by decide) (by decide) (by decide) ?_
          refine aw_ald_n C dX8_piece_75 rfl ?_
          refine aw_iload_n C dX8_piece_76 rfl ?_
          refine aw_aload_n C dX8_piece_77 rfl (rf_or x4) ?_
          obtain ⟨hb11, h⟩ := ck_some h
          obtain ⟨r12, hr12, h⟩ := Option.bind_eq_some_iff.mp h
          obtain ⟨fs13, hf13⟩ := isO_ex hb11
          refine aw_callV C (ci := 8) (b := v0) [.int v1, va_rf x4] mv_X8_190 rfl rfl hf13 (rmX8_nowSize hr12) rfl dX8_piece_78 (Nat.le_of_ble_eq_true rfl) (Nat.le_of_ble_eq_true rfl) rfl (Nat.le_of_ble_eq_true rfl) (show (0 + 1) + 0 ≤ 2 by omega) (show (0 + 6) + 0 ≤ 12 by omega) (fun v9 f9 n9 hh => ?_)
          obtain ⟨rfl, rfl, rfl⟩ := hh
          cases h
          exact ax_of (aw_iret C rfl rfl dX8_piece_81 (by omega) (by omega) ⟨_, rfl, rfl, rfl, rfl⟩)
        · rw [if_neg q] at h
          have q3 := q
          by_cases q : v2 = (4 : Int32)
          · rw [if_pos q] at h
            refine aw_top (4 : Int32) q ?_
            refine aw_tabIn C (off := 75) 82 dX8_piece_7 (by decide) (by decide) (by decide) (by decide) ?_
            refine aw_ald_n C dX8_piece_82 rfl ?_
            obtain ⟨x14, hx14, h⟩ := Option.bind_eq_some_iff.mp h
            refine ah_getR C gf_X8_21 hx14 dX8_piece_83 ?_
            refine aw_iload_n C dX8_piece_86 rfl ?_
            obtain ⟨j15, hj15, h⟩ := Option.bind_eq_some_iff.mp h
            rw [hj15]
            obtain ⟨hb16, h⟩ := ck_some h
            obtain ⟨r17, hr17, h⟩ := Option.bind_eq_some_iff.mp h
            obtain ⟨fs18, hf18⟩ := isO_ex hb16
            refine aw_callV C (ci := 7) (b := j15) [.int v1] mv_X8_194 rfl rfl hf18 (rmX7_toldFor hr17) rfl dX8_piece_87 (Nat.le_of_ble_eq_true rfl) (Nat.le_of_ble_eq_true rfl) rfl (Nat.le_of_ble_eq_true rfl) (show (0 + 1) + 0 ≤ 2 by omega) (show (0 + 6) + 0 ≤ 12 by omega) (fun v9 f9 n9 hh => ?_)
            obtain ⟨rfl, rfl, rfl⟩ := hh
            obtain ⟨x19, hx19, h⟩ := Option.bind_eq_some_iff.mp h
            rw [Option.some.inj hx19]
            cases x19 with
            | none =>
              replace h : mX8_piece_b98 (0 : Int32) r17.2.1 r17.2.2 = some r := h
              refine aw_ifnonnull_n C 97 dX8_piece_90 (by decide) ?_
              refine aw_iconst C 0 dX8_piece_93 ki_0 ?_
              refine aw_goto C 98 dX8_piece_94 (by decide) ?_
              refine aw_fl [none, none, none, none] trivial ?_
              exact rmX8_piece_b98 C hl0 htab (by omega) (by omega) h
            | some j20 =>
              replace h : mX8_piece_b98 (1 : Int32) r17.2.1 r17.2.2 = some r := h
              refine aw_ifnonnull_r C 97 dX8_piece_90 (by decide) ?_
              refine aw_iconst C 1 dX8_piece_97 ki_1 ?_
              refine aw_fl [none, none, none, none] trivial ?_
              exact rmX8_piece_b98 C hl0 htab (by omega) (by omega) h
          · rw [if_neg q] at h
            have q4 := q
            by_cases q : v2 = (5 : Int32)
            · rw [if_pos q] at h
              refine aw_top (5 : Int32) q ?_
              refine aw_tabIn C (off := 92) 99 dX8_piece_7 (by decide) (by decide) (by decide) (by decide) ?_
              refine aw_ald_n C dX8_piece_99 rfl ?_
              obtain ⟨x21, hx21, h⟩ := Option.bind_eq_some_iff.mp h
              refine ah_getR C gf_X8_38 hx21 dX8_piece_100 ?_
              refine aw_iload_n C dX8_piece_103 rfl ?_
              obtain ⟨j22, hj22, h⟩ := Option.bind_eq_some_iff.mp h
              rw [hj22]
              obtain ⟨hb23, h⟩ := ck_some h
              obtain ⟨r24, hr24, h⟩ := Option.bind_eq_some_iff.mp h
              obtain ⟨fs25, hf25⟩ := isO_ex hb23
              refine aw_callV C (ci := 1) (b := j22) [.int v1] mv_X8_163 rfl rfl hf25 (rmX1_likeCount hr24) rfl dX8_piece_104 (Nat.le_of_ble_eq_true rfl) (Nat.le_of_ble_eq_true rfl) rfl (Nat.le_of_ble_eq_true rfl) (show (0 + 1) + 0 ≤ 2 by omega) (show (0 + 6) + 0 ≤ 12 by omega) (fun v9 f9 n9 hh => ?_)
              obtain ⟨rfl, rfl, rfl⟩ := hh
              cases h
              exact ax_of (aw_iret C rfl rfl dX8_piece_107 (by omega) (by omega) ⟨_, rfl, rfl, rfl, rfl⟩)
            · rw [if_neg q] at h
              have q5 := q
              by_cases q : v2 = (6 : Int32)
              · rw [if_pos q] at h
                refine aw_top (6 : Int32) q ?_
                refine aw_tabIn C (off := 101) 108 dX8_piece_7 (by decide) (by decide) (by decide) (by decide) ?_
                refine aw_ald_n C dX8_piece_108 rfl ?_
                refine aw_iload_n C dX8_piece_109 rfl ?_
                refine aw_aload_n C dX8_piece_110 rfl (rf_or x4) ?_
                obtain ⟨hb26, h⟩ := ck_some h
                obtain ⟨r27, hr27, h⟩ := Option.bind_eq_some_iff.mp h
                obtain ⟨fs28, hf28⟩ := isO_ex hb26
                refine aw_callV C (ci := 8) (b := v0) [.int v1, va_rf x4] mv_X8_198 rfl rfl hf28 (rmX8_countWords hr27) rfl dX8_piece_111 (Nat.le_of_ble_eq_true rfl) (Nat.le_of_ble_eq_true rfl) rfl (Nat.le_of_ble_eq_true rfl) (show (0 + 1) + 0 ≤ 2 by omega) (show (0 + 6) + 0 ≤ 12 by omega) (fun v9 f9 n9 hh => ?_)
                obtain ⟨rfl, rfl, rfl⟩ := hh
                cases h
                exact ax_of (aw_iret C rfl rfl dX8_piece_114 (by omega) (by omega) ⟨_, rfl, rfl, rfl, rfl⟩)
              · rw [if_neg q] at h
                have q6 := q
                by_cases q : v2 = (7 : Int32)
                · rw [if_pos q] at h
                  refine aw_top (7 : Int32) q ?_
                  refine aw_tabIn C (off := 108) 115 dX8_piece_7 (by decide) (by decide) (by decide) (by decide) ?_
                  refine aw_ald_n C dX8_piece_115 rfl ?_
                  refine aw_aload_n C dX8_piece_116 rfl (rf_or x4) ?_
                  obtain ⟨hb29, h⟩ := ck_some h
                  obtain ⟨r30, hr30, h⟩ := Option.bind_eq_some_iff.mp h
                  obtain ⟨fs31, hf31⟩ := isO_ex hb29
                  refine aw_callV C (ci := 8) (b := v0) [va_rf x4] mv_X8_201 rfl rfl hf31 (rmX8_knownPair hr30) rfl dX8_piece_117 (Nat.le_of_ble_eq_true rfl) (Nat.le_of_ble_eq_true rfl) rfl (Nat.le_of_ble_eq_true rfl) (show (0 + 1) + 0 ≤ 2 by omega) (show (0 + 6) + 0 ≤ 12 by omega) (fun v9 f9 n9 hh => ?_)
                  obtain ⟨rfl, rfl, rfl⟩ := hh
                  cases h
                  exact ax_of (aw_iret C rfl rfl dX8_piece_120 (by omega) (by omega) ⟨_, rfl, rfl, rfl, rfl⟩)
                · rw [if_neg q] at h
                  have q7 := q
                  by_cases q : v2 = (8 : Int32)
                  · rw [if_pos q] at h
                    refine aw_top (8 : Int32) q ?_
                    refine aw_tabIn C (off := 114) 121 dX8_piece_7 (by decide) (by decide) (by decide) (by decide) ?_
                    refine aw_aload_n C dX8_piece_121 rfl (rf_or x4) ?_
                    obtain ⟨j32, hj32, h⟩ := Option.bind_eq_some_iff.mp h
                    rw [hj32]
                    obtain ⟨x33, hx33, h⟩ := Option.bind_eq_some_iff.mp h
                    refine ah_getI C gf_X8_205 hx33 dX8_piece_122 ?_
                    cases h
                    exact ax_of (aw_iret C rfl rfl dX8_piece_125 (by omega) (by omega) ⟨_, rfl, rfl, rfl, rfl⟩)
                  · rw [if_neg q] at h
                    have q8 := q
                    by_cases q : v2 = (9 : Int32)
                    · rw [if_pos q] at h
                      refine aw_top (9 : Int32) q ?_
                      refine aw_tabIn C (off := 119) 126 dX8_piece_7 (by decide) (by decide) (by decide) (by decide) ?_
                      refine aw_aload_n C dX8_piece_126 rfl (rf_or x4) ?_
                      obtain ⟨j34, hj34, h⟩ := Option.bind_eq_some_iff.mp h
                      rw [hj34]
                      obtain ⟨x35, hx35, h⟩ := Option.bind_eq_some_iff.mp h
                      refine ah_getI C gf_X8_208 hx35 dX8_piece_127 ?_
                      cases h
                      exact ax_of (aw_iret C rfl rfl dX8_piece_130 (by omega) (by omega) ⟨_, rfl, rfl, rfl, rfl⟩)
                    · rw [if_neg q] at h
                      have q9 := q
                      refine aw_tabOut C 131 dX8_piece_7 (sx_out0_10 q0 q1 q2 q3 q4 q5 q6 q7 q8 q9) (by decide) ?_
                      cases h
                      exact ax_throwN C htab hl0 th_eN sx_211 dX8_piece_131 dX8_piece_134 dX8_piece_135 dX8_piece_137 dX8_piece_140 (Nat.le_of_ble_eq_true rfl) (Nat.le_of_ble_eq_true rfl) (show (0 + 1) + 1 ≤ 2 by omega) (show (0 + 6) + 6 ≤ 12 by omega) (by omega) (by omega) (fun n9 h9 => ⟨rfl, rfl, h9⟩)
def mX1_textByte_b29 (s0 : Int32) (f : AH) (n : Nat) : Option (Int32 × HpN) := some (s0, (f, n))
set_option maxHeartbeats 1000000 in
theorem rmX1_textByte_b29 {X : GX} {p : Program} {l : Launch} {e : Env} {s : State} {m : MethodId} {args : Array Value} {below : List Frame} {meth : Method} {c : Code} {r : Int32 × HpN} {s0 : Int32} {f : AH} {n cells slots : Nat} (C : CC X p l (RM 1 0 0) s m args meth c RX1 cX1_textByte 3 (some .int)) (hc : cells + 0 ≤ 0) (hs : slots + 0 ≤ 0) (h : mX1_textByte_b29 s0 f n = some r) : AW X p l e (RM 1 0 0) s m args below meth c 3 (ZM X below args s 0 0 (QHi r)) f n cells slots 29 [none, none, none] [.int s0] := by
  have h : some (s0, (f, n)) = some r := h
  cases h
  exact aw_iret C rfl rfl dX1_textByte_29 (by omega) (by omega) ⟨rfl, rfl, rfl⟩
def mX1_textByte_b28 (f : AH) (n : Nat) : Option (Int32 × HpN) := mX1_textByte_b29 (-1 : Int32) f n
set_option maxHeartbeats 1000000 in
theorem rmX1_textByte_b28 {X : GX} {p : Program} {l : Launch} {e : Env} {s : State} {m : MethodId} {args : Array Value} {below : List Frame} {meth : Method} {c : Code} {r : Int32 × HpN} {f : AH} {n cells slots : Nat} (C : CC X p l (RM 1 0 0) s m args meth c RX1 cX1_textByte 3 (some .int)) (hc : cells + 0 ≤ 0) (hs : slots + 0 ≤ 0) (h : mX1_textByte_b28 f n = some r) : AW X p l e (RM 1 0 0) s m args below meth c 3 (ZM X below args s 0 0 (QHi r)) f n cells slots 28 [none, none, none] [] := by
  have h : mX1_textByte_b29 (-1 : Int32) f n = some r := h
  refine aw_iconst C (-1) dX1_textByte_28 ki_m1 ?_
  refine aw_fl [none, none, none] trivial ?_
  exact rmX1_textByte_b29 C (by omega) (by omega) h
def mX1_textByte (v0 : Nat) (v1 : Option Nat) (v2 : Int32) (f : AH) (n : Nat) : Option (Int32 × HpN) := (if v2 < (0 : Int32) then mX1_textByte_b28 f n else ((v1).bind fun j1 => ((gI f j1 3 3).bind fun x2 => (if x2 ≤ v2 then mX1_textByte_b28 f n else ((gR f v0 1 0).bind fun x3 => ((gI f j1 3 2).bind fun x4 => ((x3).bind fun j5 => rCk (isO f j5 5) (((mX5_get j5 (x4 + v2) f n).bind fun r7 => mX1_textByte_b29 r7.1 r7.2.1 r7.2.2)))))))))
set_option maxHeartbeats 1000000 in
theorem rmX1_textByte {X : GX} {l : Launch} {r : Int32 × HpN} {v0 : Nat} {v1 : Option Nat} {v2 : Int32} {f : AH} {n : Nat} (h : mX1_textByte v0 v1 v2 f n = some r) : AM X l yX1_textByte cX1_textByte 3 (some .int) 1 0 0 [.ref v0, va_rf v1, .int v2] f n (QHi r) := by
  have h : (if v2 < (0 : Int32) then mX1_textByte_b28 f n else ((v1).bind fun j1 => ((gI f j1 3 3).bind fun x2 => (if x2 ≤ v2 then mX1_textByte_b28 f n else ((gR f v0 1 0).bind fun x3 => ((gI f j1 3 2).bind fun x4 => ((x3).bind fun j5 => rCk (isO f j5 5) (((mX5_get j5 (x4 + v2) f n).bind fun r7 => mX1_textByte_b29 r7.1 r7.2.1 r7.2.2))))))))) = some r := h
  refine AM.of (by decide +kernel) (all1 rfl (all1 (rf_cat _) (all1 rfl rfl))) (Nat.le_of_ble_eq_true rfl) (fun p e s m args below meth c C hnm => ?_)
  refine aw_nl [some (.ref v0), some (va_rf v1), some (.int v2)] rfl ?_
  refine aw_iload_n C dX1_textByte_0 rfl ?_
  refine aw_if_lt C 28 dX1_textByte_1 (by decide) (fun q => ?_) (fun q => ?_)
  · rw [if_pos q] at h
    refine aw_fl [none, none, none] trivial ?_
    exact rmX1_textByte_b28 C (by omega) (by omega) h
  · rw [if_neg q] at h
    refine aw_iload_n C dX1_textByte_4 rfl ?_
    refine aw_aload_n C dX1_textByte_5 rfl (rf_or v1) ?_
    obtain ⟨j1, hj1, h⟩ := Option.bind_eq_some_iff.mp h
    rw [hj1]
    obtain ⟨x2, hx2, h⟩ := Option.bind_eq_some_iff.mp h
    refine ah_getI C gf_X1_133 hx2 dX1_textByte_6 ?_
    refine aw_icmp_ge C 28 dX1_textByte_9 (by decide) (fun q => ?_) (fun q => ?_)
    · rw [if_pos q] at h
      refine aw_fl [none, none, none] trivial ?_
      exact rmX1_textByte_b28 C (by omega) (by omega) h
    · rw [if_neg q] at h
      refine aw_ald_n C dX1_textByte_12 rfl ?_
      obtain ⟨x3, hx3, h⟩ := Option.bind_eq_some_iff.mp h
      refine ah_getR C gf_X1_14 hx3 dX1_textByte_13 ?_
      refine aw_ald_n C dX1_textByte_16 rfl ?_
      obtain ⟨x4, hx4, h⟩ := Option.bind_eq_some_iff.mp h
      refine ah_getI C gf_X1_130 hx4 dX1_textByte_17 ?_
      refine aw_iload_n C dX1_textByte_20 rfl ?_
      refine aw_iadd C dX1_textByte_21 ?_
      obtain ⟨j5, hj5, h⟩ := Option.bind_eq_some_iff.mp h
      rw [hj5]
      obtain ⟨hb6, h⟩ := ck_some h
      obtain ⟨r7, hr7, h⟩ := Option.bind_eq_some_iff.mp h
      obtain ⟨fs8, hf8⟩ := isO_ex hb6
      refine aw_callV C (ci := 5) (b := j5) [.int (x4 + v2)] mv_X1_114 rfl rfl hf8 (rmX5_get hr7) rfl dX1_textByte_22 (Nat.le_of_ble_eq_true rfl) (Nat.le_of_ble_eq_true rfl) rfl (Nat.le_of_ble_eq_true rfl) (show 0 + 0 ≤ 0 by omega) (show 0 + 0 ≤ 0 by omega) (fun v9 f9 n9 hh => ?_)
      obtain ⟨rfl, rfl, rfl⟩ := hh
      refine aw_goto C 29 dX1_textByte_25 (by decide) ?_
      refine aw_fl [none, none, none] trivial ?_
      exact rmX1_textByte_b29 C (by omega) (by omega) h
def mX8_nowByte_b33 (s0 : Int32) (f : AH) (n : Nat) : Option (Int32 × HpN) := some (s0, (f, n))
set_option maxHeartbeats 1000000 in
theorem rmX8_nowByte_b33 {X : GX} {p : Program} {l : Launch} {e : Env} {s : State} {m : MethodId} {args : Array Value} {below : List Frame} {meth : Method} {c : Code} {r : Int32 × HpN} {s0 : Int32} {f : AH} {n cells slots : Nat} (C : CC X p l (RM 2 0 0) s m args meth c RX8 cX8_nowByte 5 (some .int)) (hc : cells + 0 ≤ 0) (hs : slots + 0 ≤ 0) (h : mX8_nowByte_b33 s0 f n = some r) : AW X p l e (RM 2 0 0) s m args below meth c 5 (ZM X below args s 0 0 (QHi r)) f n cells slots 33 [none, none, none, none, none] [.int s0] := by
  have h : some (s0, (f, n)) = some r := h
  cases h
  exact aw_iret C rfl rfl dX8_nowByte_33 (by omega) (by omega) ⟨rfl, rfl, rfl⟩
def mX8_nowByte (v0 : Nat) (v1 : Int32) (v2 : Option Nat) (v3 : Int32) (f : AH) (n : Nat) : Option (Int32 × HpN) := ((gR f v0 8 1).bind fun x1 => ((x1).bind fun j2 => rCk (isO f j2 7) (((mX7_toldFor j2 v1 f n).bind fun r4 => ((some r4.1).bind fun x6 => (oN x6 (((gR r4.2.1 v0 8 5).bind fun x8 => ((x8).bind fun j9 => rCk (isO r4.2.1 j9 1) (((mX1_textByte j9 v2 v3 r4.2.1 r4.2.2).bind fun r11 => mX8_nowByte_b33 r11.1 r11.2.1 r11.2.2))))) (fun j7 => rCk (isO r4.2.1 j7 5) (((mX5_get j7 v3 r4.2.1 r4.2.2).bind fun r14 => mX8_nowByte_b33 r14.1 r14.2.1 r14.2.2)))))))))
set_option maxHeartbeats 1000000 in
theorem rmX8_nowByte {X : GX} {l : Launch} {r : Int32 × HpN} {v0 : Nat} {v1 : Int32} {v2 : Option Nat} {v3 : Int32} {f : AH} {n : Nat} (h : mX8_nowByte v0 v1 v2 v3 f n = some r) : AM X l yX8_nowByte cX8_nowByte 5 (some .int) 2 0 0 [.ref v0, .int v1, va_rf v2, .int v3] f n (QHi r) := by
  have h : ((gR f v0 8 1).bind fun x1 => ((x1).bind fun j2 => rCk (isO f j2 7) (((mX7_toldFor j2 v1 f n).bind fun r4 => ((some r4.1).bind fun x6 => (oN x6 (((gR r4.2.1 v0 8 5).bind fun x8 => ((x8).bind fun j9 => rCk (isO r4.2.1 j9 1) (((mX1_textByte j9 v2 v3 r4.2.1 r4.2.2).bind fun r11 => mX8_nowByte_b33 r11.1 r11.2.1 r11.2.2))))) (fun j7 => rCk (isO r4.2.1 j7 5) (((mX5_get j7 v3 r4.2.1 r4.2.2).bind fun r14 => mX8_nowByte_b33 r14.1 r14.2.1 r14.2.2))))))))) = some r := h
  refine AM.of (by decide +kernel) (all1 rfl (all1 rfl (all1 (rf_cat _) (all1 rfl rfl)))) (Nat.le_of_ble_eq_true rfl) (fun p e s m args below meth c C hnm => ?_)
  refine aw_nl [some (.ref v0), some (.int v1), some (va_rf v2), some (.int v3), none] rfl ?_
  refine aw_ald_n C dX8_nowByte_0 rfl ?_
  obtain ⟨x1, hx1, h⟩ := Option.bind_eq_some_iff.mp h
  refine ah_getR C gf_X8_21 hx1 dX8_nowByte_1 ?_
  refine aw_iload_n C dX8_nowByte_4 rfl ?_
  obtain ⟨j2, hj2, h⟩ := Option.bind_eq_some_iff.mp h
  rw [hj2]
  obtain ⟨hb3, h⟩ := ck_some h
  obtain ⟨r4, hr4, h⟩ := Option.bind_eq_some_iff.mp h
  obtain ⟨fs5, hf5⟩ := isO_ex hb3
  refine aw_callV C (ci := 7) (b := j2) [.int v1] mv_X8_194 rfl rfl hf5 (rmX7_toldFor hr4) rfl dX8_nowByte_5 (Nat.le_of_ble_eq_true rfl) (Nat.le_of_ble_eq_true rfl) rfl (Nat.le_of_ble_eq_true rfl) (show 0 + 0 ≤ 0 by omega) (show 0 + 0 ≤ 0 by omega) (fun v9 f9 n9 hh => ?_)
  obtain ⟨rfl, rfl, rfl⟩ := hh
  obtain ⟨x6, hx6, h⟩ := Option.bind_eq_some_iff.mp h
  rw [Option.some.inj hx6]
  refine aw_astore C dX8_nowByte_8 (by decide) rfl (rf_or x6) ?_
  refine aw_nl [some (.ref v0), some (.int v1), some (va_rf v2), some (.int v3), some (va_rf x6)] rfl ?_
  refine aw_aload C dX8_nowByte_10 rfl (rf_or x6) ?_
  cases x6 with
  | none =>
    replace h : ((gR r4.2.1 v0 8 5).bind fun x8 => ((x8).bind fun j9 => rCk (isO r4.2.1 j9 1) (((mX1_textByte j9 v2 v3 r4.2.1 r4.2.2).bind fun r11 => mX8_nowByte_b33 r11.1 r11.2.1 r11.2.2)))) = some r := h
    refine aw_ifnonnull_n C 27 dX8_nowByte_12 (by decide) ?_
    refine aw_ald_n C dX8_nowByte_15 rfl ?_
    obtain ⟨x8, hx8, h⟩ := Option.bind_eq_some_iff.mp h
    refine ah_getR C gf_X8_38 hx8 dX8_nowByte_16 ?_
    refine aw_aload_n C dX8_nowByte_19 rfl (rf_or v2) ?_
    refine aw_iload_n C dX8_nowByte_20 rfl ?_
    obtain ⟨j9, hj9, h⟩ := Option.bind_eq_some_iff.mp h
    rw [hj9]
    obtain ⟨hb10, h⟩ := ck_some h
    obtain ⟨r11, hr11, h⟩ := Option.bind_eq_some_iff.mp h
    obtain ⟨fs12, hf12⟩ := isO_ex hb10
    refine aw_callV C (ci := 1) (b := j9) [va_rf v2, .int v3] mv_X8_217 rfl rfl hf12 (rmX1_textByte hr11) rfl dX8_nowByte_21 (Nat.le_of_ble_eq_true rfl) (Nat.le_of_ble_eq_true rfl) rfl (Nat.le_of_ble_eq_true rfl) (show (0 + 0) + 0 ≤ 0 by omega) (show (0 + 0) + 0 ≤ 0 by omega) (fun v9 f9 n9 hh => ?_)
    obtain ⟨rfl, rfl, rfl⟩ := hh
    refine aw_goto C 33 dX8_nowByte_24 (by decide) ?_
    refine aw_fl [none, none, none, none, none] trivial ?_
    exact rmX8_nowByte_b33 C (by omega) (by omega) h
  | some j7 =>
    replace h : rCk (isO r4.2.1 j7 5) (((mX5_get j7 v3 r4.2.1 r4.2.2).bind fun r14 => mX8_nowByte_b33 r14.1 r14.2.1 r14.2.2)) = some r := h
    refine aw_ifnonnull_r C 27 dX8_nowByte_12 (by decide) ?_
    refine aw_ald C dX8_nowByte_27 rfl ?_
    refine aw_iload_n C dX8_nowByte_29 rfl ?_
    obtain ⟨hb13, h⟩ := ck_some h
    obtain ⟨r14, hr14, h⟩ := Option.bind_eq_some_iff.mp h
    obtain ⟨fs15, hf15⟩ := isO_ex hb13
    refine aw_callV C (ci := 5) (b := j7) [.int v3] mv_X8_227 rfl rfl hf15 (rmX5_get hr14) rfl dX8_nowByte_30 (Nat.le_of_ble_eq_true rfl) (Nat.le_of_ble_eq_true rfl) rfl (Nat.le_of_ble_eq_true rfl) (show (0 + 0) + 0 ≤ 0 by omega) (show (0 + 0) + 0 ≤ 0 by omega) (fun v9 f9 n9 hh => ?_)
    obtain ⟨rfl, rfl, rfl⟩ := hh
    refine aw_fl [none, none, none, none, none] trivial ?_
    exact rmX8_nowByte_b33 C (by omega) (by omega) h
def mX8_octet_b32 (s0 : Int32) (f : AH) (n : Nat) : Option ((Int32 ⊕ String) × HpN) := some (.inl s0, (f, n))
set_option maxHeartbeats 1000000 in
theorem rmX8_octet_b32 {X : GX} {p : Program} {l : Launch} {e : Env} {s : State} {m : MethodId} {args : Array Value} {below : List Frame} {meth : Method} {c : Code} {r : (Int32 ⊕ String) × HpN} {s0 : Int32} {f : AH} {n cells slots : Nat} (C : CC X p l (RM 7 1 6) s m args meth c RX8 cX8_octet 5 (some .int)) (hl0 : l.stackTraces = false) (htab : ∀ x ∈ c.exceptionTable.toList, False) (hc : cells + 0 ≤ 1) (hs : slots + 0 ≤ 6) (h : mX8_octet_b32 s0 f n = some r) : AW X p l e (RM 7 1 6) s m args below meth c 5 (ZX X below args s 1 6 (QTr (QHi) r) (QTx r)) f n cells slots 32 [none, none, none, none, none] [.int s0] := by
  have h : some (.inl s0, (f, n)) = some r := h
  cases h
  exact ax_of (aw_iret C rfl rfl dX8_octet_32 (by omega) (by omega) ⟨_, rfl, rfl, rfl, rfl⟩)
def mX8_octet (v0 : Nat) (v1 : Int32) (v2 : Int32) (v3 : Int32) (f : AH) (n : Nat) : Option ((Int32 ⊕ String) × HpN) := rCk (isO f v0 8) (((mX8_pieceOrThrow v0 v1 f n).bind fun r2 => (tS r2.1 r2.2 (fun y2 => ((some y2).bind fun x4 => (if v3 = (0 : Int32) then ((gR r2.2.1 v0 8 5).bind fun x5 => ((x5).bind fun j6 => rCk (isO r2.2.1 j6 1) (((mX1_textByte j6 x4 v2 r2.2.1 r2.2.2).bind fun r8 => mX8_octet_b32 r8.1 r8.2.1 r8.2.2)))) else rCk (isO r2.2.1 v0 8) (((mX8_nowByte v0 v1 x4 v2 r2.2.1 r2.2.2).bind fun r11 => mX8_octet_b32 r11.1 r11.2.1 r11.2.2))))))))
set_option maxHeartbeats 1000000 in
theorem rmX8_octet {X : GX} {l : Launch} {r : (Int32 ⊕ String) × HpN} {v0 : Nat} {v1 : Int32} {v2 : Int32} {v3 : Int32} {f : AH} {n : Nat} (hl0 : l.stackTraces = false) (h : mX8_octet v0 v1 v2 v3 f n = some r) : AX X l yX8_octet cX8_octet 5 (some .int) 7 1 6 [.ref v0, .int v1, .int v2, .int v3] f n (QTr (QHi) r) (QTx r) := by
  have h : rCk (isO f v0 8) (((mX8_pieceOrThrow v0 v1 f n).bind fun r2 => (tS r2.1 r2.2 (fun y2 => ((some y2).bind fun x4 => (if v3 = (0 : Int32) then ((gR r2.2.1 v0 8 5).bind fun x5 => ((x5).bind fun j6 => rCk (isO r2.2.1 j6 1) (((mX1_textByte j6 x4 v2 r2.2.1 r2.2.2).bind fun r8 => mX8_octet_b32 r8.1 r8.2.1 r8.2.2)))) else rCk (isO r2.2.1 v0 8) (((mX8_nowByte v0 v1 x4 v2 r2.2.1 r2.2.2).bind fun r11 => mX8_octet_b32 r11.1 r11.2.1 r11.2.2)))))))) = some r := h
  refine AX.of (by decide +kernel) rfl (Nat.le_of_ble_eq_true rfl) (fun p e s m args below meth c C htab => ?_)
  refine aw_nl [some (.ref v0), some (.int v1), some (.int v2), some (.int v3), none] rfl ?_
  refine aw_ald_n C dX8_octet_0 rfl ?_
  refine aw_iload_n C dX8_octet_1 rfl ?_
  obtain ⟨hb1, h⟩ := ck_some h
  obtain ⟨r2, hr2, h⟩ := Option.bind_eq_some_iff.mp h
  obtain ⟨fs3, hf3⟩ := isO_ex hb1
  refine ax_callV C (ci := 8) (b := v0) [.int v1] mv_X8_175 rfl rfl hf3 (rmX8_pieceOrThrow hl0 hr2) rfl dX8_octet_2 (Nat.le_of_ble_eq_true rfl) (Nat.le_of_ble_eq_true rfl) rfl (Nat.le_of_ble_eq_true rfl) (show 0 + 1 ≤ 1 by omega) (show 0 + 6 ≤ 6 by omega) (fun E9 f9 n9 hq => ?_) (fun v9 f9 n9 hq => ?_)
  · obtain ⟨e1, e2, e3⟩ := hq
    rw [tS_r e1] at h
    cases h
    exact at_out C htab ⟨rfl, e2, e3⟩ (by omega) (by omega)
  obtain ⟨y2, e2, rfl, rfl, rfl⟩ := hq
  rw [tS_l e2] at h
  replace h : ((some y2).bind fun x4 => (if v3 = (0 : Int32) then ((gR r2.2.1 v0 8 5).bind fun x5 => ((x5).bind fun j6 => rCk (isO r2.2.1 j6 1) (((mX1_textByte j6 x4 v2 r2.2.1 r2.2.2).bind fun r8 => mX8_octet_b32 r8.1 r8.2.1 r8.2.2)))) else rCk (isO r2.2.1 v0 8) (((mX8_nowByte v0 v1 x4 v2 r2.2.1 r2.2.2).bind fun r11 => mX8_octet_b32 r11.1 r11.2.1 r11.2.2)))) = some r := h
  obtain ⟨x4, hx4, h⟩ := Option.bind_eq_some_iff.mp h
  rw [Option.some.inj hx4]
  refine aw_astore C dX8_octet_5 (by decide) rfl (rf_or x4) ?_
  refine aw_nl [some (.ref v0), some (.int v1), some (.int v2), some (.int v3), some (va_rf x4)] rfl ?_
  refine aw_iload_n C dX8_octet_7 rfl ?_
  refine aw_if_eq C 22 dX8_octet_8 (by decide) (fun q => ?_) (fun q => ?_)
  · rw [if_pos q] at h
    refine aw_ald_n C dX8_octet_22 rfl ?_
    obtain ⟨x5, hx5, h⟩ := Option.bind_eq_some_iff.mp h
    refine ah_getR C gf_X8_38 hx5 dX8_octet_23 ?_
    refine aw_aload C dX8_octet_26 rfl (rf_or x4) ?_
    refine aw_iload_n C dX8_octet_28 rfl ?_
    obtain ⟨j6, hj6, h⟩ := Option.bind_eq_some_iff.mp h
    rw [hj6]
    obtain ⟨hb7, h⟩ := ck_some h
    obtain ⟨r8, hr8, h⟩ := Option.bind_eq_some_iff.mp h
    obtain ⟨fs9, hf9⟩ := isO_ex hb7
    refine aw_callV C (ci := 1) (b := j6) [va_rf x4, .int v2] mv_X8_217 rfl rfl hf9 (rmX1_textByte hr8) rfl dX8_octet_29 (Nat.le_of_ble_eq_true rfl) (Nat.le_of_ble_eq_true rfl) rfl (Nat.le_of_ble_eq_true rfl) (show (0 + 1) + 0 ≤ 1 by omega) (show (0 + 6) + 0 ≤ 6 by omega) (fun v9 f9 n9 hh => ?_)
    obtain ⟨rfl, rfl, rfl⟩ := hh
    refine aw_fl [none, none, none, none, none] trivial ?_
    exact rmX8_octet_b32 C hl0 htab (by omega) (by omega) h
  · rw [if_neg q] at h
    refine aw_ald_n C dX8_octet_11 rfl ?_
    refine aw_iload_n C dX8_octet_12 rfl ?_
    refine aw_aload C dX8_octet_13 rfl (rf_or x4) ?_
    refine aw_iload_n C dX8_octet_15 rfl ?_
    obtain ⟨hb10, h⟩ := ck_some h
    obtain ⟨r11, hr11, h⟩ := Option.bind_eq_some_iff.mp h
    obtain ⟨fs12, hf12⟩ := isO_ex hb10
    refine aw_callV C (ci := 8) (b := v0) [.int v1, va_rf x4, .int v2] mv_X8_213 rfl rfl hf12 (rmX8_nowByte hr11) rfl dX8_octet_16 (Nat.le_of_ble_eq_true rfl) (Nat.le_of_ble_eq_true rfl) rfl (Nat.le_of_ble_eq_true rfl) (show (0 + 1) + 0 ≤ 1 by omega) (show (0 + 6) + 0 ≤ 6 by omega) (fun v9 f9 n9 hh => ?_)
    obtain ⟨rfl, rfl, rfl⟩ := hh
    refine aw_goto C 32 dX8_octet_19 (by decide) ?_
    refine aw_fl [none, none, none, none, none] trivial ?_
    exact rmX8_octet_b32 C hl0 htab (by omega) (by omega) h
def mX8_origin_b38 (s0 : Int32) (f : AH) (n : Nat) : Option ((Int32 ⊕ String) × HpN) := some (.inl s0, (f, n))
set_option maxHeartbeats 1000000 in
theorem rmX8_origin_b38 {X : GX} {p : Program} {l : Launch} {e : Env} {s : State} {m : MethodId} {args : Array Value} {below : List Frame} {meth : Method} {c : Code} {r : (Int32 ⊕ String) × HpN} {s0 : Int32} {f : AH} {n cells slots : Nat} (C : CC X p l (RM 7 1 6) s m args meth c RX8 cX8_origin 4 (some .int)) (hl0 : l.stackTraces = false) (htab : ∀ x ∈ c.exceptionTable.toList, False) (hc : cells + 0 ≤ 1) (hs : slots + 0 ≤ 6) (h : mX8_origin_b38 s0 f n = some r) : AW X p l e (RM 7 1 6) s m args below meth c 4 (ZX X below args s 1 6 (QTr (QHi) r) (QTx r)) f n cells slots 38 [none, none, none, none] [.int s0] := by
  have h : some (.inl s0, (f, n)) = some r := h
  cases h
  exact ax_of (aw_iret C rfl rfl dX8_origin_38 (by omega) (by omega) ⟨_, rfl, rfl, rfl, rfl⟩)
def mX8_origin_b37 (f : AH) (n : Nat) : Option ((Int32 ⊕ String) × HpN) := mX8_origin_b38 (-1 : Int32) f n
set_option maxHeartbeats 1000000 in
theorem rmX8_origin_b37 {X : GX} {p : Program} {l : Launch} {e : Env} {s : State} {m : MethodId} {args : Array Value} {below : List Frame} {meth : Method} {c : Code} {r : (Int32 ⊕ String) × HpN} {f : AH} {n cells slots : Nat} (C : CC X p l (RM 7 1 6) s m args meth c RX8 cX8_origin 4 (some .int)) (hl0 : l.stackTraces = false) (htab : ∀ x ∈ c.exceptionTable.toList, False) (hc : cells + 0 ≤ 1) (hs : slots + 0 ≤ 6) (h : mX8_origin_b37 f n = some r) : AW X p l e (RM 7 1 6) s m args below meth c 4 (ZX X below args s 1 6 (QTr (QHi) r) (QTx r)) f n cells slots 37 [none, none, none, none] [] := by
  have h : mX8_origin_b38 (-1 : Int32) f n = some r := h
  refine aw_iconst C (-1) dX8_origin_37 ki_m1 ?_
  refine aw_fl [none, none, none, none] trivial ?_
  exact rmX8_origin_b38 C hl0 htab (by omega) (by omega) h
def mX8_origin (v0 : Nat) (v1 : Int32) (v2 : Int32) (f : AH) (n : Nat) : Option ((Int32 ⊕ String) × HpN) := rCk (isO f v0 8) (((mX8_pieceOrThrow v0 v1 f n).bind fun r2 => (tS r2.1 r2.2 (fun y2 => ((some y2).bind fun x4 => (if v2 < (0 : Int32) then mX8_origin_b37 r2.2.1 r2.2.2 else ((x4).bind fun j5 => ((gI r2.2.1 j5 3 3).bind fun x6 => (if x6 ≤ v2 then mX8_origin_b37 r2.2.1 r2.2.2 else ((gR r2.2.1 v0 8 5).bind fun x7 => ((x7).bind fun j8 => ((gR r2.2.1 j8 1 1).bind fun x9 => ((gI r2.2.1 j5 3 2).bind fun x10 => ((x9).bind fun j11 => rCk (isO r2.2.1 j11 5) (((mX5_get j11 (x10 + v2) r2.2.1 r2.2.2).bind fun r13 => mX8_origin_b38 r13.1 r13.2.1 r13.2.2))))))))))))))))
set_option maxHeartbeats 1000000 in
theorem rmX8_origin {X : GX} {l : Launch} {r : (Int32 ⊕ String) × HpN} {v0 : Nat} {v1 : Int32} {v2 : Int32} {f : AH} {n : Nat} (hl0 : l.stackTraces = false) (h : mX8_origin v0 v1 v2 f n = some r) : AX X l yX8_origin cX8_origin 4 (some .int) 7 1 6 [.ref v0, .int v1, .int v2] f n (QTr (QHi) r) (QTx r) := by
  have h : rCk (isO f v0 8) (((mX8_pieceOrThrow v0 v1 f n).bind fun r2 => (tS r2.1 r2.2 (fun y2 => ((some y2).bind fun x4 => (if v2 < (0 : Int32) then mX8_origin_b37 r2.2.1 r2.2.2 else ((x4).bind fun j5 => ((gI r2.2.1 j5 3 3).bind fun x6 => (if x6 ≤ v2 then mX8_origin_b37 r2.2.1 r2.2.2 else ((gR r2.2.1 v0 8 5).bind fun x7 => ((x7).bind fun j8 => ((gR r2.2.1 j8 1 1).bind fun x9 => ((gI r2.2.1 j5 3 2).bind fun x10 => ((x9).bind fun j11 => rCk (isO r2.2.1 j11 5) (((mX5_get j11 (x10 + v2) r2.2.1 r2.2.2).bind fun r13 => mX8_origin_b38 r13.1 r13.2.1 r13.2.2)))))))))))))))) = some r := h
  refine AX.of (by decide +kernel) rfl (Nat.le_of_ble_eq_true rfl) (fun p e s m args below meth c C htab => ?_)
  refine aw_nl [some (.ref v0), some (.int v1), some (.int v2), none] rfl ?_
  refine aw_ald_n C dX8_origin_0 rfl ?_
  refine aw_iload_n C dX8_origin_1 rfl ?_
  obtain ⟨hb1, h⟩ := ck_some h
  obtain ⟨r2, hr2, h⟩ := Option.bind_eq_some_iff.mp h
  obtain ⟨fs3, hf3⟩ := isO_ex hb1
  refine ax_callV C (ci := 8) (b := v0) [.int v1] mv_X8_175 rfl rfl hf3 (rmX8_pieceOrThrow hl0 hr2) rfl dX8_origin_2 (Nat.le_of_ble_eq_true rfl) (Nat.le_of_ble_eq_true rfl) rfl (Nat.le_of_ble_eq_true rfl) (show 0 + 1 ≤ 1 by omega) (show 0 + 6 ≤ 6 by omega) (fun E9 f9 n9 hq => ?_) (fun v9 f9 n9 hq => ?_)
  · obtain ⟨e1, e2, e3⟩ := hq
    rw [tS_r e1] at h
    cases h
    exact at_out C htab ⟨rfl, e2, e3⟩ (by omega) (by omega)
  obtain ⟨y2, e2, rfl, rfl, rfl⟩ := hq
  rw [tS_l e2] at h
  replace h : ((some y2).bind fun x4 => (if v2 < (0 : Int32) then mX8_origin_b37 r2.2.1 r2.2.2 else ((x4).bind fun j5 => ((gI r2.2.1 j5 3 3).bind fun x6 => (if x6 ≤ v2 then mX8_origin_b37 r2.2.1 r2.2.2 else ((gR r2.2.1 v0 8 5).bind fun x7 => ((x7).bind fun j8 => ((gR r2.2.1 j8 1 1).bind fun x9 => ((gI r2.2.1 j5 3 2).bind fun x10 => ((x9).bind fun j11 => rCk (isO r2.2.1 j11 5) (((mX5_get j11 (x10 + v2) r2.2.1 r2.2.2).bind fun r13 => mX8_origin_b38 r13.1 r13.2.1 r13.2.2)))))))))))) = some r := h
  obtain ⟨x4, hx4, h⟩ := Option.bind_eq_some_iff.mp h
  rw [Option.some.inj hx4]
  refine aw_astore_n C dX8_origin_5 (by decide) rfl (rf_or x4) ?_
  refine aw_nl [some (.ref v0), some (.int v1), some (.int v2), some (va_rf x4)] rfl ?_
  refine aw_iload_n C dX8_origin_6 rfl ?_
  refine aw_if_lt C 37 dX8_origin_7 (by decide) (fun q => ?_) (fun q => ?_)
  · rw [if_pos q] at h
    refine aw_fl [none, none, none, none] trivial ?_
    exact rmX8_origin_b37 C hl0 htab (by omega) (by omega) h
  · rw [if_neg q] at h
    refine aw_iload_n C dX8_origin_10 rfl ?_
    refine aw_aload_n C dX8_origin_11 rfl (rf_or x4) ?_
    obtain ⟨j5, hj5, h⟩ := Option.bind_eq_some_iff.mp h
    rw [hj5]
    obtain ⟨x6, hx6, h⟩ := Option.bind_eq_some_iff.mp h
    refine ah_getI C gf_X8_187 hx6 dX8_origin_12 ?_
    refine aw_icmp_ge C 37 dX8_origin_15 (by decide) (fun q => ?_) (fun q => ?_)
    · rw [if_pos q] at h
      refine aw_fl [none, none, none, none] trivial ?_
      exact rmX8_origin_b37 C hl0 htab (by omega) (by omega) h
    · rw [if_neg q] at h
      refine aw_ald_n C dX8_origin_18 rfl ?_
      obtain ⟨x7, hx7, h⟩ := Option.bind_eq_some_iff.mp h
      refine ah_getR C gf_X8_38 hx7 dX8_origin_19 ?_
      obtain ⟨j8, hj8, h⟩ := Option.bind_eq_some_iff.mp h
      rw [hj8]
      obtain ⟨x9, hx9, h⟩ := Option.bind_eq_some_iff.mp h
      refine ah_getR C gf_X8_221 hx9 dX8_origin_22 ?_
      refine aw_ald_n C dX8_origin_25 rfl ?_
      obtain ⟨x10, hx10, h⟩ := Option.bind_eq_some_iff.mp h
      refine ah_getI C gf_X8_224 hx10 dX8_origin_26 ?_
      refine aw_iload_n C dX8_origin_29 rfl ?_
      refine aw_iadd C dX8_origin_30 ?_
      obtain ⟨j11, hj11, h⟩ := Option.bind_eq_some_iff.mp h
      rw [hj11]
      obtain ⟨hb12, h⟩ := ck_some h
      obtain ⟨r13, hr13, h⟩ := Option.bind_eq_some_iff.mp h
      obtain ⟨fs14, hf14⟩ := isO_ex hb12
      refine aw_callV C (ci := 5) (b := j11) [.int (x10 + v2)] mv_X8_227 rfl rfl hf14 (rmX5_get hr13) rfl dX8_origin_31 (Nat.le_of_ble_eq_true rfl) (Nat.le_of_ble_eq_true rfl) rfl (Nat.le_of_ble_eq_true rfl) (show (0 + 1) + 0 ≤ 1 by omega) (show (0 + 6) + 0 ≤ 6 by omega) (fun v9 f9 n9 hh => ?_)
      obtain ⟨rfl, rfl, rfl⟩ := hh
      refine aw_goto C 38 dX8_origin_34 (by decide) ?_
      refine aw_fl [none, none, none, none] trivial ?_
      exact rmX8_origin_b38 C hl0 htab (by omega) (by omega) h
def mX8_key_b52 (s0 : Int32) (f : AH) (n : Nat) : Option ((Int32 ⊕ String) × HpN) := some (.inl s0, (f, n))
set_option maxHeartbeats 1000000 in
theorem rmX8_key_b52 {X : GX} {p : Program} {l : Launch} {e : Env} {s : State} {m : MethodId} {args : Array Value} {below : List Frame} {meth : Method} {c : Code} {r : (Int32 ⊕ String) × HpN} {s0 : Int32} {f : AH} {n cells slots : Nat} (C : CC X p l (RM 7 2 12) s m args meth c RX8 cX8_key 4 (some .int)) (hl0 : l.stackTraces = false) (htab : ∀ x ∈ c.exceptionTable.toList, False) (hc : cells + 0 ≤ 2) (hs : slots + 0 ≤ 12) (h : mX8_key_b52 s0 f n = some r) : AW X p l e (RM 7 2 12) s m args below meth c 4 (ZX X below args s 2 12 (QTr (QHi) r) (QTx r)) f n cells slots 52 [none, none, none, none] [.int s0] := by
  have h : some (.inl s0, (f, n)) = some r := h
  cases h
  exact ax_of (aw_iret C rfl rfl dX8_key_52 (by omega) (by omega) ⟨_, rfl, rfl, rfl, rfl⟩)
def mX8_key_b25 (v0 : Nat) (v2 : Int32) (v3 : Option Nat) (f : AH) (n : Nat) : Option ((Int32 ⊕ String) × HpN) := ((gR f v0 8 1).bind fun x1 => ((x1).bind fun j2 => ((gI f j2 7 1).bind fun x3 => (if x3 = (0 : Int32) then (if v2 = (0 : Int32) then ((v3).bind fun j6 => ((gI f j6 3 4).bind fun x7 => mX8_key_b52 x7 f n)) else ((v3).bind fun j4 => ((gI f j4 3 5).bind fun x5 => mX8_key_b52 x5 f n))) else some (.inl (-1 : Int32), (f, n))))))
set_option maxHeartbeats 1000000 in
theorem rmX8_key_b25 {X : GX} {p : Program} {l : Launch} {e : Env} {s : State} {m : MethodId} {args : Array Value} {below : List Frame} {meth : Method} {c : Code} {r : (Int32 ⊕ String) × HpN} {v0 : Nat} {v2 : Int32} {v3 : Option Nat} {f : AH} {n cells slots : Nat} (C : CC X p l (RM 7 2 12) s m args meth c RX8 cX8_key 4 (some .int)) (hl0 : l.stackTraces = false) (htab : ∀ x ∈ c.exceptionTable.toList, False) (hc : cells + 0 ≤ 2) (hs : slots + 0 ≤ 12) (h : mX8_key_b25 v0 v2 v3 f n = some r) : AW X p l e (RM 7 2 12) s m args below meth c 4 (ZX X below args s 2 12 (QTr (QHi) r) (QTx r)) f n cells slots 25 [some (.ref v0), none, some (.int v2), some (va_rf v3)] [] := by
  have h : ((gR f v0 8 1).bind fun x1 => ((x1).bind fun j2 => ((gI f j2 7 1).bind fun x3 => (if x3 = (0 : Int32) then (if v2 = (0 : Int32) then ((v3).bind fun j6 => ((gI f j6 3 4).bind fun x7 => mX8_key_b52 x7 f n)) else ((v3).bind fun j4 => ((gI f j4 3 5).bind fun x5 => mX8_key_b52 x5 f n))) else some (.inl (-1 : Int32), (f, n)))))) = some r := h
  refine aw_ald_n C dX8_key_25 rfl ?_
  obtain ⟨x1, hx1, h⟩ := Option.bind_eq_some_iff.mp h
  refine ah_getR C gf_X8_21 hx1 dX8_key_26 ?_
  obtain ⟨j2, hj2, h⟩ := Option.bind_eq_some_iff.mp h
  rw [hj2]
  obtain ⟨x3, hx3, h⟩ := Option.bind_eq_some_iff.mp h
  refine ah_getI C gf_X8_232 hx3 dX8_key_29 ?_
  refine aw_if_eq C 37 dX8_key_32 (by decide) (fun q => ?_) (fun q => ?_)
  · rw [if_pos q] at h
    refine aw_iload_n C dX8_key_37 rfl ?_
    refine aw_if_ne C 48 dX8_key_38 (by decide) (fun q => ?_) (fun q => ?_)
    · rw [if_neg q] at h
      refine aw_aload_n C dX8_key_48 rfl (rf_or v3) ?_
      obtain ⟨j4, hj4, h⟩ := Option.bind_eq_some_iff.mp h
      rw [hj4]
      obtain ⟨x5, hx5, h⟩ := Option.bind_eq_some_iff.mp h
      refine ah_getI C gf_X8_238 hx5 dX8_key_49 ?_
      refine aw_fl [none, none, none, none] trivial ?_
      exact rmX8_key_b52 C hl0 htab (by omega) (by omega) h
    · rw [if_pos q] at h
      refine aw_aload_n C dX8_key_41 rfl (rf_or v3) ?_
      obtain ⟨j6, hj6, h⟩ := Option.bind_eq_some_iff.mp h
      rw [hj6]
      obtain ⟨x7, hx7, h⟩ := Option.bind_eq_some_iff.mp h
      refine ah_getI C gf_X8_235 hx7 dX8_key_42 ?_
      refine aw_goto C 52 dX8_key_45 (by decide) ?_
      refine aw_fl [none, none, none, none] trivial ?_
      exact rmX8_key_b52 C hl0 htab (by omega) (by omega) h
  · rw [if_neg q] at h
    refine aw_iconst C (-1) dX8_key_35 ki_m1 ?_
    cases h
    exact ax_of (aw_iret C rfl rfl dX8_key_36 (by omega) (by omega) ⟨_, rfl, rfl, rfl, rfl⟩)
def mX8_key (v0 : Nat) (v1 : Int32) (v2 : Int32) (f : AH) (n : Nat) : Option ((Int32 ⊕ String) × HpN) := rCk (isO f v0 8) (((mX8_pieceOrThrow v0 v1 f n).bind fun r2 => (tS r2.1 r2.2 (fun y2 => ((some y2).bind fun x4 => (if v2 = (0 : Int32) then mX8_key_b25 v0 v2 x4 r2.2.1 r2.2.2 else (if v2 = (1 : Int32) then mX8_key_b25 v0 v2 x4 r2.2.1 r2.2.2 else some (.inr eN, (r2.2.1, r2.2.2)))))))))
set_option maxHeartbeats 1000000 in
theorem rmX8_key {X : GX} {l : Launch} {r : (Int32 ⊕ String) × HpN} {v0 : Nat} {v1 : Int32} {v2 : Int32} {f : AH} {n : Nat} (hl0 : l.stackTraces = false) (h : mX8_key v0 v1 v2 f n = some r) : AX X l yX8_key cX8_key 4 (some .int) 7 2 12 [.ref v0, .int v1, .int v2] f n (QTr (QHi) r) (QTx r) := by
  have h : rCk (isO f v0 8) (((mX8_pieceOrThrow v0 v1 f n).bind fun r2 => (tS r2.1 r2.2 (fun y2 => ((some y2).bind fun x4 => (if v2 = (0 : Int32) then mX8_key_b25 v0 v2 x4 r2.2.1 r2.2.2 else (if v2 = (1 : Int32) then mX8_key_b25 v0 v2 x4 r2.2.1 r2.2.2 else some (.inr eN, (r2.2.1, r2.2.2))))))))) = some r := h
  refine AX.of (by decide +kernel) rfl (Nat.le_of_ble_eq_true rfl) (fun p e s m args below meth c C htab => ?_)
  refine aw_nl [some (.ref v0), some (.int v1), some (.int v2), none] rfl ?_
  refine aw_ald_n C dX8_key_0 rfl ?_
  refine aw_iload_n C dX8_key_1 rfl ?_
  obtain ⟨hb1, h⟩ := ck_some h
  obtain ⟨r2, hr2, h⟩ := Option.bind_eq_some_iff.mp h
  obtain ⟨fs3, hf3⟩ := isO_ex hb1
  refine ax_callV C (ci := 8) (b := v0) [.int v1] mv_X8_175 rfl rfl hf3 (rmX8_pieceOrThrow hl0 hr2) rfl dX8_key_2 (Nat.le_of_ble_eq_true rfl) (Nat.le_of_ble_eq_true rfl) rfl (Nat.le_of_ble_eq_true rfl) (show 0 + 1 ≤ 2 by omega) (show 0 + 6 ≤ 12 by omega) (fun E9 f9 n9 hq => ?_) (fun v9 f9 n9 hq => ?_)
  · obtain ⟨e1, e2, e3⟩ := hq
    rw [tS_r e1] at h
    cases h
    exact at_out C htab ⟨rfl, e2, e3⟩ (by omega) (by omega)
  obtain ⟨y2, e2, rfl, rfl, rfl⟩ := hq
  rw [tS_l e2] at h
  replace h : ((some y2).bind fun x4 => (if v2 = (0 : Int32) then mX8_key_b25 v0 v2 x4 r2.2.1 r2.2.2 else (if v2 = (1 : Int32) then mX8_key_b25 v0 v2 x4 r2.2.1 r2.2.2 else some (.inr eN, (r2.2.1, r2.2.2))))) = some r := h
  obtain ⟨x4, hx4, h⟩ := Option.bind_eq_some_iff.mp h
  rw [Option.some.inj hx4]
  refine aw_astore_n C dX8_key_5 (by decide) rfl (rf_or x4) ?_
  refine aw_nl [some (.ref v0), some (.int v1), some (.int v2), some (va_rf x4)] rfl ?_
  refine aw_iload_n C dX8_key_6 rfl ?_
  refine aw_if_eq C 25 dX8_key_7 (by decide) (fun q => ?_) (fun q => ?_)
  · rw [if_pos q] at h
    refine aw_fl [some (.ref v0), none, some (.int v2), some (va_rf x4)] ⟨rfl, ⟨rfl, ⟨rfl, trivial⟩⟩⟩ ?_
    exact rmX8_key_b25 C hl0 htab (by omega) (by omega) h
  · rw [if_neg q] at h
    refine aw_iload_n C dX8_key_10 rfl ?_
    refine aw_iconst C 1 dX8_key_11 ki_1 ?_
    refine aw_icmp_eq C 25 dX8_key_12 (by decide) (fun q => ?_) (fun q => ?_)
    · rw [if_pos q] at h
      refine aw_fl [some (.ref v0), none, some (.int v2), some (va_rf x4)] ⟨rfl, ⟨rfl, ⟨rfl, trivial⟩⟩⟩ ?_
      exact rmX8_key_b25 C hl0 htab (by omega) (by omega) h
    · rw [if_neg q] at h
      cases h
      exact ax_throwN C htab hl0 th_eN sx_230 dX8_key_15 dX8_key_18 dX8_key_19 dX8_key_21 dX8_key_24 (Nat.le_of_ble_eq_true rfl) (Nat.le_of_ble_eq_true rfl) (show (0 + 1) + 1 ≤ 2 by omega) (show (0 + 6) + 6 ≤ 12 by omega) (by omega) (by omega) (fun n9 h9 => ⟨rfl, rfl, h9⟩)
end
