def mX5_hasLetter_l2 : Nat → Nat → Int32 → AH → Nat → Option (Int32 × HpN)
  | 0, _, _, _, _ => none
  | d + 1, v0, v2, f, n => ((gI f v0 5 1).bind fun x1 => (if x1 ≤ v2 then rCk (rNb (0 : Int32)) (some ((0 : Int32), (f, n))) else rCk (isO f v0 5) (((mX5_get v0 v2 f n).bind fun r4 => ((mX8_isLetter r4.1 r4.2.1 r4.2.2).bind fun r6 => (if r6.1 = (0 : Int32) then mX5_hasLetter_l2 d v0 (v2 + (1 : Int32)) r6.2.1 r6.2.2 else rCk (rNb (1 : Int32)) (some ((1 : Int32), (r6.2.1, r6.2.2)))))))))
set_option maxHeartbeats 1000000 in
theorem rmX5_hasLetter_l2 {X : GX} {p : Program} {l : Launch} {e : Env} {s : State} {m : MethodId} {args : Array Value} {below : List Frame} {meth : Method} {c : Code} {r : Int32 × HpN} (C : CC X p l (RM 1 0 0) s m args meth c RX5 cX5_hasLetter 3 (some .boolean)) : ∀ (d : Nat) (v0 : Nat) (v2 : Int32) (f : AH) (n cells slots : Nat) (_ : cells + 0 ≤ 0) (_ : slots + 0 ≤ 0) (_ : mX5_hasLetter_l2 d v0 v2 f n = some r), AW X p l e (RM 1 0 0) s m args below meth c 3 (ZM X below args s 0 0 (QHi r)) f n cells slots 2 [some (.ref v0), none, some (.int v2)] [] := by
  intro d
  induction d with
  | zero =>
    intro v0 v2 f n cells slots hc hs h
    exact nomatch (show (none : Option (Int32 × HpN)) = some r from h)
  | succ d ih =>
    intro v0 v2 f n cells slots hc hs h
    have h : ((gI f v0 5 1).bind fun x1 => (if x1 ≤ v2 then rCk (rNb (0 : Int32)) (some ((0 : Int32), (f, n))) else rCk (isO f v0 5) (((mX5_get v0 v2 f n).bind fun r4 => ((mX8_isLetter r4.1 r4.2.1 r4.2.2).bind fun r6 => (if r6.1 = (0 : Int32) then mX5_hasLetter_l2 d v0 (v2 + (1 : Int32)) r6.2.1 r6.2.2 else rCk (rNb (1 : Int32)) (some ((1 : Int32), (r6.2.1, r6.2.2))))))))) = some r := h
    refine aw_iload_n C dX5_hasLetter_2 rfl ?_
    refine aw_ald_n C dX5_hasLetter_3 rfl ?_
    obtain ⟨x1, hx1, h⟩ := Option.bind_eq_some_iff.mp h
    refine ah_getI C gf_X5_15 hx1 dX5_hasLetter_4 ?_
    refine aw_icmp_ge C 29 dX5_hasLetter_7 (by decide) (fun q => ?_) (fun q => ?_)
    · rw [if_pos q] at h
      refine aw_iconst C 0 dX5_hasLetter_29 ki_0 ?_
      obtain ⟨hb2, h⟩ := ck_some h
      cases h
      exact aw_iret C rfl (nb_nar hb2) dX5_hasLetter_30 (by omega) (by omega) ⟨rfl, rfl, rfl⟩
    · rw [if_neg q] at h
      refine aw_ald_n C dX5_hasLetter_10 rfl ?_
      refine aw_iload_n C dX5_hasLetter_11 rfl ?_
      obtain ⟨hb3, h⟩ := ck_some h
      obtain ⟨r4, hr4, h⟩ := Option.bind_eq_some_iff.mp h
      obtain ⟨fs5, hf5⟩ := isO_ex hb3
      refine aw_callV C (ci := 5) (b := v0) [.int v2] mv_X5_19 rfl rfl hf5 (rmX5_get hr4) rfl dX5_hasLetter_12 (Nat.le_of_ble_eq_true rfl) (Nat.le_of_ble_eq_true rfl) rfl (Nat.le_of_ble_eq_true rfl) (show cells + 0 ≤ 0 by omega) (show slots + 0 ≤ 0 by omega) (fun v9 f9 n9 hh => ?_)
      obtain ⟨rfl, rfl, rfl⟩ := hh
      obtain ⟨r6, hr6, h⟩ := Option.bind_eq_some_iff.mp h
      refine aw_callSN C [.int r4.1] mn_X5_34 mnS_X5_34 (rmX8_isLetter hr6) rfl dX5_hasLetter_15 (Nat.le_of_ble_eq_true rfl) (Nat.le_of_ble_eq_true rfl) rfl (Nat.le_of_ble_eq_true rfl) (show (cells + 0) + 0 ≤ 0 by omega) (show (slots + 0) + 0 ≤ 0 by omega) (fun v9 f9 n9 hh => ?_)
      obtain ⟨rfl, rfl, rfl⟩ := hh
      refine aw_if_eq C 23 dX5_hasLetter_18 (by decide) (fun q => ?_) (fun q => ?_)
      · rw [if_pos q] at h
        refine aw_iinc C (v2 + (1 : Int32)) dX5_hasLetter_23 rfl (by rw [ki_1]) (by decide) rfl ?_
        refine aw_nl [some (.ref v0), none, some (.int (v2 + (1 : Int32)))] rfl ?_
        refine aw_goto C 2 dX5_hasLetter_26 (by decide) ?_
        refine aw_fl [some (.ref v0), none, some (.int (v2 + (1 : Int32)))] ⟨rfl, ⟨rfl, trivial⟩⟩ ?_
        exact ih v0 (v2 + (1 : Int32)) r6.2.1 r6.2.2 _ _ (by omega) (by omega) h
      · rw [if_neg q] at h
        refine aw_iconst C 1 dX5_hasLetter_21 ki_1 ?_
        obtain ⟨hb7, h⟩ := ck_some h
        cases h
        exact aw_iret C rfl (nb_nar hb7) dX5_hasLetter_22 (by omega) (by omega) ⟨rfl, rfl, rfl⟩
def mX5_hasLetter (v0 : Nat) (v1 : Int32) (f : AH) (n : Nat) : Option (Int32 × HpN) := mX5_hasLetter_l2 rFU v0 v1 f n
set_option maxHeartbeats 1000000 in
theorem rmX5_hasLetter {X : GX} {l : Launch} {r : Int32 × HpN} {v0 : Nat} {v1 : Int32} {f : AH} {n : Nat} (h : mX5_hasLetter v0 v1 f n = some r) : AM X l yX5_hasLetter cX5_hasLetter 3 (some .boolean) 1 0 0 [.ref v0, .int v1] f n (QHi r) := by
  have h : mX5_hasLetter_l2 rFU v0 v1 f n = some r := h
  refine AM.of (by decide +kernel) rfl (Nat.le_of_ble_eq_true rfl) (fun p e s m args below meth c C hnm => ?_)
  refine aw_nl [some (.ref v0), some (.int v1), none] rfl ?_
  refine aw_iload_n C dX5_hasLetter_0 rfl ?_
  refine aw_istore_n C dX5_hasLetter_1 (by decide) rfl ?_
  refine aw_nl [some (.ref v0), some (.int v1), some (.int v1)] rfl ?_
  refine aw_fl [some (.ref v0), none, some (.int v1)] ⟨rfl, ⟨rfl, trivial⟩⟩ ?_
  exact rmX5_hasLetter_l2 C rFU v0 v1 f n _ _ (by omega) (by omega) h
def mX1_settle_b212 (s0 : Option Nat) (s1 : Int32) (f : AH) (n : Nat) : Option (Int32 × HpN) := ((s0).bind fun j1 => rCk (rNb s1) (((pO f j1 3 8 (.int s1)).bind fun f3 => some ((0 : Int32), (f3, n)))))
set_option maxHeartbeats 1000000 in
theorem rmX1_settle_b212 {X : GX} {p : Program} {l : Launch} {e : Env} {s : State} {m : MethodId} {args : Array Value} {below : List Frame} {meth : Method} {c : Code} {r : Int32 × HpN} {s0 : Option Nat} {s1 : Int32} {f : AH} {n cells slots : Nat} (C : CC X p l (RM 2 0 0) s m args meth c RX1 cX1_settle 7 none) (hc : cells + 0 ≤ 0) (hs : slots + 0 ≤ 0) (h : mX1_settle_b212 s0 s1 f n = some r) : AW X p l e (RM 2 0 0) s m args below meth c 7 (ZM X below args s 0 0 (QHv r)) f n cells slots 212 [none, none, none, none, none, none, none] [.int s1, va_rf s0] := by
  have h : ((s0).bind fun j1 => rCk (rNb s1) (((pO f j1 3 8 (.int s1)).bind fun f3 => some ((0 : Int32), (f3, n))))) = some r := h
  obtain ⟨j1, hj1, h⟩ := Option.bind_eq_some_iff.mp h
  rw [hj1]
  obtain ⟨hb2, h⟩ := ck_some h
  obtain ⟨f3, hf3, h⟩ := Option.bind_eq_some_iff.mp h
  refine ah_put C gf_X1_151 cf3 nf3_8 (nb_nar hb2) (nb_fit hb2) hf3 dX1_settle_212 ?_
  cases h
  exact aw_vret C rfl dX1_settle_215 (by omega) (by omega) ⟨rfl, rfl, rfl⟩
def mX1_settle_b191 (v0 : Nat) (v3 : Int32) (v5 : Option Nat) (s0 : Option Nat) (s1 : Int32) (f : AH) (n : Nat) : Option (Int32 × HpN) := ((s0).bind fun j1 => rCk (rNb s1) (((pO f j1 3 7 (.int s1)).bind fun f3 => ((gR f3 v0 1 4).bind fun x4 => ((x4).bind fun j5 => ((gI f3 j5 6 1).bind fun x6 => (if v3 = x6 then mX1_settle_b212 v5 (1 : Int32) f3 n else mX1_settle_b212 v5 (0 : Int32) f3 n)))))))
set_option maxHeartbeats 1000000 in
theorem rmX1_settle_b191 {X : GX} {p : Program} {l : Launch} {e : Env} {s : State} {m : MethodId} {args : Array Value} {below : List Frame} {meth : Method} {c : Code} {r : Int32 × HpN} {v0 : Nat} {v3 : Int32} {v5 : Option Nat} {s0 : Option Nat} {s1 : Int32} {f : AH} {n cells slots : Nat} (C : CC X p l (RM 2 0 0) s m args meth c RX1 cX1_settle 7 none) (hc : cells + 0 ≤ 0) (hs : slots + 0 ≤ 0) (h : mX1_settle_b191 v0 v3 v5 s0 s1 f n = some r) : AW X p l e (RM 2 0 0) s m args below meth c 7 (ZM X below args s 0 0 (QHv r)) f n cells slots 191 [some (.ref v0), none, none, some (.int v3), none, some (va_rf v5), none] [.int s1, va_rf s0] := by
  have h : ((s0).bind fun j1 => rCk (rNb s1) (((pO f j1 3 7 (.int s1)).bind fun f3 => ((gR f3 v0 1 4).bind fun x4 => ((x4).bind fun j5 => ((gI f3 j5 6 1).bind fun x6 => (if v3 = x6 then mX1_settle_b212 v5 (1 : Int32) f3 n else mX1_settle_b212 v5 (0 : Int32) f3 n))))))) = some r := h
  obtain ⟨j1, hj1, h⟩ := Option.bind_eq_some_iff.mp h
  rw [hj1]
  obtain ⟨hb2, h⟩ := ck_some h
  obtain ⟨f3, hf3, h⟩ := Option.bind_eq_some_iff.mp h
  refine ah_put C gf_X1_148 cf3 nf3_7 (nb_nar hb2) (nb_fit hb2) hf3 dX1_settle_191 ?_
  refine aw_aload C dX1_settle_194 rfl (rf_or v5) ?_
  refine aw_iload_n C dX1_settle_196 rfl ?_
  refine aw_ald_n C dX1_settle_197 rfl ?_
  obtain ⟨x4, hx4, h⟩ := Option.bind_eq_some_iff.mp h
  refine ah_getR C gf_X1_32 hx4 dX1_settle_198 ?_
  obtain ⟨j5, hj5, h⟩ := Option.bind_eq_some_iff.mp h
  rw [hj5]
  obtain ⟨x6, hx6, h⟩ := Option.bind_eq_some_iff.mp h
  refine ah_getI C gf_X1_81 hx6 dX1_settle_201 ?_
  refine aw_icmp_ne C 211 dX1_settle_204 (by decide) (fun q => ?_) (fun q => ?_)
  · rw [if_neg q] at h
    refine aw_iconst C 0 dX1_settle_211 ki_0 ?_
    refine aw_fl [none, none, none, none, none, none, none] trivial ?_
    exact rmX1_settle_b212 C (by omega) (by omega) h
  · rw [if_pos q] at h
    refine aw_iconst C 1 dX1_settle_207 ki_1 ?_
    refine aw_goto C 212 dX1_settle_208 (by decide) ?_
    refine aw_fl [none, none, none, none, none, none, none] trivial ?_
    exact rmX1_settle_b212 C (by omega) (by omega) h
def mX1_settle_b190 (v0 : Nat) (v3 : Int32) (v5 : Option Nat) (s0 : Option Nat) (f : AH) (n : Nat) : Option (Int32 × HpN) := mX1_settle_b191 v0 v3 v5 s0 (0 : Int32) f n
set_option maxHeartbeats 1000000 in
theorem rmX1_settle_b190 {X : GX} {p : Program} {l : Launch} {e : Env} {s : State} {m : MethodId} {args : Array Value} {below : List Frame} {meth : Method} {c : Code} {r : Int32 × HpN} {v0 : Nat} {v3 : Int32} {v5 : Option Nat} {s0 : Option Nat} {f : AH} {n cells slots : Nat} (C : CC X p l (RM 2 0 0) s m args meth c RX1 cX1_settle 7 none) (hc : cells + 0 ≤ 0) (hs : slots + 0 ≤ 0) (h : mX1_settle_b190 v0 v3 v5 s0 f n = some r) : AW X p l e (RM 2 0 0) s m args below meth c 7 (ZM X below args s 0 0 (QHv r)) f n cells slots 190 [some (.ref v0), none, none, some (.int v3), none, some (va_rf v5), none] [va_rf s0] := by
  have h : mX1_settle_b191 v0 v3 v5 s0 (0 : Int32) f n = some r := h
  refine aw_iconst C 0 dX1_settle_190 ki_0 ?_
  refine aw_fl [some (.ref v0), none, none, some (.int v3), none, some (va_rf v5), none] ⟨rfl, ⟨rfl, ⟨rfl, trivial⟩⟩⟩ ?_
  exact rmX1_settle_b191 C (by omega) (by omega) h
def mX1_settle_b94 (v0 : Nat) (v1 : Option Nat) (v2 : Int32) (v3 : Int32) (v4 : Int32) (v5 : Option Nat) (v6 : Int32) (f : AH) (n : Nat) : Option (Int32 × HpN) := ((gI f v0 1 3).bind fun x1 => ((pO f v0 1 3 (.int (x1 + (1 : Int32)))).bind fun f2 => ((v5).bind fun j3 => ((pO f2 j3 3 0 (.int v3)).bind fun f4 => ((pO f4 j3 3 1 (.int v4)).bind fun f5 => ((pO f5 j3 3 2 (.int v2)).bind fun f6 => ((pO f6 j3 3 3 (.int v6)).bind fun f7 => ((gR f7 v0 1 4).bind fun x8 => ((x8).bind fun j9 => ((gI f7 j9 6 4).bind fun x10 => ((pO f7 j3 3 4 (.int x10)).bind fun f11 => ((gR f11 v0 1 4).bind fun x12 => ((x12).bind fun j13 => ((gI f11 j13 6 5).bind fun x14 => ((pO f11 j3 3 5 (.int x14)).bind fun f15 => ((gR f15 v0 1 4).bind fun x16 => ((x16).bind fun j17 => ((gI f15 j17 6 3).bind fun x18 => rCk (rNb x18) (((pO f15 j3 3 6 (.int x18)).bind fun f20 => ((v1).bind fun j21 => ((gI f20 j21 7 2).bind fun x22 => (if x22 = (1 : Int32) then ((gR f20 v0 1 5).bind fun x23 => ((x23).bind fun j24 => ((gI f20 j24 6 3).bind fun x25 => (if x25 = (0 : Int32) then mX1_settle_b190 v0 v3 (some j3) (some j3) f20 n else mX1_settle_b191 v0 v3 (some j3) (some j3) (1 : Int32) f20 n)))) else mX1_settle_b190 v0 v3 (some j3) (some j3) f20 n)))))))))))))))))))))))
set_option maxHeartbeats 1000000 in
theorem rmX1_settle_b94 {X : GX} {p : Program} {l : Launch} {e : Env} {s : State} {m : MethodId} {args : Array Value} {below : List Frame} {meth : Method} {c : Code} {r : Int32 × HpN} {v0 : Nat} {v1 : Option Nat} {v2 : Int32} {v3 : Int32} {v4 : Int32} {v5 : Option Nat} {v6 : Int32} {f : AH} {n cells slots : Nat} (C : CC X p l (RM 2 0 0) s m args meth c RX1 cX1_settle 7 none) (hc : cells + 0 ≤ 0) (hs : slots + 0 ≤ 0) (h : mX1_settle_b94 v0 v1 v2 v3 v4 v5 v6 f n = some r) : AW X p l e (RM 2 0 0) s m args below meth c 7 (ZM X below args s 0 0 (QHv r)) f n cells slots 94 [some (.ref v0), some (va_rf v1), some (.int v2), some (.int v3), some (.int v4), some (va_rf v5), some (.int v6)] [] := by
  have h : ((gI f v0 1 3).bind fun x1 => ((pO f v0 1 3 (.int (x1 + (1 : Int32)))).bind fun f2 => ((v5).bind fun j3 => ((pO f2 j3 3 0 (.int v3)).bind fun f4 => ((pO f4 j3 3 1 (.int v4)).bind fun f5 => ((pO f5 j3 3 2 (.int v2)).bind fun f6 => ((pO f6 j3 3 3 (.int v6)).bind fun f7 => ((gR f7 v0 1 4).bind fun x8 => ((x8).bind fun j9 => ((gI f7 j9 6 4).bind fun x10 => ((pO f7 j3 3 4 (.int x10)).bind fun f11 => ((gR f11 v0 1 4).bind fun x12 => ((x12).bind fun j13 => ((gI f11 j13 6 5).bind fun x14 => ((pO f11 j3 3 5 (.int x14)).bind fun f15 => ((gR f15 v0 1 4).bind fun x16 => ((x16).bind fun j17 => ((gI f15 j17 6 3).bind fun x18 => rCk (rNb x18) (((pO f15 j3 3 6 (.int x18)).bind fun f20 => ((v1).bind fun j21 => ((gI f20 j21 7 2).bind fun x22 => (if x22 = (1 : Int32) then ((gR f20 v0 1 5).bind fun x23 => ((x23).bind fun j24 => ((gI f20 j24 6 3).bind fun x25 => (if x25 = (0 : Int32) then mX1_settle_b190 v0 v3 (some j3) (some j3) f20 n else mX1_settle_b191 v0 v3 (some j3) (some j3) (1 : Int32) f20 n)))) else mX1_settle_b190 v0 v3 (some j3) (some j3) f20 n))))))))))))))))))))))) = some r := h
  refine aw_ald_n C dX1_settle_94 rfl ?_
  refine aw_dup C dX1_settle_95 rfl ?_
  obtain ⟨x1, hx1, h⟩ := Option.bind_eq_some_iff.mp h
  refine ah_getI C gf_X1_46 hx1 dX1_settle_96 ?_
  refine aw_iconst C 1 dX1_settle_99 ki_1 ?_
  refine aw_iadd C dX1_settle_100 ?_
  obtain ⟨f2, hf2, h⟩ := Option.bind_eq_some_iff.mp h
  refine ah_put C gf_X1_46 cf1 nf1_3 rfl rfl hf2 dX1_settle_101 ?_
  refine aw_aload C dX1_settle_104 rfl (rf_or v5) ?_
  refine aw_iload_n C dX1_settle_106 rfl ?_
  obtain ⟨j3, hj3, h⟩ := Option.bind_eq_some_iff.mp h
  rw [hj3]
  obtain ⟨f4, hf4, h⟩ := Option.bind_eq_some_iff.mp h
  refine ah_put C gf_X1_128 cf3 nf3_0 rfl rfl hf4 dX1_settle_107 ?_
  refine aw_ald C dX1_settle_110 rfl ?_
  refine aw_iload C dX1_settle_112 rfl ?_
  obtain ⟨f5, hf5, h⟩ := Option.bind_eq_some_iff.mp h
  refine ah_put C gf_X1_129 cf3 nf3_1 rfl rfl hf5 dX1_settle_114 ?_
  refine aw_ald C dX1_settle_117 rfl ?_
  refine aw_iload_n C dX1_settle_119 rfl ?_
  obtain ⟨f6, hf6, h⟩ := Option.bind_eq_some_iff.mp h
  refine ah_put C gf_X1_130 cf3 nf3_2 rfl rfl hf6 dX1_settle_120 ?_
  refine aw_ald C dX1_settle_123 rfl ?_
  refine aw_iload C dX1_settle_125 rfl ?_
  obtain ⟨f7, hf7, h⟩ := Option.bind_eq_some_iff.mp h
  refine ah_put C gf_X1_133 cf3 nf3_3 rfl rfl hf7 dX1_settle_127 ?_
  refine aw_ald C dX1_settle_130 rfl ?_
  refine aw_ald_n C dX1_settle_132 rfl ?_
  obtain ⟨x8, hx8, h⟩ := Option.bind_eq_some_iff.mp h
  refine ah_getR C gf_X1_32 hx8 dX1_settle_133 ?_
  obtain ⟨j9, hj9, h⟩ := Option.bind_eq_some_iff.mp h
  rw [hj9]
  obtain ⟨x10, hx10, h⟩ := Option.bind_eq_some_iff.mp h
  refine ah_getI C gf_X1_136 hx10 dX1_settle_136 ?_
  obtain ⟨f11, hf11, h⟩ := Option.bind_eq_some_iff.mp h
  refine ah_put C gf_X1_139 cf3 nf3_4 rfl rfl hf11 dX1_settle_139 ?_
  refine aw_ald C dX1_settle_142 rfl ?_
  refine aw_ald_n C dX1_settle_144 rfl ?_
  obtain ⟨x12, hx12, h⟩ := Option.bind_eq_some_iff.mp h
  refine ah_getR C gf_X1_32 hx12 dX1_settle_145 ?_
  obtain ⟨j13, hj13, h⟩ := Option.bind_eq_some_iff.mp h
  rw [hj13]
  obtain ⟨x14, hx14, h⟩ := Option.bind_eq_some_iff.mp h
  refine ah_getI C gf_X1_140 hx14 dX1_settle_148 ?_
  obtain ⟨f15, hf15, h⟩ := Option.bind_eq_some_iff.mp h
  refine ah_put C gf_X1_143 cf3 nf3_5 rfl rfl hf15 dX1_settle_151 ?_
  refine aw_ald C dX1_settle_154 rfl ?_
  refine aw_ald_n C dX1_settle_156 rfl ?_
  obtain ⟨x16, hx16, h⟩ := Option.bind_eq_some_iff.mp h
  refine ah_getR C gf_X1_32 hx16 dX1_settle_157 ?_
  obtain ⟨j17, hj17, h⟩ := Option.bind_eq_some_iff.mp h
  rw [hj17]
  obtain ⟨x18, hx18, h⟩ := Option.bind_eq_some_iff.mp h
  refine ah_getI C gf_X1_144 hx18 dX1_settle_160 ?_
  obtain ⟨hb19, h⟩ := ck_some h
  obtain ⟨f20, hf20, h⟩ := Option.bind_eq_some_iff.mp h
  refine ah_put C gf_X1_147 cf3 nf3_6 (nb_nar hb19) (nb_fit hb19) hf20 dX1_settle_163 ?_
  refine aw_ald C dX1_settle_166 rfl ?_
  refine aw_aload_n C dX1_settle_168 rfl (rf_or v1) ?_
  obtain ⟨j21, hj21, h⟩ := Option.bind_eq_some_iff.mp h
  rw [hj21]
  obtain ⟨x22, hx22, h⟩ := Option.bind_eq_some_iff.mp h
  refine ah_getI C gf_X1_70 hx22 dX1_settle_169 ?_
  refine aw_iconst C 1 dX1_settle_172 ki_1 ?_
  refine aw_icmp_ne C 190 dX1_settle_173 (by decide) (fun q => ?_) (fun q => ?_)
  · rw [if_neg q] at h
    refine aw_fl [some (.ref v0), none, none, some (.int v3), none, some (va_rf (some j3)), none] ⟨rfl, ⟨rfl, ⟨rfl, trivial⟩⟩⟩ ?_
    exact rmX1_settle_b190 C (by omega) (by omega) h
  · rw [if_pos q] at h
    refine aw_ald_n C dX1_settle_176 rfl ?_
    obtain ⟨x23, hx23, h⟩ := Option.bind_eq_some_iff.mp h
    refine ah_getR C gf_X1_36 hx23 dX1_settle_177 ?_
    obtain ⟨j24, hj24, h⟩ := Option.bind_eq_some_iff.mp h
    rw [hj24]
    obtain ⟨x25, hx25, h⟩ := Option.bind_eq_some_iff.mp h
    refine ah_getI C gf_X1_144 hx25 dX1_settle_180 ?_
    refine aw_if_eq C 190 dX1_settle_183 (by decide) (fun q => ?_) (fun q => ?_)
    · rw [if_pos q] at h
      refine aw_fl [some (.ref v0), none, none, some (.int v3), none, some (va_rf (some j3)), none] ⟨rfl, ⟨rfl, ⟨rfl, trivial⟩⟩⟩ ?_
      exact rmX1_settle_b190 C (by omega) (by omega) h
    · rw [if_neg q] at h
      refine aw_iconst C 1 dX1_settle_186 ki_1 ?_
      refine aw_goto C 191 dX1_settle_187 (by decide) ?_
      refine aw_fl [some (.ref v0), none, none, some (.int v3), none, some (va_rf (some j3)), none] ⟨rfl, ⟨rfl, ⟨rfl, trivial⟩⟩⟩ ?_
      exact rmX1_settle_b191 C (by omega) (by omega) h
def mX1_settle_b77 (v0 : Nat) (v2 : Int32) (f : AH) (n : Nat) : Option (Int32 × HpN) := ((gR f v0 1 0).bind fun x1 => ((x1).bind fun j2 => rCk (isO f j2 5) (((mX5_cutTo j2 v2 f n).bind fun r4 => ((gR r4.2.1 v0 1 1).bind fun x6 => ((x6).bind fun j7 => rCk (isO r4.2.1 j7 5) (((mX5_cutTo j7 v2 r4.2.1 r4.2.2).bind fun r9 => some ((0 : Int32), (r9.2.1, r9.2.2))))))))))
set_option maxHeartbeats 1000000 in
theorem rmX1_settle_b77 {X : GX} {p : Program} {l : Launch} {e : Env} {s : State} {m : MethodId} {args : Array Value} {below : List Frame} {meth : Method} {c : Code} {r : Int32 × HpN} {v0 : Nat} {v2 : Int32} {f : AH} {n cells slots : Nat} (C : CC X p l (RM 2 0 0) s m args meth c RX1 cX1_settle 7 none) (hc : cells + 0 ≤ 0) (hs : slots + 0 ≤ 0) (h : mX1_settle_b77 v0 v2 f n = some r) : AW X p l e (RM 2 0 0) s m args below meth c 7 (ZM X below args s 0 0 (QHv r)) f n cells slots 77 [some (.ref v0), none, some (.int v2), none, none, none, none] [] := by
  have h : ((gR f v0 1 0).bind fun x1 => ((x1).bind fun j2 => rCk (isO f j2 5) (((mX5_cutTo j2 v2 f n).bind fun r4 => ((gR r4.2.1 v0 1 1).bind fun x6 => ((x6).bind fun j7 => rCk (isO r4.2.1 j7 5) (((mX5_cutTo j7 v2 r4.2.1 r4.2.2).bind fun r9 => some ((0 : Int32), (r9.2.1, r9.2.2)))))))))) = some r := h
  refine aw_ald_n C dX1_settle_77 rfl ?_
  obtain ⟨x1, hx1, h⟩ := Option.bind_eq_some_iff.mp h
  refine ah_getR C gf_X1_14 hx1 dX1_settle_78 ?_
  refine aw_iload_n C dX1_settle_81 rfl ?_
  obtain ⟨j2, hj2, h⟩ := Option.bind_eq_some_iff.mp h
  rw [hj2]
  obtain ⟨hb3, h⟩ := ck_some h
  obtain ⟨r4, hr4, h⟩ := Option.bind_eq_some_iff.mp h
  obtain ⟨fs5, hf5⟩ := isO_ex hb3
  refine aw_callV C (ci := 5) (b := j2) [.int v2] mv_X1_50 rfl rfl hf5 (rmX5_cutTo hr4) rfl dX1_settle_82 (Nat.le_of_ble_eq_true rfl) (Nat.le_of_ble_eq_true rfl) rfl (Nat.le_of_ble_eq_true rfl) (show cells + 0 ≤ 0 by omega) (show slots + 0 ≤ 0 by omega) (fun v9 f9 n9 hh => ?_)
  obtain ⟨rfl, rfl, rfl⟩ := hh
  refine aw_ald_n C dX1_settle_85 rfl ?_
  obtain ⟨x6, hx6, h⟩ := Option.bind_eq_some_iff.mp h
  refine ah_getR C gf_X1_20 hx6 dX1_settle_86 ?_
  refine aw_iload_n C dX1_settle_89 rfl ?_
  obtain ⟨j7, hj7, h⟩ := Option.bind_eq_some_iff.mp h
  rw [hj7]
  obtain ⟨hb8, h⟩ := ck_some h
  obtain ⟨r9, hr9, h⟩ := Option.bind_eq_some_iff.mp h
  obtain ⟨fs10, hf10⟩ := isO_ex hb8
  refine aw_callV C (ci := 5) (b := j7) [.int v2] mv_X1_50 rfl rfl hf10 (rmX5_cutTo hr9) rfl dX1_settle_90 (Nat.le_of_ble_eq_true rfl) (Nat.le_of_ble_eq_true rfl) rfl (Nat.le_of_ble_eq_true rfl) (show (cells + 0) + 0 ≤ 0 by omega) (show (slots + 0) + 0 ≤ 0 by omega) (fun v9 f9 n9 hh => ?_)
  obtain ⟨rfl, rfl, rfl⟩ := hh
  cases h
  exact aw_vret C rfl dX1_settle_93 (by omega) (by omega) ⟨rfl, rfl, rfl⟩
def mX1_settle_b32 (v0 : Nat) (v1 : Option Nat) (v2 : Int32) (v3 : Int32) (v4 : Int32) (s0 : Option Nat) (f : AH) (n : Nat) : Option (Int32 × HpN) := ((gR f v0 1 0).bind fun x1 => ((x1).bind fun j2 => rCk (isO f j2 5) (((mX5_size j2 f n).bind fun r4 => (oN s0 (mX1_settle_b77 v0 v2 r4.2.1 r4.2.2) (fun j6 => ((v1).bind fun j7 => ((gI r4.2.1 j7 7 4).bind fun x8 => (if (r4.1 - v2) < x8 then mX1_settle_b77 v0 v2 r4.2.1 r4.2.2 else ((gI r4.2.1 j7 7 3).bind fun x9 => (if x9 = (0 : Int32) then mX1_settle_b94 v0 (some j7) v2 v3 v4 (some j6) (r4.1 - v2) r4.2.1 r4.2.2 else ((gR r4.2.1 v0 1 0).bind fun x10 => ((x10).bind fun j11 => rCk (isO r4.2.1 j11 5) (((mX5_hasLetter j11 v2 r4.2.1 r4.2.2).bind fun r13 => (if r13.1 = (0 : Int32) then mX1_settle_b77 v0 v2 r13.2.1 r13.2.2 else mX1_settle_b94 v0 (some j7) v2 v3 v4 (some j6) (r4.1 - v2) r13.2.1 r13.2.2))))))))))))))))
set_option maxHeartbeats 1000000 in
theorem rmX1_settle_b32 {X : GX} {p : Program} {l : Launch} {e : Env} {s : State} {m : MethodId} {args : Array Value} {below : List Frame} {meth : Method} {c : Code} {r : Int32 × HpN} {v0 : Nat} {v1 : Option Nat} {v2 : Int32} {v3 : Int32} {v4 : Int32} {s0 : Option Nat} {f : AH} {n cells slots : Nat} (C : CC X p l (RM 2 0 0) s m args meth c RX1 cX1_settle 7 none) (hc : cells + 0 ≤ 0) (hs : slots + 0 ≤ 0) (h : mX1_settle_b32 v0 v1 v2 v3 v4 s0 f n = some r) : AW X p l e (RM 2 0 0) s m args below meth c 7 (ZM X below args s 0 0 (QHv r)) f n cells slots 32 [some (.ref v0), some (va_rf v1), some (.int v2), some (.int v3), some (.int v4), none, none] [va_rf s0] := by
  have h : ((gR f v0 1 0).bind fun x1 => ((x1).bind fun j2 => rCk (isO f j2 5) (((mX5_size j2 f n).bind fun r4 => (oN s0 (mX1_settle_b77 v0 v2 r4.2.1 r4.2.2) (fun j6 => ((v1).bind fun j7 => ((gI r4.2.1 j7 7 4).bind fun x8 => (if (r4.1 - v2) < x8 then mX1_settle_b77 v0 v2 r4.2.1 r4.2.2 else ((gI r4.2.1 j7 7 3).bind fun x9 => (if x9 = (0 : Int32) then mX1_settle_b94 v0 (some j7) v2 v3 v4 (some j6) (r4.1 - v2) r4.2.1 r4.2.2 else ((gR r4.2.1 v0 1 0).bind fun x10 => ((x10).bind fun j11 => rCk (isO r4.2.1 j11 5) (((mX5_hasLetter j11 v2 r4.2.1 r4.2.2).bind fun r13 => (if r13.1 = (0 : Int32) then mX1_settle_b77 v0 v2 r13.2.1 r13.2.2 else mX1_settle_b94 v0 (some j7) v2 v3 v4 (some j6) (r4.1 - v2) r13.2.1 r13.2.2)))))))))))))))) = some r := h
  refine aw_astore C dX1_settle_32 (by decide) rfl (rf_or s0) ?_
  refine aw_nl [some (.ref v0), some (va_rf v1), some (.int v2), some (.int v3), some (.int v4), some (va_rf s0), none] rfl ?_
  refine aw_ald_n C dX1_settle_34 rfl ?_
  obtain ⟨x1, hx1, h⟩ := Option.bind_eq_some_iff.mp h
  refine ah_getR C gf_X1_14 hx1 dX1_settle_35 ?_
  obtain ⟨j2, hj2, h⟩ := Option.bind_eq_some_iff.mp h
  rw [hj2]
  obtain ⟨hb3, h⟩ := ck_some h
  obtain ⟨r4, hr4, h⟩ := Option.bind_eq_some_iff.mp h
  obtain ⟨fs5, hf5⟩ := isO_ex hb3
  refine aw_callV C (ci := 5) (b := j2) [] mv_X1_73 rfl rfl hf5 (rmX5_size hr4) rfl dX1_settle_38 (Nat.le_of_ble_eq_true rfl) (Nat.le_of_ble_eq_true rfl) rfl (Nat.le_of_ble_eq_true rfl) (show cells + 0 ≤ 0 by omega) (show slots + 0 ≤ 0 by omega) (fun v9 f9 n9 hh => ?_)
  obtain ⟨rfl, rfl, rfl⟩ := hh
  refine aw_iload_n C dX1_settle_41 rfl ?_
  refine aw_isub C dX1_settle_42 ?_
  refine aw_istore C dX1_settle_43 (by decide) (ok_rf 5 rfl) ?_
  refine aw_nl [some (.ref v0), some (va_rf v1), some (.int v2), some (.int v3), some (.int v4), some (va_rf s0), some (.int (r4.1 - v2))] rfl ?_
  refine aw_aload C dX1_settle_45 rfl (rf_or s0) ?_
  cases s0 with
  | none =>
    replace h : mX1_settle_b77 v0 v2 r4.2.1 r4.2.2 = some r := h
    refine aw_ifnull_n C 77 dX1_settle_47 (by decide) ?_
    refine aw_fl [some (.ref v0), none, some (.int v2), none, none, none, none] ⟨rfl, ⟨rfl, trivial⟩⟩ ?_
    exact rmX1_settle_b77 C (by omega) (by omega) h
  | some j6 =>
    replace h : ((v1).bind fun j7 => ((gI r4.2.1 j7 7 4).bind fun x8 => (if (r4.1 - v2) < x8 then mX1_settle_b77 v0 v2 r4.2.1 r4.2.2 else ((gI r4.2.1 j7 7 3).bind fun x9 => (if x9 = (0 : Int32) then mX1_settle_b94 v0 (some j7) v2 v3 v4 (some j6) (r4.1 - v2) r4.2.1 r4.2.2 else ((gR r4.2.1 v0 1 0).bind fun x10 => ((x10).bind fun j11 => rCk (isO r4.2.1 j11 5) (((mX5_hasLetter j11 v2 r4.2.1 r4.2.2).bind fun r13 => (if r13.1 = (0 : Int32) then mX1_settle_b77 v0 v2 r13.2.1 r13.2.2 else mX1_settle_b94 v0 (some j7) v2 v3 v4 (some j6) (r4.1 - v2) r13.2.1 r13.2.2)))))))))) = some r := h
    refine aw_ifnull_r C 77 dX1_settle_47 (by decide) ?_
    refine aw_iload C dX1_settle_50 rfl ?_
    refine aw_aload_n C dX1_settle_52 rfl (rf_or v1) ?_
    obtain ⟨j7, hj7, h⟩ := Option.bind_eq_some_iff.mp h
    rw [hj7]
    obtain ⟨x8, hx8, h⟩ := Option.bind_eq_some_iff.mp h
    refine ah_getI C gf_X1_118 hx8 dX1_settle_53 ?_
    refine aw_icmp_lt C 77 dX1_settle_56 (by decide) (fun q => ?_) (fun q => ?_)
    · rw [if_pos q] at h
      refine aw_fl [some (.ref v0), none, some (.int v2), none, none, none, none] ⟨rfl, ⟨rfl, trivial⟩⟩ ?_
      exact rmX1_settle_b77 C (by omega) (by omega) h
    · rw [if_neg q] at h
      refine aw_ald_n C dX1_settle_59 rfl ?_
      obtain ⟨x9, hx9, h⟩ := Option.bind_eq_some_iff.mp h
      refine ah_getI C gf_X1_121 hx9 dX1_settle_60 ?_
      refine aw_if_eq C 94 dX1_settle_63 (by decide) (fun q => ?_) (fun q => ?_)
      · rw [if_pos q] at h
        refine aw_fl [some (.ref v0), some (va_rf (some j7)), some (.int v2), some (.int v3), some (.int v4), some (va_rf (some j6)), some (.int (r4.1 - v2))] ⟨rfl, ⟨rfl, ⟨rfl, ⟨rfl, ⟨rfl, ⟨rfl, ⟨rfl, trivial⟩⟩⟩⟩⟩⟩⟩ ?_
        exact rmX1_settle_b94 C (by omega) (by omega) h
      · rw [if_neg q] at h
        refine aw_ald_n C dX1_settle_66 rfl ?_
        obtain ⟨x10, hx10, h⟩ := Option.bind_eq_some_iff.mp h
        refine ah_getR C gf_X1_14 hx10 dX1_settle_67 ?_
        refine aw_iload_n C dX1_settle_70 rfl ?_
        obtain ⟨j11, hj11, h⟩ := Option.bind_eq_some_iff.mp h
        rw [hj11]
        obtain ⟨hb12, h⟩ := ck_some h
        obtain ⟨r13, hr13, h⟩ := Option.bind_eq_some_iff.mp h
        obtain ⟨fs14, hf14⟩ := isO_ex hb12
        refine aw_callV C (ci := 5) (b := j11) [.int v2] mv_X1_125 rfl rfl hf14 (rmX5_hasLetter hr13) rfl dX1_settle_71 (Nat.le_of_ble_eq_true rfl) (Nat.le_of_ble_eq_true rfl) rfl (Nat.le_of_ble_eq_true rfl) (show (cells + 0) + 0 ≤ 0 by omega) (show (slots + 0) + 0 ≤ 0 by omega) (fun v9 f9 n9 hh => ?_)
        obtain ⟨rfl, rfl, rfl⟩ := hh
        refine aw_if_ne C 94 dX1_settle_74 (by decide) (fun q => ?_) (fun q => ?_)
        · rw [if_neg q] at h
          refine aw_fl [some (.ref v0), some (va_rf (some j7)), some (.int v2), some (.int v3), some (.int v4), some (va_rf (some j6)), some (.int (r4.1 - v2))] ⟨rfl, ⟨rfl, ⟨rfl, ⟨rfl, ⟨rfl, ⟨rfl, ⟨rfl, trivial⟩⟩⟩⟩⟩⟩⟩ ?_
          exact rmX1_settle_b94 C (by omega) (by omega) h
        · rw [if_pos q] at h
          refine aw_fl [some (.ref v0), none, some (.int v2), none, none, none, none] ⟨rfl, ⟨rfl, trivial⟩⟩ ?_
          exact rmX1_settle_b77 C (by omega) (by omega) h
def mX1_settle_b31 (v0 : Nat) (v1 : Option Nat) (v2 : Int32) (v3 : Int32) (v4 : Int32) (f : AH) (n : Nat) : Option (Int32 × HpN) := mX1_settle_b32 v0 v1 v2 v3 v4 (none : Option Nat) f n
set_option maxHeartbeats 1000000 in
theorem rmX1_settle_b31 {X : GX} {p : Program} {l : Launch} {e : Env} {s : State} {m : MethodId} {args : Array Value} {below : List Frame} {meth : Method} {c : Code} {r : Int32 × HpN} {v0 : Nat} {v1 : Option Nat} {v2 : Int32} {v3 : Int32} {v4 : Int32} {f : AH} {n cells slots : Nat} (C : CC X p l (RM 2 0 0) s m args meth c RX1 cX1_settle 7 none) (hc : cells + 0 ≤ 0) (hs : slots + 0 ≤ 0) (h : mX1_settle_b31 v0 v1 v2 v3 v4 f n = some r) : AW X p l e (RM 2 0 0) s m args below meth c 7 (ZM X below args s 0 0 (QHv r)) f n cells slots 31 [some (.ref v0), some (va_rf v1), some (.int v2), some (.int v3), some (.int v4), none, none] [] := by
  have h : mX1_settle_b32 v0 v1 v2 v3 v4 (none : Option Nat) f n = some r := h
  refine aw_null C dX1_settle_31 ?_
  refine aw_fl [some (.ref v0), some (va_rf v1), some (.int v2), some (.int v3), some (.int v4), none, none] ⟨rfl, ⟨rfl, ⟨rfl, ⟨rfl, ⟨rfl, trivial⟩⟩⟩⟩⟩ ?_
  exact rmX1_settle_b32 C (by omega) (by omega) h
def mX1_settle (v0 : Nat) (v1 : Option Nat) (v2 : Int32) (v3 : Int32) (v4 : Int32) (f : AH) (n : Nat) : Option (Int32 × HpN) := ((gI f v0 1 3).bind fun x1 => (if x1 < (0 : Int32) then mX1_settle_b31 v0 v1 v2 v3 v4 f n else ((gI f v0 1 3).bind fun x2 => ((gR f v0 1 2).bind fun x3 => ((x3).bind fun j4 => ((gL f j4).bind fun x5 => (if (nI x5) ≤ x2 then mX1_settle_b31 v0 v1 v2 v3 v4 f n else ((gR f v0 1 2).bind fun x6 => ((gI f v0 1 3).bind fun x7 => ((x6).bind fun j8 => ((gRA f j8 x7).bind fun x9 => mX1_settle_b32 v0 v1 v2 v3 v4 x9 f n)))))))))))
set_option maxHeartbeats 1000000 in
theorem rmX1_settle {X : GX} {l : Launch} {r : Int32 × HpN} {v0 : Nat} {v1 : Option Nat} {v2 : Int32} {v3 : Int32} {v4 : Int32} {f : AH} {n : Nat} (h : mX1_settle v0 v1 v2 v3 v4 f n = some r) : AM X l yX1_settle cX1_settle 7 none 2 0 0 [.ref v0, va_rf v1, .int v2, .int v3, .int v4] f n (QHv r) := by
  have h : ((gI f v0 1 3).bind fun x1 => (if x1 < (0 : Int32) then mX1_settle_b31 v0 v1 v2 v3 v4 f n else ((gI f v0 1 3).bind fun x2 => ((gR f v0 1 2).bind fun x3 => ((x3).bind fun j4 => ((gL f j4).bind fun x5 => (if (nI x5) ≤ x2 then mX1_settle_b31 v0 v1 v2 v3 v4 f n else ((gR f v0 1 2).bind fun x6 => ((gI f v0 1 3).bind fun x7 => ((x6).bind fun j8 => ((gRA f j8 x7).bind fun x9 => mX1_settle_b32 v0 v1 v2 v3 v4 x9 f n))))))))))) = some r := h
  refine AM.of (by decide +kernel) (all1 rfl (all1 (rf_cat _) (all1 rfl (all1 rfl (all1 rfl rfl))))) (Nat.le_of_ble_eq_true rfl) (fun p e s m args below meth c C hnm => ?_)
  refine aw_nl [some (.ref v0), some (va_rf v1), some (.int v2), some (.int v3), some (.int v4), none, none] rfl ?_
  refine aw_ald_n C dX1_settle_0 rfl ?_
  obtain ⟨x1, hx1, h⟩ := Option.bind_eq_some_iff.mp h
  refine ah_getI C gf_X1_46 hx1 dX1_settle_1 ?_
  refine aw_if_lt C 31 dX1_settle_4 (by decide) (fun q => ?_) (fun q => ?_)
  · rw [if_pos q] at h
    refine aw_fl [some (.ref v0), some (va_rf v1), some (.int v2), some (.int v3), some (.int v4), none, none] ⟨rfl, ⟨rfl, ⟨rfl, ⟨rfl, ⟨rfl, trivial⟩⟩⟩⟩⟩ ?_
    exact rmX1_settle_b31 C (by omega) (by omega) h
  · rw [if_neg q] at h
    refine aw_ald_n C dX1_settle_7 rfl ?_
    obtain ⟨x2, hx2, h⟩ := Option.bind_eq_some_iff.mp h
    refine ah_getI C gf_X1_46 hx2 dX1_settle_8 ?_
    refine aw_ald_n C dX1_settle_11 rfl ?_
    obtain ⟨x3, hx3, h⟩ := Option.bind_eq_some_iff.mp h
    refine ah_getR C gf_X1_41 hx3 dX1_settle_12 ?_
    obtain ⟨j4, hj4, h⟩ := Option.bind_eq_some_iff.mp h
    rw [hj4]
    obtain ⟨x5, hx5, h⟩ := Option.bind_eq_some_iff.mp h
    refine ah_len C hx5 dX1_settle_15 ?_
    refine aw_icmp_ge C 31 dX1_settle_16 (by decide) (fun q => ?_) (fun q => ?_)
    · rw [if_pos q] at h
      refine aw_fl [some (.ref v0), some (va_rf v1), some (.int v2), some (.int v3), some (.int v4), none, none] ⟨rfl, ⟨rfl, ⟨rfl, ⟨rfl, ⟨rfl, trivial⟩⟩⟩⟩⟩ ?_
      exact rmX1_settle_b31 C (by omega) (by omega) h
    · rw [if_neg q] at h
      refine aw_ald_n C dX1_settle_19 rfl ?_
      obtain ⟨x6, hx6, h⟩ := Option.bind_eq_some_iff.mp h
      refine ah_getR C gf_X1_41 hx6 dX1_settle_20 ?_
      refine aw_ald_n C dX1_settle_23 rfl ?_
      obtain ⟨x7, hx7, h⟩ := Option.bind_eq_some_iff.mp h
      refine ah_getI C gf_X1_46 hx7 dX1_settle_24 ?_
      obtain ⟨j8, hj8, h⟩ := Option.bind_eq_some_iff.mp h
      rw [hj8]
      obtain ⟨x9, hx9, h⟩ := Option.bind_eq_some_iff.mp h
      refine ah_aald C hx9 dX1_settle_27 ?_
      refine aw_goto C 32 dX1_settle_28 (by decide) ?_
      refine aw_fl [some (.ref v0), some (va_rf v1), some (.int v2), some (.int v3), some (.int v4), none, none] ⟨rfl, ⟨rfl, ⟨rfl, ⟨rfl, ⟨rfl, trivial⟩⟩⟩⟩⟩ ?_
      exact rmX1_settle_b32 C (by omega) (by omega) h
def mX1_takeWithin_b206 (f : AH) (n : Nat) : Option (Int32 × HpN) := some ((0 : Int32), (f, n))
set_option maxHeartbeats 1000000 in
theorem rmX1_takeWithin_b206 {X : GX} {p : Program} {l : Launch} {e : Env} {s : State} {m : MethodId} {args : Array Value} {below : List Frame} {meth : Method} {c : Code} {r : Int32 × HpN} {f : AH} {n cells slots : Nat} (C : CC X p l (RM 3 0 0) s m args meth c RX1 cX1_takeWithin 5 none) (hc : cells + 0 ≤ 0) (hs : slots + 0 ≤ 0) (h : mX1_takeWithin_b206 f n = some r) : AW X p l e (RM 3 0 0) s m args below meth c 5 (ZM X below args s 0 0 (QHv r)) f n cells slots 206 [none, none, none, none, none] [] := by
  have h : some ((0 : Int32), (f, n)) = some r := h
  cases h
  exact aw_vret C rfl dX1_takeWithin_206 (by omega) (by omega) ⟨rfl, rfl, rfl⟩
def mX1_takeWithin_b176 (rec17 : Nat → (Option Nat) → Int32 → AH → Nat → Option (Int32 × HpN)) (v0 : Nat) (v1 : Option Nat) (v2 : Int32) (v3 : Int32) (s0 : Int32) (f : AH) (n : Nat) : Option (Int32 × HpN) := ((gR f v0 1 7).bind fun x1 => ((gR f v0 1 5).bind fun x2 => ((x2).bind fun j3 => ((gI f j3 6 1).bind fun x4 => ((x1).bind fun j5 => rCk (isO f j5 5) (((mX5_get j5 x4 f n).bind fun r7 => rCk (isO r7.2.1 v0 1) (((mX1_settle v0 v1 v3 r7.1 s0 r7.2.1 r7.2.2).bind fun r10 => rec17 v0 v1 (v2 + (1 : Int32)) r10.2.1 r10.2.2)))))))))
set_option maxHeartbeats 1000000 in
theorem rmX1_takeWithin_b176 {X : GX} {p : Program} {l : Launch} {e : Env} {s : State} {m : MethodId} {args : Array Value} {below : List Frame} {meth : Method} {c : Code} {r : Int32 × HpN} {rec17 : Nat → (Option Nat) → Int32 → AH → Nat → Option (Int32 × HpN)} {v0 : Nat} {v1 : Option Nat} {v2 : Int32} {v3 : Int32} {s0 : Int32} {f : AH} {n cells slots : Nat} (C : CC X p l (RM 3 0 0) s m args meth c RX1 cX1_takeWithin 5 none) (Hr17 : ∀ (v0 : Nat) (v1 : Option Nat) (v2 : Int32) (f : AH) (n cells slots : Nat), cells + 0 ≤ 0 → slots + 0 ≤ 0 → rec17 v0 v1 v2 f n = some r → AW X p l e (RM 3 0 0) s m args below meth c 5 (ZM X below args s 0 0 (QHv r)) f n cells slots 17 [some (.ref v0), some (va_rf v1), some (.int v2), none, none] []) (hc : cells + 0 ≤ 0) (hs : slots + 0 ≤ 0) (h : mX1_takeWithin_b176 rec17 v0 v1 v2 v3 s0 f n = some r) : AW X p l e (RM 3 0 0) s m args below meth c 5 (ZM X below args s 0 0 (QHv r)) f n cells slots 176 [some (.ref v0), some (va_rf v1), some (.int v2), some (.int v3), none] [.int s0] := by
  have h : ((gR f v0 1 7).bind fun x1 => ((gR f v0 1 5).bind fun x2 => ((x2).bind fun j3 => ((gI f j3 6 1).bind fun x4 => ((x1).bind fun j5 => rCk (isO f j5 5) (((mX5_get j5 x4 f n).bind fun r7 => rCk (isO r7.2.1 v0 1) (((mX1_settle v0 v1 v3 r7.1 s0 r7.2.1 r7.2.2).bind fun r10 => rec17 v0 v1 (v2 + (1 : Int32)) r10.2.1 r10.2.2))))))))) = some r := h
  refine aw_istore C dX1_takeWithin_176 (by decide) rfl ?_
  refine aw_nl [some (.ref v0), some (va_rf v1), some (.int v2), some (.int v3), some (.int s0)] rfl ?_
  refine aw_ald_n C dX1_takeWithin_178 rfl ?_
  refine aw_aload_n C dX1_takeWithin_179 rfl (rf_or v1) ?_
  refine aw_iload_n C dX1_takeWithin_180 rfl ?_
  refine aw_ald_n C dX1_takeWithin_181 rfl ?_
  obtain ⟨x1, hx1, h⟩ := Option.bind_eq_some_iff.mp h
  refine ah_getR C gf_X1_26 hx1 dX1_takeWithin_182 ?_
  refine aw_ald_n C dX1_takeWithin_185 rfl ?_
  obtain ⟨x2, hx2, h⟩ := Option.bind_eq_some_iff.mp h
  refine ah_getR C gf_X1_36 hx2 dX1_takeWithin_186 ?_
  obtain ⟨j3, hj3, h⟩ := Option.bind_eq_some_iff.mp h
  rw [hj3]
  obtain ⟨x4, hx4, h⟩ := Option.bind_eq_some_iff.mp h
  refine ah_getI C gf_X1_81 hx4 dX1_takeWithin_189 ?_
  obtain ⟨j5, hj5, h⟩ := Option.bind_eq_some_iff.mp h
  rw [hj5]
  obtain ⟨hb6, h⟩ := ck_some h
  obtain ⟨r7, hr7, h⟩ := Option.bind_eq_some_iff.mp h
  obtain ⟨fs8, hf8⟩ := isO_ex hb6
  refine aw_callV C (ci := 5) (b := j5) [.int x4] mv_X1_114 rfl rfl hf8 (rmX5_get hr7) rfl dX1_takeWithin_192 (Nat.le_of_ble_eq_true rfl) (Nat.le_of_ble_eq_true rfl) rfl (cs_1 rfl (cs_1 (rf_cat _) (cs_1 rfl cs_0))) (show cells + 0 ≤ 0 by omega) (show slots + 0 ≤ 0 by omega) (fun v9 f9 n9 hh => ?_)
  obtain ⟨rfl, rfl, rfl⟩ := hh
  refine aw_iload C dX1_takeWithin_195 rfl ?_
  obtain ⟨hb9, h⟩ := ck_some h
  obtain ⟨r10, hr10, h⟩ := Option.bind_eq_some_iff.mp h
  obtain ⟨fs11, hf11⟩ := isO_ex hb9
  refine aw_callV C (ci := 1) (b := v0) [va_rf v1, .int v3, .int r7.1, .int s0] mv_X1_87 rfl rfl hf11 (rmX1_settle hr10) rfl dX1_takeWithin_197 (Nat.le_of_ble_eq_true rfl) (Nat.le_of_ble_eq_true rfl) rfl (Nat.le_of_ble_eq_true rfl) (show (cells + 0) + 0 ≤ 0 by omega) (show (slots + 0) + 0 ≤ 0 by omega) (fun v9 f9 n9 hh => ?_)
  obtain ⟨rfl, rfl, rfl⟩ := hh
  refine aw_iinc C (v2 + (1 : Int32)) dX1_takeWithin_200 rfl (by rw [ki_1]) (by decide) (ok_rf 1 rfl) ?_
  refine aw_nl [some (.ref v0), some (va_rf v1), some (.int (v2 + (1 : Int32))), some (.int v3), some (.int s0)] rfl ?_
  refine aw_goto C 17 dX1_takeWithin_203 (by decide) ?_
  refine aw_fl [some (.ref v0), some (va_rf v1), some (.int (v2 + (1 : Int32))), none, none] ⟨rfl, ⟨rfl, ⟨rfl, trivial⟩⟩⟩ ?_
  exact Hr17 v0 v1 (v2 + (1 : Int32)) r10.2.1 r10.2.2 _ _ (by omega) (by omega) h
def mX1_takeWithin_l63 (rec17 : Nat → (Option Nat) → Int32 → AH → Nat → Option (Int32 × HpN)) : Nat → Nat → (Option Nat) → Int32 → Int32 → Int32 → AH → Nat → Option (Int32 × HpN)
  | 0, _, _, _, _, _, _, _ => none
  | d + 1, v0, v1, v2, v3, v4, f, n => ((gR f v0 1 5).bind fun x1 => ((x1).bind fun j2 => ((gI f j2 6 2).bind fun x3 => (if x3 ≤ v4 then ((gR f v0 1 5).bind fun x4 => ((x4).bind fun j5 => ((gI f j5 6 2).bind fun x6 => ((gR f v0 1 6).bind fun x7 => ((x7).bind fun j8 => rCk (isO f j8 5) (((mX5_size j8 f n).bind fun r10 => (if r10.1 ≤ x6 then ((gR r10.2.1 v0 1 4).bind fun x12 => ((x12).bind fun j13 => ((gI r10.2.1 j13 6 2).bind fun x14 => mX1_takeWithin_b176 rec17 v0 v1 v2 v3 x14 r10.2.1 r10.2.2))) else ((gR r10.2.1 v0 1 7).bind fun x15 => ((gR r10.2.1 v0 1 5).bind fun x16 => ((x16).bind fun j17 => ((gI r10.2.1 j17 6 2).bind fun x18 => ((x15).bind fun j19 => rCk (isO r10.2.1 j19 5) (((mX5_get j19 x18 r10.2.1 r10.2.2).bind fun r21 => mX1_takeWithin_b176 rec17 v0 v1 v2 v3 r21.1 r21.2.1 r21.2.2))))))))))))))) else ((gR f v0 1 5).bind fun x23 => ((x23).bind fun j24 => rCk (isO f j24 6) (((mX6_read j24 v4 f n).bind fun r26 => ((gR r26.2.1 v0 1 0).bind fun x28 => ((gR r26.2.1 v0 1 5).bind fun x29 => ((x29).bind fun j30 => ((gI r26.2.1 j30 6 6).bind fun x31 => ((x28).bind fun j32 => rCk (isO r26.2.1 j32 5) (((mX5_add j32 x31 r26.2.1 r26.2.2).bind fun r34 => ((gR r34.2.1 v0 1 1).bind fun x36 => ((gR r34.2.1 v0 1 7).bind fun x37 => ((x37).bind fun j38 => rCk (isO r34.2.1 j38 5) (((mX5_get j38 v4 r34.2.1 r34.2.2).bind fun r40 => ((x36).bind fun j42 => rCk (isO r40.2.1 j42 5) (((mX5_add j42 r40.1 r40.2.1 r40.2.2).bind fun r44 => ((gR r44.2.1 v0 1 5).bind fun x46 => ((x46).bind fun j47 => ((gI r44.2.1 j47 6 7).bind fun x48 => mX1_takeWithin_l63 rec17 d v0 v1 v2 v3 (v4 + (jMax (1 : Int32) x48)) r44.2.1 r44.2.2))))))))))))))))))))))))))
set_option maxHeartbeats 1000000 in
theorem rmX1_takeWithin_l63 {X : GX} {p : Program} {l : Launch} {e : Env} {s : State} {m : MethodId} {args : Array Value} {below : List Frame} {meth : Method} {c : Code} {r : Int32 × HpN} {rec17 : Nat → (Option Nat) → Int32 → AH → Nat → Option (Int32 × HpN)} (C : CC X p l (RM 3 0 0) s m args meth c RX1 cX1_takeWithin 5 none) (Hr17 : ∀ (v0 : Nat) (v1 : Option Nat) (v2 : Int32) (f : AH) (n cells slots : Nat), cells + 0 ≤ 0 → slots + 0 ≤ 0 → rec17 v0 v1 v2 f n = some r → AW X p l e (RM 3 0 0) s m args below meth c 5 (ZM X below args s 0 0 (QHv r)) f n cells slots 17 [some (.ref v0), some (va_rf v1), some (.int v2), none, none] []) : ∀ (d : Nat) (v0 : Nat) (v1 : Option Nat) (v2 : Int32) (v3 : Int32) (v4 : Int32) (f : AH) (n cells slots : Nat) (_ : cells + 0 ≤ 0) (_ : slots + 0 ≤ 0) (_ : mX1_takeWithin_l63 rec17 d v0 v1 v2 v3 v4 f n = some r), AW X p l e (RM 3 0 0) s m args below meth c 5 (ZM X below args s 0 0 (QHv r)) f n cells slots 63 [some (.ref v0), some (va_rf v1), some (.int v2), some (.int v3), some (.int v4)] [] := by
  intro d
  induction d with
  | zero =>
    intro v0 v1 v2 v3 v4 f n cells slots hc hs h
    exact nomatch (show (none : Option (Int32 × HpN)) = some r from h)
  | succ d ih =>
    intro v0 v1 v2 v3 v4 f n cells slots hc hs h
    have h : ((gR f v0 1 5).bind fun x1 => ((x1).bind fun j2 => ((gI f j2 6 2).bind fun x3 => (if x3 ≤ v4 then ((gR f v0 1 5).bind fun x4 => ((x4).bind fun j5 => ((gI f j5 6 2).bind fun x6 => ((gR f v0 1 6).bind fun x7 => ((x7).bind fun j8 => rCk (isO f j8 5) (((mX5_size j8 f n).bind fun r10 => (if r10.1 ≤ x6 then ((gR r10.2.1 v0 1 4).bind fun x12 => ((x12).bind fun j13 => ((gI r10.2.1 j13 6 2).bind fun x14 => mX1_takeWithin_b176 rec17 v0 v1 v2 v3 x14 r10.2.1 r10.2.2))) else ((gR r10.2.1 v0 1 7).bind fun x15 => ((gR r10.2.1 v0 1 5).bind fun x16 => ((x16).bind fun j17 => ((gI r10.2.1 j17 6 2).bind fun x18 => ((x15).bind fun j19 => rCk (isO r10.2.1 j19 5) (((mX5_get j19 x18 r10.2.1 r10.2.2).bind fun r21 => mX1_takeWithin_b176 rec17 v0 v1 v2 v3 r21.1 r21.2.1 r21.2.2))))))))))))))) else ((gR f v0 1 5).bind fun x23 => ((x23).bind fun j24 => rCk (isO f j24 6) (((mX6_read j24 v4 f n).bind fun r26 => ((gR r26.2.1 v0 1 0).bind fun x28 => ((gR r26.2.1 v0 1 5).bind fun x29 => ((x29).bind fun j30 => ((gI r26.2.1 j30 6 6).bind fun x31 => ((x28).bind fun j32 => rCk (isO r26.2.1 j32 5) (((mX5_add j32 x31 r26.2.1 r26.2.2).bind fun r34 => ((gR r34.2.1 v0 1 1).bind fun x36 => ((gR r34.2.1 v0 1 7).bind fun x37 => ((x37).bind fun j38 => rCk (isO r34.2.1 j38 5) (((mX5_get j38 v4 r34.2.1 r34.2.2).bind fun r40 => ((x36).bind fun j42 => rCk (isO r40.2.1 j42 5) (((mX5_add j42 r40.1 r40.2.1 r40.2.2).bind fun r44 => ((gR r44.2.1 v0 1 5).bind fun x46 => ((x46).bind fun j47 => ((gI r44.2.1 j47 6 7).bind fun x48 => mX1_takeWithin_l63 rec17 d v0 v1 v2 v3 (v4 + (jMax (1 : Int32) x48)) r44.2.1 r44.2.2)))))))))))))))))))))))))) = some r := h
    refine aw_iload C dX1_takeWithin_63 rfl ?_
    refine aw_ald_n C dX1_takeWithin_65 rfl ?_
    obtain ⟨x1, hx1, h⟩ := Option.bind_eq_some_iff.mp h
    refine ah_getR C gf_X1_36 hx1 dX1_takeWithin_66 ?_
    obtain ⟨j2, hj2, h⟩ := Option.bind_eq_some_iff.mp h
    rw [hj2]
    obtain ⟨x3, hx3, h⟩ := Option.bind_eq_some_iff.mp h
    refine ah_getI C gf_X1_84 hx3 dX1_takeWithin_69 ?_
    refine aw_icmp_ge C 135 dX1_takeWithin_72 (by decide) (fun q => ?_) (fun q => ?_)
    · rw [if_pos q] at h
      refine aw_ald_n C dX1_takeWithin_135 rfl ?_
      obtain ⟨x4, hx4, h⟩ := Option.bind_eq_some_iff.mp h
      refine ah_getR C gf_X1_36 hx4 dX1_takeWithin_136 ?_
      obtain ⟨j5, hj5, h⟩ := Option.bind_eq_some_iff.mp h
      rw [hj5]
      obtain ⟨x6, hx6, h⟩ := Option.bind_eq_some_iff.mp h
      refine ah_getI C gf_X1_84 hx6 dX1_takeWithin_139 ?_
      refine aw_ald_n C dX1_takeWithin_142 rfl ?_
      obtain ⟨x7, hx7, h⟩ := Option.bind_eq_some_iff.mp h
      refine ah_getR C gf_X1_23 hx7 dX1_takeWithin_143 ?_
      obtain ⟨j8, hj8, h⟩ := Option.bind_eq_some_iff.mp h
      rw [hj8]
      obtain ⟨hb9, h⟩ := ck_some h
      obtain ⟨r10, hr10, h⟩ := Option.bind_eq_some_iff.mp h
      obtain ⟨fs11, hf11⟩ := isO_ex hb9
      refine aw_callV C (ci := 5) (b := j8) [] mv_X1_73 rfl rfl hf11 (rmX5_size hr10) rfl dX1_takeWithin_146 (Nat.le_of_ble_eq_true rfl) (Nat.le_of_ble_eq_true rfl) rfl (Nat.le_of_ble_eq_true rfl) (show cells + 0 ≤ 0 by omega) (show slots + 0 ≤ 0 by omega) (fun v9 f9 n9 hh => ?_)
      obtain ⟨rfl, rfl, rfl⟩ := hh
      refine aw_icmp_ge C 169 dX1_takeWithin_149 (by decide) (fun q => ?_) (fun q => ?_)
      · rw [if_pos q] at h
        refine aw_ald_n C dX1_takeWithin_169 rfl ?_
        obtain ⟨x12, hx12, h⟩ := Option.bind_eq_some_iff.mp h
        refine ah_getR C gf_X1_32 hx12 dX1_takeWithin_170 ?_
        obtain ⟨j13, hj13, h⟩ := Option.bind_eq_some_iff.mp h
        rw [hj13]
        obtain ⟨x14, hx14, h⟩ := Option.bind_eq_some_iff.mp h
        refine ah_getI C gf_X1_84 hx14 dX1_takeWithin_173 ?_
        refine aw_fl [some (.ref v0), some (va_rf v1), some (.int v2), some (.int v3), none] ⟨rfl, ⟨rfl, ⟨rfl, ⟨rfl, trivial⟩⟩⟩⟩ ?_
        exact rmX1_takeWithin_b176 C Hr17 (by omega) (by omega) h
      · rw [if_neg q] at h
        refine aw_ald_n C dX1_takeWithin_152 rfl ?_
        obtain ⟨x15, hx15, h⟩ := Option.bind_eq_some_iff.mp h
        refine ah_getR C gf_X1_26 hx15 dX1_takeWithin_153 ?_
        refine aw_ald_n C dX1_takeWithin_156 rfl ?_
        obtain ⟨x16, hx16, h⟩ := Option.bind_eq_some_iff.mp h
        refine ah_getR C gf_X1_36 hx16 dX1_takeWithin_157 ?_
        obtain ⟨j17, hj17, h⟩ := Option.bind_eq_some_iff.mp h
        rw [hj17]
        obtain ⟨x18, hx18, h⟩ := Option.bind_eq_some_iff.mp h
        refine ah_getI C gf_X1_84 hx18 dX1_takeWithin_160 ?_
        obtain ⟨j19, hj19, h⟩ := Option.bind_eq_some_iff.mp h
        rw [hj19]
        obtain ⟨hb20, h⟩ := ck_some h
        obtain ⟨r21, hr21, h⟩ := Option.bind_eq_some_iff.mp h
        obtain ⟨fs22, hf22⟩ := isO_ex hb20
        refine aw_callV C (ci := 5) (b := j19) [.int x18] mv_X1_114 rfl rfl hf22 (rmX5_get hr21) rfl dX1_takeWithin_163 (Nat.le_of_ble_eq_true rfl) (Nat.le_of_ble_eq_true rfl) rfl (Nat.le_of_ble_eq_true rfl) (show (cells + 0) + 0 ≤ 0 by omega) (show (slots + 0) + 0 ≤ 0 by omega) (fun v9 f9 n9 hh => ?_)
        obtain ⟨rfl, rfl, rfl⟩ := hh
        refine aw_goto C 176 dX1_takeWithin_166 (by decide) ?_
        refine aw_fl [some (.ref v0), some (va_rf v1), some (.int v2), some (.int v3), none] ⟨rfl, ⟨rfl, ⟨rfl, ⟨rfl, trivial⟩⟩⟩⟩ ?_
        exact rmX1_takeWithin_b176 C Hr17 (by omega) (by omega) h
    · rw [if_neg q] at h
      refine aw_ald_n C dX1_takeWithin_75 rfl ?_
      obtain ⟨x23, hx23, h⟩ := Option.bind_eq_some_iff.mp h
      refine ah_getR C gf_X1_36 hx23 dX1_takeWithin_76 ?_
      refine aw_iload C dX1_takeWithin_79 rfl ?_
      obtain ⟨j24, hj24, h⟩ := Option.bind_eq_some_iff.mp h
      rw [hj24]
      obtain ⟨hb25, h⟩ := ck_some h
      obtain ⟨r26, hr26, h⟩ := Option.bind_eq_some_iff.mp h
      obtain ⟨fs27, hf27⟩ := isO_ex hb25
      refine aw_callV C (ci := 6) (b := j24) [.int v4] mv_X1_95 rfl rfl hf27 (rmX6_read hr26) rfl dX1_takeWithin_81 (Nat.le_of_ble_eq_true rfl) (Nat.le_of_ble_eq_true rfl) rfl (Nat.le_of_ble_eq_true rfl) (show cells + 0 ≤ 0 by omega) (show slots + 0 ≤ 0 by omega) (fun v9 f9 n9 hh => ?_)
      obtain ⟨rfl, rfl, rfl⟩ := hh
      refine aw_ald_n C dX1_takeWithin_84 rfl ?_
      obtain ⟨x28, hx28, h⟩ := Option.bind_eq_some_iff.mp h
      refine ah_getR C gf_X1_14 hx28 dX1_takeWithin_85 ?_
      refine aw_ald_n C dX1_takeWithin_88 rfl ?_
      obtain ⟨x29, hx29, h⟩ := Option.bind_eq_some_iff.mp h
      refine ah_getR C gf_X1_36 hx29 dX1_takeWithin_89 ?_
      obtain ⟨j30, hj30, h⟩ := Option.bind_eq_some_iff.mp h
      rw [hj30]
      obtain ⟨x31, hx31, h⟩ := Option.bind_eq_some_iff.mp h
      refine ah_getI C gf_X1_98 hx31 dX1_takeWithin_92 ?_
      obtain ⟨j32, hj32, h⟩ := Option.bind_eq_some_iff.mp h
      rw [hj32]
      obtain ⟨hb33, h⟩ := ck_some h
      obtain ⟨r34, hr34, h⟩ := Option.bind_eq_some_iff.mp h
      obtain ⟨fs35, hf35⟩ := isO_ex hb33
      refine aw_callV C (ci := 5) (b := j32) [.int x31] mv_X1_101 rfl rfl hf35 (rmX5_add hr34) rfl dX1_takeWithin_95 (Nat.le_of_ble_eq_true rfl) (Nat.le_of_ble_eq_true rfl) rfl (Nat.le_of_ble_eq_true rfl) (show (cells + 0) + 0 ≤ 0 by omega) (show (slots + 0) + 0 ≤ 0 by omega) (fun v9 f9 n9 hh => ?_)
      obtain ⟨rfl, rfl, rfl⟩ := hh
      refine aw_pop C dX1_takeWithin_98 rfl ?_
      refine aw_ald_n C dX1_takeWithin_99 rfl ?_
      obtain ⟨x36, hx36, h⟩ := Option.bind_eq_some_iff.mp h
      refine ah_getR C gf_X1_20 hx36 dX1_takeWithin_100 ?_
      refine aw_ald_n C dX1_takeWithin_103 rfl ?_
      obtain ⟨x37, hx37, h⟩ := Option.bind_eq_some_iff.mp h
      refine ah_getR C gf_X1_26 hx37 dX1_takeWithin_104 ?_
      refine aw_iload C dX1_takeWithin_107 rfl ?_
      obtain ⟨j38, hj38, h⟩ := Option.bind_eq_some_iff.mp h
      rw [hj38]
      obtain ⟨hb39, h⟩ := ck_some h
      obtain ⟨r40, hr40, h⟩ := Option.bind_eq_some_iff.mp h
      obtain ⟨fs41, hf41⟩ := isO_ex hb39
      refine aw_callV C (ci := 5) (b := j38) [.int v4] mv_X1_114 rfl rfl hf41 (rmX5_get hr40) rfl dX1_takeWithin_109 (Nat.le_of_ble_eq_true rfl) (Nat.le_of_ble_eq_true rfl) rfl (cs_1 (rf_cat _) cs_0) (show ((cells + 0) + 0) + 0 ≤ 0 by omega) (show ((slots + 0) + 0) + 0 ≤ 0 by omega) (fun v9 f9 n9 hh => ?_)
      obtain ⟨rfl, rfl, rfl⟩ := hh
      obtain ⟨j42, hj42, h⟩ := Option.bind_eq_some_iff.mp h
      rw [hj42]
      obtain ⟨hb43, h⟩ := ck_some h
      obtain ⟨r44, hr44, h⟩ := Option.bind_eq_some_iff.mp h
      obtain ⟨fs45, hf45⟩ := isO_ex hb43
      refine aw_callV C (ci := 5) (b := j42) [.int r40.1] mv_X1_101 rfl rfl hf45 (rmX5_add hr44) rfl dX1_takeWithin_112 (Nat.le_of_ble_eq_true rfl) (Nat.le_of_ble_eq_true rfl) rfl (Nat.le_of_ble_eq_true rfl) (show (((cells + 0) + 0) + 0) + 0 ≤ 0 by omega) (show (((slots + 0) + 0) + 0) + 0 ≤ 0 by omega) (fun v9 f9 n9 hh => ?_)
      obtain ⟨rfl, rfl, rfl⟩ := hh
      refine aw_pop C dX1_takeWithin_115 rfl ?_
      refine aw_iload C dX1_takeWithin_116 rfl ?_
      refine aw_iconst C 1 dX1_takeWithin_118 ki_1 ?_
      refine aw_ald_n C dX1_takeWithin_119 rfl ?_
      obtain ⟨x46, hx46, h⟩ := Option.bind_eq_some_iff.mp h
      refine ah_getR C gf_X1_36 hx46 dX1_takeWithin_120 ?_
      obtain ⟨j47, hj47, h⟩ := Option.bind_eq_some_iff.mp h
      rw [hj47]
      obtain ⟨x48, hx48, h⟩ := Option.bind_eq_some_iff.mp h
      refine ah_getI C gf_X1_105 hx48 dX1_takeWithin_123 ?_
      refine ah_jMax C ms_X1_108 dX1_takeWithin_126 (Nat.le_of_ble_eq_true rfl) (Nat.le_of_ble_eq_true rfl) (Nat.le_of_ble_eq_true rfl) (show _ + 0 ≤ 0 by omega) (show _ + 0 ≤ 0 by omega) ?_
      refine aw_iadd C dX1_takeWithin_129 ?_
      refine aw_istore C dX1_takeWithin_130 (by decide) rfl ?_
      refine aw_nl [some (.ref v0), some (va_rf v1), some (.int v2), some (.int v3), some (.int (v4 + (jMax (1 : Int32) x48)))] rfl ?_
      refine aw_goto C 63 dX1_takeWithin_132 (by decide) ?_
      refine aw_fl [some (.ref v0), some (va_rf v1), some (.int v2), some (.int v3), some (.int (v4 + (jMax (1 : Int32) x48)))] ⟨rfl, ⟨rfl, ⟨rfl, ⟨rfl, ⟨rfl, trivial⟩⟩⟩⟩⟩ ?_
      exact ih v0 v1 v2 v3 (v4 + (jMax (1 : Int32) x48)) r44.2.1 r44.2.2 _ _ (by omega) (by omega) h
def mX1_takeWithin_l17 : Nat → Nat → (Option Nat) → Int32 → AH → Nat → Option (Int32 × HpN)
  | 0, _, _, _, _, _ => none
  | d + 1, v0, v1, v2, f, n => (if (600 : Int32) < v2 then mX1_takeWithin_b206 f n else ((gI f v0 1 3).bind fun x1 => ((gR f v0 1 2).bind fun x2 => ((x2).bind fun j3 => ((gL f j3).bind fun x4 => (if (nI x4) ≤ x1 then mX1_takeWithin_b206 f n else ((gR f v0 1 5).bind fun x5 => ((x5).bind fun j6 => rCk (isO f j6 6) (((mX6_next j6 f n).bind fun r8 => (if r8.1 = (0 : Int32) then mX1_takeWithin_b206 r8.2.1 r8.2.2 else ((gR r8.2.1 v0 1 0).bind fun x10 => ((x10).bind fun j11 => rCk (isO r8.2.1 j11 5) (((mX5_size j11 r8.2.1 r8.2.2).bind fun r13 => ((gR r13.2.1 v0 1 5).bind fun x15 => ((x15).bind fun j16 => ((gI r13.2.1 j16 6 1).bind fun x17 => mX1_takeWithin_l63 (fun v0 v1 v2 f n => mX1_takeWithin_l17 d v0 v1 v2 f n) rFU v0 v1 v2 r13.1 x17 r13.2.1 r13.2.2))))))))))))))))))
set_option maxHeartbeats 1000000 in
theorem rmX1_takeWithin_l17 {X : GX} {p : Program} {l : Launch} {e : Env} {s : State} {m : MethodId} {args : Array Value} {below : List Frame} {meth : Method} {c : Code} {r : Int32 × HpN} (C : CC X p l (RM 3 0 0) s m args meth c RX1 cX1_takeWithin 5 none) : ∀ (d : Nat) (v0 : Nat) (v1 : Option Nat) (v2 : Int32) (f : AH) (n cells slots : Nat) (_ : cells + 0 ≤ 0) (_ : slots + 0 ≤ 0) (_ : mX1_takeWithin_l17 d v0 v1 v2 f n = some r), AW X p l e (RM 3 0 0) s m args below meth c 5 (ZM X below args s 0 0 (QHv r)) f n cells slots 17 [some (.ref v0), some (va_rf v1), some (.int v2), none, none] [] := by
  intro d
  induction d with
  | zero =>
    intro v0 v1 v2 f n cells slots hc hs h
    exact nomatch (show (none : Option (Int32 × HpN)) = some r from h)
  | succ d ih =>
    intro v0 v1 v2 f n cells slots hc hs h
    have h : (if (600 : Int32) < v2 then mX1_takeWithin_b206 f n else ((gI f v0 1 3).bind fun x1 => ((gR f v0 1 2).bind fun x2 => ((x2).bind fun j3 => ((gL f j3).bind fun x4 => (if (nI x4) ≤ x1 then mX1_takeWithin_b206 f n else ((gR f v0 1 5).bind fun x5 => ((x5).bind fun j6 => rCk (isO f j6 6) (((mX6_next j6 f n).bind fun r8 => (if r8.1 = (0 : Int32) then mX1_takeWithin_b206 r8.2.1 r8.2.2 else ((gR r8.2.1 v0 1 0).bind fun x10 => ((x10).bind fun j11 => rCk (isO r8.2.1 j11 5) (((mX5_size j11 r8.2.1 r8.2.2).bind fun r13 => ((gR r13.2.1 v0 1 5).bind fun x15 => ((x15).bind fun j16 => ((gI r13.2.1 j16 6 1).bind fun x17 => mX1_takeWithin_l63 (fun v0 v1 v2 f n => mX1_takeWithin_l17 d v0 v1 v2 f n) rFU v0 v1 v2 r13.1 x17 r13.2.1 r13.2.2)))))))))))))))))) = some r := h
    refine aw_iload_n C dX1_takeWithin_17 rfl ?_
    refine aw_sipush C 600 dX1_takeWithin_18 ks_600 ?_
    refine aw_icmp_gt C 206 dX1_takeWithin_21 (by decide) (fun q => ?_) (fun q => ?_)
    · rw [if_pos q] at h
      refine aw_fl [none, none, none, none, none] trivial ?_
      exact rmX1_takeWithin_b206 C (by omega) (by omega) h
    · rw [if_neg q] at h
      refine aw_ald_n C dX1_takeWithin_24 rfl ?_
      obtain ⟨x1, hx1, h⟩ := Option.bind_eq_some_iff.mp h
      refine ah_getI C gf_X1_46 hx1 dX1_takeWithin_25 ?_
      refine aw_ald_n C dX1_takeWithin_28 rfl ?_
      obtain ⟨x2, hx2, h⟩ := Option.bind_eq_some_iff.mp h
      refine ah_getR C gf_X1_41 hx2 dX1_takeWithin_29 ?_
      obtain ⟨j3, hj3, h⟩ := Option.bind_eq_some_iff.mp h
      rw [hj3]
      obtain ⟨x4, hx4, h⟩ := Option.bind_eq_some_iff.mp h
      refine ah_len C hx4 dX1_takeWithin_32 ?_
      refine aw_icmp_ge C 206 dX1_takeWithin_33 (by decide) (fun q => ?_) (fun q => ?_)
      · rw [if_pos q] at h
        refine aw_fl [none, none, none, none, none] trivial ?_
        exact rmX1_takeWithin_b206 C (by omega) (by omega) h
      · rw [if_neg q] at h
        refine aw_ald_n C dX1_takeWithin_36 rfl ?_
        obtain ⟨x5, hx5, h⟩ := Option.bind_eq_some_iff.mp h
        refine ah_getR C gf_X1_36 hx5 dX1_takeWithin_37 ?_
        obtain ⟨j6, hj6, h⟩ := Option.bind_eq_some_iff.mp h
        rw [hj6]
        obtain ⟨hb7, h⟩ := ck_some h
        obtain ⟨r8, hr8, h⟩ := Option.bind_eq_some_iff.mp h
        obtain ⟨fs9, hf9⟩ := isO_ex hb7
        refine aw_callV C (ci := 6) (b := j6) [] mv_X1_62 rfl rfl hf9 (rmX6_next hr8) rfl dX1_takeWithin_40 (Nat.le_of_ble_eq_true rfl) (Nat.le_of_ble_eq_true rfl) rfl (Nat.le_of_ble_eq_true rfl) (show cells + 0 ≤ 0 by omega) (show slots + 0 ≤ 0 by omega) (fun v9 f9 n9 hh => ?_)
        obtain ⟨rfl, rfl, rfl⟩ := hh
        refine aw_if_eq C 206 dX1_takeWithin_43 (by decide) (fun q => ?_) (fun q => ?_)
        · rw [if_pos q] at h
          refine aw_fl [none, none, none, none, none] trivial ?_
          exact rmX1_takeWithin_b206 C (by omega) (by omega) h
        · rw [if_neg q] at h
          refine aw_ald_n C dX1_takeWithin_46 rfl ?_
          obtain ⟨x10, hx10, h⟩ := Option.bind_eq_some_iff.mp h
          refine ah_getR C gf_X1_14 hx10 dX1_takeWithin_47 ?_
          obtain ⟨j11, hj11, h⟩ := Option.bind_eq_some_iff.mp h
          rw [hj11]
          obtain ⟨hb12, h⟩ := ck_some h
          obtain ⟨r13, hr13, h⟩ := Option.bind_eq_some_iff.mp h
          obtain ⟨fs14, hf14⟩ := isO_ex hb12
          refine aw_callV C (ci := 5) (b := j11) [] mv_X1_73 rfl rfl hf14 (rmX5_size hr13) rfl dX1_takeWithin_50 (Nat.le_of_ble_eq_true rfl) (Nat.le_of_ble_eq_true rfl) rfl (Nat.le_of_ble_eq_true rfl) (show (cells + 0) + 0 ≤ 0 by omega) (show (slots + 0) + 0 ≤ 0 by omega) (fun v9 f9 n9 hh => ?_)
          obtain ⟨rfl, rfl, rfl⟩ := hh
          refine aw_istore_n C dX1_takeWithin_53 (by decide) rfl ?_
          refine aw_nl [some (.ref v0), some (va_rf v1), some (.int v2), some (.int r13.1), none] rfl ?_
          refine aw_ald_n C dX1_takeWithin_54 rfl ?_
          obtain ⟨x15, hx15, h⟩ := Option.bind_eq_some_iff.mp h
          refine ah_getR C gf_X1_36 hx15 dX1_takeWithin_55 ?_
          obtain ⟨j16, hj16, h⟩ := Option.bind_eq_some_iff.mp h
          rw [hj16]
          obtain ⟨x17, hx17, h⟩ := Option.bind_eq_some_iff.mp h
          refine ah_getI C gf_X1_81 hx17 dX1_takeWithin_58 ?_
          refine aw_istore C dX1_takeWithin_61 (by decide) rfl ?_
          refine aw_nl [some (.ref v0), some (va_rf v1), some (.int v2), some (.int r13.1), some (.int x17)] rfl ?_
          refine aw_fl [some (.ref v0), some (va_rf v1), some (.int v2), some (.int r13.1), some (.int x17)] ⟨rfl, ⟨rfl, ⟨rfl, ⟨rfl, ⟨rfl, trivial⟩⟩⟩⟩⟩ ?_
          exact rmX1_takeWithin_l63 C (fun v0 v1 v2 f n cells slots hc hs h => ih v0 v1 v2 f n cells slots hc hs h) rFU v0 v1 v2 r13.1 x17 r13.2.1 r13.2.2 _ _ (by omega) (by omega) h
def mX1_takeWithin (v0 : Nat) (v1 : Option Nat) (f : AH) (n : Nat) : Option (Int32 × HpN) := ((gR f v0 1 5).bind fun x1 => ((gR f v0 1 6).bind fun x2 => ((v1).bind fun j3 => ((gI f j3 7 2).bind fun x4 => ((x1).bind fun j5 => rCk (isO f j5 6) (((mX6_start j5 x2 x4 f n).bind fun r7 => mX1_takeWithin_l17 rFU v0 (some j3) (0 : Int32) r7.2.1 r7.2.2)))))))
set_option maxHeartbeats 1000000 in
theorem rmX1_takeWithin {X : GX} {l : Launch} {r : Int32 × HpN} {v0 : Nat} {v1 : Option Nat} {f : AH} {n : Nat} (h : mX1_takeWithin v0 v1 f n = some r) : AM X l yX1_takeWithin cX1_takeWithin 5 none 3 0 0 [.ref v0, va_rf v1] f n (QHv r) := by
  have h : ((gR f v0 1 5).bind fun x1 => ((gR f v0 1 6).bind fun x2 => ((v1).bind fun j3 => ((gI f j3 7 2).bind fun x4 => ((x1).bind fun j5 => rCk (isO f j5 6) (((mX6_start j5 x2 x4 f n).bind fun r7 => mX1_takeWithin_l17 rFU v0 (some j3) (0 : Int32) r7.2.1 r7.2.2))))))) = some r := h
  refine AM.of (by decide +kernel) (all1 rfl (all1 (rf_cat _) rfl)) (Nat.le_of_ble_eq_true rfl) (fun p e s m args below meth c C hnm => ?_)
  refine aw_nl [some (.ref v0), some (va_rf v1), none, none, none] rfl ?_
  refine aw_ald_n C dX1_takeWithin_0 rfl ?_
  obtain ⟨x1, hx1, h⟩ := Option.bind_eq_some_iff.mp h
  refine ah_getR C gf_X1_36 hx1 dX1_takeWithin_1 ?_
  refine aw_ald_n C dX1_takeWithin_4 rfl ?_
  obtain ⟨x2, hx2, h⟩ := Option.bind_eq_some_iff.mp h
  refine ah_getR C gf_X1_23 hx2 dX1_takeWithin_5 ?_
  refine aw_aload_n C dX1_takeWithin_8 rfl (rf_or v1) ?_
  obtain ⟨j3, hj3, h⟩ := Option.bind_eq_some_iff.mp h
  rw [hj3]
  obtain ⟨x4, hx4, h⟩ := Option.bind_eq_some_iff.mp h
  refine ah_getI C gf_X1_70 hx4 dX1_takeWithin_9 ?_
  obtain ⟨j5, hj5, h⟩ := Option.bind_eq_some_iff.mp h
  rw [hj5]
  obtain ⟨hb6, h⟩ := ck_some h
  obtain ⟨r7, hr7, h⟩ := Option.bind_eq_some_iff.mp h
  obtain ⟨fs8, hf8⟩ := isO_ex hb6
  refine aw_callV C (ci := 6) (b := j5) [va_rf x2, .int x4] mv_X1_58 rfl rfl hf8 (rmX6_start hr7) rfl dX1_takeWithin_12 (Nat.le_of_ble_eq_true rfl) (Nat.le_of_ble_eq_true rfl) rfl (Nat.le_of_ble_eq_true rfl) (show 0 + 0 ≤ 0 by omega) (show 0 + 0 ≤ 0 by omega) (fun v9 f9 n9 hh => ?_)
  obtain ⟨rfl, rfl, rfl⟩ := hh
  refine aw_iconst C 0 dX1_takeWithin_15 ki_0 ?_
  refine aw_istore_n C dX1_takeWithin_16 (by decide) rfl ?_
  refine aw_nl [some (.ref v0), some (.ref j3), some (.int (0 : Int32)), none, none] rfl ?_
  refine aw_fl [some (.ref v0), some (va_rf (some j3)), some (.int (0 : Int32)), none, none] ⟨rfl, ⟨rfl, ⟨rfl, trivial⟩⟩⟩ ?_
  exact rmX1_takeWithin_l17 C rFU v0 (some j3) (0 : Int32) r7.2.1 r7.2.2 _ _ (by omega) (by omega) h
