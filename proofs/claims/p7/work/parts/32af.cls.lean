def mX1_find_b174 (f : AH) (n : Nat) : Option (Int32 × HpN) := some ((0 : Int32), (f, n))
set_option maxHeartbeats 1000000 in
theorem rmX1_find_b174 {X : GX} {p : Program} {l : Launch} {e : Env} {s : State} {m : MethodId} {args : Array Value} {below : List Frame} {meth : Method} {c : Code} {r : Int32 × HpN} {f : AH} {n cells slots : Nat} (C : CC X p l (RM 4 0 0) s m args meth c RX1 cX1_find 5 none) (hc : cells + 0 ≤ 0) (hs : slots + 0 ≤ 0) (h : mX1_find_b174 f n = some r) : AW X p l e (RM 4 0 0) s m args below meth c 5 (ZM X below args s 0 0 (QHv r)) f n cells slots 174 [none, none, none, none, none] [] := by
  have h : some ((0 : Int32), (f, n)) = some r := h
  cases h
  exact aw_vret C rfl dX1_find_174 (by omega) (by omega) ⟨rfl, rfl, rfl⟩
def mX1_find_b168 (rec35 : Nat → (Option Nat) → Int32 → AH → Nat → Option (Int32 × HpN)) (v0 : Nat) (v2 : Option Nat) (v3 : Int32) (f : AH) (n : Nat) : Option (Int32 × HpN) := rec35 v0 v2 (v3 + (1 : Int32)) f n
set_option maxHeartbeats 1000000 in
theorem rmX1_find_b168 {X : GX} {p : Program} {l : Launch} {e : Env} {s : State} {m : MethodId} {args : Array Value} {below : List Frame} {meth : Method} {c : Code} {r : Int32 × HpN} {rec35 : Nat → (Option Nat) → Int32 → AH → Nat → Option (Int32 × HpN)} {v0 : Nat} {v2 : Option Nat} {v3 : Int32} {f : AH} {n cells slots : Nat} (C : CC X p l (RM 4 0 0) s m args meth c RX1 cX1_find 5 none) (Hr35 : ∀ (v0 : Nat) (v2 : Option Nat) (v3 : Int32) (f : AH) (n cells slots : Nat), cells + 0 ≤ 0 → slots + 0 ≤ 0 → rec35 v0 v2 v3 f n = some r → AW X p l e (RM 4 0 0) s m args below meth c 5 (ZM X below args s 0 0 (QHv r)) f n cells slots 35 [some (.ref v0), none, some (va_rf v2), some (.int v3), none] []) (hc : cells + 0 ≤ 0) (hs : slots + 0 ≤ 0) (h : mX1_find_b168 rec35 v0 v2 v3 f n = some r) : AW X p l e (RM 4 0 0) s m args below meth c 5 (ZM X below args s 0 0 (QHv r)) f n cells slots 168 [some (.ref v0), none, some (va_rf v2), some (.int v3), none] [] := by
  have h : rec35 v0 v2 (v3 + (1 : Int32)) f n = some r := h
  refine aw_iinc C (v3 + (1 : Int32)) dX1_find_168 rfl (by rw [ki_1]) (by decide) (ok_rf 2 rfl) ?_
  refine aw_nl [some (.ref v0), none, some (va_rf v2), some (.int (v3 + (1 : Int32))), none] rfl ?_
  refine aw_goto C 35 dX1_find_171 (by decide) ?_
  refine aw_fl [some (.ref v0), none, some (va_rf v2), some (.int (v3 + (1 : Int32))), none] ⟨rfl, ⟨rfl, ⟨rfl, trivial⟩⟩⟩ ?_
  exact Hr35 v0 v2 (v3 + (1 : Int32)) f n _ _ (by omega) (by omega) h
def mX1_find_b82 (rec35 : Nat → (Option Nat) → Int32 → AH → Nat → Option (Int32 × HpN)) (v0 : Nat) (v2 : Option Nat) (v3 : Int32) (f : AH) (n : Nat) : Option (Int32 × HpN) := ((v2).bind fun j1 => ((gI f j1 7 2).bind fun x2 => (if x2 = (-1 : Int32) then ((gR f v0 1 0).bind fun x21 => ((x21).bind fun j22 => rCk (isO f j22 5) (((mX5_size j22 f n).bind fun r24 => ((gR r24.2.1 v0 1 0).bind fun x26 => ((gR r24.2.1 v0 1 1).bind fun x27 => rCk (isO r24.2.1 v0 1) (((mX1_readOuter v0 x26 x27 r24.2.1 r24.2.2).bind fun r29 => ((gR r29.2.1 v0 1 4).bind fun x31 => ((x31).bind fun j32 => ((gI r29.2.1 j32 6 1).bind fun x33 => ((gR r29.2.1 v0 1 4).bind fun x34 => ((x34).bind fun j35 => ((gI r29.2.1 j35 6 2).bind fun x36 => rCk (isO r29.2.1 v0 1) (((mX1_settle v0 (some j1) r24.1 x33 x36 r29.2.1 r29.2.2).bind fun r38 => mX1_find_b168 rec35 v0 (some j1) v3 r38.2.1 r38.2.2)))))))))))))))) else ((gR f v0 1 6).bind fun x3 => ((x3).bind fun j4 => rCk (isO f j4 5) (((mX5_cutTo j4 (0 : Int32) f n).bind fun r6 => ((gR r6.2.1 v0 1 7).bind fun x8 => ((x8).bind fun j9 => rCk (isO r6.2.1 j9 5) (((mX5_cutTo j9 (0 : Int32) r6.2.1 r6.2.2).bind fun r11 => ((gR r11.2.1 v0 1 6).bind fun x13 => ((gR r11.2.1 v0 1 7).bind fun x14 => rCk (isO r11.2.1 v0 1) (((mX1_readOuter v0 x13 x14 r11.2.1 r11.2.2).bind fun r16 => rCk (isO r16.2.1 v0 1) (((mX1_takeWithin v0 (some j1) r16.2.1 r16.2.2).bind fun r19 => mX1_find_b168 rec35 v0 (some j1) v3 r19.2.1 r19.2.2)))))))))))))))))
set_option maxHeartbeats 1000000 in
theorem rmX1_find_b82 {X : GX} {p : Program} {l : Launch} {e : Env} {s : State} {m : MethodId} {args : Array Value} {below : List Frame} {meth : Method} {c : Code} {r : Int32 × HpN} {rec35 : Nat → (Option Nat) → Int32 → AH → Nat → Option (Int32 × HpN)} {v0 : Nat} {v2 : Option Nat} {v3 : Int32} {f : AH} {n cells slots : Nat} (C : CC X p l (RM 4 0 0) s m args meth c RX1 cX1_find 5 none) (Hr35 : ∀ (v0 : Nat) (v2 : Option Nat) (v3 : Int32) (f : AH) (n cells slots : Nat), cells + 0 ≤ 0 → slots + 0 ≤ 0 → rec35 v0 v2 v3 f n = some r → AW X p l e (RM 4 0 0) s m args below meth c 5 (ZM X below args s 0 0 (QHv r)) f n cells slots 35 [some (.ref v0), none, some (va_rf v2), some (.int v3), none] []) (hc : cells + 0 ≤ 0) (hs : slots + 0 ≤ 0) (h : mX1_find_b82 rec35 v0 v2 v3 f n = some r) : AW X p l e (RM 4 0 0) s m args below meth c 5 (ZM X below args s 0 0 (QHv r)) f n cells slots 82 [some (.ref v0), none, some (va_rf v2), some (.int v3), none] [] := by
  have h : ((v2).bind fun j1 => ((gI f j1 7 2).bind fun x2 => (if x2 = (-1 : Int32) then ((gR f v0 1 0).bind fun x21 => ((x21).bind fun j22 => rCk (isO f j22 5) (((mX5_size j22 f n).bind fun r24 => ((gR r24.2.1 v0 1 0).bind fun x26 => ((gR r24.2.1 v0 1 1).bind fun x27 => rCk (isO r24.2.1 v0 1) (((mX1_readOuter v0 x26 x27 r24.2.1 r24.2.2).bind fun r29 => ((gR r29.2.1 v0 1 4).bind fun x31 => ((x31).bind fun j32 => ((gI r29.2.1 j32 6 1).bind fun x33 => ((gR r29.2.1 v0 1 4).bind fun x34 => ((x34).bind fun j35 => ((gI r29.2.1 j35 6 2).bind fun x36 => rCk (isO r29.2.1 v0 1) (((mX1_settle v0 (some j1) r24.1 x33 x36 r29.2.1 r29.2.2).bind fun r38 => mX1_find_b168 rec35 v0 (some j1) v3 r38.2.1 r38.2.2)))))))))))))))) else ((gR f v0 1 6).bind fun x3 => ((x3).bind fun j4 => rCk (isO f j4 5) (((mX5_cutTo j4 (0 : Int32) f n).bind fun r6 => ((gR r6.2.1 v0 1 7).bind fun x8 => ((x8).bind fun j9 => rCk (isO r6.2.1 j9 5) (((mX5_cutTo j9 (0 : Int32) r6.2.1 r6.2.2).bind fun r11 => ((gR r11.2.1 v0 1 6).bind fun x13 => ((gR r11.2.1 v0 1 7).bind fun x14 => rCk (isO r11.2.1 v0 1) (((mX1_readOuter v0 x13 x14 r11.2.1 r11.2.2).bind fun r16 => rCk (isO r16.2.1 v0 1) (((mX1_takeWithin v0 (some j1) r16.2.1 r16.2.2).bind fun r19 => mX1_find_b168 rec35 v0 (some j1) v3 r19.2.1 r19.2.2))))))))))))))))) = some r := h
  refine aw_aload_n C dX1_find_82 rfl (rf_or v2) ?_
  obtain ⟨j1, hj1, h⟩ := Option.bind_eq_some_iff.mp h
  rw [hj1]
  obtain ⟨x2, hx2, h⟩ := Option.bind_eq_some_iff.mp h
  refine ah_getI C gf_X1_70 hx2 dX1_find_83 ?_
  refine aw_iconst C (-1) dX1_find_86 ki_m1 ?_
  refine aw_icmp_ne C 135 dX1_find_87 (by decide) (fun q => ?_) (fun q => ?_)
  · rw [if_neg q] at h
    refine aw_ald_n C dX1_find_135 rfl ?_
    obtain ⟨x3, hx3, h⟩ := Option.bind_eq_some_iff.mp h
    refine ah_getR C gf_X1_23 hx3 dX1_find_136 ?_
    refine aw_iconst C 0 dX1_find_139 ki_0 ?_
    obtain ⟨j4, hj4, h⟩ := Option.bind_eq_some_iff.mp h
    rw [hj4]
    obtain ⟨hb5, h⟩ := ck_some h
    obtain ⟨r6, hr6, h⟩ := Option.bind_eq_some_iff.mp h
    obtain ⟨fs7, hf7⟩ := isO_ex hb5
    refine aw_callV C (ci := 5) (b := j4) [.int (0 : Int32)] mv_X1_50 rfl rfl hf7 (rmX5_cutTo hr6) rfl dX1_find_140 (Nat.le_of_ble_eq_true rfl) (Nat.le_of_ble_eq_true rfl) rfl (Nat.le_of_ble_eq_true rfl) (show cells + 0 ≤ 0 by omega) (show slots + 0 ≤ 0 by omega) (fun v9 f9 n9 hh => ?_)
    obtain ⟨rfl, rfl, rfl⟩ := hh
    refine aw_ald_n C dX1_find_143 rfl ?_
    obtain ⟨x8, hx8, h⟩ := Option.bind_eq_some_iff.mp h
    refine ah_getR C gf_X1_26 hx8 dX1_find_144 ?_
    refine aw_iconst C 0 dX1_find_147 ki_0 ?_
    obtain ⟨j9, hj9, h⟩ := Option.bind_eq_some_iff.mp h
    rw [hj9]
    obtain ⟨hb10, h⟩ := ck_some h
    obtain ⟨r11, hr11, h⟩ := Option.bind_eq_some_iff.mp h
    obtain ⟨fs12, hf12⟩ := isO_ex hb10
    refine aw_callV C (ci := 5) (b := j9) [.int (0 : Int32)] mv_X1_50 rfl rfl hf12 (rmX5_cutTo hr11) rfl dX1_find_148 (Nat.le_of_ble_eq_true rfl) (Nat.le_of_ble_eq_true rfl) rfl (Nat.le_of_ble_eq_true rfl) (show (cells + 0) + 0 ≤ 0 by omega) (show (slots + 0) + 0 ≤ 0 by omega) (fun v9 f9 n9 hh => ?_)
    obtain ⟨rfl, rfl, rfl⟩ := hh
    refine aw_ald_n C dX1_find_151 rfl ?_
    refine aw_ald_n C dX1_find_152 rfl ?_
    obtain ⟨x13, hx13, h⟩ := Option.bind_eq_some_iff.mp h
    refine ah_getR C gf_X1_23 hx13 dX1_find_153 ?_
    refine aw_ald_n C dX1_find_156 rfl ?_
    obtain ⟨x14, hx14, h⟩ := Option.bind_eq_some_iff.mp h
    refine ah_getR C gf_X1_26 hx14 dX1_find_157 ?_
    obtain ⟨hb15, h⟩ := ck_some h
    obtain ⟨r16, hr16, h⟩ := Option.bind_eq_some_iff.mp h
    obtain ⟨fs17, hf17⟩ := isO_ex hb15
    refine aw_callV C (ci := 1) (b := v0) [va_rf x13, va_rf x14] mv_X1_77 rfl rfl hf17 (rmX1_readOuter hr16) rfl dX1_find_160 (Nat.le_of_ble_eq_true rfl) (Nat.le_of_ble_eq_true rfl) rfl (Nat.le_of_ble_eq_true rfl) (show ((cells + 0) + 0) + 0 ≤ 0 by omega) (show ((slots + 0) + 0) + 0 ≤ 0 by omega) (fun v9 f9 n9 hh => ?_)
    obtain ⟨rfl, rfl, rfl⟩ := hh
    refine aw_ald_n C dX1_find_163 rfl ?_
    refine aw_ald_n C dX1_find_164 rfl ?_
    obtain ⟨hb18, h⟩ := ck_some h
    obtain ⟨r19, hr19, h⟩ := Option.bind_eq_some_iff.mp h
    obtain ⟨fs20, hf20⟩ := isO_ex hb18
    refine aw_callV C (ci := 1) (b := v0) [.ref j1] mv_X1_91 rfl rfl hf20 (rmX1_takeWithin hr19) rfl dX1_find_165 (Nat.le_of_ble_eq_true rfl) (Nat.le_of_ble_eq_true rfl) rfl (Nat.le_of_ble_eq_true rfl) (show (((cells + 0) + 0) + 0) + 0 ≤ 0 by omega) (show (((slots + 0) + 0) + 0) + 0 ≤ 0 by omega) (fun v9 f9 n9 hh => ?_)
    obtain ⟨rfl, rfl, rfl⟩ := hh
    refine aw_fl [some (.ref v0), none, some (va_rf (some j1)), some (.int v3), none] ⟨rfl, ⟨rfl, ⟨rfl, trivial⟩⟩⟩ ?_
    exact rmX1_find_b168 C Hr35 (by omega) (by omega) h
  · rw [if_pos q] at h
    refine aw_ald_n C dX1_find_90 rfl ?_
    obtain ⟨x21, hx21, h⟩ := Option.bind_eq_some_iff.mp h
    refine ah_getR C gf_X1_14 hx21 dX1_find_91 ?_
    obtain ⟨j22, hj22, h⟩ := Option.bind_eq_some_iff.mp h
    rw [hj22]
    obtain ⟨hb23, h⟩ := ck_some h
    obtain ⟨r24, hr24, h⟩ := Option.bind_eq_some_iff.mp h
    obtain ⟨fs25, hf25⟩ := isO_ex hb23
    refine aw_callV C (ci := 5) (b := j22) [] mv_X1_73 rfl rfl hf25 (rmX5_size hr24) rfl dX1_find_94 (Nat.le_of_ble_eq_true rfl) (Nat.le_of_ble_eq_true rfl) rfl (Nat.le_of_ble_eq_true rfl) (show cells + 0 ≤ 0 by omega) (show slots + 0 ≤ 0 by omega) (fun v9 f9 n9 hh => ?_)
    obtain ⟨rfl, rfl, rfl⟩ := hh
    refine aw_istore C dX1_find_97 (by decide) rfl ?_
    refine aw_nl [some (.ref v0), none, some (.ref j1), some (.int v3), some (.int r24.1)] rfl ?_
    refine aw_ald_n C dX1_find_99 rfl ?_
    refine aw_ald_n C dX1_find_100 rfl ?_
    obtain ⟨x26, hx26, h⟩ := Option.bind_eq_some_iff.mp h
    refine ah_getR C gf_X1_14 hx26 dX1_find_101 ?_
    refine aw_ald_n C dX1_find_104 rfl ?_
    obtain ⟨x27, hx27, h⟩ := Option.bind_eq_some_iff.mp h
    refine ah_getR C gf_X1_20 hx27 dX1_find_105 ?_
    obtain ⟨hb28, h⟩ := ck_some h
    obtain ⟨r29, hr29, h⟩ := Option.bind_eq_some_iff.mp h
    obtain ⟨fs30, hf30⟩ := isO_ex hb28
    refine aw_callV C (ci := 1) (b := v0) [va_rf x26, va_rf x27] mv_X1_77 rfl rfl hf30 (rmX1_readOuter hr29) rfl dX1_find_108 (Nat.le_of_ble_eq_true rfl) (Nat.le_of_ble_eq_true rfl) rfl (Nat.le_of_ble_eq_true rfl) (show (cells + 0) + 0 ≤ 0 by omega) (show (slots + 0) + 0 ≤ 0 by omega) (fun v9 f9 n9 hh => ?_)
    obtain ⟨rfl, rfl, rfl⟩ := hh
    refine aw_ald_n C dX1_find_111 rfl ?_
    refine aw_ald_n C dX1_find_112 rfl ?_
    refine aw_iload C dX1_find_113 rfl ?_
    refine aw_ald_n C dX1_find_115 rfl ?_
    obtain ⟨x31, hx31, h⟩ := Option.bind_eq_some_iff.mp h
    refine ah_getR C gf_X1_32 hx31 dX1_find_116 ?_
    obtain ⟨j32, hj32, h⟩ := Option.bind_eq_some_iff.mp h
    rw [hj32]
    obtain ⟨x33, hx33, h⟩ := Option.bind_eq_some_iff.mp h
    refine ah_getI C gf_X1_81 hx33 dX1_find_119 ?_
    refine aw_ald_n C dX1_find_122 rfl ?_
    obtain ⟨x34, hx34, h⟩ := Option.bind_eq_some_iff.mp h
    refine ah_getR C gf_X1_32 hx34 dX1_find_123 ?_
    obtain ⟨j35, hj35, h⟩ := Option.bind_eq_some_iff.mp h
    rw [hj35]
    obtain ⟨x36, hx36, h⟩ := Option.bind_eq_some_iff.mp h
    refine ah_getI C gf_X1_84 hx36 dX1_find_126 ?_
    obtain ⟨hb37, h⟩ := ck_some h
    obtain ⟨r38, hr38, h⟩ := Option.bind_eq_some_iff.mp h
    obtain ⟨fs39, hf39⟩ := isO_ex hb37
    refine aw_callV C (ci := 1) (b := v0) [.ref j1, .int r24.1, .int x33, .int x36] mv_X1_87 rfl rfl hf39 (rmX1_settle hr38) rfl dX1_find_129 (Nat.le_of_ble_eq_true rfl) (Nat.le_of_ble_eq_true rfl) rfl (Nat.le_of_ble_eq_true rfl) (show ((cells + 0) + 0) + 0 ≤ 0 by omega) (show ((slots + 0) + 0) + 0 ≤ 0 by omega) (fun v9 f9 n9 hh => ?_)
    obtain ⟨rfl, rfl, rfl⟩ := hh
    refine aw_goto C 168 dX1_find_132 (by decide) ?_
    refine aw_fl [some (.ref v0), none, some (va_rf (some j1)), some (.int v3), none] ⟨rfl, ⟨rfl, ⟨rfl, trivial⟩⟩⟩ ?_
    exact rmX1_find_b168 C Hr35 (by omega) (by omega) h
def mX1_find_l35 : Nat → Nat → (Option Nat) → Int32 → AH → Nat → Option (Int32 × HpN)
  | 0, _, _, _, _, _ => none
  | d + 1, v0, v2, v3, f, n => (if (600 : Int32) < v3 then mX1_find_b174 f n else ((gI f v0 1 3).bind fun x1 => ((gR f v0 1 2).bind fun x2 => ((x2).bind fun j3 => ((gL f j3).bind fun x4 => (if (nI x4) ≤ x1 then mX1_find_b174 f n else ((gR f v0 1 4).bind fun x5 => ((x5).bind fun j6 => rCk (isO f j6 6) (((mX6_next j6 f n).bind fun r8 => (if r8.1 = (0 : Int32) then mX1_find_b174 r8.2.1 r8.2.2 else ((v2).bind fun j10 => ((gI r8.2.1 j10 7 1).bind fun x11 => (if x11 = (0 : Int32) then ((gR r8.2.1 v0 1 4).bind fun x12 => rCk (isO r8.2.1 j10 7) (((mX7_isLocked j10 x12 r8.2.1 r8.2.2).bind fun r14 => (if r14.1 = (0 : Int32) then mX1_find_b82 (fun v0 v2 v3 f n => mX1_find_l35 d v0 v2 v3 f n) v0 (some j10) v3 r14.2.1 r14.2.2 else mX1_find_b168 (fun v0 v2 v3 f n => mX1_find_l35 d v0 v2 v3 f n) v0 (some j10) v3 r14.2.1 r14.2.2)))) else mX1_find_b82 (fun v0 v2 v3 f n => mX1_find_l35 d v0 v2 v3 f n) v0 (some j10) v3 r8.2.1 r8.2.2))))))))))))))
set_option maxHeartbeats 1000000 in
theorem rmX1_find_l35 {X : GX} {p : Program} {l : Launch} {e : Env} {s : State} {m : MethodId} {args : Array Value} {below : List Frame} {meth : Method} {c : Code} {r : Int32 × HpN} (C : CC X p l (RM 4 0 0) s m args meth c RX1 cX1_find 5 none) : ∀ (d : Nat) (v0 : Nat) (v2 : Option Nat) (v3 : Int32) (f : AH) (n cells slots : Nat) (_ : cells + 0 ≤ 0) (_ : slots + 0 ≤ 0) (_ : mX1_find_l35 d v0 v2 v3 f n = some r), AW X p l e (RM 4 0 0) s m args below meth c 5 (ZM X below args s 0 0 (QHv r)) f n cells slots 35 [some (.ref v0), none, some (va_rf v2), some (.int v3), none] [] := by
  intro d
  induction d with
  | zero =>
    intro v0 v2 v3 f n cells slots hc hs h
    exact nomatch (show (none : Option (Int32 × HpN)) = some r from h)
  | succ d ih =>
    intro v0 v2 v3 f n cells slots hc hs h
    have h : (if (600 : Int32) < v3 then mX1_find_b174 f n else ((gI f v0 1 3).bind fun x1 => ((gR f v0 1 2).bind fun x2 => ((x2).bind fun j3 => ((gL f j3).bind fun x4 => (if (nI x4) ≤ x1 then mX1_find_b174 f n else ((gR f v0 1 4).bind fun x5 => ((x5).bind fun j6 => rCk (isO f j6 6) (((mX6_next j6 f n).bind fun r8 => (if r8.1 = (0 : Int32) then mX1_find_b174 r8.2.1 r8.2.2 else ((v2).bind fun j10 => ((gI r8.2.1 j10 7 1).bind fun x11 => (if x11 = (0 : Int32) then ((gR r8.2.1 v0 1 4).bind fun x12 => rCk (isO r8.2.1 j10 7) (((mX7_isLocked j10 x12 r8.2.1 r8.2.2).bind fun r14 => (if r14.1 = (0 : Int32) then mX1_find_b82 (fun v0 v2 v3 f n => mX1_find_l35 d v0 v2 v3 f n) v0 (some j10) v3 r14.2.1 r14.2.2 else mX1_find_b168 (fun v0 v2 v3 f n => mX1_find_l35 d v0 v2 v3 f n) v0 (some j10) v3 r14.2.1 r14.2.2)))) else mX1_find_b82 (fun v0 v2 v3 f n => mX1_find_l35 d v0 v2 v3 f n) v0 (some j10) v3 r8.2.1 r8.2.2)))))))))))))) = some r := h
    refine aw_iload_n C dX1_find_35 rfl ?_
    refine aw_sipush C 600 dX1_find_36 ks_600 ?_
    refine aw_icmp_gt C 174 dX1_find_39 (by decide) (fun q => ?_) (fun q => ?_)
    · rw [if_pos q] at h
      refine aw_fl [none, none, none, none, none] trivial ?_
      exact rmX1_find_b174 C (by omega) (by omega) h
    · rw [if_neg q] at h
      refine aw_ald_n C dX1_find_42 rfl ?_
      obtain ⟨x1, hx1, h⟩ := Option.bind_eq_some_iff.mp h
      refine ah_getI C gf_X1_46 hx1 dX1_find_43 ?_
      refine aw_ald_n C dX1_find_46 rfl ?_
      obtain ⟨x2, hx2, h⟩ := Option.bind_eq_some_iff.mp h
      refine ah_getR C gf_X1_41 hx2 dX1_find_47 ?_
      obtain ⟨j3, hj3, h⟩ := Option.bind_eq_some_iff.mp h
      rw [hj3]
      obtain ⟨x4, hx4, h⟩ := Option.bind_eq_some_iff.mp h
      refine ah_len C hx4 dX1_find_50 ?_
      refine aw_icmp_ge C 174 dX1_find_51 (by decide) (fun q => ?_) (fun q => ?_)
      · rw [if_pos q] at h
        refine aw_fl [none, none, none, none, none] trivial ?_
        exact rmX1_find_b174 C (by omega) (by omega) h
      · rw [if_neg q] at h
        refine aw_ald_n C dX1_find_54 rfl ?_
        obtain ⟨x5, hx5, h⟩ := Option.bind_eq_some_iff.mp h
        refine ah_getR C gf_X1_32 hx5 dX1_find_55 ?_
        obtain ⟨j6, hj6, h⟩ := Option.bind_eq_some_iff.mp h
        rw [hj6]
        obtain ⟨hb7, h⟩ := ck_some h
        obtain ⟨r8, hr8, h⟩ := Option.bind_eq_some_iff.mp h
        obtain ⟨fs9, hf9⟩ := isO_ex hb7
        refine aw_callV C (ci := 6) (b := j6) [] mv_X1_62 rfl rfl hf9 (rmX6_next hr8) rfl dX1_find_58 (Nat.le_of_ble_eq_true rfl) (Nat.le_of_ble_eq_true rfl) rfl (Nat.le_of_ble_eq_true rfl) (show cells + 0 ≤ 0 by omega) (show slots + 0 ≤ 0 by omega) (fun v9 f9 n9 hh => ?_)
        obtain ⟨rfl, rfl, rfl⟩ := hh
        refine aw_if_eq C 174 dX1_find_61 (by decide) (fun q => ?_) (fun q => ?_)
        · rw [if_pos q] at h
          refine aw_fl [none, none, none, none, none] trivial ?_
          exact rmX1_find_b174 C (by omega) (by omega) h
        · rw [if_neg q] at h
          refine aw_aload_n C dX1_find_64 rfl (rf_or v2) ?_
          obtain ⟨j10, hj10, h⟩ := Option.bind_eq_some_iff.mp h
          rw [hj10]
          obtain ⟨x11, hx11, h⟩ := Option.bind_eq_some_iff.mp h
          refine ah_getI C gf_X1_53 hx11 dX1_find_65 ?_
          refine aw_if_ne C 82 dX1_find_68 (by decide) (fun q => ?_) (fun q => ?_)
          · rw [if_neg q] at h
            refine aw_fl [some (.ref v0), none, some (va_rf (some j10)), some (.int v3), none] ⟨rfl, ⟨rfl, ⟨rfl, trivial⟩⟩⟩ ?_
            exact rmX1_find_b82 C (fun v0 v2 v3 f n cells slots hc hs h => ih v0 v2 v3 f n cells slots hc hs h) (by omega) (by omega) h
          · rw [if_pos q] at h
            refine aw_ald_n C dX1_find_71 rfl ?_
            refine aw_ald_n C dX1_find_72 rfl ?_
            obtain ⟨x12, hx12, h⟩ := Option.bind_eq_some_iff.mp h
            refine ah_getR C gf_X1_32 hx12 dX1_find_73 ?_
            obtain ⟨hb13, h⟩ := ck_some h
            obtain ⟨r14, hr14, h⟩ := Option.bind_eq_some_iff.mp h
            obtain ⟨fs15, hf15⟩ := isO_ex hb13
            refine aw_callV C (ci := 7) (b := j10) [va_rf x12] mv_X1_66 rfl rfl hf15 (rmX7_isLocked hr14) rfl dX1_find_76 (Nat.le_of_ble_eq_true rfl) (Nat.le_of_ble_eq_true rfl) rfl (Nat.le_of_ble_eq_true rfl) (show (cells + 0) + 0 ≤ 0 by omega) (show (slots + 0) + 0 ≤ 0 by omega) (fun v9 f9 n9 hh => ?_)
            obtain ⟨rfl, rfl, rfl⟩ := hh
            refine aw_if_ne C 168 dX1_find_79 (by decide) (fun q => ?_) (fun q => ?_)
            · rw [if_neg q] at h
              refine aw_fl [some (.ref v0), none, some (va_rf (some j10)), some (.int v3), none] ⟨rfl, ⟨rfl, ⟨rfl, trivial⟩⟩⟩ ?_
              exact rmX1_find_b168 C (fun v0 v2 v3 f n cells slots hc hs h => ih v0 v2 v3 f n cells slots hc hs h) (by omega) (by omega) h
            · rw [if_pos q] at h
              refine aw_fl [some (.ref v0), none, some (va_rf (some j10)), some (.int v3), none] ⟨rfl, ⟨rfl, ⟨rfl, trivial⟩⟩⟩ ?_
              exact rmX1_find_b82 C (fun v0 v2 v3 f n cells slots hc hs h => ih v0 v2 v3 f n cells slots hc hs h) (by omega) (by omega) h
def mX1_find (v0 : Nat) (v1 : Option Nat) (v2 : Option Nat) (f : AH) (n : Nat) : Option (Int32 × HpN) := ((pO f v0 1 3 (.int (0 : Int32))).bind fun f1 => ((gR f1 v0 1 0).bind fun x2 => ((x2).bind fun j3 => rCk (isO f1 j3 5) (((mX5_cutTo j3 (0 : Int32) f1 n).bind fun r5 => ((gR r5.2.1 v0 1 1).bind fun x7 => ((x7).bind fun j8 => rCk (isO r5.2.1 j8 5) (((mX5_cutTo j8 (0 : Int32) r5.2.1 r5.2.2).bind fun r10 => ((gR r10.2.1 v0 1 4).bind fun x12 => ((v2).bind fun j13 => ((gI r10.2.1 j13 7 1).bind fun x14 => ((x12).bind fun j15 => rCk (isO r10.2.1 j15 6) (((mX6_start j15 v1 x14 r10.2.1 r10.2.2).bind fun r17 => mX1_find_l35 rFU v0 (some j13) (0 : Int32) r17.2.1 r17.2.2)))))))))))))))
set_option maxHeartbeats 1000000 in
theorem rmX1_find {X : GX} {l : Launch} {r : Int32 × HpN} {v0 : Nat} {v1 : Option Nat} {v2 : Option Nat} {f : AH} {n : Nat} (h : mX1_find v0 v1 v2 f n = some r) : AM X l yX1_find cX1_find 5 none 4 0 0 [.ref v0, va_rf v1, va_rf v2] f n (QHv r) := by
  have h : ((pO f v0 1 3 (.int (0 : Int32))).bind fun f1 => ((gR f1 v0 1 0).bind fun x2 => ((x2).bind fun j3 => rCk (isO f1 j3 5) (((mX5_cutTo j3 (0 : Int32) f1 n).bind fun r5 => ((gR r5.2.1 v0 1 1).bind fun x7 => ((x7).bind fun j8 => rCk (isO r5.2.1 j8 5) (((mX5_cutTo j8 (0 : Int32) r5.2.1 r5.2.2).bind fun r10 => ((gR r10.2.1 v0 1 4).bind fun x12 => ((v2).bind fun j13 => ((gI r10.2.1 j13 7 1).bind fun x14 => ((x12).bind fun j15 => rCk (isO r10.2.1 j15 6) (((mX6_start j15 v1 x14 r10.2.1 r10.2.2).bind fun r17 => mX1_find_l35 rFU v0 (some j13) (0 : Int32) r17.2.1 r17.2.2))))))))))))))) = some r := h
  refine AM.of (by decide +kernel) (all1 rfl (all1 (rf_cat _) (all1 (rf_cat _) rfl))) (Nat.le_of_ble_eq_true rfl) (fun p e s m args below meth c C hnm => ?_)
  refine aw_nl [some (.ref v0), some (va_rf v1), some (va_rf v2), none, none] rfl ?_
  refine aw_ald_n C dX1_find_0 rfl ?_
  refine aw_iconst C 0 dX1_find_1 ki_0 ?_
  obtain ⟨f1, hf1, h⟩ := Option.bind_eq_some_iff.mp h
  refine ah_put C gf_X1_46 cf1 nf1_3 rfl rfl hf1 dX1_find_2 ?_
  refine aw_ald_n C dX1_find_5 rfl ?_
  obtain ⟨x2, hx2, h⟩ := Option.bind_eq_some_iff.mp h
  refine ah_getR C gf_X1_14 hx2 dX1_find_6 ?_
  refine aw_iconst C 0 dX1_find_9 ki_0 ?_
  obtain ⟨j3, hj3, h⟩ := Option.bind_eq_some_iff.mp h
  rw [hj3]
  obtain ⟨hb4, h⟩ := ck_some h
  obtain ⟨r5, hr5, h⟩ := Option.bind_eq_some_iff.mp h
  obtain ⟨fs6, hf6⟩ := isO_ex hb4
  refine aw_callV C (ci := 5) (b := j3) [.int (0 : Int32)] mv_X1_50 rfl rfl hf6 (rmX5_cutTo hr5) rfl dX1_find_10 (Nat.le_of_ble_eq_true rfl) (Nat.le_of_ble_eq_true rfl) rfl (Nat.le_of_ble_eq_true rfl) (show 0 + 0 ≤ 0 by omega) (show 0 + 0 ≤ 0 by omega) (fun v9 f9 n9 hh => ?_)
  obtain ⟨rfl, rfl, rfl⟩ := hh
  refine aw_ald_n C dX1_find_13 rfl ?_
  obtain ⟨x7, hx7, h⟩ := Option.bind_eq_some_iff.mp h
  refine ah_getR C gf_X1_20 hx7 dX1_find_14 ?_
  refine aw_iconst C 0 dX1_find_17 ki_0 ?_
  obtain ⟨j8, hj8, h⟩ := Option.bind_eq_some_iff.mp h
  rw [hj8]
  obtain ⟨hb9, h⟩ := ck_some h
  obtain ⟨r10, hr10, h⟩ := Option.bind_eq_some_iff.mp h
  obtain ⟨fs11, hf11⟩ := isO_ex hb9
  refine aw_callV C (ci := 5) (b := j8) [.int (0 : Int32)] mv_X1_50 rfl rfl hf11 (rmX5_cutTo hr10) rfl dX1_find_18 (Nat.le_of_ble_eq_true rfl) (Nat.le_of_ble_eq_true rfl) rfl (Nat.le_of_ble_eq_true rfl) (show (0 + 0) + 0 ≤ 0 by omega) (show (0 + 0) + 0 ≤ 0 by omega) (fun v9 f9 n9 hh => ?_)
  obtain ⟨rfl, rfl, rfl⟩ := hh
  refine aw_ald_n C dX1_find_21 rfl ?_
  obtain ⟨x12, hx12, h⟩ := Option.bind_eq_some_iff.mp h
  refine ah_getR C gf_X1_32 hx12 dX1_find_22 ?_
  refine aw_aload_n C dX1_find_25 rfl (rf_or v1) ?_
  refine aw_aload_n C dX1_find_26 rfl (rf_or v2) ?_
  obtain ⟨j13, hj13, h⟩ := Option.bind_eq_some_iff.mp h
  rw [hj13]
  obtain ⟨x14, hx14, h⟩ := Option.bind_eq_some_iff.mp h
  refine ah_getI C gf_X1_53 hx14 dX1_find_27 ?_
  obtain ⟨j15, hj15, h⟩ := Option.bind_eq_some_iff.mp h
  rw [hj15]
  obtain ⟨hb16, h⟩ := ck_some h
  obtain ⟨r17, hr17, h⟩ := Option.bind_eq_some_iff.mp h
  obtain ⟨fs18, hf18⟩ := isO_ex hb16
  refine aw_callV C (ci := 6) (b := j15) [va_rf v1, .int x14] mv_X1_58 rfl rfl hf18 (rmX6_start hr17) rfl dX1_find_30 (Nat.le_of_ble_eq_true rfl) (Nat.le_of_ble_eq_true rfl) rfl (Nat.le_of_ble_eq_true rfl) (show ((0 + 0) + 0) + 0 ≤ 0 by omega) (show ((0 + 0) + 0) + 0 ≤ 0 by omega) (fun v9 f9 n9 hh => ?_)
  obtain ⟨rfl, rfl, rfl⟩ := hh
  refine aw_iconst C 0 dX1_find_33 ki_0 ?_
  refine aw_istore_n C dX1_find_34 (by decide) rfl ?_
  refine aw_nl [some (.ref v0), some (va_rf v1), some (.ref j13), some (.int (0 : Int32)), none] rfl ?_
  refine aw_fl [some (.ref v0), none, some (va_rf (some j13)), some (.int (0 : Int32)), none] ⟨rfl, ⟨rfl, ⟨rfl, trivial⟩⟩⟩ ?_
  exact rmX1_find_l35 C rFU v0 (some j13) (0 : Int32) r17.2.1 r17.2.2 _ _ (by omega) (by omega) h
def mX1_size (v0 : Nat) (f : AH) (n : Nat) : Option (Int32 × HpN) := ((gI f v0 1 3).bind fun x1 => some (x1, (f, n)))
set_option maxHeartbeats 1000000 in
theorem rmX1_size {X : GX} {l : Launch} {r : Int32 × HpN} {v0 : Nat} {f : AH} {n : Nat} (h : mX1_size v0 f n = some r) : AM X l yX1_size cX1_size 1 (some .int) 0 0 0 [.ref v0] f n (QHi r) := by
  have h : ((gI f v0 1 3).bind fun x1 => some (x1, (f, n))) = some r := h
  refine AM.of (by decide +kernel) rfl (Nat.le_of_ble_eq_true rfl) (fun p e s m args below meth c C hnm => ?_)
  refine aw_nl [some (.ref v0)] rfl ?_
  refine aw_ald_n C dX1_size_0 rfl ?_
  obtain ⟨x1, hx1, h⟩ := Option.bind_eq_some_iff.mp h
  refine ah_getI C gf_X1_46 hx1 dX1_size_1 ?_
  cases h
  exact aw_iret C rfl rfl dX1_size_4 (by omega) (by omega) ⟨rfl, rfl, rfl⟩
def mX1_get_b31 (s0 : Option Nat) (f : AH) (n : Nat) : Option (Option Nat × HpN) := some (s0, (f, n))
set_option maxHeartbeats 1000000 in
theorem rmX1_get_b31 {X : GX} {p : Program} {l : Launch} {e : Env} {s : State} {m : MethodId} {args : Array Value} {below : List Frame} {meth : Method} {c : Code} {r : Option Nat × HpN} {s0 : Option Nat} {f : AH} {n cells slots : Nat} (C : CC X p l (RM 0 0 0) s m args meth c RX1 cX1_get 2 (some (.object "PieceFiles$Piece"))) (hc : cells + 0 ≤ 0) (hs : slots + 0 ≤ 0) (h : mX1_get_b31 s0 f n = some r) : AW X p l e (RM 0 0 0) s m args below meth c 2 (ZM X below args s 0 0 (QHr r)) f n cells slots 31 [none, none] [va_rf s0] := by
  have h : some (s0, (f, n)) = some r := h
  cases h
  exact aw_aret C rfl (rf_or _) dX1_get_31 (by omega) (by omega) ⟨rfl, rfl, rfl⟩
def mX1_get_b30 (f : AH) (n : Nat) : Option (Option Nat × HpN) := mX1_get_b31 (none : Option Nat) f n
set_option maxHeartbeats 1000000 in
theorem rmX1_get_b30 {X : GX} {p : Program} {l : Launch} {e : Env} {s : State} {m : MethodId} {args : Array Value} {below : List Frame} {meth : Method} {c : Code} {r : Option Nat × HpN} {f : AH} {n cells slots : Nat} (C : CC X p l (RM 0 0 0) s m args meth c RX1 cX1_get 2 (some (.object "PieceFiles$Piece"))) (hc : cells + 0 ≤ 0) (hs : slots + 0 ≤ 0) (h : mX1_get_b30 f n = some r) : AW X p l e (RM 0 0 0) s m args below meth c 2 (ZM X below args s 0 0 (QHr r)) f n cells slots 30 [none, none] [] := by
  have h : mX1_get_b31 (none : Option Nat) f n = some r := h
  refine aw_null C dX1_get_30 ?_
  refine aw_fl [none, none] trivial ?_
  exact rmX1_get_b31 C (by omega) (by omega) h
def mX1_get (v0 : Nat) (v1 : Int32) (f : AH) (n : Nat) : Option (Option Nat × HpN) := (if v1 < (0 : Int32) then mX1_get_b30 f n else ((gI f v0 1 3).bind fun x1 => (if x1 ≤ v1 then mX1_get_b30 f n else ((gR f v0 1 2).bind fun x2 => ((x2).bind fun j3 => ((gL f j3).bind fun x4 => (if (nI x4) ≤ v1 then mX1_get_b30 f n else ((gR f v0 1 2).bind fun x5 => ((x5).bind fun j6 => ((gRA f j6 v1).bind fun x7 => mX1_get_b31 x7 f n))))))))))
set_option maxHeartbeats 1000000 in
theorem rmX1_get {X : GX} {l : Launch} {r : Option Nat × HpN} {v0 : Nat} {v1 : Int32} {f : AH} {n : Nat} (h : mX1_get v0 v1 f n = some r) : AM X l yX1_get cX1_get 2 (some (.object "PieceFiles$Piece")) 0 0 0 [.ref v0, .int v1] f n (QHr r) := by
  have h : (if v1 < (0 : Int32) then mX1_get_b30 f n else ((gI f v0 1 3).bind fun x1 => (if x1 ≤ v1 then mX1_get_b30 f n else ((gR f v0 1 2).bind fun x2 => ((x2).bind fun j3 => ((gL f j3).bind fun x4 => (if (nI x4) ≤ v1 then mX1_get_b30 f n else ((gR f v0 1 2).bind fun x5 => ((x5).bind fun j6 => ((gRA f j6 v1).bind fun x7 => mX1_get_b31 x7 f n)))))))))) = some r := h
  refine AM.of (by decide +kernel) rfl (Nat.le_of_ble_eq_true rfl) (fun p e s m args below meth c C hnm => ?_)
  refine aw_nl [some (.ref v0), some (.int v1)] rfl ?_
  refine aw_iload_n C dX1_get_0 rfl ?_
  refine aw_if_lt C 30 dX1_get_1 (by decide) (fun q => ?_) (fun q => ?_)
  · rw [if_pos q] at h
    refine aw_fl [none, none] trivial ?_
    exact rmX1_get_b30 C (by omega) (by omega) h
  · rw [if_neg q] at h
    refine aw_iload_n C dX1_get_4 rfl ?_
    refine aw_ald_n C dX1_get_5 rfl ?_
    obtain ⟨x1, hx1, h⟩ := Option.bind_eq_some_iff.mp h
    refine ah_getI C gf_X1_46 hx1 dX1_get_6 ?_
    refine aw_icmp_ge C 30 dX1_get_9 (by decide) (fun q => ?_) (fun q => ?_)
    · rw [if_pos q] at h
      refine aw_fl [none, none] trivial ?_
      exact rmX1_get_b30 C (by omega) (by omega) h
    · rw [if_neg q] at h
      refine aw_iload_n C dX1_get_12 rfl ?_
      refine aw_ald_n C dX1_get_13 rfl ?_
      obtain ⟨x2, hx2, h⟩ := Option.bind_eq_some_iff.mp h
      refine ah_getR C gf_X1_41 hx2 dX1_get_14 ?_
      obtain ⟨j3, hj3, h⟩ := Option.bind_eq_some_iff.mp h
      rw [hj3]
      obtain ⟨x4, hx4, h⟩ := Option.bind_eq_some_iff.mp h
      refine ah_len C hx4 dX1_get_17 ?_
      refine aw_icmp_ge C 30 dX1_get_18 (by decide) (fun q => ?_) (fun q => ?_)
      · rw [if_pos q] at h
        refine aw_fl [none, none] trivial ?_
        exact rmX1_get_b30 C (by omega) (by omega) h
      · rw [if_neg q] at h
        refine aw_ald_n C dX1_get_21 rfl ?_
        obtain ⟨x5, hx5, h⟩ := Option.bind_eq_some_iff.mp h
        refine ah_getR C gf_X1_41 hx5 dX1_get_22 ?_
        refine aw_iload_n C dX1_get_25 rfl ?_
        obtain ⟨j6, hj6, h⟩ := Option.bind_eq_some_iff.mp h
        rw [hj6]
        obtain ⟨x7, hx7, h⟩ := Option.bind_eq_some_iff.mp h
        refine ah_aald C hx7 dX1_get_26 ?_
        refine aw_goto C 31 dX1_get_27 (by decide) ?_
        refine aw_fl [none, none] trivial ?_
        exact rmX1_get_b31 C (by omega) (by omega) h
def mX7_toldFor_b23 (s0 : Option Nat) (f : AH) (n : Nat) : Option (Option Nat × HpN) := some (s0, (f, n))
set_option maxHeartbeats 1000000 in
theorem rmX7_toldFor_b23 {X : GX} {p : Program} {l : Launch} {e : Env} {s : State} {m : MethodId} {args : Array Value} {below : List Frame} {meth : Method} {c : Code} {r : Option Nat × HpN} {s0 : Option Nat} {f : AH} {n cells slots : Nat} (C : CC X p l (RM 0 0 0) s m args meth c RX7 cX7_toldFor 2 (some (.object "PieceFiles$Row"))) (hc : cells + 0 ≤ 0) (hs : slots + 0 ≤ 0) (h : mX7_toldFor_b23 s0 f n = some r) : AW X p l e (RM 0 0 0) s m args below meth c 2 (ZM X below args s 0 0 (QHr r)) f n cells slots 23 [none, none] [va_rf s0] := by
  have h : some (s0, (f, n)) = some r := h
  cases h
  exact aw_aret C rfl (rf_or _) dX7_toldFor_23 (by omega) (by omega) ⟨rfl, rfl, rfl⟩
def mX7_toldFor_b22 (f : AH) (n : Nat) : Option (Option Nat × HpN) := mX7_toldFor_b23 (none : Option Nat) f n
set_option maxHeartbeats 1000000 in
theorem rmX7_toldFor_b22 {X : GX} {p : Program} {l : Launch} {e : Env} {s : State} {m : MethodId} {args : Array Value} {below : List Frame} {meth : Method} {c : Code} {r : Option Nat × HpN} {f : AH} {n cells slots : Nat} (C : CC X p l (RM 0 0 0) s m args meth c RX7 cX7_toldFor 2 (some (.object "PieceFiles$Row"))) (hc : cells + 0 ≤ 0) (hs : slots + 0 ≤ 0) (h : mX7_toldFor_b22 f n = some r) : AW X p l e (RM 0 0 0) s m args below meth c 2 (ZM X below args s 0 0 (QHr r)) f n cells slots 22 [none, none] [] := by
  have h : mX7_toldFor_b23 (none : Option Nat) f n = some r := h
  refine aw_null C dX7_toldFor_22 ?_
  refine aw_fl [none, none] trivial ?_
  exact rmX7_toldFor_b23 C (by omega) (by omega) h
def mX7_toldFor (v0 : Nat) (v1 : Int32) (f : AH) (n : Nat) : Option (Option Nat × HpN) := (if v1 < (0 : Int32) then mX7_toldFor_b22 f n else ((gR f v0 7 9).bind fun x1 => ((x1).bind fun j2 => ((gL f j2).bind fun x3 => (if (nI x3) ≤ v1 then mX7_toldFor_b22 f n else ((gR f v0 7 9).bind fun x4 => ((x4).bind fun j5 => ((gRA f j5 v1).bind fun x6 => mX7_toldFor_b23 x6 f n))))))))
set_option maxHeartbeats 1000000 in
theorem rmX7_toldFor {X : GX} {l : Launch} {r : Option Nat × HpN} {v0 : Nat} {v1 : Int32} {f : AH} {n : Nat} (h : mX7_toldFor v0 v1 f n = some r) : AM X l yX7_toldFor cX7_toldFor 2 (some (.object "PieceFiles$Row")) 0 0 0 [.ref v0, .int v1] f n (QHr r) := by
  have h : (if v1 < (0 : Int32) then mX7_toldFor_b22 f n else ((gR f v0 7 9).bind fun x1 => ((x1).bind fun j2 => ((gL f j2).bind fun x3 => (if (nI x3) ≤ v1 then mX7_toldFor_b22 f n else ((gR f v0 7 9).bind fun x4 => ((x4).bind fun j5 => ((gRA f j5 v1).bind fun x6 => mX7_toldFor_b23 x6 f n)))))))) = some r := h
  refine AM.of (by decide +kernel) rfl (Nat.le_of_ble_eq_true rfl) (fun p e s m args below meth c C hnm => ?_)
  refine aw_nl [some (.ref v0), some (.int v1)] rfl ?_
  refine aw_iload_n C dX7_toldFor_0 rfl ?_
  refine aw_if_lt C 22 dX7_toldFor_1 (by decide) (fun q => ?_) (fun q => ?_)
  · rw [if_pos q] at h
    refine aw_fl [none, none] trivial ?_
    exact rmX7_toldFor_b22 C (by omega) (by omega) h
  · rw [if_neg q] at h
    refine aw_iload_n C dX7_toldFor_4 rfl ?_
    refine aw_ald_n C dX7_toldFor_5 rfl ?_
    obtain ⟨x1, hx1, h⟩ := Option.bind_eq_some_iff.mp h
    refine ah_getR C gf_X7_34 hx1 dX7_toldFor_6 ?_
    obtain ⟨j2, hj2, h⟩ := Option.bind_eq_some_iff.mp h
    rw [hj2]
    obtain ⟨x3, hx3, h⟩ := Option.bind_eq_some_iff.mp h
    refine ah_len C hx3 dX7_toldFor_9 ?_
    refine aw_icmp_ge C 22 dX7_toldFor_10 (by decide) (fun q => ?_) (fun q => ?_)
    · rw [if_pos q] at h
      refine aw_fl [none, none] trivial ?_
      exact rmX7_toldFor_b22 C (by omega) (by omega) h
    · rw [if_neg q] at h
      refine aw_ald_n C dX7_toldFor_13 rfl ?_
      obtain ⟨x4, hx4, h⟩ := Option.bind_eq_some_iff.mp h
      refine ah_getR C gf_X7_34 hx4 dX7_toldFor_14 ?_
      refine aw_iload_n C dX7_toldFor_17 rfl ?_
      obtain ⟨j5, hj5, h⟩ := Option.bind_eq_some_iff.mp h
      rw [hj5]
      obtain ⟨x6, hx6, h⟩ := Option.bind_eq_some_iff.mp h
      refine ah_aald C hx6 dX7_toldFor_18 ?_
      refine aw_goto C 23 dX7_toldFor_19 (by decide) ?_
      refine aw_fl [none, none] trivial ?_
      exact rmX7_toldFor_b23 C (by omega) (by omega) h
def mX5_breaksCell_b60 (f : AH) (n : Nat) : Option (Int32 × HpN) := rCk (rNb (0 : Int32)) (some ((0 : Int32), (f, n)))
set_option maxHeartbeats 1000000 in
theorem rmX5_breaksCell_b60 {X : GX} {p : Program} {l : Launch} {e : Env} {s : State} {m : MethodId} {args : Array Value} {below : List Frame} {meth : Method} {c : Code} {r : Int32 × HpN} {f : AH} {n cells slots : Nat} (C : CC X p l (RM 0 0 0) s m args meth c RX5 cX5_breaksCell 2 (some .boolean)) (hc : cells + 0 ≤ 0) (hs : slots + 0 ≤ 0) (h : mX5_breaksCell_b60 f n = some r) : AW X p l e (RM 0 0 0) s m args below meth c 2 (ZM X below args s 0 0 (QHi r)) f n cells slots 60 [none, none] [] := by
  have h : rCk (rNb (0 : Int32)) (some ((0 : Int32), (f, n))) = some r := h
  refine aw_iconst C 0 dX5_breaksCell_60 ki_0 ?_
  obtain ⟨hb1, h⟩ := ck_some h
  cases h
  exact aw_iret C rfl (nb_nar hb1) dX5_breaksCell_61 (by omega) (by omega) ⟨rfl, rfl, rfl⟩
def mX5_breaksCell_b52 (f : AH) (n : Nat) : Option (Int32 × HpN) := rCk (rNb (1 : Int32)) (some ((1 : Int32), (f, n)))
set_option maxHeartbeats 1000000 in
theorem rmX5_breaksCell_b52 {X : GX} {p : Program} {l : Launch} {e : Env} {s : State} {m : MethodId} {args : Array Value} {below : List Frame} {meth : Method} {c : Code} {r : Int32 × HpN} {f : AH} {n cells slots : Nat} (C : CC X p l (RM 0 0 0) s m args meth c RX5 cX5_breaksCell 2 (some .boolean)) (hc : cells + 0 ≤ 0) (hs : slots + 0 ≤ 0) (h : mX5_breaksCell_b52 f n = some r) : AW X p l e (RM 0 0 0) s m args below meth c 2 (ZM X below args s 0 0 (QHi r)) f n cells slots 52 [none, none] [] := by
  have h : rCk (rNb (1 : Int32)) (some ((1 : Int32), (f, n))) = some r := h
  refine aw_iconst C 1 dX5_breaksCell_52 ki_1 ?_
  obtain ⟨hb1, h⟩ := ck_some h
  cases h
  exact aw_iret C rfl (nb_nar hb1) dX5_breaksCell_53 (by omega) (by omega) ⟨rfl, rfl, rfl⟩
def mX5_breaksCell_l2 : Nat → Nat → Int32 → AH → Nat → Option (Int32 × HpN)
  | 0, _, _, _, _ => none
  | d + 1, v0, v1, f, n => ((gI f v0 5 1).bind fun x1 => (if x1 ≤ v1 then mX5_breaksCell_b60 f n else ((gR f v0 5 0).bind fun x2 => ((x2).bind fun j3 => ((gL f j3).bind fun x4 => (if (nI x4) ≤ v1 then mX5_breaksCell_b60 f n else ((gR f v0 5 0).bind fun x5 => ((x5).bind fun j6 => ((gIA f j6 v1).bind fun x7 => (if x7 = (44 : Int32) then mX5_breaksCell_b52 f n else ((gR f v0 5 0).bind fun x8 => ((x8).bind fun j9 => ((gIA f j9 v1).bind fun x10 => (if x10 = (34 : Int32) then mX5_breaksCell_b52 f n else ((gR f v0 5 0).bind fun x11 => ((x11).bind fun j12 => ((gIA f j12 v1).bind fun x13 => (if x13 = (10 : Int32) then mX5_breaksCell_b52 f n else mX5_breaksCell_l2 d v0 (v1 + (1 : Int32)) f n))))))))))))))))))
set_option maxHeartbeats 1000000 in
theorem rmX5_breaksCell_l2 {X : GX} {p : Program} {l : Launch} {e : Env} {s : State} {m : MethodId} {args : Array Value} {below : List Frame} {meth : Method} {c : Code} {r : Int32 × HpN} (C : CC X p l (RM 0 0 0) s m args meth c RX5 cX5_breaksCell 2 (some .boolean)) : ∀ (d : Nat) (v0 : Nat) (v1 : Int32) (f : AH) (n cells slots : Nat) (_ : cells + 0 ≤ 0) (_ : slots + 0 ≤ 0) (_ : mX5_breaksCell_l2 d v0 v1 f n = some r), AW X p l e (RM 0 0 0) s m args below meth c 2 (ZM X below args s 0 0 (QHi r)) f n cells slots 2 [some (.ref v0), some (.int v1)] [] := by
  intro d
  induction d with
  | zero =>
    intro v0 v1 f n cells slots hc hs h
    exact nomatch (show (none : Option (Int32 × HpN)) = some r from h)
  | succ d ih =>
    intro v0 v1 f n cells slots hc hs h
    have h : ((gI f v0 5 1).bind fun x1 => (if x1 ≤ v1 then mX5_breaksCell_b60 f n else ((gR f v0 5 0).bind fun x2 => ((x2).bind fun j3 => ((gL f j3).bind fun x4 => (if (nI x4) ≤ v1 then mX5_breaksCell_b60 f n else ((gR f v0 5 0).bind fun x5 => ((x5).bind fun j6 => ((gIA f j6 v1).bind fun x7 => (if x7 = (44 : Int32) then mX5_breaksCell_b52 f n else ((gR f v0 5 0).bind fun x8 => ((x8).bind fun j9 => ((gIA f j9 v1).bind fun x10 => (if x10 = (34 : Int32) then mX5_breaksCell_b52 f n else ((gR f v0 5 0).bind fun x11 => ((x11).bind fun j12 => ((gIA f j12 v1).bind fun x13 => (if x13 = (10 : Int32) then mX5_breaksCell_b52 f n else mX5_breaksCell_l2 d v0 (v1 + (1 : Int32)) f n)))))))))))))))))) = some r := h
    refine aw_iload_n C dX5_breaksCell_2 rfl ?_
    refine aw_ald_n C dX5_breaksCell_3 rfl ?_
    obtain ⟨x1, hx1, h⟩ := Option.bind_eq_some_iff.mp h
    refine ah_getI C gf_X5_15 hx1 dX5_breaksCell_4 ?_
    refine aw_icmp_ge C 60 dX5_breaksCell_7 (by decide) (fun q => ?_) (fun q => ?_)
    · rw [if_pos q] at h
      refine aw_fl [none, none] trivial ?_
      exact rmX5_breaksCell_b60 C (by omega) (by omega) h
    · rw [if_neg q] at h
      refine aw_iload_n C dX5_breaksCell_10 rfl ?_
      refine aw_ald_n C dX5_breaksCell_11 rfl ?_
      obtain ⟨x2, hx2, h⟩ := Option.bind_eq_some_iff.mp h
      refine ah_getR C gf_X5_9 hx2 dX5_breaksCell_12 ?_
      obtain ⟨j3, hj3, h⟩ := Option.bind_eq_some_iff.mp h
      rw [hj3]
      obtain ⟨x4, hx4, h⟩ := Option.bind_eq_some_iff.mp h
      refine ah_len C hx4 dX5_breaksCell_15 ?_
      refine aw_icmp_ge C 60 dX5_breaksCell_16 (by decide) (fun q => ?_) (fun q => ?_)
      · rw [if_pos q] at h
        refine aw_fl [none, none] trivial ?_
        exact rmX5_breaksCell_b60 C (by omega) (by omega) h
      · rw [if_neg q] at h
        refine aw_ald_n C dX5_breaksCell_19 rfl ?_
        obtain ⟨x5, hx5, h⟩ := Option.bind_eq_some_iff.mp h
        refine ah_getR C gf_X5_9 hx5 dX5_breaksCell_20 ?_
        refine aw_iload_n C dX5_breaksCell_23 rfl ?_
        obtain ⟨j6, hj6, h⟩ := Option.bind_eq_some_iff.mp h
        rw [hj6]
        obtain ⟨x7, hx7, h⟩ := Option.bind_eq_some_iff.mp h
        refine ah_iald C hx7 dX5_breaksCell_24 ?_
        refine aw_bipush C 44 dX5_breaksCell_25 kb_44 ?_
        refine aw_icmp_eq C 52 dX5_breaksCell_27 (by decide) (fun q => ?_) (fun q => ?_)
        · rw [if_pos q] at h
          refine aw_fl [none, none] trivial ?_
          exact rmX5_breaksCell_b52 C (by omega) (by omega) h
        · rw [if_neg q] at h
          refine aw_ald_n C dX5_breaksCell_30 rfl ?_
          obtain ⟨x8, hx8, h⟩ := Option.bind_eq_some_iff.mp h
          refine ah_getR C gf_X5_9 hx8 dX5_breaksCell_31 ?_
          refine aw_iload_n C dX5_breaksCell_34 rfl ?_
          obtain ⟨j9, hj9, h⟩ := Option.bind_eq_some_iff.mp h
          rw [hj9]
          obtain ⟨x10, hx10, h⟩ := Option.bind_eq_some_iff.mp h
          refine ah_iald C hx10 dX5_breaksCell_35 ?_
          refine aw_bipush C 34 dX5_breaksCell_36 kb_34 ?_
          refine aw_icmp_eq C 52 dX5_breaksCell_38 (by decide) (fun q => ?_) (fun q => ?_)
          · rw [if_pos q] at h
            refine aw_fl [none, none] trivial ?_
            exact rmX5_breaksCell_b52 C (by omega) (by omega) h
          · rw [if_neg q] at h
            refine aw_ald_n C dX5_breaksCell_41 rfl ?_
            obtain ⟨x11, hx11, h⟩ := Option.bind_eq_some_iff.mp h
            refine ah_getR C gf_X5_9 hx11 dX5_breaksCell_42 ?_
            refine aw_iload_n C dX5_breaksCell_45 rfl ?_
            obtain ⟨j12, hj12, h⟩ := Option.bind_eq_some_iff.mp h
            rw [hj12]
            obtain ⟨x13, hx13, h⟩ := Option.bind_eq_some_iff.mp h
            refine ah_iald C hx13 dX5_breaksCell_46 ?_
            refine aw_bipush C 10 dX5_breaksCell_47 kb_10 ?_
            refine aw_icmp_ne C 54 dX5_breaksCell_49 (by decide) (fun q => ?_) (fun q => ?_)
            · rw [if_neg q] at h
              refine aw_iinc C (v1 + (1 : Int32)) dX5_breaksCell_54 rfl (by rw [ki_1]) (by decide) rfl ?_
              refine aw_nl [some (.ref v0), some (.int (v1 + (1 : Int32)))] rfl ?_
              refine aw_goto C 2 dX5_breaksCell_57 (by decide) ?_
              refine aw_fl [some (.ref v0), some (.int (v1 + (1 : Int32)))] ⟨rfl, ⟨rfl, trivial⟩⟩ ?_
              exact ih v0 (v1 + (1 : Int32)) f n _ _ (by omega) (by omega) h
            · rw [if_pos q] at h
              refine aw_fl [none, none] trivial ?_
              exact rmX5_breaksCell_b52 C (by omega) (by omega) h
def mX5_breaksCell (v0 : Nat) (f : AH) (n : Nat) : Option (Int32 × HpN) := mX5_breaksCell_l2 rFU v0 (0 : Int32) f n
set_option maxHeartbeats 1000000 in
theorem rmX5_breaksCell {X : GX} {l : Launch} {r : Int32 × HpN} {v0 : Nat} {f : AH} {n : Nat} (h : mX5_breaksCell v0 f n = some r) : AM X l yX5_breaksCell cX5_breaksCell 2 (some .boolean) 0 0 0 [.ref v0] f n (QHi r) := by
  have h : mX5_breaksCell_l2 rFU v0 (0 : Int32) f n = some r := h
  refine AM.of (by decide +kernel) rfl (Nat.le_of_ble_eq_true rfl) (fun p e s m args below meth c C hnm => ?_)
  refine aw_nl [some (.ref v0), none] rfl ?_
  refine aw_iconst C 0 dX5_breaksCell_0 ki_0 ?_
  refine aw_istore_n C dX5_breaksCell_1 (by decide) rfl ?_
  refine aw_nl [some (.ref v0), some (.int (0 : Int32))] rfl ?_
  refine aw_fl [some (.ref v0), some (.int (0 : Int32))] ⟨rfl, ⟨rfl, trivial⟩⟩ ?_
  exact rmX5_breaksCell_l2 C rFU v0 (0 : Int32) f n _ _ (by omega) (by omega) h
def mX0_addInLine_b59 (s0 : Option Nat) (s1 : Int32) (f : AH) (n : Nat) : Option (Int32 × HpN) := ((s0).bind fun j1 => rCk (isO f j1 5) (((mX5_add j1 s1 f n).bind fun r3 => some ((0 : Int32), (r3.2.1, r3.2.2)))))
set_option maxHeartbeats 1000000 in
theorem rmX0_addInLine_b59 {X : GX} {p : Program} {l : Launch} {e : Env} {s : State} {m : MethodId} {args : Array Value} {below : List Frame} {meth : Method} {c : Code} {r : Int32 × HpN} {s0 : Option Nat} {s1 : Int32} {f : AH} {n cells slots : Nat} (C : CC X p l (RM 1 0 0) s m args meth c RX0 cX0_addInLine 3 none) (hc : cells + 0 ≤ 0) (hs : slots + 0 ≤ 0) (h : mX0_addInLine_b59 s0 s1 f n = some r) : AW X p l e (RM 1 0 0) s m args below meth c 3 (ZM X below args s 0 0 (QHv r)) f n cells slots 59 [none, none, none] [.int s1, va_rf s0] := by
  have h : ((s0).bind fun j1 => rCk (isO f j1 5) (((mX5_add j1 s1 f n).bind fun r3 => some ((0 : Int32), (r3.2.1, r3.2.2))))) = some r := h
  obtain ⟨j1, hj1, h⟩ := Option.bind_eq_some_iff.mp h
  rw [hj1]
  obtain ⟨hb2, h⟩ := ck_some h
  obtain ⟨r3, hr3, h⟩ := Option.bind_eq_some_iff.mp h
  obtain ⟨fs4, hf4⟩ := isO_ex hb2
  refine aw_callV C (ci := 5) (b := j1) [.int s1] mv_X0_93 rfl rfl hf4 (rmX5_add hr3) rfl dX0_addInLine_59 (Nat.le_of_ble_eq_true rfl) (Nat.le_of_ble_eq_true rfl) rfl (Nat.le_of_ble_eq_true rfl) (show cells + 0 ≤ 0 by omega) (show slots + 0 ≤ 0 by omega) (fun v9 f9 n9 hh => ?_)
  obtain ⟨rfl, rfl, rfl⟩ := hh
  refine aw_pop C dX0_addInLine_62 rfl ?_
  cases h
  exact aw_vret C rfl dX0_addInLine_63 (by omega) (by omega) ⟨rfl, rfl, rfl⟩
def mX0_addInLine_b35 (v0 : Int32) (v1 : Option Nat) (f : AH) (n : Nat) : Option (Int32 × HpN) := (if v0 = (10 : Int32) then mX0_addInLine_b59 v1 (110 : Int32) f n else (if v0 = (9 : Int32) then mX0_addInLine_b59 v1 (116 : Int32) f n else mX0_addInLine_b59 v1 v0 f n))
set_option maxHeartbeats 1000000 in
theorem rmX0_addInLine_b35 {X : GX} {p : Program} {l : Launch} {e : Env} {s : State} {m : MethodId} {args : Array Value} {below : List Frame} {meth : Method} {c : Code} {r : Int32 × HpN} {v0 : Int32} {v1 : Option Nat} {f : AH} {n cells slots : Nat} (C : CC X p l (RM 1 0 0) s m args meth c RX0 cX0_addInLine 3 none) (hc : cells + 0 ≤ 0) (hs : slots + 0 ≤ 0) (h : mX0_addInLine_b35 v0 v1 f n = some r) : AW X p l e (RM 1 0 0) s m args below meth c 3 (ZM X below args s 0 0 (QHv r)) f n cells slots 35 [some (.int v0), some (va_rf v1), none] [] := by
  have h : (if v0 = (10 : Int32) then mX0_addInLine_b59 v1 (110 : Int32) f n else (if v0 = (9 : Int32) then mX0_addInLine_b59 v1 (116 : Int32) f n else mX0_addInLine_b59 v1 v0 f n)) = some r := h
  refine aw_aload_n C dX0_addInLine_35 rfl (rf_or v1) ?_
  refine aw_iload_n C dX0_addInLine_36 rfl ?_
  refine aw_bipush C 10 dX0_addInLine_37 kb_10 ?_
  refine aw_icmp_ne C 47 dX0_addInLine_39 (by decide) (fun q => ?_) (fun q => ?_)
  · rw [if_neg q] at h
    refine aw_iload_n C dX0_addInLine_47 rfl ?_
    refine aw_bipush C 9 dX0_addInLine_48 kb_9 ?_
    refine aw_icmp_ne C 58 dX0_addInLine_50 (by decide) (fun q => ?_) (fun q => ?_)
    · rw [if_neg q] at h
      refine aw_iload_n C dX0_addInLine_58 rfl ?_
      refine aw_fl [none, none, none] trivial ?_
      exact rmX0_addInLine_b59 C (by omega) (by omega) h
    · rw [if_pos q] at h
      refine aw_bipush C 116 dX0_addInLine_53 kb_116 ?_
      refine aw_goto C 59 dX0_addInLine_55 (by decide) ?_
      refine aw_fl [none, none, none] trivial ?_
      exact rmX0_addInLine_b59 C (by omega) (by omega) h
  · rw [if_pos q] at h
    refine aw_bipush C 110 dX0_addInLine_42 kb_110 ?_
    refine aw_goto C 59 dX0_addInLine_44 (by decide) ?_
    refine aw_fl [none, none, none] trivial ?_
    exact rmX0_addInLine_b59 C (by omega) (by omega) h
def mX0_addInLine_b28 (v0 : Int32) (v1 : Option Nat) (f : AH) (n : Nat) : Option (Int32 × HpN) := ((v1).bind fun j1 => rCk (isO f j1 5) (((mX5_add j1 (92 : Int32) f n).bind fun r3 => mX0_addInLine_b35 v0 (some j1) r3.2.1 r3.2.2)))
set_option maxHeartbeats 1000000 in
theorem rmX0_addInLine_b28 {X : GX} {p : Program} {l : Launch} {e : Env} {s : State} {m : MethodId} {args : Array Value} {below : List Frame} {meth : Method} {c : Code} {r : Int32 × HpN} {v0 : Int32} {v1 : Option Nat} {f : AH} {n cells slots : Nat} (C : CC X p l (RM 1 0 0) s m args meth c RX0 cX0_addInLine 3 none) (hc : cells + 0 ≤ 0) (hs : slots + 0 ≤ 0) (h : mX0_addInLine_b28 v0 v1 f n = some r) : AW X p l e (RM 1 0 0) s m args below meth c 3 (ZM X below args s 0 0 (QHv r)) f n cells slots 28 [some (.int v0), some (va_rf v1), none] [] := by
  have h : ((v1).bind fun j1 => rCk (isO f j1 5) (((mX5_add j1 (92 : Int32) f n).bind fun r3 => mX0_addInLine_b35 v0 (some j1) r3.2.1 r3.2.2))) = some r := h
  refine aw_aload_n C dX0_addInLine_28 rfl (rf_or v1) ?_
  refine aw_bipush C 92 dX0_addInLine_29 kb_92 ?_
  obtain ⟨j1, hj1, h⟩ := Option.bind_eq_some_iff.mp h
  rw [hj1]
  obtain ⟨hb2, h⟩ := ck_some h
  obtain ⟨r3, hr3, h⟩ := Option.bind_eq_some_iff.mp h
  obtain ⟨fs4, hf4⟩ := isO_ex hb2
  refine aw_callV C (ci := 5) (b := j1) [.int (92 : Int32)] mv_X0_93 rfl rfl hf4 (rmX5_add hr3) rfl dX0_addInLine_31 (Nat.le_of_ble_eq_true rfl) (Nat.le_of_ble_eq_true rfl) rfl (Nat.le_of_ble_eq_true rfl) (show cells + 0 ≤ 0 by omega) (show slots + 0 ≤ 0 by omega) (fun v9 f9 n9 hh => ?_)
  obtain ⟨rfl, rfl, rfl⟩ := hh
  refine aw_pop C dX0_addInLine_34 rfl ?_
  refine aw_fl [some (.int v0), some (va_rf (some j1)), none] ⟨rfl, ⟨rfl, trivial⟩⟩ ?_
  exact rmX0_addInLine_b35 C (by omega) (by omega) h
def mX0_addInLine (v0 : Int32) (v1 : Option Nat) (v2 : Int32) (f : AH) (n : Nat) : Option (Int32 × HpN) := (if v0 = (92 : Int32) then mX0_addInLine_b28 v0 v1 f n else (if v0 = (10 : Int32) then mX0_addInLine_b28 v0 v1 f n else (if v0 = (9 : Int32) then mX0_addInLine_b28 v0 v1 f n else (if v0 = (32 : Int32) then (if v2 = (0 : Int32) then mX0_addInLine_b35 v0 v1 f n else mX0_addInLine_b28 v0 v1 f n) else mX0_addInLine_b35 v0 v1 f n))))
set_option maxHeartbeats 1000000 in
theorem rmX0_addInLine {X : GX} {l : Launch} {r : Int32 × HpN} {v0 : Int32} {v1 : Option Nat} {v2 : Int32} {f : AH} {n : Nat} (h : mX0_addInLine v0 v1 v2 f n = some r) : AM X l yX0_addInLine cX0_addInLine 3 none 1 0 0 [.int v0, va_rf v1, .int v2] f n (QHv r) := by
  have h : (if v0 = (92 : Int32) then mX0_addInLine_b28 v0 v1 f n else (if v0 = (10 : Int32) then mX0_addInLine_b28 v0 v1 f n else (if v0 = (9 : Int32) then mX0_addInLine_b28 v0 v1 f n else (if v0 = (32 : Int32) then (if v2 = (0 : Int32) then mX0_addInLine_b35 v0 v1 f n else mX0_addInLine_b28 v0 v1 f n) else mX0_addInLine_b35 v0 v1 f n)))) = some r := h
  refine AM.of (by decide +kernel) (all1 rfl (all1 (rf_cat _) (all1 rfl rfl))) (Nat.le_of_ble_eq_true rfl) (fun p e s m args below meth c C hnm => ?_)
  refine aw_nl [some (.int v0), some (va_rf v1), some (.int v2)] rfl ?_
  refine aw_iload_n C dX0_addInLine_0 rfl ?_
  refine aw_bipush C 92 dX0_addInLine_1 kb_92 ?_
  refine aw_icmp_eq C 28 dX0_addInLine_3 (by decide) (fun q => ?_) (fun q => ?_)
  · rw [if_pos q] at h
    refine aw_fl [some (.int v0), some (va_rf v1), none] ⟨rfl, ⟨rfl, trivial⟩⟩ ?_
    exact rmX0_addInLine_b28 C (by omega) (by omega) h
  · rw [if_neg q] at h
    refine aw_iload_n C dX0_addInLine_6 rfl ?_
    refine aw_bipush C 10 dX0_addInLine_7 kb_10 ?_
    refine aw_icmp_eq C 28 dX0_addInLine_9 (by decide) (fun q => ?_) (fun q => ?_)
    · rw [if_pos q] at h
      refine aw_fl [some (.int v0), some (va_rf v1), none] ⟨rfl, ⟨rfl, trivial⟩⟩ ?_
      exact rmX0_addInLine_b28 C (by omega) (by omega) h
    · rw [if_neg q] at h
      refine aw_iload_n C dX0_addInLine_12 rfl ?_
      refine aw_bipush C 9 dX0_addInLine_13 kb_9 ?_
      refine aw_icmp_eq C 28 dX0_addInLine_15 (by decide) (fun q => ?_) (fun q => ?_)
      · rw [if_pos q] at h
        refine aw_fl [some (.int v0), some (va_rf v1), none] ⟨rfl, ⟨rfl, trivial⟩⟩ ?_
        exact rmX0_addInLine_b28 C (by omega) (by omega) h
      · rw [if_neg q] at h
        refine aw_iload_n C dX0_addInLine_18 rfl ?_
        refine aw_bipush C 32 dX0_addInLine_19 kb_32 ?_
        refine aw_icmp_ne C 35 dX0_addInLine_21 (by decide) (fun q => ?_) (fun q => ?_)
        · rw [if_neg q] at h
          refine aw_fl [some (.int v0), some (va_rf v1), none] ⟨rfl, ⟨rfl, trivial⟩⟩ ?_
          exact rmX0_addInLine_b35 C (by omega) (by omega) h
        · rw [if_pos q] at h
          refine aw_iload_n C dX0_addInLine_24 rfl ?_
          refine aw_if_eq C 35 dX0_addInLine_25 (by decide) (fun q => ?_) (fun q => ?_)
          · rw [if_pos q] at h
            refine aw_fl [some (.int v0), some (va_rf v1), none] ⟨rfl, ⟨rfl, trivial⟩⟩ ?_
            exact rmX0_addInLine_b35 C (by omega) (by omega) h
          · rw [if_neg q] at h
            refine aw_fl [some (.int v0), some (va_rf v1), none] ⟨rfl, ⟨rfl, trivial⟩⟩ ?_
            exact rmX0_addInLine_b28 C (by omega) (by omega) h
def mX0_addDoubled_b13 (v0 : Int32) (v1 : Option Nat) (f : AH) (n : Nat) : Option (Int32 × HpN) := ((v1).bind fun j1 => rCk (isO f j1 5) (((mX5_add j1 v0 f n).bind fun r3 => some ((0 : Int32), (r3.2.1, r3.2.2)))))
set_option maxHeartbeats 1000000 in
theorem rmX0_addDoubled_b13 {X : GX} {p : Program} {l : Launch} {e : Env} {s : State} {m : MethodId} {args : Array Value} {below : List Frame} {meth : Method} {c : Code} {r : Int32 × HpN} {v0 : Int32} {v1 : Option Nat} {f : AH} {n cells slots : Nat} (C : CC X p l (RM 1 0 0) s m args meth c RX0 cX0_addDoubled 2 none) (hc : cells + 0 ≤ 0) (hs : slots + 0 ≤ 0) (h : mX0_addDoubled_b13 v0 v1 f n = some r) : AW X p l e (RM 1 0 0) s m args below meth c 2 (ZM X below args s 0 0 (QHv r)) f n cells slots 13 [some (.int v0), some (va_rf v1)] [] := by
  have h : ((v1).bind fun j1 => rCk (isO f j1 5) (((mX5_add j1 v0 f n).bind fun r3 => some ((0 : Int32), (r3.2.1, r3.2.2))))) = some r := h
  refine aw_aload_n C dX0_addDoubled_13 rfl (rf_or v1) ?_
  refine aw_iload_n C dX0_addDoubled_14 rfl ?_
  obtain ⟨j1, hj1, h⟩ := Option.bind_eq_some_iff.mp h
  rw [hj1]
  obtain ⟨hb2, h⟩ := ck_some h
  obtain ⟨r3, hr3, h⟩ := Option.bind_eq_some_iff.mp h
  obtain ⟨fs4, hf4⟩ := isO_ex hb2
  refine aw_callV C (ci := 5) (b := j1) [.int v0] mv_X0_93 rfl rfl hf4 (rmX5_add hr3) rfl dX0_addDoubled_15 (Nat.le_of_ble_eq_true rfl) (Nat.le_of_ble_eq_true rfl) rfl (Nat.le_of_ble_eq_true rfl) (show cells + 0 ≤ 0 by omega) (show slots + 0 ≤ 0 by omega) (fun v9 f9 n9 hh => ?_)
  obtain ⟨rfl, rfl, rfl⟩ := hh
  refine aw_pop C dX0_addDoubled_18 rfl ?_
  cases h
  exact aw_vret C rfl dX0_addDoubled_19 (by omega) (by omega) ⟨rfl, rfl, rfl⟩
def mX0_addDoubled (v0 : Int32) (v1 : Option Nat) (f : AH) (n : Nat) : Option (Int32 × HpN) := (if v0 = (34 : Int32) then ((v1).bind fun j1 => rCk (isO f j1 5) (((mX5_add j1 (34 : Int32) f n).bind fun r3 => mX0_addDoubled_b13 v0 (some j1) r3.2.1 r3.2.2))) else mX0_addDoubled_b13 v0 v1 f n)
set_option maxHeartbeats 1000000 in
theorem rmX0_addDoubled {X : GX} {l : Launch} {r : Int32 × HpN} {v0 : Int32} {v1 : Option Nat} {f : AH} {n : Nat} (h : mX0_addDoubled v0 v1 f n = some r) : AM X l yX0_addDoubled cX0_addDoubled 2 none 1 0 0 [.int v0, va_rf v1] f n (QHv r) := by
  have h : (if v0 = (34 : Int32) then ((v1).bind fun j1 => rCk (isO f j1 5) (((mX5_add j1 (34 : Int32) f n).bind fun r3 => mX0_addDoubled_b13 v0 (some j1) r3.2.1 r3.2.2))) else mX0_addDoubled_b13 v0 v1 f n) = some r := h
  refine AM.of (by decide +kernel) (all1 rfl (all1 (rf_cat _) rfl)) (Nat.le_of_ble_eq_true rfl) (fun p e s m args below meth c C hnm => ?_)
  refine aw_nl [some (.int v0), some (va_rf v1)] rfl ?_
  refine aw_iload_n C dX0_addDoubled_0 rfl ?_
  refine aw_bipush C 34 dX0_addDoubled_1 kb_34 ?_
  refine aw_icmp_ne C 13 dX0_addDoubled_3 (by decide) (fun q => ?_) (fun q => ?_)
  · rw [if_neg q] at h
    refine aw_fl [some (.int v0), some (va_rf v1)] ⟨rfl, ⟨rfl, trivial⟩⟩ ?_
    exact rmX0_addDoubled_b13 C (by omega) (by omega) h
  · rw [if_pos q] at h
    refine aw_aload_n C dX0_addDoubled_6 rfl (rf_or v1) ?_
    refine aw_bipush C 34 dX0_addDoubled_7 kb_34 ?_
    obtain ⟨j1, hj1, h⟩ := Option.bind_eq_some_iff.mp h
    rw [hj1]
    obtain ⟨hb2, h⟩ := ck_some h
    obtain ⟨r3, hr3, h⟩ := Option.bind_eq_some_iff.mp h
    obtain ⟨fs4, hf4⟩ := isO_ex hb2
    refine aw_callV C (ci := 5) (b := j1) [.int (34 : Int32)] mv_X0_93 rfl rfl hf4 (rmX5_add hr3) rfl dX0_addDoubled_9 (Nat.le_of_ble_eq_true rfl) (Nat.le_of_ble_eq_true rfl) rfl (Nat.le_of_ble_eq_true rfl) (show 0 + 0 ≤ 0 by omega) (show 0 + 0 ≤ 0 by omega) (fun v9 f9 n9 hh => ?_)
    obtain ⟨rfl, rfl, rfl⟩ := hh
    refine aw_pop C dX0_addDoubled_12 rfl ?_
    refine aw_fl [some (.int v0), some (va_rf (some j1))] ⟨rfl, ⟨rfl, trivial⟩⟩ ?_
    exact rmX0_addDoubled_b13 C (by omega) (by omega) h
def mX0_addInMarkup_b87 (v1 : Option Nat) (f : AH) (n : Nat) : Option (Int32 × HpN) := ((v1).bind fun j1 => rCk (isO f j1 5) (((mX5_add j1 (59 : Int32) f n).bind fun r3 => some ((0 : Int32), (r3.2.1, r3.2.2)))))
set_option maxHeartbeats 1000000 in
theorem rmX0_addInMarkup_b87 {X : GX} {p : Program} {l : Launch} {e : Env} {s : State} {m : MethodId} {args : Array Value} {below : List Frame} {meth : Method} {c : Code} {r : Int32 × HpN} {v1 : Option Nat} {f : AH} {n cells slots : Nat} (C : CC X p l (RM 1 0 0) s m args meth c RX0 cX0_addInMarkup 2 none) (hc : cells + 0 ≤ 0) (hs : slots + 0 ≤ 0) (h : mX0_addInMarkup_b87 v1 f n = some r) : AW X p l e (RM 1 0 0) s m args below meth c 2 (ZM X below args s 0 0 (QHv r)) f n cells slots 87 [none, some (va_rf v1)] [] := by
  have h : ((v1).bind fun j1 => rCk (isO f j1 5) (((mX5_add j1 (59 : Int32) f n).bind fun r3 => some ((0 : Int32), (r3.2.1, r3.2.2))))) = some r := h
  refine aw_aload_n C dX0_addInMarkup_87 rfl (rf_or v1) ?_
  refine aw_bipush C 59 dX0_addInMarkup_88 kb_59 ?_
  obtain ⟨j1, hj1, h⟩ := Option.bind_eq_some_iff.mp h
  rw [hj1]
  obtain ⟨hb2, h⟩ := ck_some h
  obtain ⟨r3, hr3, h⟩ := Option.bind_eq_some_iff.mp h
  obtain ⟨fs4, hf4⟩ := isO_ex hb2
  refine aw_callV C (ci := 5) (b := j1) [.int (59 : Int32)] mv_X0_93 rfl rfl hf4 (rmX5_add hr3) rfl dX0_addInMarkup_90 (Nat.le_of_ble_eq_true rfl) (Nat.le_of_ble_eq_true rfl) rfl (Nat.le_of_ble_eq_true rfl) (show cells + 0 ≤ 0 by omega) (show slots + 0 ≤ 0 by omega) (fun v9 f9 n9 hh => ?_)
  obtain ⟨rfl, rfl, rfl⟩ := hh
  refine aw_pop C dX0_addInMarkup_93 rfl ?_
  cases h
  exact aw_vret C rfl dX0_addInMarkup_94 (by omega) (by omega) ⟨rfl, rfl, rfl⟩
def mX0_addInMarkup_b76 (v1 : Option Nat) (s0 : Option Nat) (s1 : Int32) (f : AH) (n : Nat) : Option (Int32 × HpN) := ((s0).bind fun j1 => rCk (isO f j1 5) (((mX5_add j1 s1 f n).bind fun r3 => ((v1).bind fun j5 => rCk (isO r3.2.1 j5 5) (((mX5_add j5 (116 : Int32) r3.2.1 r3.2.2).bind fun r7 => mX0_addInMarkup_b87 (some j5) r7.2.1 r7.2.2))))))
set_option maxHeartbeats 1000000 in
theorem rmX0_addInMarkup_b76 {X : GX} {p : Program} {l : Launch} {e : Env} {s : State} {m : MethodId} {args : Array Value} {below : List Frame} {meth : Method} {c : Code} {r : Int32 × HpN} {v1 : Option Nat} {s0 : Option Nat} {s1 : Int32} {f : AH} {n cells slots : Nat} (C : CC X p l (RM 1 0 0) s m args meth c RX0 cX0_addInMarkup 2 none) (hc : cells + 0 ≤ 0) (hs : slots + 0 ≤ 0) (h : mX0_addInMarkup_b76 v1 s0 s1 f n = some r) : AW X p l e (RM 1 0 0) s m args below meth c 2 (ZM X below args s 0 0 (QHv r)) f n cells slots 76 [none, some (va_rf v1)] [.int s1, va_rf s0] := by
  have h : ((s0).bind fun j1 => rCk (isO f j1 5) (((mX5_add j1 s1 f n).bind fun r3 => ((v1).bind fun j5 => rCk (isO r3.2.1 j5 5) (((mX5_add j5 (116 : Int32) r3.2.1 r3.2.2).bind fun r7 => mX0_addInMarkup_b87 (some j5) r7.2.1 r7.2.2)))))) = some r := h
  obtain ⟨j1, hj1, h⟩ := Option.bind_eq_some_iff.mp h
  rw [hj1]
  obtain ⟨hb2, h⟩ := ck_some h
  obtain ⟨r3, hr3, h⟩ := Option.bind_eq_some_iff.mp h
  obtain ⟨fs4, hf4⟩ := isO_ex hb2
  refine aw_callV C (ci := 5) (b := j1) [.int s1] mv_X0_93 rfl rfl hf4 (rmX5_add hr3) rfl dX0_addInMarkup_76 (Nat.le_of_ble_eq_true rfl) (Nat.le_of_ble_eq_true rfl) rfl (Nat.le_of_ble_eq_true rfl) (show cells + 0 ≤ 0 by omega) (show slots + 0 ≤ 0 by omega) (fun v9 f9 n9 hh => ?_)
  obtain ⟨rfl, rfl, rfl⟩ := hh
  refine aw_pop C dX0_addInMarkup_79 rfl ?_
  refine aw_aload_n C dX0_addInMarkup_80 rfl (rf_or v1) ?_
  refine aw_bipush C 116 dX0_addInMarkup_81 kb_116 ?_
  obtain ⟨j5, hj5, h⟩ := Option.bind_eq_some_iff.mp h
  rw [hj5]
  obtain ⟨hb6, h⟩ := ck_some h
  obtain ⟨r7, hr7, h⟩ := Option.bind_eq_some_iff.mp h
  obtain ⟨fs8, hf8⟩ := isO_ex hb6
  refine aw_callV C (ci := 5) (b := j5) [.int (116 : Int32)] mv_X0_93 rfl rfl hf8 (rmX5_add hr7) rfl dX0_addInMarkup_83 (Nat.le_of_ble_eq_true rfl) (Nat.le_of_ble_eq_true rfl) rfl (Nat.le_of_ble_eq_true rfl) (show (cells + 0) + 0 ≤ 0 by omega) (show (slots + 0) + 0 ≤ 0 by omega) (fun v9 f9 n9 hh => ?_)
  obtain ⟨rfl, rfl, rfl⟩ := hh
  refine aw_pop C dX0_addInMarkup_86 rfl ?_
  refine aw_fl [none, some (va_rf (some j5))] ⟨rfl, trivial⟩ ?_
  exact rmX0_addInMarkup_b87 C (by omega) (by omega) h
def mX0_addInMarkup_b25 (v0 : Int32) (v1 : Option Nat) (f : AH) (n : Nat) : Option (Int32 × HpN) := ((v1).bind fun j1 => rCk (isO f j1 5) (((mX5_add j1 (38 : Int32) f n).bind fun r3 => (if v0 = (38 : Int32) then rCk (isO r3.2.1 j1 5) (((mX5_add j1 (97 : Int32) r3.2.1 r3.2.2).bind fun r6 => rCk (isO r6.2.1 j1 5) (((mX5_add j1 (109 : Int32) r6.2.1 r6.2.2).bind fun r9 => rCk (isO r9.2.1 j1 5) (((mX5_add j1 (112 : Int32) r9.2.1 r9.2.2).bind fun r12 => mX0_addInMarkup_b87 (some j1) r12.2.1 r12.2.2)))))) else (if v0 = (60 : Int32) then mX0_addInMarkup_b76 (some j1) (some j1) (108 : Int32) r3.2.1 r3.2.2 else mX0_addInMarkup_b76 (some j1) (some j1) (103 : Int32) r3.2.1 r3.2.2)))))
set_option maxHeartbeats 1000000 in
theorem rmX0_addInMarkup_b25 {X : GX} {p : Program} {l : Launch} {e : Env} {s : State} {m : MethodId} {args : Array Value} {below : List Frame} {meth : Method} {c : Code} {r : Int32 × HpN} {v0 : Int32} {v1 : Option Nat} {f : AH} {n cells slots : Nat} (C : CC X p l (RM 1 0 0) s m args meth c RX0 cX0_addInMarkup 2 none) (hc : cells + 0 ≤ 0) (hs : slots + 0 ≤ 0) (h : mX0_addInMarkup_b25 v0 v1 f n = some r) : AW X p l e (RM 1 0 0) s m args below meth c 2 (ZM X below args s 0 0 (QHv r)) f n cells slots 25 [some (.int v0), some (va_rf v1)] [] := by
  have h : ((v1).bind fun j1 => rCk (isO f j1 5) (((mX5_add j1 (38 : Int32) f n).bind fun r3 => (if v0 = (38 : Int32) then rCk (isO r3.2.1 j1 5) (((mX5_add j1 (97 : Int32) r3.2.1 r3.2.2).bind fun r6 => rCk (isO r6.2.1 j1 5) (((mX5_add j1 (109 : Int32) r6.2.1 r6.2.2).bind fun r9 => rCk (isO r9.2.1 j1 5) (((mX5_add j1 (112 : Int32) r9.2.1 r9.2.2).bind fun r12 => mX0_addInMarkup_b87 (some j1) r12.2.1 r12.2.2)))))) else (if v0 = (60 : Int32) then mX0_addInMarkup_b76 (some j1) (some j1) (108 : Int32) r3.2.1 r3.2.2 else mX0_addInMarkup_b76 (some j1) (some j1) (103 : Int32) r3.2.1 r3.2.2))))) = some r := h
  refine aw_aload_n C dX0_addInMarkup_25 rfl (rf_or v1) ?_
  refine aw_bipush C 38 dX0_addInMarkup_26 kb_38 ?_
  obtain ⟨j1, hj1, h⟩ := Option.bind_eq_some_iff.mp h
  rw [hj1]
  obtain ⟨hb2, h⟩ := ck_some h
  obtain ⟨r3, hr3, h⟩ := Option.bind_eq_some_iff.mp h
  obtain ⟨fs4, hf4⟩ := isO_ex hb2
  refine aw_callV C (ci := 5) (b := j1) [.int (38 : Int32)] mv_X0_93 rfl rfl hf4 (rmX5_add hr3) rfl dX0_addInMarkup_28 (Nat.le_of_ble_eq_true rfl) (Nat.le_of_ble_eq_true rfl) rfl (Nat.le_of_ble_eq_true rfl) (show cells + 0 ≤ 0 by omega) (show slots + 0 ≤ 0 by omega) (fun v9 f9 n9 hh => ?_)
  obtain ⟨rfl, rfl, rfl⟩ := hh
  refine aw_pop C dX0_addInMarkup_31 rfl ?_
  refine aw_iload_n C dX0_addInMarkup_32 rfl ?_
  refine aw_bipush C 38 dX0_addInMarkup_33 kb_38 ?_
  refine aw_icmp_ne C 62 dX0_addInMarkup_35 (by decide) (fun q => ?_) (fun q => ?_)
  · rw [if_neg q] at h
    refine aw_ald_n C dX0_addInMarkup_62 rfl ?_
    refine aw_iload_n C dX0_addInMarkup_63 rfl ?_
    refine aw_bipush C 60 dX0_addInMarkup_64 kb_60 ?_
    refine aw_icmp_ne C 74 dX0_addInMarkup_66 (by decide) (fun q => ?_) (fun q => ?_)
    · rw [if_neg q] at h
      refine aw_bipush C 103 dX0_addInMarkup_74 kb_103 ?_
      refine aw_fl [none, some (va_rf (some j1))] ⟨rfl, trivial⟩ ?_
      exact rmX0_addInMarkup_b76 C (by omega) (by omega) h
    · rw [if_pos q] at h
      refine aw_bipush C 108 dX0_addInMarkup_69 kb_108 ?_
      refine aw_goto C 76 dX0_addInMarkup_71 (by decide) ?_
      refine aw_fl [none, some (va_rf (some j1))] ⟨rfl, trivial⟩ ?_
      exact rmX0_addInMarkup_b76 C (by omega) (by omega) h
  · rw [if_pos q] at h
    refine aw_ald_n C dX0_addInMarkup_38 rfl ?_
    refine aw_bipush C 97 dX0_addInMarkup_39 kb_97 ?_
    obtain ⟨hb5, h⟩ := ck_some h
    obtain ⟨r6, hr6, h⟩ := Option.bind_eq_some_iff.mp h
    obtain ⟨fs7, hf7⟩ := isO_ex hb5
    refine aw_callV C (ci := 5) (b := j1) [.int (97 : Int32)] mv_X0_93 rfl rfl hf7 (rmX5_add hr6) rfl dX0_addInMarkup_41 (Nat.le_of_ble_eq_true rfl) (Nat.le_of_ble_eq_true rfl) rfl (Nat.le_of_ble_eq_true rfl) (show (cells + 0) + 0 ≤ 0 by omega) (show (slots + 0) + 0 ≤ 0 by omega) (fun v9 f9 n9 hh => ?_)
    obtain ⟨rfl, rfl, rfl⟩ := hh
    refine aw_pop C dX0_addInMarkup_44 rfl ?_
    refine aw_ald_n C dX0_addInMarkup_45 rfl ?_
    refine aw_bipush C 109 dX0_addInMarkup_46 kb_109 ?_
    obtain ⟨hb8, h⟩ := ck_some h
    obtain ⟨r9, hr9, h⟩ := Option.bind_eq_some_iff.mp h
    obtain ⟨fs10, hf10⟩ := isO_ex hb8
    refine aw_callV C (ci := 5) (b := j1) [.int (109 : Int32)] mv_X0_93 rfl rfl hf10 (rmX5_add hr9) rfl dX0_addInMarkup_48 (Nat.le_of_ble_eq_true rfl) (Nat.le_of_ble_eq_true rfl) rfl (Nat.le_of_ble_eq_true rfl) (show ((cells + 0) + 0) + 0 ≤ 0 by omega) (show ((slots + 0) + 0) + 0 ≤ 0 by omega) (fun v9 f9 n9 hh => ?_)
    obtain ⟨rfl, rfl, rfl⟩ := hh
    refine aw_pop C dX0_addInMarkup_51 rfl ?_
    refine aw_ald_n C dX0_addInMarkup_52 rfl ?_
    refine aw_bipush C 112 dX0_addInMarkup_53 kb_112 ?_
    obtain ⟨hb11, h⟩ := ck_some h
    obtain ⟨r12, hr12, h⟩ := Option.bind_eq_some_iff.mp h
    obtain ⟨fs13, hf13⟩ := isO_ex hb11
    refine aw_callV C (ci := 5) (b := j1) [.int (112 : Int32)] mv_X0_93 rfl rfl hf13 (rmX5_add hr12) rfl dX0_addInMarkup_55 (Nat.le_of_ble_eq_true rfl) (Nat.le_of_ble_eq_true rfl) rfl (Nat.le_of_ble_eq_true rfl) (show (((cells + 0) + 0) + 0) + 0 ≤ 0 by omega) (show (((slots + 0) + 0) + 0) + 0 ≤ 0 by omega) (fun v9 f9 n9 hh => ?_)
    obtain ⟨rfl, rfl, rfl⟩ := hh
    refine aw_pop C dX0_addInMarkup_58 rfl ?_
    refine aw_goto C 87 dX0_addInMarkup_59 (by decide) ?_
    refine aw_fl [none, some (va_rf (some j1))] ⟨rfl, trivial⟩ ?_
    exact rmX0_addInMarkup_b87 C (by omega) (by omega) h
def mX0_addInMarkup (v0 : Int32) (v1 : Option Nat) (f : AH) (n : Nat) : Option (Int32 × HpN) := (if v0 = (60 : Int32) then mX0_addInMarkup_b25 v0 v1 f n else (if v0 = (62 : Int32) then mX0_addInMarkup_b25 v0 v1 f n else (if v0 = (38 : Int32) then mX0_addInMarkup_b25 v0 v1 f n else ((v1).bind fun j1 => rCk (isO f j1 5) (((mX5_add j1 v0 f n).bind fun r3 => some ((0 : Int32), (r3.2.1, r3.2.2))))))))
set_option maxHeartbeats 1000000 in
theorem rmX0_addInMarkup {X : GX} {l : Launch} {r : Int32 × HpN} {v0 : Int32} {v1 : Option Nat} {f : AH} {n : Nat} (h : mX0_addInMarkup v0 v1 f n = some r) : AM X l yX0_addInMarkup cX0_addInMarkup 2 none 1 0 0 [.int v0, va_rf v1] f n (QHv r) := by
  have h : (if v0 = (60 : Int32) then mX0_addInMarkup_b25 v0 v1 f n else (if v0 = (62 : Int32) then mX0_addInMarkup_b25 v0 v1 f n else (if v0 = (38 : Int32) then mX0_addInMarkup_b25 v0 v1 f n else ((v1).bind fun j1 => rCk (isO f j1 5) (((mX5_add j1 v0 f n).bind fun r3 => some ((0 : Int32), (r3.2.1, r3.2.2)))))))) = some r := h
  refine AM.of (by decide +kernel) (all1 rfl (all1 (rf_cat _) rfl)) (Nat.le_of_ble_eq_true rfl) (fun p e s m args below meth c C hnm => ?_)
  refine aw_nl [some (.int v0), some (va_rf v1)] rfl ?_
  refine aw_iload_n C dX0_addInMarkup_0 rfl ?_
  refine aw_bipush C 60 dX0_addInMarkup_1 kb_60 ?_
  refine aw_icmp_eq C 25 dX0_addInMarkup_3 (by decide) (fun q => ?_) (fun q => ?_)
  · rw [if_pos q] at h
    refine aw_fl [some (.int v0), some (va_rf v1)] ⟨rfl, ⟨rfl, trivial⟩⟩ ?_
    exact rmX0_addInMarkup_b25 C (by omega) (by omega) h
  · rw [if_neg q] at h
    refine aw_iload_n C dX0_addInMarkup_6 rfl ?_
    refine aw_bipush C 62 dX0_addInMarkup_7 kb_62 ?_
    refine aw_icmp_eq C 25 dX0_addInMarkup_9 (by decide) (fun q => ?_) (fun q => ?_)
    · rw [if_pos q] at h
      refine aw_fl [some (.int v0), some (va_rf v1)] ⟨rfl, ⟨rfl, trivial⟩⟩ ?_
      exact rmX0_addInMarkup_b25 C (by omega) (by omega) h
    · rw [if_neg q] at h
      refine aw_iload_n C dX0_addInMarkup_12 rfl ?_
      refine aw_bipush C 38 dX0_addInMarkup_13 kb_38 ?_
      refine aw_icmp_eq C 25 dX0_addInMarkup_15 (by decide) (fun q => ?_) (fun q => ?_)
      · rw [if_pos q] at h
        refine aw_fl [some (.int v0), some (va_rf v1)] ⟨rfl, ⟨rfl, trivial⟩⟩ ?_
        exact rmX0_addInMarkup_b25 C (by omega) (by omega) h
      · rw [if_neg q] at h
        refine aw_aload_n C dX0_addInMarkup_18 rfl (rf_or v1) ?_
        refine aw_iload_n C dX0_addInMarkup_19 rfl ?_
        obtain ⟨j1, hj1, h⟩ := Option.bind_eq_some_iff.mp h
        rw [hj1]
        obtain ⟨hb2, h⟩ := ck_some h
        obtain ⟨r3, hr3, h⟩ := Option.bind_eq_some_iff.mp h
        obtain ⟨fs4, hf4⟩ := isO_ex hb2
        refine aw_callV C (ci := 5) (b := j1) [.int v0] mv_X0_93 rfl rfl hf4 (rmX5_add hr3) rfl dX0_addInMarkup_20 (Nat.le_of_ble_eq_true rfl) (Nat.le_of_ble_eq_true rfl) rfl (Nat.le_of_ble_eq_true rfl) (show 0 + 0 ≤ 0 by omega) (show 0 + 0 ≤ 0 by omega) (fun v9 f9 n9 hh => ?_)
        obtain ⟨rfl, rfl, rfl⟩ := hh
        refine aw_pop C dX0_addInMarkup_23 rfl ?_
        cases h
        exact aw_vret C rfl dX0_addInMarkup_24 (by omega) (by omega) ⟨rfl, rfl, rfl⟩
