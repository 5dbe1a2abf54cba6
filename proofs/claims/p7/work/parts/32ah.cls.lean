def mX0_make_b243 (s0 : Int32) (f : AH) (n : Nat) : Option (Int32 × HpN) := rCk (rNb s0) (some (s0, (f, n)))
set_option maxHeartbeats 1000000 in
theorem rmX0_make_b243 {X : GX} {p : Program} {l : Launch} {e : Env} {s : State} {m : MethodId} {args : Array Value} {below : List Frame} {meth : Method} {c : Code} {r : Int32 × HpN} {s0 : Int32} {f : AH} {n cells slots : Nat} (C : CC X p l (RM 4 0 0) s m args meth c RX0 cX0_make 8 (some .boolean)) (hc : cells + 0 ≤ 0) (hs : slots + 0 ≤ 0) (h : mX0_make_b243 s0 f n = some r) : AW X p l e (RM 4 0 0) s m args below meth c 8 (ZM X below args s 0 0 (QHi r)) f n cells slots 243 [none, none, none, none, none, none, none, none] [.int s0] := by
  have h : rCk (rNb s0) (some (s0, (f, n))) = some r := h
  obtain ⟨hb1, h⟩ := ck_some h
  cases h
  exact aw_iret C rfl (nb_nar hb1) dX0_make_243 (by omega) (by omega) ⟨rfl, rfl, rfl⟩
def mX0_make_b242 (f : AH) (n : Nat) : Option (Int32 × HpN) := mX0_make_b243 (0 : Int32) f n
set_option maxHeartbeats 1000000 in
theorem rmX0_make_b242 {X : GX} {p : Program} {l : Launch} {e : Env} {s : State} {m : MethodId} {args : Array Value} {below : List Frame} {meth : Method} {c : Code} {r : Int32 × HpN} {f : AH} {n cells slots : Nat} (C : CC X p l (RM 4 0 0) s m args meth c RX0 cX0_make 8 (some .boolean)) (hc : cells + 0 ≤ 0) (hs : slots + 0 ≤ 0) (h : mX0_make_b242 f n = some r) : AW X p l e (RM 4 0 0) s m args below meth c 8 (ZM X below args s 0 0 (QHi r)) f n cells slots 242 [none, none, none, none, none, none, none, none] [] := by
  have h : mX0_make_b243 (0 : Int32) f n = some r := h
  refine aw_iconst C 0 dX0_make_242 ki_0 ?_
  refine aw_fl [none, none, none, none, none, none, none, none] trivial ?_
  exact rmX0_make_b243 C (by omega) (by omega) h
def mX0_make_b211 (v0 : Nat) (v1 : Option Nat) (v3 : Int32) (v4 : Int32) (f : AH) (n : Nat) : Option (Int32 × HpN) := (if v4 = (0 : Int32) then mX0_make_b242 f n else ((gR f v0 0 0).bind fun x1 => ((v1).bind fun j2 => ((gR f j2 7 0).bind fun x3 => ((gR f j2 7 0).bind fun x4 => ((x4).bind fun j5 => rCk (isO f j5 5) (((mX5_size j5 f n).bind fun r7 => ((x1).bind fun j9 => rCk (isO r7.2.1 j9 5) (((mX5_addPart j9 x3 v3 r7.1 r7.2.1 r7.2.2).bind fun r11 => (if r11.1 = (0 : Int32) then mX0_make_b242 r11.2.1 r11.2.2 else mX0_make_b243 (1 : Int32) r11.2.1 r11.2.2))))))))))))
set_option maxHeartbeats 1000000 in
theorem rmX0_make_b211 {X : GX} {p : Program} {l : Launch} {e : Env} {s : State} {m : MethodId} {args : Array Value} {below : List Frame} {meth : Method} {c : Code} {r : Int32 × HpN} {v0 : Nat} {v1 : Option Nat} {v3 : Int32} {v4 : Int32} {f : AH} {n cells slots : Nat} (C : CC X p l (RM 4 0 0) s m args meth c RX0 cX0_make 8 (some .boolean)) (hc : cells + 0 ≤ 0) (hs : slots + 0 ≤ 0) (h : mX0_make_b211 v0 v1 v3 v4 f n = some r) : AW X p l e (RM 4 0 0) s m args below meth c 8 (ZM X below args s 0 0 (QHi r)) f n cells slots 211 [some (.ref v0), some (va_rf v1), none, some (.int v3), some (.int v4), none, none, none] [] := by
  have h : (if v4 = (0 : Int32) then mX0_make_b242 f n else ((gR f v0 0 0).bind fun x1 => ((v1).bind fun j2 => ((gR f j2 7 0).bind fun x3 => ((gR f j2 7 0).bind fun x4 => ((x4).bind fun j5 => rCk (isO f j5 5) (((mX5_size j5 f n).bind fun r7 => ((x1).bind fun j9 => rCk (isO r7.2.1 j9 5) (((mX5_addPart j9 x3 v3 r7.1 r7.2.1 r7.2.2).bind fun r11 => (if r11.1 = (0 : Int32) then mX0_make_b242 r11.2.1 r11.2.2 else mX0_make_b243 (1 : Int32) r11.2.1 r11.2.2)))))))))))) = some r := h
  refine aw_iload C dX0_make_211 rfl ?_
  refine aw_if_eq C 242 dX0_make_213 (by decide) (fun q => ?_) (fun q => ?_)
  · rw [if_pos q] at h
    refine aw_fl [none, none, none, none, none, none, none, none] trivial ?_
    exact rmX0_make_b242 C (by omega) (by omega) h
  · rw [if_neg q] at h
    refine aw_ald_n C dX0_make_216 rfl ?_
    obtain ⟨x1, hx1, h⟩ := Option.bind_eq_some_iff.mp h
    refine ah_getR C gf_X0_14 hx1 dX0_make_217 ?_
    refine aw_aload_n C dX0_make_220 rfl (rf_or v1) ?_
    obtain ⟨j2, hj2, h⟩ := Option.bind_eq_some_iff.mp h
    rw [hj2]
    obtain ⟨x3, hx3, h⟩ := Option.bind_eq_some_iff.mp h
    refine ah_getR C gf_X0_39 hx3 dX0_make_221 ?_
    refine aw_iload_n C dX0_make_224 rfl ?_
    refine aw_ald_n C dX0_make_225 rfl ?_
    obtain ⟨x4, hx4, h⟩ := Option.bind_eq_some_iff.mp h
    refine ah_getR C gf_X0_39 hx4 dX0_make_226 ?_
    obtain ⟨j5, hj5, h⟩ := Option.bind_eq_some_iff.mp h
    rw [hj5]
    obtain ⟨hb6, h⟩ := ck_some h
    obtain ⟨r7, hr7, h⟩ := Option.bind_eq_some_iff.mp h
    obtain ⟨fs8, hf8⟩ := isO_ex hb6
    refine aw_callV C (ci := 5) (b := j5) [] mv_X0_57 rfl rfl hf8 (rmX5_size hr7) rfl dX0_make_229 (Nat.le_of_ble_eq_true rfl) (Nat.le_of_ble_eq_true rfl) rfl (cs_1 rfl (cs_1 (rf_cat _) (cs_1 (rf_cat _) cs_0))) (show cells + 0 ≤ 0 by omega) (show slots + 0 ≤ 0 by omega) (fun v9 f9 n9 hh => ?_)
    obtain ⟨rfl, rfl, rfl⟩ := hh
    obtain ⟨j9, hj9, h⟩ := Option.bind_eq_some_iff.mp h
    rw [hj9]
    obtain ⟨hb10, h⟩ := ck_some h
    obtain ⟨r11, hr11, h⟩ := Option.bind_eq_some_iff.mp h
    obtain ⟨fs12, hf12⟩ := isO_ex hb10
    refine aw_callV C (ci := 5) (b := j9) [va_rf x3, .int v3, .int r7.1] mv_X0_50 rfl rfl hf12 (rmX5_addPart hr11) rfl dX0_make_232 (Nat.le_of_ble_eq_true rfl) (Nat.le_of_ble_eq_true rfl) rfl (Nat.le_of_ble_eq_true rfl) (show (cells + 0) + 0 ≤ 0 by omega) (show (slots + 0) + 0 ≤ 0 by omega) (fun v9 f9 n9 hh => ?_)
    obtain ⟨rfl, rfl, rfl⟩ := hh
    refine aw_if_eq C 242 dX0_make_235 (by decide) (fun q => ?_) (fun q => ?_)
    · rw [if_pos q] at h
      refine aw_fl [none, none, none, none, none, none, none, none] trivial ?_
      exact rmX0_make_b242 C (by omega) (by omega) h
    · rw [if_neg q] at h
      refine aw_iconst C 1 dX0_make_238 ki_1 ?_
      refine aw_goto C 243 dX0_make_239 (by decide) ?_
      refine aw_fl [none, none, none, none, none, none, none, none] trivial ?_
      exact rmX0_make_b243 C (by omega) (by omega) h
def mX0_make_b202 (rec16 : Nat → (Option Nat) → (Option Nat) → Int32 → Int32 → Int32 → AH → Nat → Option (Int32 × HpN)) (v0 : Nat) (v1 : Option Nat) (v2 : Option Nat) (v3 : Int32) (v4 : Int32) (v5 : Int32) (s0 : Option Nat) (s1 : Int32) (f : AH) (n : Nat) : Option (Int32 × HpN) := ((s0).bind fun j1 => ((pO f j1 3 11 (.int s1)).bind fun f2 => rec16 v0 v1 v2 v3 v4 (v5 + (1 : Int32)) f2 n))
set_option maxHeartbeats 1000000 in
theorem rmX0_make_b202 {X : GX} {p : Program} {l : Launch} {e : Env} {s : State} {m : MethodId} {args : Array Value} {below : List Frame} {meth : Method} {c : Code} {r : Int32 × HpN} {rec16 : Nat → (Option Nat) → (Option Nat) → Int32 → Int32 → Int32 → AH → Nat → Option (Int32 × HpN)} {v0 : Nat} {v1 : Option Nat} {v2 : Option Nat} {v3 : Int32} {v4 : Int32} {v5 : Int32} {s0 : Option Nat} {s1 : Int32} {f : AH} {n cells slots : Nat} (C : CC X p l (RM 4 0 0) s m args meth c RX0 cX0_make 8 (some .boolean)) (Hr16 : ∀ (v0 : Nat) (v1 : Option Nat) (v2 : Option Nat) (v3 : Int32) (v4 : Int32) (v5 : Int32) (f : AH) (n cells slots : Nat), cells + 0 ≤ 0 → slots + 0 ≤ 0 → rec16 v0 v1 v2 v3 v4 v5 f n = some r → AW X p l e (RM 4 0 0) s m args below meth c 8 (ZM X below args s 0 0 (QHi r)) f n cells slots 16 [some (.ref v0), some (va_rf v1), some (va_rf v2), some (.int v3), some (.int v4), some (.int v5), none, none] []) (hc : cells + 0 ≤ 0) (hs : slots + 0 ≤ 0) (h : mX0_make_b202 rec16 v0 v1 v2 v3 v4 v5 s0 s1 f n = some r) : AW X p l e (RM 4 0 0) s m args below meth c 8 (ZM X below args s 0 0 (QHi r)) f n cells slots 202 [some (.ref v0), some (va_rf v1), some (va_rf v2), some (.int v3), some (.int v4), some (.int v5), none, none] [.int s1, va_rf s0] := by
  have h : ((s0).bind fun j1 => ((pO f j1 3 11 (.int s1)).bind fun f2 => rec16 v0 v1 v2 v3 v4 (v5 + (1 : Int32)) f2 n)) = some r := h
  obtain ⟨j1, hj1, h⟩ := Option.bind_eq_some_iff.mp h
  rw [hj1]
  obtain ⟨f2, hf2, h⟩ := Option.bind_eq_some_iff.mp h
  refine ah_put C gf_X0_75 cf3 nf3_11 rfl rfl hf2 dX0_make_202 ?_
  refine aw_iinc C (v5 + (1 : Int32)) dX0_make_205 rfl (by rw [ki_1]) (by decide) rfl ?_
  refine aw_nl [some (.ref v0), some (va_rf v1), some (va_rf v2), some (.int v3), some (.int v4), some (.int (v5 + (1 : Int32))), none, none] rfl ?_
  refine aw_goto C 16 dX0_make_208 (by decide) ?_
  refine aw_fl [some (.ref v0), some (va_rf v1), some (va_rf v2), some (.int v3), some (.int v4), some (.int (v5 + (1 : Int32))), none, none] ⟨rfl, ⟨rfl, ⟨rfl, ⟨rfl, ⟨rfl, ⟨rfl, trivial⟩⟩⟩⟩⟩⟩ ?_
  exact Hr16 v0 v1 v2 v3 v4 (v5 + (1 : Int32)) f2 n _ _ (by omega) (by omega) h
def mX0_make_b169 (rec16 : Nat → (Option Nat) → (Option Nat) → Int32 → Int32 → Int32 → AH → Nat → Option (Int32 × HpN)) (v0 : Nat) (v1 : Option Nat) (v2 : Option Nat) (v3 : Int32) (v4 : Int32) (v5 : Int32) (v6 : Option Nat) (v7 : Option Nat) (f : AH) (n : Nat) : Option (Int32 × HpN) := ((gR f v0 0 0).bind fun x1 => ((x1).bind fun j2 => rCk (isO f j2 5) (((mX5_size j2 f n).bind fun r4 => ((v6).bind fun j6 => ((gI r4.2.1 j6 3 9).bind fun x7 => ((pO r4.2.1 j6 3 10 (.int (r4.1 - x7))).bind fun f8 => (oN v7 (mX0_make_b202 rec16 v0 v1 v2 v3 v4 v5 (some j6) (0 : Int32) f8 r4.2.2) (fun j9 => ((gI f8 v0 0 3).bind fun x10 => mX0_make_b202 rec16 v0 v1 v2 v3 v4 v5 (some j6) x10 f8 r4.2.2))))))))))
set_option maxHeartbeats 1000000 in
theorem rmX0_make_b169 {X : GX} {p : Program} {l : Launch} {e : Env} {s : State} {m : MethodId} {args : Array Value} {below : List Frame} {meth : Method} {c : Code} {r : Int32 × HpN} {rec16 : Nat → (Option Nat) → (Option Nat) → Int32 → Int32 → Int32 → AH → Nat → Option (Int32 × HpN)} {v0 : Nat} {v1 : Option Nat} {v2 : Option Nat} {v3 : Int32} {v4 : Int32} {v5 : Int32} {v6 : Option Nat} {v7 : Option Nat} {f : AH} {n cells slots : Nat} (C : CC X p l (RM 4 0 0) s m args meth c RX0 cX0_make 8 (some .boolean)) (Hr16 : ∀ (v0 : Nat) (v1 : Option Nat) (v2 : Option Nat) (v3 : Int32) (v4 : Int32) (v5 : Int32) (f : AH) (n cells slots : Nat), cells + 0 ≤ 0 → slots + 0 ≤ 0 → rec16 v0 v1 v2 v3 v4 v5 f n = some r → AW X p l e (RM 4 0 0) s m args below meth c 8 (ZM X below args s 0 0 (QHi r)) f n cells slots 16 [some (.ref v0), some (va_rf v1), some (va_rf v2), some (.int v3), some (.int v4), some (.int v5), none, none] []) (hc : cells + 0 ≤ 0) (hs : slots + 0 ≤ 0) (h : mX0_make_b169 rec16 v0 v1 v2 v3 v4 v5 v6 v7 f n = some r) : AW X p l e (RM 4 0 0) s m args below meth c 8 (ZM X below args s 0 0 (QHi r)) f n cells slots 169 [some (.ref v0), some (va_rf v1), some (va_rf v2), some (.int v3), some (.int v4), some (.int v5), some (va_rf v6), some (va_rf v7)] [] := by
  have h : ((gR f v0 0 0).bind fun x1 => ((x1).bind fun j2 => rCk (isO f j2 5) (((mX5_size j2 f n).bind fun r4 => ((v6).bind fun j6 => ((gI r4.2.1 j6 3 9).bind fun x7 => ((pO r4.2.1 j6 3 10 (.int (r4.1 - x7))).bind fun f8 => (oN v7 (mX0_make_b202 rec16 v0 v1 v2 v3 v4 v5 (some j6) (0 : Int32) f8 r4.2.2) (fun j9 => ((gI f8 v0 0 3).bind fun x10 => mX0_make_b202 rec16 v0 v1 v2 v3 v4 v5 (some j6) x10 f8 r4.2.2)))))))))) = some r := h
  refine aw_aload C dX0_make_169 rfl (rf_or v6) ?_
  refine aw_ald_n C dX0_make_171 rfl ?_
  obtain ⟨x1, hx1, h⟩ := Option.bind_eq_some_iff.mp h
  refine ah_getR C gf_X0_14 hx1 dX0_make_172 ?_
  obtain ⟨j2, hj2, h⟩ := Option.bind_eq_some_iff.mp h
  rw [hj2]
  obtain ⟨hb3, h⟩ := ck_some h
  obtain ⟨r4, hr4, h⟩ := Option.bind_eq_some_iff.mp h
  obtain ⟨fs5, hf5⟩ := isO_ex hb3
  refine aw_callV C (ci := 5) (b := j2) [] mv_X0_57 rfl rfl hf5 (rmX5_size hr4) rfl dX0_make_175 (Nat.le_of_ble_eq_true rfl) (Nat.le_of_ble_eq_true rfl) rfl (cs_1 (rf_cat _) cs_0) (show cells + 0 ≤ 0 by omega) (show slots + 0 ≤ 0 by omega) (fun v9 f9 n9 hh => ?_)
  obtain ⟨rfl, rfl, rfl⟩ := hh
  refine aw_aload C dX0_make_178 rfl (rf_or v6) ?_
  obtain ⟨j6, hj6, h⟩ := Option.bind_eq_some_iff.mp h
  rw [hj6]
  obtain ⟨x7, hx7, h⟩ := Option.bind_eq_some_iff.mp h
  refine ah_getI C gf_X0_58 hx7 dX0_make_180 ?_
  refine aw_isub C dX0_make_183 ?_
  obtain ⟨f8, hf8, h⟩ := Option.bind_eq_some_iff.mp h
  refine ah_put C gf_X0_69 cf3 nf3_10 rfl rfl hf8 dX0_make_184 ?_
  refine aw_ald C dX0_make_187 rfl ?_
  refine aw_aload C dX0_make_189 rfl (rf_or v7) ?_
  cases v7 with
  | none =>
    replace h : mX0_make_b202 rec16 v0 v1 v2 v3 v4 v5 (some j6) (0 : Int32) f8 r4.2.2 = some r := h
    refine aw_ifnonnull_n C 198 dX0_make_191 (by decide) ?_
    refine aw_iconst C 0 dX0_make_194 ki_0 ?_
    refine aw_goto C 202 dX0_make_195 (by decide) ?_
    refine aw_fl [some (.ref v0), some (va_rf v1), some (va_rf v2), some (.int v3), some (.int v4), some (.int v5), none, none] ⟨rfl, ⟨rfl, ⟨rfl, ⟨rfl, ⟨rfl, ⟨rfl, trivial⟩⟩⟩⟩⟩⟩ ?_
    exact rmX0_make_b202 C Hr16 (by omega) (by omega) h
  | some j9 =>
    replace h : ((gI f8 v0 0 3).bind fun x10 => mX0_make_b202 rec16 v0 v1 v2 v3 v4 v5 (some j6) x10 f8 r4.2.2) = some r := h
    refine aw_ifnonnull_r C 198 dX0_make_191 (by decide) ?_
    refine aw_ald_n C dX0_make_198 rfl ?_
    obtain ⟨x10, hx10, h⟩ := Option.bind_eq_some_iff.mp h
    refine ah_getI C gf_X0_72 hx10 dX0_make_199 ?_
    refine aw_fl [some (.ref v0), some (va_rf v1), some (va_rf v2), some (.int v3), some (.int v4), some (.int v5), none, none] ⟨rfl, ⟨rfl, ⟨rfl, ⟨rfl, ⟨rfl, ⟨rfl, trivial⟩⟩⟩⟩⟩⟩ ?_
    exact rmX0_make_b202 C Hr16 (by omega) (by omega) h
def mX0_make_b166 (rec16 : Nat → (Option Nat) → (Option Nat) → Int32 → Int32 → Int32 → AH → Nat → Option (Int32 × HpN)) (v0 : Nat) (v1 : Option Nat) (v2 : Option Nat) (v3 : Int32) (v5 : Int32) (v6 : Option Nat) (v7 : Option Nat) (s0 : Int32) (s1 : Int32) (f : AH) (n : Nat) : Option (Int32 × HpN) := mX0_make_b169 rec16 v0 v1 v2 v3 (s0 &&& s1) v5 v6 v7 f n
set_option maxHeartbeats 1000000 in
theorem rmX0_make_b166 {X : GX} {p : Program} {l : Launch} {e : Env} {s : State} {m : MethodId} {args : Array Value} {below : List Frame} {meth : Method} {c : Code} {r : Int32 × HpN} {rec16 : Nat → (Option Nat) → (Option Nat) → Int32 → Int32 → Int32 → AH → Nat → Option (Int32 × HpN)} {v0 : Nat} {v1 : Option Nat} {v2 : Option Nat} {v3 : Int32} {v5 : Int32} {v6 : Option Nat} {v7 : Option Nat} {s0 : Int32} {s1 : Int32} {f : AH} {n cells slots : Nat} (C : CC X p l (RM 4 0 0) s m args meth c RX0 cX0_make 8 (some .boolean)) (Hr16 : ∀ (v0 : Nat) (v1 : Option Nat) (v2 : Option Nat) (v3 : Int32) (v4 : Int32) (v5 : Int32) (f : AH) (n cells slots : Nat), cells + 0 ≤ 0 → slots + 0 ≤ 0 → rec16 v0 v1 v2 v3 v4 v5 f n = some r → AW X p l e (RM 4 0 0) s m args below meth c 8 (ZM X below args s 0 0 (QHi r)) f n cells slots 16 [some (.ref v0), some (va_rf v1), some (va_rf v2), some (.int v3), some (.int v4), some (.int v5), none, none] []) (hc : cells + 0 ≤ 0) (hs : slots + 0 ≤ 0) (h : mX0_make_b166 rec16 v0 v1 v2 v3 v5 v6 v7 s0 s1 f n = some r) : AW X p l e (RM 4 0 0) s m args below meth c 8 (ZM X below args s 0 0 (QHi r)) f n cells slots 166 [some (.ref v0), some (va_rf v1), some (va_rf v2), some (.int v3), none, some (.int v5), some (va_rf v6), some (va_rf v7)] [.int s1, .int s0] := by
  have h : mX0_make_b169 rec16 v0 v1 v2 v3 (s0 &&& s1) v5 v6 v7 f n = some r := h
  refine aw_iand C dX0_make_166 ?_
  refine aw_istore C dX0_make_167 (by decide) rfl ?_
  refine aw_nl [some (.ref v0), some (va_rf v1), some (va_rf v2), some (.int v3), some (.int (s0 &&& s1)), some (.int v5), some (va_rf v6), some (va_rf v7)] rfl ?_
  refine aw_fl [some (.ref v0), some (va_rf v1), some (va_rf v2), some (.int v3), some (.int (s0 &&& s1)), some (.int v5), some (va_rf v6), some (va_rf v7)] ⟨rfl, ⟨rfl, ⟨rfl, ⟨rfl, ⟨rfl, ⟨rfl, ⟨rfl, ⟨rfl, trivial⟩⟩⟩⟩⟩⟩⟩⟩ ?_
  exact rmX0_make_b169 C Hr16 (by omega) (by omega) h
def mX0_make_b165 (rec16 : Nat → (Option Nat) → (Option Nat) → Int32 → Int32 → Int32 → AH → Nat → Option (Int32 × HpN)) (v0 : Nat) (v1 : Option Nat) (v2 : Option Nat) (v3 : Int32) (v5 : Int32) (v6 : Option Nat) (v7 : Option Nat) (s0 : Int32) (f : AH) (n : Nat) : Option (Int32 × HpN) := mX0_make_b166 rec16 v0 v1 v2 v3 v5 v6 v7 s0 (0 : Int32) f n
set_option maxHeartbeats 1000000 in
theorem rmX0_make_b165 {X : GX} {p : Program} {l : Launch} {e : Env} {s : State} {m : MethodId} {args : Array Value} {below : List Frame} {meth : Method} {c : Code} {r : Int32 × HpN} {rec16 : Nat → (Option Nat) → (Option Nat) → Int32 → Int32 → Int32 → AH → Nat → Option (Int32 × HpN)} {v0 : Nat} {v1 : Option Nat} {v2 : Option Nat} {v3 : Int32} {v5 : Int32} {v6 : Option Nat} {v7 : Option Nat} {s0 : Int32} {f : AH} {n cells slots : Nat} (C : CC X p l (RM 4 0 0) s m args meth c RX0 cX0_make 8 (some .boolean)) (Hr16 : ∀ (v0 : Nat) (v1 : Option Nat) (v2 : Option Nat) (v3 : Int32) (v4 : Int32) (v5 : Int32) (f : AH) (n cells slots : Nat), cells + 0 ≤ 0 → slots + 0 ≤ 0 → rec16 v0 v1 v2 v3 v4 v5 f n = some r → AW X p l e (RM 4 0 0) s m args below meth c 8 (ZM X below args s 0 0 (QHi r)) f n cells slots 16 [some (.ref v0), some (va_rf v1), some (va_rf v2), some (.int v3), some (.int v4), some (.int v5), none, none] []) (hc : cells + 0 ≤ 0) (hs : slots + 0 ≤ 0) (h : mX0_make_b165 rec16 v0 v1 v2 v3 v5 v6 v7 s0 f n = some r) : AW X p l e (RM 4 0 0) s m args below meth c 8 (ZM X below args s 0 0 (QHi r)) f n cells slots 165 [some (.ref v0), some (va_rf v1), some (va_rf v2), some (.int v3), none, some (.int v5), some (va_rf v6), some (va_rf v7)] [.int s0] := by
  have h : mX0_make_b166 rec16 v0 v1 v2 v3 v5 v6 v7 s0 (0 : Int32) f n = some r := h
  refine aw_iconst C 0 dX0_make_165 ki_0 ?_
  refine aw_fl [some (.ref v0), some (va_rf v1), some (va_rf v2), some (.int v3), none, some (.int v5), some (va_rf v6), some (va_rf v7)] ⟨rfl, ⟨rfl, ⟨rfl, ⟨rfl, ⟨rfl, ⟨rfl, ⟨rfl, trivial⟩⟩⟩⟩⟩⟩⟩ ?_
  exact rmX0_make_b166 C Hr16 (by omega) (by omega) h
def mX0_make_l16 : Nat → Nat → (Option Nat) → (Option Nat) → Int32 → Int32 → Int32 → AH → Nat → Option (Int32 × HpN)
  | 0, _, _, _, _, _, _, _, _ => none
  | d + 1, v0, v1, v2, v3, v4, v5, f, n => ((v2).bind fun j1 => rCk (isO f j1 1) (((mX1_size j1 f n).bind fun r3 => (if r3.1 ≤ v5 then mX0_make_b211 v0 v1 v3 v4 r3.2.1 r3.2.2 else (if v4 = (0 : Int32) then mX0_make_b211 v0 v1 v3 v4 r3.2.1 r3.2.2 else rCk (isO r3.2.1 j1 1) (((mX1_get j1 v5 r3.2.1 r3.2.2).bind fun r6 => ((some r6.1).bind fun x8 => (oN x8 (mX0_make_b211 v0 v1 v3 v4 r6.2.1 r6.2.2) (fun j9 => ((gR r6.2.1 v0 0 0).bind fun x10 => ((v1).bind fun j11 => ((gR r6.2.1 j11 7 0).bind fun x12 => ((gI r6.2.1 j9 3 0).bind fun x13 => ((x10).bind fun j14 => rCk (isO r6.2.1 j14 5) (((mX5_addPart j14 x12 v3 x13 r6.2.1 r6.2.2).bind fun r16 => ((gI r16.2.1 j9 3 1).bind fun x18 => ((gR r16.2.1 v0 0 0).bind fun x19 => ((x19).bind fun j20 => rCk (isO r16.2.1 j20 5) (((mX5_size j20 r16.2.1 r16.2.2).bind fun r22 => ((pO r22.2.1 j9 3 9 (.int r22.1)).bind fun f24 => rCk (isO f24 j11 7) (((mX7_toldFor j11 v5 f24 r22.2.2).bind fun r26 => ((some r26.1).bind fun x28 => (oN x28 (((gR r26.2.1 v0 0 0).bind fun x30 => ((gR r26.2.1 j11 7 0).bind fun x31 => ((gI r26.2.1 j9 3 0).bind fun x32 => ((gI r26.2.1 j9 3 1).bind fun x33 => ((x30).bind fun j34 => rCk (isO r26.2.1 j34 5) (((mX5_addPart j34 x31 x32 x33 r26.2.1 r26.2.2).bind fun r36 => mX0_make_b169 (fun v0 v1 v2 v3 v4 v5 f n => mX0_make_l16 d v0 v1 v2 v3 v4 v5 f n) v0 (some j11) (some j1) x18 (r16.1 &&& r36.1) v5 (some j9) (none : Option Nat) r36.2.1 r36.2.2)))))))) (fun j29 => rCk (isO r26.2.1 v0 0) (((mX0_escape v0 (some j29) (some j9) (some j11) r26.2.1 r26.2.2).bind fun r39 => (if r39.1 = (0 : Int32) then mX0_make_b165 (fun v0 v1 v2 v3 v4 v5 f n => mX0_make_l16 d v0 v1 v2 v3 v4 v5 f n) v0 (some j11) (some j1) x18 v5 (some j9) (some j29) r16.1 r39.2.1 r39.2.2 else ((gR r39.2.1 v0 0 0).bind fun x41 => ((gR r39.2.1 v0 0 1).bind fun x42 => ((gR r39.2.1 v0 0 1).bind fun x43 => ((x43).bind fun j44 => rCk (isO r39.2.1 j44 5) (((mX5_size j44 r39.2.1 r39.2.2).bind fun r46 => ((x41).bind fun j48 => rCk (isO r46.2.1 j48 5) (((mX5_addPart j48 x42 (0 : Int32) r46.1 r46.2.1 r46.2.2).bind fun r50 => (if r50.1 = (0 : Int32) then mX0_make_b165 (fun v0 v1 v2 v3 v4 v5 f n => mX0_make_l16 d v0 v1 v2 v3 v4 v5 f n) v0 (some j11) (some j1) x18 v5 (some j9) (some j29) r16.1 r50.2.1 r50.2.2 else mX0_make_b166 (fun v0 v1 v2 v3 v4 v5 f n => mX0_make_l16 d v0 v1 v2 v3 v4 v5 f n) v0 (some j11) (some j1) x18 v5 (some j9) (some j29) r16.1 (1 : Int32) r50.2.1 r50.2.2)))))))))))))))))))))))))))))))))))))))))
set_option maxHeartbeats 1000000 in
theorem rmX0_make_l16 {X : GX} {p : Program} {l : Launch} {e : Env} {s : State} {m : MethodId} {args : Array Value} {below : List Frame} {meth : Method} {c : Code} {r : Int32 × HpN} (C : CC X p l (RM 4 0 0) s m args meth c RX0 cX0_make 8 (some .boolean)) : ∀ (d : Nat) (v0 : Nat) (v1 : Option Nat) (v2 : Option Nat) (v3 : Int32) (v4 : Int32) (v5 : Int32) (f : AH) (n cells slots : Nat) (_ : cells + 0 ≤ 0) (_ : slots + 0 ≤ 0) (_ : mX0_make_l16 d v0 v1 v2 v3 v4 v5 f n = some r), AW X p l e (RM 4 0 0) s m args below meth c 8 (ZM X below args s 0 0 (QHi r)) f n cells slots 16 [some (.ref v0), some (va_rf v1), some (va_rf v2), some (.int v3), some (.int v4), some (.int v5), none, none] [] := by
  intro d
  induction d with
  | zero =>
    intro v0 v1 v2 v3 v4 v5 f n cells slots hc hs h
    exact nomatch (show (none : Option (Int32 × HpN)) = some r from h)
  | succ d ih =>
    intro v0 v1 v2 v3 v4 v5 f n cells slots hc hs h
    have h : ((v2).bind fun j1 => rCk (isO f j1 1) (((mX1_size j1 f n).bind fun r3 => (if r3.1 ≤ v5 then mX0_make_b211 v0 v1 v3 v4 r3.2.1 r3.2.2 else (if v4 = (0 : Int32) then mX0_make_b211 v0 v1 v3 v4 r3.2.1 r3.2.2 else rCk (isO r3.2.1 j1 1) (((mX1_get j1 v5 r3.2.1 r3.2.2).bind fun r6 => ((some r6.1).bind fun x8 => (oN x8 (mX0_make_b211 v0 v1 v3 v4 r6.2.1 r6.2.2) (fun j9 => ((gR r6.2.1 v0 0 0).bind fun x10 => ((v1).bind fun j11 => ((gR r6.2.1 j11 7 0).bind fun x12 => ((gI r6.2.1 j9 3 0).bind fun x13 => ((x10).bind fun j14 => rCk (isO r6.2.1 j14 5) (((mX5_addPart j14 x12 v3 x13 r6.2.1 r6.2.2).bind fun r16 => ((gI r16.2.1 j9 3 1).bind fun x18 => ((gR r16.2.1 v0 0 0).bind fun x19 => ((x19).bind fun j20 => rCk (isO r16.2.1 j20 5) (((mX5_size j20 r16.2.1 r16.2.2).bind fun r22 => ((pO r22.2.1 j9 3 9 (.int r22.1)).bind fun f24 => rCk (isO f24 j11 7) (((mX7_toldFor j11 v5 f24 r22.2.2).bind fun r26 => ((some r26.1).bind fun x28 => (oN x28 (((gR r26.2.1 v0 0 0).bind fun x30 => ((gR r26.2.1 j11 7 0).bind fun x31 => ((gI r26.2.1 j9 3 0).bind fun x32 => ((gI r26.2.1 j9 3 1).bind fun x33 => ((x30).bind fun j34 => rCk (isO r26.2.1 j34 5) (((mX5_addPart j34 x31 x32 x33 r26.2.1 r26.2.2).bind fun r36 => mX0_make_b169 (fun v0 v1 v2 v3 v4 v5 f n => mX0_make_l16 d v0 v1 v2 v3 v4 v5 f n) v0 (some j11) (some j1) x18 (r16.1 &&& r36.1) v5 (some j9) (none : Option Nat) r36.2.1 r36.2.2)))))))) (fun j29 => rCk (isO r26.2.1 v0 0) (((mX0_escape v0 (some j29) (some j9) (some j11) r26.2.1 r26.2.2).bind fun r39 => (if r39.1 = (0 : Int32) then mX0_make_b165 (fun v0 v1 v2 v3 v4 v5 f n => mX0_make_l16 d v0 v1 v2 v3 v4 v5 f n) v0 (some j11) (some j1) x18 v5 (some j9) (some j29) r16.1 r39.2.1 r39.2.2 else ((gR r39.2.1 v0 0 0).bind fun x41 => ((gR r39.2.1 v0 0 1).bind fun x42 => ((gR r39.2.1 v0 0 1).bind fun x43 => ((x43).bind fun j44 => rCk (isO r39.2.1 j44 5) (((mX5_size j44 r39.2.1 r39.2.2).bind fun r46 => ((x41).bind fun j48 => rCk (isO r46.2.1 j48 5) (((mX5_addPart j48 x42 (0 : Int32) r46.1 r46.2.1 r46.2.2).bind fun r50 => (if r50.1 = (0 : Int32) then mX0_make_b165 (fun v0 v1 v2 v3 v4 v5 f n => mX0_make_l16 d v0 v1 v2 v3 v4 v5 f n) v0 (some j11) (some j1) x18 v5 (some j9) (some j29) r16.1 r50.2.1 r50.2.2 else mX0_make_b166 (fun v0 v1 v2 v3 v4 v5 f n => mX0_make_l16 d v0 v1 v2 v3 v4 v5 f n) v0 (some j11) (some j1) x18 v5 (some j9) (some j29) r16.1 (1 : Int32) r50.2.1 r50.2.2))))))))))))))))))))))))))))))))))))))))) = some r := h
    refine aw_iload C dX0_make_16 rfl ?_
    refine aw_aload_n C dX0_make_18 rfl (rf_or v2) ?_
    obtain ⟨j1, hj1, h⟩ := Option.bind_eq_some_iff.mp h
    rw [hj1]
    obtain ⟨hb2, h⟩ := ck_some h
    obtain ⟨r3, hr3, h⟩ := Option.bind_eq_some_iff.mp h
    obtain ⟨fs4, hf4⟩ := isO_ex hb2
    refine aw_callV C (ci := 1) (b := j1) [] mv_X0_29 rfl rfl hf4 (rmX1_size hr3) rfl dX0_make_19 (Nat.le_of_ble_eq_true rfl) (Nat.le_of_ble_eq_true rfl) rfl (Nat.le_of_ble_eq_true rfl) (show cells + 0 ≤ 0 by omega) (show slots + 0 ≤ 0 by omega) (fun v9 f9 n9 hh => ?_)
    obtain ⟨rfl, rfl, rfl⟩ := hh
    refine aw_icmp_ge C 211 dX0_make_22 (by decide) (fun q => ?_) (fun q => ?_)
    · rw [if_pos q] at h
      refine aw_fl [some (.ref v0), some (va_rf v1), none, some (.int v3), some (.int v4), none, none, none] ⟨rfl, ⟨rfl, ⟨rfl, ⟨rfl, trivial⟩⟩⟩⟩ ?_
      exact rmX0_make_b211 C (by omega) (by omega) h
    · rw [if_neg q] at h
      refine aw_iload C dX0_make_25 rfl ?_
      refine aw_if_eq C 211 dX0_make_27 (by decide) (fun q => ?_) (fun q => ?_)
      · rw [if_pos q] at h
        refine aw_fl [some (.ref v0), some (va_rf v1), none, some (.int v3), some (.int v4), none, none, none] ⟨rfl, ⟨rfl, ⟨rfl, ⟨rfl, trivial⟩⟩⟩⟩ ?_
        exact rmX0_make_b211 C (by omega) (by omega) h
      · rw [if_neg q] at h
        refine aw_ald_n C dX0_make_30 rfl ?_
        refine aw_iload C dX0_make_31 rfl ?_
        obtain ⟨hb5, h⟩ := ck_some h
        obtain ⟨r6, hr6, h⟩ := Option.bind_eq_some_iff.mp h
        obtain ⟨fs7, hf7⟩ := isO_ex hb5
        refine aw_callV C (ci := 1) (b := j1) [.int v5] mv_X0_35 rfl rfl hf7 (rmX1_get hr6) rfl dX0_make_33 (Nat.le_of_ble_eq_true rfl) (Nat.le_of_ble_eq_true rfl) rfl (Nat.le_of_ble_eq_true rfl) (show (cells + 0) + 0 ≤ 0 by omega) (show (slots + 0) + 0 ≤ 0 by omega) (fun v9 f9 n9 hh => ?_)
        obtain ⟨rfl, rfl, rfl⟩ := hh
        obtain ⟨x8, hx8, h⟩ := Option.bind_eq_some_iff.mp h
        rw [Option.some.inj hx8]
        refine aw_astore C dX0_make_36 (by decide) rfl (rf_or x8) ?_
        refine aw_nl [some (.ref v0), some (va_rf v1), some (.ref j1), some (.int v3), some (.int v4), some (.int v5), some (va_rf x8), none] rfl ?_
        refine aw_aload C dX0_make_38 rfl (rf_or x8) ?_
        cases x8 with
        | none =>
          replace h : mX0_make_b211 v0 v1 v3 v4 r6.2.1 r6.2.2 = some r := h
          refine aw_ifnonnull_n C 46 dX0_make_40 (by decide) ?_
          refine aw_goto C 211 dX0_make_43 (by decide) ?_
          refine aw_fl [some (.ref v0), some (va_rf v1), none, some (.int v3), some (.int v4), none, none, none] ⟨rfl, ⟨rfl, ⟨rfl, ⟨rfl, trivial⟩⟩⟩⟩ ?_
          exact rmX0_make_b211 C (by omega) (by omega) h
        | some j9 =>
          replace h : ((gR r6.2.1 v0 0 0).bind fun x10 => ((v1).bind fun j11 => ((gR r6.2.1 j11 7 0).bind fun x12 => ((gI r6.2.1 j9 3 0).bind fun x13 => ((x10).bind fun j14 => rCk (isO r6.2.1 j14 5) (((mX5_addPart j14 x12 v3 x13 r6.2.1 r6.2.2).bind fun r16 => ((gI r16.2.1 j9 3 1).bind fun x18 => ((gR r16.2.1 v0 0 0).bind fun x19 => ((x19).bind fun j20 => rCk (isO r16.2.1 j20 5) (((mX5_size j20 r16.2.1 r16.2.2).bind fun r22 => ((pO r22.2.1 j9 3 9 (.int r22.1)).bind fun f24 => rCk (isO f24 j11 7) (((mX7_toldFor j11 v5 f24 r22.2.2).bind fun r26 => ((some r26.1).bind fun x28 => (oN x28 (((gR r26.2.1 v0 0 0).bind fun x30 => ((gR r26.2.1 j11 7 0).bind fun x31 => ((gI r26.2.1 j9 3 0).bind fun x32 => ((gI r26.2.1 j9 3 1).bind fun x33 => ((x30).bind fun j34 => rCk (isO r26.2.1 j34 5) (((mX5_addPart j34 x31 x32 x33 r26.2.1 r26.2.2).bind fun r36 => mX0_make_b169 (fun v0 v1 v2 v3 v4 v5 f n => mX0_make_l16 d v0 v1 v2 v3 v4 v5 f n) v0 (some j11) (some j1) x18 (r16.1 &&& r36.1) v5 (some j9) (none : Option Nat) r36.2.1 r36.2.2)))))))) (fun j29 => rCk (isO r26.2.1 v0 0) (((mX0_escape v0 (some j29) (some j9) (some j11) r26.2.1 r26.2.2).bind fun r39 => (if r39.1 = (0 : Int32) then mX0_make_b165 (fun v0 v1 v2 v3 v4 v5 f n => mX0_make_l16 d v0 v1 v2 v3 v4 v5 f n) v0 (some j11) (some j1) x18 v5 (some j9) (some j29) r16.1 r39.2.1 r39.2.2 else ((gR r39.2.1 v0 0 0).bind fun x41 => ((gR r39.2.1 v0 0 1).bind fun x42 => ((gR r39.2.1 v0 0 1).bind fun x43 => ((x43).bind fun j44 => rCk (isO r39.2.1 j44 5) (((mX5_size j44 r39.2.1 r39.2.2).bind fun r46 => ((x41).bind fun j48 => rCk (isO r46.2.1 j48 5) (((mX5_addPart j48 x42 (0 : Int32) r46.1 r46.2.1 r46.2.2).bind fun r50 => (if r50.1 = (0 : Int32) then mX0_make_b165 (fun v0 v1 v2 v3 v4 v5 f n => mX0_make_l16 d v0 v1 v2 v3 v4 v5 f n) v0 (some j11) (some j1) x18 v5 (some j9) (some j29) r16.1 r50.2.1 r50.2.2 else mX0_make_b166 (fun v0 v1 v2 v3 v4 v5 f n => mX0_make_l16 d v0 v1 v2 v3 v4 v5 f n) v0 (some j11) (some j1) x18 v5 (some j9) (some j29) r16.1 (1 : Int32) r50.2.1 r50.2.2))))))))))))))))))))))))))))))) = some r := h
          refine aw_ifnonnull_r C 46 dX0_make_40 (by decide) ?_
          refine aw_ald_n C dX0_make_46 rfl ?_
          obtain ⟨x10, hx10, h⟩ := Option.bind_eq_some_iff.mp h
          refine ah_getR C gf_X0_14 hx10 dX0_make_47 ?_
          refine aw_aload_n C dX0_make_50 rfl (rf_or v1) ?_
          obtain ⟨j11, hj11, h⟩ := Option.bind_eq_some_iff.mp h
          rw [hj11]
          obtain ⟨x12, hx12, h⟩ := Option.bind_eq_some_iff.mp h
          refine ah_getR C gf_X0_39 hx12 dX0_make_51 ?_
          refine aw_iload_n C dX0_make_54 rfl ?_
          refine aw_ald C dX0_make_55 rfl ?_
          obtain ⟨x13, hx13, h⟩ := Option.bind_eq_some_iff.mp h
          refine ah_getI C gf_X0_44 hx13 dX0_make_57 ?_
          obtain ⟨j14, hj14, h⟩ := Option.bind_eq_some_iff.mp h
          rw [hj14]
          obtain ⟨hb15, h⟩ := ck_some h
          obtain ⟨r16, hr16, h⟩ := Option.bind_eq_some_iff.mp h
          obtain ⟨fs17, hf17⟩ := isO_ex hb15
          refine aw_callV C (ci := 5) (b := j14) [va_rf x12, .int v3, .int x13] mv_X0_50 rfl rfl hf17 (rmX5_addPart hr16) rfl dX0_make_60 (Nat.le_of_ble_eq_true rfl) (Nat.le_of_ble_eq_true rfl) rfl (Nat.le_of_ble_eq_true rfl) (show ((cells + 0) + 0) + 0 ≤ 0 by omega) (show ((slots + 0) + 0) + 0 ≤ 0 by omega) (fun v9 f9 n9 hh => ?_)
          obtain ⟨rfl, rfl, rfl⟩ := hh
          refine aw_istore C dX0_make_63 (by decide) rfl ?_
          refine aw_nl [some (.ref v0), some (.ref j11), some (.ref j1), some (.int v3), some (.int r16.1), some (.int v5), some (.ref j9), none] rfl ?_
          refine aw_ald C dX0_make_65 rfl ?_
          obtain ⟨x18, hx18, h⟩ := Option.bind_eq_some_iff.mp h
          refine ah_getI C gf_X0_54 hx18 dX0_make_67 ?_
          refine aw_istore_n C dX0_make_70 (by decide) rfl ?_
          refine aw_nl [some (.ref v0), some (.ref j11), some (.ref j1), some (.int x18), some (.int r16.1), some (.int v5), some (.ref j9), none] rfl ?_
          refine aw_ald C dX0_make_71 rfl ?_
          refine aw_ald_n C dX0_make_73 rfl ?_
          obtain ⟨x19, hx19, h⟩ := Option.bind_eq_some_iff.mp h
          refine ah_getR C gf_X0_14 hx19 dX0_make_74 ?_
          obtain ⟨j20, hj20, h⟩ := Option.bind_eq_some_iff.mp h
          rw [hj20]
          obtain ⟨hb21, h⟩ := ck_some h
          obtain ⟨r22, hr22, h⟩ := Option.bind_eq_some_iff.mp h
          obtain ⟨fs23, hf23⟩ := isO_ex hb21
          refine aw_callV C (ci := 5) (b := j20) [] mv_X0_57 rfl rfl hf23 (rmX5_size hr22) rfl dX0_make_77 (Nat.le_of_ble_eq_true rfl) (Nat.le_of_ble_eq_true rfl) rfl (Nat.le_of_ble_eq_true rfl) (show (((cells + 0) + 0) + 0) + 0 ≤ 0 by omega) (show (((slots + 0) + 0) + 0) + 0 ≤ 0 by omega) (fun v9 f9 n9 hh => ?_)
          obtain ⟨rfl, rfl, rfl⟩ := hh
          obtain ⟨f24, hf24, h⟩ := Option.bind_eq_some_iff.mp h
          refine ah_put C gf_X0_58 cf3 nf3_9 rfl rfl hf24 dX0_make_80 ?_
          refine aw_ald_n C dX0_make_83 rfl ?_
          refine aw_iload C dX0_make_84 rfl ?_
          obtain ⟨hb25, h⟩ := ck_some h
          obtain ⟨r26, hr26, h⟩ := Option.bind_eq_some_iff.mp h
          obtain ⟨fs27, hf27⟩ := isO_ex hb25
          refine aw_callV C (ci := 7) (b := j11) [.int v5] mv_X0_61 rfl rfl hf27 (rmX7_toldFor hr26) rfl dX0_make_86 (Nat.le_of_ble_eq_true rfl) (Nat.le_of_ble_eq_true rfl) rfl (Nat.le_of_ble_eq_true rfl) (show ((((cells + 0) + 0) + 0) + 0) + 0 ≤ 0 by omega) (show ((((slots + 0) + 0) + 0) + 0) + 0 ≤ 0 by omega) (fun v9 f9 n9 hh => ?_)
          obtain ⟨rfl, rfl, rfl⟩ := hh
          obtain ⟨x28, hx28, h⟩ := Option.bind_eq_some_iff.mp h
          rw [Option.some.inj hx28]
          refine aw_astore C dX0_make_89 (by decide) rfl (rf_or x28) ?_
          refine aw_nl [some (.ref v0), some (.ref j11), some (.ref j1), some (.int x18), some (.int r16.1), some (.int v5), some (.ref j9), some (va_rf x28)] rfl ?_
          refine aw_aload C dX0_make_91 rfl (rf_or x28) ?_
          cases x28 with
          | none =>
            replace h : ((gR r26.2.1 v0 0 0).bind fun x30 => ((gR r26.2.1 j11 7 0).bind fun x31 => ((gI r26.2.1 j9 3 0).bind fun x32 => ((gI r26.2.1 j9 3 1).bind fun x33 => ((x30).bind fun j34 => rCk (isO r26.2.1 j34 5) (((mX5_addPart j34 x31 x32 x33 r26.2.1 r26.2.2).bind fun r36 => mX0_make_b169 (fun v0 v1 v2 v3 v4 v5 f n => mX0_make_l16 d v0 v1 v2 v3 v4 v5 f n) v0 (some j11) (some j1) x18 (r16.1 &&& r36.1) v5 (some j9) (none : Option Nat) r36.2.1 r36.2.2))))))) = some r := h
            refine aw_ifnonnull_n C 125 dX0_make_93 (by decide) ?_
            refine aw_iload C dX0_make_96 rfl ?_
            refine aw_ald_n C dX0_make_98 rfl ?_
            obtain ⟨x30, hx30, h⟩ := Option.bind_eq_some_iff.mp h
            refine ah_getR C gf_X0_14 hx30 dX0_make_99 ?_
            refine aw_ald_n C dX0_make_102 rfl ?_
            obtain ⟨x31, hx31, h⟩ := Option.bind_eq_some_iff.mp h
            refine ah_getR C gf_X0_39 hx31 dX0_make_103 ?_
            refine aw_ald C dX0_make_106 rfl ?_
            obtain ⟨x32, hx32, h⟩ := Option.bind_eq_some_iff.mp h
            refine ah_getI C gf_X0_44 hx32 dX0_make_108 ?_
            refine aw_ald C dX0_make_111 rfl ?_
            obtain ⟨x33, hx33, h⟩ := Option.bind_eq_some_iff.mp h
            refine ah_getI C gf_X0_54 hx33 dX0_make_113 ?_
            obtain ⟨j34, hj34, h⟩ := Option.bind_eq_some_iff.mp h
            rw [hj34]
            obtain ⟨hb35, h⟩ := ck_some h
            obtain ⟨r36, hr36, h⟩ := Option.bind_eq_some_iff.mp h
            obtain ⟨fs37, hf37⟩ := isO_ex hb35
            refine aw_callV C (ci := 5) (b := j34) [va_rf x31, .int x32, .int x33] mv_X0_50 rfl rfl hf37 (rmX5_addPart hr36) rfl dX0_make_116 (Nat.le_of_ble_eq_true rfl) (Nat.le_of_ble_eq_true rfl) rfl (Nat.le_of_ble_eq_true rfl) (show (((((cells + 0) + 0) + 0) + 0) + 0) + 0 ≤ 0 by omega) (show (((((slots + 0) + 0) + 0) + 0) + 0) + 0 ≤ 0 by omega) (fun v9 f9 n9 hh => ?_)
            obtain ⟨rfl, rfl, rfl⟩ := hh
            refine aw_iand C dX0_make_119 ?_
            refine aw_istore C dX0_make_120 (by decide) rfl ?_
            refine aw_nl [some (.ref v0), some (.ref j11), some (.ref j1), some (.int x18), some (.int (r16.1 &&& r36.1)), some (.int v5), some (.ref j9), some (.null)] rfl ?_
            refine aw_goto C 169 dX0_make_122 (by decide) ?_
            refine aw_fl [some (.ref v0), some (va_rf (some j11)), some (va_rf (some j1)), some (.int x18), some (.int (r16.1 &&& r36.1)), some (.int v5), some (va_rf (some j9)), some (va_rf (none : Option Nat))] ⟨rfl, ⟨rfl, ⟨rfl, ⟨rfl, ⟨rfl, ⟨rfl, ⟨rfl, ⟨rfl, trivial⟩⟩⟩⟩⟩⟩⟩⟩ ?_
            exact rmX0_make_b169 C (fun v0 v1 v2 v3 v4 v5 f n cells slots hc hs h => ih v0 v1 v2 v3 v4 v5 f n cells slots hc hs h) (by omega) (by omega) h
          | some j29 =>
            replace h : rCk (isO r26.2.1 v0 0) (((mX0_escape v0 (some j29) (some j9) (some j11) r26.2.1 r26.2.2).bind fun r39 => (if r39.1 = (0 : Int32) then mX0_make_b165 (fun v0 v1 v2 v3 v4 v5 f n => mX0_make_l16 d v0 v1 v2 v3 v4 v5 f n) v0 (some j11) (some j1) x18 v5 (some j9) (some j29) r16.1 r39.2.1 r39.2.2 else ((gR r39.2.1 v0 0 0).bind fun x41 => ((gR r39.2.1 v0 0 1).bind fun x42 => ((gR r39.2.1 v0 0 1).bind fun x43 => ((x43).bind fun j44 => rCk (isO r39.2.1 j44 5) (((mX5_size j44 r39.2.1 r39.2.2).bind fun r46 => ((x41).bind fun j48 => rCk (isO r46.2.1 j48 5) (((mX5_addPart j48 x42 (0 : Int32) r46.1 r46.2.1 r46.2.2).bind fun r50 => (if r50.1 = (0 : Int32) then mX0_make_b165 (fun v0 v1 v2 v3 v4 v5 f n => mX0_make_l16 d v0 v1 v2 v3 v4 v5 f n) v0 (some j11) (some j1) x18 v5 (some j9) (some j29) r16.1 r50.2.1 r50.2.2 else mX0_make_b166 (fun v0 v1 v2 v3 v4 v5 f n => mX0_make_l16 d v0 v1 v2 v3 v4 v5 f n) v0 (some j11) (some j1) x18 v5 (some j9) (some j29) r16.1 (1 : Int32) r50.2.1 r50.2.2))))))))))))) = some r := h
            refine aw_ifnonnull_r C 125 dX0_make_93 (by decide) ?_
            refine aw_iload C dX0_make_125 rfl ?_
            refine aw_ald_n C dX0_make_127 rfl ?_
            refine aw_ald C dX0_make_128 rfl ?_
            refine aw_ald C dX0_make_130 rfl ?_
            refine aw_ald_n C dX0_make_132 rfl ?_
            obtain ⟨hb38, h⟩ := ck_some h
            obtain ⟨r39, hr39, h⟩ := Option.bind_eq_some_iff.mp h
            obtain ⟨fs40, hf40⟩ := isO_ex hb38
            refine aw_callV C (ci := 0) (b := v0) [.ref j29, .ref j9, .ref j11] mv_X0_65 rfl rfl hf40 (rmX0_escape hr39) rfl dX0_make_133 (Nat.le_of_ble_eq_true rfl) (Nat.le_of_ble_eq_true rfl) rfl (Nat.le_of_ble_eq_true rfl) (show (((((cells + 0) + 0) + 0) + 0) + 0) + 0 ≤ 0 by omega) (show (((((slots + 0) + 0) + 0) + 0) + 0) + 0 ≤ 0 by omega) (fun v9 f9 n9 hh => ?_)
            obtain ⟨rfl, rfl, rfl⟩ := hh
            refine aw_if_eq C 165 dX0_make_136 (by decide) (fun q => ?_) (fun q => ?_)
            · rw [if_pos q] at h
              refine aw_fl [some (.ref v0), some (va_rf (some j11)), some (va_rf (some j1)), some (.int x18), none, some (.int v5), some (va_rf (some j9)), some (va_rf (some j29))] ⟨rfl, ⟨rfl, ⟨rfl, ⟨rfl, ⟨rfl, ⟨rfl, ⟨rfl, trivial⟩⟩⟩⟩⟩⟩⟩ ?_
              exact rmX0_make_b165 C (fun v0 v1 v2 v3 v4 v5 f n cells slots hc hs h => ih v0 v1 v2 v3 v4 v5 f n cells slots hc hs h) (by omega) (by omega) h
            · rw [if_neg q] at h
              refine aw_ald_n C dX0_make_139 rfl ?_
              obtain ⟨x41, hx41, h⟩ := Option.bind_eq_some_iff.mp h
              refine ah_getR C gf_X0_14 hx41 dX0_make_140 ?_
              refine aw_ald_n C dX0_make_143 rfl ?_
              obtain ⟨x42, hx42, h⟩ := Option.bind_eq_some_iff.mp h
              refine ah_getR C gf_X0_20 hx42 dX0_make_144 ?_
              refine aw_iconst C 0 dX0_make_147 ki_0 ?_
              refine aw_ald_n C dX0_make_148 rfl ?_
              obtain ⟨x43, hx43, h⟩ := Option.bind_eq_some_iff.mp h
              refine ah_getR C gf_X0_20 hx43 dX0_make_149 ?_
              obtain ⟨j44, hj44, h⟩ := Option.bind_eq_some_iff.mp h
              rw [hj44]
              obtain ⟨hb45, h⟩ := ck_some h
              obtain ⟨r46, hr46, h⟩ := Option.bind_eq_some_iff.mp h
              obtain ⟨fs47, hf47⟩ := isO_ex hb45
              refine aw_callV C (ci := 5) (b := j44) [] mv_X0_57 rfl rfl hf47 (rmX5_size hr46) rfl dX0_make_152 (Nat.le_of_ble_eq_true rfl) (Nat.le_of_ble_eq_true rfl) rfl (cs_1 rfl (cs_1 (rf_cat _) (cs_1 (rf_cat _) (cs_1 rfl cs_0)))) (show ((((((cells + 0) + 0) + 0) + 0) + 0) + 0) + 0 ≤ 0 by omega) (show ((((((slots + 0) + 0) + 0) + 0) + 0) + 0) + 0 ≤ 0 by omega) (fun v9 f9 n9 hh => ?_)
              obtain ⟨rfl, rfl, rfl⟩ := hh
              obtain ⟨j48, hj48, h⟩ := Option.bind_eq_some_iff.mp h
              rw [hj48]
              obtain ⟨hb49, h⟩ := ck_some h
              obtain ⟨r50, hr50, h⟩ := Option.bind_eq_some_iff.mp h
              obtain ⟨fs51, hf51⟩ := isO_ex hb49
              refine aw_callV C (ci := 5) (b := j48) [va_rf x42, .int (0 : Int32), .int r46.1] mv_X0_50 rfl rfl hf51 (rmX5_addPart hr50) rfl dX0_make_155 (Nat.le_of_ble_eq_true rfl) (Nat.le_of_ble_eq_true rfl) rfl (Nat.le_of_ble_eq_true rfl) (show (((((((cells + 0) + 0) + 0) + 0) + 0) + 0) + 0) + 0 ≤ 0 by omega) (show (((((((slots + 0) + 0) + 0) + 0) + 0) + 0) + 0) + 0 ≤ 0 by omega) (fun v9 f9 n9 hh => ?_)
              obtain ⟨rfl, rfl, rfl⟩ := hh
              refine aw_if_eq C 165 dX0_make_158 (by decide) (fun q => ?_) (fun q => ?_)
              · rw [if_pos q] at h
                refine aw_fl [some (.ref v0), some (va_rf (some j11)), some (va_rf (some j1)), some (.int x18), none, some (.int v5), some (va_rf (some j9)), some (va_rf (some j29))] ⟨rfl, ⟨rfl, ⟨rfl, ⟨rfl, ⟨rfl, ⟨rfl, ⟨rfl, trivial⟩⟩⟩⟩⟩⟩⟩ ?_
                exact rmX0_make_b165 C (fun v0 v1 v2 v3 v4 v5 f n cells slots hc hs h => ih v0 v1 v2 v3 v4 v5 f n cells slots hc hs h) (by omega) (by omega) h
              · rw [if_neg q] at h
                refine aw_iconst C 1 dX0_make_161 ki_1 ?_
                refine aw_goto C 166 dX0_make_162 (by decide) ?_
                refine aw_fl [some (.ref v0), some (va_rf (some j11)), some (va_rf (some j1)), some (.int x18), none, some (.int v5), some (va_rf (some j9)), some (va_rf (some j29))] ⟨rfl, ⟨rfl, ⟨rfl, ⟨rfl, ⟨rfl, ⟨rfl, ⟨rfl, trivial⟩⟩⟩⟩⟩⟩⟩ ?_
                exact rmX0_make_b166 C (fun v0 v1 v2 v3 v4 v5 f n cells slots hc hs h => ih v0 v1 v2 v3 v4 v5 f n cells slots hc hs h) (by omega) (by omega) h
def mX0_make (v0 : Nat) (v1 : Option Nat) (v2 : Option Nat) (f : AH) (n : Nat) : Option (Int32 × HpN) := ((gR f v0 0 0).bind fun x1 => ((x1).bind fun j2 => rCk (isO f j2 5) (((mX5_cutTo j2 (0 : Int32) f n).bind fun r4 => mX0_make_l16 rFU v0 v1 v2 (0 : Int32) (1 : Int32) (0 : Int32) r4.2.1 r4.2.2))))
set_option maxHeartbeats 1000000 in
theorem rmX0_make {X : GX} {l : Launch} {r : Int32 × HpN} {v0 : Nat} {v1 : Option Nat} {v2 : Option Nat} {f : AH} {n : Nat} (h : mX0_make v0 v1 v2 f n = some r) : AM X l yX0_make cX0_make 8 (some .boolean) 4 0 0 [.ref v0, va_rf v1, va_rf v2] f n (QHi r) := by
  have h : ((gR f v0 0 0).bind fun x1 => ((x1).bind fun j2 => rCk (isO f j2 5) (((mX5_cutTo j2 (0 : Int32) f n).bind fun r4 => mX0_make_l16 rFU v0 v1 v2 (0 : Int32) (1 : Int32) (0 : Int32) r4.2.1 r4.2.2)))) = some r := h
  refine AM.of (by decide +kernel) (all1 rfl (all1 (rf_cat _) (all1 (rf_cat _) rfl))) (Nat.le_of_ble_eq_true rfl) (fun p e s m args below meth c C hnm => ?_)
  refine aw_nl [some (.ref v0), some (va_rf v1), some (va_rf v2), none, none, none, none, none] rfl ?_
  refine aw_ald_n C dX0_make_0 rfl ?_
  obtain ⟨x1, hx1, h⟩ := Option.bind_eq_some_iff.mp h
  refine ah_getR C gf_X0_14 hx1 dX0_make_1 ?_
  refine aw_iconst C 0 dX0_make_4 ki_0 ?_
  obtain ⟨j2, hj2, h⟩ := Option.bind_eq_some_iff.mp h
  rw [hj2]
  obtain ⟨hb3, h⟩ := ck_some h
  obtain ⟨r4, hr4, h⟩ := Option.bind_eq_some_iff.mp h
  obtain ⟨fs5, hf5⟩ := isO_ex hb3
  refine aw_callV C (ci := 5) (b := j2) [.int (0 : Int32)] mv_X0_26 rfl rfl hf5 (rmX5_cutTo hr4) rfl dX0_make_5 (Nat.le_of_ble_eq_true rfl) (Nat.le_of_ble_eq_true rfl) rfl (Nat.le_of_ble_eq_true rfl) (show 0 + 0 ≤ 0 by omega) (show 0 + 0 ≤ 0 by omega) (fun v9 f9 n9 hh => ?_)
  obtain ⟨rfl, rfl, rfl⟩ := hh
  refine aw_iconst C 0 dX0_make_8 ki_0 ?_
  refine aw_istore_n C dX0_make_9 (by decide) (ok_rf 2 rfl) ?_
  refine aw_nl [some (.ref v0), some (va_rf v1), some (va_rf v2), some (.int (0 : Int32)), none, none, none, none] rfl ?_
  refine aw_iconst C 1 dX0_make_10 ki_1 ?_
  refine aw_istore C dX0_make_11 (by decide) rfl ?_
  refine aw_nl [some (.ref v0), some (va_rf v1), some (va_rf v2), some (.int (0 : Int32)), some (.int (1 : Int32)), none, none, none] rfl ?_
  refine aw_iconst C 0 dX0_make_13 ki_0 ?_
  refine aw_istore C dX0_make_14 (by decide) rfl ?_
  refine aw_nl [some (.ref v0), some (va_rf v1), some (va_rf v2), some (.int (0 : Int32)), some (.int (1 : Int32)), some (.int (0 : Int32)), none, none] rfl ?_
  refine aw_fl [some (.ref v0), some (va_rf v1), some (va_rf v2), some (.int (0 : Int32)), some (.int (1 : Int32)), some (.int (0 : Int32)), none, none] ⟨rfl, ⟨rfl, ⟨rfl, ⟨rfl, ⟨rfl, ⟨rfl, trivial⟩⟩⟩⟩⟩⟩ ?_
  exact rmX0_make_l16 C rFU v0 v1 v2 (0 : Int32) (1 : Int32) (0 : Int32) r4.2.1 r4.2.2 _ _ (by omega) (by omega) h
def mX8_cutAnew (v0 : Nat) (f : AH) (n : Nat) : Option (Int32 × HpN) := rCk (rNb (0 : Int32)) (((pO f v0 8 10 (.int (0 : Int32))).bind fun f2 => ((gR f2 v0 8 1).bind fun x3 => ((x3).bind fun j4 => rCk (isO f2 j4 7) (((mX7_forgetTold j4 f2 n).bind fun r6 => ((gR r6.2.1 v0 8 5).bind fun x8 => ((gR r6.2.1 v0 8 1).bind fun x9 => ((x9).bind fun j10 => ((gR r6.2.1 j10 7 0).bind fun x11 => ((gR r6.2.1 v0 8 1).bind fun x12 => ((x8).bind fun j13 => rCk (isO r6.2.1 j13 1) (((mX1_find j13 x11 x12 r6.2.1 r6.2.2).bind fun r15 => ((gR r15.2.1 v0 8 7).bind fun x17 => ((gR r15.2.1 v0 8 1).bind fun x18 => ((gR r15.2.1 v0 8 5).bind fun x19 => ((x17).bind fun j20 => rCk (isO r15.2.1 j20 0) (((mX0_make j20 x18 x19 r15.2.1 r15.2.2).bind fun r22 => some ((0 : Int32), (r22.2.1, r22.2.2))))))))))))))))))))))
set_option maxHeartbeats 1000000 in
theorem rmX8_cutAnew {X : GX} {l : Launch} {r : Int32 × HpN} {v0 : Nat} {f : AH} {n : Nat} (h : mX8_cutAnew v0 f n = some r) : AM X l yX8_cutAnew cX8_cutAnew 1 (some .int) 5 0 0 [.ref v0] f n (QHi r) := by
  have h : rCk (rNb (0 : Int32)) (((pO f v0 8 10 (.int (0 : Int32))).bind fun f2 => ((gR f2 v0 8 1).bind fun x3 => ((x3).bind fun j4 => rCk (isO f2 j4 7) (((mX7_forgetTold j4 f2 n).bind fun r6 => ((gR r6.2.1 v0 8 5).bind fun x8 => ((gR r6.2.1 v0 8 1).bind fun x9 => ((x9).bind fun j10 => ((gR r6.2.1 j10 7 0).bind fun x11 => ((gR r6.2.1 v0 8 1).bind fun x12 => ((x8).bind fun j13 => rCk (isO r6.2.1 j13 1) (((mX1_find j13 x11 x12 r6.2.1 r6.2.2).bind fun r15 => ((gR r15.2.1 v0 8 7).bind fun x17 => ((gR r15.2.1 v0 8 1).bind fun x18 => ((gR r15.2.1 v0 8 5).bind fun x19 => ((x17).bind fun j20 => rCk (isO r15.2.1 j20 0) (((mX0_make j20 x18 x19 r15.2.1 r15.2.2).bind fun r22 => some ((0 : Int32), (r22.2.1, r22.2.2)))))))))))))))))))))) = some r := h
  refine AM.of (by decide +kernel) rfl (Nat.le_of_ble_eq_true rfl) (fun p e s m args below meth c C hnm => ?_)
  refine aw_nl [some (.ref v0)] rfl ?_
  refine aw_ald_n C dX8_cutAnew_0 rfl ?_
  refine aw_iconst C 0 dX8_cutAnew_1 ki_0 ?_
  obtain ⟨hb1, h⟩ := ck_some h
  obtain ⟨f2, hf2, h⟩ := Option.bind_eq_some_iff.mp h
  refine ah_put C gf_X8_334 cf8 nf8_10 (nb_nar hb1) (nb_fit hb1) hf2 dX8_cutAnew_2 ?_
  refine aw_ald_n C dX8_cutAnew_5 rfl ?_
  obtain ⟨x3, hx3, h⟩ := Option.bind_eq_some_iff.mp h
  refine ah_getR C gf_X8_21 hx3 dX8_cutAnew_6 ?_
  obtain ⟨j4, hj4, h⟩ := Option.bind_eq_some_iff.mp h
  rw [hj4]
  obtain ⟨hb5, h⟩ := ck_some h
  obtain ⟨r6, hr6, h⟩ := Option.bind_eq_some_iff.mp h
  obtain ⟨fs7, hf7⟩ := isO_ex hb5
  refine aw_callV C (ci := 7) (b := j4) [] mv_X8_358 rfl rfl hf7 (rmX7_forgetTold hr6) rfl dX8_cutAnew_9 (Nat.le_of_ble_eq_true rfl) (Nat.le_of_ble_eq_true rfl) rfl (Nat.le_of_ble_eq_true rfl) (show 0 + 0 ≤ 0 by omega) (show 0 + 0 ≤ 0 by omega) (fun v9 f9 n9 hh => ?_)
  obtain ⟨rfl, rfl, rfl⟩ := hh
  refine aw_ald_n C dX8_cutAnew_12 rfl ?_
  obtain ⟨x8, hx8, h⟩ := Option.bind_eq_some_iff.mp h
  refine ah_getR C gf_X8_38 hx8 dX8_cutAnew_13 ?_
  refine aw_ald_n C dX8_cutAnew_16 rfl ?_
  obtain ⟨x9, hx9, h⟩ := Option.bind_eq_some_iff.mp h
  refine ah_getR C gf_X8_21 hx9 dX8_cutAnew_17 ?_
  obtain ⟨j10, hj10, h⟩ := Option.bind_eq_some_iff.mp h
  rw [hj10]
  obtain ⟨x11, hx11, h⟩ := Option.bind_eq_some_iff.mp h
  refine ah_getR C gf_X8_130 hx11 dX8_cutAnew_20 ?_
  refine aw_ald_n C dX8_cutAnew_23 rfl ?_
  obtain ⟨x12, hx12, h⟩ := Option.bind_eq_some_iff.mp h
  refine ah_getR C gf_X8_21 hx12 dX8_cutAnew_24 ?_
  obtain ⟨j13, hj13, h⟩ := Option.bind_eq_some_iff.mp h
  rw [hj13]
  obtain ⟨hb14, h⟩ := ck_some h
  obtain ⟨r15, hr15, h⟩ := Option.bind_eq_some_iff.mp h
  obtain ⟨fs16, hf16⟩ := isO_ex hb14
  refine aw_callV C (ci := 1) (b := j13) [va_rf x11, va_rf x12] mv_X8_361 rfl rfl hf16 (rmX1_find hr15) rfl dX8_cutAnew_27 (Nat.le_of_ble_eq_true rfl) (Nat.le_of_ble_eq_true rfl) rfl (Nat.le_of_ble_eq_true rfl) (show (0 + 0) + 0 ≤ 0 by omega) (show (0 + 0) + 0 ≤ 0 by omega) (fun v9 f9 n9 hh => ?_)
  obtain ⟨rfl, rfl, rfl⟩ := hh
  refine aw_ald_n C dX8_cutAnew_30 rfl ?_
  obtain ⟨x17, hx17, h⟩ := Option.bind_eq_some_iff.mp h
  refine ah_getR C gf_X8_48 hx17 dX8_cutAnew_31 ?_
  refine aw_ald_n C dX8_cutAnew_34 rfl ?_
  obtain ⟨x18, hx18, h⟩ := Option.bind_eq_some_iff.mp h
  refine ah_getR C gf_X8_21 hx18 dX8_cutAnew_35 ?_
  refine aw_ald_n C dX8_cutAnew_38 rfl ?_
  obtain ⟨x19, hx19, h⟩ := Option.bind_eq_some_iff.mp h
  refine ah_getR C gf_X8_38 hx19 dX8_cutAnew_39 ?_
  obtain ⟨j20, hj20, h⟩ := Option.bind_eq_some_iff.mp h
  rw [hj20]
  obtain ⟨hb21, h⟩ := ck_some h
  obtain ⟨r22, hr22, h⟩ := Option.bind_eq_some_iff.mp h
  obtain ⟨fs23, hf23⟩ := isO_ex hb21
  refine aw_callV C (ci := 0) (b := j20) [va_rf x18, va_rf x19] mv_X8_365 rfl rfl hf23 (rmX0_make hr22) rfl dX8_cutAnew_42 (Nat.le_of_ble_eq_true rfl) (Nat.le_of_ble_eq_true rfl) rfl (Nat.le_of_ble_eq_true rfl) (show ((0 + 0) + 0) + 0 ≤ 0 by omega) (show ((0 + 0) + 0) + 0 ≤ 0 by omega) (fun v9 f9 n9 hh => ?_)
  obtain ⟨rfl, rfl, rfl⟩ := hh
  refine aw_pop C dX8_cutAnew_45 rfl ?_
  refine aw_iconst C 0 dX8_cutAnew_46 ki_0 ?_
  cases h
  exact aw_iret C rfl rfl dX8_cutAnew_47 (by omega) (by omega) ⟨rfl, rfl, rfl⟩
def mX8_file (v0 : Nat) (f : AH) (n : Nat) : Option (Int32 × HpN) := ((gR f v0 8 1).bind fun x1 => ((gR f v0 8 0).bind fun x2 => ((gR f v0 8 0).bind fun x3 => ((x3).bind fun j4 => rCk (isO f j4 5) (((mX5_size j4 f n).bind fun r6 => ((x2).bind fun j8 => rCk (isO r6.2.1 j8 5) (((mX5_part 400 j8 (0 : Int32) r6.1 r6.2.1 r6.2.2).bind fun r10 => ((some r10.1).bind fun x12 => ((x1).bind fun j13 => ((pO r10.2.1 j13 7 0 (va_rf x12)).bind fun f14 => ((gR f14 v0 8 0).bind fun x15 => ((x15).bind fun j16 => rCk (isO f14 j16 5) (((mX5_cutTo j16 (0 : Int32) f14 r10.2.2).bind fun r18 => ((pO r18.2.1 v0 8 11 (.int (0 : Int32))).bind fun f20 => rCk (isO f20 v0 8) (((mX8_cutAnew v0 f20 r18.2.2).bind fun r22 => ((gR r22.2.1 v0 8 5).bind fun x24 => ((x24).bind fun j25 => rCk (isO r22.2.1 j25 1) (((mX1_size j25 r22.2.1 r22.2.2).bind fun r27 => some (r27.1, (r27.2.1, r27.2.2)))))))))))))))))))))))))
set_option maxHeartbeats 1000000 in
theorem rmX8_file {X : GX} {l : Launch} {r : Int32 × HpN} {v0 : Nat} {f : AH} {n : Nat} (h : mX8_file v0 f n = some r) : AM X l yX8_file cX8_file 1 (some .int) 6 2 402 [.ref v0] f n (QHi r) := by
  have h : ((gR f v0 8 1).bind fun x1 => ((gR f v0 8 0).bind fun x2 => ((gR f v0 8 0).bind fun x3 => ((x3).bind fun j4 => rCk (isO f j4 5) (((mX5_size j4 f n).bind fun r6 => ((x2).bind fun j8 => rCk (isO r6.2.1 j8 5) (((mX5_part 400 j8 (0 : Int32) r6.1 r6.2.1 r6.2.2).bind fun r10 => ((some r10.1).bind fun x12 => ((x1).bind fun j13 => ((pO r10.2.1 j13 7 0 (va_rf x12)).bind fun f14 => ((gR f14 v0 8 0).bind fun x15 => ((x15).bind fun j16 => rCk (isO f14 j16 5) (((mX5_cutTo j16 (0 : Int32) f14 r10.2.2).bind fun r18 => ((pO r18.2.1 v0 8 11 (.int (0 : Int32))).bind fun f20 => rCk (isO f20 v0 8) (((mX8_cutAnew v0 f20 r18.2.2).bind fun r22 => ((gR r22.2.1 v0 8 5).bind fun x24 => ((x24).bind fun j25 => rCk (isO r22.2.1 j25 1) (((mX1_size j25 r22.2.1 r22.2.2).bind fun r27 => some (r27.1, (r27.2.1, r27.2.2))))))))))))))))))))))))) = some r := h
  refine AM.of (by decide +kernel) rfl (Nat.le_of_ble_eq_true rfl) (fun p e s m args below meth c C hnm => ?_)
  refine aw_nl [some (.ref v0)] rfl ?_
  refine aw_ald_n C dX8_file_0 rfl ?_
  obtain ⟨x1, hx1, h⟩ := Option.bind_eq_some_iff.mp h
  refine ah_getR C gf_X8_21 hx1 dX8_file_1 ?_
  refine aw_ald_n C dX8_file_4 rfl ?_
  obtain ⟨x2, hx2, h⟩ := Option.bind_eq_some_iff.mp h
  refine ah_getR C gf_X8_14 hx2 dX8_file_5 ?_
  refine aw_iconst C 0 dX8_file_8 ki_0 ?_
  refine aw_ald_n C dX8_file_9 rfl ?_
  obtain ⟨x3, hx3, h⟩ := Option.bind_eq_some_iff.mp h
  refine ah_getR C gf_X8_14 hx3 dX8_file_10 ?_
  obtain ⟨j4, hj4, h⟩ := Option.bind_eq_some_iff.mp h
  rw [hj4]
  obtain ⟨hb5, h⟩ := ck_some h
  obtain ⟨r6, hr6, h⟩ := Option.bind_eq_some_iff.mp h
  obtain ⟨fs7, hf7⟩ := isO_ex hb5
  refine aw_callV C (ci := 5) (b := j4) [] mv_X8_63 rfl rfl hf7 (rmX5_size hr6) rfl dX8_file_13 (Nat.le_of_ble_eq_true rfl) (Nat.le_of_ble_eq_true rfl) rfl (cs_1 rfl (cs_1 (rf_cat _) (cs_1 (rf_cat _) cs_0))) (show 0 + 0 ≤ 2 by omega) (show 0 + 0 ≤ 402 by omega) (fun v9 f9 n9 hh => ?_)
  obtain ⟨rfl, rfl, rfl⟩ := hh
  obtain ⟨j8, hj8, h⟩ := Option.bind_eq_some_iff.mp h
  rw [hj8]
  obtain ⟨hb9, h⟩ := ck_some h
  obtain ⟨r10, hr10, h⟩ := Option.bind_eq_some_iff.mp h
  obtain ⟨fs11, hf11⟩ := isO_ex hb9
  refine aw_callV C (ci := 5) (b := j8) [.int (0 : Int32), .int r6.1] mv_X8_126 rfl rfl hf11 (rmX5_part hr10) rfl dX8_file_16 (Nat.le_of_ble_eq_true rfl) (Nat.le_of_ble_eq_true rfl) rfl (cs_1 (rf_cat _) cs_0) (show (0 + 0) + 2 ≤ 2 by omega) (show (0 + 0) + (2 + 400) ≤ 402 by omega) (fun v9 f9 n9 hh => ?_)
  obtain ⟨rfl, rfl, rfl⟩ := hh
  obtain ⟨x12, hx12, h⟩ := Option.bind_eq_some_iff.mp h
  rw [Option.some.inj hx12]
  obtain ⟨j13, hj13, h⟩ := Option.bind_eq_some_iff.mp h
  rw [hj13]
  obtain ⟨f14, hf14, h⟩ := Option.bind_eq_some_iff.mp h
  refine ah_put C gf_X8_130 cf7 nf7_0 (rf_nar _ x12) (rf_fit _ x12) hf14 dX8_file_19 ?_
  refine aw_ald_n C dX8_file_22 rfl ?_
  obtain ⟨x15, hx15, h⟩ := Option.bind_eq_some_iff.mp h
  refine ah_getR C gf_X8_14 hx15 dX8_file_23 ?_
  refine aw_iconst C 0 dX8_file_26 ki_0 ?_
  obtain ⟨j16, hj16, h⟩ := Option.bind_eq_some_iff.mp h
  rw [hj16]
  obtain ⟨hb17, h⟩ := ck_some h
  obtain ⟨r18, hr18, h⟩ := Option.bind_eq_some_iff.mp h
  obtain ⟨fs19, hf19⟩ := isO_ex hb17
  refine aw_callV C (ci := 5) (b := j16) [.int (0 : Int32)] mv_X8_70 rfl rfl hf19 (rmX5_cutTo hr18) rfl dX8_file_27 (Nat.le_of_ble_eq_true rfl) (Nat.le_of_ble_eq_true rfl) rfl (Nat.le_of_ble_eq_true rfl) (show ((0 + 0) + 2) + 0 ≤ 2 by omega) (show ((0 + 0) + (2 + 400)) + 0 ≤ 402 by omega) (fun v9 f9 n9 hh => ?_)
  obtain ⟨rfl, rfl, rfl⟩ := hh
  refine aw_ald_n C dX8_file_30 rfl ?_
  refine aw_iconst C 0 dX8_file_31 ki_0 ?_
  obtain ⟨f20, hf20, h⟩ := Option.bind_eq_some_iff.mp h
  refine ah_put C gf_X8_123 cf8 nf8_11 rfl rfl hf20 dX8_file_32 ?_
  refine aw_ald_n C dX8_file_35 rfl ?_
  obtain ⟨hb21, h⟩ := ck_some h
  obtain ⟨r22, hr22, h⟩ := Option.bind_eq_some_iff.mp h
  obtain ⟨fs23, hf23⟩ := isO_ex hb21
  refine aw_callV C (ci := 8) (b := v0) [] mv_X8_133 rfl rfl hf23 (rmX8_cutAnew hr22) rfl dX8_file_36 (Nat.le_of_ble_eq_true rfl) (Nat.le_of_ble_eq_true rfl) rfl (Nat.le_of_ble_eq_true rfl) (show (((0 + 0) + 2) + 0) + 0 ≤ 2 by omega) (show (((0 + 0) + (2 + 400)) + 0) + 0 ≤ 402 by omega) (fun v9 f9 n9 hh => ?_)
  obtain ⟨rfl, rfl, rfl⟩ := hh
  refine aw_pop C dX8_file_39 rfl ?_
  refine aw_ald_n C dX8_file_40 rfl ?_
  obtain ⟨x24, hx24, h⟩ := Option.bind_eq_some_iff.mp h
  refine ah_getR C gf_X8_38 hx24 dX8_file_41 ?_
  obtain ⟨j25, hj25, h⟩ := Option.bind_eq_some_iff.mp h
  rw [hj25]
  obtain ⟨hb26, h⟩ := ck_some h
  obtain ⟨r27, hr27, h⟩ := Option.bind_eq_some_iff.mp h
  obtain ⟨fs28, hf28⟩ := isO_ex hb26
  refine aw_callV C (ci := 1) (b := j25) [] mv_X8_136 rfl rfl hf28 (rmX1_size hr27) rfl dX8_file_44 (Nat.le_of_ble_eq_true rfl) (Nat.le_of_ble_eq_true rfl) rfl (Nat.le_of_ble_eq_true rfl) (show ((((0 + 0) + 2) + 0) + 0) + 0 ≤ 2 by omega) (show ((((0 + 0) + (2 + 400)) + 0) + 0) + 0 ≤ 402 by omega) (fun v9 f9 n9 hh => ?_)
  obtain ⟨rfl, rfl, rfl⟩ := hh
  cases h
  exact aw_iret C rfl rfl dX8_file_47 (by omega) (by omega) ⟨rfl, rfl, rfl⟩
