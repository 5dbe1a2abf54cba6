def mX8_spreadPiece_b147 (s0 : Int32) (f : AH) (n : Nat) : Option (Int32 × HpN) := some (s0, (f, n))
set_option maxHeartbeats 1000000 in
theorem rmX8_spreadPiece_b147 {X : GX} {p : Program} {l : Launch} {e : Env} {s : State} {m : MethodId} {args : Array Value} {below : List Frame} {meth : Method} {c : Code} {r : Int32 × HpN} {s0 : Int32} {f : AH} {n cells slots : Nat} (C : CC X p l (RM 5 0 0) s m args meth c RX8 cX8_spreadPiece 4 (some .int)) (hc : cells + 0 ≤ 0) (hs : slots + 0 ≤ 0) (h : mX8_spreadPiece_b147 s0 f n = some r) : AW X p l e (RM 5 0 0) s m args below meth c 4 (ZM X below args s 0 0 (QHi r)) f n cells slots 147 [none, none, none, none] [.int s0] := by
  have h : some (s0, (f, n)) = some r := h
  cases h
  exact aw_iret C rfl rfl dX8_spreadPiece_147 (by omega) (by omega) ⟨rfl, rfl, rfl⟩
def mX8_spreadPiece_b118 (rec86 : Nat → Int32 → (Option Nat) → Int32 → AH → Nat → Option (Int32 × HpN)) (v0 : Nat) (v1 : Int32) (v2 : Option Nat) (v3 : Int32) (f : AH) (n : Nat) : Option (Int32 × HpN) := rec86 v0 v1 v2 (v3 + (1 : Int32)) f n
set_option maxHeartbeats 1000000 in
theorem rmX8_spreadPiece_b118 {X : GX} {p : Program} {l : Launch} {e : Env} {s : State} {m : MethodId} {args : Array Value} {below : List Frame} {meth : Method} {c : Code} {r : Int32 × HpN} {rec86 : Nat → Int32 → (Option Nat) → Int32 → AH → Nat → Option (Int32 × HpN)} {v0 : Nat} {v1 : Int32} {v2 : Option Nat} {v3 : Int32} {f : AH} {n cells slots : Nat} (C : CC X p l (RM 5 0 0) s m args meth c RX8 cX8_spreadPiece 4 (some .int)) (Hr86 : ∀ (v0 : Nat) (v1 : Int32) (v2 : Option Nat) (v3 : Int32) (f : AH) (n cells slots : Nat), cells + 0 ≤ 0 → slots + 0 ≤ 0 → rec86 v0 v1 v2 v3 f n = some r → AW X p l e (RM 5 0 0) s m args below meth c 4 (ZM X below args s 0 0 (QHi r)) f n cells slots 86 [some (.ref v0), some (.int v1), some (va_rf v2), some (.int v3)] []) (hc : cells + 0 ≤ 0) (hs : slots + 0 ≤ 0) (h : mX8_spreadPiece_b118 rec86 v0 v1 v2 v3 f n = some r) : AW X p l e (RM 5 0 0) s m args below meth c 4 (ZM X below args s 0 0 (QHi r)) f n cells slots 118 [some (.ref v0), some (.int v1), some (va_rf v2), some (.int v3)] [] := by
  have h : rec86 v0 v1 v2 (v3 + (1 : Int32)) f n = some r := h
  refine aw_iinc C (v3 + (1 : Int32)) dX8_spreadPiece_118 rfl (by rw [ki_1]) (by decide) (ok_rf 2 rfl) ?_
  refine aw_nl [some (.ref v0), some (.int v1), some (va_rf v2), some (.int (v3 + (1 : Int32)))] rfl ?_
  refine aw_goto C 86 dX8_spreadPiece_121 (by decide) ?_
  refine aw_fl [some (.ref v0), some (.int v1), some (va_rf v2), some (.int (v3 + (1 : Int32)))] ⟨rfl, ⟨rfl, ⟨rfl, ⟨rfl, trivial⟩⟩⟩⟩ ?_
  exact Hr86 v0 v1 v2 (v3 + (1 : Int32)) f n _ _ (by omega) (by omega) h
def mX8_spreadPiece_l86 : Nat → Nat → Int32 → (Option Nat) → Int32 → AH → Nat → Option (Int32 × HpN)
  | 0, _, _, _, _, _, _ => none
  | d + 1, v0, v1, v2, v3, f, n => ((gR f v0 8 5).bind fun x1 => ((x1).bind fun j2 => rCk (isO f j2 1) (((mX1_size j2 f n).bind fun r4 => (if r4.1 ≤ v3 then ((gR r4.2.1 v0 8 7).bind fun x6 => ((gR r4.2.1 v0 8 1).bind fun x7 => ((gR r4.2.1 v0 8 5).bind fun x8 => ((x6).bind fun j9 => rCk (isO r4.2.1 j9 0) (((mX0_make j9 x7 x8 r4.2.1 r4.2.2).bind fun r11 => (if r11.1 = (0 : Int32) then mX8_spreadPiece_b147 (3 : Int32) r11.2.1 r11.2.2 else mX8_spreadPiece_b147 (0 : Int32) r11.2.1 r11.2.2))))))) else ((gR r4.2.1 v0 8 5).bind fun x13 => ((x13).bind fun j14 => rCk (isO r4.2.1 j14 1) (((mX1_areLike j14 v1 v3 r4.2.1 r4.2.2).bind fun r16 => (if r16.1 = (0 : Int32) then mX8_spreadPiece_b118 (fun v0 v1 v2 v3 f n => mX8_spreadPiece_l86 d v0 v1 v2 v3 f n) v0 v1 v2 v3 r16.2.1 r16.2.2 else ((gR r16.2.1 v0 8 1).bind fun x18 => ((x18).bind fun j19 => rCk (isO r16.2.1 j19 7) (((mX7_setTold j19 v3 v2 r16.2.1 r16.2.2).bind fun r21 => mX8_spreadPiece_b118 (fun v0 v1 v2 v3 f n => mX8_spreadPiece_l86 d v0 v1 v2 v3 f n) v0 v1 v2 v3 r21.2.1 r21.2.2))))))))))))))
set_option maxHeartbeats 1000000 in
theorem rmX8_spreadPiece_l86 {X : GX} {p : Program} {l : Launch} {e : Env} {s : State} {m : MethodId} {args : Array Value} {below : List Frame} {meth : Method} {c : Code} {r : Int32 × HpN} (C : CC X p l (RM 5 0 0) s m args meth c RX8 cX8_spreadPiece 4 (some .int)) : ∀ (d : Nat) (v0 : Nat) (v1 : Int32) (v2 : Option Nat) (v3 : Int32) (f : AH) (n cells slots : Nat) (_ : cells + 0 ≤ 0) (_ : slots + 0 ≤ 0) (_ : mX8_spreadPiece_l86 d v0 v1 v2 v3 f n = some r), AW X p l e (RM 5 0 0) s m args below meth c 4 (ZM X below args s 0 0 (QHi r)) f n cells slots 86 [some (.ref v0), some (.int v1), some (va_rf v2), some (.int v3)] [] := by
  intro d
  induction d with
  | zero =>
    intro v0 v1 v2 v3 f n cells slots hc hs h
    exact nomatch (show (none : Option (Int32 × HpN)) = some r from h)
  | succ d ih =>
    intro v0 v1 v2 v3 f n cells slots hc hs h
    have h : ((gR f v0 8 5).bind fun x1 => ((x1).bind fun j2 => rCk (isO f j2 1) (((mX1_size j2 f n).bind fun r4 => (if r4.1 ≤ v3 then ((gR r4.2.1 v0 8 7).bind fun x6 => ((gR r4.2.1 v0 8 1).bind fun x7 => ((gR r4.2.1 v0 8 5).bind fun x8 => ((x6).bind fun j9 => rCk (isO r4.2.1 j9 0) (((mX0_make j9 x7 x8 r4.2.1 r4.2.2).bind fun r11 => (if r11.1 = (0 : Int32) then mX8_spreadPiece_b147 (3 : Int32) r11.2.1 r11.2.2 else mX8_spreadPiece_b147 (0 : Int32) r11.2.1 r11.2.2))))))) else ((gR r4.2.1 v0 8 5).bind fun x13 => ((x13).bind fun j14 => rCk (isO r4.2.1 j14 1) (((mX1_areLike j14 v1 v3 r4.2.1 r4.2.2).bind fun r16 => (if r16.1 = (0 : Int32) then mX8_spreadPiece_b118 (fun v0 v1 v2 v3 f n => mX8_spreadPiece_l86 d v0 v1 v2 v3 f n) v0 v1 v2 v3 r16.2.1 r16.2.2 else ((gR r16.2.1 v0 8 1).bind fun x18 => ((x18).bind fun j19 => rCk (isO r16.2.1 j19 7) (((mX7_setTold j19 v3 v2 r16.2.1 r16.2.2).bind fun r21 => mX8_spreadPiece_b118 (fun v0 v1 v2 v3 f n => mX8_spreadPiece_l86 d v0 v1 v2 v3 f n) v0 v1 v2 v3 r21.2.1 r21.2.2)))))))))))))) = some r := h
    refine aw_iload_n C dX8_spreadPiece_86 rfl ?_
    refine aw_ald_n C dX8_spreadPiece_87 rfl ?_
    obtain ⟨x1, hx1, h⟩ := Option.bind_eq_some_iff.mp h
    refine ah_getR C gf_X8_38 hx1 dX8_spreadPiece_88 ?_
    obtain ⟨j2, hj2, h⟩ := Option.bind_eq_some_iff.mp h
    rw [hj2]
    obtain ⟨hb3, h⟩ := ck_some h
    obtain ⟨r4, hr4, h⟩ := Option.bind_eq_some_iff.mp h
    obtain ⟨fs5, hf5⟩ := isO_ex hb3
    refine aw_callV C (ci := 1) (b := j2) [] mv_X8_136 rfl rfl hf5 (rmX1_size hr4) rfl dX8_spreadPiece_91 (Nat.le_of_ble_eq_true rfl) (Nat.le_of_ble_eq_true rfl) rfl (Nat.le_of_ble_eq_true rfl) (show cells + 0 ≤ 0 by omega) (show slots + 0 ≤ 0 by omega) (fun v9 f9 n9 hh => ?_)
    obtain ⟨rfl, rfl, rfl⟩ := hh
    refine aw_icmp_ge C 124 dX8_spreadPiece_94 (by decide) (fun q => ?_) (fun q => ?_)
    · rw [if_pos q] at h
      refine aw_ald_n C dX8_spreadPiece_124 rfl ?_
      obtain ⟨x6, hx6, h⟩ := Option.bind_eq_some_iff.mp h
      refine ah_getR C gf_X8_48 hx6 dX8_spreadPiece_125 ?_
      refine aw_ald_n C dX8_spreadPiece_128 rfl ?_
      obtain ⟨x7, hx7, h⟩ := Option.bind_eq_some_iff.mp h
      refine ah_getR C gf_X8_21 hx7 dX8_spreadPiece_129 ?_
      refine aw_ald_n C dX8_spreadPiece_132 rfl ?_
      obtain ⟨x8, hx8, h⟩ := Option.bind_eq_some_iff.mp h
      refine ah_getR C gf_X8_38 hx8 dX8_spreadPiece_133 ?_
      obtain ⟨j9, hj9, h⟩ := Option.bind_eq_some_iff.mp h
      rw [hj9]
      obtain ⟨hb10, h⟩ := ck_some h
      obtain ⟨r11, hr11, h⟩ := Option.bind_eq_some_iff.mp h
      obtain ⟨fs12, hf12⟩ := isO_ex hb10
      refine aw_callV C (ci := 0) (b := j9) [va_rf x7, va_rf x8] mv_X8_365 rfl rfl hf12 (rmX0_make hr11) rfl dX8_spreadPiece_136 (Nat.le_of_ble_eq_true rfl) (Nat.le_of_ble_eq_true rfl) rfl (Nat.le_of_ble_eq_true rfl) (show (cells + 0) + 0 ≤ 0 by omega) (show (slots + 0) + 0 ≤ 0 by omega) (fun v9 f9 n9 hh => ?_)
      obtain ⟨rfl, rfl, rfl⟩ := hh
      refine aw_if_eq C 146 dX8_spreadPiece_139 (by decide) (fun q => ?_) (fun q => ?_)
      · rw [if_pos q] at h
        refine aw_iconst C 3 dX8_spreadPiece_146 ki_3 ?_
        refine aw_fl [none, none, none, none] trivial ?_
        exact rmX8_spreadPiece_b147 C (by omega) (by omega) h
      · rw [if_neg q] at h
        refine aw_iconst C 0 dX8_spreadPiece_142 ki_0 ?_
        refine aw_goto C 147 dX8_spreadPiece_143 (by decide) ?_
        refine aw_fl [none, none, none, none] trivial ?_
        exact rmX8_spreadPiece_b147 C (by omega) (by omega) h
    · rw [if_neg q] at h
      refine aw_ald_n C dX8_spreadPiece_97 rfl ?_
      obtain ⟨x13, hx13, h⟩ := Option.bind_eq_some_iff.mp h
      refine ah_getR C gf_X8_38 hx13 dX8_spreadPiece_98 ?_
      refine aw_iload_n C dX8_spreadPiece_101 rfl ?_
      refine aw_iload_n C dX8_spreadPiece_102 rfl ?_
      obtain ⟨j14, hj14, h⟩ := Option.bind_eq_some_iff.mp h
      rw [hj14]
      obtain ⟨hb15, h⟩ := ck_some h
      obtain ⟨r16, hr16, h⟩ := Option.bind_eq_some_iff.mp h
      obtain ⟨fs17, hf17⟩ := isO_ex hb15
      refine aw_callV C (ci := 1) (b := j14) [.int v1, .int v3] mv_X8_243 rfl rfl hf17 (rmX1_areLike hr16) rfl dX8_spreadPiece_103 (Nat.le_of_ble_eq_true rfl) (Nat.le_of_ble_eq_true rfl) rfl (Nat.le_of_ble_eq_true rfl) (show (cells + 0) + 0 ≤ 0 by omega) (show (slots + 0) + 0 ≤ 0 by omega) (fun v9 f9 n9 hh => ?_)
      obtain ⟨rfl, rfl, rfl⟩ := hh
      refine aw_if_eq C 118 dX8_spreadPiece_106 (by decide) (fun q => ?_) (fun q => ?_)
      · rw [if_pos q] at h
        refine aw_fl [some (.ref v0), some (.int v1), some (va_rf v2), some (.int v3)] ⟨rfl, ⟨rfl, ⟨rfl, ⟨rfl, trivial⟩⟩⟩⟩ ?_
        exact rmX8_spreadPiece_b118 C (fun v0 v1 v2 v3 f n cells slots hc hs h => ih v0 v1 v2 v3 f n cells slots hc hs h) (by omega) (by omega) h
      · rw [if_neg q] at h
        refine aw_ald_n C dX8_spreadPiece_109 rfl ?_
        obtain ⟨x18, hx18, h⟩ := Option.bind_eq_some_iff.mp h
        refine ah_getR C gf_X8_21 hx18 dX8_spreadPiece_110 ?_
        refine aw_iload_n C dX8_spreadPiece_113 rfl ?_
        refine aw_aload_n C dX8_spreadPiece_114 rfl (rf_or v2) ?_
        obtain ⟨j19, hj19, h⟩ := Option.bind_eq_some_iff.mp h
        rw [hj19]
        obtain ⟨hb20, h⟩ := ck_some h
        obtain ⟨r21, hr21, h⟩ := Option.bind_eq_some_iff.mp h
        obtain ⟨fs22, hf22⟩ := isO_ex hb20
        refine aw_callV C (ci := 7) (b := j19) [.int v3, va_rf v2] mv_X8_369 rfl rfl hf22 (rmX7_setTold hr21) rfl dX8_spreadPiece_115 (Nat.le_of_ble_eq_true rfl) (Nat.le_of_ble_eq_true rfl) rfl (Nat.le_of_ble_eq_true rfl) (show ((cells + 0) + 0) + 0 ≤ 0 by omega) (show ((slots + 0) + 0) + 0 ≤ 0 by omega) (fun v9 f9 n9 hh => ?_)
        obtain ⟨rfl, rfl, rfl⟩ := hh
        refine aw_fl [some (.ref v0), some (.int v1), some (va_rf v2), some (.int v3)] ⟨rfl, ⟨rfl, ⟨rfl, ⟨rfl, trivial⟩⟩⟩⟩ ?_
        exact rmX8_spreadPiece_b118 C (fun v0 v1 v2 v3 f n cells slots hc hs h => ih v0 v1 v2 v3 f n cells slots hc hs h) (by omega) (by omega) h
def mX8_spreadPiece_b78 (rec30 : Nat → Int32 → (Option Nat) → Int32 → AH → Nat → Option (Int32 × HpN)) (v0 : Nat) (v1 : Int32) (v2 : Option Nat) (v3 : Int32) (f : AH) (n : Nat) : Option (Int32 × HpN) := rec30 v0 v1 v2 (v3 + (1 : Int32)) f n
set_option maxHeartbeats 1000000 in
theorem rmX8_spreadPiece_b78 {X : GX} {p : Program} {l : Launch} {e : Env} {s : State} {m : MethodId} {args : Array Value} {below : List Frame} {meth : Method} {c : Code} {r : Int32 × HpN} {rec30 : Nat → Int32 → (Option Nat) → Int32 → AH → Nat → Option (Int32 × HpN)} {v0 : Nat} {v1 : Int32} {v2 : Option Nat} {v3 : Int32} {f : AH} {n cells slots : Nat} (C : CC X p l (RM 5 0 0) s m args meth c RX8 cX8_spreadPiece 4 (some .int)) (Hr30 : ∀ (v0 : Nat) (v1 : Int32) (v2 : Option Nat) (v3 : Int32) (f : AH) (n cells slots : Nat), cells + 0 ≤ 0 → slots + 0 ≤ 0 → rec30 v0 v1 v2 v3 f n = some r → AW X p l e (RM 5 0 0) s m args below meth c 4 (ZM X below args s 0 0 (QHi r)) f n cells slots 30 [some (.ref v0), some (.int v1), some (va_rf v2), some (.int v3)] []) (hc : cells + 0 ≤ 0) (hs : slots + 0 ≤ 0) (h : mX8_spreadPiece_b78 rec30 v0 v1 v2 v3 f n = some r) : AW X p l e (RM 5 0 0) s m args below meth c 4 (ZM X below args s 0 0 (QHi r)) f n cells slots 78 [some (.ref v0), some (.int v1), some (va_rf v2), some (.int v3)] [] := by
  have h : rec30 v0 v1 v2 (v3 + (1 : Int32)) f n = some r := h
  refine aw_iinc C (v3 + (1 : Int32)) dX8_spreadPiece_78 rfl (by rw [ki_1]) (by decide) (ok_rf 2 rfl) ?_
  refine aw_nl [some (.ref v0), some (.int v1), some (va_rf v2), some (.int (v3 + (1 : Int32)))] rfl ?_
  refine aw_goto C 30 dX8_spreadPiece_81 (by decide) ?_
  refine aw_fl [some (.ref v0), some (.int v1), some (va_rf v2), some (.int (v3 + (1 : Int32)))] ⟨rfl, ⟨rfl, ⟨rfl, ⟨rfl, trivial⟩⟩⟩⟩ ?_
  exact Hr30 v0 v1 v2 (v3 + (1 : Int32)) f n _ _ (by omega) (by omega) h
def mX8_spreadPiece_l30 : Nat → Nat → Int32 → (Option Nat) → Int32 → AH → Nat → Option (Int32 × HpN)
  | 0, _, _, _, _, _, _ => none
  | d + 1, v0, v1, v2, v3, f, n => ((gR f v0 8 5).bind fun x1 => ((x1).bind fun j2 => rCk (isO f j2 1) (((mX1_size j2 f n).bind fun r4 => (if r4.1 ≤ v3 then mX8_spreadPiece_l86 rFU v0 v1 v2 (0 : Int32) r4.2.1 r4.2.2 else ((gR r4.2.1 v0 8 5).bind fun x6 => ((x6).bind fun j7 => rCk (isO r4.2.1 j7 1) (((mX1_areLike j7 v1 v3 r4.2.1 r4.2.2).bind fun r9 => (if r9.1 = (0 : Int32) then mX8_spreadPiece_b78 (fun v0 v1 v2 v3 f n => mX8_spreadPiece_l30 d v0 v1 v2 v3 f n) v0 v1 v2 v3 r9.2.1 r9.2.2 else ((gR r9.2.1 v0 8 7).bind fun x11 => ((gR r9.2.1 v0 8 5).bind fun x12 => ((x12).bind fun j13 => rCk (isO r9.2.1 j13 1) (((mX1_get j13 v3 r9.2.1 r9.2.2).bind fun r15 => ((some r15.1).bind fun x17 => ((gR r15.2.1 v0 8 1).bind fun x18 => ((x11).bind fun j19 => rCk (isO r15.2.1 j19 0) (((mX0_escape j19 v2 x17 x18 r15.2.1 r15.2.2).bind fun r21 => (if r21.1 = (0 : Int32) then some ((2 : Int32), (r21.2.1, r21.2.2)) else mX8_spreadPiece_b78 (fun v0 v1 v2 v3 f n => mX8_spreadPiece_l30 d v0 v1 v2 v3 f n) v0 v1 v2 v3 r21.2.1 r21.2.2)))))))))))))))))))))
set_option maxHeartbeats 1000000 in
theorem rmX8_spreadPiece_l30 {X : GX} {p : Program} {l : Launch} {e : Env} {s : State} {m : MethodId} {args : Array Value} {below : List Frame} {meth : Method} {c : Code} {r : Int32 × HpN} (C : CC X p l (RM 5 0 0) s m args meth c RX8 cX8_spreadPiece 4 (some .int)) : ∀ (d : Nat) (v0 : Nat) (v1 : Int32) (v2 : Option Nat) (v3 : Int32) (f : AH) (n cells slots : Nat) (_ : cells + 0 ≤ 0) (_ : slots + 0 ≤ 0) (_ : mX8_spreadPiece_l30 d v0 v1 v2 v3 f n = some r), AW X p l e (RM 5 0 0) s m args below meth c 4 (ZM X below args s 0 0 (QHi r)) f n cells slots 30 [some (.ref v0), some (.int v1), some (va_rf v2), some (.int v3)] [] := by
  intro d
  induction d with
  | zero =>
    intro v0 v1 v2 v3 f n cells slots hc hs h
    exact nomatch (show (none : Option (Int32 × HpN)) = some r from h)
  | succ d ih =>
    intro v0 v1 v2 v3 f n cells slots hc hs h
    have h : ((gR f v0 8 5).bind fun x1 => ((x1).bind fun j2 => rCk (isO f j2 1) (((mX1_size j2 f n).bind fun r4 => (if r4.1 ≤ v3 then mX8_spreadPiece_l86 rFU v0 v1 v2 (0 : Int32) r4.2.1 r4.2.2 else ((gR r4.2.1 v0 8 5).bind fun x6 => ((x6).bind fun j7 => rCk (isO r4.2.1 j7 1) (((mX1_areLike j7 v1 v3 r4.2.1 r4.2.2).bind fun r9 => (if r9.1 = (0 : Int32) then mX8_spreadPiece_b78 (fun v0 v1 v2 v3 f n => mX8_spreadPiece_l30 d v0 v1 v2 v3 f n) v0 v1 v2 v3 r9.2.1 r9.2.2 else ((gR r9.2.1 v0 8 7).bind fun x11 => ((gR r9.2.1 v0 8 5).bind fun x12 => ((x12).bind fun j13 => rCk (isO r9.2.1 j13 1) (((mX1_get j13 v3 r9.2.1 r9.2.2).bind fun r15 => ((some r15.1).bind fun x17 => ((gR r15.2.1 v0 8 1).bind fun x18 => ((x11).bind fun j19 => rCk (isO r15.2.1 j19 0) (((mX0_escape j19 v2 x17 x18 r15.2.1 r15.2.2).bind fun r21 => (if r21.1 = (0 : Int32) then some ((2 : Int32), (r21.2.1, r21.2.2)) else mX8_spreadPiece_b78 (fun v0 v1 v2 v3 f n => mX8_spreadPiece_l30 d v0 v1 v2 v3 f n) v0 v1 v2 v3 r21.2.1 r21.2.2))))))))))))))))))))) = some r := h
    refine aw_iload_n C dX8_spreadPiece_30 rfl ?_
    refine aw_ald_n C dX8_spreadPiece_31 rfl ?_
    obtain ⟨x1, hx1, h⟩ := Option.bind_eq_some_iff.mp h
    refine ah_getR C gf_X8_38 hx1 dX8_spreadPiece_32 ?_
    obtain ⟨j2, hj2, h⟩ := Option.bind_eq_some_iff.mp h
    rw [hj2]
    obtain ⟨hb3, h⟩ := ck_some h
    obtain ⟨r4, hr4, h⟩ := Option.bind_eq_some_iff.mp h
    obtain ⟨fs5, hf5⟩ := isO_ex hb3
    refine aw_callV C (ci := 1) (b := j2) [] mv_X8_136 rfl rfl hf5 (rmX1_size hr4) rfl dX8_spreadPiece_35 (Nat.le_of_ble_eq_true rfl) (Nat.le_of_ble_eq_true rfl) rfl (Nat.le_of_ble_eq_true rfl) (show cells + 0 ≤ 0 by omega) (show slots + 0 ≤ 0 by omega) (fun v9 f9 n9 hh => ?_)
    obtain ⟨rfl, rfl, rfl⟩ := hh
    refine aw_icmp_ge C 84 dX8_spreadPiece_38 (by decide) (fun q => ?_) (fun q => ?_)
    · rw [if_pos q] at h
      refine aw_iconst C 0 dX8_spreadPiece_84 ki_0 ?_
      refine aw_istore_n C dX8_spreadPiece_85 (by decide) (ok_rf 2 rfl) ?_
      refine aw_nl [some (.ref v0), some (.int v1), some (va_rf v2), some (.int (0 : Int32))] rfl ?_
      refine aw_fl [some (.ref v0), some (.int v1), some (va_rf v2), some (.int (0 : Int32))] ⟨rfl, ⟨rfl, ⟨rfl, ⟨rfl, trivial⟩⟩⟩⟩ ?_
      exact rmX8_spreadPiece_l86 C rFU v0 v1 v2 (0 : Int32) r4.2.1 r4.2.2 _ _ (by omega) (by omega) h
    · rw [if_neg q] at h
      refine aw_ald_n C dX8_spreadPiece_41 rfl ?_
      obtain ⟨x6, hx6, h⟩ := Option.bind_eq_some_iff.mp h
      refine ah_getR C gf_X8_38 hx6 dX8_spreadPiece_42 ?_
      refine aw_iload_n C dX8_spreadPiece_45 rfl ?_
      refine aw_iload_n C dX8_spreadPiece_46 rfl ?_
      obtain ⟨j7, hj7, h⟩ := Option.bind_eq_some_iff.mp h
      rw [hj7]
      obtain ⟨hb8, h⟩ := ck_some h
      obtain ⟨r9, hr9, h⟩ := Option.bind_eq_some_iff.mp h
      obtain ⟨fs10, hf10⟩ := isO_ex hb8
      refine aw_callV C (ci := 1) (b := j7) [.int v1, .int v3] mv_X8_243 rfl rfl hf10 (rmX1_areLike hr9) rfl dX8_spreadPiece_47 (Nat.le_of_ble_eq_true rfl) (Nat.le_of_ble_eq_true rfl) rfl (Nat.le_of_ble_eq_true rfl) (show (cells + 0) + 0 ≤ 0 by omega) (show (slots + 0) + 0 ≤ 0 by omega) (fun v9 f9 n9 hh => ?_)
      obtain ⟨rfl, rfl, rfl⟩ := hh
      refine aw_if_eq C 78 dX8_spreadPiece_50 (by decide) (fun q => ?_) (fun q => ?_)
      · rw [if_pos q] at h
        refine aw_fl [some (.ref v0), some (.int v1), some (va_rf v2), some (.int v3)] ⟨rfl, ⟨rfl, ⟨rfl, ⟨rfl, trivial⟩⟩⟩⟩ ?_
        exact rmX8_spreadPiece_b78 C (fun v0 v1 v2 v3 f n cells slots hc hs h => ih v0 v1 v2 v3 f n cells slots hc hs h) (by omega) (by omega) h
      · rw [if_neg q] at h
        refine aw_ald_n C dX8_spreadPiece_53 rfl ?_
        obtain ⟨x11, hx11, h⟩ := Option.bind_eq_some_iff.mp h
        refine ah_getR C gf_X8_48 hx11 dX8_spreadPiece_54 ?_
        refine aw_aload_n C dX8_spreadPiece_57 rfl (rf_or v2) ?_
        refine aw_ald_n C dX8_spreadPiece_58 rfl ?_
        obtain ⟨x12, hx12, h⟩ := Option.bind_eq_some_iff.mp h
        refine ah_getR C gf_X8_38 hx12 dX8_spreadPiece_59 ?_
        refine aw_iload_n C dX8_spreadPiece_62 rfl ?_
        obtain ⟨j13, hj13, h⟩ := Option.bind_eq_some_iff.mp h
        rw [hj13]
        obtain ⟨hb14, h⟩ := ck_some h
        obtain ⟨r15, hr15, h⟩ := Option.bind_eq_some_iff.mp h
        obtain ⟨fs16, hf16⟩ := isO_ex hb14
        refine aw_callV C (ci := 1) (b := j13) [.int v3] mv_X8_241 rfl rfl hf16 (rmX1_get hr15) rfl dX8_spreadPiece_63 (Nat.le_of_ble_eq_true rfl) (Nat.le_of_ble_eq_true rfl) rfl (cs_1 (rf_cat _) (cs_1 (rf_cat _) cs_0)) (show ((cells + 0) + 0) + 0 ≤ 0 by omega) (show ((slots + 0) + 0) + 0 ≤ 0 by omega) (fun v9 f9 n9 hh => ?_)
        obtain ⟨rfl, rfl, rfl⟩ := hh
        obtain ⟨x17, hx17, h⟩ := Option.bind_eq_some_iff.mp h
        rw [Option.some.inj hx17]
        refine aw_ald_n C dX8_spreadPiece_66 rfl ?_
        obtain ⟨x18, hx18, h⟩ := Option.bind_eq_some_iff.mp h
        refine ah_getR C gf_X8_21 hx18 dX8_spreadPiece_67 ?_
        obtain ⟨j19, hj19, h⟩ := Option.bind_eq_some_iff.mp h
        rw [hj19]
        obtain ⟨hb20, h⟩ := ck_some h
        obtain ⟨r21, hr21, h⟩ := Option.bind_eq_some_iff.mp h
        obtain ⟨fs22, hf22⟩ := isO_ex hb20
        refine aw_callV C (ci := 0) (b := j19) [va_rf v2, va_rf x17, va_rf x18] mv_X8_247 rfl rfl hf22 (rmX0_escape hr21) rfl dX8_spreadPiece_70 (Nat.le_of_ble_eq_true rfl) (Nat.le_of_ble_eq_true rfl) rfl (Nat.le_of_ble_eq_true rfl) (show (((cells + 0) + 0) + 0) + 0 ≤ 0 by omega) (show (((slots + 0) + 0) + 0) + 0 ≤ 0 by omega) (fun v9 f9 n9 hh => ?_)
        obtain ⟨rfl, rfl, rfl⟩ := hh
        refine aw_if_ne C 78 dX8_spreadPiece_73 (by decide) (fun q => ?_) (fun q => ?_)
        · rw [if_neg q] at h
          refine aw_fl [some (.ref v0), some (.int v1), some (va_rf v2), some (.int v3)] ⟨rfl, ⟨rfl, ⟨rfl, ⟨rfl, trivial⟩⟩⟩⟩ ?_
          exact rmX8_spreadPiece_b78 C (fun v0 v1 v2 v3 f n cells slots hc hs h => ih v0 v1 v2 v3 f n cells slots hc hs h) (by omega) (by omega) h
        · rw [if_pos q] at h
          refine aw_iconst C 2 dX8_spreadPiece_76 ki_2 ?_
          cases h
          exact aw_iret C rfl rfl dX8_spreadPiece_77 (by omega) (by omega) ⟨rfl, rfl, rfl⟩
def mX8_spreadPiece (v0 : Nat) (v1 : Int32) (f : AH) (n : Nat) : Option (Int32 × HpN) := ((gR f v0 8 5).bind fun x1 => ((x1).bind fun j2 => rCk (isO f j2 1) (((mX1_get j2 v1 f n).bind fun r4 => ((some r4.1).bind fun x6 => (oN x6 (some ((1 : Int32), (r4.2.1, r4.2.2))) (fun j7 => ((gR r4.2.1 v0 8 1).bind fun x8 => ((x8).bind fun j9 => rCk (isO r4.2.1 j9 7) (((mX7_toldFor j9 v1 r4.2.1 r4.2.2).bind fun r11 => ((some r11.1).bind fun x13 => (oN x13 (some ((4 : Int32), (r11.2.1, r11.2.2))) (fun j14 => mX8_spreadPiece_l30 rFU v0 v1 (some j14) (0 : Int32) r11.2.1 r11.2.2))))))))))))))
set_option maxHeartbeats 1000000 in
theorem rmX8_spreadPiece {X : GX} {l : Launch} {r : Int32 × HpN} {v0 : Nat} {v1 : Int32} {f : AH} {n : Nat} (h : mX8_spreadPiece v0 v1 f n = some r) : AM X l yX8_spreadPiece cX8_spreadPiece 4 (some .int) 5 0 0 [.ref v0, .int v1] f n (QHi r) := by
  have h : ((gR f v0 8 5).bind fun x1 => ((x1).bind fun j2 => rCk (isO f j2 1) (((mX1_get j2 v1 f n).bind fun r4 => ((some r4.1).bind fun x6 => (oN x6 (some ((1 : Int32), (r4.2.1, r4.2.2))) (fun j7 => ((gR r4.2.1 v0 8 1).bind fun x8 => ((x8).bind fun j9 => rCk (isO r4.2.1 j9 7) (((mX7_toldFor j9 v1 r4.2.1 r4.2.2).bind fun r11 => ((some r11.1).bind fun x13 => (oN x13 (some ((4 : Int32), (r11.2.1, r11.2.2))) (fun j14 => mX8_spreadPiece_l30 rFU v0 v1 (some j14) (0 : Int32) r11.2.1 r11.2.2)))))))))))))) = some r := h
  refine AM.of (by decide +kernel) rfl (Nat.le_of_ble_eq_true rfl) (fun p e s m args below meth c C hnm => ?_)
  refine aw_nl [some (.ref v0), some (.int v1), none, none] rfl ?_
  refine aw_ald_n C dX8_spreadPiece_0 rfl ?_
  obtain ⟨x1, hx1, h⟩ := Option.bind_eq_some_iff.mp h
  refine ah_getR C gf_X8_38 hx1 dX8_spreadPiece_1 ?_
  refine aw_iload_n C dX8_spreadPiece_4 rfl ?_
  obtain ⟨j2, hj2, h⟩ := Option.bind_eq_some_iff.mp h
  rw [hj2]
  obtain ⟨hb3, h⟩ := ck_some h
  obtain ⟨r4, hr4, h⟩ := Option.bind_eq_some_iff.mp h
  obtain ⟨fs5, hf5⟩ := isO_ex hb3
  refine aw_callV C (ci := 1) (b := j2) [.int v1] mv_X8_241 rfl rfl hf5 (rmX1_get hr4) rfl dX8_spreadPiece_5 (Nat.le_of_ble_eq_true rfl) (Nat.le_of_ble_eq_true rfl) rfl (Nat.le_of_ble_eq_true rfl) (show 0 + 0 ≤ 0 by omega) (show 0 + 0 ≤ 0 by omega) (fun v9 f9 n9 hh => ?_)
  obtain ⟨rfl, rfl, rfl⟩ := hh
  obtain ⟨x6, hx6, h⟩ := Option.bind_eq_some_iff.mp h
  rw [Option.some.inj hx6]
  cases x6 with
  | none =>
    replace h : some ((1 : Int32), (r4.2.1, r4.2.2)) = some r := h
    refine aw_ifnonnull_n C 13 dX8_spreadPiece_8 (by decide) ?_
    refine aw_iconst C 1 dX8_spreadPiece_11 ki_1 ?_
    cases h
    exact aw_iret C rfl rfl dX8_spreadPiece_12 (by omega) (by omega) ⟨rfl, rfl, rfl⟩
  | some j7 =>
    replace h : ((gR r4.2.1 v0 8 1).bind fun x8 => ((x8).bind fun j9 => rCk (isO r4.2.1 j9 7) (((mX7_toldFor j9 v1 r4.2.1 r4.2.2).bind fun r11 => ((some r11.1).bind fun x13 => (oN x13 (some ((4 : Int32), (r11.2.1, r11.2.2))) (fun j14 => mX8_spreadPiece_l30 rFU v0 v1 (some j14) (0 : Int32) r11.2.1 r11.2.2))))))) = some r := h
    refine aw_ifnonnull_r C 13 dX8_spreadPiece_8 (by decide) ?_
    refine aw_ald_n C dX8_spreadPiece_13 rfl ?_
    obtain ⟨x8, hx8, h⟩ := Option.bind_eq_some_iff.mp h
    refine ah_getR C gf_X8_21 hx8 dX8_spreadPiece_14 ?_
    refine aw_iload_n C dX8_spreadPiece_17 rfl ?_
    obtain ⟨j9, hj9, h⟩ := Option.bind_eq_some_iff.mp h
    rw [hj9]
    obtain ⟨hb10, h⟩ := ck_some h
    obtain ⟨r11, hr11, h⟩ := Option.bind_eq_some_iff.mp h
    obtain ⟨fs12, hf12⟩ := isO_ex hb10
    refine aw_callV C (ci := 7) (b := j9) [.int v1] mv_X8_194 rfl rfl hf12 (rmX7_toldFor hr11) rfl dX8_spreadPiece_18 (Nat.le_of_ble_eq_true rfl) (Nat.le_of_ble_eq_true rfl) rfl (Nat.le_of_ble_eq_true rfl) (show (0 + 0) + 0 ≤ 0 by omega) (show (0 + 0) + 0 ≤ 0 by omega) (fun v9 f9 n9 hh => ?_)
    obtain ⟨rfl, rfl, rfl⟩ := hh
    obtain ⟨x13, hx13, h⟩ := Option.bind_eq_some_iff.mp h
    rw [Option.some.inj hx13]
    refine aw_astore_n C dX8_spreadPiece_21 (by decide) rfl (rf_or x13) ?_
    refine aw_nl [some (.ref v0), some (.int v1), some (va_rf x13), none] rfl ?_
    refine aw_aload_n C dX8_spreadPiece_22 rfl (rf_or x13) ?_
    cases x13 with
    | none =>
      replace h : some ((4 : Int32), (r11.2.1, r11.2.2)) = some r := h
      refine aw_ifnonnull_n C 28 dX8_spreadPiece_23 (by decide) ?_
      refine aw_iconst C 4 dX8_spreadPiece_26 ki_4 ?_
      cases h
      exact aw_iret C rfl rfl dX8_spreadPiece_27 (by omega) (by omega) ⟨rfl, rfl, rfl⟩
    | some j14 =>
      replace h : mX8_spreadPiece_l30 rFU v0 v1 (some j14) (0 : Int32) r11.2.1 r11.2.2 = some r := h
      refine aw_ifnonnull_r C 28 dX8_spreadPiece_23 (by decide) ?_
      refine aw_iconst C 0 dX8_spreadPiece_28 ki_0 ?_
      refine aw_istore_n C dX8_spreadPiece_29 (by decide) rfl ?_
      refine aw_nl [some (.ref v0), some (.int v1), some (.ref j14), some (.int (0 : Int32))] rfl ?_
      refine aw_fl [some (.ref v0), some (.int v1), some (va_rf (some j14)), some (.int (0 : Int32))] ⟨rfl, ⟨rfl, ⟨rfl, ⟨rfl, trivial⟩⟩⟩⟩ ?_
      exact rmX8_spreadPiece_l30 C rFU v0 v1 (some j14) (0 : Int32) r11.2.1 r11.2.2 _ _ (by omega) (by omega) h
def mX8_nowSize_b24 (s0 : Int32) (f : AH) (n : Nat) : Option (Int32 × HpN) := some (s0, (f, n))
set_option maxHeartbeats 1000000 in
theorem rmX8_nowSize_b24 {X : GX} {p : Program} {l : Launch} {e : Env} {s : State} {m : MethodId} {args : Array Value} {below : List Frame} {meth : Method} {c : Code} {r : Int32 × HpN} {s0 : Int32} {f : AH} {n cells slots : Nat} (C : CC X p l (RM 1 0 0) s m args meth c RX8 cX8_nowSize 4 (some .int)) (hc : cells + 0 ≤ 0) (hs : slots + 0 ≤ 0) (h : mX8_nowSize_b24 s0 f n = some r) : AW X p l e (RM 1 0 0) s m args below meth c 4 (ZM X below args s 0 0 (QHi r)) f n cells slots 24 [none, none, none, none] [.int s0] := by
  have h : some (s0, (f, n)) = some r := h
  cases h
  exact aw_iret C rfl rfl dX8_nowSize_24 (by omega) (by omega) ⟨rfl, rfl, rfl⟩
def mX8_nowSize (v0 : Nat) (v1 : Int32) (v2 : Option Nat) (f : AH) (n : Nat) : Option (Int32 × HpN) := ((gR f v0 8 1).bind fun x1 => ((x1).bind fun j2 => rCk (isO f j2 7) (((mX7_toldFor j2 v1 f n).bind fun r4 => ((some r4.1).bind fun x6 => (oN x6 (((v2).bind fun j8 => ((gI r4.2.1 j8 3 3).bind fun x9 => mX8_nowSize_b24 x9 r4.2.1 r4.2.2))) (fun j7 => rCk (isO r4.2.1 j7 5) (((mX5_size j7 r4.2.1 r4.2.2).bind fun r11 => mX8_nowSize_b24 r11.1 r11.2.1 r11.2.2)))))))))
set_option maxHeartbeats 1000000 in
theorem rmX8_nowSize {X : GX} {l : Launch} {r : Int32 × HpN} {v0 : Nat} {v1 : Int32} {v2 : Option Nat} {f : AH} {n : Nat} (h : mX8_nowSize v0 v1 v2 f n = some r) : AM X l yX8_nowSize cX8_nowSize 4 (some .int) 1 0 0 [.ref v0, .int v1, va_rf v2] f n (QHi r) := by
  have h : ((gR f v0 8 1).bind fun x1 => ((x1).bind fun j2 => rCk (isO f j2 7) (((mX7_toldFor j2 v1 f n).bind fun r4 => ((some r4.1).bind fun x6 => (oN x6 (((v2).bind fun j8 => ((gI r4.2.1 j8 3 3).bind fun x9 => mX8_nowSize_b24 x9 r4.2.1 r4.2.2))) (fun j7 => rCk (isO r4.2.1 j7 5) (((mX5_size j7 r4.2.1 r4.2.2).bind fun r11 => mX8_nowSize_b24 r11.1 r11.2.1 r11.2.2))))))))) = some r := h
  refine AM.of (by decide +kernel) (all1 rfl (all1 rfl (all1 (rf_cat _) rfl))) (Nat.le_of_ble_eq_true rfl) (fun p e s m args below meth c C hnm => ?_)
  refine aw_nl [some (.ref v0), some (.int v1), some (va_rf v2), none] rfl ?_
  refine aw_ald_n C dX8_nowSize_0 rfl ?_
  obtain ⟨x1, hx1, h⟩ := Option.bind_eq_some_iff.mp h
  refine ah_getR C gf_X8_21 hx1 dX8_nowSize_1 ?_
  refine aw_iload_n C dX8_nowSize_4 rfl ?_
  obtain ⟨j2, hj2, h⟩ := Option.bind_eq_some_iff.mp h
  rw [hj2]
  obtain ⟨hb3, h⟩ := ck_some h
  obtain ⟨r4, hr4, h⟩ := Option.bind_eq_some_iff.mp h
  obtain ⟨fs5, hf5⟩ := isO_ex hb3
  refine aw_callV C (ci := 7) (b := j2) [.int v1] mv_X8_194 rfl rfl hf5 (rmX7_toldFor hr4) rfl dX8_nowSize_5 (Nat.le_of_ble_eq_true rfl) (Nat.le_of_ble_eq_true rfl) rfl (Nat.le_of_ble_eq_true rfl) (show 0 + 0 ≤ 0 by omega) (show 0 + 0 ≤ 0 by omega) (fun v9 f9 n9 hh => ?_)
  obtain ⟨rfl, rfl, rfl⟩ := hh
  obtain ⟨x6, hx6, h⟩ := Option.bind_eq_some_iff.mp h
  rw [Option.some.inj hx6]
  refine aw_astore_n C dX8_nowSize_8 (by decide) (ok_rf 2 rfl) (rf_or x6) ?_
  refine aw_nl [some (.ref v0), some (.int v1), some (va_rf v2), some (va_rf x6)] rfl ?_
  refine aw_aload_n C dX8_nowSize_9 rfl (rf_or x6) ?_
  cases x6 with
  | none =>
    replace h : ((v2).bind fun j8 => ((gI r4.2.1 j8 3 3).bind fun x9 => mX8_nowSize_b24 x9 r4.2.1 r4.2.2)) = some r := h
    refine aw_ifnonnull_n C 20 dX8_nowSize_10 (by decide) ?_
    refine aw_aload_n C dX8_nowSize_13 rfl (rf_or v2) ?_
    obtain ⟨j8, hj8, h⟩ := Option.bind_eq_some_iff.mp h
    rw [hj8]
    obtain ⟨x9, hx9, h⟩ := Option.bind_eq_some_iff.mp h
    refine ah_getI C gf_X8_187 hx9 dX8_nowSize_14 ?_
    refine aw_goto C 24 dX8_nowSize_17 (by decide) ?_
    refine aw_fl [none, none, none, none] trivial ?_
    exact rmX8_nowSize_b24 C (by omega) (by omega) h
  | some j7 =>
    replace h : rCk (isO r4.2.1 j7 5) (((mX5_size j7 r4.2.1 r4.2.2).bind fun r11 => mX8_nowSize_b24 r11.1 r11.2.1 r11.2.2)) = some r := h
    refine aw_ifnonnull_r C 20 dX8_nowSize_10 (by decide) ?_
    refine aw_ald_n C dX8_nowSize_20 rfl ?_
    obtain ⟨hb10, h⟩ := ck_some h
    obtain ⟨r11, hr11, h⟩ := Option.bind_eq_some_iff.mp h
    obtain ⟨fs12, hf12⟩ := isO_ex hb10
    refine aw_callV C (ci := 5) (b := j7) [] mv_X8_63 rfl rfl hf12 (rmX5_size hr11) rfl dX8_nowSize_21 (Nat.le_of_ble_eq_true rfl) (Nat.le_of_ble_eq_true rfl) rfl (Nat.le_of_ble_eq_true rfl) (show (0 + 0) + 0 ≤ 0 by omega) (show (0 + 0) + 0 ≤ 0 by omega) (fun v9 f9 n9 hh => ?_)
    obtain ⟨rfl, rfl, rfl⟩ := hh
    refine aw_fl [none, none, none, none] trivial ?_
    exact rmX8_nowSize_b24 C (by omega) (by omega) h
def mX8_copyOfNow_b35 (s0 : Option Nat) (f : AH) (n : Nat) : Option (Option Nat × HpN) := some (s0, (f, n))
set_option maxHeartbeats 1000000 in
theorem rmX8_copyOfNow_b35 {X : GX} {p : Program} {l : Launch} {e : Env} {s : State} {m : MethodId} {args : Array Value} {below : List Frame} {meth : Method} {c : Code} {r : Option Nat × HpN} {s0 : Option Nat} {f : AH} {n cells slots : Nat} (C : CC X p l (RM 3 2 62) s m args meth c RX8 cX8_copyOfNow 4 (some (.object "PieceFiles$Row"))) (hc : cells + 0 ≤ 2) (hs : slots + 0 ≤ 62) (h : mX8_copyOfNow_b35 s0 f n = some r) : AW X p l e (RM 3 2 62) s m args below meth c 4 (ZM X below args s 2 62 (QHr r)) f n cells slots 35 [none, none, none, none] [va_rf s0] := by
  have h : some (s0, (f, n)) = some r := h
  cases h
  exact aw_aret C rfl (rf_or _) dX8_copyOfNow_35 (by omega) (by omega) ⟨rfl, rfl, rfl⟩
def mX8_copyOfNow (v0 : Nat) (v1 : Int32) (v2 : Option Nat) (f : AH) (n : Nat) : Option (Option Nat × HpN) := ((gR f v0 8 1).bind fun x1 => ((x1).bind fun j2 => rCk (isO f j2 7) (((mX7_toldFor j2 v1 f n).bind fun r4 => ((some r4.1).bind fun x6 => (oN x6 (((gR r4.2.1 v0 8 5).bind fun x8 => ((x8).bind fun j9 => ((gR r4.2.1 j9 1 0).bind fun x10 => ((v2).bind fun j11 => ((gI r4.2.1 j11 3 2).bind fun x12 => ((gI r4.2.1 j11 3 3).bind fun x13 => ((x10).bind fun j14 => rCk (isO r4.2.1 j14 5) (((mX5_part 60 j14 x12 x13 r4.2.1 r4.2.2).bind fun r16 => ((some r16.1).bind fun x18 => mX8_copyOfNow_b35 x18 r16.2.1 r16.2.2))))))))))) (fun j7 => mX8_copyOfNow_b35 (some j7) r4.2.1 r4.2.2)))))))
set_option maxHeartbeats 1000000 in
theorem rmX8_copyOfNow {X : GX} {l : Launch} {r : Option Nat × HpN} {v0 : Nat} {v1 : Int32} {v2 : Option Nat} {f : AH} {n : Nat} (h : mX8_copyOfNow v0 v1 v2 f n = some r) : AM X l yX8_copyOfNow cX8_copyOfNow 4 (some (.object "PieceFiles$Row")) 3 2 62 [.ref v0, .int v1, va_rf v2] f n (QHr r) := by
  have h : ((gR f v0 8 1).bind fun x1 => ((x1).bind fun j2 => rCk (isO f j2 7) (((mX7_toldFor j2 v1 f n).bind fun r4 => ((some r4.1).bind fun x6 => (oN x6 (((gR r4.2.1 v0 8 5).bind fun x8 => ((x8).bind fun j9 => ((gR r4.2.1 j9 1 0).bind fun x10 => ((v2).bind fun j11 => ((gI r4.2.1 j11 3 2).bind fun x12 => ((gI r4.2.1 j11 3 3).bind fun x13 => ((x10).bind fun j14 => rCk (isO r4.2.1 j14 5) (((mX5_part 60 j14 x12 x13 r4.2.1 r4.2.2).bind fun r16 => ((some r16.1).bind fun x18 => mX8_copyOfNow_b35 x18 r16.2.1 r16.2.2))))))))))) (fun j7 => mX8_copyOfNow_b35 (some j7) r4.2.1 r4.2.2))))))) = some r := h
  refine AM.of (by decide +kernel) (all1 rfl (all1 rfl (all1 (rf_cat _) rfl))) (Nat.le_of_ble_eq_true rfl) (fun p e s m args below meth c C hnm => ?_)
  refine aw_nl [some (.ref v0), some (.int v1), some (va_rf v2), none] rfl ?_
  refine aw_ald_n C dX8_copyOfNow_0 rfl ?_
  obtain ⟨x1, hx1, h⟩ := Option.bind_eq_some_iff.mp h
  refine ah_getR C gf_X8_21 hx1 dX8_copyOfNow_1 ?_
  refine aw_iload_n C dX8_copyOfNow_4 rfl ?_
  obtain ⟨j2, hj2, h⟩ := Option.bind_eq_some_iff.mp h
  rw [hj2]
  obtain ⟨hb3, h⟩ := ck_some h
  obtain ⟨r4, hr4, h⟩ := Option.bind_eq_some_iff.mp h
  obtain ⟨fs5, hf5⟩ := isO_ex hb3
  refine aw_callV C (ci := 7) (b := j2) [.int v1] mv_X8_194 rfl rfl hf5 (rmX7_toldFor hr4) rfl dX8_copyOfNow_5 (Nat.le_of_ble_eq_true rfl) (Nat.le_of_ble_eq_true rfl) rfl (Nat.le_of_ble_eq_true rfl) (show 0 + 0 ≤ 2 by omega) (show 0 + 0 ≤ 62 by omega) (fun v9 f9 n9 hh => ?_)
  obtain ⟨rfl, rfl, rfl⟩ := hh
  obtain ⟨x6, hx6, h⟩ := Option.bind_eq_some_iff.mp h
  rw [Option.some.inj hx6]
  refine aw_astore_n C dX8_copyOfNow_8 (by decide) (ok_rf 2 rfl) (rf_or x6) ?_
  refine aw_nl [some (.ref v0), some (.int v1), some (va_rf v2), some (va_rf x6)] rfl ?_
  refine aw_aload_n C dX8_copyOfNow_9 rfl (rf_or x6) ?_
  cases x6 with
  | none =>
    replace h : ((gR r4.2.1 v0 8 5).bind fun x8 => ((x8).bind fun j9 => ((gR r4.2.1 j9 1 0).bind fun x10 => ((v2).bind fun j11 => ((gI r4.2.1 j11 3 2).bind fun x12 => ((gI r4.2.1 j11 3 3).bind fun x13 => ((x10).bind fun j14 => rCk (isO r4.2.1 j14 5) (((mX5_part 60 j14 x12 x13 r4.2.1 r4.2.2).bind fun r16 => ((some r16.1).bind fun x18 => mX8_copyOfNow_b35 x18 r16.2.1 r16.2.2)))))))))) = some r := h
    refine aw_ifnonnull_n C 34 dX8_copyOfNow_10 (by decide) ?_
    refine aw_ald_n C dX8_copyOfNow_13 rfl ?_
    obtain ⟨x8, hx8, h⟩ := Option.bind_eq_some_iff.mp h
    refine ah_getR C gf_X8_38 hx8 dX8_copyOfNow_14 ?_
    obtain ⟨j9, hj9, h⟩ := Option.bind_eq_some_iff.mp h
    rw [hj9]
    obtain ⟨x10, hx10, h⟩ := Option.bind_eq_some_iff.mp h
    refine ah_getR C gf_X8_373 hx10 dX8_copyOfNow_17 ?_
    refine aw_aload_n C dX8_copyOfNow_20 rfl (rf_or v2) ?_
    obtain ⟨j11, hj11, h⟩ := Option.bind_eq_some_iff.mp h
    rw [hj11]
    obtain ⟨x12, hx12, h⟩ := Option.bind_eq_some_iff.mp h
    refine ah_getI C gf_X8_224 hx12 dX8_copyOfNow_21 ?_
    refine aw_ald_n C dX8_copyOfNow_24 rfl ?_
    obtain ⟨x13, hx13, h⟩ := Option.bind_eq_some_iff.mp h
    refine ah_getI C gf_X8_187 hx13 dX8_copyOfNow_25 ?_
    obtain ⟨j14, hj14, h⟩ := Option.bind_eq_some_iff.mp h
    rw [hj14]
    obtain ⟨hb15, h⟩ := ck_some h
    obtain ⟨r16, hr16, h⟩ := Option.bind_eq_some_iff.mp h
    obtain ⟨fs17, hf17⟩ := isO_ex hb15
    refine aw_callV C (ci := 5) (b := j14) [.int x12, .int x13] mv_X8_126 rfl rfl hf17 (rmX5_part hr16) rfl dX8_copyOfNow_28 (Nat.le_of_ble_eq_true rfl) (Nat.le_of_ble_eq_true rfl) rfl (Nat.le_of_ble_eq_true rfl) (show (0 + 0) + 2 ≤ 2 by omega) (show (0 + 0) + (2 + 60) ≤ 62 by omega) (fun v9 f9 n9 hh => ?_)
    obtain ⟨rfl, rfl, rfl⟩ := hh
    obtain ⟨x18, hx18, h⟩ := Option.bind_eq_some_iff.mp h
    rw [Option.some.inj hx18]
    refine aw_goto C 35 dX8_copyOfNow_31 (by decide) ?_
    refine aw_fl [none, none, none, none] trivial ?_
    exact rmX8_copyOfNow_b35 C (by omega) (by omega) h
  | some j7 =>
    replace h : mX8_copyOfNow_b35 (some j7) r4.2.1 r4.2.2 = some r := h
    refine aw_ifnonnull_r C 34 dX8_copyOfNow_10 (by decide) ?_
    refine aw_ald_n C dX8_copyOfNow_34 rfl ?_
    refine aw_fl [none, none, none, none] trivial ?_
    exact rmX8_copyOfNow_b35 C (by omega) (by omega) h
def mX8_swapPieces_b160 (s0 : Int32) (f : AH) (n : Nat) : Option (Int32 × HpN) := some (s0, (f, n))
set_option maxHeartbeats 1000000 in
theorem rmX8_swapPieces_b160 {X : GX} {p : Program} {l : Launch} {e : Env} {s : State} {m : MethodId} {args : Array Value} {below : List Frame} {meth : Method} {c : Code} {r : Int32 × HpN} {s0 : Int32} {f : AH} {n cells slots : Nat} (C : CC X p l (RM 5 4 124) s m args meth c RX8 cX8_swapPieces 7 (some .int)) (hc : cells + 0 ≤ 4) (hs : slots + 0 ≤ 124) (h : mX8_swapPieces_b160 s0 f n = some r) : AW X p l e (RM 5 4 124) s m args below meth c 7 (ZM X below args s 4 124 (QHi r)) f n cells slots 160 [none, none, none, none, none, none, none] [.int s0] := by
  have h : some (s0, (f, n)) = some r := h
  cases h
  exact aw_iret C rfl rfl dX8_swapPieces_160 (by omega) (by omega) ⟨rfl, rfl, rfl⟩
def mX8_swapPieces_b115 (f : AH) (n : Nat) : Option (Int32 × HpN) := some ((2 : Int32), (f, n))
set_option maxHeartbeats 1000000 in
theorem rmX8_swapPieces_b115 {X : GX} {p : Program} {l : Launch} {e : Env} {s : State} {m : MethodId} {args : Array Value} {below : List Frame} {meth : Method} {c : Code} {r : Int32 × HpN} {f : AH} {n cells slots : Nat} (C : CC X p l (RM 5 4 124) s m args meth c RX8 cX8_swapPieces 7 (some .int)) (hc : cells + 0 ≤ 4) (hs : slots + 0 ≤ 124) (h : mX8_swapPieces_b115 f n = some r) : AW X p l e (RM 5 4 124) s m args below meth c 7 (ZM X below args s 4 124 (QHi r)) f n cells slots 115 [none, none, none, none, none, none, none] [] := by
  have h : some ((2 : Int32), (f, n)) = some r := h
  refine aw_iconst C 2 dX8_swapPieces_115 ki_2 ?_
  cases h
  exact aw_iret C rfl rfl dX8_swapPieces_116 (by omega) (by omega) ⟨rfl, rfl, rfl⟩
def mX8_swapPieces_b60 (f : AH) (n : Nat) : Option (Int32 × HpN) := some ((8 : Int32), (f, n))
set_option maxHeartbeats 1000000 in
theorem rmX8_swapPieces_b60 {X : GX} {p : Program} {l : Launch} {e : Env} {s : State} {m : MethodId} {args : Array Value} {below : List Frame} {meth : Method} {c : Code} {r : Int32 × HpN} {f : AH} {n cells slots : Nat} (C : CC X p l (RM 5 4 124) s m args meth c RX8 cX8_swapPieces 7 (some .int)) (hc : cells + 0 ≤ 4) (hs : slots + 0 ≤ 124) (h : mX8_swapPieces_b60 f n = some r) : AW X p l e (RM 5 4 124) s m args below meth c 7 (ZM X below args s 4 124 (QHi r)) f n cells slots 60 [none, none, none, none, none, none, none] [] := by
  have h : some ((8 : Int32), (f, n)) = some r := h
  refine aw_bipush C 8 dX8_swapPieces_60 kb_8 ?_
  cases h
  exact aw_iret C rfl rfl dX8_swapPieces_62 (by omega) (by omega) ⟨rfl, rfl, rfl⟩
def mX8_swapPieces_b28 (f : AH) (n : Nat) : Option (Int32 × HpN) := some ((1 : Int32), (f, n))
set_option maxHeartbeats 1000000 in
theorem rmX8_swapPieces_b28 {X : GX} {p : Program} {l : Launch} {e : Env} {s : State} {m : MethodId} {args : Array Value} {below : List Frame} {meth : Method} {c : Code} {r : Int32 × HpN} {f : AH} {n cells slots : Nat} (C : CC X p l (RM 5 4 124) s m args meth c RX8 cX8_swapPieces 7 (some .int)) (hc : cells + 0 ≤ 4) (hs : slots + 0 ≤ 124) (h : mX8_swapPieces_b28 f n = some r) : AW X p l e (RM 5 4 124) s m args below meth c 7 (ZM X below args s 4 124 (QHi r)) f n cells slots 28 [none, none, none, none, none, none, none] [] := by
  have h : some ((1 : Int32), (f, n)) = some r := h
  refine aw_iconst C 1 dX8_swapPieces_28 ki_1 ?_
  cases h
  exact aw_iret C rfl rfl dX8_swapPieces_29 (by omega) (by omega) ⟨rfl, rfl, rfl⟩
def mX8_swapPieces (v0 : Nat) (v1 : Int32) (v2 : Int32) (f : AH) (n : Nat) : Option (Int32 × HpN) := ((gR f v0 8 5).bind fun x1 => ((x1).bind fun j2 => rCk (isO f j2 1) (((mX1_get j2 v1 f n).bind fun r4 => ((some r4.1).bind fun x6 => ((gR r4.2.1 v0 8 5).bind fun x7 => ((x7).bind fun j8 => rCk (isO r4.2.1 j8 1) (((mX1_get j8 v2 r4.2.1 r4.2.2).bind fun r10 => ((some r10.1).bind fun x12 => (oN x6 (mX8_swapPieces_b28 r10.2.1 r10.2.2) (fun j13 => (oN x12 (mX8_swapPieces_b28 r10.2.1 r10.2.2) (fun j14 => (if v1 = v2 then some ((5 : Int32), (r10.2.1, r10.2.2)) else rCk (isO r10.2.1 v0 8) (((mX8_nowSize v0 v1 (some j13) r10.2.1 r10.2.2).bind fun r16 => (if (60 : Int32) < r16.1 then mX8_swapPieces_b60 r16.2.1 r16.2.2 else rCk (isO r16.2.1 v0 8) (((mX8_nowSize v0 v2 (some j14) r16.2.1 r16.2.2).bind fun r19 => (if r19.1 ≤ (60 : Int32) then rCk (isO r19.2.1 v0 8) (((mX8_copyOfNow v0 v1 (some j13) r19.2.1 r19.2.2).bind fun r22 => ((some r22.1).bind fun x24 => rCk (isO r22.2.1 v0 8) (((mX8_copyOfNow v0 v2 (some j14) r22.2.1 r22.2.2).bind fun r26 => ((some r26.1).bind fun x28 => ((gR r26.2.1 v0 8 7).bind fun x29 => ((gR r26.2.1 v0 8 1).bind fun x30 => ((x29).bind fun j31 => rCk (isO r26.2.1 j31 0) (((mX0_escape j31 x28 (some j13) x30 r26.2.1 r26.2.2).bind fun r33 => (if r33.1 = (0 : Int32) then mX8_swapPieces_b115 r33.2.1 r33.2.2 else ((gR r33.2.1 v0 8 7).bind fun x35 => ((gR r33.2.1 v0 8 1).bind fun x36 => ((x35).bind fun j37 => rCk (isO r33.2.1 j37 0) (((mX0_escape j37 x24 (some j14) x36 r33.2.1 r33.2.2).bind fun r39 => (if r39.1 = (0 : Int32) then mX8_swapPieces_b115 r39.2.1 r39.2.2 else ((gR r39.2.1 v0 8 1).bind fun x41 => ((x41).bind fun j42 => rCk (isO r39.2.1 j42 7) (((mX7_setTold j42 v1 x28 r39.2.1 r39.2.2).bind fun r44 => ((gR r44.2.1 v0 8 1).bind fun x46 => ((x46).bind fun j47 => rCk (isO r44.2.1 j47 7) (((mX7_setTold j47 v2 x24 r44.2.1 r44.2.2).bind fun r49 => ((gR r49.2.1 v0 8 7).bind fun x51 => ((gR r49.2.1 v0 8 1).bind fun x52 => ((gR r49.2.1 v0 8 5).bind fun x53 => ((x51).bind fun j54 => rCk (isO r49.2.1 j54 0) (((mX0_make j54 x52 x53 r49.2.1 r49.2.2).bind fun r56 => (if r56.1 = (0 : Int32) then mX8_swapPieces_b160 (3 : Int32) r56.2.1 r56.2.2 else mX8_swapPieces_b160 (0 : Int32) r56.2.1 r56.2.2))))))))))))))))))))))))))))))))) else mX8_swapPieces_b60 r19.2.1 r19.2.2)))))))))))))))))))))
set_option maxHeartbeats 1000000 in
theorem rmX8_swapPieces {X : GX} {l : Launch} {r : Int32 × HpN} {v0 : Nat} {v1 : Int32} {v2 : Int32} {f : AH} {n : Nat} (h : mX8_swapPieces v0 v1 v2 f n = some r) : AM X l yX8_swapPieces cX8_swapPieces 7 (some .int) 5 4 124 [.ref v0, .int v1, .int v2] f n (QHi r) := by
  have h : ((gR f v0 8 5).bind fun x1 => ((x1).bind fun j2 => rCk (isO f j2 1) (((mX1_get j2 v1 f n).bind fun r4 => ((some r4.1).bind fun x6 => ((gR r4.2.1 v0 8 5).bind fun x7 => ((x7).bind fun j8 => rCk (isO r4.2.1 j8 1) (((mX1_get j8 v2 r4.2.1 r4.2.2).bind fun r10 => ((some r10.1).bind fun x12 => (oN x6 (mX8_swapPieces_b28 r10.2.1 r10.2.2) (fun j13 => (oN x12 (mX8_swapPieces_b28 r10.2.1 r10.2.2) (fun j14 => (if v1 = v2 then some ((5 : Int32), (r10.2.1, r10.2.2)) else rCk (isO r10.2.1 v0 8) (((mX8_nowSize v0 v1 (some j13) r10.2.1 r10.2.2).bind fun r16 => (if (60 : Int32) < r16.1 then mX8_swapPieces_b60 r16.2.1 r16.2.2 else rCk (isO r16.2.1 v0 8) (((mX8_nowSize v0 v2 (some j14) r16.2.1 r16.2.2).bind fun r19 => (if r19.1 ≤ (60 : Int32) then rCk (isO r19.2.1 v0 8) (((mX8_copyOfNow v0 v1 (some j13) r19.2.1 r19.2.2).bind fun r22 => ((some r22.1).bind fun x24 => rCk (isO r22.2.1 v0 8) (((mX8_copyOfNow v0 v2 (some j14) r22.2.1 r22.2.2).bind fun r26 => ((some r26.1).bind fun x28 => ((gR r26.2.1 v0 8 7).bind fun x29 => ((gR r26.2.1 v0 8 1).bind fun x30 => ((x29).bind fun j31 => rCk (isO r26.2.1 j31 0) (((mX0_escape j31 x28 (some j13) x30 r26.2.1 r26.2.2).bind fun r33 => (if r33.1 = (0 : Int32) then mX8_swapPieces_b115 r33.2.1 r33.2.2 else ((gR r33.2.1 v0 8 7).bind fun x35 => ((gR r33.2.1 v0 8 1).bind fun x36 => ((x35).bind fun j37 => rCk (isO r33.2.1 j37 0) (((mX0_escape j37 x24 (some j14) x36 r33.2.1 r33.2.2).bind fun r39 => (if r39.1 = (0 : Int32) then mX8_swapPieces_b115 r39.2.1 r39.2.2 else ((gR r39.2.1 v0 8 1).bind fun x41 => ((x41).bind fun j42 => rCk (isO r39.2.1 j42 7) (((mX7_setTold j42 v1 x28 r39.2.1 r39.2.2).bind fun r44 => ((gR r44.2.1 v0 8 1).bind fun x46 => ((x46).bind fun j47 => rCk (isO r44.2.1 j47 7) (((mX7_setTold j47 v2 x24 r44.2.1 r44.2.2).bind fun r49 => ((gR r49.2.1 v0 8 7).bind fun x51 => ((gR r49.2.1 v0 8 1).bind fun x52 => ((gR r49.2.1 v0 8 5).bind fun x53 => ((x51).bind fun j54 => rCk (isO r49.2.1 j54 0) (((mX0_make j54 x52 x53 r49.2.1 r49.2.2).bind fun r56 => (if r56.1 = (0 : Int32) then mX8_swapPieces_b160 (3 : Int32) r56.2.1 r56.2.2 else mX8_swapPieces_b160 (0 : Int32) r56.2.1 r56.2.2))))))))))))))))))))))))))))))))) else mX8_swapPieces_b60 r19.2.1 r19.2.2))))))))))))))))))))) = some r := h
  refine AM.of (by decide +kernel) rfl (Nat.le_of_ble_eq_true rfl) (fun p e s m args below meth c C hnm => ?_)
  refine aw_nl [some (.ref v0), some (.int v1), some (.int v2), none, none, none, none] rfl ?_
  refine aw_ald_n C dX8_swapPieces_0 rfl ?_
  obtain ⟨x1, hx1, h⟩ := Option.bind_eq_some_iff.mp h
  refine ah_getR C gf_X8_38 hx1 dX8_swapPieces_1 ?_
  refine aw_iload_n C dX8_swapPieces_4 rfl ?_
  obtain ⟨j2, hj2, h⟩ := Option.bind_eq_some_iff.mp h
  rw [hj2]
  obtain ⟨hb3, h⟩ := ck_some h
  obtain ⟨r4, hr4, h⟩ := Option.bind_eq_some_iff.mp h
  obtain ⟨fs5, hf5⟩ := isO_ex hb3
  refine aw_callV C (ci := 1) (b := j2) [.int v1] mv_X8_241 rfl rfl hf5 (rmX1_get hr4) rfl dX8_swapPieces_5 (Nat.le_of_ble_eq_true rfl) (Nat.le_of_ble_eq_true rfl) rfl (Nat.le_of_ble_eq_true rfl) (show 0 + 0 ≤ 4 by omega) (show 0 + 0 ≤ 124 by omega) (fun v9 f9 n9 hh => ?_)
  obtain ⟨rfl, rfl, rfl⟩ := hh
  obtain ⟨x6, hx6, h⟩ := Option.bind_eq_some_iff.mp h
  rw [Option.some.inj hx6]
  refine aw_astore_n C dX8_swapPieces_8 (by decide) rfl (rf_or x6) ?_
  refine aw_nl [some (.ref v0), some (.int v1), some (.int v2), some (va_rf x6), none, none, none] rfl ?_
  refine aw_ald_n C dX8_swapPieces_9 rfl ?_
  obtain ⟨x7, hx7, h⟩ := Option.bind_eq_some_iff.mp h
  refine ah_getR C gf_X8_38 hx7 dX8_swapPieces_10 ?_
  refine aw_iload_n C dX8_swapPieces_13 rfl ?_
  obtain ⟨j8, hj8, h⟩ := Option.bind_eq_some_iff.mp h
  rw [hj8]
  obtain ⟨hb9, h⟩ := ck_some h
  obtain ⟨r10, hr10, h⟩ := Option.bind_eq_some_iff.mp h
  obtain ⟨fs11, hf11⟩ := isO_ex hb9
  refine aw_callV C (ci := 1) (b := j8) [.int v2] mv_X8_241 rfl rfl hf11 (rmX1_get hr10) rfl dX8_swapPieces_14 (Nat.le_of_ble_eq_true rfl) (Nat.le_of_ble_eq_true rfl) rfl (Nat.le_of_ble_eq_true rfl) (show (0 + 0) + 0 ≤ 4 by omega) (show (0 + 0) + 0 ≤ 124 by omega) (fun v9 f9 n9 hh => ?_)
  obtain ⟨rfl, rfl, rfl⟩ := hh
  obtain ⟨x12, hx12, h⟩ := Option.bind_eq_some_iff.mp h
  rw [Option.some.inj hx12]
  refine aw_astore C dX8_swapPieces_17 (by decide) (ok_rf 3 rfl) (rf_or x12) ?_
  refine aw_nl [some (.ref v0), some (.int v1), some (.int v2), some (va_rf x6), some (va_rf x12), none, none] rfl ?_
  refine aw_aload_n C dX8_swapPieces_19 rfl (rf_or x6) ?_
  cases x6 with
  | none =>
    replace h : mX8_swapPieces_b28 r10.2.1 r10.2.2 = some r := h
    refine aw_ifnull_n C 28 dX8_swapPieces_20 (by decide) ?_
    refine aw_fl [none, none, none, none, none, none, none] trivial ?_
    exact rmX8_swapPieces_b28 C (by omega) (by omega) h
  | some j13 =>
    replace h : (oN x12 (mX8_swapPieces_b28 r10.2.1 r10.2.2) (fun j14 => (if v1 = v2 then some ((5 : Int32), (r10.2.1, r10.2.2)) else rCk (isO r10.2.1 v0 8) (((mX8_nowSize v0 v1 (some j13) r10.2.1 r10.2.2).bind fun r16 => (if (60 : Int32) < r16.1 then mX8_swapPieces_b60 r16.2.1 r16.2.2 else rCk (isO r16.2.1 v0 8) (((mX8_nowSize v0 v2 (some j14) r16.2.1 r16.2.2).bind fun r19 => (if r19.1 ≤ (60 : Int32) then rCk (isO r19.2.1 v0 8) (((mX8_copyOfNow v0 v1 (some j13) r19.2.1 r19.2.2).bind fun r22 => ((some r22.1).bind fun x24 => rCk (isO r22.2.1 v0 8) (((mX8_copyOfNow v0 v2 (some j14) r22.2.1 r22.2.2).bind fun r26 => ((some r26.1).bind fun x28 => ((gR r26.2.1 v0 8 7).bind fun x29 => ((gR r26.2.1 v0 8 1).bind fun x30 => ((x29).bind fun j31 => rCk (isO r26.2.1 j31 0) (((mX0_escape j31 x28 (some j13) x30 r26.2.1 r26.2.2).bind fun r33 => (if r33.1 = (0 : Int32) then mX8_swapPieces_b115 r33.2.1 r33.2.2 else ((gR r33.2.1 v0 8 7).bind fun x35 => ((gR r33.2.1 v0 8 1).bind fun x36 => ((x35).bind fun j37 => rCk (isO r33.2.1 j37 0) (((mX0_escape j37 x24 (some j14) x36 r33.2.1 r33.2.2).bind fun r39 => (if r39.1 = (0 : Int32) then mX8_swapPieces_b115 r39.2.1 r39.2.2 else ((gR r39.2.1 v0 8 1).bind fun x41 => ((x41).bind fun j42 => rCk (isO r39.2.1 j42 7) (((mX7_setTold j42 v1 x28 r39.2.1 r39.2.2).bind fun r44 => ((gR r44.2.1 v0 8 1).bind fun x46 => ((x46).bind fun j47 => rCk (isO r44.2.1 j47 7) (((mX7_setTold j47 v2 x24 r44.2.1 r44.2.2).bind fun r49 => ((gR r49.2.1 v0 8 7).bind fun x51 => ((gR r49.2.1 v0 8 1).bind fun x52 => ((gR r49.2.1 v0 8 5).bind fun x53 => ((x51).bind fun j54 => rCk (isO r49.2.1 j54 0) (((mX0_make j54 x52 x53 r49.2.1 r49.2.2).bind fun r56 => (if r56.1 = (0 : Int32) then mX8_swapPieces_b160 (3 : Int32) r56.2.1 r56.2.2 else mX8_swapPieces_b160 (0 : Int32) r56.2.1 r56.2.2))))))))))))))))))))))))))))))))) else mX8_swapPieces_b60 r19.2.1 r19.2.2))))))))) = some r := h
    refine aw_ifnull_r C 28 dX8_swapPieces_20 (by decide) ?_
    refine aw_aload C dX8_swapPieces_23 rfl (rf_or x12) ?_
    cases x12 with
    | none =>
      replace h : mX8_swapPieces_b28 r10.2.1 r10.2.2 = some r := h
      refine aw_ifnonnull_n C 30 dX8_swapPieces_25 (by decide) ?_
      refine aw_fl [none, none, none, none, none, none, none] trivial ?_
      exact rmX8_swapPieces_b28 C (by omega) (by omega) h
    | some j14 =>
      replace h : (if v1 = v2 then some ((5 : Int32), (r10.2.1, r10.2.2)) else rCk (isO r10.2.1 v0 8) (((mX8_nowSize v0 v1 (some j13) r10.2.1 r10.2.2).bind fun r16 => (if (60 : Int32) < r16.1 then mX8_swapPieces_b60 r16.2.1 r16.2.2 else rCk (isO r16.2.1 v0 8) (((mX8_nowSize v0 v2 (some j14) r16.2.1 r16.2.2).bind fun r19 => (if r19.1 ≤ (60 : Int32) then rCk (isO r19.2.1 v0 8) (((mX8_copyOfNow v0 v1 (some j13) r19.2.1 r19.2.2).bind fun r22 => ((some r22.1).bind fun x24 => rCk (isO r22.2.1 v0 8) (((mX8_copyOfNow v0 v2 (some j14) r22.2.1 r22.2.2).bind fun r26 => ((some r26.1).bind fun x28 => ((gR r26.2.1 v0 8 7).bind fun x29 => ((gR r26.2.1 v0 8 1).bind fun x30 => ((x29).bind fun j31 => rCk (isO r26.2.1 j31 0) (((mX0_escape j31 x28 (some j13) x30 r26.2.1 r26.2.2).bind fun r33 => (if r33.1 = (0 : Int32) then mX8_swapPieces_b115 r33.2.1 r33.2.2 else ((gR r33.2.1 v0 8 7).bind fun x35 => ((gR r33.2.1 v0 8 1).bind fun x36 => ((x35).bind fun j37 => rCk (isO r33.2.1 j37 0) (((mX0_escape j37 x24 (some j14) x36 r33.2.1 r33.2.2).bind fun r39 => (if r39.1 = (0 : Int32) then mX8_swapPieces_b115 r39.2.1 r39.2.2 else ((gR r39.2.1 v0 8 1).bind fun x41 => ((x41).bind fun j42 => rCk (isO r39.2.1 j42 7) (((mX7_setTold j42 v1 x28 r39.2.1 r39.2.2).bind fun r44 => ((gR r44.2.1 v0 8 1).bind fun x46 => ((x46).bind fun j47 => rCk (isO r44.2.1 j47 7) (((mX7_setTold j47 v2 x24 r44.2.1 r44.2.2).bind fun r49 => ((gR r49.2.1 v0 8 7).bind fun x51 => ((gR r49.2.1 v0 8 1).bind fun x52 => ((gR r49.2.1 v0 8 5).bind fun x53 => ((x51).bind fun j54 => rCk (isO r49.2.1 j54 0) (((mX0_make j54 x52 x53 r49.2.1 r49.2.2).bind fun r56 => (if r56.1 = (0 : Int32) then mX8_swapPieces_b160 (3 : Int32) r56.2.1 r56.2.2 else mX8_swapPieces_b160 (0 : Int32) r56.2.1 r56.2.2))))))))))))))))))))))))))))))))) else mX8_swapPieces_b60 r19.2.1 r19.2.2))))))) = some r := h
      refine aw_ifnonnull_r C 30 dX8_swapPieces_25 (by decide) ?_
      refine aw_iload_n C dX8_swapPieces_30 rfl ?_
      refine aw_iload_n C dX8_swapPieces_31 rfl ?_
      refine aw_icmp_ne C 37 dX8_swapPieces_32 (by decide) (fun q => ?_) (fun q => ?_)
      · rw [if_neg q] at h
        refine aw_ald_n C dX8_swapPieces_37 rfl ?_
        refine aw_iload_n C dX8_swapPieces_38 rfl ?_
        refine aw_ald_n C dX8_swapPieces_39 rfl ?_
        obtain ⟨hb15, h⟩ := ck_some h
        obtain ⟨r16, hr16, h⟩ := Option.bind_eq_some_iff.mp h
        obtain ⟨fs17, hf17⟩ := isO_ex hb15
        refine aw_callV C (ci := 8) (b := v0) [.int v1, .ref j13] mv_X8_190 rfl rfl hf17 (rmX8_nowSize hr16) rfl dX8_swapPieces_40 (Nat.le_of_ble_eq_true rfl) (Nat.le_of_ble_eq_true rfl) rfl (Nat.le_of_ble_eq_true rfl) (show ((0 + 0) + 0) + 0 ≤ 4 by omega) (show ((0 + 0) + 0) + 0 ≤ 124 by omega) (fun v9 f9 n9 hh => ?_)
        obtain ⟨rfl, rfl, rfl⟩ := hh
        refine aw_bipush C 60 dX8_swapPieces_43 kb_60 ?_
        refine aw_icmp_gt C 60 dX8_swapPieces_45 (by decide) (fun q => ?_) (fun q => ?_)
        · rw [if_pos q] at h
          refine aw_fl [none, none, none, none, none, none, none] trivial ?_
          exact rmX8_swapPieces_b60 C (by omega) (by omega) h
        · rw [if_neg q] at h
          refine aw_ald_n C dX8_swapPieces_48 rfl ?_
          refine aw_iload_n C dX8_swapPieces_49 rfl ?_
          refine aw_ald C dX8_swapPieces_50 rfl ?_
          obtain ⟨hb18, h⟩ := ck_some h
          obtain ⟨r19, hr19, h⟩ := Option.bind_eq_some_iff.mp h
          obtain ⟨fs20, hf20⟩ := isO_ex hb18
          refine aw_callV C (ci := 8) (b := v0) [.int v2, .ref j14] mv_X8_190 rfl rfl hf20 (rmX8_nowSize hr19) rfl dX8_swapPieces_52 (Nat.le_of_ble_eq_true rfl) (Nat.le_of_ble_eq_true rfl) rfl (Nat.le_of_ble_eq_true rfl) (show (((0 + 0) + 0) + 0) + 0 ≤ 4 by omega) (show (((0 + 0) + 0) + 0) + 0 ≤ 124 by omega) (fun v9 f9 n9 hh => ?_)
          obtain ⟨rfl, rfl, rfl⟩ := hh
          refine aw_bipush C 60 dX8_swapPieces_55 kb_60 ?_
          refine aw_icmp_le C 63 dX8_swapPieces_57 (by decide) (fun q => ?_) (fun q => ?_)
          · rw [if_pos q] at h
            refine aw_ald_n C dX8_swapPieces_63 rfl ?_
            refine aw_iload_n C dX8_swapPieces_64 rfl ?_
            refine aw_ald_n C dX8_swapPieces_65 rfl ?_
            obtain ⟨hb21, h⟩ := ck_some h
            obtain ⟨r22, hr22, h⟩ := Option.bind_eq_some_iff.mp h
            obtain ⟨fs23, hf23⟩ := isO_ex hb21
            refine aw_callV C (ci := 8) (b := v0) [.int v1, .ref j13] mv_X8_378 rfl rfl hf23 (rmX8_copyOfNow hr22) rfl dX8_swapPieces_66 (Nat.le_of_ble_eq_true rfl) (Nat.le_of_ble_eq_true rfl) rfl (Nat.le_of_ble_eq_true rfl) (show ((((0 + 0) + 0) + 0) + 0) + 2 ≤ 4 by omega) (show ((((0 + 0) + 0) + 0) + 0) + 62 ≤ 124 by omega) (fun v9 f9 n9 hh => ?_)
            obtain ⟨rfl, rfl, rfl⟩ := hh
            obtain ⟨x24, hx24, h⟩ := Option.bind_eq_some_iff.mp h
            rw [Option.some.inj hx24]
            refine aw_astore C dX8_swapPieces_69 (by decide) rfl (rf_or x24) ?_
            refine aw_nl [some (.ref v0), some (.int v1), some (.int v2), some (.ref j13), some (.ref j14), some (va_rf x24), none] rfl ?_
            refine aw_ald_n C dX8_swapPieces_71 rfl ?_
            refine aw_iload_n C dX8_swapPieces_72 rfl ?_
            refine aw_ald C dX8_swapPieces_73 rfl ?_
            obtain ⟨hb25, h⟩ := ck_some h
            obtain ⟨r26, hr26, h⟩ := Option.bind_eq_some_iff.mp h
            obtain ⟨fs27, hf27⟩ := isO_ex hb25
            refine aw_callV C (ci := 8) (b := v0) [.int v2, .ref j14] mv_X8_378 rfl rfl hf27 (rmX8_copyOfNow hr26) rfl dX8_swapPieces_75 (Nat.le_of_ble_eq_true rfl) (Nat.le_of_ble_eq_true rfl) rfl (Nat.le_of_ble_eq_true rfl) (show (((((0 + 0) + 0) + 0) + 0) + 2) + 2 ≤ 4 by omega) (show (((((0 + 0) + 0) + 0) + 0) + 62) + 62 ≤ 124 by omega) (fun v9 f9 n9 hh => ?_)
            obtain ⟨rfl, rfl, rfl⟩ := hh
            obtain ⟨x28, hx28, h⟩ := Option.bind_eq_some_iff.mp h
            rw [Option.some.inj hx28]
            refine aw_astore C dX8_swapPieces_78 (by decide) (ok_rf 5 rfl) (rf_or x28) ?_
            refine aw_nl [some (.ref v0), some (.int v1), some (.int v2), some (.ref j13), some (.ref j14), some (va_rf x24), some (va_rf x28)] rfl ?_
            refine aw_ald_n C dX8_swapPieces_80 rfl ?_
            obtain ⟨x29, hx29, h⟩ := Option.bind_eq_some_iff.mp h
            refine ah_getR C gf_X8_48 hx29 dX8_swapPieces_81 ?_
            refine aw_aload C dX8_swapPieces_84 rfl (rf_or x28) ?_
            refine aw_ald_n C dX8_swapPieces_86 rfl ?_
            refine aw_ald_n C dX8_swapPieces_87 rfl ?_
            obtain ⟨x30, hx30, h⟩ := Option.bind_eq_some_iff.mp h
            refine ah_getR C gf_X8_21 hx30 dX8_swapPieces_88 ?_
            obtain ⟨j31, hj31, h⟩ := Option.bind_eq_some_iff.mp h
            rw [hj31]
            obtain ⟨hb32, h⟩ := ck_some h
            obtain ⟨r33, hr33, h⟩ := Option.bind_eq_some_iff.mp h
            obtain ⟨fs34, hf34⟩ := isO_ex hb32
            refine aw_callV C (ci := 0) (b := j31) [va_rf x28, .ref j13, va_rf x30] mv_X8_247 rfl rfl hf34 (rmX0_escape hr33) rfl dX8_swapPieces_91 (Nat.le_of_ble_eq_true rfl) (Nat.le_of_ble_eq_true rfl) rfl (Nat.le_of_ble_eq_true rfl) (show ((((((0 + 0) + 0) + 0) + 0) + 2) + 2) + 0 ≤ 4 by omega) (show ((((((0 + 0) + 0) + 0) + 0) + 62) + 62) + 0 ≤ 124 by omega) (fun v9 f9 n9 hh => ?_)
            obtain ⟨rfl, rfl, rfl⟩ := hh
            refine aw_if_eq C 115 dX8_swapPieces_94 (by decide) (fun q => ?_) (fun q => ?_)
            · rw [if_pos q] at h
              refine aw_fl [none, none, none, none, none, none, none] trivial ?_
              exact rmX8_swapPieces_b115 C (by omega) (by omega) h
            · rw [if_neg q] at h
              refine aw_ald_n C dX8_swapPieces_97 rfl ?_
              obtain ⟨x35, hx35, h⟩ := Option.bind_eq_some_iff.mp h
              refine ah_getR C gf_X8_48 hx35 dX8_swapPieces_98 ?_
              refine aw_aload C dX8_swapPieces_101 rfl (rf_or x24) ?_
              refine aw_ald C dX8_swapPieces_103 rfl ?_
              refine aw_ald_n C dX8_swapPieces_105 rfl ?_
              obtain ⟨x36, hx36, h⟩ := Option.bind_eq_some_iff.mp h
              refine ah_getR C gf_X8_21 hx36 dX8_swapPieces_106 ?_
              obtain ⟨j37, hj37, h⟩ := Option.bind_eq_some_iff.mp h
              rw [hj37]
              obtain ⟨hb38, h⟩ := ck_some h
              obtain ⟨r39, hr39, h⟩ := Option.bind_eq_some_iff.mp h
              obtain ⟨fs40, hf40⟩ := isO_ex hb38
              refine aw_callV C (ci := 0) (b := j37) [va_rf x24, .ref j14, va_rf x36] mv_X8_247 rfl rfl hf40 (rmX0_escape hr39) rfl dX8_swapPieces_109 (Nat.le_of_ble_eq_true rfl) (Nat.le_of_ble_eq_true rfl) rfl (Nat.le_of_ble_eq_true rfl) (show (((((((0 + 0) + 0) + 0) + 0) + 2) + 2) + 0) + 0 ≤ 4 by omega) (show (((((((0 + 0) + 0) + 0) + 0) + 62) + 62) + 0) + 0 ≤ 124 by omega) (fun v9 f9 n9 hh => ?_)
              obtain ⟨rfl, rfl, rfl⟩ := hh
              refine aw_if_ne C 117 dX8_swapPieces_112 (by decide) (fun q => ?_) (fun q => ?_)
              · rw [if_neg q] at h
                refine aw_ald_n C dX8_swapPieces_117 rfl ?_
                obtain ⟨x41, hx41, h⟩ := Option.bind_eq_some_iff.mp h
                refine ah_getR C gf_X8_21 hx41 dX8_swapPieces_118 ?_
                refine aw_iload_n C dX8_swapPieces_121 rfl ?_
                refine aw_aload C dX8_swapPieces_122 rfl (rf_or x28) ?_
                obtain ⟨j42, hj42, h⟩ := Option.bind_eq_some_iff.mp h
                rw [hj42]
                obtain ⟨hb43, h⟩ := ck_some h
                obtain ⟨r44, hr44, h⟩ := Option.bind_eq_some_iff.mp h
                obtain ⟨fs45, hf45⟩ := isO_ex hb43
                refine aw_callV C (ci := 7) (b := j42) [.int v1, va_rf x28] mv_X8_369 rfl rfl hf45 (rmX7_setTold hr44) rfl dX8_swapPieces_124 (Nat.le_of_ble_eq_true rfl) (Nat.le_of_ble_eq_true rfl) rfl (Nat.le_of_ble_eq_true rfl) (show ((((((((0 + 0) + 0) + 0) + 0) + 2) + 2) + 0) + 0) + 0 ≤ 4 by omega) (show ((((((((0 + 0) + 0) + 0) + 0) + 62) + 62) + 0) + 0) + 0 ≤ 124 by omega) (fun v9 f9 n9 hh => ?_)
                obtain ⟨rfl, rfl, rfl⟩ := hh
                refine aw_ald_n C dX8_swapPieces_127 rfl ?_
                obtain ⟨x46, hx46, h⟩ := Option.bind_eq_some_iff.mp h
                refine ah_getR C gf_X8_21 hx46 dX8_swapPieces_128 ?_
                refine aw_iload_n C dX8_swapPieces_131 rfl ?_
                refine aw_aload C dX8_swapPieces_132 rfl (rf_or x24) ?_
                obtain ⟨j47, hj47, h⟩ := Option.bind_eq_some_iff.mp h
                rw [hj47]
                obtain ⟨hb48, h⟩ := ck_some h
                obtain ⟨r49, hr49, h⟩ := Option.bind_eq_some_iff.mp h
                obtain ⟨fs50, hf50⟩ := isO_ex hb48
                refine aw_callV C (ci := 7) (b := j47) [.int v2, va_rf x24] mv_X8_369 rfl rfl hf50 (rmX7_setTold hr49) rfl dX8_swapPieces_134 (Nat.le_of_ble_eq_true rfl) (Nat.le_of_ble_eq_true rfl) rfl (Nat.le_of_ble_eq_true rfl) (show (((((((((0 + 0) + 0) + 0) + 0) + 2) + 2) + 0) + 0) + 0) + 0 ≤ 4 by omega) (show (((((((((0 + 0) + 0) + 0) + 0) + 62) + 62) + 0) + 0) + 0) + 0 ≤ 124 by omega) (fun v9 f9 n9 hh => ?_)
                obtain ⟨rfl, rfl, rfl⟩ := hh
                refine aw_ald_n C dX8_swapPieces_137 rfl ?_
                obtain ⟨x51, hx51, h⟩ := Option.bind_eq_some_iff.mp h
                refine ah_getR C gf_X8_48 hx51 dX8_swapPieces_138 ?_
                refine aw_ald_n C dX8_swapPieces_141 rfl ?_
                obtain ⟨x52, hx52, h⟩ := Option.bind_eq_some_iff.mp h
                refine ah_getR C gf_X8_21 hx52 dX8_swapPieces_142 ?_
                refine aw_ald_n C dX8_swapPieces_145 rfl ?_
                obtain ⟨x53, hx53, h⟩ := Option.bind_eq_some_iff.mp h
                refine ah_getR C gf_X8_38 hx53 dX8_swapPieces_146 ?_
                obtain ⟨j54, hj54, h⟩ := Option.bind_eq_some_iff.mp h
                rw [hj54]
                obtain ⟨hb55, h⟩ := ck_some h
                obtain ⟨r56, hr56, h⟩ := Option.bind_eq_some_iff.mp h
                obtain ⟨fs57, hf57⟩ := isO_ex hb55
                refine aw_callV C (ci := 0) (b := j54) [va_rf x52, va_rf x53] mv_X8_365 rfl rfl hf57 (rmX0_make hr56) rfl dX8_swapPieces_149 (Nat.le_of_ble_eq_true rfl) (Nat.le_of_ble_eq_true rfl) rfl (Nat.le_of_ble_eq_true rfl) (show ((((((((((0 + 0) + 0) + 0) + 0) + 2) + 2) + 0) + 0) + 0) + 0) + 0 ≤ 4 by omega) (show ((((((((((0 + 0) + 0) + 0) + 0) + 62) + 62) + 0) + 0) + 0) + 0) + 0 ≤ 124 by omega) (fun v9 f9 n9 hh => ?_)
                obtain ⟨rfl, rfl, rfl⟩ := hh
                refine aw_if_eq C 159 dX8_swapPieces_152 (by decide) (fun q => ?_) (fun q => ?_)
                · rw [if_pos q] at h
                  refine aw_iconst C 3 dX8_swapPieces_159 ki_3 ?_
                  refine aw_fl [none, none, none, none, none, none, none] trivial ?_
                  exact rmX8_swapPieces_b160 C (by omega) (by omega) h
                · rw [if_neg q] at h
                  refine aw_iconst C 0 dX8_swapPieces_155 ki_0 ?_
                  refine aw_goto C 160 dX8_swapPieces_156 (by decide) ?_
                  refine aw_fl [none, none, none, none, none, none, none] trivial ?_
                  exact rmX8_swapPieces_b160 C (by omega) (by omega) h
              · rw [if_pos q] at h
                refine aw_fl [none, none, none, none, none, none, none] trivial ?_
                exact rmX8_swapPieces_b115 C (by omega) (by omega) h
          · rw [if_neg q] at h
            refine aw_fl [none, none, none, none, none, none, none] trivial ?_
            exact rmX8_swapPieces_b60 C (by omega) (by omega) h
      · rw [if_pos q] at h
        refine aw_iconst C 5 dX8_swapPieces_35 ki_5 ?_
        cases h
        exact aw_iret C rfl rfl dX8_swapPieces_36 (by omega) (by omega) ⟨rfl, rfl, rfl⟩
def mX7_toldCount_b25 (rec4 : Nat → Int32 → Int32 → AH → Nat → Option (Int32 × HpN)) (v0 : Nat) (v1 : Int32) (v2 : Int32) (f : AH) (n : Nat) : Option (Int32 × HpN) := rec4 v0 v1 (v2 + (1 : Int32)) f n
set_option maxHeartbeats 1000000 in
theorem rmX7_toldCount_b25 {X : GX} {p : Program} {l : Launch} {e : Env} {s : State} {m : MethodId} {args : Array Value} {below : List Frame} {meth : Method} {c : Code} {r : Int32 × HpN} {rec4 : Nat → Int32 → Int32 → AH → Nat → Option (Int32 × HpN)} {v0 : Nat} {v1 : Int32} {v2 : Int32} {f : AH} {n cells slots : Nat} (C : CC X p l (RM 0 0 0) s m args meth c RX7 cX7_toldCount 3 (some .int)) (Hr4 : ∀ (v0 : Nat) (v1 : Int32) (v2 : Int32) (f : AH) (n cells slots : Nat), cells + 0 ≤ 0 → slots + 0 ≤ 0 → rec4 v0 v1 v2 f n = some r → AW X p l e (RM 0 0 0) s m args below meth c 3 (ZM X below args s 0 0 (QHi r)) f n cells slots 4 [some (.ref v0), some (.int v1), some (.int v2)] []) (hc : cells + 0 ≤ 0) (hs : slots + 0 ≤ 0) (h : mX7_toldCount_b25 rec4 v0 v1 v2 f n = some r) : AW X p l e (RM 0 0 0) s m args below meth c 3 (ZM X below args s 0 0 (QHi r)) f n cells slots 25 [some (.ref v0), some (.int v1), some (.int v2)] [] := by
  have h : rec4 v0 v1 (v2 + (1 : Int32)) f n = some r := h
  refine aw_iinc C (v2 + (1 : Int32)) dX7_toldCount_25 rfl (by rw [ki_1]) (by decide) rfl ?_
  refine aw_nl [some (.ref v0), some (.int v1), some (.int (v2 + (1 : Int32)))] rfl ?_
  refine aw_goto C 4 dX7_toldCount_28 (by decide) ?_
  refine aw_fl [some (.ref v0), some (.int v1), some (.int (v2 + (1 : Int32)))] ⟨rfl, ⟨rfl, ⟨rfl, trivial⟩⟩⟩ ?_
  exact Hr4 v0 v1 (v2 + (1 : Int32)) f n _ _ (by omega) (by omega) h
def mX7_toldCount_l4 : Nat → Nat → Int32 → Int32 → AH → Nat → Option (Int32 × HpN)
  | 0, _, _, _, _, _ => none
  | d + 1, v0, v1, v2, f, n => ((gR f v0 7 9).bind fun x1 => ((x1).bind fun j2 => ((gL f j2).bind fun x3 => (if (nI x3) ≤ v2 then some (v1, (f, n)) else ((gR f v0 7 9).bind fun x4 => ((x4).bind fun j5 => ((gRA f j5 v2).bind fun x6 => (oN x6 (mX7_toldCount_b25 (fun v0 v1 v2 f n => mX7_toldCount_l4 d v0 v1 v2 f n) v0 v1 v2 f n) (fun j7 => mX7_toldCount_b25 (fun v0 v1 v2 f n => mX7_toldCount_l4 d v0 v1 v2 f n) v0 (v1 + (1 : Int32)) v2 f n)))))))))
set_option maxHeartbeats 1000000 in
theorem rmX7_toldCount_l4 {X : GX} {p : Program} {l : Launch} {e : Env} {s : State} {m : MethodId} {args : Array Value} {below : List Frame} {meth : Method} {c : Code} {r : Int32 × HpN} (C : CC X p l (RM 0 0 0) s m args meth c RX7 cX7_toldCount 3 (some .int)) : ∀ (d : Nat) (v0 : Nat) (v1 : Int32) (v2 : Int32) (f : AH) (n cells slots : Nat) (_ : cells + 0 ≤ 0) (_ : slots + 0 ≤ 0) (_ : mX7_toldCount_l4 d v0 v1 v2 f n = some r), AW X p l e (RM 0 0 0) s m args below meth c 3 (ZM X below args s 0 0 (QHi r)) f n cells slots 4 [some (.ref v0), some (.int v1), some (.int v2)] [] := by
  intro d
  induction d with
  | zero =>
    intro v0 v1 v2 f n cells slots hc hs h
    exact nomatch (show (none : Option (Int32 × HpN)) = some r from h)
  | succ d ih =>
    intro v0 v1 v2 f n cells slots hc hs h
    have h : ((gR f v0 7 9).bind fun x1 => ((x1).bind fun j2 => ((gL f j2).bind fun x3 => (if (nI x3) ≤ v2 then some (v1, (f, n)) else ((gR f v0 7 9).bind fun x4 => ((x4).bind fun j5 => ((gRA f j5 v2).bind fun x6 => (oN x6 (mX7_toldCount_b25 (fun v0 v1 v2 f n => mX7_toldCount_l4 d v0 v1 v2 f n) v0 v1 v2 f n) (fun j7 => mX7_toldCount_b25 (fun v0 v1 v2 f n => mX7_toldCount_l4 d v0 v1 v2 f n) v0 (v1 + (1 : Int32)) v2 f n))))))))) = some r := h
    refine aw_iload_n C dX7_toldCount_4 rfl ?_
    refine aw_ald_n C dX7_toldCount_5 rfl ?_
    obtain ⟨x1, hx1, h⟩ := Option.bind_eq_some_iff.mp h
    refine ah_getR C gf_X7_34 hx1 dX7_toldCount_6 ?_
    obtain ⟨j2, hj2, h⟩ := Option.bind_eq_some_iff.mp h
    rw [hj2]
    obtain ⟨x3, hx3, h⟩ := Option.bind_eq_some_iff.mp h
    refine ah_len C hx3 dX7_toldCount_9 ?_
    refine aw_icmp_ge C 31 dX7_toldCount_10 (by decide) (fun q => ?_) (fun q => ?_)
    · rw [if_pos q] at h
      refine aw_iload_n C dX7_toldCount_31 rfl ?_
      cases h
      exact aw_iret C rfl rfl dX7_toldCount_32 (by omega) (by omega) ⟨rfl, rfl, rfl⟩
    · rw [if_neg q] at h
      refine aw_ald_n C dX7_toldCount_13 rfl ?_
      obtain ⟨x4, hx4, h⟩ := Option.bind_eq_some_iff.mp h
      refine ah_getR C gf_X7_34 hx4 dX7_toldCount_14 ?_
      refine aw_iload_n C dX7_toldCount_17 rfl ?_
      obtain ⟨j5, hj5, h⟩ := Option.bind_eq_some_iff.mp h
      rw [hj5]
      obtain ⟨x6, hx6, h⟩ := Option.bind_eq_some_iff.mp h
      refine ah_aald C hx6 dX7_toldCount_18 ?_
      cases x6 with
      | none =>
        replace h : mX7_toldCount_b25 (fun v0 v1 v2 f n => mX7_toldCount_l4 d v0 v1 v2 f n) v0 v1 v2 f n = some r := h
        refine aw_ifnull_n C 25 dX7_toldCount_19 (by decide) ?_
        refine aw_fl [some (.ref v0), some (.int v1), some (.int v2)] ⟨rfl, ⟨rfl, ⟨rfl, trivial⟩⟩⟩ ?_
        exact rmX7_toldCount_b25 C (fun v0 v1 v2 f n cells slots hc hs h => ih v0 v1 v2 f n cells slots hc hs h) (by omega) (by omega) h
      | some j7 =>
        replace h : mX7_toldCount_b25 (fun v0 v1 v2 f n => mX7_toldCount_l4 d v0 v1 v2 f n) v0 (v1 + (1 : Int32)) v2 f n = some r := h
        refine aw_ifnull_r C 25 dX7_toldCount_19 (by decide) ?_
        refine aw_iinc C (v1 + (1 : Int32)) dX7_toldCount_22 rfl (by rw [ki_1]) (by decide) rfl ?_
        refine aw_nl [some (.ref v0), some (.int (v1 + (1 : Int32))), some (.int v2)] rfl ?_
        refine aw_fl [some (.ref v0), some (.int (v1 + (1 : Int32))), some (.int v2)] ⟨rfl, ⟨rfl, ⟨rfl, trivial⟩⟩⟩ ?_
        exact rmX7_toldCount_b25 C (fun v0 v1 v2 f n cells slots hc hs h => ih v0 v1 v2 f n cells slots hc hs h) (by omega) (by omega) h
def mX7_toldCount (v0 : Nat) (f : AH) (n : Nat) : Option (Int32 × HpN) := mX7_toldCount_l4 rFU v0 (0 : Int32) (0 : Int32) f n
set_option maxHeartbeats 1000000 in
theorem rmX7_toldCount {X : GX} {l : Launch} {r : Int32 × HpN} {v0 : Nat} {f : AH} {n : Nat} (h : mX7_toldCount v0 f n = some r) : AM X l yX7_toldCount cX7_toldCount 3 (some .int) 0 0 0 [.ref v0] f n (QHi r) := by
  have h : mX7_toldCount_l4 rFU v0 (0 : Int32) (0 : Int32) f n = some r := h
  refine AM.of (by decide +kernel) rfl (Nat.le_of_ble_eq_true rfl) (fun p e s m args below meth c C hnm => ?_)
  refine aw_nl [some (.ref v0), none, none] rfl ?_
  refine aw_iconst C 0 dX7_toldCount_0 ki_0 ?_
  refine aw_istore_n C dX7_toldCount_1 (by decide) rfl ?_
  refine aw_nl [some (.ref v0), some (.int (0 : Int32)), none] rfl ?_
  refine aw_iconst C 0 dX7_toldCount_2 ki_0 ?_
  refine aw_istore_n C dX7_toldCount_3 (by decide) rfl ?_
  refine aw_nl [some (.ref v0), some (.int (0 : Int32)), some (.int (0 : Int32))] rfl ?_
  refine aw_fl [some (.ref v0), some (.int (0 : Int32)), some (.int (0 : Int32))] ⟨rfl, ⟨rfl, ⟨rfl, trivial⟩⟩⟩ ?_
  exact rmX7_toldCount_l4 C rFU v0 (0 : Int32) (0 : Int32) f n _ _ (by omega) (by omega) h
