/-! part 32aj.cls -/
section
def mX8_spreadPiece_b147 (s0 : Int32) (f : AH) (n : Nat) : Option (Int32 × HpN) := some (s0, (f, n))
set_option maxHeartbeats 1000000 in
theorem rmX8_spreadPiece_b147 {X : GX} {p : Program} {l : Launch} {e : Env} {s : State} {m : MethodId} {args : Array Value} {below : List Frame} {meth : Method} {c : Code} {r : Int32 × HpN} {s0 : Int32} {f : AH} {n cells slots : Nat} (C : CC X p l (RM 5 0 0) s m args meth c RX8 cX8_spreadPiece 4 (some .int)) (hc : cells + 0 ≤ 0) (hs : slots + 0 ≤ 0) (h : mX8_spreadPiece_b147 s0 f n = some r) : AW X p l e (RM 5 0 0) s m args below meth c 4 (ZM X below args s 0 0 (QHi r)) f n cells slots 147 [none, none, none, none] [.int s0] := by
  have h : some (s0, (f, n)) = some r := h
  cases h
  exact aw_iret C rfl rfl dX8_spreadPiece_147 (by omega) (by omega) ⟨rfl, rfl, rfl⟩
def mX8_spreadPiece_b118 (rec86 : Nat → Int32 → (Option Nat) → Int32 → AH → Nat → Option (Int32 × HpN)) (v0 : Nat) (v1 : Int32) (v2 : Option Nat) (v3 : Int32) (f : AH) (n : Nat) : Option (Int32 × HpN) := rec86 v0 v1 v2 (v3 + (1 : Int32)) f n
set_option maxHeartbeats 1000000 in
theorem rmX8_spreadPiece_b118 {X : GX} {p : Program} {l : Launch} {e : Env} {s : State} {m : MethodId} {args : Array Value} {below : List Frame} {meth : Method} {c : Code} {r : Int32 × HpN} {rec86 : Nat → Int32 → (Option Nat) → Int32 → AH → Nat → Option (Int32 × HpN)} {v0 : Nat} {v1 : Int32} {v2 : Option Nat} {v3 : Int32} {f : AH} {n cells slots : Nat} (C : CC X p l (RM 5 0 0) s m args meth c RX8 cX8_spreadPiece 4 (some .int)) (Hr86 : ∀ (v0 : Nat) (v1 : Int32) (v2 : Option Nat) (v3 : Int32) (f : AH) (n cells slots : Nat), cells + 0 ≤ 0 → slots + 0 ≤ 0 → rec86 v0 v1 v2 v3 f n = some r → AW X p l e (RM 5 0 0) s m args below meth c 4 (ZM X below args s 0 0 (QHi r)) f n cells slots 86 [some (.ref v0), some (.int v1), some (va_rf v2), some (.int v3)] []) (hc : cells + 0 ≤ 0) (hs : slots + 0 ≤ 0) (h : mX8_spreadPiece_b118 rec86 v0 v1 v2 v3 f n = some r) : AW X p l e (RM 5 0 0) s m args below meth c 4 (ZM X below args s 0 0 (QHi r)) f n cells slots 118 [some (.ref v0), some (.int v1), some (va_rf v2), some (.int v3)] [] := by
  have h : rec86 v0 v1 v2 (v3 + (1 : Int32)) f n = some r := h
  refine aw_iinc C (v3 + (1 : Int32)) dX8_spreadPiece_118 rfl (by rw [ki_1]) (by decide) (ok_rf 2 rfl) ?_
  refine aw_nl [some (.ref v0), some (.int v1), some (va_rf v2), some (.int (v3 + (1 : Int32)))] rfl ?_
  refine aw_goto C 86 dX8_spreadPiece_121 (by decide) ?_
  refine aw_fl [some (.ref v0), some (.int v1), some (va_rf v2), some (.int (v3 + (1 : Int32)))] ⟨rfl, ⟨rfl, ⟨rfl, ⟨rfl, trivial⟩⟩⟩⟩ ?_
  exact Hr86 v0 v1 v2 (v3 + (1 : Int32)) f n _ _ (by omega) (by omega) h
def mX8_spreadPiece_l86 : Nat → Nat → Int32 → (Option Nat) → Int32 → AH → Nat → Option (Int32 × HpN)
  | 0, _, _, _, _, _, _ => none
  | d + 1, v0, v1, v2, v3, f, n => ((gR f v0 8 5).bind fun x1 => ((x1).bind fun j2 => rCk (isO f j2 1) (((mX1_size j2 f n).bind fun r4 => (if r4.1 ≤ v3 then ((gR r4.2.1 v0 8 7).bind fun x6 => ((gR r4.2.1 v0 8 1).bind fun x7 => ((gR r4.2.1 v0 8 5).bind fun x8 => ((x6).bind fun j9 => rCk (isO r4.2.1 j9 0) (((mX0_make j9 x7 x8 r4.2.1 r4.2.2).bind fun r11 => (if r11.1 = (0 : Int32) then mX8_spreadPiece_b147 (3 : Int32) r11.2.1 r11.2.2 else mX8_spreadPiece_b147 (0 : Int32) r11.2.1 r11.2.2))))))) else ((gR r4.2.1 v0 8 5).bind fun x13 => ((x13).bind fun j14 => rCk (isO r4.2.1 j14 1) (((mX1_areLike j14 v1 v3 r4.2.1 r4.2.2).bind fun r16 => (if r16.1 = (0 : Int32) then mX8_spreadPiece_b118 (fun v0 v1 v2 v3 f n => mX8_spreadPiece_l86 d v0 v1 v2 v3 f n) v0 v1 v2 v3 r16.2.1 r16.2.2 else ((gR r16.2.1 v0 8 1).bind fun x18 => ((x18).bind fun j19 => rCk (isO r16.2.1 j19 7) (((mX7_setTold j19 v3 v2 r16.2.1 r16.2.2).bind fun r21 => mX8_spreadPiece_b118 (fun v0 v1 v2 v3 f n => mX8_spreadPiece_l86 d v0 v1 v2 v3 f n) v0 v1 v2 v3 r21.2.1 r21.2.2))))))))))))))
set_option maxHeartbeats 1000000 in
theorem rmX8_spreadPiece_l86 {X : GX} {p : Program} {l : Launch} {e : Env} {s : State} {m : MethodId} {args : Array Value} {below : List Frame} {meth : Method} {c : Code} {r : Int32 × HpN} (C : CC X p l (RM 5 0 0) s m args meth c RX8 cX8_spreadPiece 4 (some .int)) : ∀ (d : Nat) (v0 : Nat) (v1 : Int32) (v2 : Option Nat) (v3 : Int32) (f : AH) (n cells slots : Nat) (_ : cells + 0 ≤ 0) (_ : slots + 0 ≤ 0) (_ : mX8_spreadPiece_l86 d v0 v1 v2 v3 f n = some r), AW X p l e (RM 5 0 0) s m args below meth c 4 (ZM X below args s 0 0 (QHi r)) f n cells slots 86 [some (.ref v0), some (.int v1), some (va_rf v2), some (.int v3)] [] := by
  intro d
  induction d with
  | zero =>
    intro v0 v1 v2 v3 f n cells slots hc hs h
    exact nomatch (show (none : Option (Int32 × HpN)) = some r from h)
  | succ d ih =>
    intro v0 v1 v2 v3 f n cells slots hc hs h
    have h : ((gR f v0 8 5).bind fun x1 => ((x1).bind fun j2 => rCk (isO f j2 1) (((mX1_size j2 f n).bind fun r4 => (if r4.1 ≤ v3 then ((gR r4.2.1 v0 8 7).bind fun x6 => ((gR r4.2.1 v0 8 1).bind fun x7 => ((gR r4.2.1 v0 8 5).bind fun x8 => ((x6).bind fun j9 => rCk (isO r4.2.1 j9 0) (((mX0_make j9 x7 x8 r4.2.1 r4.2.2).bind fun r11 => (if r11.1 = (0 : Int32) then mX8_spreadPiece_b147 (3 : Int32) r11.2.1 r11.2.2 else mX8_spreadPiece_b147 (0 : Int32) r11.2.1 r11.2.2))))))) else ((gR r4.2.1 v0 8 5).bind fun x13 => ((x13).bind fun j14 => rCk (isO r4.2.1 j14 1) (((mX1_areLike j14 v1 v3 r4.2.1 r4.2.2).bind fun r16 => (if r16.1 = (0 : Int32) then mX8_spreadPiece_b118 (fun v0 v1 v2 v3 f n => mX8_spreadPiece_l86 d v0 v1 v2 v3 f n) v0 v1 v2 v3 r16.2.1 r16.2.2 else ((gR r16.2.1 v0 8 1).bind fun x18 => ((x18).bind fun j19 => rCk (isO r16.2.1 j19 7) (((mX7_setTold j19 v3 v2 r16.2.1 r16.2.2).bind fun r21 => mX8_spreadPiece_b118 (fun v0 v1 v2 v3 f n => mX8_spreadPiece_l86 d v0 v1 v2 v3 f n) v0 v1 v2 v3 r21.2.1 r21.2.2)))))))))))))) = some r := h
    refine aw_iload_n C dX8_spreadPiece_86 rfl ?_
    refine aw_ald_n C dX8_spreadPiece_87 rfl ?_
    obtain ⟨x1, hx1, h⟩ := Option.bind_eq_some_iff.mp h
    refine ah_getR C gf_X8_38 hx1 dX8_spreadPiece_88 ?_
    obtain ⟨j2, hj2, h⟩ := Option.bind_eq_some_iff.mp h
    rw [hj2]
    obtain ⟨hb3, h⟩ := ck_some h
    obtain ⟨r4, hr4, h⟩ := Option.bind_eq_some_iff.mp h
    obtain ⟨fs5, hf5⟩ := isO_ex hb3
    refine aw_callV C (ci := 1) (b := j2) [] mv_X8_136 rfl rfl hf5 (rmX1_size hr4) rfl dX8_spreadPiece_91 (Nat.le_of_ble_eq_true rfl) (Nat.le_of_ble_eq_true rfl) rfl (Nat.le_of_ble_eq_true rfl) (show cells + 0 ≤ 0 by omega) (show slots + 0 ≤ 0 by omega) (fun v9 f9 n9 hh => ?_)
    obtain ⟨rfl, rfl, rfl⟩ := hh
    refine aw_icmp_ge C 124 dX8_spreadPiece_94 (by decide) (fun q => ?_) (fun q => ?_)
    · rw [if_pos q] at h
      refine aw_ald_n C dX8_spreadPiece_124 rfl ?_
      obtain ⟨x6, hx6, h⟩ := Option.bind_eq_some_iff.mp h
      refine ah_getR C gf_X8_48 hx6 dX8_spreadPiece_125 ?_
      refine aw_ald_n C dX8_spreadPiece_128 rfl ?_
      obtain ⟨x7, hx7, h⟩ := Option.bind_eq_some_iff.mp h
      refine ah_getR C gf_X8_21 hx7 dX8_spreadPiece_129 ?_
      refine aw_ald_n C dX8_spreadPiece_132 rfl ?_
      obtain ⟨x8, hx8, h⟩ := Option.bind_eq_some_iff.mp h
      refine ah_getR C gf_X8_38 hx8 dX8_spreadPiece_133 ?_
      obtain ⟨j9, hj9, h⟩ := Option.bind_eq_some_iff.mp h
      rw [hj9]
      obtain ⟨hb10, h⟩ := ck_some h
      obtain ⟨r11, hr11, h⟩ := Option.bind_eq_some_iff.mp h
      obtain ⟨fs12, hf12⟩ := isO_ex hb10
      refine aw_callV C (ci := 0) (b := j9) [va_rf x7, va_rf x8] mv_X8_365 rfl rfl hf12 (rmX0_make hr11) rfl dX8_spreadPiece_136 (Nat.le_of_ble_eq_true rfl) (Nat.le_of_ble_eq_true rfl) rfl (Nat.le_of_ble_eq_true rfl) (show (cells + 0) + 0 ≤ 0 by omega) (show (slots + 0) + 0 ≤ 0 by omega) (fun v9 f9 n9 hh => ?_)
      obtain ⟨rfl, rfl, rfl⟩ := hh
      refine aw_if_eq C 146 dX8_spreadPiece_139 (by decide) (fun q => ?_) (fun q => ?_)
      · rw [if_pos q] at h
        refine aw_iconst C 3 dX8_spreadPiece_146 ki_3 ?_
        refine aw_fl [none, none, none, none] trivial ?_
        exact rmX8_spreadPiece_b147 C (by omega) (by omega) h
      · rw [if_neg q] at h
        refine aw_iconst C 0 dX8_spreadPiece_142 ki_0 ?_
        refine aw_goto C 147 dX8_spreadPiece_143 (by decide) ?_
        refine aw_fl [none, none, none, none] trivial ?_
        exact rmX8_spreadPiece_b147 C (by omega) (by omega) h
    · rw [if_neg q] at h
      refine aw_ald_n C dX8_spreadPiece_97 rfl ?_
      obtain ⟨x13, hx13, h⟩ := Option.bind_eq_some_iff.mp h
      refine ah_getR C gf_X8_38 hx13 dX8_spreadPiece_98 ?_
      refine aw_iload_n C dX8_spreadPiece_101 rfl ?_
      refine aw_iload_n C dX8_spreadPiece_102 rfl ?_
      obtain ⟨j14, hj14, h⟩ := Option.bind_eq_some_iff.mp h
      rw [hj14]
      obtain ⟨hb15, h⟩ := ck_some h
      obtain ⟨r16, hr16, h⟩ := Option.bind_eq_some_iff.mp h
      obtain ⟨fs17, hf17⟩ := isO_ex hb15
      refine aw_callV C (ci := 1) (b := j14) [.int v1, .int v3] mv_X8_243 rfl rfl hf17 (rmX1_areLike hr16) rfl dX8_spreadPiece_103 (Nat.le_of_ble_eq_true rfl) (Nat.le_of_ble_eq_true rfl) rfl (Nat.le_of_ble_eq_true rfl) (show (cells + 0) + 0 ≤ 0 by omega) (show (slots + 0) + 0 ≤ 0 by omega) (fun v9 f9 n9 hh => ?_)
      obtain ⟨rfl, rfl, rfl⟩ := hh
      refine aw_if_eq C 118 dX8_spreadPiece_106 (by decide) (fun q => ?_) (fun q => ?_)
      · rw [if_pos q] at h
        refine aw_fl [some (.ref v0), some (.int v1), some (va_rf v2), some (.int v3)] ⟨rfl, ⟨rfl, ⟨rfl, ⟨rfl, trivial⟩⟩⟩⟩ ?_
        exact rmX8_spreadPiece_b118 C (fun v0 v1 v2 v3 f n cells slots hc hs h => ih v0 v1 v2 v3 f n cells slots hc hs h) (by omega) (by omega) h
      · rw [if_neg q] at h
        refine aw_ald_n C dX8_spreadPiece_109 rfl ?_
        obtain ⟨x18, hx18, h⟩ := Option.bind_eq_some_iff.mp h
        refine ah_getR C gf_X8_21 hx18 dX8_spreadPiece_110 ?_
        refine aw_iload_n C dX8_spreadPiece_113 rfl ?_
        refine aw_aload_n C dX8_spreadPiece_114 rfl (rf_or v2) ?_
        obtain ⟨j19, hj19, h⟩ := Option.bind_eq_some_iff.mp h
        rw [hj19]
        obtain ⟨hb20, h⟩ := ck_some h
        obtain ⟨r21, hr21, h⟩ := Option.bind_eq_some_iff.mp h
        obtain ⟨fs22, hf22⟩ := isO_ex hb20
        refine aw_callV C (ci := 7) (b := j19) [.int v3, va_rf v2] mv_X8_369 rfl rfl hf22 (rmX7_setTold hr21) rfl dX8_spreadPiece_115 (Nat.le_of_ble_eq_true rfl) (Nat.le_of_ble_eq_true rfl) rfl (Nat.le_of_ble_eq_true rfl) (show ((cells + 0) + 0) + 0 ≤ 0 by omega) (show ((slots + 0) + 0) + 0 ≤ 0 by omega) (fun v9 f9 n9 hh => ?_)
        obtain ⟨rfl, rfl, rfl⟩ := hh
        refine aw_fl [some (.ref v0), some (.int v1), some (va_rf v2), some (.int v3)] ⟨rfl, ⟨rfl, ⟨rfl, ⟨rfl, trivial⟩⟩⟩⟩ ?_
        exact rmX8_spreadPiece_b118 C (fun v0 v1 v2 v3 f n cells slots hc hs h => ih v0 v1 v2 v3 f n cells slots hc hs h) (by omega) (by omega) h
def mX8_spreadPiece_b78 (rec30 : Nat → Int32 → (Option Nat) → Int32 → AH → Nat → Option (Int32 × HpN)) (v0 : Nat) (v1 : Int32) (v2 : Option Nat) (v3 : Int32) (f : AH) (n : Nat) : Option (Int32 × HpN) := rec30 v0 v1 v2 (v3 + (1 : Int32)) f n
set_option maxHeartbeats 1000000 in
theorem rmX8_spreadPiece_b78 {X : GX} {p : Program} {l : Launch} {e : Env} {s : State} {m : MethodId} {args : Array Value} {below : List Frame} {meth : Method} {c : Code} {r : Int32 × HpN} {rec30 : Nat → Int32 → (Option Nat) → Int32 → AH → Nat → Option (Int32 × HpN)} {v0 : Nat} {v1 : Int32} {v2 : Option Nat} {v3 : Int32} {f : AH} {n cells slots : Nat} (C : CC X p l (RM 5 0 0) s m args meth c RX8 cX8_spreadPiece 4 (some .int)) (Hr30 : ∀ (v0 : Nat) (v1 : Int32) (v2 : Option Nat) (v3 : Int32) (f : AH) (n cells slots : Nat), cells + 0 ≤ 0 → slots + 0 ≤ 0 → rec30 v0 v1 v2 v3 f n = some r → AW X p l e (RM 5 0 0) s m args below meth c 4 (ZM X below args s 0 0 (QHi r)) f n cells slots 30 [some (.ref v0), some (.int v1), some (va_rf v2), some (.int v3)] []) (hc : cells + 0 ≤ 0) (hs : slots + 0 ≤ 0) (h : mX8_spreadPiece_b78 rec30 v0 v1 v2 v3 f n = some r) : AW X p l e (RM 5 0 0) s m args below meth c 4 (ZM X below args s 0 0 (QHi r)) f n cells slots 78 [some (.ref v0), some (.int v1), some (va_rf v2), some (.int v3)] [] := by
  have h : rec30 v0 v1 v2 (v3 + (1 : Int32)) f n = some r := h
  refine aw_iinc C (v3 + (1 : Int32)) dX8_spreadPiece_78 rfl (by rw [ki_1]) (by decide) (ok_rf 2 rfl) ?_
  refine aw_nl [some (.ref v0), some (.int v1), some (va_rf v2), some (.int (v3 + (1 : Int32)))] rfl ?_
  refine aw_goto C 30 dX8_spreadPiece_81 (by decide) ?_
  refine aw_fl [some (.ref v0), some (.int v1), some (va_rf v2), some (.int (v3 + (1 : Int32)))] ⟨rfl, ⟨rfl, ⟨rfl, ⟨rfl, trivial⟩⟩⟩⟩ ?_
  exact Hr30 v0 v1 v2 (v3 + (1 : Int32)) f n _ _ (by omega) (by omega) h
def mX8_spreadPiece_l30 : Nat → Nat → Int32 → (Option Nat) → Int32 → AH → Nat → Option (Int32 × HpN)
  | 0, _, _, _, _, _, _ => none
  | d + 1, v0, v1, v2, v3, f, n => ((gR f v0 8 5).bind fun x1 => ((x1).bind fun j2 => rCk (isO f j2 1) (((mX1_size j2 f n).bind fun r4 => (if r4.1 ≤ v3 then mX8_spreadPiece_l86 rFU v0 v1 v2 (0 : Int32) r4.2.1 r4.2.2 else ((gR r4.2.1 v0 8 5).bind fun x6 => ((x6).bind fun j7 => rCk (isO r4.2.1 j7 1) (((mX1_areLike j7 v1 v3 r4.2.1 r4.2.2).bind fun r9 => (if r9.1 = (0 : Int32) then mX8_spreadPiece_b78 (fun v0 v1 v2 v3 f n => mX8_spreadPiece_l30 d v0 v1 v2 v3 f n) v0 v1 v2 v3 r9.2.1 r9.2.2 else ((gR r9.2.1 v0 8 7).bind fun x11 => ((gR r9.2.1 v0 8 5).bind fun x12 => ((x12).bind fun j13 => rCk (isO r9.2.1 j13 1) (((mX1_get j13 v3 r9.2.1 r9.2.2).bind fun r15 => ((some r15.1).bind fun x17 => ((gR r15.2.1 v0 8 1).bind fun x18 => ((x11).bind fun j19 => rCk (isO r15.2.1 j19 0) (((mX0_escape j19 v2 x17 x18 r15.2.1 r15.2.2).bind fun r21 => (if r21.1 = (0 : Int32) then some ((2 : Int32), (r21.2.1, r21.2.2)) else mX8_spreadPiece_b78 (fun v0 v1 v2 v3 f n => mX8_spreadPiece_l30 d v0 v1 v2 v3 f n) v0 v1 v2 v3 r21.2.1 r21.2.2)))))))))))))))))))))
set_option maxHeartbeats 1000000 in
theorem rmX8_spreadPiece_l30 {X : GX} {p : Program} {l : Launch} {e : Env} {s : State} {m : MethodId} {args : Array Value} {below : List Frame} {meth : Method} {c : Code} {r : Int32 × HpN} (C : CC X p l (RM 5 0 0) s m args meth c RX8 cX8_spreadPiece 4 (some .int)) : ∀ (d : Nat) (v0 : Nat) (v1 : Int32) (v2 : Option Nat) (v3 : Int32) (f : AH) (n cells slots : Nat) (_ : cells + 0 ≤ 0) (_ : slots + 0 ≤ 0) (_ : mX8_spreadPiece_l30 d v0 v1 v2 v3 f n = some r), AW X p l e (RM 5 0 0) s m args below meth c 4 (ZM X below args s 0 0 (QHi r)) f n cells slots 30 [some (.ref v0), some (.int v1), some (va_rf v2), some (.int v3)] [] := by
  intro d
  induction d with
  | zero =>
    intro v0 v1 v2 v3 f n cells slots hc hs h
    exact nomatch (show (none : Option (Int32 × HpN)) = some r from h)
  | succ d ih =>
    intro v0 v1 v2 v3 f n cells slots hc hs h
    have h : ((gR f v0 8 5).bind fun x1 => ((x1).bind fun j2 => rCk (isO f j2 1) (((mX1_size j2 f n).bind fun r4 => (if r4.1 ≤ v3 then mX8_spreadPiece_l86 rFU v0 v1 v2 (0 : Int32) r4.2.1 r4.2.2 else ((gR r4.2.1 v0 8 5).bind fun x6 => ((x6).bind fun j7 => rCk (isO r4.2.1 j7 1) (((mX1_areLike j7 v1 v3 r4.2.1 r4.2.2).bind fun r9 => (if r9.1 = (0 : Int32) then mX8_spreadPiece_b78 (fun v0 v1 v2 v3 f n => mX8_spreadPiece_l30 d v0 v1 v2 v3 f n) v0 v1 v2 v3 r9.2.1 r9.2.2 else ((gR r9.2.1 v0 8 7).bind fun x11 => ((gR r9.2.1 v0 8 5).bind fun x12 => ((x12).bind fun j13 => rCk (isO r9.2.1 j13 1) (((mX1_get j13 v3 r9.2.1 r9.2.2).bind fun r15 => ((some r15.1).bind fun x17 => ((gR r15.2.1 v0 8 1).bind fun x18 => ((x11).bind fun j19 => rCk (isO r15.2.1 j19 0) (((mX0_escape j19 v2 x17 x18 r15.2.1 r15.2.2).bind fun r21 => (if r21.1 = (0 : Int32) then some ((2 : Int32), (r21.2.1, r21.2.2)) else mX8_spreadPiece_b78 (fun v0 v1 v2 v3 f n => mX8_spreadPiece_l30 d v0 v1 v2 v3 f n) v0 v1 v2 v3 r21.2.1 r21.2.2))))))))))))))))))))) = some r := h
    refine aw_iload_n C dX8_spreadPiece_30 rfl ?_
    refine aw_ald_n C dX8_spreadPiece_31 rfl ?_
    obtain ⟨x1, hx1, h⟩ := Option.bind_eq_some_iff.mp h
    refine ah_getR C gf_X8_38 hx1 dX8_spreadPiece_32 ?_
    obtain ⟨j2, hj2, h⟩ := Option.bind_eq_some_iff.mp h
    rw [hj2]
    obtain ⟨hb3, h⟩ := ck_some h
    obtain ⟨r4, hr4, h⟩ := Option.bind_eq_some_iff.mp h
    obtain ⟨fs5, hf5⟩ := isO_ex hb3
    refine aw_callV C (ci := 1) (b := j2) [] mv_X8_136 rfl rfl hf5 (rmX1_size hr4) rfl dX8_spreadPiece_35 (Nat.le_of_ble_eq_true rfl) (Nat.le_of_ble_eq_true rfl) rfl (Nat.le_of_ble_eq_true rfl) (show cells + 0 ≤ 0 by omega) (show slots + 0 ≤ 0 by omega) (fun v9 f9 n9 hh => ?_)
    obtain ⟨rfl, rfl, rfl⟩ := hh
    refine aw_icmp_ge C 84 dX8_spreadPiece_38 (by decide) (fun q => ?_) (fun q => ?_)
    · rw [if_pos q] at h
      refine aw_iconst C 0 dX8_spreadPiece_84 ki_0 ?_
      refine aw_istore_n C dX8_spreadPiece_85 (by decide) (ok_rf 2 rfl) ?_
      refine aw_nl [some (.ref v0), some (.int v1), some (va_rf v2), some (.int (0 : Int32))] rfl ?_
      refine aw_fl [some (.ref v0), some (.int v1), some (va_rf v2), some (.int (0 : Int32))] ⟨rfl, ⟨rfl, ⟨rfl, ⟨rfl, trivial⟩⟩⟩⟩ ?_
      exact rmX8_spreadPiece_l86 C rFU v0 v1 v2 (0 : Int32) r4.2.1 r4.2.2 _ _ (by omega) (by omega) h
    · rw [if_neg q] at h
      refine aw_ald_n C dX8_spreadPiece_41 rfl ?_
      obtain ⟨x6, hx6, h⟩ := Option.bind_eq_some_iff.mp h
      refine ah_getR C gf_X8_38 hx6 dX8_spreadPiece_42 ?_
      refine aw_iload_n C dX8_spreadPiece_45 rfl ?_
      refine aw_iload_n C dX8_spreadPiece_46 rfl ?_
      obtain ⟨j7, hj7, h⟩ := Option.bind_eq_some_iff.mp h
      rw [hj7]
      obtain ⟨hb8, h⟩ := ck_some h
      obtain ⟨r9, hr9, h⟩ := Option.bind_eq_some_iff.mp h
      obtain ⟨fs10, hf10⟩ := isO_ex hb8
      refine aw_callV C (ci := 1) (b := j7) [.int v1, .int v3] mv_X8_243 rfl rfl hf10 (rmX1_areLike hr9) rfl dX8_spreadPiece_47 (Nat.le_of_ble_eq_true rfl) (Nat.le_of_ble_eq_true rfl) rfl (Nat.le_of_ble_eq_true rfl) (show (cells + 0) + 0 ≤ 0 by omega) (show (slots + 0) + 0 ≤ 0 by omega) (fun v9 f9 n9 hh => ?_)
      obtain ⟨rfl, rfl, rfl⟩ := hh
      refine aw_if_eq C 78 dX8_spreadPiece_50 (by decide) (fun q => ?_) (fun q => ?_)
      · rw [if_pos q] at h
        refine aw_fl [some (.ref v0), some (.int v1), some (va_rf v2), some (.int v3)] ⟨rfl, ⟨rfl, ⟨rfl, ⟨rfl, trivial⟩⟩⟩⟩ ?_
        exact rmX8_spreadPiece_b78 C (fun v0 v1 v2 v3 f n cells slots hc hs h => ih v0 v1 v2 v3 f n cells slots hc hs h) (by omega) (by omega) h
      · rw [if_neg q] at h
        refine aw_ald_n C dX8_spreadPiece_53 rfl ?_
        obtain ⟨x11, hx11, h⟩ := Option.bind_eq_some_iff.mp h
        refine ah_getR C gf_X8_48 hx11 dX8_spreadPiece_54 ?_
        refine aw_aload_n C dX8_spreadPiece_57 rfl (rf_or v2) ?_
        refine aw_ald_n C dX8_spreadPiece_58 rfl ?_
        obtain ⟨x12, hx12, h⟩ := Option.bind_eq_some_iff.mp h
        refine ah_getR C gf_X8_38 hx12 dX8_spreadPiece_59 ?_
        refine aw_iload_n C dX8_spreadPiece_62 rfl ?_
        obtain ⟨j13, hj13, h⟩ := Option.bind_eq_some_iff.mp h
        rw [hj13]
        obtain ⟨hb14, h⟩ := ck_some h
        obtain ⟨r15, hr15, h⟩ := Option.bind_eq_some_iff.mp h
        obtain ⟨fs16, hf16⟩ := isO_ex hb14
        refine aw_callV C (ci := 1) (b := j13) [.int v3] mv_X8_241 rfl rfl hf16 (rmX1_get hr15) rfl dX8_spreadPiece_63 (Nat.le_of_ble_eq_true rfl) (Nat.le_of_ble_eq_true rfl) rfl (cs_1 (rf_cat _) (cs_1 (rf_cat _) cs_0)) (show ((cells + 0) + 0) + 0 ≤ 0 by omega) (show ((slots + 0) + 0) + 0 ≤ 0 by omega) (fun v9 f9 n9 hh => ?_)
        obtain ⟨rfl, rfl, rfl⟩ := hh
        obtain ⟨x17, hx17, h⟩ := Option.bind_eq_some_iff.mp h
        rw [Option.some.inj hx17]
        refine aw_ald_n C dX8_spreadPiece_66 rfl ?_
        obtain ⟨x18, hx18, h⟩ := Option.bind_eq_some_iff.mp h
        refine ah_getR C gf_X8_21 hx18 dX8_spreadPiece_67 ?_
        obtain ⟨j19, hj19, h⟩ := Option.bind_eq_some_iff.mp h
        rw [hj19]
        obtain ⟨hb20, h⟩ := ck_some h
        obtain ⟨r21, hr21, h⟩ := Option.bind_eq_some_iff.mp h
        obtain ⟨fs22, hf22⟩ := isO_ex hb20
        refine aw_callV C (ci := 0) (b := j19) [va_rf v2, va_rf x17, va_rf x18] mv_X8_247 rfl rfl hf22 (rmX0_escape hr21) rfl dX8_spreadPiece_70 (Nat.le_of_ble_eq_true rfl) (Nat.le_of_ble_eq_true rfl) rfl (Nat.le_of_ble_eq_true rfl) (show (((cells + 0) + 0) + 0) + 0 ≤ 0 by omega) (show (((slots + 0) + 0) + 0) + 0 ≤ 0 by omega) (fun v9 f9 n9 hh => ?_)
        obtain ⟨rfl, rfl, rfl⟩ := hh
        refine aw_if_ne C 78 dX8_spreadPiece_73 (by decide) (fun q => ?_) (fun q => ?_)
        · rw [if_neg q] at h
          refine aw_fl [some (.ref v0), some (.int v1), some (va_rf v2), some (.int v3)] ⟨rfl, ⟨rfl, ⟨rfl, ⟨rfl, trivial⟩⟩⟩⟩ ?_
          exact rmX8_spreadPiece_b78 C (fun v0 v1 v2 v3 f n cells slots hc hs h => ih v0 v1 v2 v3 f n cells slots hc hs h) (by omega) (by omega) h
        · rw [if_pos q] at h
          refine aw_iconst C 2 dX8_spreadPiece_76 ki_2 ?_
          cases h
          exact aw_iret C rfl rfl dX8_spreadPiece_77 (by omega) (by omega) ⟨rfl, rfl, rfl⟩
def mX8_spreadPiece (v0 : Nat) (v1 : Int32) (f : AH) (n : Nat) : Option (Int32 × HpN) := ((gR f v0 8 5).bind fun x1 => ((x1).bind fun j2 => rCk (isO f j2 1) (((mX1_get j2 v1 f n).bind fun r4 => ((some r4.1).bind fun x6 => (oN x6 (some ((1 : Int32), (r4.2.1, r4.2.2))) (fun j7 => ((gR r4.2.1 v0 8 1).bind fun x8 => ((x8).bind fun j9 => rCk (isO r4.2.1 j9 7) (((mX7_toldFor j9 v1 r4.2.1 r4.2.2).bind fun r11 => ((some r11.1).bind fun x13 => (oN x13 (some ((4 : Int32), (r11.2.1, r11.2.2))) (fun j14 => mX8_spreadPiece_l30 rFU v0 v1 (some j14) (0 : Int32) r11.2.1 r11.2.2))))))))))))))
set_option maxHeartbeats 1000000 in
theorem rmX8_spreadPiece {X : GX} {l : Launch} {r : Int32 × HpN} {v0 : Nat} {v1 : Int32} {f : AH} {n : Nat} (h : mX8_spreadPiece v0 v1 f n = some r) : AM X l yX8_spreadPiece cX8_spreadPiece 4 (some .int) 5 0 0 [.ref v0, .int v1] f n (QHi r) := by
  have h : ((gR f v0 8 5).bind fun x1 => ((x1).bind fun j2 => rCk (isO f j2 1) (((mX1_get j2 v1 f n).bind fun r4 => ((some r4.1).bind fun x6 => (oN x6 (some ((1 : Int32), (r4.2.1, r4.2.2))) (fun j7 => ((gR r4.2.1 v0 8 1).bind fun x8 => ((x8).bind fun j9 => rCk (isO r4.2.1 j9 7) (((mX7_toldFor j9 v1 r4.2.1 r4.2.2).bind fun r11 => ((some r11.1).bind fun x13 => (oN x13 (some ((4 : Int32), (r11.2.1, r11.2.2))) (fun j14 => mX8_spreadPiece_l30 rFU v0 v1 (some j14) (0 : Int32) r11.2.1 r11.2.2)))))))))))))) = some r := h
  refine AM.of (by decide +kernel) rfl (Nat.le_of_ble_eq_true rfl) (fun p e s m args below meth c C hnm => ?_)
  refine aw_nl [some (.ref v0), some (.int v1), none, none] rfl ?_
  refine aw_ald_n C dX8_spreadPiece_0 rfl ?_
  obtain ⟨x1, hx1, h⟩ := Option.bind_eq_some_iff.mp h
  refine ah_getR C gf_X8_38 hx1 dX8_spreadPiece_1 ?_
  refine aw_iload_n C dX8_spreadPiece_4 rfl ?_
  obtain ⟨j2, hj2, h⟩ := Option.bind_eq_some_iff.mp h
  rw [hj2]
  obtain ⟨hb3, h⟩ := ck_some h
  obtain ⟨r4, hr4, h⟩ := Option.bind_eq_some_iff.mp h
  obtain ⟨fs5, hf5⟩ := isO_ex hb3
  refine aw_callV C (ci := 1) (b := j2) [.int v1] mv_X8_241 rfl rfl hf5 (rmX1_get hr4) rfl dX8_spreadPiece_5 (Nat.le_of_ble_eq_true rfl) (Nat.le_of_ble_eq_true rfl) rfl (Nat.le_of_ble_eq_true rfl) (show 0 + 0 ≤ 0 by omega) (show 0 + 0 ≤ 0 by omega) (fun v9 f9 n9 hh => ?_)
  obtain ⟨rfl, rfl, rfl⟩ := hh
  obtain ⟨x6, hx6, h⟩ := Option.bind_eq_some_iff.mp h
  rw [Option.some.inj hx6]
  cases x6 with
  | none =>
    replace h : some ((1 : Int32), (r4.2.1, r4.2.2)) = some r := h
    refine aw_ifnonnull_n C 13 dX8_spreadPiece_8 (by decide) ?_
    refine aw_iconst C 1 dX8_spreadPiece_11 ki_1 ?_
    cases h
    exact aw_iret C rfl rfl dX8_spreadPiece_12 (by omega) (by omega) ⟨rfl, rfl, rfl⟩
  | some j7 =>
    replace h : ((gR r4.2.1 v0 8 1).bind fun x8 => ((x8).bind fun j9 => rCk (isO r4.2.1 j9 7) (((mX7_toldFor j9 v1 r4.2.1 r4.2.2).bind fun r11 => ((some r11.1).bind fun x13 => (oN x13 (some ((4 : Int32), (r11.2.1, r11.2.2))) (fun j14 => mX8_spreadPiece_l30 rFU v0 v1 (some j14) (0 : Int32) r11.2.1 r11.2.2))))))) = some r := h
    refine aw_ifnonnull_r C 13 dX8_spreadPiece_8 (by decide) ?_
    refine aw_ald_n C dX8_spreadPiece_13 rfl ?_
    obtain ⟨x8, hx8, h⟩ := Option.bind_eq_some_iff.mp h
    refine ah_getR C gf_X8_21 hx8 dX8_spreadPiece_14 ?_
    refine aw_iload_n C dX8_spreadPiece_17 rfl ?_
    obtain ⟨j9, hj9, h⟩ := Option.bind_eq_some_iff.mp h
    rw [hj9]
    obtain ⟨hb10, h⟩ := ck_some h
    obtain ⟨r11, hr11, h⟩ := Option.bind_eq_some_iff.mp h
    obtain ⟨fs12, hf12⟩ := isO_ex hb10
    refine aw_callV C (ci := 7) (b := j9) [.int v1] mv_X8_194 rfl rfl hf12 (rmX7_toldFor hr11) rfl dX8_spreadPiece_18 (Nat.le_of_ble_eq_true rfl) (Nat.le_of_ble_eq_true rfl) rfl (Nat.le_of_ble_eq_true rfl) (show (0 + 0) + 0 ≤ 0 by omega) (show (0 + 0) + 0 ≤ 0 by omega) (fun v9 f9 n9 hh => ?_)
    obtain ⟨rfl, rfl, rfl⟩ := hh
    obtain ⟨x13, hx13, h⟩ := Option.bind_eq_some_iff.mp h
    rw [Option.some.inj hx13]
    refine aw_astore_n C dX8_spreadPiece_21 (by decide) rfl (rf_or x13) ?_
    refine aw_nl [some (.ref v0), some (.int v1), some (va_rf x13), none] rfl ?_
    refine aw_aload_n C dX8_spreadPiece_22 rfl (rf_or x13) ?_
    cases x13 with
    | none =>
      replace h : some ((4 : Int32), (r11.2.1, r11.2.2)) = some r := h
      refine aw_ifnonnull_n C 28 dX8_spreadPiece_23 (by decide) ?_
      refine aw_iconst C 4 dX8_spreadPiece_26 ki_4 ?_
      cases h
      exact aw_iret C rfl rfl dX8_spreadPiece_27 (by omega) (by omega) ⟨rfl, rfl, rfl⟩
    | some j14 =>
      replace h : mX8_spreadPiece_l30 rFU v0 v1 (some j14) (0 : Int32) r11.2.1 r11.2.2 = some r := h
      refine aw_ifnonnull_r C 28 dX8_spreadPiece_23 (by decide) ?_
      refine aw_iconst C 0 dX8_spreadPiece_28 ki_0 ?_
      refine aw_istore_n C dX8_spreadPiece_29 (by decide) rfl ?_
      refine aw_nl [some (.ref v0), some (.int v1), some (.ref j14), some (.int (0 : Int32))] rfl ?_
      refine aw_fl [some (.ref v0), some (.int v1), some (va_rf (some j14)), some (.int (0 : Int32))] ⟨rfl, ⟨rfl, ⟨rfl, ⟨rfl, trivial⟩⟩⟩⟩ ?_
      exact rmX8_spreadPiece_l30 C rFU v0 v1 (some j14) (0 : Int32) r11.2.1 r11.2.2 _ _ (by omega) (by omega) h
def mX8_nowSize_b24 (s0 : Int32) (f : AH) (n : Nat) : Option (Int32 × HpN) := some (s0, (f, n))
set_option maxHeartbeats 1000000 in
theorem rmX8_nowSize_b24 {X : GX} {p : Program} {l : Launch} {e : Env} {s : State} {m : MethodId} {args : Array Value} {below : List Frame} {meth : Method} {c : Code} {r : Int32 × HpN} {s0 : Int32} {f : AH} {n cells slots : Nat} (C : CC X p l (RM 1 0 0) s m args meth c RX8 cX8_nowSize 4 (some .int)) (hc : cells + 0 ≤ 0) (hs : slots + 0 ≤ 0) (h : mX8_nowSize_b24 s0 f n = some r) : AW X p l e (RM 1 0 0) s m args below meth c 4 (ZM X below args s 0 0 (QHi r)) f n cells slots 24 [none, none, none, none] [.int s0] := by
  have h : some (s0, (f, n)) = some r := h
  cases h
  exact aw_iret C rfl rfl dX8_nowSize_24 (by omega) (by omega) ⟨rfl, rfl, rfl⟩
def mX8_nowSize (v0 : Nat) (v1 : Int32) (v2 : Option Nat) (f : AH) (n : Nat) : Option (Int32 × HpN) := ((gR f v0 8 1).bind fun x1 => ((x1).bind fun j2 => rCk (isO f j2 7) (((mX7_toldFor j2 v1 f n).bind fun r4 => ((some r4.1).bind fun x6 => (oN x6 (((v2).bind fun j8 => ((gI r4.2.1 j8 3 3).bind fun x9 => mX8_nowSize_b24 x9 r4.2.1 r4.2.2))) (fun j7 => rCk (isO r4.2.1 j7 5) (((mX5_size j7 r4.2.1 r4.2.2).bind fun r11 => mX8_nowSize_b24 r11.1 r11.2.1 r11.2.2)))))))))
set_option maxHeartbeats 1000000 in
theorem rmX8_nowSize {X : GX} {l : Launch} {r : Int32 × HpN} {v0 : Nat} {v1 : Int32} {v2 : Option Nat} {f : AH} {n : Nat} (h : mX8_nowSize v0 v1 v2 f n = some r) : AM X l yX8_nowSize cX8_nowSize 4 (some .int) 1 0 0 [.ref v0, .int v1, va_rf v2] f n (QHi r) := by
  have h : ((gR f v0 8 1).bind fun x1 => ((x1).bind fun j2 => rCk (isO f j2 7) (((mX7_toldFor j2 v1 f n).bind fun r4 => ((some r4.1).bind fun x6 => (oN x6 (((v2).bind fun j8 => ((gI r4.2.1 j8 3 3).bind fun x9 => mX8_nowSize_b24 x9 r4.2.1 r4.2.2))) (fun j7 => rCk (isO r4.2.1 j7 5) (((mX5_size j7 r4.2.1 r4.2.2).bind fun r11 => mX8_nowSize_b24 r11.1 r11.2.1 r11.2.2))))))))) = some r := h
  refine AM.of (by decide +kernel) (all1 rfl (all1 rfl (all1 (rf_cat _) rfl))) (Nat.le_of_ble_eq_true rfl) (fun p e s m args below meth c C hnm => ?_)
  refine aw_nl [some (.ref v0), some (.int v1), some (va_rf v2), none] rfl ?_
  refine aw_ald_n C dX8_nowSize_0 rfl ?_
  obtain ⟨x1, hx1, h⟩ := Option.bind_eq_some_iff.mp h
  refine ah_getR C gf_X8_21 hx1 dX8_nowSize_1 ?_
  refine aw_iload_n C dX8_nowSize_4 rfl ?_
  obtain ⟨j2, hj2, h⟩ := Option.bind_eq_some_iff.mp h
  rw [hj2]
  obtain ⟨hb3, h⟩ := ck_some h
  obtain ⟨r4, hr4, h⟩ := Option.bind_eq_some_iff.mp h
  obtain ⟨fs5, hf5⟩ := isO_ex hb3
  refine aw_callV C (ci := 7) (b := j2) [.int v1] mv_X8_194 rfl rfl hf5 (rmX7_toldFor hr4) rfl dX8_nowSize_5 (Nat.le_of_ble_eq_true rfl) (Nat.le_of_ble_eq_true rfl) rfl (Nat.le_of_ble_eq_true rfl) (show 0 + 0 ≤ 0 by omega) (show 0 + 0 ≤ 0 by omega) (fun v9 f9 n9 hh => ?_)
  obtain ⟨rfl, rfl, rfl⟩ := hh
  obtain ⟨x6, hx6, h⟩ := Option.bind_eq_some_iff.mp h
  rw [Option.some.inj hx6]
  refine aw_astore_n C dX8_nowSize_8 (by decide) (ok_rf 2 rfl) (rf_or x6) ?_
  refine aw_nl [some (.ref v0), some (.int v1), some (va_rf v2), some (va_rf x6)] rfl ?_
  refine aw_aload_n C dX8_nowSize_9 rfl (rf_or x6) ?_
  cases x6 with
  | none =>
    replace h : ((v2).bind fun j8 => ((gI r4.2.1 j8 3 3).bind fun x9 => mX8_nowSize_b24 x9 r4.2.1 r4.2.2)) = some r := h
    refine aw_ifnonnull_n C 20 dX8_nowSize_10 (by decide) ?_
    refine aw_aload_n C dX8_nowSize_13 rfl (rf_or v2) ?_
    obtain ⟨j8, hj8, h⟩ := Option.bind_eq_some_iff.mp h
    rw [hj8]
    obtain ⟨x9, hx9, h⟩ := Option.bind_eq_some_iff.mp h
    refine ah_getI C gf_X8_187 hx9 dX8_nowSize_14 ?_
    refine aw_goto C 24 dX8_nowSize_17 (by decide) ?_
    refine aw_fl [none, none, none, none] trivial ?_
    exact rmX8_nowSize_b24 C (by omega) (by omega) h
  | some j7 =>
    replace h : rCk (isO r4.2.1 j7 5) (((mX5_size j7 r4.2.1 r4.2.2).bind fun r11 => mX8_nowSize_b24 r11.1 r11.2.1 r11.2.2)) = some r := h
    refine aw_ifnonnull_r C 20 dX8_nowSize_10 (by decide) ?_
    refine aw_ald_n C dX8_nowSize_20 rfl ?_
    obtain ⟨hb10, h⟩ := ck_some h
    obtain ⟨r11, hr11, h⟩ := Option.bind_eq_some_iff.mp h
    obtain ⟨fs12, hf12⟩ := isO_ex hb10
    refine aw_callV C (ci := 5) (b := j7) [] mv_X8_63 rfl rfl hf12 (rmX5_size hr11) rfl dX8_nowSize_21 (Nat.le_of_ble_eq_true rfl) (Nat.le_of_ble_eq_true rfl) rfl (Nat.le_of_ble_eq_true rfl) (show (0 + 0) + 0 ≤ 0 by omega) (show (0 + 0) + 0 ≤ 0 by omega) (fun v9 f9 n9 hh => ?_)
    obtain ⟨rfl, rfl, rfl⟩ := hh
    refine aw_fl [none, none, none, none] trivial ?_
    exact rmX8_nowSize_b24 C (by omega) (by omega) h
def mX8_copyOfNow_b35 (s0 : Option Nat) (f : AH) (n : Nat) : Option (Option Nat × HpN) := some (s0, (f, n))
set_option maxHeartbeats 1000000 in
theorem rmX8_copyOfNow_b35 {X : GX} {p : Program} {l : Launch} {e : Env} {s : State} {m : MethodId} {args : Array Value} {below : List Frame} {meth : Method} {c : Code} {r : Option Nat × HpN} {s0 : Option Nat} {f : AH} {n cells slots : Nat} (C : CC X p l (RM 3 2 62) s m args meth c RX8 cX8_copyOfNow 4 (some (.object "PieceFiles$Row"))) (hc : cells + 0 ≤ 2) (hs : slots + 0 ≤ 62) (h : mX8_copyOfNow_b35 s0 f n = some r) : AW X p l e (RM 3 2 62) s m args below meth c 4 (ZM X below args s 2 62 (QHr r)) f n cells slots 35 [none, none, none, none] [va_rf s0] := by
  have h : some (s0, (f, n)) = some r := h
  cases h
  exact aw_aret C rfl (rf_or _) dX8_copyOfNow_35 (by omega) (by omega) ⟨rfl, rfl, rfl⟩
def mX8_copyOfNow (v0 : Nat) (v1 : Int32) (v2 : Option Nat) (f : AH) (n : Nat) : Option (Option Nat × HpN) := ((gR f v0 8 1).bind fun x1 => ((x1).bind fun j2 => rCk (isO f j2 7) (((mX7_toldFor j2 v1 f n).bind fun r4 => ((some r4.1).bind fun x6 => (oN x6 (((gR r4.2.1 v0 8 5).bind fun x8 => ((x8).bind fun j9 => ((gR r4.2.1 j9 1 0).bind fun x10 => ((v2).bind fun j11 => ((gI r4.2.1 j11 3 2).bind fun x12 => ((gI r4.2.1 j11 3 3).bind fun x13 => ((x10).bind fun j14 => rCk (isO r4.2.1 j14 5) (((mX5_part 60 j14 x12 x13 r4.2.1 r4.2.2).bind fun r16 => ((some r16.1).bind fun x18 => mX8_copyOfNow_b35 x18 r16.2.1 r16.2.2))))))))))) (fun j7 => mX8_copyOfNow_b35 (some j7) r4.2.1 r4.2.2)))))))
set_option maxHeartbeats 1000000 in
theorem rmX8_copyOfNow {X : GX} {l : Launch} {r : Option Nat × HpN} {v0 : Nat} {v1 : Int32} {v2 : Option Nat} {f : AH} {n : Nat} (h : mX8_copyOfNow v0 v1 v2 f n = some r) : AM X l yX8_copyOfNow cX8_copyOfNow 4 (some (.object "PieceFiles$Row")) 3 2 62 [.ref v0, .int v1, va_rf v2] f n (QHr r) := by
  have h : ((gR f v0 8 1).bind fun x1 => ((x1).bind fun j2 => rCk (isO f j2 7) (((mX7_toldFor j2 v1 f n).bind fun r4 => ((some r4.1).bind fun x6 => (oN x6 (((gR r4.2.1 v0 8 5).bind fun x8 => ((x8).bind fun j9 => ((gR r4.2.1 j9 1 0).bind fun x10 => ((v2).bind fun j11 => ((gI r4.2.1 j11 3 2).bind fun x12 => ((gI r4.2.1 j11 3 3).bind fun x13 => ((x10).bind fun j14 => rCk (isO r4.2.1 j14 5) (((mX5_part 60 j14 x12 x13 r4.2.1 r4.2.2).bind fun r16 => ((some r16.1).bind fun x18 => mX8_copyOfNow_b35 x18 r16.2.1 r16.2.2))))))))))) (fun j7 => mX8_copyOfNow_b35 (some j7) r4.2.1 r4.2.2))))))) = some r := h
  refine AM.of (by decide +kernel) (all1 rfl (all1 rfl (all1 (rf_cat _) rfl))) (Nat.le_of_ble_eq_true rfl) (fun p e s m args below meth c C hnm => ?_)
  refine aw_nl [some (.ref v0), some (.int v1), some (va_rf v2), none] rfl ?_
  refine aw_ald_n C dX8_copyOfNow_0 rfl ?_
  obtain ⟨x1, hx1, h⟩ := Option.bind_eq_some_iff.mp h
  refine ah_getR C gf_X8_21 hx1 dX8_copyOfNow_1 ?_
  refine aw_iload_n C dX8_copyOfNow_4 rfl ?_
  obtain ⟨j2, hj2, h⟩ := Option.bind_eq_some_iff.mp h
  rw [hj2]
  obtain ⟨hb3, h⟩ := ck_some h
  obtain ⟨r4, hr4, h⟩ := Option.bind_eq_some_iff.mp h
  obtain ⟨fs5, hf5⟩ := isO_ex hb3
  refine aw_callV C (ci := 7) (b := j2) [.int v1] mv_X8_194 rfl rfl hf5 (rmX7_toldFor hr4) rfl dX8_copyOfNow_5 (Nat.le_of_ble_eq_true rfl) (Nat.le_of_ble_eq_true rfl) rfl (Nat.le_of_ble_eq_true rfl) (show 0 + 0 ≤ 2 by omega) (show 0 + 0 ≤ 62 by omega) (fun v9 f9 n9 hh => ?_)
  obtain ⟨rfl, rfl, rfl⟩ := hh
  obtain ⟨x6, hx6, h⟩ := Option.bind_eq_some_iff.mp h
  rw [Option.some.inj hx6]
  refine aw_astore_n C dX8_copyOfNow_8 (by decide) (ok_rf 2 rfl) (rf_or x6) ?_
  refine aw_nl [some (.ref v0), some (.int v1), some (va_rf v2), some (va_rf x6)] rfl ?_
  refine aw_aload_n C dX8_copyOfNow_9 rfl (rf_or x6) ?_
  cases x6 with
  | none =>
    replace h : ((gR r4.2.1 v0 8 5).bind fun x8 => ((x8).bind fun j9 => ((gR r4.2.1 j9 1 0).bind fun x10 => ((v2).bind fun j11 => ((gI r4.2.1 j11 3 2).bind fun x12 => ((gI r4.2.1 j11 3 3).bind fun x13 => ((x10).bind fun j14 => rCk (isO r4.2.1 j14 5) (((mX5_part 60 j14 x12 x13 r4.2.1 r4.2.2).bind fun r16 => ((some r16.1).bind fun x18 => mX8_copyOfNow_b35 x18 r16.2.1 r16.2.2)))))))))) = some r := h
    refine aw_ifnonnull_n C 34 dX8_copyOfNow_10 (by decide) ?_
    refine aw_ald_n C dX8_copyOfNow_13 rfl ?_
    obtain ⟨x8, hx8, h⟩ := Option.bind_eq_some_iff.mp h
    refine ah_getR C gf_X8_38 hx8 dX8_copyOfNow_14 ?_
    obtain ⟨j9, hj9, h⟩ := Option.bind_eq_some_iff.mp h
    rw [hj9]
    obtain ⟨x10, hx10, h⟩ := Option.bind_eq_some_iff.mp h
    refine ah_getR C gf_X8_373 hx10 dX8_copyOfNow_17 ?_
    refine aw_aload_n C dX8_copyOfNow_20 rfl (rf_or v2) ?_
    obtain ⟨j11, hj11, h⟩ := Option.bind_eq_some_iff.mp h
    rw [hj11]
    obtain ⟨x12, hx12, h⟩ := Option.bind_eq_some_iff.mp h
    refine ah_getI C gf_X8_224 hx12 dX8_copyOfNow_21 ?_
    refine aw_ald_n C dX8_copyOfNow_24 rfl ?_
    obtain ⟨x13, hx13, h⟩ := Option.bind_eq_some_iff.mp h
    refine ah_getI C gf_X8_187 hx13 dX8_copyOfNow_25 ?_
    obtain ⟨j14, hj14, h⟩ := Option.bind_eq_some_iff.mp h
    rw [hj14]
    obtain ⟨hb15, h⟩ := ck_some h
    obtain ⟨r16, hr16, h⟩ := Option.bind_eq_some_iff.mp h
    obtain ⟨fs17, hf17⟩ := isO_ex hb15
    refine aw_callV C (ci := 5) (b := j14) [.int x12, .int x13] mv_X8_126 rfl rfl hf17 (rmX5_part hr16) rfl dX8_copyOfNow_28 (Nat.le_of_ble_eq_true rfl) (Nat.le_of_ble_eq_true rfl) rfl (Nat.le_of_ble_eq_true rfl) (show (0 + 0) + 2 ≤ 2 by omega) (show (0 + 0) + (2 + 60) ≤ 62 by omega) (fun v9 f9 n9 hh => ?_)
    obtain ⟨rfl, rfl, rfl⟩ := hh
    obtain ⟨x18, hx18, h⟩ := Option.bind_eq_some_iff.mp h
    rw [Option.some.inj hx18]
    refine aw_goto C 35 dX8_copyOfNow_31 (by decide) ?_
    refine aw_fl [none, none, none, none] trivial ?_
    exact rmX8_copyOfNow_b35 C (by omega) (by omega) h
  | some j7 =>
    replace h : mX8_copyOfNow_b35 (some j7) r4.2.1 r4.2.2 = some r := h
    refine aw_ifnonnull_r C 34 dX8_copyOfNow_10 (by decide) ?_
    refine aw_ald_n C dX8_copyOfNow_34 rfl ?_
    refine aw_fl [none, none, none, none] trivial ?_
    exact rmX8_copyOfNow_b35 C (by omega) (by omega) h
def mX8_swapPieces_b160 (s0 : Int32) (f : AH) (n : Nat) : Option (Int32 × HpN) := some (s0, (f, n))
set_option maxHeartbeats 1000000 in
theorem rmX8_swapPieces_b160 {X : GX} {p : Program} {l : Launch} {e : Env} {s : State} {m : MethodId} {args : Array Value} {below : List Frame} {meth : Method} {c : Code} {r : Int32 × HpN} {s0 : Int32} {f : AH} {n cells slots : Nat} (C : CC X p l (RM 5 4 124) s m args meth c RX8 cX8_swapPieces 7 (some .int)) (hc : cells + 0 ≤ 4) (hs : slots + 0 ≤ 124) (h : mX8_swapPieces_b160 s0 f n = some r) : AW X p l e (RM 5 4 124) s m args below meth c 7 (ZM X below args s 4 124 (QHi r)) f n cells slots 160 [none, none, none, none, none, none, none] [.int s0] := by
  have h : some (s0, (f, n)) = some r := h
  cases h
  exact aw_iret C rfl rfl dX8_swapPieces_160 (by omega) (by omega) ⟨rfl, rfl, rfl⟩
def mX8_swapPieces_b115 (f : AH) (n : Nat) : Option (Int32 × HpN) := some ((2 : Int32), (f, n))
set_option maxHeartbeats 1000000 in
theorem rmX8_swapPieces_b115 {X : GX} {p : Program} {l : Launch} {e : Env} {s : State} {m : MethodId} {args : Array Value} {below : List Frame} {meth : Method} {c : Code} {r : Int32 × HpN} {f : AH} {n cells slots : Nat} (C : CC X p l (RM 5 4 124) s m args meth c RX8 cX8_swapPieces 7 (some .int)) (hc : cells + 0 ≤ 4) (hs : slots + 0 ≤ 124) (h : mX8_swapPieces_b115 f n = some r) : AW X p l e (RM 5 4 124) s m args below meth c 7 (ZM X below args s 4 124 (QHi r)) f n cells slots 115 [none, none, none, none, none, none, none] [] := by
  have h : some ((2 : Int32), (f, n)) = some r := h
  refine aw_iconst C 2 dX8_swapPieces_115 ki_2 ?_
  cases h
  exact aw_iret C rfl rfl dX8_swapPieces_116 (by omega) (by omega) ⟨rfl, rfl, rfl⟩
def mX8_swapPieces_b60 (f : AH) (n : Nat) : Option (Int32 × HpN) := some ((8 : Int32), (f, n))
set_option maxHeartbeats 1000000 in
theorem rmX8_swapPieces_b60 {X : GX} {p : Program} {l : Launch} {e : Env} {s : State} {m : MethodId} {args : Array Value} {below : List Frame} {meth : Method} {c : Code} {r : Int32 × HpN} {f : AH} {n cells slots : Nat} (C : CC X p l (RM 5 4 124) s m args meth c RX8 cX8_swapPieces 7 (some .int)) (hc : cells + 0 ≤ 4) (hs : slots + 0 ≤ 124) (h : mX8_swapPieces_b60 f n = some r) : AW X p l e (RM 5 4 124) s m args below meth c 7 (ZM X below args s 4 124 (QHi r)) f n cells slots 60 [none, none, none, none, none, none, none] [] := by
  have h : some ((8 : Int32), (f, n)) = some r := h
  refine aw_bipush C 8 dX8_swapPieces_60 kb_8 ?_
  cases h
  exact aw_iret C rfl rfl dX8_swapPieces_62 (by omega) (by omega) ⟨rfl, rfl, rfl⟩
def mX8_swapPieces_b28 (f : AH) (n : Nat) : Option (Int32 × HpN) := some ((1 : Int32), (f, n))
set_option maxHeartbeats 1000000 in
theorem rmX8_swapPieces_b28 {X : GX} {p : Program} {l : Launch} {e : Env} {s : State} {m : MethodId} {args : Array Value} {below : List Frame} {meth : Method} {c : Code} {r : Int32 × HpN} {f : AH} {n cells slots : Nat} (C : CC X p l (RM 5 4 124) s m args meth c RX8 cX8_swapPieces 7 (some .int)) (hc : cells + 0 ≤ 4) (hs : slots + 0 ≤ 124) (h : mX8_swapPieces_b28 f n = some r) : AW X p l e (RM 5 4 124) s m args below meth c 7 (ZM X below args s 4 124 (QHi r)) f n cells slots 28 [none, none, none, none, none, none, none] [] := by
  have h : some ((1 : Int32), (f, n)) = some r := h
  refine aw_iconst C 1 dX8_swapPieces_28 ki_1 ?_
  cases h
  exact aw_iret C rfl rfl dX8_swapPieces_29 (by omega) (by omega) ⟨rfl, rfl, rfl⟩
def mX8_swapPieces (v0 : Nat) (v1 : Int32) (v2 : Int32) (f : AH) (n : Nat) : Option (Int32 × HpN) := ((gR f v0 8 5).bind fun x1 => ((x1).bind fun j2 => rCk (isO f j2 1) (((mX1_get j2 v1 f n).bind fun r4 => ((some r4.1).bind fun x6 => ((gR r4.2.1 v0 8 5).bind fun x7 => ((x7).bind fun j8 => rCk (isO r4.2.1 j8 1) (((mX1_get j8 v2 r4.2.1 r4.2.2).bind fun r10 => ((some r10.1).bind fun x12 => (oN x6 (mX8_swapPieces_b28 r10.2.1 r10.2.2) (fun j13 => (oN x12 (mX8_swapPieces_b28 r10.2.1 r10.2.2) (fun j14 => (if v1 = v2 then some ((5 : Int32), (r10.2.1, r10.2.2)) else rCk (isO r10.2.1 v0 8) (((mX8_nowSize v0 v1 (some j13) r10.2.1 r10.2.2).bind fun r16 => (if (60 : Int32) < r16.1 then mX8_swapPieces_b60 r16.2.1 r16.2.2 else rCk (isO r16.2.1 v0 8) (((mX8_nowSize v0 v2 (some j14) r16.2.1 r16.2.2).bind fun r19 => (if r19.1 ≤ (60 : Int32) then rCk (isO r19.2.1 v0 8) (((mX8_copyOfNow v0 v1 (some j13) r19.2.1 r19.2.2).bind fun r22 => ((some r22.1).bind fun x24 => rCk (isO r22.2.1 v0 8) (((mX8_copyOfNow v0 v2 (some j14) r22.2.1 r22.2.2).bind fun r26 => ((some r26.1).bind fun x28 => ((gR r26.2.1 v0 8 7).bind fun x29 => ((gR r26.2.1 v0 8 1).bind fun x30 => ((x29).bind fun j31 => rCk (isO r26.2.1 j31 0) (((mX0_escape j31 x28 (some j13) x30 r26.2.1 r26.2.2).bind fun r33 => (if r33.1 = (0 : Int32) then mX8_swapPieces_b115 r33.2.1 r33.2.2 else ((gR r33.2.1 v0 8 7).bind fun x35 => ((gR r33.2.1 v0 8 1).bind fun x36 => ((x35).bind fun j37 => rCk (isO r33.2.1 j37 0) (((mX0_escape j37 x24 (some j14) x36 r33.2.1 r33.2.2).bind fun r39 => (if r39.1 = (0 : Int32) then mX8_swapPieces_b115 r39.2.1 r39.2.2 else ((gR r39.2.1 v0 8 1).bind fun x41 => ((x41).bind fun j42 => rCk (isO r39.2.1 j42 7) (((mX7_setTold j42 v1 x28 r39.2.1 r39.2.2).bind fun r44 => ((gR r44.2.1 v0 8 1).bind fun x46 => ((x46).bind fun j47 => rCk (isO r44.2.1 j47 7) (((mX7_setTold j47 v2 x24 r44.2.1 r44.2.2).bind fun r49 => ((gR r49.2.1 v0 8 7).bind fun x51 => ((gR r49.2.1 v0 8 1).bind fun x52 => ((gR r49.2.1 v0 8 5).bind fun x53 => ((x51).bind fun j54 => rCk (isO r49.2.1 j54 0) (((mX0_make j54 x52 x53 r49.2.1 r49.2.2).bind fun r56 => (if r56.1 = (0 : Int32) then mX8_swapPieces_b160 (3 : Int32) r56.2.1 r56.2.2 else mX8_swapPieces_b160 (0 : Int32) r56.2.1 r56.2.2))))))))))))))))))))))))))))))))) else mX8_swapPieces_b60 r19.2.1 r19.2.2)))))))))))))))))))))
set_option maxHeartbeats 1000000 in
theorem rmX8_swapPieces {X : GX} {l : Launch} {r : Int32 × HpN} {v0 : Nat} {v1 : Int32} {v2 : Int32} {f : AH} {n : Nat} (h : mX8_swapPieces v0 v1 v2 f n = some r) : AM X l yX8_swapPieces cX8_swapPieces 7 (some .int) 5 4 124 [.ref v0, .int v1, .int v2] f n (QHi r) := by
  have h : ((gR f v0 8 5).bind fun x1 => ((x1).bind fun j2 => rCk (isO f j2 1) (((mX1_get j2 v1 f n).bind fun r4 => ((some r4.1).bind fun x6 => ((gR r4.2.1 v0 8 5).bind fun x7 => ((x7).bind fun j8 => rCk (isO r4.2.1 j8 1) (((mX1_get j8 v2 r4.2.1 r4.2.2).bind fun r10 => ((some r10.1).bind fun x12 => (oN x6 (mX8_swapPieces_b28 r10.2.1 r10.2.2) (fun j13 => (oN x12 (mX8_swapPieces_b28 r10.2.1 r10.2.2) (fun j14 => (if v1 = v2 then some ((5 : Int32), (r10.2.1, r10.2.2)) else rCk (isO r10.2.1 v0 8) (((mX8_nowSize v0 v1 (some j13) r10.2.1 r10.2.2).bind fun r16 => (if (60 : Int32) < r16.1 then mX8_swapPieces_b60 r16.2.1 r16.2.2 else rCk (isO r16.2.1 v0 8) (((mX8_nowSize v0 v2 (some j14) r16.2.1 r16.2.2).bind fun r19 => (if r19.1 ≤ (60 : Int32) then rCk (isO r19.2.1 v0 8) (((mX8_copyOfNow v0 v1 (some j13) r19.2.1 r19.2.2).bind fun r22 => ((some r22.1).bind fun x24 => rCk (isO r22.2.1 v0 8) (((mX8_copyOfNow v0 v2 (some j14) r22.2.1 r22.2.2).bind fun r26 => ((some r26.1).bind fun x28 => ((gR r26.2.1 v0 8 7).bind fun x29 => ((gR r26.2.1 v0 8 1).bind fun x30 => ((x29).bind fun j31 => rCk (isO r26.2.1 j31 0) (((mX0_escape j31 x28 (some j13) x30 r26.2.1 r26.2.2).bind fun r33 => (if r33.1 = (0 : Int32) then mX8_swapPieces_b115 r33.2.1 r33.2.2 else ((gR r33.2.1 v0 8 7).bind fun x35 => ((gR r33.2.1 v0 8 1).bind fun x36 => ((x35).bind fun j37 => rCk (isO r33.2.1 j37 0) (((mX0_escape j37 x24 (some j14) x36 r33.2.1 r33.2.2).bind fun r39 => (if r39.1 = (0 : Int32) then mX8_swapPieces_b115 r39.2.1 r39.2.2 else ((gR r39.2.1 v0 8 1).bind fun x41 => ((x41).bind fun j42 => rCk (isO r39.2.1 j42 7) (((mX7_setTold j42 v1 x28 r39.2.1 r39.2.2).bind fun r44 => ((gR r44.2.1 v0 8 1).bind fun x46 => ((x46).bind fun j47 => rCk (isO r44.2.1 j47 7) (((mX7_setTold j47 v2 x24 r44.2.1 r44.2.2).bind fun r49 => ((gR r49.2.1 v0 8 7).bind fun x51 => ((gR r49.2.1 v0 8 1).bind fun x52 => ((gR r49.2.1 v0 8 5).bind fun x53 => ((x51).bind fun j54 => rCk (isO r49.2.1 j54 0) (((mX0_make j54 x52 x53 r49.2.1 r49.2.2).bind fun r56 => (if r56.1 = (0 : Int32) then mX8_swapPieces_b160 (3 : Int32) r56.2.1 r56.2.2 else mX8_swapPieces_b160 (0 : Int32) r56.2.1 r56.2.2))))))))))))))))))))))))))))))))) else mX8_swapPieces_b60 r19.2.1 r19.2.2))))))))))))))))))))) = some r := h
  refine AM.of (by decide +kernel) rfl (Nat.le_of_ble_eq_true rfl) (fun p e s m args below meth c C hnm => ?_)
  refine aw_nl [some (.ref v0), some (.int v1), some (.int v2), none, none, none, none] rfl ?_
  refine aw_ald_n C dX8_swapPieces_0 rfl ?_
  obtain ⟨x1, hx1, h⟩ := Option.bind_eq_some_iff.mp h
  refine ah_getR C gf_X8_38 hx1 dX8_swapPieces_1 ?_
  refine aw_iload_n C dX8_swapPieces_4 rfl ?_
  obtain ⟨j2, hj2, h⟩ := Option.bind_eq_some_iff.mp h
  rw [hj2]
  obtain ⟨hb3, h⟩ := ck_some h
  obtain ⟨r4, hr4, h⟩ := Option.bind_eq_some_iff.mp h
  obtain ⟨fs5, hf5⟩ := isO_ex hb3
  refine aw_callV C (ci := 1) (b := j2) [.int v1] mv_X8_241 rfl rfl hf5 (rmX1_get hr4) rfl dX8_swapPieces_5 (Nat.le_of_ble_eq_true rfl) (Nat.le_of_ble_eq_true rfl) rfl (Nat.le_of_ble_eq_true rfl) (show 0 + 0 ≤ 4 by omega) (show 0 + 0 ≤ 124 by omega) (fun v9 f9 n9 hh => ?_)
  obtain ⟨rfl, rfl, rfl⟩ := hh
  obtain ⟨x6, hx6, h⟩ := Option.bind_eq_some_iff.mp h
  rw [Option.some.inj hx6]
  refine aw_astore_n C dX8_swapPieces_8 (by decide) rfl (rf_or x6) ?_
  refine aw_nl [some (.ref v0), some (.int v1), some (.int v2), some (va_rf x6), none, none, none] rfl ?_
  refine aw_ald_n C dX8_swapPieces_9 rfl ?_
  obtain ⟨x7, hx7, h⟩ := Option.bind_eq_some_iff.mp h
  refine ah_getR C gf_X8_38 hx7 dX8_swapPieces_10 ?_
  refine aw_iload_n C dX8_swapPieces_13 rfl ?_
  obtain ⟨j8, hj8, h⟩ := Option.bind_eq_some_iff.mp h
  rw [hj8]
  obtain ⟨hb9, h⟩ := ck_some h
  obtain ⟨r10, hr10, h⟩ := Option.bind_eq_some_iff.mp h
  obtain ⟨fs11, hf11⟩ := isO_ex hb9
  refine aw_callV C (ci := 1) (b := j8) [.int v2] mv_X8_241 rfl rfl hf11 (rmX1_get hr10) rfl dX8_swapPieces_14 (Nat.le_of_ble_eq_true rfl) (Nat.le_of_ble_eq_true rfl) rfl (Nat.le_of_ble_eq_true rfl) (show (0 + 0) + 0 ≤ 4 by omega) (show (0 + 0) + 0 ≤ 124 by omega) (fun v9 f9 n9 hh => ?_)
  obtain ⟨rfl, rfl, rfl⟩ := hh
  obtain ⟨x12, hx12, h⟩ := Option.bind_eq_some_iff.mp h
  rw [Option.some.inj hx12]
  refine aw_astore C dX8_swapPieces_17 (by decide) (ok_rf 3 rfl) (rf_or x12) ?_
  refine aw_nl [some (.ref v0), some (.int v1), some (.int v2), some (va_rf x6), some (va_rf x12), none, none] rfl ?_
  refine aw_aload_n C dX8_swapPieces_19 rfl (rf_or x6) ?_
  cases x6 with
  | none =>
    replace h : mX8_swapPieces_b28 r10.2.1 r10.2.2 = some r := h
    refine aw_ifnull_n C 28 dX8_swapPieces_20 (by decide) ?_
    refine aw_fl [none, none, none, none, none, none, none] trivial ?_
    exact rmX8_swapPieces_b28 C (by omega) (by omega) h
  | some j13 =>
    replace h : (oN x12 (mX8_swapPieces_b28 r10.2.1 r10.2.2) (fun j14 => (if v1 = v2 then some ((5 : Int32), (r10.2.1, r10.2.2)) else rCk (isO r10.2.1 v0 8) (((mX8_nowSize v0 v1 (some j13) r10.2.1 r10.2.2).bind fun r16 => (if (60 : Int32) < r16.1 then mX8_swapPieces_b60 r16.2.1 r16.2.2 else rCk (isO r16.2.1 v0 8) (((mX8_nowSize v0 v2 (some j14) r16.2.1 r16.2.2).bind fun r19 => (if r19.1 ≤ (60 : Int32) then rCk (isO r19.2.1 v0 8) (((mX8_copyOfNow v0 v1 (some j13) r19.2.1 r19.2.2).bind fun r22 => ((some r22.1).bind fun x24 => rCk (isO r22.2.1 v0 8) (((mX8_copyOfNow v0 v2 (some j14) r22.2.1 r22.2.2).bind fun r26 => ((some r26.1).bind fun x28 => ((gR r26.2.1 v0 8 7).bind fun x29 => ((gR r26.2.1 v0 8 1).bind fun x30 => ((x29).bind fun j31 => rCk (isO r26.2.1 j31 0) (((mX0_escape j31 x28 (some j13) x30 r26.2.1 r26.2.2).bind fun r33 => (if r33.1 = (0 : Int32) then mX8_swapPieces_b115 r33.2.1 r33.2.2 else ((gR r33.2.1 v0 8 7).bind fun x35 => ((gR r33.2.1 v0 8 1).bind fun x36 => ((x35).bind fun j37 => rCk (isO r33.2.1 j37 0) (((mX0_escape j37 x24 (some j14) x36 r33.2.1 r33.2.2).bind fun r39 => (if r39.1 = (0 : Int32) then mX8_swapPieces_b115 r39.2.1 r39.2.2 else ((gR r39.2.1 v0 8 1).bind fun x41 => ((x41).bind fun j42 => rCk (isO r39.2.1 j42 7) (((mX7_setTold j42 v1 x28 r39.2.1 r39.2.2).bind fun r44 => ((gR r44.2.1 v0 8 1).bind fun x46 => ((x46).bind fun j47 => rCk (isO r44.2.1 j47 7) (((mX7_setTold j47 v2 x24 r44.2.1 r44.2.2).bind fun r49 => ((gR r49.2.1 v0 8 7).bind fun x51 => ((gR r49.2.1 v0 8 1).bind fun x52 => ((gR r49.2.1 v0 8 5).bind fun x53 => ((x51).bind fun j54 => rCk (isO r49.2.1 j54 0) (((mX0_make j54 x52 x53 r49.2.1 r49.2.2).bind fun r56 => (if r56.1 = (0 : Int32) then mX8_swapPieces_b160 (3 : Int32) r56.2.1 r56.2.2 else mX8_swapPieces_b160 (0 : Int32) r56.2.1 r56.2.2))))))))))))))))))))))))))))))))) else mX8_swapPieces_b60 r19.2.1 r19.2.2))))))))) = some r := h
    refine aw_ifnull_r C 28 dX8_swapPieces_20 (by decide) ?_
    refine aw_aload C dX8_swapPieces_23 rfl (rf_or x12) ?_
    cases x12 with
    | none =>
      replace h : mX8_swapPieces_b28 r10.2.1 r10.2.2 = some r := h
      refine aw_ifnonnull_n C 30 dX8_swapPieces_25 (by decide) ?_
      refine aw_fl [none, none, none, none, none, none, none] trivial ?_
      exact rmX8_swapPieces_b28 C (by omega) (by omega) h
    | some j14 =>
      replace h : (if v1 = v2 then some ((5 : Int32), (r10.2.1, r10.2.2)) else rCk (isO r10.2.1 v0 8) (((mX8_nowSize v0 v1 (some j13) r10.2.1 r10.2.2).bind fun r16 => (if (60 : Int32) < r16.1 then mX8_swapPieces_b60 r16.2.1 r16.2.2 else rCk (isO r16.2.1 v0 8) (((mX8_nowSize v0 v2 (some j14) r16.2.1 r16.2.2).bind fun r19 => (if r19.1 ≤ (60 : Int32) then rCk (isO r19.2.1 v0 8) (((mX8_copyOfNow v0 v1 (some j13) r19.2.1 r19.2.2).bind fun r22 => ((some r22.1).bind fun x24 => rCk (isO r22.2.1 v0 8) (((mX8_copyOfNow v0 v2 (some j14) r22.2.1 r22.2.2).bind fun r26 => ((some r26.1).bind fun x28 => ((gR r26.2.1 v0 8 7).bind fun x29 => ((gR r26.2.1 v0 8 1).bind fun x30 => ((x29).bind fun j31 => rCk (isO r26.2.1 j31 0) (((mX0_escape j31 x28 (some j13) x30 r26.2.1 r26.2.2).bind fun r33 => (if r33.1 = (0 : Int32) then mX8_swapPieces_b115 r33.2.1 r33.2.2 else ((gR r33.2.1 v0 8 7).bind fun x35 => ((gR r33.2.1 v0 8 1).bind fun x36 => ((x35).bind fun j37 => rCk (isO r33.2.1 j37 0) (((mX0_escape j37 x24 (some j14) x36 r33.2.1 r33.2.2).bind fun r39 => (if r39.1 = (0 : Int32) then mX8_swapPieces_b115 r39.2.1 r39.2.2 else ((gR r39.2.1 v0 8 1).bind fun x41 => ((x41).bind fun j42 => rCk (isO r39.2.1 j42 7) (((mX7_setTold j42 v1 x28 r39.2.1 r39.2.2).bind fun r44 => ((gR r44.2.1 v0 8 1).bind fun x46 => ((x46).bind fun j47 => rCk (isO r44.2.1 j47 7) (((mX7_setTold j47 v2 x24 r44.2.1 r44.2.2).bind fun r49 => ((gR r49.2.1 v0 8 7).bind fun x51 => ((gR r49.2.1 v0 8 1).bind fun x52 => ((gR r49.2.1 v0 8 5).bind fun x53 => ((x51).bind fun j54 => rCk (isO r49.2.1 j54 0) (((mX0_make j54 x52 x53 r49.2.1 r49.2.2).bind fun r56 => (if r56.1 = (0 : Int32) then mX8_swapPieces_b160 (3 : Int32) r56.2.1 r56.2.2 else mX8_swapPieces_b160 (0 : Int32) r56.2.1 r56.2.2))))))))))))))))))))))))))))))))) else mX8_swapPieces_b60 r19.2.1 r19.2.2))))))) = some r := h
      refine aw_ifnonnull_r C 30 dX8_swapPieces_25 (by decide) ?_
      refine aw_iload_n C dX8_swapPieces_30 rfl ?_
      refine aw_iload_n C dX8_swapPieces_31 rfl ?_
      refine aw_icmp_ne C 37 dX8_swapPieces_32 (by decide) (fun q => ?_) (fun q => ?_)
      · rw [if_neg q] at h
        refine aw_ald_n C dX8_swapPieces_37 rfl ?_
        refine aw_iload_n C dX8_swapPieces_38 rfl ?_
        refine aw_ald_n C dX8_swapPieces_39 rfl ?_
        obtain ⟨hb15, h⟩ := ck_some h
        obtain ⟨r16, hr16, h⟩ := Option.bind_eq_some_iff.mp h
        obtain ⟨fs17, hf17⟩ := isO_ex hb15
        refine aw_callV C (ci := 8) (b := v0) [.int v1, .ref j13] mv_X8_190 rfl rfl hf17 (rmX8_nowSize hr16) rfl dX8_swapPieces_40 (Nat.le_of_ble_eq_true rfl) (Nat.le_of_ble_eq_true rfl) rfl (Nat.le_of_ble_eq_true rfl) (show ((0 + 0) + 0) + 0 ≤ 4 by omega) (show ((0 + 0) + 0) + 0 ≤ 124 by omega) (fun v9 f9 n9 hh => ?_)
        obtain ⟨rfl, rfl, rfl⟩ := hh
        refine aw_bipush C 60 dX8_swapPieces_43 kb_60 ?_
        refine aw_icmp_gt C 60 dX8_swapPieces_45 (by decide) (fun q => ?_) (fun q => ?_)
        · rw [if_pos q] at h
          refine aw_fl [none, none, none, none, none, none, none] trivial ?_
          exact rmX8_swapPieces_b60 C (by omega) (by omega) h
        · rw [if_neg q] at h
          refine aw_ald_n C dX8_swapPieces_48 rfl ?_
          refine aw_iload_n C dX8_swapPieces_49 rfl ?_
          refine aw_ald C dX8_swapPieces_50 rfl ?_
          obtain ⟨hb18, h⟩ := ck_some h
          obtain ⟨r19, hr19, h⟩ := Option.bind_eq_some_iff.mp h
          obtain ⟨fs20, hf20⟩ := isO_ex hb18
          refine aw_callV C (ci := 8) (b := v0) [.int v2, .ref j14] mv_X8_190 rfl rfl hf20 (rmX8_nowSize hr19) rfl dX8_swapPieces_52 (Nat.le_of_ble_eq_true rfl) (Nat.le_of_ble_eq_true rfl) rfl (Nat.le_of_ble_eq_true rfl) (show (((0 + 0) + 0) + 0) + 0 ≤ 4 by omega) (show (((0 + 0) + 0) + 0) + 0 ≤ 124 by omega) (fun v9 f9 n9 hh => ?_)
          obtain ⟨rfl, rfl, rfl⟩ := hh
          refine aw_bipush C 60 dX8_swapPieces_55 kb_60 ?_
          refine aw_icmp_le C 63 dX8_swapPieces_57 (by decide) (fun q => ?_) (fun q => ?_)
          · rw [if_pos q] at h
            refine aw_ald_n C dX8_swapPieces_63 rfl ?_
            refine aw_iload_n C dX8_swapPieces_64 rfl ?_
            refine aw_ald_n C dX8_swapPieces_65 rfl ?_
            obtain ⟨hb21, h⟩ := ck_some h
            obtain ⟨r22, hr22, h⟩ := Option.bind_eq_some_iff.mp h
            obtain ⟨fs23, hf23⟩ := isO_ex hb21
            refine aw_callV C (ci := 8) (b := v0) [.int v1, .ref j13] mv_X8_378 rfl rfl hf23 (rmX8_copyOfNow hr22) rfl dX8_swapPieces_66 (Nat.le_of_ble_eq_true rfl) (Nat.le_of_ble_eq_true rfl) rfl (Nat.le_of_ble_eq_true rfl) (show ((((0 + 0) + 0) + 0) + 0) + 2 ≤ 4 by omega) (show ((((0 + 0) + 0) + 0) + 0) + 62 ≤ 124 by omega) (fun v9 f9 n9 hh => ?_)
            obtain ⟨rfl, rfl, rfl⟩ := hh
            obtain ⟨x24, hx24, h⟩ := Option.bind_eq_some_iff.mp h
            rw [Option.some.inj hx24]
            refine aw_astore C dX8_swapPieces_69 (by decide) rfl (rf_or x24) ?_
            refine aw_nl [some (.ref v0), some (.int v1), some (.int v2), some (.ref j13), some (.ref j14), some (va_rf x24), none] rfl ?_
            refine aw_ald_n C dX8_swapPieces_71 rfl ?_
            refine aw_iload_n C dX8_swapPieces_72 rfl ?_
            refine aw_ald C dX8_swapPieces_73 rfl ?_
            obtain ⟨hb25, h⟩ := ck_some h
            obtain ⟨r26, hr26, h⟩ := Option.bind_eq_some_iff.mp h
            obtain ⟨fs27, hf27⟩ := isO_ex hb25
            refine aw_callV C (ci := 8) (b := v0) [.int v2, .ref j14] mv_X8_378 rfl rfl hf27 (rmX8_copyOfNow hr26) rfl dX8_swapPieces_75 (Nat.le_of_ble_eq_true rfl) (Nat.le_of_ble_eq_true rfl) rfl (Nat.le_of_ble_eq_true rfl) (show (((((0 + 0) + 0) + 0) + 0) + 2) + 2 ≤ 4 by omega) (show (((((0 + 0) + 0) + 0) + 0) + 62) + 62 ≤ 124 by omega) (fun v9 f9 n9 hh => ?_)
            obtain ⟨rfl, rfl, rfl⟩ := hh
            obtain ⟨x28, hx28, h⟩ := Option.bind_eq_some_iff.mp h
            rw [Option.some.inj hx28]
            refine aw_astore C dX8_swapPieces_78 (by decide) (ok_rf 5 rfl) (rf_or x28) ?_
            refine aw_nl [some (.ref v0), some (.int v1), some (.int v2), some (.ref j13), some (.ref j14), some (va_rf x24), some (va_rf x28)] rfl ?_
            refine aw_ald_n C dX8_swapPieces_80 rfl ?_
            obtain ⟨x29, hx29, h⟩ := Option.bind_eq_some_iff.mp h
            refine ah_getR C gf_X8_48 hx29 dX8_swapPieces_81 ?_
            refine aw_aload C dX8_swapPieces_84 rfl (rf_or x28) ?_
            refine aw_ald_n C dX8_swapPieces_86 rfl ?_
            refine aw_ald_n C dX8_swapPieces_87 rfl ?_
            obtain ⟨x30, hx30, h⟩ := Option.bind_eq_some_iff.mp h
            refine ah_getR C gf_X8_21 hx30 dX8_swapPieces_88 ?_
            obtain ⟨j31, hj31, h⟩ := Option.bind_eq_some_iff.mp h
            rw [hj31]
            obtain ⟨hb32, h⟩ := ck_some h
            obtain ⟨r33, hr33, h⟩ := Option.bind_eq_some_iff.mp h
            obtain ⟨fs34, hf34⟩ := isO_ex hb32
            refine aw_callV C (ci := 0) (b := j31) [va_rf x28, .ref j13, va_rf x30] mv_X8_247 rfl rfl hf34 (rmX0_escape hr33) rfl dX8_swapPieces_91 (Nat.le_of_ble_eq_true rfl) (Nat.le_of_ble_eq_true rfl) rfl (Nat.le_of_ble_eq_true rfl) (show ((((((0 + 0) + 0) + 0) + 0) + 2) + 2) + 0 ≤ 4 by omega) (show ((((((0 + 0) + 0) + 0) + 0) + 62) + 62) + 0 ≤ 124 by omega) (fun v9 f9 n9 hh => ?_)
            obtain ⟨rfl, rfl, rfl⟩ := hh
            refine aw_if_eq C 115 dX8_swapPieces_94 (by decide) (fun q => ?_) (fun q => ?_)
            · rw [if_pos q] at h
              refine aw_fl [none, none, none, none, none, none, none] trivial ?_
              exact rmX8_swapPieces_b115 C (by omega) (by omega) h
            · rw [if_neg q] at h
              refine aw_ald_n C dX8_swapPieces_97 rfl ?_
              obtain ⟨x35, hx35, h⟩ := Option.bind_eq_some_iff.mp h
              refine ah_getR C gf_X8_48 hx35 dX8_swapPieces_98 ?_
              refine aw_aload C dX8_swapPieces_101 rfl (rf_or x24) ?_
              refine aw_ald C dX8_swapPieces_103 rfl ?_
              refine aw_ald_n C dX8_swapPieces_105 rfl ?_
              obtain ⟨x36, hx36, h⟩ := Option.bind_eq_some_iff.mp h
              refine ah_getR C gf_X8_21 hx36 dX8_swapPieces_106 ?_
              obtain ⟨j37, hj37, h⟩ := Option.bind_eq_some_iff.mp h
              rw [hj37]
              obtain ⟨hb38, h⟩ := ck_some h
              obtain ⟨r39, hr39, h⟩ := Option.bind_eq_some_iff.mp h
              obtain ⟨fs40, hf40⟩ := isO_ex hb38
              refine aw_callV C (ci := 0) (b := j37) [va_rf x24, .ref j14, va_rf x36] mv_X8_247 rfl rfl hf40 (rmX0_escape hr39) rfl dX8_swapPieces_109 (Nat.le_of_ble_eq_true rfl) (Nat.le_of_ble_eq_true rfl) rfl (Nat.le_of_ble_eq_true rfl) (show (((((((0 + 0) + 0) + 0) + 0) + 2) + 2) + 0) + 0 ≤ 4 by omega) (show (((((((0 + 0) + 0) + 0) + 0) + 62) + 62) + 0) + 0 ≤ 124 by omega) (fun v9 f9 n9 hh => ?_)
              obtain ⟨rfl, rfl, rfl⟩ := hh
              refine aw_if_ne C 117 dX8_swapPieces_112 (by decide) (fun q => ?_) (fun q => ?_)
              · rw [if_neg q] at h
                refine aw_ald_n C dX8_swapPieces_117 rfl ?_
                obtain ⟨x41, hx41, h⟩ := Option.bind_eq_some_iff.mp h
                refine ah_getR C gf_X8_21 hx41 dX8_swapPieces_118 ?_
                refine aw_iload_n C dX8_swapPieces_121 rfl ?_
                refine aw_aload C dX8_swapPieces_122 rfl (rf_or x28) ?_
                obtain ⟨j42, hj42, h⟩ := Option.bind_eq_some_iff.mp h
                rw [hj42]
                obtain ⟨hb43, h⟩ := ck_some h
                obtain ⟨r44, hr44, h⟩ := Option.bind_eq_some_iff.mp h
                obtain ⟨fs45, hf45⟩ := isO_ex hb43
                refine aw_callV C (ci := 7) (b := j42) [.int v1, va_rf x28] mv_X8_369 rfl rfl hf45 (rmX7_setTold hr44) rfl dX8_swapPieces_124 (Nat.le_of_ble_eq_true rfl) (Nat.le_of_ble_eq_true rfl) rfl (Nat.le_of_ble_eq_true rfl) (show ((((((((0 + 0) + 0) + 0) + 0) + 2) + 2) + 0) + 0) + 0 ≤ 4 by omega) (show ((((((((0 + 0) + 0) + 0) + 0) + 62) + 62) + 0) + 0) + 0 ≤ 124 by omega) (fun v9 f9 n9 hh => ?_)
                obtain ⟨rfl, rfl, rfl⟩ := hh
                refine aw_ald_n C dX8_swapPieces_127 rfl ?_
                obtain ⟨x46, hx46, h⟩ := Option.bind_eq_some_iff.mp h
                refine ah_getR C gf_X8_21 hx46 dX8_swapPieces_128 ?_
                refine aw_iload_n C dX8_swapPieces_131 rfl ?_
                refine aw_aload C dX8_swapPieces_132 rfl (rf_or x24) ?_
                obtain ⟨j47, hj47, h⟩ := Option.bind_eq_some_iff.mp h
                rw [hj47]
                obtain ⟨hb48, h⟩ := ck_some h
                obtain ⟨r49, hr49, h⟩ := Option.bind_eq_some_iff.mp h
                obtain ⟨fs50, hf50⟩ := isO_ex hb48
                refine aw_callV C (ci := 7) (b := j47) [.int v2, va_rf x24] mv_X8_369 rfl rfl hf50 (rmX7_setTold hr49) rfl dX8_swapPieces_134 (Nat.le_of_ble_eq_true rfl) (Nat.le_of_ble_eq_true rfl) rfl (Nat.le_of_ble_eq_true rfl) (show (((((((((0 + 0) + 0) + 0) + 0) + 2) + 2) + 0) + 0) + 0) + 0 ≤ 4 by omega) (show (((((((((0 + 0) + 0) + 0) + 0) + 62) + 62) + 0) + 0) + 0) + 0 ≤ 124 by omega) (fun v9 f9 n9 hh => ?_)
                obtain ⟨rfl, rfl, rfl⟩ := hh
                refine aw_ald_n C dX8_swapPieces_137 rfl ?_
                obtain ⟨x51, hx51, h⟩ := Option.bind_eq_some_iff.mp h
                refine ah_getR C gf_X8_48 hx51 dX8_swapPieces_138 ?_
                refine aw_ald_n C dX8_swapPieces_141 rfl ?_
                obtain ⟨x52, hx52, h⟩ := Option.bind_eq_some_iff.mp h
                refine ah_getR C gf_X8_21 hx52 dX8_swapPieces_142 ?_
                refine aw_ald_n C dX8_swapPieces_145 rfl ?_
                obtain ⟨x53, hx53, h⟩ := Option.bind_eq_some_iff.mp h
                refine ah_getR C gf_X8_38 hx53 dX8_swapPieces_146 ?_
                obtain ⟨j54, hj54, h⟩ := Option.bind_eq_some_iff.mp h
                rw [hj54]
                obtain ⟨hb55, h⟩ := ck_some h
                obtain ⟨r56, hr56, h⟩ := Option.bind_eq_some_iff.mp h
                obtain ⟨fs57, hf57⟩ := isO_ex hb55
                refine aw_callV C (ci := 0) (b := j54) [va_rf x52, va_rf x53] mv_X8_365 rfl rfl hf57 (rmX0_make hr56) rfl dX8_swapPieces_149 (Nat.le_of_ble_eq_true rfl) (Nat.le_of_ble_eq_true rfl) rfl (Nat.le_of_ble_eq_true rfl) (show ((((((((((0 + 0) + 0) + 0) + 0) + 2) + 2) + 0) + 0) + 0) + 0) + 0 ≤ 4 by omega) (show ((((((((((0 + 0) + 0) + 0) + 0) + 62) + 62) + 0) + 0) + 0) + 0) + 0 ≤ 124 by omega) (fun v9 f9 n9 hh => ?_)
                obtain ⟨rfl, rfl, rfl⟩ := hh
                refine aw_if_eq C 159 dX8_swapPieces_152 (by decide) (fun q => ?_) (fun q => ?_)
                · rw [if_pos q] at h
                  refine aw_iconst C 3 dX8_swapPieces_159 ki_3 ?_
                  refine aw_fl [none, none, none, none, none, none, none] trivial ?_
                  exact rmX8_swapPieces_b160 C (by omega) (by omega) h
                · rw [if_neg q] at h
                  refine aw_iconst C 0 dX8_swapPieces_155 ki_0 ?_
                  refine aw_goto C 160 dX8_swapPieces_156 (by decide) ?_
                  refine aw_fl [none, none, none, none, none, none, none] trivial ?_
                  exact rmX8_swapPieces_b160 C (by omega) (by omega) h
              · rw [if_pos q] at h
                refine aw_fl [none, none, none, none, none, none, none] trivial ?_
                exact rmX8_swapPieces_b115 C (by omega) (by omega) h
          · rw [if_neg q] at h
            refine aw_fl [none, none, none, none, none, none, none] trivial ?_
            exact rmX8_swapPieces_b60 C (by omega) (by omega) h
      · rw [if_pos q] at h
        refine aw_iconst C 5 dX8_swapPieces_35 ki_5 ?_
        cases h
        exact aw_iret C rfl rfl dX8_swapPieces_36 (by omega) (by omega) ⟨rfl, rfl, rfl⟩
def mX7_toldCount_b25 (rec4 : Nat → Int32 → Int32 → AH → Nat → Option (Int32 × HpN)) (v0 : Nat) (v1 : Int32) (v2 : Int32) (f : AH) (n : Nat) : Option (Int32 × HpN) := rec4 v0 v1 (v2 + (1 : Int32)) f n
set_option maxHeartbeats 1000000 in
theorem rmX7_toldCount_b25 {X : GX} {p : Program} {l : Launch} {e : Env} {s : State} {m : MethodId} {args : Array Value} {below : List Frame} {meth : Method} {c : Code} {r : Int32 × HpN} {rec4 : Nat → Int32 → Int32 → AH → Nat → Option (Int32 × HpN)} {v0 : Nat} {v1 : Int32} {v2 : Int32} {f : AH} {n cells slots : Nat} (C : CC X p l (RM 0 0 0) s m args meth c RX7 cX7_toldCount 3 (some .int)) (Hr4 : ∀ (v0 : Nat) (v1 : Int32) (v2 : Int32) (f : AH) (n cells slots : Nat), cells + 0 ≤ 0 → slots + 0 ≤ 0 → rec4 v0 v1 v2 f n = some r → AW X p l e (RM 0 0 0) s m args below meth c 3 (ZM X below args s 0 0 (QHi r)) f n cells slots 4 [some (.ref v0), some (.int v1), some (.int v2)] []) (hc : cells + 0 ≤ 0) (hs : slots + 0 ≤ 0) (h : mX7_toldCount_b25 rec4 v0 v1 v2 f n = some r) : AW X p l e (RM 0 0 0) s m args below meth c 3 (ZM X below args s 0 0 (QHi r)) f n cells slots 25 [some (.ref v0), some (.int v1), some (.int v2)] [] := by
  have h : rec4 v0 v1 (v2 + (1 : Int32)) f n = some r := h
  refine aw_iinc C (v2 + (1 : Int32)) dX7_toldCount_25 rfl (by rw [ki_1]) (by decide) rfl ?_
  refine aw_nl [some (.ref v0), some (.int v1), some (.int (v2 + (1 : Int32)))] rfl ?_
  refine aw_goto C 4 dX7_toldCount_28 (by decide) ?_
  refine aw_fl [some (.ref v0), some (.int v1), some (.int (v2 + (1 : Int32)))] ⟨rfl, ⟨rfl, ⟨rfl, trivial⟩⟩⟩ ?_
  exact Hr4 v0 v1 (v2 + (1 : Int32)) f n _ _ (by omega) (by omega) h
def mX7_toldCount_l4 : Nat → Nat → Int32 → Int32 → AH → Nat → Option (Int32 × HpN)
  | 0, _, _, _, _, _ => none
  | d + 1, v0, v1, v2, f, n => ((gR f v0 7 9).bind fun x1 => ((x1).bind fun j2 => ((gL f j2).bind fun x3 => (if (nI x3) ≤ v2 then some (v1, (f, n)) else ((gR f v0 7 9).bind fun x4 => ((x4).bind fun j5 => ((gRA f j5 v2).bind fun x6 => (oN x6 (mX7_toldCount_b25 (fun v0 v1 v2 f n => mX7_toldCount_l4 d v0 v1 v2 f n) v0 v1 v2 f n) (fun j7 => mX7_toldCount_b25 (fun v0 v1 v2 f n => mX7_toldCount_l4 d v0 v1 v2 f n) v0 (v1 + (1 : Int32)) v2 f n)))))))))
set_option maxHeartbeats 1000000 in
theorem rmX7_toldCount_l4 {X : GX} {p : Program} {l : Launch} {e : Env} {s : State} {m : MethodId} {args : Array Value} {below : List Frame} {meth : Method} {c : Code} {r : Int32 × HpN} (C : CC X p l (RM 0 0 0) s m args meth c RX7 cX7_toldCount 3 (some .int)) : ∀ (d : Nat) (v0 : Nat) (v1 : Int32) (v2 : Int32) (f : AH) (n cells slots : Nat) (_ : cells + 0 ≤ 0) (_ : slots + 0 ≤ 0) (_ : mX7_toldCount_l4 d v0 v1 v2 f n = some r), AW X p l e (RM 0 0 0) s m args below meth c 3 (ZM X below args s 0 0 (QHi r)) f n cells slots 4 [some (.ref v0), some (.int v1), some (.int v2)] [] := by
  intro d
  induction d with
  | zero =>
    intro v0 v1 v2 f n cells slots hc hs h
    exact nomatch (show (none : Option (Int32 × HpN)) = some r from h)
  | succ d ih =>
    intro v0 v1 v2 f n cells slots hc hs h
    have h : ((gR f v0 7 9).bind fun x1 => ((x1).bind fun j2 => ((gL f j2).bind fun x3 => (if (nI x3) ≤ v2 then some (v1, (f, n)) else ((gR f v0 7 9).bind fun x4 => ((x4).bind fun j5 => ((gRA f j5 v2).bind fun x6 => (oN x6 (mX7_toldCount_b25 (fun v0 v1 v2 f n => mX7_toldCount_l4 d v0 v1 v2 f n) v0 v1 v2 f n) (fun j7 => mX7_toldCount_b25 (fun v0 v1 v2 f n => mX7_toldCount_l4 d v0 v1 v2 f n) v0 (v1 + (1 : Int32)) v2 f n))))))))) = some r := h
    refine aw_iload_n C dX7_toldCount_4 rfl ?_
    refine aw_ald_n C dX7_toldCount_5 rfl ?_
    obtain ⟨x1, hx1, h⟩ := Option.bind_eq_some_iff.mp h
    refine ah_getR C gf_X7_34 hx1 dX7_toldCount_6 ?_
    obtain ⟨j2, hj2, h⟩ := Option.bind_eq_some_iff.mp h
    rw [hj2]
    obtain ⟨x3, hx3, h⟩ := Option.bind_eq_some_iff.mp h
    refine ah_len C hx3 dX7_toldCount_9 ?_
    refine aw_icmp_ge C 31 dX7_toldCount_10 (by decide) (fun q => ?_) (fun q => ?_)
    · rw [if_pos q] at h
      refine aw_iload_n C dX7_toldCount_31 rfl ?_
      cases h
      exact aw_iret C rfl rfl dX7_toldCount_32 (by omega) (by omega) ⟨rfl, rfl, rfl⟩
    · rw [if_neg q] at h
      refine aw_ald_n C dX7_toldCount_13 rfl ?_
      obtain ⟨x4, hx4, h⟩ := Option.bind_eq_some_iff.mp h
      refine ah_getR C gf_X7_34 hx4 dX7_toldCount_14 ?_
      refine aw_iload_n C dX7_toldCount_17 rfl ?_
      obtain ⟨j5, hj5, h⟩ := Option.bind_eq_some_iff.mp h
      rw [hj5]
      obtain ⟨x6, hx6, h⟩ := Option.bind_eq_some_iff.mp h
      refine ah_aald C hx6 dX7_toldCount_18 ?_
      cases x6 with
      | none =>
        replace h : mX7_toldCount_b25 (fun v0 v1 v2 f n => mX7_toldCount_l4 d v0 v1 v2 f n) v0 v1 v2 f n = some r := h
        refine aw_ifnull_n C 25 dX7_toldCount_19 (by decide) ?_
        refine aw_fl [some (.ref v0), some (.int v1), some (.int v2)] ⟨rfl, ⟨rfl, ⟨rfl, trivial⟩⟩⟩ ?_
        exact rmX7_toldCount_b25 C (fun v0 v1 v2 f n cells slots hc hs h => ih v0 v1 v2 f n cells slots hc hs h) (by omega) (by omega) h
      | some j7 =>
        replace h : mX7_toldCount_b25 (fun v0 v1 v2 f n => mX7_toldCount_l4 d v0 v1 v2 f n) v0 (v1 + (1 : Int32)) v2 f n = some r := h
        refine aw_ifnull_r C 25 dX7_toldCount_19 (by decide) ?_
        refine aw_iinc C (v1 + (1 : Int32)) dX7_toldCount_22 rfl (by rw [ki_1]) (by decide) rfl ?_
        refine aw_nl [some (.ref v0), some (.int (v1 + (1 : Int32))), some (.int v2)] rfl ?_
        refine aw_fl [some (.ref v0), some (.int (v1 + (1 : Int32))), some (.int v2)] ⟨rfl, ⟨rfl, ⟨rfl, trivial⟩⟩⟩ ?_
        exact rmX7_toldCount_b25 C (fun v0 v1 v2 f n cells slots hc hs h => ih v0 v1 v2 f n cells slots hc hs h) (by omega) (by omega) h
def mX7_toldCount (v0 : Nat) (f : AH) (n : Nat) : Option (Int32 × HpN) := mX7_toldCount_l4 rFU v0 (0 : Int32) (0 : Int32) f n
set_option maxHeartbeats 1000000 in
theorem rmX7_toldCount {X : GX} {l : Launch} {r : Int32 × HpN} {v0 : Nat} {f : AH} {n : Nat} (h : mX7_toldCount v0 f n = some r) : AM X l yX7_toldCount cX7_toldCount 3 (some .int) 0 0 0 [.ref v0] f n (QHi r) := by
  have h : mX7_toldCount_l4 rFU v0 (0 : Int32) (0 : Int32) f n = some r := h
  refine AM.of (by decide +kernel) rfl (Nat.le_of_ble_eq_true rfl) (fun p e s m args below meth c C hnm => ?_)
  refine aw_nl [some (.ref v0), none, none] rfl ?_
  refine aw_iconst C 0 dX7_toldCount_0 ki_0 ?_
  refine aw_istore_n C dX7_toldCount_1 (by decide) rfl ?_
  refine aw_nl [some (.ref v0), some (.int (0 : Int32)), none] rfl ?_
  refine aw_iconst C 0 dX7_toldCount_2 ki_0 ?_
  refine aw_istore_n C dX7_toldCount_3 (by decide) rfl ?_
  refine aw_nl [some (.ref v0), some (.int (0 : Int32)), some (.int (0 : Int32))] rfl ?_
  refine aw_fl [some (.ref v0), some (.int (0 : Int32)), some (.int (0 : Int32))] ⟨rfl, ⟨rfl, ⟨rfl, trivial⟩⟩⟩ ?_
  exact rmX7_toldCount_l4 C rFU v0 (0 : Int32) (0 : Int32) f n _ _ (by omega) (by omega) h
end
/-! part 32ak.cls -/
section
def mX8_wipePieces_b42 (s0 : Int32) (f : AH) (n : Nat) : Option (Int32 × HpN) := some (s0, (f, n))
set_option maxHeartbeats 1000000 in
theorem rmX8_wipePieces_b42 {X : GX} {p : Program} {l : Launch} {e : Env} {s : State} {m : MethodId} {args : Array Value} {below : List Frame} {meth : Method} {c : Code} {r : Int32 × HpN} {s0 : Int32} {f : AH} {n cells slots : Nat} (C : CC X p l (RM 5 0 0) s m args meth c RX8 cX8_wipePieces 1 (some .int)) (hc : cells + 0 ≤ 0) (hs : slots + 0 ≤ 0) (h : mX8_wipePieces_b42 s0 f n = some r) : AW X p l e (RM 5 0 0) s m args below meth c 1 (ZM X below args s 0 0 (QHi r)) f n cells slots 42 [none] [.int s0] := by
  have h : some (s0, (f, n)) = some r := h
  cases h
  exact aw_iret C rfl rfl dX8_wipePieces_42 (by omega) (by omega) ⟨rfl, rfl, rfl⟩
def mX8_wipePieces (v0 : Nat) (f : AH) (n : Nat) : Option (Int32 × HpN) := ((gR f v0 8 1).bind fun x1 => ((x1).bind fun j2 => rCk (isO f j2 7) (((mX7_toldCount j2 f n).bind fun r4 => (if r4.1 = (0 : Int32) then some ((4 : Int32), (r4.2.1, r4.2.2)) else ((gR r4.2.1 v0 8 1).bind fun x6 => ((x6).bind fun j7 => rCk (isO r4.2.1 j7 7) (((mX7_forgetTold j7 r4.2.1 r4.2.2).bind fun r9 => ((gR r9.2.1 v0 8 7).bind fun x11 => ((gR r9.2.1 v0 8 1).bind fun x12 => ((gR r9.2.1 v0 8 5).bind fun x13 => ((x11).bind fun j14 => rCk (isO r9.2.1 j14 0) (((mX0_make j14 x12 x13 r9.2.1 r9.2.2).bind fun r16 => (if r16.1 = (0 : Int32) then mX8_wipePieces_b42 (3 : Int32) r16.2.1 r16.2.2 else mX8_wipePieces_b42 (0 : Int32) r16.2.1 r16.2.2))))))))))))))))
set_option maxHeartbeats 1000000 in
theorem rmX8_wipePieces {X : GX} {l : Launch} {r : Int32 × HpN} {v0 : Nat} {f : AH} {n : Nat} (h : mX8_wipePieces v0 f n = some r) : AM X l yX8_wipePieces cX8_wipePieces 1 (some .int) 5 0 0 [.ref v0] f n (QHi r) := by
  have h : ((gR f v0 8 1).bind fun x1 => ((x1).bind fun j2 => rCk (isO f j2 7) (((mX7_toldCount j2 f n).bind fun r4 => (if r4.1 = (0 : Int32) then some ((4 : Int32), (r4.2.1, r4.2.2)) else ((gR r4.2.1 v0 8 1).bind fun x6 => ((x6).bind fun j7 => rCk (isO r4.2.1 j7 7) (((mX7_forgetTold j7 r4.2.1 r4.2.2).bind fun r9 => ((gR r9.2.1 v0 8 7).bind fun x11 => ((gR r9.2.1 v0 8 1).bind fun x12 => ((gR r9.2.1 v0 8 5).bind fun x13 => ((x11).bind fun j14 => rCk (isO r9.2.1 j14 0) (((mX0_make j14 x12 x13 r9.2.1 r9.2.2).bind fun r16 => (if r16.1 = (0 : Int32) then mX8_wipePieces_b42 (3 : Int32) r16.2.1 r16.2.2 else mX8_wipePieces_b42 (0 : Int32) r16.2.1 r16.2.2)))))))))))))))) = some r := h
  refine AM.of (by decide +kernel) rfl (Nat.le_of_ble_eq_true rfl) (fun p e s m args below meth c C hnm => ?_)
  refine aw_nl [some (.ref v0)] rfl ?_
  refine aw_ald_n C dX8_wipePieces_0 rfl ?_
  obtain ⟨x1, hx1, h⟩ := Option.bind_eq_some_iff.mp h
  refine ah_getR C gf_X8_21 hx1 dX8_wipePieces_1 ?_
  obtain ⟨j2, hj2, h⟩ := Option.bind_eq_some_iff.mp h
  rw [hj2]
  obtain ⟨hb3, h⟩ := ck_some h
  obtain ⟨r4, hr4, h⟩ := Option.bind_eq_some_iff.mp h
  obtain ⟨fs5, hf5⟩ := isO_ex hb3
  refine aw_callV C (ci := 7) (b := j2) [] mv_X8_167 rfl rfl hf5 (rmX7_toldCount hr4) rfl dX8_wipePieces_4 (Nat.le_of_ble_eq_true rfl) (Nat.le_of_ble_eq_true rfl) rfl (Nat.le_of_ble_eq_true rfl) (show 0 + 0 ≤ 0 by omega) (show 0 + 0 ≤ 0 by omega) (fun v9 f9 n9 hh => ?_)
  obtain ⟨rfl, rfl, rfl⟩ := hh
  refine aw_if_ne C 12 dX8_wipePieces_7 (by decide) (fun q => ?_) (fun q => ?_)
  · rw [if_neg q] at h
    refine aw_ald_n C dX8_wipePieces_12 rfl ?_
    obtain ⟨x6, hx6, h⟩ := Option.bind_eq_some_iff.mp h
    refine ah_getR C gf_X8_21 hx6 dX8_wipePieces_13 ?_
    obtain ⟨j7, hj7, h⟩ := Option.bind_eq_some_iff.mp h
    rw [hj7]
    obtain ⟨hb8, h⟩ := ck_some h
    obtain ⟨r9, hr9, h⟩ := Option.bind_eq_some_iff.mp h
    obtain ⟨fs10, hf10⟩ := isO_ex hb8
    refine aw_callV C (ci := 7) (b := j7) [] mv_X8_358 rfl rfl hf10 (rmX7_forgetTold hr9) rfl dX8_wipePieces_16 (Nat.le_of_ble_eq_true rfl) (Nat.le_of_ble_eq_true rfl) rfl (Nat.le_of_ble_eq_true rfl) (show (0 + 0) + 0 ≤ 0 by omega) (show (0 + 0) + 0 ≤ 0 by omega) (fun v9 f9 n9 hh => ?_)
    obtain ⟨rfl, rfl, rfl⟩ := hh
    refine aw_ald_n C dX8_wipePieces_19 rfl ?_
    obtain ⟨x11, hx11, h⟩ := Option.bind_eq_some_iff.mp h
    refine ah_getR C gf_X8_48 hx11 dX8_wipePieces_20 ?_
    refine aw_ald_n C dX8_wipePieces_23 rfl ?_
    obtain ⟨x12, hx12, h⟩ := Option.bind_eq_some_iff.mp h
    refine ah_getR C gf_X8_21 hx12 dX8_wipePieces_24 ?_
    refine aw_ald_n C dX8_wipePieces_27 rfl ?_
    obtain ⟨x13, hx13, h⟩ := Option.bind_eq_some_iff.mp h
    refine ah_getR C gf_X8_38 hx13 dX8_wipePieces_28 ?_
    obtain ⟨j14, hj14, h⟩ := Option.bind_eq_some_iff.mp h
    rw [hj14]
    obtain ⟨hb15, h⟩ := ck_some h
    obtain ⟨r16, hr16, h⟩ := Option.bind_eq_some_iff.mp h
    obtain ⟨fs17, hf17⟩ := isO_ex hb15
    refine aw_callV C (ci := 0) (b := j14) [va_rf x12, va_rf x13] mv_X8_365 rfl rfl hf17 (rmX0_make hr16) rfl dX8_wipePieces_31 (Nat.le_of_ble_eq_true rfl) (Nat.le_of_ble_eq_true rfl) rfl (Nat.le_of_ble_eq_true rfl) (show ((0 + 0) + 0) + 0 ≤ 0 by omega) (show ((0 + 0) + 0) + 0 ≤ 0 by omega) (fun v9 f9 n9 hh => ?_)
    obtain ⟨rfl, rfl, rfl⟩ := hh
    refine aw_if_eq C 41 dX8_wipePieces_34 (by decide) (fun q => ?_) (fun q => ?_)
    · rw [if_pos q] at h
      refine aw_iconst C 3 dX8_wipePieces_41 ki_3 ?_
      refine aw_fl [none] trivial ?_
      exact rmX8_wipePieces_b42 C (by omega) (by omega) h
    · rw [if_neg q] at h
      refine aw_iconst C 0 dX8_wipePieces_37 ki_0 ?_
      refine aw_goto C 42 dX8_wipePieces_38 (by decide) ?_
      refine aw_fl [none] trivial ?_
      exact rmX8_wipePieces_b42 C (by omega) (by omega) h
  · rw [if_pos q] at h
    refine aw_iconst C 4 dX8_wipePieces_10 ki_4 ?_
    cases h
    exact aw_iret C rfl rfl dX8_wipePieces_11 (by omega) (by omega) ⟨rfl, rfl, rfl⟩
def mX2_init (v0 : Nat) (v1 : Option Nat) (v2 : Option Nat) (v3 : Option Nat) (f : AH) (n : Nat) : Option (Int32 × HpN) := ((pO f v0 2 0 (va_rf v1)).bind fun f1 => ((pO f1 v0 2 1 (va_rf v2)).bind fun f2 => ((pO f2 v0 2 2 (va_rf v3)).bind fun f3 => some ((0 : Int32), (f3, n)))))
set_option maxHeartbeats 1000000 in
theorem rmX2_init {X : GX} {l : Launch} {r : Int32 × HpN} {v0 : Nat} {v1 : Option Nat} {v2 : Option Nat} {v3 : Option Nat} {f : AH} {n : Nat} (h : mX2_init v0 v1 v2 v3 f n = some r) : AM X l yX2_init cX2_init 4 none 1 0 0 [.ref v0, va_rf v1, va_rf v2, va_rf v3] f n (QHv r) := by
  have h : ((pO f v0 2 0 (va_rf v1)).bind fun f1 => ((pO f1 v0 2 1 (va_rf v2)).bind fun f2 => ((pO f2 v0 2 2 (va_rf v3)).bind fun f3 => some ((0 : Int32), (f3, n))))) = some r := h
  refine AM.of (by decide +kernel) (all1 rfl (all1 (rf_cat _) (all1 (rf_cat _) (all1 (rf_cat _) rfl)))) (Nat.le_of_ble_eq_true rfl) (fun p e s m args below meth c C hnm => ?_)
  refine aw_nl [some (.ref v0), some (va_rf v1), some (va_rf v2), some (va_rf v3)] rfl ?_
  refine aw_ald_n C dX2_init_0 rfl ?_
  refine aw_oinit C oi_X2_1 oi2 oi3 dX2_init_1 (Nat.le_of_ble_eq_true rfl) (Nat.le_of_ble_eq_true rfl) ?_
  refine aw_ald_n C dX2_init_4 rfl ?_
  refine aw_aload_n C dX2_init_5 rfl (rf_or v1) ?_
  obtain ⟨f1, hf1, h⟩ := Option.bind_eq_some_iff.mp h
  refine ah_putF C gf_X2_7 cf2 fi2_0 hnm (rf_nar _ v1) (rf_fit _ v1) hf1 dX2_init_6 ?_
  refine aw_ald_n C dX2_init_9 rfl ?_
  refine aw_aload_n C dX2_init_10 rfl (rf_or v2) ?_
  obtain ⟨f2, hf2, h⟩ := Option.bind_eq_some_iff.mp h
  refine ah_putF C gf_X2_13 cf2 fi2_1 hnm (rf_nar _ v2) (rf_fit _ v2) hf2 dX2_init_11 ?_
  refine aw_ald_n C dX2_init_14 rfl ?_
  refine aw_aload_n C dX2_init_15 rfl (rf_or v3) ?_
  obtain ⟨f3, hf3, h⟩ := Option.bind_eq_some_iff.mp h
  refine ah_putF C gf_X2_16 cf2 fi2_2 hnm (rf_nar _ v3) (rf_fit _ v3) hf3 dX2_init_16 ?_
  cases h
  exact aw_vret C rfl dX2_init_19 (by omega) (by omega) ⟨rfl, rfl, rfl⟩
def mX7_addPair (v0 : Nat) (v1 : Option Nat) (v2 : Option Nat) (f : AH) (n : Nat) : Option (Int32 × HpN) := ((gR (va_up f n (some (.inr (2, df2)))) v0 7 6).bind fun x2 => ((mX2_init n v1 v2 x2 (va_up f n (some (.inr (2, df2)))) (n + 1)).bind fun r3 => ((pO r3.2.1 v0 7 6 (.ref n)).bind fun f4 => ((gI f4 v0 7 7).bind fun x5 => ((pO f4 v0 7 7 (.int (jMin (x5 + (1 : Int32)) (12 : Int32)))).bind fun f6 => some ((0 : Int32), (f6, r3.2.2)))))))
set_option maxHeartbeats 1000000 in
theorem rmX7_addPair {X : GX} {l : Launch} {r : Int32 × HpN} {v0 : Nat} {v1 : Option Nat} {v2 : Option Nat} {f : AH} {n : Nat} (h : mX7_addPair v0 v1 v2 f n = some r) : AM X l yX7_addPair cX7_addPair 3 none 2 1 3 [.ref v0, va_rf v1, va_rf v2] f n (QHv r) := by
  have h : ((gR (va_up f n (some (.inr (2, df2)))) v0 7 6).bind fun x2 => ((mX2_init n v1 v2 x2 (va_up f n (some (.inr (2, df2)))) (n + 1)).bind fun r3 => ((pO r3.2.1 v0 7 6 (.ref n)).bind fun f4 => ((gI f4 v0 7 7).bind fun x5 => ((pO f4 v0 7 7 (.int (jMin (x5 + (1 : Int32)) (12 : Int32)))).bind fun f6 => some ((0 : Int32), (f6, r3.2.2))))))) = some r := h
  refine AM.of (by decide +kernel) (all1 rfl (all1 (rf_cat _) (all1 (rf_cat _) rfl))) (Nat.le_of_ble_eq_true rfl) (fun p e s m args below meth c C hnm => ?_)
  refine aw_nl [some (.ref v0), some (va_rf v1), some (va_rf v2)] rfl ?_
  refine aw_ald_n C dX7_addPair_0 rfl ?_
  refine aw_new C nw_X7_51 (show 0 + 1 ≤ 1 by omega) (show 0 + 3 ≤ 3 by omega) dX7_addPair_1 ?_
  refine aw_wide (k := (0 + 1)) (j := (0 + 3)) (Nat.le_refl _) (Nat.le_refl _) ?_
  refine aw_dup C dX7_addPair_4 rfl ?_
  refine aw_aload_n C dX7_addPair_5 rfl (rf_or v1) ?_
  refine aw_aload_n C dX7_addPair_6 rfl (rf_or v2) ?_
  refine aw_ald_n C dX7_addPair_7 rfl ?_
  obtain ⟨x2, hx2, h⟩ := Option.bind_eq_some_iff.mp h
  refine ah_getR C gf_X7_44 hx2 dX7_addPair_8 ?_
  obtain ⟨r3, hr3, h⟩ := Option.bind_eq_some_iff.mp h
  refine aw_callI C (b := n) [va_rf v1, va_rf v2, va_rf x2] mi_X7_53 (rmX2_init hr3) rfl dX7_addPair_11 (Nat.le_of_ble_eq_true rfl) (Nat.le_of_ble_eq_true rfl) rfl (Nat.le_of_ble_eq_true rfl) (show (0 + 1) + 0 ≤ 1 by omega) (show (0 + 3) + 0 ≤ 3 by omega) (fun v9 f9 n9 hh => ?_)
  obtain ⟨rfl, rfl, rfl⟩ := hh
  obtain ⟨f4, hf4, h⟩ := Option.bind_eq_some_iff.mp h
  refine ah_put C gf_X7_44 cf7 nf7_6 rfl rfl hf4 dX7_addPair_14 ?_
  refine aw_ald_n C dX7_addPair_17 rfl ?_
  refine aw_ald_n C dX7_addPair_18 rfl ?_
  obtain ⟨x5, hx5, h⟩ := Option.bind_eq_some_iff.mp h
  refine ah_getI C gf_X7_48 hx5 dX7_addPair_19 ?_
  refine aw_iconst C 1 dX7_addPair_22 ki_1 ?_
  refine aw_iadd C dX7_addPair_23 ?_
  refine aw_bipush C 12 dX7_addPair_24 kb_12 ?_
  refine ah_jMin C ms_X7_56 dX7_addPair_26 (Nat.le_of_ble_eq_true rfl) (Nat.le_of_ble_eq_true rfl) (Nat.le_of_ble_eq_true rfl) (show _ + 0 ≤ 1 by omega) (show _ + 0 ≤ 3 by omega) ?_
  obtain ⟨f6, hf6, h⟩ := Option.bind_eq_some_iff.mp h
  refine ah_put C gf_X7_48 cf7 nf7_7 rfl rfl hf6 dX7_addPair_29 ?_
  cases h
  exact aw_vret C rfl dX7_addPair_32 (by omega) (by omega) ⟨rfl, rfl, rfl⟩
def mX8_tellPiece_b101 (f : AH) (n : Nat) : Option (Int32 × HpN) := some ((0 : Int32), (f, n))
set_option maxHeartbeats 1000000 in
theorem rmX8_tellPiece_b101 {X : GX} {p : Program} {l : Launch} {e : Env} {s : State} {m : MethodId} {args : Array Value} {below : List Frame} {meth : Method} {c : Code} {r : Int32 × HpN} {f : AH} {n cells slots : Nat} (C : CC X p l (RM 5 3 65) s m args meth c RX8 cX8_tellPiece 4 (some .int)) (hc : cells + 0 ≤ 3) (hs : slots + 0 ≤ 65) (h : mX8_tellPiece_b101 f n = some r) : AW X p l e (RM 5 3 65) s m args below meth c 4 (ZM X below args s 3 65 (QHi r)) f n cells slots 101 [none, none, none, none] [] := by
  have h : some ((0 : Int32), (f, n)) = some r := h
  refine aw_iconst C 0 dX8_tellPiece_101 ki_0 ?_
  cases h
  exact aw_iret C rfl rfl dX8_tellPiece_102 (by omega) (by omega) ⟨rfl, rfl, rfl⟩
def mX8_tellPiece_b17 (f : AH) (n : Nat) : Option (Int32 × HpN) := some ((1 : Int32), (f, n))
set_option maxHeartbeats 1000000 in
theorem rmX8_tellPiece_b17 {X : GX} {p : Program} {l : Launch} {e : Env} {s : State} {m : MethodId} {args : Array Value} {below : List Frame} {meth : Method} {c : Code} {r : Int32 × HpN} {f : AH} {n cells slots : Nat} (C : CC X p l (RM 5 3 65) s m args meth c RX8 cX8_tellPiece 4 (some .int)) (hc : cells + 0 ≤ 3) (hs : slots + 0 ≤ 65) (h : mX8_tellPiece_b17 f n = some r) : AW X p l e (RM 5 3 65) s m args below meth c 4 (ZM X below args s 3 65 (QHi r)) f n cells slots 17 [none, none, none, none] [] := by
  have h : some ((1 : Int32), (f, n)) = some r := h
  refine aw_iconst C 1 dX8_tellPiece_17 ki_1 ?_
  cases h
  exact aw_iret C rfl rfl dX8_tellPiece_18 (by omega) (by omega) ⟨rfl, rfl, rfl⟩
def mX8_tellPiece (v0 : Nat) (v1 : Int32) (v2 : Option Nat) (f : AH) (n : Nat) : Option (Int32 × HpN) := ((gR f v0 8 5).bind fun x1 => ((x1).bind fun j2 => rCk (isO f j2 1) (((mX1_get j2 v1 f n).bind fun r4 => ((some r4.1).bind fun x6 => (oN x6 (mX8_tellPiece_b17 r4.2.1 r4.2.2) (fun j7 => (oN v2 (mX8_tellPiece_b17 r4.2.1 r4.2.2) (fun j8 => ((gR r4.2.1 v0 8 7).bind fun x9 => ((gR r4.2.1 v0 8 1).bind fun x10 => ((x9).bind fun j11 => rCk (isO r4.2.1 j11 0) (((mX0_escape j11 (some j8) (some j7) x10 r4.2.1 r4.2.2).bind fun r13 => (if r13.1 = (0 : Int32) then some ((2 : Int32), (r13.2.1, r13.2.2)) else ((gR r13.2.1 v0 8 1).bind fun x15 => ((x15).bind fun j16 => rCk (isO r13.2.1 j16 7) (((mX7_setTold j16 v1 (some j8) r13.2.1 r13.2.2).bind fun r18 => ((gR r18.2.1 v0 8 7).bind fun x20 => ((gR r18.2.1 v0 8 1).bind fun x21 => ((gR r18.2.1 v0 8 5).bind fun x22 => ((x20).bind fun j23 => rCk (isO r18.2.1 j23 0) (((mX0_make j23 x21 x22 r18.2.1 r18.2.2).bind fun r25 => (if r25.1 = (0 : Int32) then some ((3 : Int32), (r25.2.1, r25.2.2)) else ((gI r25.2.1 j7 3 3).bind fun x27 => (if (60 : Int32) < x27 then mX8_tellPiece_b101 r25.2.1 r25.2.2 else ((gR r25.2.1 v0 8 1).bind fun x28 => ((gR r25.2.1 v0 8 5).bind fun x29 => ((x29).bind fun j30 => ((gR r25.2.1 j30 1 0).bind fun x31 => ((gI r25.2.1 j7 3 2).bind fun x32 => ((gI r25.2.1 j7 3 3).bind fun x33 => ((x31).bind fun j34 => rCk (isO r25.2.1 j34 5) (((mX5_part 60 j34 x32 x33 r25.2.1 r25.2.2).bind fun r36 => ((some r36.1).bind fun x38 => ((x28).bind fun j39 => rCk (isO r36.2.1 j39 7) (((mX7_addPair j39 x38 (some j8) r36.2.1 r36.2.2).bind fun r41 => mX8_tellPiece_b101 r41.2.1 r41.2.2)))))))))))))))))))))))))))))))))))))))))
set_option maxHeartbeats 1000000 in
theorem rmX8_tellPiece {X : GX} {l : Launch} {r : Int32 × HpN} {v0 : Nat} {v1 : Int32} {v2 : Option Nat} {f : AH} {n : Nat} (h : mX8_tellPiece v0 v1 v2 f n = some r) : AM X l yX8_tellPiece cX8_tellPiece 4 (some .int) 5 3 65 [.ref v0, .int v1, va_rf v2] f n (QHi r) := by
  have h : ((gR f v0 8 5).bind fun x1 => ((x1).bind fun j2 => rCk (isO f j2 1) (((mX1_get j2 v1 f n).bind fun r4 => ((some r4.1).bind fun x6 => (oN x6 (mX8_tellPiece_b17 r4.2.1 r4.2.2) (fun j7 => (oN v2 (mX8_tellPiece_b17 r4.2.1 r4.2.2) (fun j8 => ((gR r4.2.1 v0 8 7).bind fun x9 => ((gR r4.2.1 v0 8 1).bind fun x10 => ((x9).bind fun j11 => rCk (isO r4.2.1 j11 0) (((mX0_escape j11 (some j8) (some j7) x10 r4.2.1 r4.2.2).bind fun r13 => (if r13.1 = (0 : Int32) then some ((2 : Int32), (r13.2.1, r13.2.2)) else ((gR r13.2.1 v0 8 1).bind fun x15 => ((x15).bind fun j16 => rCk (isO r13.2.1 j16 7) (((mX7_setTold j16 v1 (some j8) r13.2.1 r13.2.2).bind fun r18 => ((gR r18.2.1 v0 8 7).bind fun x20 => ((gR r18.2.1 v0 8 1).bind fun x21 => ((gR r18.2.1 v0 8 5).bind fun x22 => ((x20).bind fun j23 => rCk (isO r18.2.1 j23 0) (((mX0_make j23 x21 x22 r18.2.1 r18.2.2).bind fun r25 => (if r25.1 = (0 : Int32) then some ((3 : Int32), (r25.2.1, r25.2.2)) else ((gI r25.2.1 j7 3 3).bind fun x27 => (if (60 : Int32) < x27 then mX8_tellPiece_b101 r25.2.1 r25.2.2 else ((gR r25.2.1 v0 8 1).bind fun x28 => ((gR r25.2.1 v0 8 5).bind fun x29 => ((x29).bind fun j30 => ((gR r25.2.1 j30 1 0).bind fun x31 => ((gI r25.2.1 j7 3 2).bind fun x32 => ((gI r25.2.1 j7 3 3).bind fun x33 => ((x31).bind fun j34 => rCk (isO r25.2.1 j34 5) (((mX5_part 60 j34 x32 x33 r25.2.1 r25.2.2).bind fun r36 => ((some r36.1).bind fun x38 => ((x28).bind fun j39 => rCk (isO r36.2.1 j39 7) (((mX7_addPair j39 x38 (some j8) r36.2.1 r36.2.2).bind fun r41 => mX8_tellPiece_b101 r41.2.1 r41.2.2))))))))))))))))))))))))))))))))))))))))) = some r := h
  refine AM.of (by decide +kernel) (all1 rfl (all1 rfl (all1 (rf_cat _) rfl))) (Nat.le_of_ble_eq_true rfl) (fun p e s m args below meth c C hnm => ?_)
  refine aw_nl [some (.ref v0), some (.int v1), some (va_rf v2), none] rfl ?_
  refine aw_ald_n C dX8_tellPiece_0 rfl ?_
  obtain ⟨x1, hx1, h⟩ := Option.bind_eq_some_iff.mp h
  refine ah_getR C gf_X8_38 hx1 dX8_tellPiece_1 ?_
  refine aw_iload_n C dX8_tellPiece_4 rfl ?_
  obtain ⟨j2, hj2, h⟩ := Option.bind_eq_some_iff.mp h
  rw [hj2]
  obtain ⟨hb3, h⟩ := ck_some h
  obtain ⟨r4, hr4, h⟩ := Option.bind_eq_some_iff.mp h
  obtain ⟨fs5, hf5⟩ := isO_ex hb3
  refine aw_callV C (ci := 1) (b := j2) [.int v1] mv_X8_241 rfl rfl hf5 (rmX1_get hr4) rfl dX8_tellPiece_5 (Nat.le_of_ble_eq_true rfl) (Nat.le_of_ble_eq_true rfl) rfl (Nat.le_of_ble_eq_true rfl) (show 0 + 0 ≤ 3 by omega) (show 0 + 0 ≤ 65 by omega) (fun v9 f9 n9 hh => ?_)
  obtain ⟨rfl, rfl, rfl⟩ := hh
  obtain ⟨x6, hx6, h⟩ := Option.bind_eq_some_iff.mp h
  rw [Option.some.inj hx6]
  refine aw_astore_n C dX8_tellPiece_8 (by decide) (ok_rf 2 rfl) (rf_or x6) ?_
  refine aw_nl [some (.ref v0), some (.int v1), some (va_rf v2), some (va_rf x6)] rfl ?_
  refine aw_aload_n C dX8_tellPiece_9 rfl (rf_or x6) ?_
  cases x6 with
  | none =>
    replace h : mX8_tellPiece_b17 r4.2.1 r4.2.2 = some r := h
    refine aw_ifnull_n C 17 dX8_tellPiece_10 (by decide) ?_
    refine aw_fl [none, none, none, none] trivial ?_
    exact rmX8_tellPiece_b17 C (by omega) (by omega) h
  | some j7 =>
    replace h : (oN v2 (mX8_tellPiece_b17 r4.2.1 r4.2.2) (fun j8 => ((gR r4.2.1 v0 8 7).bind fun x9 => ((gR r4.2.1 v0 8 1).bind fun x10 => ((x9).bind fun j11 => rCk (isO r4.2.1 j11 0) (((mX0_escape j11 (some j8) (some j7) x10 r4.2.1 r4.2.2).bind fun r13 => (if r13.1 = (0 : Int32) then some ((2 : Int32), (r13.2.1, r13.2.2)) else ((gR r13.2.1 v0 8 1).bind fun x15 => ((x15).bind fun j16 => rCk (isO r13.2.1 j16 7) (((mX7_setTold j16 v1 (some j8) r13.2.1 r13.2.2).bind fun r18 => ((gR r18.2.1 v0 8 7).bind fun x20 => ((gR r18.2.1 v0 8 1).bind fun x21 => ((gR r18.2.1 v0 8 5).bind fun x22 => ((x20).bind fun j23 => rCk (isO r18.2.1 j23 0) (((mX0_make j23 x21 x22 r18.2.1 r18.2.2).bind fun r25 => (if r25.1 = (0 : Int32) then some ((3 : Int32), (r25.2.1, r25.2.2)) else ((gI r25.2.1 j7 3 3).bind fun x27 => (if (60 : Int32) < x27 then mX8_tellPiece_b101 r25.2.1 r25.2.2 else ((gR r25.2.1 v0 8 1).bind fun x28 => ((gR r25.2.1 v0 8 5).bind fun x29 => ((x29).bind fun j30 => ((gR r25.2.1 j30 1 0).bind fun x31 => ((gI r25.2.1 j7 3 2).bind fun x32 => ((gI r25.2.1 j7 3 3).bind fun x33 => ((x31).bind fun j34 => rCk (isO r25.2.1 j34 5) (((mX5_part 60 j34 x32 x33 r25.2.1 r25.2.2).bind fun r36 => ((some r36.1).bind fun x38 => ((x28).bind fun j39 => rCk (isO r36.2.1 j39 7) (((mX7_addPair j39 x38 (some j8) r36.2.1 r36.2.2).bind fun r41 => mX8_tellPiece_b101 r41.2.1 r41.2.2)))))))))))))))))))))))))))))))))) = some r := h
    refine aw_ifnull_r C 17 dX8_tellPiece_10 (by decide) ?_
    refine aw_aload_n C dX8_tellPiece_13 rfl (rf_or v2) ?_
    cases v2 with
    | none =>
      replace h : mX8_tellPiece_b17 r4.2.1 r4.2.2 = some r := h
      refine aw_ifnonnull_n C 19 dX8_tellPiece_14 (by decide) ?_
      refine aw_fl [none, none, none, none] trivial ?_
      exact rmX8_tellPiece_b17 C (by omega) (by omega) h
    | some j8 =>
      replace h : ((gR r4.2.1 v0 8 7).bind fun x9 => ((gR r4.2.1 v0 8 1).bind fun x10 => ((x9).bind fun j11 => rCk (isO r4.2.1 j11 0) (((mX0_escape j11 (some j8) (some j7) x10 r4.2.1 r4.2.2).bind fun r13 => (if r13.1 = (0 : Int32) then some ((2 : Int32), (r13.2.1, r13.2.2)) else ((gR r13.2.1 v0 8 1).bind fun x15 => ((x15).bind fun j16 => rCk (isO r13.2.1 j16 7) (((mX7_setTold j16 v1 (some j8) r13.2.1 r13.2.2).bind fun r18 => ((gR r18.2.1 v0 8 7).bind fun x20 => ((gR r18.2.1 v0 8 1).bind fun x21 => ((gR r18.2.1 v0 8 5).bind fun x22 => ((x20).bind fun j23 => rCk (isO r18.2.1 j23 0) (((mX0_make j23 x21 x22 r18.2.1 r18.2.2).bind fun r25 => (if r25.1 = (0 : Int32) then some ((3 : Int32), (r25.2.1, r25.2.2)) else ((gI r25.2.1 j7 3 3).bind fun x27 => (if (60 : Int32) < x27 then mX8_tellPiece_b101 r25.2.1 r25.2.2 else ((gR r25.2.1 v0 8 1).bind fun x28 => ((gR r25.2.1 v0 8 5).bind fun x29 => ((x29).bind fun j30 => ((gR r25.2.1 j30 1 0).bind fun x31 => ((gI r25.2.1 j7 3 2).bind fun x32 => ((gI r25.2.1 j7 3 3).bind fun x33 => ((x31).bind fun j34 => rCk (isO r25.2.1 j34 5) (((mX5_part 60 j34 x32 x33 r25.2.1 r25.2.2).bind fun r36 => ((some r36.1).bind fun x38 => ((x28).bind fun j39 => rCk (isO r36.2.1 j39 7) (((mX7_addPair j39 x38 (some j8) r36.2.1 r36.2.2).bind fun r41 => mX8_tellPiece_b101 r41.2.1 r41.2.2)))))))))))))))))))))))))))))))) = some r := h
      refine aw_ifnonnull_r C 19 dX8_tellPiece_14 (by decide) ?_
      refine aw_ald_n C dX8_tellPiece_19 rfl ?_
      obtain ⟨x9, hx9, h⟩ := Option.bind_eq_some_iff.mp h
      refine ah_getR C gf_X8_48 hx9 dX8_tellPiece_20 ?_
      refine aw_ald_n C dX8_tellPiece_23 rfl ?_
      refine aw_ald_n C dX8_tellPiece_24 rfl ?_
      refine aw_ald_n C dX8_tellPiece_25 rfl ?_
      obtain ⟨x10, hx10, h⟩ := Option.bind_eq_some_iff.mp h
      refine ah_getR C gf_X8_21 hx10 dX8_tellPiece_26 ?_
      obtain ⟨j11, hj11, h⟩ := Option.bind_eq_some_iff.mp h
      rw [hj11]
      obtain ⟨hb12, h⟩ := ck_some h
      obtain ⟨r13, hr13, h⟩ := Option.bind_eq_some_iff.mp h
      obtain ⟨fs14, hf14⟩ := isO_ex hb12
      refine aw_callV C (ci := 0) (b := j11) [.ref j8, .ref j7, va_rf x10] mv_X8_247 rfl rfl hf14 (rmX0_escape hr13) rfl dX8_tellPiece_29 (Nat.le_of_ble_eq_true rfl) (Nat.le_of_ble_eq_true rfl) rfl (Nat.le_of_ble_eq_true rfl) (show (0 + 0) + 0 ≤ 3 by omega) (show (0 + 0) + 0 ≤ 65 by omega) (fun v9 f9 n9 hh => ?_)
      obtain ⟨rfl, rfl, rfl⟩ := hh
      refine aw_if_ne C 37 dX8_tellPiece_32 (by decide) (fun q => ?_) (fun q => ?_)
      · rw [if_neg q] at h
        refine aw_ald_n C dX8_tellPiece_37 rfl ?_
        obtain ⟨x15, hx15, h⟩ := Option.bind_eq_some_iff.mp h
        refine ah_getR C gf_X8_21 hx15 dX8_tellPiece_38 ?_
        refine aw_iload_n C dX8_tellPiece_41 rfl ?_
        refine aw_ald_n C dX8_tellPiece_42 rfl ?_
        obtain ⟨j16, hj16, h⟩ := Option.bind_eq_some_iff.mp h
        rw [hj16]
        obtain ⟨hb17, h⟩ := ck_some h
        obtain ⟨r18, hr18, h⟩ := Option.bind_eq_some_iff.mp h
        obtain ⟨fs19, hf19⟩ := isO_ex hb17
        refine aw_callV C (ci := 7) (b := j16) [.int v1, .ref j8] mv_X8_369 rfl rfl hf19 (rmX7_setTold hr18) rfl dX8_tellPiece_43 (Nat.le_of_ble_eq_true rfl) (Nat.le_of_ble_eq_true rfl) rfl (Nat.le_of_ble_eq_true rfl) (show ((0 + 0) + 0) + 0 ≤ 3 by omega) (show ((0 + 0) + 0) + 0 ≤ 65 by omega) (fun v9 f9 n9 hh => ?_)
        obtain ⟨rfl, rfl, rfl⟩ := hh
        refine aw_ald_n C dX8_tellPiece_46 rfl ?_
        obtain ⟨x20, hx20, h⟩ := Option.bind_eq_some_iff.mp h
        refine ah_getR C gf_X8_48 hx20 dX8_tellPiece_47 ?_
        refine aw_ald_n C dX8_tellPiece_50 rfl ?_
        obtain ⟨x21, hx21, h⟩ := Option.bind_eq_some_iff.mp h
        refine ah_getR C gf_X8_21 hx21 dX8_tellPiece_51 ?_
        refine aw_ald_n C dX8_tellPiece_54 rfl ?_
        obtain ⟨x22, hx22, h⟩ := Option.bind_eq_some_iff.mp h
        refine ah_getR C gf_X8_38 hx22 dX8_tellPiece_55 ?_
        obtain ⟨j23, hj23, h⟩ := Option.bind_eq_some_iff.mp h
        rw [hj23]
        obtain ⟨hb24, h⟩ := ck_some h
        obtain ⟨r25, hr25, h⟩ := Option.bind_eq_some_iff.mp h
        obtain ⟨fs26, hf26⟩ := isO_ex hb24
        refine aw_callV C (ci := 0) (b := j23) [va_rf x21, va_rf x22] mv_X8_365 rfl rfl hf26 (rmX0_make hr25) rfl dX8_tellPiece_58 (Nat.le_of_ble_eq_true rfl) (Nat.le_of_ble_eq_true rfl) rfl (Nat.le_of_ble_eq_true rfl) (show (((0 + 0) + 0) + 0) + 0 ≤ 3 by omega) (show (((0 + 0) + 0) + 0) + 0 ≤ 65 by omega) (fun v9 f9 n9 hh => ?_)
        obtain ⟨rfl, rfl, rfl⟩ := hh
        refine aw_if_ne C 66 dX8_tellPiece_61 (by decide) (fun q => ?_) (fun q => ?_)
        · rw [if_neg q] at h
          refine aw_ald_n C dX8_tellPiece_66 rfl ?_
          obtain ⟨x27, hx27, h⟩ := Option.bind_eq_some_iff.mp h
          refine ah_getI C gf_X8_187 hx27 dX8_tellPiece_67 ?_
          refine aw_bipush C 60 dX8_tellPiece_70 kb_60 ?_
          refine aw_icmp_gt C 101 dX8_tellPiece_72 (by decide) (fun q => ?_) (fun q => ?_)
          · rw [if_pos q] at h
            refine aw_fl [none, none, none, none] trivial ?_
            exact rmX8_tellPiece_b101 C (by omega) (by omega) h
          · rw [if_neg q] at h
            refine aw_ald_n C dX8_tellPiece_75 rfl ?_
            obtain ⟨x28, hx28, h⟩ := Option.bind_eq_some_iff.mp h
            refine ah_getR C gf_X8_21 hx28 dX8_tellPiece_76 ?_
            refine aw_ald_n C dX8_tellPiece_79 rfl ?_
            obtain ⟨x29, hx29, h⟩ := Option.bind_eq_some_iff.mp h
            refine ah_getR C gf_X8_38 hx29 dX8_tellPiece_80 ?_
            obtain ⟨j30, hj30, h⟩ := Option.bind_eq_some_iff.mp h
            rw [hj30]
            obtain ⟨x31, hx31, h⟩ := Option.bind_eq_some_iff.mp h
            refine ah_getR C gf_X8_373 hx31 dX8_tellPiece_83 ?_
            refine aw_ald_n C dX8_tellPiece_86 rfl ?_
            obtain ⟨x32, hx32, h⟩ := Option.bind_eq_some_iff.mp h
            refine ah_getI C gf_X8_224 hx32 dX8_tellPiece_87 ?_
            refine aw_ald_n C dX8_tellPiece_90 rfl ?_
            obtain ⟨x33, hx33, h⟩ := Option.bind_eq_some_iff.mp h
            refine ah_getI C gf_X8_187 hx33 dX8_tellPiece_91 ?_
            obtain ⟨j34, hj34, h⟩ := Option.bind_eq_some_iff.mp h
            rw [hj34]
            obtain ⟨hb35, h⟩ := ck_some h
            obtain ⟨r36, hr36, h⟩ := Option.bind_eq_some_iff.mp h
            obtain ⟨fs37, hf37⟩ := isO_ex hb35
            refine aw_callV C (ci := 5) (b := j34) [.int x32, .int x33] mv_X8_126 rfl rfl hf37 (rmX5_part hr36) rfl dX8_tellPiece_94 (Nat.le_of_ble_eq_true rfl) (Nat.le_of_ble_eq_true rfl) rfl (cs_1 (rf_cat _) cs_0) (show ((((0 + 0) + 0) + 0) + 0) + 2 ≤ 3 by omega) (show ((((0 + 0) + 0) + 0) + 0) + (2 + 60) ≤ 65 by omega) (fun v9 f9 n9 hh => ?_)
            obtain ⟨rfl, rfl, rfl⟩ := hh
            obtain ⟨x38, hx38, h⟩ := Option.bind_eq_some_iff.mp h
            rw [Option.some.inj hx38]
            refine aw_ald_n C dX8_tellPiece_97 rfl ?_
            obtain ⟨j39, hj39, h⟩ := Option.bind_eq_some_iff.mp h
            rw [hj39]
            obtain ⟨hb40, h⟩ := ck_some h
            obtain ⟨r41, hr41, h⟩ := Option.bind_eq_some_iff.mp h
            obtain ⟨fs42, hf42⟩ := isO_ex hb40
            refine aw_callV C (ci := 7) (b := j39) [va_rf x38, .ref j8] mv_X8_374 rfl rfl hf42 (rmX7_addPair hr41) rfl dX8_tellPiece_98 (Nat.le_of_ble_eq_true rfl) (Nat.le_of_ble_eq_true rfl) rfl (Nat.le_of_ble_eq_true rfl) (show (((((0 + 0) + 0) + 0) + 0) + 2) + 1 ≤ 3 by omega) (show (((((0 + 0) + 0) + 0) + 0) + (2 + 60)) + 3 ≤ 65 by omega) (fun v9 f9 n9 hh => ?_)
            obtain ⟨rfl, rfl, rfl⟩ := hh
            refine aw_fl [none, none, none, none] trivial ?_
            exact rmX8_tellPiece_b101 C (by omega) (by omega) h
        · rw [if_pos q] at h
          refine aw_iconst C 3 dX8_tellPiece_64 ki_3 ?_
          cases h
          exact aw_iret C rfl rfl dX8_tellPiece_65 (by omega) (by omega) ⟨rfl, rfl, rfl⟩
      · rw [if_pos q] at h
        refine aw_iconst C 2 dX8_tellPiece_35 ki_2 ?_
        cases h
        exact aw_iret C rfl rfl dX8_tellPiece_36 (by omega) (by omega) ⟨rfl, rfl, rfl⟩
def mX8_doAct_b171 (s0 : Int32) (f : AH) (n : Nat) : Option (Int32 × HpN) := some (s0, (f, n))
set_option maxHeartbeats 1000000 in
theorem rmX8_doAct_b171 {X : GX} {p : Program} {l : Launch} {e : Env} {s : State} {m : MethodId} {args : Array Value} {below : List Frame} {meth : Method} {c : Code} {r : Int32 × HpN} {s0 : Int32} {f : AH} {n cells slots : Nat} (C : CC X p l (RM 6 4 124) s m args meth c RX8 cX8_doAct 6 (some .int)) (hc : cells + 0 ≤ 4) (hs : slots + 0 ≤ 124) (h : mX8_doAct_b171 s0 f n = some r) : AW X p l e (RM 6 4 124) s m args below meth c 6 (ZM X below args s 4 124 (QHi r)) f n cells slots 171 [none, none, none, none, none, none] [.int s0] := by
  have h : some (s0, (f, n)) = some r := h
  cases h
  exact aw_iret C rfl rfl dX8_doAct_171 (by omega) (by omega) ⟨rfl, rfl, rfl⟩
def mX8_doAct (v0 : Nat) (v1 : Int32) (v2 : Int32) (v3 : Int32) (v4 : Option Nat) (f : AH) (n : Nat) : Option (Int32 × HpN) := rCk (rNb (0 : Int32)) (((pO f v0 8 10 (.int (0 : Int32))).bind fun f2 => (if v1 = (0 : Int32) then ((gR f2 v0 8 1).bind fun x3 => ((x3).bind fun j4 => ((pO f2 j4 7 1 (.int v2)).bind fun f5 => rCk (isO f5 v0 8) (((mX8_cutAnew v0 f5 n).bind fun r7 => some (r7.1, (r7.2.1, r7.2.2))))))) else if v1 = (1 : Int32) then ((gR f2 v0 8 1).bind fun x9 => ((x9).bind fun j10 => ((pO f2 j10 7 2 (.int v2)).bind fun f11 => rCk (isO f11 v0 8) (((mX8_cutAnew v0 f11 n).bind fun r13 => some (r13.1, (r13.2.1, r13.2.2))))))) else if v1 = (2 : Int32) then ((gR f2 v0 8 1).bind fun x15 => ((x15).bind fun j16 => ((pO f2 j16 7 2 (.int (-1 : Int32))).bind fun f17 => rCk (isO f17 v0 8) (((mX8_cutAnew v0 f17 n).bind fun r19 => some (r19.1, (r19.2.1, r19.2.2))))))) else if v1 = (3 : Int32) then ((gR f2 v0 8 1).bind fun x21 => ((x21).bind fun j22 => rCk (rNb (1 : Int32)) (((pO f2 j22 7 3 (.int (1 : Int32))).bind fun f24 => rCk (isO f24 v0 8) (((mX8_cutAnew v0 f24 n).bind fun r26 => some (r26.1, (r26.2.1, r26.2.2)))))))) else if v1 = (4 : Int32) then ((gR f2 v0 8 1).bind fun x28 => ((x28).bind fun j29 => rCk (rNb (0 : Int32)) (((pO f2 j29 7 3 (.int (0 : Int32))).bind fun f31 => rCk (isO f31 v0 8) (((mX8_cutAnew v0 f31 n).bind fun r33 => some (r33.1, (r33.2.1, r33.2.2)))))))) else if v1 = (5 : Int32) then ((gR f2 v0 8 1).bind fun x35 => ((x35).bind fun j36 => ((pO f2 j36 7 4 (.int v2)).bind fun f37 => rCk (isO f37 v0 8) (((mX8_cutAnew v0 f37 n).bind fun r39 => some (r39.1, (r39.2.1, r39.2.2))))))) else if v1 = (6 : Int32) then ((gR f2 v0 8 1).bind fun x41 => ((x41).bind fun j42 => rCk (isO f2 j42 7) (((mX7_addLock j42 v4 f2 n).bind fun r44 => (if r44.1 = (0 : Int32) then rCk (isO r44.2.1 v0 8) (((mX8_cutAnew v0 r44.2.1 r44.2.2).bind fun r47 => mX8_doAct_b171 r47.1 r47.2.1 r47.2.2)) else mX8_doAct_b171 r44.1 r44.2.1 r44.2.2))))) else if v1 = (7 : Int32) then ((gR f2 v0 8 1).bind fun x49 => ((x49).bind fun j50 => ((pO f2 j50 7 5 (.int (0 : Int32))).bind fun f51 => rCk (isO f51 v0 8) (((mX8_cutAnew v0 f51 n).bind fun r53 => some (r53.1, (r53.2.1, r53.2.2))))))) else if v1 = (8 : Int32) then rCk (isO f2 v0 8) (((mX8_freePiece v0 v2 f2 n).bind fun r56 => some (r56.1, (r56.2.1, r56.2.2)))) else if v1 = (9 : Int32) then rCk (isO f2 v0 8) (((mX8_spreadPiece v0 v2 f2 n).bind fun r59 => some (r59.1, (r59.2.1, r59.2.2)))) else if v1 = (10 : Int32) then rCk (isO f2 v0 8) (((mX8_swapPieces v0 v2 v3 f2 n).bind fun r62 => some (r62.1, (r62.2.1, r62.2.2)))) else if v1 = (11 : Int32) then rCk (isO f2 v0 8) (((mX8_wipePieces v0 f2 n).bind fun r65 => some (r65.1, (r65.2.1, r65.2.2)))) else rCk (isO f2 v0 8) (((mX8_tellPiece v0 v2 v4 f2 n).bind fun r68 => some (r68.1, (r68.2.1, r68.2.2)))))))
set_option maxHeartbeats 1000000 in
theorem rmX8_doAct {X : GX} {l : Launch} {r : Int32 × HpN} {v0 : Nat} {v1 : Int32} {v2 : Int32} {v3 : Int32} {v4 : Option Nat} {f : AH} {n : Nat} (h : mX8_doAct v0 v1 v2 v3 v4 f n = some r) : AM X l yX8_doAct cX8_doAct 6 (some .int) 6 4 124 [.ref v0, .int v1, .int v2, .int v3, va_rf v4] f n (QHi r) := by
  have h : rCk (rNb (0 : Int32)) (((pO f v0 8 10 (.int (0 : Int32))).bind fun f2 => (if v1 = (0 : Int32) then ((gR f2 v0 8 1).bind fun x3 => ((x3).bind fun j4 => ((pO f2 j4 7 1 (.int v2)).bind fun f5 => rCk (isO f5 v0 8) (((mX8_cutAnew v0 f5 n).bind fun r7 => some (r7.1, (r7.2.1, r7.2.2))))))) else if v1 = (1 : Int32) then ((gR f2 v0 8 1).bind fun x9 => ((x9).bind fun j10 => ((pO f2 j10 7 2 (.int v2)).bind fun f11 => rCk (isO f11 v0 8) (((mX8_cutAnew v0 f11 n).bind fun r13 => some (r13.1, (r13.2.1, r13.2.2))))))) else if v1 = (2 : Int32) then ((gR f2 v0 8 1).bind fun x15 => ((x15).bind fun j16 => ((pO f2 j16 7 2 (.int (-1 : Int32))).bind fun f17 => rCk (isO f17 v0 8) (((mX8_cutAnew v0 f17 n).bind fun r19 => some (r19.1, (r19.2.1, r19.2.2))))))) else if v1 = (3 : Int32) then ((gR f2 v0 8 1).bind fun x21 => ((x21).bind fun j22 => rCk (rNb (1 : Int32)) (((pO f2 j22 7 3 (.int (1 : Int32))).bind fun f24 => rCk (isO f24 v0 8) (((mX8_cutAnew v0 f24 n).bind fun r26 => some (r26.1, (r26.2.1, r26.2.2)))))))) else if v1 = (4 : Int32) then ((gR f2 v0 8 1).bind fun x28 => ((x28).bind fun j29 => rCk (rNb (0 : Int32)) (((pO f2 j29 7 3 (.int (0 : Int32))).bind fun f31 => rCk (isO f31 v0 8) (((mX8_cutAnew v0 f31 n).bind fun r33 => some (r33.1, (r33.2.1, r33.2.2)))))))) else if v1 = (5 : Int32) then ((gR f2 v0 8 1).bind fun x35 => ((x35).bind fun j36 => ((pO f2 j36 7 4 (.int v2)).bind fun f37 => rCk (isO f37 v0 8) (((mX8_cutAnew v0 f37 n).bind fun r39 => some (r39.1, (r39.2.1, r39.2.2))))))) else if v1 = (6 : Int32) then ((gR f2 v0 8 1).bind fun x41 => ((x41).bind fun j42 => rCk (isO f2 j42 7) (((mX7_addLock j42 v4 f2 n).bind fun r44 => (if r44.1 = (0 : Int32) then rCk (isO r44.2.1 v0 8) (((mX8_cutAnew v0 r44.2.1 r44.2.2).bind fun r47 => mX8_doAct_b171 r47.1 r47.2.1 r47.2.2)) else mX8_doAct_b171 r44.1 r44.2.1 r44.2.2))))) else if v1 = (7 : Int32) then ((gR f2 v0 8 1).bind fun x49 => ((x49).bind fun j50 => ((pO f2 j50 7 5 (.int (0 : Int32))).bind fun f51 => rCk (isO f51 v0 8) (((mX8_cutAnew v0 f51 n).bind fun r53 => some (r53.1, (r53.2.1, r53.2.2))))))) else if v1 = (8 : Int32) then rCk (isO f2 v0 8) (((mX8_freePiece v0 v2 f2 n).bind fun r56 => some (r56.1, (r56.2.1, r56.2.2)))) else if v1 = (9 : Int32) then rCk (isO f2 v0 8) (((mX8_spreadPiece v0 v2 f2 n).bind fun r59 => some (r59.1, (r59.2.1, r59.2.2)))) else if v1 = (10 : Int32) then rCk (isO f2 v0 8) (((mX8_swapPieces v0 v2 v3 f2 n).bind fun r62 => some (r62.1, (r62.2.1, r62.2.2)))) else if v1 = (11 : Int32) then rCk (isO f2 v0 8) (((mX8_wipePieces v0 f2 n).bind fun r65 => some (r65.1, (r65.2.1, r65.2.2)))) else rCk (isO f2 v0 8) (((mX8_tellPiece v0 v2 v4 f2 n).bind fun r68 => some (r68.1, (r68.2.1, r68.2.2))))))) = some r := h
  refine AM.of (by decide +kernel) (all1 rfl (all1 rfl (all1 rfl (all1 rfl (all1 (rf_cat _) rfl))))) (Nat.le_of_ble_eq_true rfl) (fun p e s m args below meth c C hnm => ?_)
  refine aw_nl [some (.ref v0), some (.int v1), some (.int v2), some (.int v3), some (va_rf v4), none] rfl ?_
  refine aw_ald_n C dX8_doAct_0 rfl ?_
  refine aw_iconst C 0 dX8_doAct_1 ki_0 ?_
  obtain ⟨hb1, h⟩ := ck_some h
  obtain ⟨f2, hf2, h⟩ := Option.bind_eq_some_iff.mp h
  refine ah_put C gf_X8_334 cf8 nf8_10 (nb_nar hb1) (nb_fit hb1) hf2 dX8_doAct_2 ?_
  refine aw_iload_n C dX8_doAct_5 rfl ?_
  by_cases q : v1 = (0 : Int32)
  · rw [if_pos q] at h
    refine aw_top (0 : Int32) q ?_
    refine aw_tabIn C (off := 62) 68 dX8_doAct_6 (by decide) (by decide) (by decide) (by decide) ?_
    refine aw_ald_n C dX8_doAct_68 rfl ?_
    obtain ⟨x3, hx3, h⟩ := Option.bind_eq_some_iff.mp h
    refine ah_getR C gf_X8_21 hx3 dX8_doAct_69 ?_
    refine aw_iload_n C dX8_doAct_72 rfl ?_
    obtain ⟨j4, hj4, h⟩ := Option.bind_eq_some_iff.mp h
    rw [hj4]
    obtain ⟨f5, hf5, h⟩ := Option.bind_eq_some_iff.mp h
    refine ah_put C gf_X8_232 cf7 nf7_1 rfl rfl hf5 dX8_doAct_73 ?_
    refine aw_ald_n C dX8_doAct_76 rfl ?_
    obtain ⟨hb6, h⟩ := ck_some h
    obtain ⟨r7, hr7, h⟩ := Option.bind_eq_some_iff.mp h
    obtain ⟨fs8, hf8⟩ := isO_ex hb6
    refine aw_callV C (ci := 8) (b := v0) [] mv_X8_133 rfl rfl hf8 (rmX8_cutAnew hr7) rfl dX8_doAct_77 (Nat.le_of_ble_eq_true rfl) (Nat.le_of_ble_eq_true rfl) rfl (Nat.le_of_ble_eq_true rfl) (show 0 + 0 ≤ 4 by omega) (show 0 + 0 ≤ 124 by omega) (fun v9 f9 n9 hh => ?_)
    obtain ⟨rfl, rfl, rfl⟩ := hh
    cases h
    exact aw_iret C rfl rfl dX8_doAct_80 (by omega) (by omega) ⟨rfl, rfl, rfl⟩
  · rw [if_neg q] at h
    have q0 := q
    by_cases q : v1 = (1 : Int32)
    · rw [if_pos q] at h
      refine aw_top (1 : Int32) q ?_
      refine aw_tabIn C (off := 75) 81 dX8_doAct_6 (by decide) (by decide) (by decide) (by decide) ?_
      refine aw_ald_n C dX8_doAct_81 rfl ?_
      obtain ⟨x9, hx9, h⟩ := Option.bind_eq_some_iff.mp h
      refine ah_getR C gf_X8_21 hx9 dX8_doAct_82 ?_
      refine aw_iload_n C dX8_doAct_85 rfl ?_
      obtain ⟨j10, hj10, h⟩ := Option.bind_eq_some_iff.mp h
      rw [hj10]
      obtain ⟨f11, hf11, h⟩ := Option.bind_eq_some_iff.mp h
      refine ah_put C gf_X8_290 cf7 nf7_2 rfl rfl hf11 dX8_doAct_86 ?_
      refine aw_ald_n C dX8_doAct_89 rfl ?_
      obtain ⟨hb12, h⟩ := ck_some h
      obtain ⟨r13, hr13, h⟩ := Option.bind_eq_some_iff.mp h
      obtain ⟨fs14, hf14⟩ := isO_ex hb12
      refine aw_callV C (ci := 8) (b := v0) [] mv_X8_133 rfl rfl hf14 (rmX8_cutAnew hr13) rfl dX8_doAct_90 (Nat.le_of_ble_eq_true rfl) (Nat.le_of_ble_eq_true rfl) rfl (Nat.le_of_ble_eq_true rfl) (show 0 + 0 ≤ 4 by omega) (show 0 + 0 ≤ 124 by omega) (fun v9 f9 n9 hh => ?_)
      obtain ⟨rfl, rfl, rfl⟩ := hh
      cases h
      exact aw_iret C rfl rfl dX8_doAct_93 (by omega) (by omega) ⟨rfl, rfl, rfl⟩
    · rw [if_neg q] at h
      have q1 := q
      by_cases q : v1 = (2 : Int32)
      · rw [if_pos q] at h
        refine aw_top (2 : Int32) q ?_
        refine aw_tabIn C (off := 88) 94 dX8_doAct_6 (by decide) (by decide) (by decide) (by decide) ?_
        refine aw_ald_n C dX8_doAct_94 rfl ?_
        obtain ⟨x15, hx15, h⟩ := Option.bind_eq_some_iff.mp h
        refine ah_getR C gf_X8_21 hx15 dX8_doAct_95 ?_
        refine aw_iconst C (-1) dX8_doAct_98 ki_m1 ?_
        obtain ⟨j16, hj16, h⟩ := Option.bind_eq_some_iff.mp h
        rw [hj16]
        obtain ⟨f17, hf17, h⟩ := Option.bind_eq_some_iff.mp h
        refine ah_put C gf_X8_290 cf7 nf7_2 rfl rfl hf17 dX8_doAct_99 ?_
        refine aw_ald_n C dX8_doAct_102 rfl ?_
        obtain ⟨hb18, h⟩ := ck_some h
        obtain ⟨r19, hr19, h⟩ := Option.bind_eq_some_iff.mp h
        obtain ⟨fs20, hf20⟩ := isO_ex hb18
        refine aw_callV C (ci := 8) (b := v0) [] mv_X8_133 rfl rfl hf20 (rmX8_cutAnew hr19) rfl dX8_doAct_103 (Nat.le_of_ble_eq_true rfl) (Nat.le_of_ble_eq_true rfl) rfl (Nat.le_of_ble_eq_true rfl) (show 0 + 0 ≤ 4 by omega) (show 0 + 0 ≤ 124 by omega) (fun v9 f9 n9 hh => ?_)
        obtain ⟨rfl, rfl, rfl⟩ := hh
        cases h
        exact aw_iret C rfl rfl dX8_doAct_106 (by omega) (by omega) ⟨rfl, rfl, rfl⟩
      · rw [if_neg q] at h
        have q2 := q
        by_cases q : v1 = (3 : Int32)
        · rw [if_pos q] at h
          refine aw_top (3 : Int32) q ?_
          refine aw_tabIn C (off := 101) 107 dX8_doAct_6 (by decide) (by decide) (by decide) (by decide) ?_
          refine aw_ald_n C dX8_doAct_107 rfl ?_
          obtain ⟨x21, hx21, h⟩ := Option.bind_eq_some_iff.mp h
          refine ah_getR C gf_X8_21 hx21 dX8_doAct_108 ?_
          refine aw_iconst C 1 dX8_doAct_111 ki_1 ?_
          obtain ⟨j22, hj22, h⟩ := Option.bind_eq_some_iff.mp h
          rw [hj22]
          obtain ⟨hb23, h⟩ := ck_some h
          obtain ⟨f24, hf24, h⟩ := Option.bind_eq_some_iff.mp h
          refine ah_put C gf_X8_296 cf7 nf7_3 (nb_nar hb23) (nb_fit hb23) hf24 dX8_doAct_112 ?_
          refine aw_ald_n C dX8_doAct_115 rfl ?_
          obtain ⟨hb25, h⟩ := ck_some h
          obtain ⟨r26, hr26, h⟩ := Option.bind_eq_some_iff.mp h
          obtain ⟨fs27, hf27⟩ := isO_ex hb25
          refine aw_callV C (ci := 8) (b := v0) [] mv_X8_133 rfl rfl hf27 (rmX8_cutAnew hr26) rfl dX8_doAct_116 (Nat.le_of_ble_eq_true rfl) (Nat.le_of_ble_eq_true rfl) rfl (Nat.le_of_ble_eq_true rfl) (show 0 + 0 ≤ 4 by omega) (show 0 + 0 ≤ 124 by omega) (fun v9 f9 n9 hh => ?_)
          obtain ⟨rfl, rfl, rfl⟩ := hh
          cases h
          exact aw_iret C rfl rfl dX8_doAct_119 (by omega) (by omega) ⟨rfl, rfl, rfl⟩
        · rw [if_neg q] at h
          have q3 := q
          by_cases q : v1 = (4 : Int32)
          · rw [if_pos q] at h
            refine aw_top (4 : Int32) q ?_
            refine aw_tabIn C (off := 114) 120 dX8_doAct_6 (by decide) (by decide) (by decide) (by decide) ?_
            refine aw_ald_n C dX8_doAct_120 rfl ?_
            obtain ⟨x28, hx28, h⟩ := Option.bind_eq_some_iff.mp h
            refine ah_getR C gf_X8_21 hx28 dX8_doAct_121 ?_
            refine aw_iconst C 0 dX8_doAct_124 ki_0 ?_
            obtain ⟨j29, hj29, h⟩ := Option.bind_eq_some_iff.mp h
            rw [hj29]
            obtain ⟨hb30, h⟩ := ck_some h
            obtain ⟨f31, hf31, h⟩ := Option.bind_eq_some_iff.mp h
            refine ah_put C gf_X8_296 cf7 nf7_3 (nb_nar hb30) (nb_fit hb30) hf31 dX8_doAct_125 ?_
            refine aw_ald_n C dX8_doAct_128 rfl ?_
            obtain ⟨hb32, h⟩ := ck_some h
            obtain ⟨r33, hr33, h⟩ := Option.bind_eq_some_iff.mp h
            obtain ⟨fs34, hf34⟩ := isO_ex hb32
            refine aw_callV C (ci := 8) (b := v0) [] mv_X8_133 rfl rfl hf34 (rmX8_cutAnew hr33) rfl dX8_doAct_129 (Nat.le_of_ble_eq_true rfl) (Nat.le_of_ble_eq_true rfl) rfl (Nat.le_of_ble_eq_true rfl) (show 0 + 0 ≤ 4 by omega) (show 0 + 0 ≤ 124 by omega) (fun v9 f9 n9 hh => ?_)
            obtain ⟨rfl, rfl, rfl⟩ := hh
            cases h
            exact aw_iret C rfl rfl dX8_doAct_132 (by omega) (by omega) ⟨rfl, rfl, rfl⟩
          · rw [if_neg q] at h
            have q4 := q
            by_cases q : v1 = (5 : Int32)
            · rw [if_pos q] at h
              refine aw_top (5 : Int32) q ?_
              refine aw_tabIn C (off := 127) 133 dX8_doAct_6 (by decide) (by decide) (by decide) (by decide) ?_
              refine aw_ald_n C dX8_doAct_133 rfl ?_
              obtain ⟨x35, hx35, h⟩ := Option.bind_eq_some_iff.mp h
              refine ah_getR C gf_X8_21 hx35 dX8_doAct_134 ?_
              refine aw_iload_n C dX8_doAct_137 rfl ?_
              obtain ⟨j36, hj36, h⟩ := Option.bind_eq_some_iff.mp h
              rw [hj36]
              obtain ⟨f37, hf37, h⟩ := Option.bind_eq_some_iff.mp h
              refine ah_put C gf_X8_299 cf7 nf7_4 rfl rfl hf37 dX8_doAct_138 ?_
              refine aw_ald_n C dX8_doAct_141 rfl ?_
              obtain ⟨hb38, h⟩ := ck_some h
              obtain ⟨r39, hr39, h⟩ := Option.bind_eq_some_iff.mp h
              obtain ⟨fs40, hf40⟩ := isO_ex hb38
              refine aw_callV C (ci := 8) (b := v0) [] mv_X8_133 rfl rfl hf40 (rmX8_cutAnew hr39) rfl dX8_doAct_142 (Nat.le_of_ble_eq_true rfl) (Nat.le_of_ble_eq_true rfl) rfl (Nat.le_of_ble_eq_true rfl) (show 0 + 0 ≤ 4 by omega) (show 0 + 0 ≤ 124 by omega) (fun v9 f9 n9 hh => ?_)
              obtain ⟨rfl, rfl, rfl⟩ := hh
              cases h
              exact aw_iret C rfl rfl dX8_doAct_145 (by omega) (by omega) ⟨rfl, rfl, rfl⟩
            · rw [if_neg q] at h
              have q5 := q
              by_cases q : v1 = (6 : Int32)
              · rw [if_pos q] at h
                refine aw_top (6 : Int32) q ?_
                refine aw_tabIn C (off := 140) 146 dX8_doAct_6 (by decide) (by decide) (by decide) (by decide) ?_
                refine aw_ald_n C dX8_doAct_146 rfl ?_
                obtain ⟨x41, hx41, h⟩ := Option.bind_eq_some_iff.mp h
                refine ah_getR C gf_X8_21 hx41 dX8_doAct_147 ?_
                refine aw_aload C dX8_doAct_150 rfl (rf_or v4) ?_
                obtain ⟨j42, hj42, h⟩ := Option.bind_eq_some_iff.mp h
                rw [hj42]
                obtain ⟨hb43, h⟩ := ck_some h
                obtain ⟨r44, hr44, h⟩ := Option.bind_eq_some_iff.mp h
                obtain ⟨fs45, hf45⟩ := isO_ex hb43
                refine aw_callV C (ci := 7) (b := j42) [va_rf v4] mv_X8_337 rfl rfl hf45 (rmX7_addLock hr44) rfl dX8_doAct_152 (Nat.le_of_ble_eq_true rfl) (Nat.le_of_ble_eq_true rfl) rfl (Nat.le_of_ble_eq_true rfl) (show 0 + 0 ≤ 4 by omega) (show 0 + 0 ≤ 124 by omega) (fun v9 f9 n9 hh => ?_)
                obtain ⟨rfl, rfl, rfl⟩ := hh
                refine aw_istore C dX8_doAct_155 (by decide) (ok_rf 4 rfl) ?_
                refine aw_nl [some (.ref v0), some (.int v1), some (.int v2), some (.int v3), some (va_rf v4), some (.int r44.1)] rfl ?_
                refine aw_iload C dX8_doAct_157 rfl ?_
                refine aw_if_ne C 169 dX8_doAct_159 (by decide) (fun q => ?_) (fun q => ?_)
                · rw [if_neg q] at h
                  refine aw_iload C dX8_doAct_169 rfl ?_
                  refine aw_fl [none, none, none, none, none, none] trivial ?_
                  exact rmX8_doAct_b171 C (by omega) (by omega) h
                · rw [if_pos q] at h
                  refine aw_ald_n C dX8_doAct_162 rfl ?_
                  obtain ⟨hb46, h⟩ := ck_some h
                  obtain ⟨r47, hr47, h⟩ := Option.bind_eq_some_iff.mp h
                  obtain ⟨fs48, hf48⟩ := isO_ex hb46
                  refine aw_callV C (ci := 8) (b := v0) [] mv_X8_133 rfl rfl hf48 (rmX8_cutAnew hr47) rfl dX8_doAct_163 (Nat.le_of_ble_eq_true rfl) (Nat.le_of_ble_eq_true rfl) rfl (Nat.le_of_ble_eq_true rfl) (show (0 + 0) + 0 ≤ 4 by omega) (show (0 + 0) + 0 ≤ 124 by omega) (fun v9 f9 n9 hh => ?_)
                  obtain ⟨rfl, rfl, rfl⟩ := hh
                  refine aw_goto C 171 dX8_doAct_166 (by decide) ?_
                  refine aw_fl [none, none, none, none, none, none] trivial ?_
                  exact rmX8_doAct_b171 C (by omega) (by omega) h
              · rw [if_neg q] at h
                have q6 := q
                by_cases q : v1 = (7 : Int32)
                · rw [if_pos q] at h
                  refine aw_top (7 : Int32) q ?_
                  refine aw_tabIn C (off := 166) 172 dX8_doAct_6 (by decide) (by decide) (by decide) (by decide) ?_
                  refine aw_ald_n C dX8_doAct_172 rfl ?_
                  obtain ⟨x49, hx49, h⟩ := Option.bind_eq_some_iff.mp h
                  refine ah_getR C gf_X8_21 hx49 dX8_doAct_173 ?_
                  refine aw_iconst C 0 dX8_doAct_176 ki_0 ?_
                  obtain ⟨j50, hj50, h⟩ := Option.bind_eq_some_iff.mp h
                  rw [hj50]
                  obtain ⟨f51, hf51, h⟩ := Option.bind_eq_some_iff.mp h
                  refine ah_put C gf_X8_302 cf7 nf7_5 rfl rfl hf51 dX8_doAct_177 ?_
                  refine aw_ald_n C dX8_doAct_180 rfl ?_
                  obtain ⟨hb52, h⟩ := ck_some h
                  obtain ⟨r53, hr53, h⟩ := Option.bind_eq_some_iff.mp h
                  obtain ⟨fs54, hf54⟩ := isO_ex hb52
                  refine aw_callV C (ci := 8) (b := v0) [] mv_X8_133 rfl rfl hf54 (rmX8_cutAnew hr53) rfl dX8_doAct_181 (Nat.le_of_ble_eq_true rfl) (Nat.le_of_ble_eq_true rfl) rfl (Nat.le_of_ble_eq_true rfl) (show 0 + 0 ≤ 4 by omega) (show 0 + 0 ≤ 124 by omega) (fun v9 f9 n9 hh => ?_)
                  obtain ⟨rfl, rfl, rfl⟩ := hh
                  cases h
                  exact aw_iret C rfl rfl dX8_doAct_184 (by omega) (by omega) ⟨rfl, rfl, rfl⟩
                · rw [if_neg q] at h
                  have q7 := q
                  by_cases q : v1 = (8 : Int32)
                  · rw [if_pos q] at h
                    refine aw_top (8 : Int32) q ?_
                    refine aw_tabIn C (off := 179) 185 dX8_doAct_6 (by decide) (by decide) (by decide) (by decide) ?_
                    refine aw_ald_n C dX8_doAct_185 rfl ?_
                    refine aw_iload_n C dX8_doAct_186 rfl ?_
                    obtain ⟨hb55, h⟩ := ck_some h
                    obtain ⟨r56, hr56, h⟩ := Option.bind_eq_some_iff.mp h
                    obtain ⟨fs57, hf57⟩ := isO_ex hb55
                    refine aw_callV C (ci := 8) (b := v0) [.int v2] mv_X8_341 rfl rfl hf57 (rmX8_freePiece hr56) rfl dX8_doAct_187 (Nat.le_of_ble_eq_true rfl) (Nat.le_of_ble_eq_true rfl) rfl (Nat.le_of_ble_eq_true rfl) (show 0 + 0 ≤ 4 by omega) (show 0 + 0 ≤ 124 by omega) (fun v9 f9 n9 hh => ?_)
                    obtain ⟨rfl, rfl, rfl⟩ := hh
                    cases h
                    exact aw_iret C rfl rfl dX8_doAct_190 (by omega) (by omega) ⟨rfl, rfl, rfl⟩
                  · rw [if_neg q] at h
                    have q8 := q
                    by_cases q : v1 = (9 : Int32)
                    · rw [if_pos q] at h
                      refine aw_top (9 : Int32) q ?_
                      refine aw_tabIn C (off := 185) 191 dX8_doAct_6 (by decide) (by decide) (by decide) (by decide) ?_
                      refine aw_ald_n C dX8_doAct_191 rfl ?_
                      refine aw_iload_n C dX8_doAct_192 rfl ?_
                      obtain ⟨hb58, h⟩ := ck_some h
                      obtain ⟨r59, hr59, h⟩ := Option.bind_eq_some_iff.mp h
                      obtain ⟨fs60, hf60⟩ := isO_ex hb58
                      refine aw_callV C (ci := 8) (b := v0) [.int v2] mv_X8_344 rfl rfl hf60 (rmX8_spreadPiece hr59) rfl dX8_doAct_193 (Nat.le_of_ble_eq_true rfl) (Nat.le_of_ble_eq_true rfl) rfl (Nat.le_of_ble_eq_true rfl) (show 0 + 0 ≤ 4 by omega) (show 0 + 0 ≤ 124 by omega) (fun v9 f9 n9 hh => ?_)
                      obtain ⟨rfl, rfl, rfl⟩ := hh
                      cases h
                      exact aw_iret C rfl rfl dX8_doAct_196 (by omega) (by omega) ⟨rfl, rfl, rfl⟩
                    · rw [if_neg q] at h
                      have q9 := q
                      by_cases q : v1 = (10 : Int32)
                      · rw [if_pos q] at h
                        refine aw_top (10 : Int32) q ?_
                        refine aw_tabIn C (off := 191) 197 dX8_doAct_6 (by decide) (by decide) (by decide) (by decide) ?_
                        refine aw_ald_n C dX8_doAct_197 rfl ?_
                        refine aw_iload_n C dX8_doAct_198 rfl ?_
                        refine aw_iload_n C dX8_doAct_199 rfl ?_
                        obtain ⟨hb61, h⟩ := ck_some h
                        obtain ⟨r62, hr62, h⟩ := Option.bind_eq_some_iff.mp h
                        obtain ⟨fs63, hf63⟩ := isO_ex hb61
                        refine aw_callV C (ci := 8) (b := v0) [.int v2, .int v3] mv_X8_347 rfl rfl hf63 (rmX8_swapPieces hr62) rfl dX8_doAct_200 (Nat.le_of_ble_eq_true rfl) (Nat.le_of_ble_eq_true rfl) rfl (Nat.le_of_ble_eq_true rfl) (show 0 + 4 ≤ 4 by omega) (show 0 + 124 ≤ 124 by omega) (fun v9 f9 n9 hh => ?_)
                        obtain ⟨rfl, rfl, rfl⟩ := hh
                        cases h
                        exact aw_iret C rfl rfl dX8_doAct_203 (by omega) (by omega) ⟨rfl, rfl, rfl⟩
                      · rw [if_neg q] at h
                        have q10 := q
                        by_cases q : v1 = (11 : Int32)
                        · rw [if_pos q] at h
                          refine aw_top (11 : Int32) q ?_
                          refine aw_tabIn C (off := 198) 204 dX8_doAct_6 (by decide) (by decide) (by decide) (by decide) ?_
                          refine aw_ald_n C dX8_doAct_204 rfl ?_
                          obtain ⟨hb64, h⟩ := ck_some h
                          obtain ⟨r65, hr65, h⟩ := Option.bind_eq_some_iff.mp h
                          obtain ⟨fs66, hf66⟩ := isO_ex hb64
                          refine aw_callV C (ci := 8) (b := v0) [] mv_X8_351 rfl rfl hf66 (rmX8_wipePieces hr65) rfl dX8_doAct_205 (Nat.le_of_ble_eq_true rfl) (Nat.le_of_ble_eq_true rfl) rfl (Nat.le_of_ble_eq_true rfl) (show 0 + 0 ≤ 4 by omega) (show 0 + 0 ≤ 124 by omega) (fun v9 f9 n9 hh => ?_)
                          obtain ⟨rfl, rfl, rfl⟩ := hh
                          cases h
                          exact aw_iret C rfl rfl dX8_doAct_208 (by omega) (by omega) ⟨rfl, rfl, rfl⟩
                        · rw [if_neg q] at h
                          have q11 := q
                          refine aw_tabOut C 209 dX8_doAct_6 (sx_out0_12 q0 q1 q2 q3 q4 q5 q6 q7 q8 q9 q10 q11) (by decide) ?_
                          refine aw_ald_n C dX8_doAct_209 rfl ?_
                          refine aw_iload_n C dX8_doAct_210 rfl ?_
                          refine aw_aload C dX8_doAct_211 rfl (rf_or v4) ?_
                          obtain ⟨hb67, h⟩ := ck_some h
                          obtain ⟨r68, hr68, h⟩ := Option.bind_eq_some_iff.mp h
                          obtain ⟨fs69, hf69⟩ := isO_ex hb67
                          refine aw_callV C (ci := 8) (b := v0) [.int v2, va_rf v4] mv_X8_354 rfl rfl hf69 (rmX8_tellPiece hr68) rfl dX8_doAct_213 (Nat.le_of_ble_eq_true rfl) (Nat.le_of_ble_eq_true rfl) rfl (Nat.le_of_ble_eq_true rfl) (show 0 + 3 ≤ 4 by omega) (show 0 + 65 ≤ 124 by omega) (fun v9 f9 n9 hh => ?_)
                          obtain ⟨rfl, rfl, rfl⟩ := hh
                          cases h
                          exact aw_iret C rfl rfl dX8_doAct_216 (by omega) (by omega) ⟨rfl, rfl, rfl⟩
def mX8_restore (v0 : Nat) (v1 : Option Nat) (f : AH) (n : Nat) : Option (Int32 × HpN) := rCk (rNb (0 : Int32)) (((pO f v0 8 10 (.int (0 : Int32))).bind fun f2 => ((gR f2 v0 8 1).bind fun x3 => ((x3).bind fun j4 => rCk (isO f2 j4 7) (((mX7_copyFrom j4 v1 f2 n).bind fun r6 => ((gR r6.2.1 v0 8 5).bind fun x8 => ((gR r6.2.1 v0 8 1).bind fun x9 => ((x9).bind fun j10 => ((gR r6.2.1 j10 7 0).bind fun x11 => ((gR r6.2.1 v0 8 1).bind fun x12 => ((x8).bind fun j13 => rCk (isO r6.2.1 j13 1) (((mX1_find j13 x11 x12 r6.2.1 r6.2.2).bind fun r15 => ((gR r15.2.1 v0 8 7).bind fun x17 => ((gR r15.2.1 v0 8 1).bind fun x18 => ((gR r15.2.1 v0 8 5).bind fun x19 => ((x17).bind fun j20 => rCk (isO r15.2.1 j20 0) (((mX0_make j20 x18 x19 r15.2.1 r15.2.2).bind fun r22 => some ((0 : Int32), (r22.2.1, r22.2.2))))))))))))))))))))))
set_option maxHeartbeats 1000000 in
theorem rmX8_restore {X : GX} {l : Launch} {r : Int32 × HpN} {v0 : Nat} {v1 : Option Nat} {f : AH} {n : Nat} (h : mX8_restore v0 v1 f n = some r) : AM X l yX8_restore cX8_restore 2 none 5 0 0 [.ref v0, va_rf v1] f n (QHv r) := by
  have h : rCk (rNb (0 : Int32)) (((pO f v0 8 10 (.int (0 : Int32))).bind fun f2 => ((gR f2 v0 8 1).bind fun x3 => ((x3).bind fun j4 => rCk (isO f2 j4 7) (((mX7_copyFrom j4 v1 f2 n).bind fun r6 => ((gR r6.2.1 v0 8 5).bind fun x8 => ((gR r6.2.1 v0 8 1).bind fun x9 => ((x9).bind fun j10 => ((gR r6.2.1 j10 7 0).bind fun x11 => ((gR r6.2.1 v0 8 1).bind fun x12 => ((x8).bind fun j13 => rCk (isO r6.2.1 j13 1) (((mX1_find j13 x11 x12 r6.2.1 r6.2.2).bind fun r15 => ((gR r15.2.1 v0 8 7).bind fun x17 => ((gR r15.2.1 v0 8 1).bind fun x18 => ((gR r15.2.1 v0 8 5).bind fun x19 => ((x17).bind fun j20 => rCk (isO r15.2.1 j20 0) (((mX0_make j20 x18 x19 r15.2.1 r15.2.2).bind fun r22 => some ((0 : Int32), (r22.2.1, r22.2.2)))))))))))))))))))))) = some r := h
  refine AM.of (by decide +kernel) (all1 rfl (all1 (rf_cat _) rfl)) (Nat.le_of_ble_eq_true rfl) (fun p e s m args below meth c C hnm => ?_)
  refine aw_nl [some (.ref v0), some (va_rf v1)] rfl ?_
  refine aw_ald_n C dX8_restore_0 rfl ?_
  refine aw_iconst C 0 dX8_restore_1 ki_0 ?_
  obtain ⟨hb1, h⟩ := ck_some h
  obtain ⟨f2, hf2, h⟩ := Option.bind_eq_some_iff.mp h
  refine ah_put C gf_X8_334 cf8 nf8_10 (nb_nar hb1) (nb_fit hb1) hf2 dX8_restore_2 ?_
  refine aw_ald_n C dX8_restore_5 rfl ?_
  obtain ⟨x3, hx3, h⟩ := Option.bind_eq_some_iff.mp h
  refine ah_getR C gf_X8_21 hx3 dX8_restore_6 ?_
  refine aw_aload_n C dX8_restore_9 rfl (rf_or v1) ?_
  obtain ⟨j4, hj4, h⟩ := Option.bind_eq_some_iff.mp h
  rw [hj4]
  obtain ⟨hb5, h⟩ := ck_some h
  obtain ⟨r6, hr6, h⟩ := Option.bind_eq_some_iff.mp h
  obtain ⟨fs7, hf7⟩ := isO_ex hb5
  refine aw_callV C (ci := 7) (b := j4) [va_rf v1] mv_X8_73 rfl rfl hf7 (rmX7_copyFrom hr6) rfl dX8_restore_10 (Nat.le_of_ble_eq_true rfl) (Nat.le_of_ble_eq_true rfl) rfl (Nat.le_of_ble_eq_true rfl) (show 0 + 0 ≤ 0 by omega) (show 0 + 0 ≤ 0 by omega) (fun v9 f9 n9 hh => ?_)
  obtain ⟨rfl, rfl, rfl⟩ := hh
  refine aw_ald_n C dX8_restore_13 rfl ?_
  obtain ⟨x8, hx8, h⟩ := Option.bind_eq_some_iff.mp h
  refine ah_getR C gf_X8_38 hx8 dX8_restore_14 ?_
  refine aw_ald_n C dX8_restore_17 rfl ?_
  obtain ⟨x9, hx9, h⟩ := Option.bind_eq_some_iff.mp h
  refine ah_getR C gf_X8_21 hx9 dX8_restore_18 ?_
  obtain ⟨j10, hj10, h⟩ := Option.bind_eq_some_iff.mp h
  rw [hj10]
  obtain ⟨x11, hx11, h⟩ := Option.bind_eq_some_iff.mp h
  refine ah_getR C gf_X8_130 hx11 dX8_restore_21 ?_
  refine aw_ald_n C dX8_restore_24 rfl ?_
  obtain ⟨x12, hx12, h⟩ := Option.bind_eq_some_iff.mp h
  refine ah_getR C gf_X8_21 hx12 dX8_restore_25 ?_
  obtain ⟨j13, hj13, h⟩ := Option.bind_eq_some_iff.mp h
  rw [hj13]
  obtain ⟨hb14, h⟩ := ck_some h
  obtain ⟨r15, hr15, h⟩ := Option.bind_eq_some_iff.mp h
  obtain ⟨fs16, hf16⟩ := isO_ex hb14
  refine aw_callV C (ci := 1) (b := j13) [va_rf x11, va_rf x12] mv_X8_361 rfl rfl hf16 (rmX1_find hr15) rfl dX8_restore_28 (Nat.le_of_ble_eq_true rfl) (Nat.le_of_ble_eq_true rfl) rfl (Nat.le_of_ble_eq_true rfl) (show (0 + 0) + 0 ≤ 0 by omega) (show (0 + 0) + 0 ≤ 0 by omega) (fun v9 f9 n9 hh => ?_)
  obtain ⟨rfl, rfl, rfl⟩ := hh
  refine aw_ald_n C dX8_restore_31 rfl ?_
  obtain ⟨x17, hx17, h⟩ := Option.bind_eq_some_iff.mp h
  refine ah_getR C gf_X8_48 hx17 dX8_restore_32 ?_
  refine aw_ald_n C dX8_restore_35 rfl ?_
  obtain ⟨x18, hx18, h⟩ := Option.bind_eq_some_iff.mp h
  refine ah_getR C gf_X8_21 hx18 dX8_restore_36 ?_
  refine aw_ald_n C dX8_restore_39 rfl ?_
  obtain ⟨x19, hx19, h⟩ := Option.bind_eq_some_iff.mp h
  refine ah_getR C gf_X8_38 hx19 dX8_restore_40 ?_
  obtain ⟨j20, hj20, h⟩ := Option.bind_eq_some_iff.mp h
  rw [hj20]
  obtain ⟨hb21, h⟩ := ck_some h
  obtain ⟨r22, hr22, h⟩ := Option.bind_eq_some_iff.mp h
  obtain ⟨fs23, hf23⟩ := isO_ex hb21
  refine aw_callV C (ci := 0) (b := j20) [va_rf x18, va_rf x19] mv_X8_365 rfl rfl hf23 (rmX0_make hr22) rfl dX8_restore_43 (Nat.le_of_ble_eq_true rfl) (Nat.le_of_ble_eq_true rfl) rfl (Nat.le_of_ble_eq_true rfl) (show ((0 + 0) + 0) + 0 ≤ 0 by omega) (show ((0 + 0) + 0) + 0 ≤ 0 by omega) (fun v9 f9 n9 hh => ?_)
  obtain ⟨rfl, rfl, rfl⟩ := hh
  refine aw_pop C dX8_restore_46 rfl ?_
  cases h
  exact aw_vret C rfl dX8_restore_47 (by omega) (by omega) ⟨rfl, rfl, rfl⟩
def mX8_forgetOldest_l22 : Nat → Nat → Int32 → (Option Nat) → Int32 → AH → Nat → Option (Int32 × HpN)
  | 0, _, _, _, _, _, _ => none
  | d + 1, v0, v1, v2, v3, f, n => (if v1 ≤ v3 then ((gR f v0 8 4).bind fun x1 => ((x1).bind fun j2 => ((pRA f j2 v1 v2).bind fun f3 => ((pO f3 v0 8 11 (.int v1)).bind fun f4 => some ((0 : Int32), (f4, n)))))) else ((gR f v0 8 4).bind fun x5 => ((gR f v0 8 4).bind fun x6 => ((x6).bind fun j7 => ((gRA f j7 (v3 + (1 : Int32))).bind fun x8 => ((x5).bind fun j9 => ((pRA f j9 v3 x8).bind fun f10 => mX8_forgetOldest_l22 d v0 v1 v2 (v3 + (1 : Int32)) f10 n)))))))
set_option maxHeartbeats 1000000 in
theorem rmX8_forgetOldest_l22 {X : GX} {p : Program} {l : Launch} {e : Env} {s : State} {m : MethodId} {args : Array Value} {below : List Frame} {meth : Method} {c : Code} {r : Int32 × HpN} (C : CC X p l (RM 0 0 0) s m args meth c RX8 cX8_forgetOldest 4 none) : ∀ (d : Nat) (v0 : Nat) (v1 : Int32) (v2 : Option Nat) (v3 : Int32) (f : AH) (n cells slots : Nat) (_ : cells + 0 ≤ 0) (_ : slots + 0 ≤ 0) (_ : mX8_forgetOldest_l22 d v0 v1 v2 v3 f n = some r), AW X p l e (RM 0 0 0) s m args below meth c 4 (ZM X below args s 0 0 (QHv r)) f n cells slots 22 [some (.ref v0), some (.int v1), some (va_rf v2), some (.int v3)] [] := by
  intro d
  induction d with
  | zero =>
    intro v0 v1 v2 v3 f n cells slots hc hs h
    exact nomatch (show (none : Option (Int32 × HpN)) = some r from h)
  | succ d ih =>
    intro v0 v1 v2 v3 f n cells slots hc hs h
    have h : (if v1 ≤ v3 then ((gR f v0 8 4).bind fun x1 => ((x1).bind fun j2 => ((pRA f j2 v1 v2).bind fun f3 => ((pO f3 v0 8 11 (.int v1)).bind fun f4 => some ((0 : Int32), (f4, n)))))) else ((gR f v0 8 4).bind fun x5 => ((gR f v0 8 4).bind fun x6 => ((x6).bind fun j7 => ((gRA f j7 (v3 + (1 : Int32))).bind fun x8 => ((x5).bind fun j9 => ((pRA f j9 v3 x8).bind fun f10 => mX8_forgetOldest_l22 d v0 v1 v2 (v3 + (1 : Int32)) f10 n))))))) = some r := h
    refine aw_iload_n C dX8_forgetOldest_22 rfl ?_
    refine aw_iload_n C dX8_forgetOldest_23 rfl ?_
    refine aw_icmp_ge C 47 dX8_forgetOldest_24 (by decide) (fun q => ?_) (fun q => ?_)
    · rw [if_pos q] at h
      refine aw_ald_n C dX8_forgetOldest_47 rfl ?_
      obtain ⟨x1, hx1, h⟩ := Option.bind_eq_some_iff.mp h
      refine ah_getR C gf_X8_31 hx1 dX8_forgetOldest_48 ?_
      refine aw_iload_n C dX8_forgetOldest_51 rfl ?_
      refine aw_aload_n C dX8_forgetOldest_52 rfl (rf_or v2) ?_
      obtain ⟨j2, hj2, h⟩ := Option.bind_eq_some_iff.mp h
      rw [hj2]
      obtain ⟨f3, hf3, h⟩ := Option.bind_eq_some_iff.mp h
      refine ah_aast C hf3 dX8_forgetOldest_53 ?_
      refine aw_ald_n C dX8_forgetOldest_54 rfl ?_
      refine aw_iload_n C dX8_forgetOldest_55 rfl ?_
      obtain ⟨f4, hf4, h⟩ := Option.bind_eq_some_iff.mp h
      refine ah_put C gf_X8_123 cf8 nf8_11 rfl rfl hf4 dX8_forgetOldest_56 ?_
      cases h
      exact aw_vret C rfl dX8_forgetOldest_59 (by omega) (by omega) ⟨rfl, rfl, rfl⟩
    · rw [if_neg q] at h
      refine aw_ald_n C dX8_forgetOldest_27 rfl ?_
      obtain ⟨x5, hx5, h⟩ := Option.bind_eq_some_iff.mp h
      refine ah_getR C gf_X8_31 hx5 dX8_forgetOldest_28 ?_
      refine aw_iload_n C dX8_forgetOldest_31 rfl ?_
      refine aw_ald_n C dX8_forgetOldest_32 rfl ?_
      obtain ⟨x6, hx6, h⟩ := Option.bind_eq_some_iff.mp h
      refine ah_getR C gf_X8_31 hx6 dX8_forgetOldest_33 ?_
      refine aw_iload_n C dX8_forgetOldest_36 rfl ?_
      refine aw_iconst C 1 dX8_forgetOldest_37 ki_1 ?_
      refine aw_iadd C dX8_forgetOldest_38 ?_
      obtain ⟨j7, hj7, h⟩ := Option.bind_eq_some_iff.mp h
      rw [hj7]
      obtain ⟨x8, hx8, h⟩ := Option.bind_eq_some_iff.mp h
      refine ah_aald C hx8 dX8_forgetOldest_39 ?_
      obtain ⟨j9, hj9, h⟩ := Option.bind_eq_some_iff.mp h
      rw [hj9]
      obtain ⟨f10, hf10, h⟩ := Option.bind_eq_some_iff.mp h
      refine ah_aast C hf10 dX8_forgetOldest_40 ?_
      refine aw_iinc C (v3 + (1 : Int32)) dX8_forgetOldest_41 rfl (by rw [ki_1]) (by decide) (ok_rf 2 rfl) ?_
      refine aw_nl [some (.ref v0), some (.int v1), some (va_rf v2), some (.int (v3 + (1 : Int32)))] rfl ?_
      refine aw_goto C 22 dX8_forgetOldest_44 (by decide) ?_
      refine aw_fl [some (.ref v0), some (.int v1), some (va_rf v2), some (.int (v3 + (1 : Int32)))] ⟨rfl, ⟨rfl, ⟨rfl, ⟨rfl, trivial⟩⟩⟩⟩ ?_
      exact ih v0 v1 v2 (v3 + (1 : Int32)) f10 n _ _ (by omega) (by omega) h
def mX8_forgetOldest (v0 : Nat) (f : AH) (n : Nat) : Option (Int32 × HpN) := ((gR f v0 8 4).bind fun x1 => ((x1).bind fun j2 => ((gL f j2).bind fun x3 => (if (0 : Int32) ≤ ((nI x3) - (1 : Int32)) then ((gR f v0 8 4).bind fun x4 => ((x4).bind fun j5 => ((gRA f j5 (0 : Int32)).bind fun x6 => mX8_forgetOldest_l22 rFU v0 ((nI x3) - (1 : Int32)) x6 (0 : Int32) f n))) else some ((0 : Int32), (f, n))))))
set_option maxHeartbeats 1000000 in
theorem rmX8_forgetOldest {X : GX} {l : Launch} {r : Int32 × HpN} {v0 : Nat} {f : AH} {n : Nat} (h : mX8_forgetOldest v0 f n = some r) : AM X l yX8_forgetOldest cX8_forgetOldest 4 none 0 0 0 [.ref v0] f n (QHv r) := by
  have h : ((gR f v0 8 4).bind fun x1 => ((x1).bind fun j2 => ((gL f j2).bind fun x3 => (if (0 : Int32) ≤ ((nI x3) - (1 : Int32)) then ((gR f v0 8 4).bind fun x4 => ((x4).bind fun j5 => ((gRA f j5 (0 : Int32)).bind fun x6 => mX8_forgetOldest_l22 rFU v0 ((nI x3) - (1 : Int32)) x6 (0 : Int32) f n))) else some ((0 : Int32), (f, n)))))) = some r := h
  refine AM.of (by decide +kernel) rfl (Nat.le_of_ble_eq_true rfl) (fun p e s m args below meth c C hnm => ?_)
  refine aw_nl [some (.ref v0), none, none, none] rfl ?_
  refine aw_ald_n C dX8_forgetOldest_0 rfl ?_
  obtain ⟨x1, hx1, h⟩ := Option.bind_eq_some_iff.mp h
  refine ah_getR C gf_X8_31 hx1 dX8_forgetOldest_1 ?_
  obtain ⟨j2, hj2, h⟩ := Option.bind_eq_some_iff.mp h
  rw [hj2]
  obtain ⟨x3, hx3, h⟩ := Option.bind_eq_some_iff.mp h
  refine ah_len C hx3 dX8_forgetOldest_4 ?_
  refine aw_iconst C 1 dX8_forgetOldest_5 ki_1 ?_
  refine aw_isub C dX8_forgetOldest_6 ?_
  refine aw_istore_n C dX8_forgetOldest_7 (by decide) rfl ?_
  refine aw_nl [some (.ref v0), some (.int ((nI x3) - (1 : Int32))), none, none] rfl ?_
  refine aw_iload_n C dX8_forgetOldest_8 rfl ?_
  refine aw_if_ge C 13 dX8_forgetOldest_9 (by decide) (fun q => ?_) (fun q => ?_)
  · rw [if_pos q] at h
    refine aw_ald_n C dX8_forgetOldest_13 rfl ?_
    obtain ⟨x4, hx4, h⟩ := Option.bind_eq_some_iff.mp h
    refine ah_getR C gf_X8_31 hx4 dX8_forgetOldest_14 ?_
    refine aw_iconst C 0 dX8_forgetOldest_17 ki_0 ?_
    obtain ⟨j5, hj5, h⟩ := Option.bind_eq_some_iff.mp h
    rw [hj5]
    obtain ⟨x6, hx6, h⟩ := Option.bind_eq_some_iff.mp h
    refine ah_aald C hx6 dX8_forgetOldest_18 ?_
    refine aw_astore_n C dX8_forgetOldest_19 (by decide) rfl (rf_or x6) ?_
    refine aw_nl [some (.ref v0), some (.int ((nI x3) - (1 : Int32))), some (va_rf x6), none] rfl ?_
    refine aw_iconst C 0 dX8_forgetOldest_20 ki_0 ?_
    refine aw_istore_n C dX8_forgetOldest_21 (by decide) (ok_rf 2 rfl) ?_
    refine aw_nl [some (.ref v0), some (.int ((nI x3) - (1 : Int32))), some (va_rf x6), some (.int (0 : Int32))] rfl ?_
    refine aw_fl [some (.ref v0), some (.int ((nI x3) - (1 : Int32))), some (va_rf x6), some (.int (0 : Int32))] ⟨rfl, ⟨rfl, ⟨rfl, ⟨rfl, trivial⟩⟩⟩⟩ ?_
    exact rmX8_forgetOldest_l22 C rFU v0 ((nI x3) - (1 : Int32)) x6 (0 : Int32) f n _ _ (by omega) (by omega) h
  · rw [if_neg q] at h
    cases h
    exact aw_vret C rfl dX8_forgetOldest_12 (by omega) (by omega) ⟨rfl, rfl, rfl⟩
end
/-! part 32al.cls -/
section
def mX8_rememberAhead_b73 (f : AH) (n : Nat) : Option (Int32 × HpN) := some ((0 : Int32), (f, n))
set_option maxHeartbeats 1000000 in
theorem rmX8_rememberAhead_b73 {X : GX} {p : Program} {l : Launch} {e : Env} {s : State} {m : MethodId} {args : Array Value} {below : List Frame} {meth : Method} {c : Code} {r : Int32 × HpN} {f : AH} {n cells slots : Nat} (C : CC X p l (RM 1 0 0) s m args meth c RX8 cX8_rememberAhead 1 none) (hc : cells + 0 ≤ 0) (hs : slots + 0 ≤ 0) (h : mX8_rememberAhead_b73 f n = some r) : AW X p l e (RM 1 0 0) s m args below meth c 1 (ZM X below args s 0 0 (QHv r)) f n cells slots 73 [none] [] := by
  have h : some ((0 : Int32), (f, n)) = some r := h
  cases h
  exact aw_vret C rfl dX8_rememberAhead_73 (by omega) (by omega) ⟨rfl, rfl, rfl⟩
def mX8_rememberAhead_b16 (v0 : Nat) (f : AH) (n : Nat) : Option (Int32 × HpN) := ((gI f v0 8 11).bind fun x1 => (if x1 < (0 : Int32) then mX8_rememberAhead_b73 f n else ((gI f v0 8 11).bind fun x2 => ((gR f v0 8 4).bind fun x3 => ((x3).bind fun j4 => ((gL f j4).bind fun x5 => (if (nI x5) ≤ x2 then mX8_rememberAhead_b73 f n else ((gR f v0 8 4).bind fun x6 => ((gI f v0 8 11).bind fun x7 => ((x6).bind fun j8 => ((gRA f j8 x7).bind fun x9 => (oN x9 (mX8_rememberAhead_b73 f n) (fun j10 => ((gR f v0 8 4).bind fun x11 => ((gI f v0 8 11).bind fun x12 => ((x11).bind fun j13 => ((gRA f j13 x12).bind fun x14 => ((gR f v0 8 2).bind fun x15 => ((x14).bind fun j16 => rCk (isO f j16 7) (((mX7_copyFrom j16 x15 f n).bind fun r18 => ((gI r18.2.1 v0 8 11).bind fun x20 => ((pO r18.2.1 v0 8 11 (.int (x20 + (1 : Int32)))).bind fun f21 => mX8_rememberAhead_b73 f21 r18.2.2)))))))))))))))))))))))
set_option maxHeartbeats 1000000 in
theorem rmX8_rememberAhead_b16 {X : GX} {p : Program} {l : Launch} {e : Env} {s : State} {m : MethodId} {args : Array Value} {below : List Frame} {meth : Method} {c : Code} {r : Int32 × HpN} {v0 : Nat} {f : AH} {n cells slots : Nat} (C : CC X p l (RM 1 0 0) s m args meth c RX8 cX8_rememberAhead 1 none) (hc : cells + 0 ≤ 0) (hs : slots + 0 ≤ 0) (h : mX8_rememberAhead_b16 v0 f n = some r) : AW X p l e (RM 1 0 0) s m args below meth c 1 (ZM X below args s 0 0 (QHv r)) f n cells slots 16 [some (.ref v0)] [] := by
  have h : ((gI f v0 8 11).bind fun x1 => (if x1 < (0 : Int32) then mX8_rememberAhead_b73 f n else ((gI f v0 8 11).bind fun x2 => ((gR f v0 8 4).bind fun x3 => ((x3).bind fun j4 => ((gL f j4).bind fun x5 => (if (nI x5) ≤ x2 then mX8_rememberAhead_b73 f n else ((gR f v0 8 4).bind fun x6 => ((gI f v0 8 11).bind fun x7 => ((x6).bind fun j8 => ((gRA f j8 x7).bind fun x9 => (oN x9 (mX8_rememberAhead_b73 f n) (fun j10 => ((gR f v0 8 4).bind fun x11 => ((gI f v0 8 11).bind fun x12 => ((x11).bind fun j13 => ((gRA f j13 x12).bind fun x14 => ((gR f v0 8 2).bind fun x15 => ((x14).bind fun j16 => rCk (isO f j16 7) (((mX7_copyFrom j16 x15 f n).bind fun r18 => ((gI r18.2.1 v0 8 11).bind fun x20 => ((pO r18.2.1 v0 8 11 (.int (x20 + (1 : Int32)))).bind fun f21 => mX8_rememberAhead_b73 f21 r18.2.2))))))))))))))))))))))) = some r := h
  refine aw_ald_n C dX8_rememberAhead_16 rfl ?_
  obtain ⟨x1, hx1, h⟩ := Option.bind_eq_some_iff.mp h
  refine ah_getI C gf_X8_123 hx1 dX8_rememberAhead_17 ?_
  refine aw_if_lt C 73 dX8_rememberAhead_20 (by decide) (fun q => ?_) (fun q => ?_)
  · rw [if_pos q] at h
    refine aw_fl [none] trivial ?_
    exact rmX8_rememberAhead_b73 C (by omega) (by omega) h
  · rw [if_neg q] at h
    refine aw_ald_n C dX8_rememberAhead_23 rfl ?_
    obtain ⟨x2, hx2, h⟩ := Option.bind_eq_some_iff.mp h
    refine ah_getI C gf_X8_123 hx2 dX8_rememberAhead_24 ?_
    refine aw_ald_n C dX8_rememberAhead_27 rfl ?_
    obtain ⟨x3, hx3, h⟩ := Option.bind_eq_some_iff.mp h
    refine ah_getR C gf_X8_31 hx3 dX8_rememberAhead_28 ?_
    obtain ⟨j4, hj4, h⟩ := Option.bind_eq_some_iff.mp h
    rw [hj4]
    obtain ⟨x5, hx5, h⟩ := Option.bind_eq_some_iff.mp h
    refine ah_len C hx5 dX8_rememberAhead_31 ?_
    refine aw_icmp_ge C 73 dX8_rememberAhead_32 (by decide) (fun q => ?_) (fun q => ?_)
    · rw [if_pos q] at h
      refine aw_fl [none] trivial ?_
      exact rmX8_rememberAhead_b73 C (by omega) (by omega) h
    · rw [if_neg q] at h
      refine aw_ald_n C dX8_rememberAhead_35 rfl ?_
      obtain ⟨x6, hx6, h⟩ := Option.bind_eq_some_iff.mp h
      refine ah_getR C gf_X8_31 hx6 dX8_rememberAhead_36 ?_
      refine aw_ald_n C dX8_rememberAhead_39 rfl ?_
      obtain ⟨x7, hx7, h⟩ := Option.bind_eq_some_iff.mp h
      refine ah_getI C gf_X8_123 hx7 dX8_rememberAhead_40 ?_
      obtain ⟨j8, hj8, h⟩ := Option.bind_eq_some_iff.mp h
      rw [hj8]
      obtain ⟨x9, hx9, h⟩ := Option.bind_eq_some_iff.mp h
      refine ah_aald C hx9 dX8_rememberAhead_43 ?_
      cases x9 with
      | none =>
        replace h : mX8_rememberAhead_b73 f n = some r := h
        refine aw_ifnull_n C 73 dX8_rememberAhead_44 (by decide) ?_
        refine aw_fl [none] trivial ?_
        exact rmX8_rememberAhead_b73 C (by omega) (by omega) h
      | some j10 =>
        replace h : ((gR f v0 8 4).bind fun x11 => ((gI f v0 8 11).bind fun x12 => ((x11).bind fun j13 => ((gRA f j13 x12).bind fun x14 => ((gR f v0 8 2).bind fun x15 => ((x14).bind fun j16 => rCk (isO f j16 7) (((mX7_copyFrom j16 x15 f n).bind fun r18 => ((gI r18.2.1 v0 8 11).bind fun x20 => ((pO r18.2.1 v0 8 11 (.int (x20 + (1 : Int32)))).bind fun f21 => mX8_rememberAhead_b73 f21 r18.2.2)))))))))) = some r := h
        refine aw_ifnull_r C 73 dX8_rememberAhead_44 (by decide) ?_
        refine aw_ald_n C dX8_rememberAhead_47 rfl ?_
        obtain ⟨x11, hx11, h⟩ := Option.bind_eq_some_iff.mp h
        refine ah_getR C gf_X8_31 hx11 dX8_rememberAhead_48 ?_
        refine aw_ald_n C dX8_rememberAhead_51 rfl ?_
        obtain ⟨x12, hx12, h⟩ := Option.bind_eq_some_iff.mp h
        refine ah_getI C gf_X8_123 hx12 dX8_rememberAhead_52 ?_
        obtain ⟨j13, hj13, h⟩ := Option.bind_eq_some_iff.mp h
        rw [hj13]
        obtain ⟨x14, hx14, h⟩ := Option.bind_eq_some_iff.mp h
        refine ah_aald C hx14 dX8_rememberAhead_55 ?_
        refine aw_ald_n C dX8_rememberAhead_56 rfl ?_
        obtain ⟨x15, hx15, h⟩ := Option.bind_eq_some_iff.mp h
        refine ah_getR C gf_X8_25 hx15 dX8_rememberAhead_57 ?_
        obtain ⟨j16, hj16, h⟩ := Option.bind_eq_some_iff.mp h
        rw [hj16]
        obtain ⟨hb17, h⟩ := ck_some h
        obtain ⟨r18, hr18, h⟩ := Option.bind_eq_some_iff.mp h
        obtain ⟨fs19, hf19⟩ := isO_ex hb17
        refine aw_callV C (ci := 7) (b := j16) [va_rf x15] mv_X8_73 rfl rfl hf19 (rmX7_copyFrom hr18) rfl dX8_rememberAhead_60 (Nat.le_of_ble_eq_true rfl) (Nat.le_of_ble_eq_true rfl) rfl (Nat.le_of_ble_eq_true rfl) (show cells + 0 ≤ 0 by omega) (show slots + 0 ≤ 0 by omega) (fun v9 f9 n9 hh => ?_)
        obtain ⟨rfl, rfl, rfl⟩ := hh
        refine aw_ald_n C dX8_rememberAhead_63 rfl ?_
        refine aw_dup C dX8_rememberAhead_64 rfl ?_
        obtain ⟨x20, hx20, h⟩ := Option.bind_eq_some_iff.mp h
        refine ah_getI C gf_X8_123 hx20 dX8_rememberAhead_65 ?_
        refine aw_iconst C 1 dX8_rememberAhead_68 ki_1 ?_
        refine aw_iadd C dX8_rememberAhead_69 ?_
        obtain ⟨f21, hf21, h⟩ := Option.bind_eq_some_iff.mp h
        refine ah_put C gf_X8_123 cf8 nf8_11 rfl rfl hf21 dX8_rememberAhead_70 ?_
        refine aw_fl [none] trivial ?_
        exact rmX8_rememberAhead_b73 C (by omega) (by omega) h
def mX8_rememberAhead (v0 : Nat) (f : AH) (n : Nat) : Option (Int32 × HpN) := ((gI f v0 8 11).bind fun x1 => ((gR f v0 8 4).bind fun x2 => ((x2).bind fun j3 => ((gL f j3).bind fun x4 => (if x1 < (nI x4) then mX8_rememberAhead_b16 v0 f n else rCk (isO f v0 8) (((mX8_forgetOldest v0 f n).bind fun r6 => mX8_rememberAhead_b16 v0 r6.2.1 r6.2.2)))))))
set_option maxHeartbeats 1000000 in
theorem rmX8_rememberAhead {X : GX} {l : Launch} {r : Int32 × HpN} {v0 : Nat} {f : AH} {n : Nat} (h : mX8_rememberAhead v0 f n = some r) : AM X l yX8_rememberAhead cX8_rememberAhead 1 none 1 0 0 [.ref v0] f n (QHv r) := by
  have h : ((gI f v0 8 11).bind fun x1 => ((gR f v0 8 4).bind fun x2 => ((x2).bind fun j3 => ((gL f j3).bind fun x4 => (if x1 < (nI x4) then mX8_rememberAhead_b16 v0 f n else rCk (isO f v0 8) (((mX8_forgetOldest v0 f n).bind fun r6 => mX8_rememberAhead_b16 v0 r6.2.1 r6.2.2))))))) = some r := h
  refine AM.of (by decide +kernel) rfl (Nat.le_of_ble_eq_true rfl) (fun p e s m args below meth c C hnm => ?_)
  refine aw_nl [some (.ref v0)] rfl ?_
  refine aw_ald_n C dX8_rememberAhead_0 rfl ?_
  obtain ⟨x1, hx1, h⟩ := Option.bind_eq_some_iff.mp h
  refine ah_getI C gf_X8_123 hx1 dX8_rememberAhead_1 ?_
  refine aw_ald_n C dX8_rememberAhead_4 rfl ?_
  obtain ⟨x2, hx2, h⟩ := Option.bind_eq_some_iff.mp h
  refine ah_getR C gf_X8_31 hx2 dX8_rememberAhead_5 ?_
  obtain ⟨j3, hj3, h⟩ := Option.bind_eq_some_iff.mp h
  rw [hj3]
  obtain ⟨x4, hx4, h⟩ := Option.bind_eq_some_iff.mp h
  refine ah_len C hx4 dX8_rememberAhead_8 ?_
  refine aw_icmp_lt C 16 dX8_rememberAhead_9 (by decide) (fun q => ?_) (fun q => ?_)
  · rw [if_pos q] at h
    refine aw_fl [some (.ref v0)] ⟨rfl, trivial⟩ ?_
    exact rmX8_rememberAhead_b16 C (by omega) (by omega) h
  · rw [if_neg q] at h
    refine aw_ald_n C dX8_rememberAhead_12 rfl ?_
    obtain ⟨hb5, h⟩ := ck_some h
    obtain ⟨r6, hr6, h⟩ := Option.bind_eq_some_iff.mp h
    obtain ⟨fs7, hf7⟩ := isO_ex hb5
    refine aw_callV C (ci := 8) (b := v0) [] mv_X8_331 rfl rfl hf7 (rmX8_forgetOldest hr6) rfl dX8_rememberAhead_13 (Nat.le_of_ble_eq_true rfl) (Nat.le_of_ble_eq_true rfl) rfl (Nat.le_of_ble_eq_true rfl) (show 0 + 0 ≤ 0 by omega) (show 0 + 0 ≤ 0 by omega) (fun v9 f9 n9 hh => ?_)
    obtain ⟨rfl, rfl, rfl⟩ := hh
    refine aw_fl [some (.ref v0)] ⟨rfl, trivial⟩ ?_
    exact rmX8_rememberAhead_b16 C (by omega) (by omega) h
def mX8_finishCall_b18 (v0 : Nat) (v1 : Int32) (f : AH) (n : Nat) : Option ((Int32 ⊕ String) × HpN) := (if v1 = (0 : Int32) then rCk (isO f v0 8) (((mX8_rememberAhead v0 f n).bind fun r2 => some (.inl (0 : Int32), (r2.2.1, r2.2.2)))) else some (.inr eS, (f, n)))
set_option maxHeartbeats 1000000 in
theorem rmX8_finishCall_b18 {X : GX} {p : Program} {l : Launch} {e : Env} {s : State} {m : MethodId} {args : Array Value} {below : List Frame} {meth : Method} {c : Code} {r : (Int32 ⊕ String) × HpN} {v0 : Nat} {v1 : Int32} {f : AH} {n cells slots : Nat} (C : CC X p l (RM 6 1 6) s m args meth c RX8 cX8_finishCall 2 none) (hl0 : l.stackTraces = false) (htab : ∀ x ∈ c.exceptionTable.toList, False) (hc : cells + 1 ≤ 1) (hs : slots + 6 ≤ 6) (h : mX8_finishCall_b18 v0 v1 f n = some r) : AW X p l e (RM 6 1 6) s m args below meth c 2 (ZX X below args s 1 6 (QTr (QHv) r) (QTx r)) f n cells slots 18 [some (.ref v0), some (.int v1)] [] := by
  have h : (if v1 = (0 : Int32) then rCk (isO f v0 8) (((mX8_rememberAhead v0 f n).bind fun r2 => some (.inl (0 : Int32), (r2.2.1, r2.2.2)))) else some (.inr eS, (f, n))) = some r := h
  refine aw_iload_n C dX8_finishCall_18 rfl ?_
  refine aw_if_eq C 33 dX8_finishCall_19 (by decide) (fun q => ?_) (fun q => ?_)
  · rw [if_pos q] at h
    refine aw_ald_n C dX8_finishCall_33 rfl ?_
    obtain ⟨hb1, h⟩ := ck_some h
    obtain ⟨r2, hr2, h⟩ := Option.bind_eq_some_iff.mp h
    obtain ⟨fs3, hf3⟩ := isO_ex hb1
    refine aw_callV C (ci := 8) (b := v0) [] mv_X8_328 rfl rfl hf3 (rmX8_rememberAhead hr2) rfl dX8_finishCall_34 (Nat.le_of_ble_eq_true rfl) (Nat.le_of_ble_eq_true rfl) rfl (Nat.le_of_ble_eq_true rfl) (show cells + 0 ≤ 1 by omega) (show slots + 0 ≤ 6 by omega) (fun v9 f9 n9 hh => ?_)
    obtain ⟨rfl, rfl, rfl⟩ := hh
    cases h
    exact ax_of (aw_vret C rfl dX8_finishCall_37 (by omega) (by omega) ⟨_, rfl, rfl, rfl, rfl⟩)
  · rw [if_neg q] at h
    cases h
    exact ax_throwW C htab hl0 th_eS sx_326 dX8_finishCall_22 dX8_finishCall_25 dX8_finishCall_26 dX8_finishCall_29 dX8_finishCall_32 (Nat.le_of_ble_eq_true rfl) (Nat.le_of_ble_eq_true rfl) (show cells + 1 ≤ 1 by omega) (show slots + 6 ≤ 6 by omega) (by omega) (by omega) (fun n9 h9 => ⟨rfl, rfl, h9⟩)
def mX8_finishCall (v0 : Nat) (v1 : Int32) (f : AH) (n : Nat) : Option ((Int32 ⊕ String) × HpN) := ((pO f v0 8 12 (.int v1)).bind fun f1 => (if v1 = (3 : Int32) then ((gR f1 v0 8 2).bind fun x2 => rCk (isO f1 v0 8) (((mX8_restore v0 x2 f1 n).bind fun r4 => mX8_finishCall_b18 v0 v1 r4.2.1 r4.2.2))) else mX8_finishCall_b18 v0 v1 f1 n))
set_option maxHeartbeats 1000000 in
theorem rmX8_finishCall {X : GX} {l : Launch} {r : (Int32 ⊕ String) × HpN} {v0 : Nat} {v1 : Int32} {f : AH} {n : Nat} (hl0 : l.stackTraces = false) (h : mX8_finishCall v0 v1 f n = some r) : AX X l yX8_finishCall cX8_finishCall 2 none 6 1 6 [.ref v0, .int v1] f n (QTr (QHv) r) (QTx r) := by
  have h : ((pO f v0 8 12 (.int v1)).bind fun f1 => (if v1 = (3 : Int32) then ((gR f1 v0 8 2).bind fun x2 => rCk (isO f1 v0 8) (((mX8_restore v0 x2 f1 n).bind fun r4 => mX8_finishCall_b18 v0 v1 r4.2.1 r4.2.2))) else mX8_finishCall_b18 v0 v1 f1 n)) = some r := h
  refine AX.of (by decide +kernel) rfl (Nat.le_of_ble_eq_true rfl) (fun p e s m args below meth c C htab => ?_)
  refine aw_nl [some (.ref v0), some (.int v1)] rfl ?_
  refine aw_ald_n C dX8_finishCall_0 rfl ?_
  refine aw_iload_n C dX8_finishCall_1 rfl ?_
  obtain ⟨f1, hf1, h⟩ := Option.bind_eq_some_iff.mp h
  refine ah_put C gf_X8_110 cf8 nf8_12 rfl rfl hf1 dX8_finishCall_2 ?_
  refine aw_iload_n C dX8_finishCall_5 rfl ?_
  refine aw_iconst C 3 dX8_finishCall_6 ki_3 ?_
  refine aw_icmp_ne C 18 dX8_finishCall_7 (by decide) (fun q => ?_) (fun q => ?_)
  · rw [if_neg q] at h
    refine aw_fl [some (.ref v0), some (.int v1)] ⟨rfl, ⟨rfl, trivial⟩⟩ ?_
    exact rmX8_finishCall_b18 C hl0 htab (by omega) (by omega) h
  · rw [if_pos q] at h
    refine aw_ald_n C dX8_finishCall_10 rfl ?_
    refine aw_ald_n C dX8_finishCall_11 rfl ?_
    obtain ⟨x2, hx2, h⟩ := Option.bind_eq_some_iff.mp h
    refine ah_getR C gf_X8_25 hx2 dX8_finishCall_12 ?_
    obtain ⟨hb3, h⟩ := ck_some h
    obtain ⟨r4, hr4, h⟩ := Option.bind_eq_some_iff.mp h
    obtain ⟨fs5, hf5⟩ := isO_ex hb3
    refine aw_callV C (ci := 8) (b := v0) [va_rf x2] mv_X8_113 rfl rfl hf5 (rmX8_restore hr4) rfl dX8_finishCall_15 (Nat.le_of_ble_eq_true rfl) (Nat.le_of_ble_eq_true rfl) rfl (Nat.le_of_ble_eq_true rfl) (show 0 + 0 ≤ 1 by omega) (show 0 + 0 ≤ 6 by omega) (fun v9 f9 n9 hh => ?_)
    obtain ⟨rfl, rfl, rfl⟩ := hh
    refine aw_fl [some (.ref v0), some (.int v1)] ⟨rfl, ⟨rfl, trivial⟩⟩ ?_
    exact rmX8_finishCall_b18 C hl0 htab (by omega) (by omega) h
def mX8_unlock (v0 : Nat) (f : AH) (n : Nat) : Option ((Int32 ⊕ String) × HpN) := ((gR f v0 8 2).bind fun x1 => ((gR f v0 8 1).bind fun x2 => ((x1).bind fun j3 => rCk (isO f j3 7) (((mX7_copyFrom j3 x2 f n).bind fun r5 => rCk (isO r5.2.1 v0 8) (((mX8_doAct v0 (7 : Int32) (0 : Int32) (0 : Int32) (none : Option Nat) r5.2.1 r5.2.2).bind fun r8 => rCk (isO r8.2.1 v0 8) (((mX8_finishCall v0 r8.1 r8.2.1 r8.2.2).bind fun r11 => (tS r11.1 r11.2 (fun y11 => ((gR r11.2.1 v0 8 5).bind fun x13 => ((x13).bind fun j14 => rCk (isO r11.2.1 j14 1) (((mX1_size j14 r11.2.1 r11.2.2).bind fun r16 => some (.inl r16.1, (r16.2.1, r16.2.2)))))))))))))))))
set_option maxHeartbeats 1000000 in
theorem rmX8_unlock {X : GX} {l : Launch} {r : (Int32 ⊕ String) × HpN} {v0 : Nat} {f : AH} {n : Nat} (hl0 : l.stackTraces = false) (h : mX8_unlock v0 f n = some r) : AX X l yX8_unlock cX8_unlock 1 (some .int) 7 5 130 [.ref v0] f n (QTr (QHi) r) (QTx r) := by
  have h : ((gR f v0 8 2).bind fun x1 => ((gR f v0 8 1).bind fun x2 => ((x1).bind fun j3 => rCk (isO f j3 7) (((mX7_copyFrom j3 x2 f n).bind fun r5 => rCk (isO r5.2.1 v0 8) (((mX8_doAct v0 (7 : Int32) (0 : Int32) (0 : Int32) (none : Option Nat) r5.2.1 r5.2.2).bind fun r8 => rCk (isO r8.2.1 v0 8) (((mX8_finishCall v0 r8.1 r8.2.1 r8.2.2).bind fun r11 => (tS r11.1 r11.2 (fun y11 => ((gR r11.2.1 v0 8 5).bind fun x13 => ((x13).bind fun j14 => rCk (isO r11.2.1 j14 1) (((mX1_size j14 r11.2.1 r11.2.2).bind fun r16 => some (.inl r16.1, (r16.2.1, r16.2.2))))))))))))))))) = some r := h
  refine AX.of (by decide +kernel) rfl (Nat.le_of_ble_eq_true rfl) (fun p e s m args below meth c C htab => ?_)
  refine aw_nl [some (.ref v0)] rfl ?_
  refine aw_ald_n C dX8_unlock_0 rfl ?_
  obtain ⟨x1, hx1, h⟩ := Option.bind_eq_some_iff.mp h
  refine ah_getR C gf_X8_25 hx1 dX8_unlock_1 ?_
  refine aw_ald_n C dX8_unlock_4 rfl ?_
  obtain ⟨x2, hx2, h⟩ := Option.bind_eq_some_iff.mp h
  refine ah_getR C gf_X8_21 hx2 dX8_unlock_5 ?_
  obtain ⟨j3, hj3, h⟩ := Option.bind_eq_some_iff.mp h
  rw [hj3]
  obtain ⟨hb4, h⟩ := ck_some h
  obtain ⟨r5, hr5, h⟩ := Option.bind_eq_some_iff.mp h
  obtain ⟨fs6, hf6⟩ := isO_ex hb4
  refine aw_callV C (ci := 7) (b := j3) [va_rf x2] mv_X8_73 rfl rfl hf6 (rmX7_copyFrom hr5) rfl dX8_unlock_8 (Nat.le_of_ble_eq_true rfl) (Nat.le_of_ble_eq_true rfl) rfl (Nat.le_of_ble_eq_true rfl) (show 0 + 0 ≤ 5 by omega) (show 0 + 0 ≤ 130 by omega) (fun v9 f9 n9 hh => ?_)
  obtain ⟨rfl, rfl, rfl⟩ := hh
  refine aw_ald_n C dX8_unlock_11 rfl ?_
  refine aw_ald_n C dX8_unlock_12 rfl ?_
  refine aw_bipush C 7 dX8_unlock_13 kb_7 ?_
  refine aw_iconst C 0 dX8_unlock_15 ki_0 ?_
  refine aw_iconst C 0 dX8_unlock_16 ki_0 ?_
  refine aw_null C dX8_unlock_17 ?_
  obtain ⟨hb7, h⟩ := ck_some h
  obtain ⟨r8, hr8, h⟩ := Option.bind_eq_some_iff.mp h
  obtain ⟨fs9, hf9⟩ := isO_ex hb7
  refine aw_callV C (ci := 8) (b := v0) [.int (7 : Int32), .int (0 : Int32), .int (0 : Int32), .null] mv_X8_103 rfl rfl hf9 (rmX8_doAct hr8) rfl dX8_unlock_18 (Nat.le_of_ble_eq_true rfl) (Nat.le_of_ble_eq_true rfl) rfl (Nat.le_of_ble_eq_true rfl) (show (0 + 0) + 4 ≤ 5 by omega) (show (0 + 0) + 124 ≤ 130 by omega) (fun v9 f9 n9 hh => ?_)
  obtain ⟨rfl, rfl, rfl⟩ := hh
  obtain ⟨hb10, h⟩ := ck_some h
  obtain ⟨r11, hr11, h⟩ := Option.bind_eq_some_iff.mp h
  obtain ⟨fs12, hf12⟩ := isO_ex hb10
  refine ax_callV C (ci := 8) (b := v0) [.int r8.1] mv_X8_139 rfl rfl hf12 (rmX8_finishCall hl0 hr11) rfl dX8_unlock_21 (Nat.le_of_ble_eq_true rfl) (Nat.le_of_ble_eq_true rfl) rfl (Nat.le_of_ble_eq_true rfl) (show ((0 + 0) + 4) + 1 ≤ 5 by omega) (show ((0 + 0) + 124) + 6 ≤ 130 by omega) (fun E9 f9 n9 hq => ?_) (fun v9 f9 n9 hq => ?_)
  · obtain ⟨e1, e2, e3⟩ := hq
    rw [tS_r e1] at h
    cases h
    exact at_out C htab ⟨rfl, e2, e3⟩ (by omega) (by omega)
  obtain ⟨y11, e11, rfl, rfl, rfl⟩ := hq
  rw [tS_l e11] at h
  replace h : ((gR r11.2.1 v0 8 5).bind fun x13 => ((x13).bind fun j14 => rCk (isO r11.2.1 j14 1) (((mX1_size j14 r11.2.1 r11.2.2).bind fun r16 => some (.inl r16.1, (r16.2.1, r16.2.2)))))) = some r := h
  refine aw_ald_n C dX8_unlock_24 rfl ?_
  obtain ⟨x13, hx13, h⟩ := Option.bind_eq_some_iff.mp h
  refine ah_getR C gf_X8_38 hx13 dX8_unlock_25 ?_
  obtain ⟨j14, hj14, h⟩ := Option.bind_eq_some_iff.mp h
  rw [hj14]
  obtain ⟨hb15, h⟩ := ck_some h
  obtain ⟨r16, hr16, h⟩ := Option.bind_eq_some_iff.mp h
  obtain ⟨fs17, hf17⟩ := isO_ex hb15
  refine aw_callV C (ci := 1) (b := j14) [] mv_X8_136 rfl rfl hf17 (rmX1_size hr16) rfl dX8_unlock_28 (Nat.le_of_ble_eq_true rfl) (Nat.le_of_ble_eq_true rfl) rfl (Nat.le_of_ble_eq_true rfl) (show (((0 + 0) + 4) + 1) + 0 ≤ 5 by omega) (show (((0 + 0) + 124) + 6) + 0 ≤ 130 by omega) (fun v9 f9 n9 hh => ?_)
  obtain ⟨rfl, rfl, rfl⟩ := hh
  cases h
  exact ax_of (aw_iret C rfl rfl dX8_unlock_31 (by omega) (by omega) ⟨_, rfl, rfl, rfl, rfl⟩)
def mX8_holder_b44 (rec2 : Nat → Int32 → Int32 → AH → Nat → Option (Int32 × HpN)) (v0 : Nat) (v1 : Int32) (v2 : Int32) (f : AH) (n : Nat) : Option (Int32 × HpN) := rec2 v0 v1 (v2 + (1 : Int32)) f n
set_option maxHeartbeats 1000000 in
theorem rmX8_holder_b44 {X : GX} {p : Program} {l : Launch} {e : Env} {s : State} {m : MethodId} {args : Array Value} {below : List Frame} {meth : Method} {c : Code} {r : Int32 × HpN} {rec2 : Nat → Int32 → Int32 → AH → Nat → Option (Int32 × HpN)} {v0 : Nat} {v1 : Int32} {v2 : Int32} {f : AH} {n cells slots : Nat} (C : CC X p l (RM 1 0 0) s m args meth c RX8 cX8_holder 4 (some .int)) (Hr2 : ∀ (v0 : Nat) (v1 : Int32) (v2 : Int32) (f : AH) (n cells slots : Nat), cells + 0 ≤ 0 → slots + 0 ≤ 0 → rec2 v0 v1 v2 f n = some r → AW X p l e (RM 1 0 0) s m args below meth c 4 (ZM X below args s 0 0 (QHi r)) f n cells slots 2 [some (.ref v0), some (.int v1), some (.int v2), none] []) (hc : cells + 0 ≤ 0) (hs : slots + 0 ≤ 0) (h : mX8_holder_b44 rec2 v0 v1 v2 f n = some r) : AW X p l e (RM 1 0 0) s m args below meth c 4 (ZM X below args s 0 0 (QHi r)) f n cells slots 44 [some (.ref v0), some (.int v1), some (.int v2), none] [] := by
  have h : rec2 v0 v1 (v2 + (1 : Int32)) f n = some r := h
  refine aw_iinc C (v2 + (1 : Int32)) dX8_holder_44 rfl (by rw [ki_1]) (by decide) rfl ?_
  refine aw_nl [some (.ref v0), some (.int v1), some (.int (v2 + (1 : Int32))), none] rfl ?_
  refine aw_goto C 2 dX8_holder_47 (by decide) ?_
  refine aw_fl [some (.ref v0), some (.int v1), some (.int (v2 + (1 : Int32))), none] ⟨rfl, ⟨rfl, ⟨rfl, trivial⟩⟩⟩ ?_
  exact Hr2 v0 v1 (v2 + (1 : Int32)) f n _ _ (by omega) (by omega) h
def mX8_holder_l2 : Nat → Nat → Int32 → Int32 → AH → Nat → Option (Int32 × HpN)
  | 0, _, _, _, _, _ => none
  | d + 1, v0, v1, v2, f, n => ((gR f v0 8 5).bind fun x1 => ((x1).bind fun j2 => rCk (isO f j2 1) (((mX1_size j2 f n).bind fun r4 => (if r4.1 ≤ v2 then some ((-1 : Int32), (r4.2.1, r4.2.2)) else ((gR r4.2.1 v0 8 5).bind fun x6 => ((x6).bind fun j7 => rCk (isO r4.2.1 j7 1) (((mX1_get j7 v2 r4.2.1 r4.2.2).bind fun r9 => ((some r9.1).bind fun x11 => (oN x11 (mX8_holder_b44 (fun v0 v1 v2 f n => mX8_holder_l2 d v0 v1 v2 f n) v0 v1 v2 r9.2.1 r9.2.2) (fun j12 => ((gI r9.2.1 j12 3 0).bind fun x13 => (if v1 < x13 then mX8_holder_b44 (fun v0 v1 v2 f n => mX8_holder_l2 d v0 v1 v2 f n) v0 v1 v2 r9.2.1 r9.2.2 else ((gI r9.2.1 j12 3 1).bind fun x14 => (if x14 ≤ v1 then mX8_holder_b44 (fun v0 v1 v2 f n => mX8_holder_l2 d v0 v1 v2 f n) v0 v1 v2 r9.2.1 r9.2.2 else some (v2, (r9.2.1, r9.2.2))))))))))))))))))
set_option maxHeartbeats 1000000 in
theorem rmX8_holder_l2 {X : GX} {p : Program} {l : Launch} {e : Env} {s : State} {m : MethodId} {args : Array Value} {below : List Frame} {meth : Method} {c : Code} {r : Int32 × HpN} (C : CC X p l (RM 1 0 0) s m args meth c RX8 cX8_holder 4 (some .int)) : ∀ (d : Nat) (v0 : Nat) (v1 : Int32) (v2 : Int32) (f : AH) (n cells slots : Nat) (_ : cells + 0 ≤ 0) (_ : slots + 0 ≤ 0) (_ : mX8_holder_l2 d v0 v1 v2 f n = some r), AW X p l e (RM 1 0 0) s m args below meth c 4 (ZM X below args s 0 0 (QHi r)) f n cells slots 2 [some (.ref v0), some (.int v1), some (.int v2), none] [] := by
  intro d
  induction d with
  | zero =>
    intro v0 v1 v2 f n cells slots hc hs h
    exact nomatch (show (none : Option (Int32 × HpN)) = some r from h)
  | succ d ih =>
    intro v0 v1 v2 f n cells slots hc hs h
    have h : ((gR f v0 8 5).bind fun x1 => ((x1).bind fun j2 => rCk (isO f j2 1) (((mX1_size j2 f n).bind fun r4 => (if r4.1 ≤ v2 then some ((-1 : Int32), (r4.2.1, r4.2.2)) else ((gR r4.2.1 v0 8 5).bind fun x6 => ((x6).bind fun j7 => rCk (isO r4.2.1 j7 1) (((mX1_get j7 v2 r4.2.1 r4.2.2).bind fun r9 => ((some r9.1).bind fun x11 => (oN x11 (mX8_holder_b44 (fun v0 v1 v2 f n => mX8_holder_l2 d v0 v1 v2 f n) v0 v1 v2 r9.2.1 r9.2.2) (fun j12 => ((gI r9.2.1 j12 3 0).bind fun x13 => (if v1 < x13 then mX8_holder_b44 (fun v0 v1 v2 f n => mX8_holder_l2 d v0 v1 v2 f n) v0 v1 v2 r9.2.1 r9.2.2 else ((gI r9.2.1 j12 3 1).bind fun x14 => (if x14 ≤ v1 then mX8_holder_b44 (fun v0 v1 v2 f n => mX8_holder_l2 d v0 v1 v2 f n) v0 v1 v2 r9.2.1 r9.2.2 else some (v2, (r9.2.1, r9.2.2)))))))))))))))))) = some r := h
    refine aw_iload_n C dX8_holder_2 rfl ?_
    refine aw_ald_n C dX8_holder_3 rfl ?_
    obtain ⟨x1, hx1, h⟩ := Option.bind_eq_some_iff.mp h
    refine ah_getR C gf_X8_38 hx1 dX8_holder_4 ?_
    obtain ⟨j2, hj2, h⟩ := Option.bind_eq_some_iff.mp h
    rw [hj2]
    obtain ⟨hb3, h⟩ := ck_some h
    obtain ⟨r4, hr4, h⟩ := Option.bind_eq_some_iff.mp h
    obtain ⟨fs5, hf5⟩ := isO_ex hb3
    refine aw_callV C (ci := 1) (b := j2) [] mv_X8_136 rfl rfl hf5 (rmX1_size hr4) rfl dX8_holder_7 (Nat.le_of_ble_eq_true rfl) (Nat.le_of_ble_eq_true rfl) rfl (Nat.le_of_ble_eq_true rfl) (show cells + 0 ≤ 0 by omega) (show slots + 0 ≤ 0 by omega) (fun v9 f9 n9 hh => ?_)
    obtain ⟨rfl, rfl, rfl⟩ := hh
    refine aw_icmp_ge C 50 dX8_holder_10 (by decide) (fun q => ?_) (fun q => ?_)
    · rw [if_pos q] at h
      refine aw_iconst C (-1) dX8_holder_50 ki_m1 ?_
      cases h
      exact aw_iret C rfl rfl dX8_holder_51 (by omega) (by omega) ⟨rfl, rfl, rfl⟩
    · rw [if_neg q] at h
      refine aw_ald_n C dX8_holder_13 rfl ?_
      obtain ⟨x6, hx6, h⟩ := Option.bind_eq_some_iff.mp h
      refine ah_getR C gf_X8_38 hx6 dX8_holder_14 ?_
      refine aw_iload_n C dX8_holder_17 rfl ?_
      obtain ⟨j7, hj7, h⟩ := Option.bind_eq_some_iff.mp h
      rw [hj7]
      obtain ⟨hb8, h⟩ := ck_some h
      obtain ⟨r9, hr9, h⟩ := Option.bind_eq_some_iff.mp h
      obtain ⟨fs10, hf10⟩ := isO_ex hb8
      refine aw_callV C (ci := 1) (b := j7) [.int v2] mv_X8_241 rfl rfl hf10 (rmX1_get hr9) rfl dX8_holder_18 (Nat.le_of_ble_eq_true rfl) (Nat.le_of_ble_eq_true rfl) rfl (Nat.le_of_ble_eq_true rfl) (show (cells + 0) + 0 ≤ 0 by omega) (show (slots + 0) + 0 ≤ 0 by omega) (fun v9 f9 n9 hh => ?_)
      obtain ⟨rfl, rfl, rfl⟩ := hh
      obtain ⟨x11, hx11, h⟩ := Option.bind_eq_some_iff.mp h
      rw [Option.some.inj hx11]
      refine aw_astore_n C dX8_holder_21 (by decide) rfl (rf_or x11) ?_
      refine aw_nl [some (.ref v0), some (.int v1), some (.int v2), some (va_rf x11)] rfl ?_
      refine aw_aload_n C dX8_holder_22 rfl (rf_or x11) ?_
      cases x11 with
      | none =>
        replace h : mX8_holder_b44 (fun v0 v1 v2 f n => mX8_holder_l2 d v0 v1 v2 f n) v0 v1 v2 r9.2.1 r9.2.2 = some r := h
        refine aw_ifnull_n C 44 dX8_holder_23 (by decide) ?_
        refine aw_fl [some (.ref v0), some (.int v1), some (.int v2), none] ⟨rfl, ⟨rfl, ⟨rfl, trivial⟩⟩⟩ ?_
        exact rmX8_holder_b44 C (fun v0 v1 v2 f n cells slots hc hs h => ih v0 v1 v2 f n cells slots hc hs h) (by omega) (by omega) h
      | some j12 =>
        replace h : ((gI r9.2.1 j12 3 0).bind fun x13 => (if v1 < x13 then mX8_holder_b44 (fun v0 v1 v2 f n => mX8_holder_l2 d v0 v1 v2 f n) v0 v1 v2 r9.2.1 r9.2.2 else ((gI r9.2.1 j12 3 1).bind fun x14 => (if x14 ≤ v1 then mX8_holder_b44 (fun v0 v1 v2 f n => mX8_holder_l2 d v0 v1 v2 f n) v0 v1 v2 r9.2.1 r9.2.2 else some (v2, (r9.2.1, r9.2.2)))))) = some r := h
        refine aw_ifnull_r C 44 dX8_holder_23 (by decide) ?_
        refine aw_iload_n C dX8_holder_26 rfl ?_
        refine aw_ald_n C dX8_holder_27 rfl ?_
        obtain ⟨x13, hx13, h⟩ := Option.bind_eq_some_iff.mp h
        refine ah_getI C gf_X8_179 hx13 dX8_holder_28 ?_
        refine aw_icmp_lt C 44 dX8_holder_31 (by decide) (fun q => ?_) (fun q => ?_)
        · rw [if_pos q] at h
          refine aw_fl [some (.ref v0), some (.int v1), some (.int v2), none] ⟨rfl, ⟨rfl, ⟨rfl, trivial⟩⟩⟩ ?_
          exact rmX8_holder_b44 C (fun v0 v1 v2 f n cells slots hc hs h => ih v0 v1 v2 f n cells slots hc hs h) (by omega) (by omega) h
        · rw [if_neg q] at h
          refine aw_iload_n C dX8_holder_34 rfl ?_
          refine aw_ald_n C dX8_holder_35 rfl ?_
          obtain ⟨x14, hx14, h⟩ := Option.bind_eq_some_iff.mp h
          refine ah_getI C gf_X8_184 hx14 dX8_holder_36 ?_
          refine aw_icmp_ge C 44 dX8_holder_39 (by decide) (fun q => ?_) (fun q => ?_)
          · rw [if_pos q] at h
            refine aw_fl [some (.ref v0), some (.int v1), some (.int v2), none] ⟨rfl, ⟨rfl, ⟨rfl, trivial⟩⟩⟩ ?_
            exact rmX8_holder_b44 C (fun v0 v1 v2 f n cells slots hc hs h => ih v0 v1 v2 f n cells slots hc hs h) (by omega) (by omega) h
          · rw [if_neg q] at h
            refine aw_iload_n C dX8_holder_42 rfl ?_
            cases h
            exact aw_iret C rfl rfl dX8_holder_43 (by omega) (by omega) ⟨rfl, rfl, rfl⟩
def mX8_holder (v0 : Nat) (v1 : Int32) (f : AH) (n : Nat) : Option (Int32 × HpN) := mX8_holder_l2 rFU v0 v1 (0 : Int32) f n
set_option maxHeartbeats 1000000 in
theorem rmX8_holder {X : GX} {l : Launch} {r : Int32 × HpN} {v0 : Nat} {v1 : Int32} {f : AH} {n : Nat} (h : mX8_holder v0 v1 f n = some r) : AM X l yX8_holder cX8_holder 4 (some .int) 1 0 0 [.ref v0, .int v1] f n (QHi r) := by
  have h : mX8_holder_l2 rFU v0 v1 (0 : Int32) f n = some r := h
  refine AM.of (by decide +kernel) rfl (Nat.le_of_ble_eq_true rfl) (fun p e s m args below meth c C hnm => ?_)
  refine aw_nl [some (.ref v0), some (.int v1), none, none] rfl ?_
  refine aw_iconst C 0 dX8_holder_0 ki_0 ?_
  refine aw_istore_n C dX8_holder_1 (by decide) rfl ?_
  refine aw_nl [some (.ref v0), some (.int v1), some (.int (0 : Int32)), none] rfl ?_
  refine aw_fl [some (.ref v0), some (.int v1), some (.int (0 : Int32)), none] ⟨rfl, ⟨rfl, ⟨rfl, trivial⟩⟩⟩ ?_
  exact rmX8_holder_l2 C rFU v0 v1 (0 : Int32) f n _ _ (by omega) (by omega) h
def mX8_at_b29 (s0 : Int32) (f : AH) (n : Nat) : Option (Int32 × HpN) := some (s0, (f, n))
set_option maxHeartbeats 1000000 in
theorem rmX8_at_b29 {X : GX} {p : Program} {l : Launch} {e : Env} {s : State} {m : MethodId} {args : Array Value} {below : List Frame} {meth : Method} {c : Code} {r : Int32 × HpN} {s0 : Int32} {f : AH} {n cells slots : Nat} (C : CC X p l (RM 1 0 0) s m args meth c RX8 cX8_at 3 (some .int)) (hc : cells + 0 ≤ 0) (hs : slots + 0 ≤ 0) (h : mX8_at_b29 s0 f n = some r) : AW X p l e (RM 1 0 0) s m args below meth c 3 (ZM X below args s 0 0 (QHi r)) f n cells slots 29 [none, none, none] [.int s0] := by
  have h : some (s0, (f, n)) = some r := h
  cases h
  exact aw_iret C rfl rfl dX8_at_29 (by omega) (by omega) ⟨rfl, rfl, rfl⟩
def mX8_at (v0 : Nat) (v1 : Int32) (v2 : Int32) (f : AH) (n : Nat) : Option (Int32 × HpN) := (if v2 = (0 : Int32) then ((gR f v0 8 1).bind fun x1 => ((x1).bind fun j2 => ((gR f j2 7 0).bind fun x3 => ((x3).bind fun j4 => rCk (isO f j4 5) (((mX5_get j4 v1 f n).bind fun r6 => mX8_at_b29 r6.1 r6.2.1 r6.2.2)))))) else ((gR f v0 8 7).bind fun x8 => ((x8).bind fun j9 => ((gR f j9 0 0).bind fun x10 => ((x10).bind fun j11 => rCk (isO f j11 5) (((mX5_get j11 v1 f n).bind fun r13 => mX8_at_b29 r13.1 r13.2.1 r13.2.2)))))))
set_option maxHeartbeats 1000000 in
theorem rmX8_at {X : GX} {l : Launch} {r : Int32 × HpN} {v0 : Nat} {v1 : Int32} {v2 : Int32} {f : AH} {n : Nat} (h : mX8_at v0 v1 v2 f n = some r) : AM X l yX8_at cX8_at 3 (some .int) 1 0 0 [.ref v0, .int v1, .int v2] f n (QHi r) := by
  have h : (if v2 = (0 : Int32) then ((gR f v0 8 1).bind fun x1 => ((x1).bind fun j2 => ((gR f j2 7 0).bind fun x3 => ((x3).bind fun j4 => rCk (isO f j4 5) (((mX5_get j4 v1 f n).bind fun r6 => mX8_at_b29 r6.1 r6.2.1 r6.2.2)))))) else ((gR f v0 8 7).bind fun x8 => ((x8).bind fun j9 => ((gR f j9 0 0).bind fun x10 => ((x10).bind fun j11 => rCk (isO f j11 5) (((mX5_get j11 v1 f n).bind fun r13 => mX8_at_b29 r13.1 r13.2.1 r13.2.2))))))) = some r := h
  refine AM.of (by decide +kernel) rfl (Nat.le_of_ble_eq_true rfl) (fun p e s m args below meth c C hnm => ?_)
  refine aw_nl [some (.ref v0), some (.int v1), some (.int v2)] rfl ?_
  refine aw_iload_n C dX8_at_0 rfl ?_
  refine aw_if_eq C 18 dX8_at_1 (by decide) (fun q => ?_) (fun q => ?_)
  · rw [if_pos q] at h
    refine aw_ald_n C dX8_at_18 rfl ?_
    obtain ⟨x1, hx1, h⟩ := Option.bind_eq_some_iff.mp h
    refine ah_getR C gf_X8_21 hx1 dX8_at_19 ?_
    obtain ⟨j2, hj2, h⟩ := Option.bind_eq_some_iff.mp h
    rw [hj2]
    obtain ⟨x3, hx3, h⟩ := Option.bind_eq_some_iff.mp h
    refine ah_getR C gf_X8_130 hx3 dX8_at_22 ?_
    refine aw_iload_n C dX8_at_25 rfl ?_
    obtain ⟨j4, hj4, h⟩ := Option.bind_eq_some_iff.mp h
    rw [hj4]
    obtain ⟨hb5, h⟩ := ck_some h
    obtain ⟨r6, hr6, h⟩ := Option.bind_eq_some_iff.mp h
    obtain ⟨fs7, hf7⟩ := isO_ex hb5
    refine aw_callV C (ci := 5) (b := j4) [.int v1] mv_X8_227 rfl rfl hf7 (rmX5_get hr6) rfl dX8_at_26 (Nat.le_of_ble_eq_true rfl) (Nat.le_of_ble_eq_true rfl) rfl (Nat.le_of_ble_eq_true rfl) (show 0 + 0 ≤ 0 by omega) (show 0 + 0 ≤ 0 by omega) (fun v9 f9 n9 hh => ?_)
    obtain ⟨rfl, rfl, rfl⟩ := hh
    refine aw_fl [none, none, none] trivial ?_
    exact rmX8_at_b29 C (by omega) (by omega) h
  · rw [if_neg q] at h
    refine aw_ald_n C dX8_at_4 rfl ?_
    obtain ⟨x8, hx8, h⟩ := Option.bind_eq_some_iff.mp h
    refine ah_getR C gf_X8_48 hx8 dX8_at_5 ?_
    obtain ⟨j9, hj9, h⟩ := Option.bind_eq_some_iff.mp h
    rw [hj9]
    obtain ⟨x10, hx10, h⟩ := Option.bind_eq_some_iff.mp h
    refine ah_getR C gf_X8_160 hx10 dX8_at_8 ?_
    refine aw_iload_n C dX8_at_11 rfl ?_
    obtain ⟨j11, hj11, h⟩ := Option.bind_eq_some_iff.mp h
    rw [hj11]
    obtain ⟨hb12, h⟩ := ck_some h
    obtain ⟨r13, hr13, h⟩ := Option.bind_eq_some_iff.mp h
    obtain ⟨fs14, hf14⟩ := isO_ex hb12
    refine aw_callV C (ci := 5) (b := j11) [.int v1] mv_X8_227 rfl rfl hf14 (rmX5_get hr13) rfl dX8_at_12 (Nat.le_of_ble_eq_true rfl) (Nat.le_of_ble_eq_true rfl) rfl (Nat.le_of_ble_eq_true rfl) (show 0 + 0 ≤ 0 by omega) (show 0 + 0 ≤ 0 by omega) (fun v9 f9 n9 hh => ?_)
    obtain ⟨rfl, rfl, rfl⟩ := hh
    refine aw_goto C 29 dX8_at_15 (by decide) ?_
    refine aw_fl [none, none, none] trivial ?_
    exact rmX8_at_b29 C (by omega) (by omega) h
def mX8_memory_b85 (s0 : Int32) (f : AH) (n : Nat) : Option (Int32 × HpN) := some (s0, (f, n))
set_option maxHeartbeats 1000000 in
theorem rmX8_memory_b85 {X : GX} {p : Program} {l : Launch} {e : Env} {s : State} {m : MethodId} {args : Array Value} {below : List Frame} {meth : Method} {c : Code} {r : Int32 × HpN} {s0 : Int32} {f : AH} {n cells slots : Nat} (C : CC X p l (RM 1 0 0) s m args meth c RX8 cX8_memory 6 (some .int)) (hc : cells + 0 ≤ 0) (hs : slots + 0 ≤ 0) (h : mX8_memory_b85 s0 f n = some r) : AW X p l e (RM 1 0 0) s m args below meth c 6 (ZM X below args s 0 0 (QHi r)) f n cells slots 85 [none, none, none, none, none, none] [.int s0] := by
  have h : some (s0, (f, n)) = some r := h
  cases h
  exact aw_iret C rfl rfl dX8_memory_85 (by omega) (by omega) ⟨rfl, rfl, rfl⟩
def mX8_memory_b53 (v2 : Int32) (v3 : Int32) (v4 : Option Nat) (f : AH) (n : Nat) : Option (Int32 × HpN) := (oN v4 (some ((-1 : Int32), (f, n))) (fun j1 => (if v2 = (0 : Int32) then ((gR f j1 2 0).bind fun x2 => ((x2).bind fun j3 => rCk (isO f j3 5) (((mX5_get j3 v3 f n).bind fun r5 => mX8_memory_b85 r5.1 r5.2.1 r5.2.2)))) else ((gR f j1 2 1).bind fun x7 => ((x7).bind fun j8 => rCk (isO f j8 5) (((mX5_get j8 v3 f n).bind fun r10 => mX8_memory_b85 r10.1 r10.2.1 r10.2.2)))))))
set_option maxHeartbeats 1000000 in
theorem rmX8_memory_b53 {X : GX} {p : Program} {l : Launch} {e : Env} {s : State} {m : MethodId} {args : Array Value} {below : List Frame} {meth : Method} {c : Code} {r : Int32 × HpN} {v2 : Int32} {v3 : Int32} {v4 : Option Nat} {f : AH} {n cells slots : Nat} (C : CC X p l (RM 1 0 0) s m args meth c RX8 cX8_memory 6 (some .int)) (hc : cells + 0 ≤ 0) (hs : slots + 0 ≤ 0) (h : mX8_memory_b53 v2 v3 v4 f n = some r) : AW X p l e (RM 1 0 0) s m args below meth c 6 (ZM X below args s 0 0 (QHi r)) f n cells slots 53 [none, none, some (.int v2), some (.int v3), some (va_rf v4), none] [] := by
  have h : (oN v4 (some ((-1 : Int32), (f, n))) (fun j1 => (if v2 = (0 : Int32) then ((gR f j1 2 0).bind fun x2 => ((x2).bind fun j3 => rCk (isO f j3 5) (((mX5_get j3 v3 f n).bind fun r5 => mX8_memory_b85 r5.1 r5.2.1 r5.2.2)))) else ((gR f j1 2 1).bind fun x7 => ((x7).bind fun j8 => rCk (isO f j8 5) (((mX5_get j8 v3 f n).bind fun r10 => mX8_memory_b85 r10.1 r10.2.1 r10.2.2))))))) = some r := h
  refine aw_aload C dX8_memory_53 rfl (rf_or v4) ?_
  cases v4 with
  | none =>
    replace h : some ((-1 : Int32), (f, n)) = some r := h
    refine aw_ifnonnull_n C 60 dX8_memory_55 (by decide) ?_
    refine aw_iconst C (-1) dX8_memory_58 ki_m1 ?_
    cases h
    exact aw_iret C rfl rfl dX8_memory_59 (by omega) (by omega) ⟨rfl, rfl, rfl⟩
  | some j1 =>
    replace h : (if v2 = (0 : Int32) then ((gR f j1 2 0).bind fun x2 => ((x2).bind fun j3 => rCk (isO f j3 5) (((mX5_get j3 v3 f n).bind fun r5 => mX8_memory_b85 r5.1 r5.2.1 r5.2.2)))) else ((gR f j1 2 1).bind fun x7 => ((x7).bind fun j8 => rCk (isO f j8 5) (((mX5_get j8 v3 f n).bind fun r10 => mX8_memory_b85 r10.1 r10.2.1 r10.2.2))))) = some r := h
    refine aw_ifnonnull_r C 60 dX8_memory_55 (by decide) ?_
    refine aw_iload_n C dX8_memory_60 rfl ?_
    refine aw_if_eq C 76 dX8_memory_61 (by decide) (fun q => ?_) (fun q => ?_)
    · rw [if_pos q] at h
      refine aw_ald C dX8_memory_76 rfl ?_
      obtain ⟨x2, hx2, h⟩ := Option.bind_eq_some_iff.mp h
      refine ah_getR C gf_X8_273 hx2 dX8_memory_78 ?_
      refine aw_iload_n C dX8_memory_81 rfl ?_
      obtain ⟨j3, hj3, h⟩ := Option.bind_eq_some_iff.mp h
      rw [hj3]
      obtain ⟨hb4, h⟩ := ck_some h
      obtain ⟨r5, hr5, h⟩ := Option.bind_eq_some_iff.mp h
      obtain ⟨fs6, hf6⟩ := isO_ex hb4
      refine aw_callV C (ci := 5) (b := j3) [.int v3] mv_X8_227 rfl rfl hf6 (rmX5_get hr5) rfl dX8_memory_82 (Nat.le_of_ble_eq_true rfl) (Nat.le_of_ble_eq_true rfl) rfl (Nat.le_of_ble_eq_true rfl) (show cells + 0 ≤ 0 by omega) (show slots + 0 ≤ 0 by omega) (fun v9 f9 n9 hh => ?_)
      obtain ⟨rfl, rfl, rfl⟩ := hh
      refine aw_fl [none, none, none, none, none, none] trivial ?_
      exact rmX8_memory_b85 C (by omega) (by omega) h
    · rw [if_neg q] at h
      refine aw_ald C dX8_memory_64 rfl ?_
      obtain ⟨x7, hx7, h⟩ := Option.bind_eq_some_iff.mp h
      refine ah_getR C gf_X8_270 hx7 dX8_memory_66 ?_
      refine aw_iload_n C dX8_memory_69 rfl ?_
      obtain ⟨j8, hj8, h⟩ := Option.bind_eq_some_iff.mp h
      rw [hj8]
      obtain ⟨hb9, h⟩ := ck_some h
      obtain ⟨r10, hr10, h⟩ := Option.bind_eq_some_iff.mp h
      obtain ⟨fs11, hf11⟩ := isO_ex hb9
      refine aw_callV C (ci := 5) (b := j8) [.int v3] mv_X8_227 rfl rfl hf11 (rmX5_get hr10) rfl dX8_memory_70 (Nat.le_of_ble_eq_true rfl) (Nat.le_of_ble_eq_true rfl) rfl (Nat.le_of_ble_eq_true rfl) (show cells + 0 ≤ 0 by omega) (show slots + 0 ≤ 0 by omega) (fun v9 f9 n9 hh => ?_)
      obtain ⟨rfl, rfl, rfl⟩ := hh
      refine aw_goto C 85 dX8_memory_73 (by decide) ?_
      refine aw_fl [none, none, none, none, none, none] trivial ?_
      exact rmX8_memory_b85 C (by omega) (by omega) h
def mX8_memory_l29 : Nat → Int32 → Int32 → Int32 → (Option Nat) → Int32 → AH → Nat → Option (Int32 × HpN)
  | 0, _, _, _, _, _, _, _ => none
  | d + 1, v1, v2, v3, v4, v5, f, n => (if v1 ≤ v5 then mX8_memory_b53 v2 v3 v4 f n else (oN v4 (mX8_memory_b53 v2 v3 (none : Option Nat) f n) (fun j1 => ((gR f j1 2 2).bind fun x2 => mX8_memory_l29 d v1 v2 v3 x2 (v5 + (1 : Int32)) f n))))
set_option maxHeartbeats 1000000 in
theorem rmX8_memory_l29 {X : GX} {p : Program} {l : Launch} {e : Env} {s : State} {m : MethodId} {args : Array Value} {below : List Frame} {meth : Method} {c : Code} {r : Int32 × HpN} (C : CC X p l (RM 1 0 0) s m args meth c RX8 cX8_memory 6 (some .int)) : ∀ (d : Nat) (v1 : Int32) (v2 : Int32) (v3 : Int32) (v4 : Option Nat) (v5 : Int32) (f : AH) (n cells slots : Nat) (_ : cells + 0 ≤ 0) (_ : slots + 0 ≤ 0) (_ : mX8_memory_l29 d v1 v2 v3 v4 v5 f n = some r), AW X p l e (RM 1 0 0) s m args below meth c 6 (ZM X below args s 0 0 (QHi r)) f n cells slots 29 [none, some (.int v1), some (.int v2), some (.int v3), some (va_rf v4), some (.int v5)] [] := by
  intro d
  induction d with
  | zero =>
    intro v1 v2 v3 v4 v5 f n cells slots hc hs h
    exact nomatch (show (none : Option (Int32 × HpN)) = some r from h)
  | succ d ih =>
    intro v1 v2 v3 v4 v5 f n cells slots hc hs h
    have h : (if v1 ≤ v5 then mX8_memory_b53 v2 v3 v4 f n else (oN v4 (mX8_memory_b53 v2 v3 (none : Option Nat) f n) (fun j1 => ((gR f j1 2 2).bind fun x2 => mX8_memory_l29 d v1 v2 v3 x2 (v5 + (1 : Int32)) f n)))) = some r := h
    refine aw_iload C dX8_memory_29 rfl ?_
    refine aw_iload_n C dX8_memory_31 rfl ?_
    refine aw_icmp_ge C 53 dX8_memory_32 (by decide) (fun q => ?_) (fun q => ?_)
    · rw [if_pos q] at h
      refine aw_fl [none, none, some (.int v2), some (.int v3), some (va_rf v4), none] ⟨rfl, ⟨rfl, ⟨rfl, trivial⟩⟩⟩ ?_
      exact rmX8_memory_b53 C (by omega) (by omega) h
    · rw [if_neg q] at h
      refine aw_aload C dX8_memory_35 rfl (rf_or v4) ?_
      cases v4 with
      | none =>
        replace h : mX8_memory_b53 v2 v3 (none : Option Nat) f n = some r := h
        refine aw_ifnull_n C 53 dX8_memory_37 (by decide) ?_
        refine aw_fl [none, none, some (.int v2), some (.int v3), some (va_rf (none : Option Nat)), none] ⟨rfl, ⟨rfl, ⟨rfl, trivial⟩⟩⟩ ?_
        exact rmX8_memory_b53 C (by omega) (by omega) h
      | some j1 =>
        replace h : ((gR f j1 2 2).bind fun x2 => mX8_memory_l29 d v1 v2 v3 x2 (v5 + (1 : Int32)) f n) = some r := h
        refine aw_ifnull_r C 53 dX8_memory_37 (by decide) ?_
        refine aw_ald C dX8_memory_40 rfl ?_
        obtain ⟨x2, hx2, h⟩ := Option.bind_eq_some_iff.mp h
        refine ah_getR C gf_X8_265 hx2 dX8_memory_42 ?_
        refine aw_astore C dX8_memory_45 (by decide) rfl (rf_or x2) ?_
        refine aw_nl [none, some (.int v1), some (.int v2), some (.int v3), some (va_rf x2), some (.int v5)] rfl ?_
        refine aw_iinc C (v5 + (1 : Int32)) dX8_memory_47 rfl (by rw [ki_1]) (by decide) (ok_rf 4 rfl) ?_
        refine aw_nl [none, some (.int v1), some (.int v2), some (.int v3), some (va_rf x2), some (.int (v5 + (1 : Int32)))] rfl ?_
        refine aw_goto C 29 dX8_memory_50 (by decide) ?_
        refine aw_fl [none, some (.int v1), some (.int v2), some (.int v3), some (va_rf x2), some (.int (v5 + (1 : Int32)))] ⟨rfl, ⟨rfl, ⟨rfl, ⟨rfl, ⟨rfl, trivial⟩⟩⟩⟩⟩ ?_
        exact ih v1 v2 v3 x2 (v5 + (1 : Int32)) f n _ _ (by omega) (by omega) h
def mX8_memory_b15 (f : AH) (n : Nat) : Option (Int32 × HpN) := some ((-1 : Int32), (f, n))
set_option maxHeartbeats 1000000 in
theorem rmX8_memory_b15 {X : GX} {p : Program} {l : Launch} {e : Env} {s : State} {m : MethodId} {args : Array Value} {below : List Frame} {meth : Method} {c : Code} {r : Int32 × HpN} {f : AH} {n cells slots : Nat} (C : CC X p l (RM 1 0 0) s m args meth c RX8 cX8_memory 6 (some .int)) (hc : cells + 0 ≤ 0) (hs : slots + 0 ≤ 0) (h : mX8_memory_b15 f n = some r) : AW X p l e (RM 1 0 0) s m args below meth c 6 (ZM X below args s 0 0 (QHi r)) f n cells slots 15 [none, none, none, none, none, none] [] := by
  have h : some ((-1 : Int32), (f, n)) = some r := h
  refine aw_iconst C (-1) dX8_memory_15 ki_m1 ?_
  cases h
  exact aw_iret C rfl rfl dX8_memory_16 (by omega) (by omega) ⟨rfl, rfl, rfl⟩
def mX8_memory (v0 : Nat) (v1 : Int32) (v2 : Int32) (v3 : Int32) (f : AH) (n : Nat) : Option (Int32 × HpN) := (if v1 < (0 : Int32) then mX8_memory_b15 f n else ((gR f v0 8 1).bind fun x1 => ((x1).bind fun j2 => ((gI f j2 7 7).bind fun x3 => (if v1 < x3 then ((gR f v0 8 1).bind fun x4 => ((x4).bind fun j5 => ((gR f j5 7 6).bind fun x6 => mX8_memory_l29 rFU v1 v2 v3 x6 (0 : Int32) f n))) else mX8_memory_b15 f n)))))
set_option maxHeartbeats 1000000 in
theorem rmX8_memory {X : GX} {l : Launch} {r : Int32 × HpN} {v0 : Nat} {v1 : Int32} {v2 : Int32} {v3 : Int32} {f : AH} {n : Nat} (h : mX8_memory v0 v1 v2 v3 f n = some r) : AM X l yX8_memory cX8_memory 6 (some .int) 1 0 0 [.ref v0, .int v1, .int v2, .int v3] f n (QHi r) := by
  have h : (if v1 < (0 : Int32) then mX8_memory_b15 f n else ((gR f v0 8 1).bind fun x1 => ((x1).bind fun j2 => ((gI f j2 7 7).bind fun x3 => (if v1 < x3 then ((gR f v0 8 1).bind fun x4 => ((x4).bind fun j5 => ((gR f j5 7 6).bind fun x6 => mX8_memory_l29 rFU v1 v2 v3 x6 (0 : Int32) f n))) else mX8_memory_b15 f n))))) = some r := h
  refine AM.of (by decide +kernel) rfl (Nat.le_of_ble_eq_true rfl) (fun p e s m args below meth c C hnm => ?_)
  refine aw_nl [some (.ref v0), some (.int v1), some (.int v2), some (.int v3), none, none] rfl ?_
  refine aw_iload_n C dX8_memory_0 rfl ?_
  refine aw_if_lt C 15 dX8_memory_1 (by decide) (fun q => ?_) (fun q => ?_)
  · rw [if_pos q] at h
    refine aw_fl [none, none, none, none, none, none] trivial ?_
    exact rmX8_memory_b15 C (by omega) (by omega) h
  · rw [if_neg q] at h
    refine aw_iload_n C dX8_memory_4 rfl ?_
    refine aw_ald_n C dX8_memory_5 rfl ?_
    obtain ⟨x1, hx1, h⟩ := Option.bind_eq_some_iff.mp h
    refine ah_getR C gf_X8_21 hx1 dX8_memory_6 ?_
    obtain ⟨j2, hj2, h⟩ := Option.bind_eq_some_iff.mp h
    rw [hj2]
    obtain ⟨x3, hx3, h⟩ := Option.bind_eq_some_iff.mp h
    refine ah_getI C gf_X8_258 hx3 dX8_memory_9 ?_
    refine aw_icmp_lt C 17 dX8_memory_12 (by decide) (fun q => ?_) (fun q => ?_)
    · rw [if_pos q] at h
      refine aw_ald_n C dX8_memory_17 rfl ?_
      obtain ⟨x4, hx4, h⟩ := Option.bind_eq_some_iff.mp h
      refine ah_getR C gf_X8_21 hx4 dX8_memory_18 ?_
      obtain ⟨j5, hj5, h⟩ := Option.bind_eq_some_iff.mp h
      rw [hj5]
      obtain ⟨x6, hx6, h⟩ := Option.bind_eq_some_iff.mp h
      refine ah_getR C gf_X8_261 hx6 dX8_memory_21 ?_
      refine aw_astore C dX8_memory_24 (by decide) rfl (rf_or x6) ?_
      refine aw_nl [some (.ref v0), some (.int v1), some (.int v2), some (.int v3), some (va_rf x6), none] rfl ?_
      refine aw_iconst C 0 dX8_memory_26 ki_0 ?_
      refine aw_istore C dX8_memory_27 (by decide) (ok_rf 4 rfl) ?_
      refine aw_nl [some (.ref v0), some (.int v1), some (.int v2), some (.int v3), some (va_rf x6), some (.int (0 : Int32))] rfl ?_
      refine aw_fl [none, some (.int v1), some (.int v2), some (.int v3), some (va_rf x6), some (.int (0 : Int32))] ⟨rfl, ⟨rfl, ⟨rfl, ⟨rfl, ⟨rfl, trivial⟩⟩⟩⟩⟩ ?_
      exact rmX8_memory_l29 C rFU v1 v2 v3 x6 (0 : Int32) f n _ _ (by omega) (by omega) h
    · rw [if_neg q] at h
      refine aw_fl [none, none, none, none, none, none] trivial ?_
      exact rmX8_memory_b15 C (by omega) (by omega) h
def mX8_cutAgain_b30 (f : AH) (n : Nat) : Option (Int32 × HpN) := some ((0 : Int32), (f, n))
set_option maxHeartbeats 1000000 in
theorem rmX8_cutAgain_b30 {X : GX} {p : Program} {l : Launch} {e : Env} {s : State} {m : MethodId} {args : Array Value} {below : List Frame} {meth : Method} {c : Code} {r : Int32 × HpN} {f : AH} {n cells slots : Nat} (C : CC X p l (RM 5 0 0) s m args meth c RX8 cX8_cutAgain 1 none) (hc : cells + 0 ≤ 0) (hs : slots + 0 ≤ 0) (h : mX8_cutAgain_b30 f n = some r) : AW X p l e (RM 5 0 0) s m args below meth c 1 (ZM X below args s 0 0 (QHv r)) f n cells slots 30 [none] [] := by
  have h : some ((0 : Int32), (f, n)) = some r := h
  cases h
  exact aw_vret C rfl dX8_cutAgain_30 (by omega) (by omega) ⟨rfl, rfl, rfl⟩
def mX8_cutAgain (v0 : Nat) (f : AH) (n : Nat) : Option (Int32 × HpN) := ((gI f v0 8 10).bind fun x1 => (if x1 = (0 : Int32) then ((gR f v0 8 6).bind fun x2 => ((gR f v0 8 7).bind fun x3 => ((x3).bind fun j4 => ((gR f j4 0 0).bind fun x5 => ((gR f v0 8 1).bind fun x6 => ((x2).bind fun j7 => rCk (isO f j7 1) (((mX1_find j7 x5 x6 f n).bind fun r9 => rCk (rNb (1 : Int32)) (((pO r9.2.1 v0 8 10 (.int (1 : Int32))).bind fun f12 => mX8_cutAgain_b30 f12 r9.2.2)))))))))) else mX8_cutAgain_b30 f n))
set_option maxHeartbeats 1000000 in
theorem rmX8_cutAgain {X : GX} {l : Launch} {r : Int32 × HpN} {v0 : Nat} {f : AH} {n : Nat} (h : mX8_cutAgain v0 f n = some r) : AM X l yX8_cutAgain cX8_cutAgain 1 none 5 0 0 [.ref v0] f n (QHv r) := by
  have h : ((gI f v0 8 10).bind fun x1 => (if x1 = (0 : Int32) then ((gR f v0 8 6).bind fun x2 => ((gR f v0 8 7).bind fun x3 => ((x3).bind fun j4 => ((gR f j4 0 0).bind fun x5 => ((gR f v0 8 1).bind fun x6 => ((x2).bind fun j7 => rCk (isO f j7 1) (((mX1_find j7 x5 x6 f n).bind fun r9 => rCk (rNb (1 : Int32)) (((pO r9.2.1 v0 8 10 (.int (1 : Int32))).bind fun f12 => mX8_cutAgain_b30 f12 r9.2.2)))))))))) else mX8_cutAgain_b30 f n)) = some r := h
  refine AM.of (by decide +kernel) rfl (Nat.le_of_ble_eq_true rfl) (fun p e s m args below meth c C hnm => ?_)
  refine aw_nl [some (.ref v0)] rfl ?_
  refine aw_ald_n C dX8_cutAgain_0 rfl ?_
  obtain ⟨x1, hx1, h⟩ := Option.bind_eq_some_iff.mp h
  refine ah_getI C gf_X8_334 hx1 dX8_cutAgain_1 ?_
  refine aw_if_ne C 30 dX8_cutAgain_4 (by decide) (fun q => ?_) (fun q => ?_)
  · rw [if_neg q] at h
    refine aw_fl [none] trivial ?_
    exact rmX8_cutAgain_b30 C (by omega) (by omega) h
  · rw [if_pos q] at h
    refine aw_ald_n C dX8_cutAgain_7 rfl ?_
    obtain ⟨x2, hx2, h⟩ := Option.bind_eq_some_iff.mp h
    refine ah_getR C gf_X8_42 hx2 dX8_cutAgain_8 ?_
    refine aw_ald_n C dX8_cutAgain_11 rfl ?_
    obtain ⟨x3, hx3, h⟩ := Option.bind_eq_some_iff.mp h
    refine ah_getR C gf_X8_48 hx3 dX8_cutAgain_12 ?_
    obtain ⟨j4, hj4, h⟩ := Option.bind_eq_some_iff.mp h
    rw [hj4]
    obtain ⟨x5, hx5, h⟩ := Option.bind_eq_some_iff.mp h
    refine ah_getR C gf_X8_160 hx5 dX8_cutAgain_15 ?_
    refine aw_ald_n C dX8_cutAgain_18 rfl ?_
    obtain ⟨x6, hx6, h⟩ := Option.bind_eq_some_iff.mp h
    refine ah_getR C gf_X8_21 hx6 dX8_cutAgain_19 ?_
    obtain ⟨j7, hj7, h⟩ := Option.bind_eq_some_iff.mp h
    rw [hj7]
    obtain ⟨hb8, h⟩ := ck_some h
    obtain ⟨r9, hr9, h⟩ := Option.bind_eq_some_iff.mp h
    obtain ⟨fs10, hf10⟩ := isO_ex hb8
    refine aw_callV C (ci := 1) (b := j7) [va_rf x5, va_rf x6] mv_X8_361 rfl rfl hf10 (rmX1_find hr9) rfl dX8_cutAgain_22 (Nat.le_of_ble_eq_true rfl) (Nat.le_of_ble_eq_true rfl) rfl (Nat.le_of_ble_eq_true rfl) (show 0 + 0 ≤ 0 by omega) (show 0 + 0 ≤ 0 by omega) (fun v9 f9 n9 hh => ?_)
    obtain ⟨rfl, rfl, rfl⟩ := hh
    refine aw_ald_n C dX8_cutAgain_25 rfl ?_
    refine aw_iconst C 1 dX8_cutAgain_26 ki_1 ?_
    obtain ⟨hb11, h⟩ := ck_some h
    obtain ⟨f12, hf12, h⟩ := Option.bind_eq_some_iff.mp h
    refine ah_put C gf_X8_334 cf8 nf8_10 (nb_nar hb11) (nb_fit hb11) hf12 dX8_cutAgain_27 ?_
    refine aw_fl [none] trivial ?_
    exact rmX8_cutAgain_b30 C (by omega) (by omega) h
def mX8_isNow_b106 (s0 : Int32) (f : AH) (n : Nat) : Option (Int32 × HpN) := rCk (rNb s0) (some (s0, (f, n)))
set_option maxHeartbeats 1000000 in
theorem rmX8_isNow_b106 {X : GX} {p : Program} {l : Launch} {e : Env} {s : State} {m : MethodId} {args : Array Value} {below : List Frame} {meth : Method} {c : Code} {r : Int32 × HpN} {s0 : Int32} {f : AH} {n cells slots : Nat} (C : CC X p l (RM 2 0 0) s m args meth c RX8 cX8_isNow 5 (some .boolean)) (hc : cells + 0 ≤ 0) (hs : slots + 0 ≤ 0) (h : mX8_isNow_b106 s0 f n = some r) : AW X p l e (RM 2 0 0) s m args below meth c 5 (ZM X below args s 0 0 (QHi r)) f n cells slots 106 [none, none, none, none, none] [.int s0] := by
  have h : rCk (rNb s0) (some (s0, (f, n))) = some r := h
  obtain ⟨hb1, h⟩ := ck_some h
  cases h
  exact aw_iret C rfl (nb_nar hb1) dX8_isNow_106 (by omega) (by omega) ⟨rfl, rfl, rfl⟩
def mX8_isNow_b105 (f : AH) (n : Nat) : Option (Int32 × HpN) := mX8_isNow_b106 (0 : Int32) f n
set_option maxHeartbeats 1000000 in
theorem rmX8_isNow_b105 {X : GX} {p : Program} {l : Launch} {e : Env} {s : State} {m : MethodId} {args : Array Value} {below : List Frame} {meth : Method} {c : Code} {r : Int32 × HpN} {f : AH} {n cells slots : Nat} (C : CC X p l (RM 2 0 0) s m args meth c RX8 cX8_isNow 5 (some .boolean)) (hc : cells + 0 ≤ 0) (hs : slots + 0 ≤ 0) (h : mX8_isNow_b105 f n = some r) : AW X p l e (RM 2 0 0) s m args below meth c 5 (ZM X below args s 0 0 (QHi r)) f n cells slots 105 [none, none, none, none, none] [] := by
  have h : mX8_isNow_b106 (0 : Int32) f n = some r := h
  refine aw_iconst C 0 dX8_isNow_105 ki_0 ?_
  refine aw_fl [none, none, none, none, none] trivial ?_
  exact rmX8_isNow_b106 C (by omega) (by omega) h
def mX8_isNow_b63 (s0 : Int32) (f : AH) (n : Nat) : Option (Int32 × HpN) := rCk (rNb s0) (some (s0, (f, n)))
set_option maxHeartbeats 1000000 in
theorem rmX8_isNow_b63 {X : GX} {p : Program} {l : Launch} {e : Env} {s : State} {m : MethodId} {args : Array Value} {below : List Frame} {meth : Method} {c : Code} {r : Int32 × HpN} {s0 : Int32} {f : AH} {n cells slots : Nat} (C : CC X p l (RM 2 0 0) s m args meth c RX8 cX8_isNow 5 (some .boolean)) (hc : cells + 0 ≤ 0) (hs : slots + 0 ≤ 0) (h : mX8_isNow_b63 s0 f n = some r) : AW X p l e (RM 2 0 0) s m args below meth c 5 (ZM X below args s 0 0 (QHi r)) f n cells slots 63 [none, none, none, none, none] [.int s0] := by
  have h : rCk (rNb s0) (some (s0, (f, n))) = some r := h
  obtain ⟨hb1, h⟩ := ck_some h
  cases h
  exact aw_iret C rfl (nb_nar hb1) dX8_isNow_63 (by omega) (by omega) ⟨rfl, rfl, rfl⟩
def mX8_isNow_b62 (f : AH) (n : Nat) : Option (Int32 × HpN) := mX8_isNow_b63 (0 : Int32) f n
set_option maxHeartbeats 1000000 in
theorem rmX8_isNow_b62 {X : GX} {p : Program} {l : Launch} {e : Env} {s : State} {m : MethodId} {args : Array Value} {below : List Frame} {meth : Method} {c : Code} {r : Int32 × HpN} {f : AH} {n cells slots : Nat} (C : CC X p l (RM 2 0 0) s m args meth c RX8 cX8_isNow 5 (some .boolean)) (hc : cells + 0 ≤ 0) (hs : slots + 0 ≤ 0) (h : mX8_isNow_b62 f n = some r) : AW X p l e (RM 2 0 0) s m args below meth c 5 (ZM X below args s 0 0 (QHi r)) f n cells slots 62 [none, none, none, none, none] [] := by
  have h : mX8_isNow_b63 (0 : Int32) f n = some r := h
  refine aw_iconst C 0 dX8_isNow_62 ki_0 ?_
  refine aw_fl [none, none, none, none, none] trivial ?_
  exact rmX8_isNow_b63 C (by omega) (by omega) h
def mX8_isNow (v0 : Nat) (v1 : Int32) (v2 : Option Nat) (v3 : Option Nat) (f : AH) (n : Nat) : Option (Int32 × HpN) := ((gR f v0 8 1).bind fun x1 => ((x1).bind fun j2 => rCk (isO f j2 7) (((mX7_toldFor j2 v1 f n).bind fun r4 => ((some r4.1).bind fun x6 => (oN x6 (((v2).bind fun j8 => ((gI r4.2.1 j8 3 3).bind fun x9 => ((v3).bind fun j10 => ((gI r4.2.1 j10 3 3).bind fun x11 => (if x9 = x11 then ((gR r4.2.1 v0 8 5).bind fun x12 => ((x12).bind fun j13 => ((gR r4.2.1 j13 1 0).bind fun x14 => ((gI r4.2.1 j8 3 2).bind fun x15 => ((gR r4.2.1 v0 8 6).bind fun x16 => ((x16).bind fun j17 => ((gR r4.2.1 j17 1 0).bind fun x18 => ((gI r4.2.1 j10 3 2).bind fun x19 => ((gI r4.2.1 j8 3 3).bind fun x20 => ((x14).bind fun j21 => rCk (isO r4.2.1 j21 5) (((mX5_isSame j21 x15 x18 x19 x20 r4.2.1 r4.2.2).bind fun r23 => (if r23.1 = (0 : Int32) then mX8_isNow_b62 r23.2.1 r23.2.2 else mX8_isNow_b63 (1 : Int32) r23.2.1 r23.2.2))))))))))))) else mX8_isNow_b62 r4.2.1 r4.2.2)))))) (fun j7 => rCk (isO r4.2.1 j7 5) (((mX5_size j7 r4.2.1 r4.2.2).bind fun r26 => ((v3).bind fun j28 => ((gI r26.2.1 j28 3 3).bind fun x29 => (if r26.1 = x29 then ((gR r26.2.1 v0 8 6).bind fun x30 => ((x30).bind fun j31 => ((gR r26.2.1 j31 1 0).bind fun x32 => ((gI r26.2.1 j28 3 2).bind fun x33 => rCk (isO r26.2.1 j7 5) (((mX5_size j7 r26.2.1 r26.2.2).bind fun r35 => rCk (isO r35.2.1 j7 5) (((mX5_isSame j7 (0 : Int32) x32 x33 r35.1 r35.2.1 r35.2.2).bind fun r38 => (if r38.1 = (0 : Int32) then mX8_isNow_b105 r38.2.1 r38.2.2 else mX8_isNow_b106 (1 : Int32) r38.2.1 r38.2.2))))))))) else mX8_isNow_b105 r26.2.1 r26.2.2))))))))))))
set_option maxHeartbeats 1000000 in
theorem rmX8_isNow {X : GX} {l : Launch} {r : Int32 × HpN} {v0 : Nat} {v1 : Int32} {v2 : Option Nat} {v3 : Option Nat} {f : AH} {n : Nat} (h : mX8_isNow v0 v1 v2 v3 f n = some r) : AM X l yX8_isNow cX8_isNow 5 (some .boolean) 2 0 0 [.ref v0, .int v1, va_rf v2, va_rf v3] f n (QHi r) := by
  have h : ((gR f v0 8 1).bind fun x1 => ((x1).bind fun j2 => rCk (isO f j2 7) (((mX7_toldFor j2 v1 f n).bind fun r4 => ((some r4.1).bind fun x6 => (oN x6 (((v2).bind fun j8 => ((gI r4.2.1 j8 3 3).bind fun x9 => ((v3).bind fun j10 => ((gI r4.2.1 j10 3 3).bind fun x11 => (if x9 = x11 then ((gR r4.2.1 v0 8 5).bind fun x12 => ((x12).bind fun j13 => ((gR r4.2.1 j13 1 0).bind fun x14 => ((gI r4.2.1 j8 3 2).bind fun x15 => ((gR r4.2.1 v0 8 6).bind fun x16 => ((x16).bind fun j17 => ((gR r4.2.1 j17 1 0).bind fun x18 => ((gI r4.2.1 j10 3 2).bind fun x19 => ((gI r4.2.1 j8 3 3).bind fun x20 => ((x14).bind fun j21 => rCk (isO r4.2.1 j21 5) (((mX5_isSame j21 x15 x18 x19 x20 r4.2.1 r4.2.2).bind fun r23 => (if r23.1 = (0 : Int32) then mX8_isNow_b62 r23.2.1 r23.2.2 else mX8_isNow_b63 (1 : Int32) r23.2.1 r23.2.2))))))))))))) else mX8_isNow_b62 r4.2.1 r4.2.2)))))) (fun j7 => rCk (isO r4.2.1 j7 5) (((mX5_size j7 r4.2.1 r4.2.2).bind fun r26 => ((v3).bind fun j28 => ((gI r26.2.1 j28 3 3).bind fun x29 => (if r26.1 = x29 then ((gR r26.2.1 v0 8 6).bind fun x30 => ((x30).bind fun j31 => ((gR r26.2.1 j31 1 0).bind fun x32 => ((gI r26.2.1 j28 3 2).bind fun x33 => rCk (isO r26.2.1 j7 5) (((mX5_size j7 r26.2.1 r26.2.2).bind fun r35 => rCk (isO r35.2.1 j7 5) (((mX5_isSame j7 (0 : Int32) x32 x33 r35.1 r35.2.1 r35.2.2).bind fun r38 => (if r38.1 = (0 : Int32) then mX8_isNow_b105 r38.2.1 r38.2.2 else mX8_isNow_b106 (1 : Int32) r38.2.1 r38.2.2))))))))) else mX8_isNow_b105 r26.2.1 r26.2.2)))))))))))) = some r := h
  refine AM.of (by decide +kernel) (all1 rfl (all1 rfl (all1 (rf_cat _) (all1 (rf_cat _) rfl)))) (Nat.le_of_ble_eq_true rfl) (fun p e s m args below meth c C hnm => ?_)
  refine aw_nl [some (.ref v0), some (.int v1), some (va_rf v2), some (va_rf v3), none] rfl ?_
  refine aw_ald_n C dX8_isNow_0 rfl ?_
  obtain ⟨x1, hx1, h⟩ := Option.bind_eq_some_iff.mp h
  refine ah_getR C gf_X8_21 hx1 dX8_isNow_1 ?_
  refine aw_iload_n C dX8_isNow_4 rfl ?_
  obtain ⟨j2, hj2, h⟩ := Option.bind_eq_some_iff.mp h
  rw [hj2]
  obtain ⟨hb3, h⟩ := ck_some h
  obtain ⟨r4, hr4, h⟩ := Option.bind_eq_some_iff.mp h
  obtain ⟨fs5, hf5⟩ := isO_ex hb3
  refine aw_callV C (ci := 7) (b := j2) [.int v1] mv_X8_194 rfl rfl hf5 (rmX7_toldFor hr4) rfl dX8_isNow_5 (Nat.le_of_ble_eq_true rfl) (Nat.le_of_ble_eq_true rfl) rfl (Nat.le_of_ble_eq_true rfl) (show 0 + 0 ≤ 0 by omega) (show 0 + 0 ≤ 0 by omega) (fun v9 f9 n9 hh => ?_)
  obtain ⟨rfl, rfl, rfl⟩ := hh
  obtain ⟨x6, hx6, h⟩ := Option.bind_eq_some_iff.mp h
  rw [Option.some.inj hx6]
  refine aw_astore C dX8_isNow_8 (by decide) (ok_rf 3 rfl) (rf_or x6) ?_
  refine aw_nl [some (.ref v0), some (.int v1), some (va_rf v2), some (va_rf v3), some (va_rf x6)] rfl ?_
  refine aw_aload C dX8_isNow_10 rfl (rf_or x6) ?_
  cases x6 with
  | none =>
    replace h : ((v2).bind fun j8 => ((gI r4.2.1 j8 3 3).bind fun x9 => ((v3).bind fun j10 => ((gI r4.2.1 j10 3 3).bind fun x11 => (if x9 = x11 then ((gR r4.2.1 v0 8 5).bind fun x12 => ((x12).bind fun j13 => ((gR r4.2.1 j13 1 0).bind fun x14 => ((gI r4.2.1 j8 3 2).bind fun x15 => ((gR r4.2.1 v0 8 6).bind fun x16 => ((x16).bind fun j17 => ((gR r4.2.1 j17 1 0).bind fun x18 => ((gI r4.2.1 j10 3 2).bind fun x19 => ((gI r4.2.1 j8 3 3).bind fun x20 => ((x14).bind fun j21 => rCk (isO r4.2.1 j21 5) (((mX5_isSame j21 x15 x18 x19 x20 r4.2.1 r4.2.2).bind fun r23 => (if r23.1 = (0 : Int32) then mX8_isNow_b62 r23.2.1 r23.2.2 else mX8_isNow_b63 (1 : Int32) r23.2.1 r23.2.2))))))))))))) else mX8_isNow_b62 r4.2.1 r4.2.2))))) = some r := h
    refine aw_ifnonnull_n C 64 dX8_isNow_12 (by decide) ?_
    refine aw_aload_n C dX8_isNow_15 rfl (rf_or v2) ?_
    obtain ⟨j8, hj8, h⟩ := Option.bind_eq_some_iff.mp h
    rw [hj8]
    obtain ⟨x9, hx9, h⟩ := Option.bind_eq_some_iff.mp h
    refine ah_getI C gf_X8_187 hx9 dX8_isNow_16 ?_
    refine aw_aload_n C dX8_isNow_19 rfl (rf_or v3) ?_
    obtain ⟨j10, hj10, h⟩ := Option.bind_eq_some_iff.mp h
    rw [hj10]
    obtain ⟨x11, hx11, h⟩ := Option.bind_eq_some_iff.mp h
    refine ah_getI C gf_X8_187 hx11 dX8_isNow_20 ?_
    refine aw_icmp_ne C 62 dX8_isNow_23 (by decide) (fun q => ?_) (fun q => ?_)
    · rw [if_neg q] at h
      refine aw_fl [none, none, none, none, none] trivial ?_
      exact rmX8_isNow_b62 C (by omega) (by omega) h
    · rw [if_pos q] at h
      refine aw_ald_n C dX8_isNow_26 rfl ?_
      obtain ⟨x12, hx12, h⟩ := Option.bind_eq_some_iff.mp h
      refine ah_getR C gf_X8_38 hx12 dX8_isNow_27 ?_
      obtain ⟨j13, hj13, h⟩ := Option.bind_eq_some_iff.mp h
      rw [hj13]
      obtain ⟨x14, hx14, h⟩ := Option.bind_eq_some_iff.mp h
      refine ah_getR C gf_X8_373 hx14 dX8_isNow_30 ?_
      refine aw_ald_n C dX8_isNow_33 rfl ?_
      obtain ⟨x15, hx15, h⟩ := Option.bind_eq_some_iff.mp h
      refine ah_getI C gf_X8_224 hx15 dX8_isNow_34 ?_
      refine aw_ald_n C dX8_isNow_37 rfl ?_
      obtain ⟨x16, hx16, h⟩ := Option.bind_eq_some_iff.mp h
      refine ah_getR C gf_X8_42 hx16 dX8_isNow_38 ?_
      obtain ⟨j17, hj17, h⟩ := Option.bind_eq_some_iff.mp h
      rw [hj17]
      obtain ⟨x18, hx18, h⟩ := Option.bind_eq_some_iff.mp h
      refine ah_getR C gf_X8_373 hx18 dX8_isNow_41 ?_
      refine aw_ald_n C dX8_isNow_44 rfl ?_
      obtain ⟨x19, hx19, h⟩ := Option.bind_eq_some_iff.mp h
      refine ah_getI C gf_X8_224 hx19 dX8_isNow_45 ?_
      refine aw_ald_n C dX8_isNow_48 rfl ?_
      obtain ⟨x20, hx20, h⟩ := Option.bind_eq_some_iff.mp h
      refine ah_getI C gf_X8_187 hx20 dX8_isNow_49 ?_
      obtain ⟨j21, hj21, h⟩ := Option.bind_eq_some_iff.mp h
      rw [hj21]
      obtain ⟨hb22, h⟩ := ck_some h
      obtain ⟨r23, hr23, h⟩ := Option.bind_eq_some_iff.mp h
      obtain ⟨fs24, hf24⟩ := isO_ex hb22
      refine aw_callV C (ci := 5) (b := j21) [.int x15, va_rf x18, .int x19, .int x20] mv_X8_382 rfl rfl hf24 (rmX5_isSame hr23) rfl dX8_isNow_52 (Nat.le_of_ble_eq_true rfl) (Nat.le_of_ble_eq_true rfl) rfl (Nat.le_of_ble_eq_true rfl) (show (0 + 0) + 0 ≤ 0 by omega) (show (0 + 0) + 0 ≤ 0 by omega) (fun v9 f9 n9 hh => ?_)
      obtain ⟨rfl, rfl, rfl⟩ := hh
      refine aw_if_eq C 62 dX8_isNow_55 (by decide) (fun q => ?_) (fun q => ?_)
      · rw [if_pos q] at h
        refine aw_fl [none, none, none, none, none] trivial ?_
        exact rmX8_isNow_b62 C (by omega) (by omega) h
      · rw [if_neg q] at h
        refine aw_iconst C 1 dX8_isNow_58 ki_1 ?_
        refine aw_goto C 63 dX8_isNow_59 (by decide) ?_
        refine aw_fl [none, none, none, none, none] trivial ?_
        exact rmX8_isNow_b63 C (by omega) (by omega) h
  | some j7 =>
    replace h : rCk (isO r4.2.1 j7 5) (((mX5_size j7 r4.2.1 r4.2.2).bind fun r26 => ((v3).bind fun j28 => ((gI r26.2.1 j28 3 3).bind fun x29 => (if r26.1 = x29 then ((gR r26.2.1 v0 8 6).bind fun x30 => ((x30).bind fun j31 => ((gR r26.2.1 j31 1 0).bind fun x32 => ((gI r26.2.1 j28 3 2).bind fun x33 => rCk (isO r26.2.1 j7 5) (((mX5_size j7 r26.2.1 r26.2.2).bind fun r35 => rCk (isO r35.2.1 j7 5) (((mX5_isSame j7 (0 : Int32) x32 x33 r35.1 r35.2.1 r35.2.2).bind fun r38 => (if r38.1 = (0 : Int32) then mX8_isNow_b105 r38.2.1 r38.2.2 else mX8_isNow_b106 (1 : Int32) r38.2.1 r38.2.2))))))))) else mX8_isNow_b105 r26.2.1 r26.2.2))))) = some r := h
    refine aw_ifnonnull_r C 64 dX8_isNow_12 (by decide) ?_
    refine aw_ald C dX8_isNow_64 rfl ?_
    obtain ⟨hb25, h⟩ := ck_some h
    obtain ⟨r26, hr26, h⟩ := Option.bind_eq_some_iff.mp h
    obtain ⟨fs27, hf27⟩ := isO_ex hb25
    refine aw_callV C (ci := 5) (b := j7) [] mv_X8_63 rfl rfl hf27 (rmX5_size hr26) rfl dX8_isNow_66 (Nat.le_of_ble_eq_true rfl) (Nat.le_of_ble_eq_true rfl) rfl (Nat.le_of_ble_eq_true rfl) (show (0 + 0) + 0 ≤ 0 by omega) (show (0 + 0) + 0 ≤ 0 by omega) (fun v9 f9 n9 hh => ?_)
    obtain ⟨rfl, rfl, rfl⟩ := hh
    refine aw_aload_n C dX8_isNow_69 rfl (rf_or v3) ?_
    obtain ⟨j28, hj28, h⟩ := Option.bind_eq_some_iff.mp h
    rw [hj28]
    obtain ⟨x29, hx29, h⟩ := Option.bind_eq_some_iff.mp h
    refine ah_getI C gf_X8_187 hx29 dX8_isNow_70 ?_
    refine aw_icmp_ne C 105 dX8_isNow_73 (by decide) (fun q => ?_) (fun q => ?_)
    · rw [if_neg q] at h
      refine aw_fl [none, none, none, none, none] trivial ?_
      exact rmX8_isNow_b105 C (by omega) (by omega) h
    · rw [if_pos q] at h
      refine aw_ald C dX8_isNow_76 rfl ?_
      refine aw_iconst C 0 dX8_isNow_78 ki_0 ?_
      refine aw_ald_n C dX8_isNow_79 rfl ?_
      obtain ⟨x30, hx30, h⟩ := Option.bind_eq_some_iff.mp h
      refine ah_getR C gf_X8_42 hx30 dX8_isNow_80 ?_
      obtain ⟨j31, hj31, h⟩ := Option.bind_eq_some_iff.mp h
      rw [hj31]
      obtain ⟨x32, hx32, h⟩ := Option.bind_eq_some_iff.mp h
      refine ah_getR C gf_X8_373 hx32 dX8_isNow_83 ?_
      refine aw_ald_n C dX8_isNow_86 rfl ?_
      obtain ⟨x33, hx33, h⟩ := Option.bind_eq_some_iff.mp h
      refine ah_getI C gf_X8_224 hx33 dX8_isNow_87 ?_
      refine aw_ald C dX8_isNow_90 rfl ?_
      obtain ⟨hb34, h⟩ := ck_some h
      obtain ⟨r35, hr35, h⟩ := Option.bind_eq_some_iff.mp h
      obtain ⟨fs36, hf36⟩ := isO_ex hb34
      refine aw_callV C (ci := 5) (b := j7) [] mv_X8_63 rfl rfl hf36 (rmX5_size hr35) rfl dX8_isNow_92 (Nat.le_of_ble_eq_true rfl) (Nat.le_of_ble_eq_true rfl) rfl (cs_1 rfl (cs_1 (rf_cat _) (cs_1 rfl (cs_1 rfl cs_0)))) (show ((0 + 0) + 0) + 0 ≤ 0 by omega) (show ((0 + 0) + 0) + 0 ≤ 0 by omega) (fun v9 f9 n9 hh => ?_)
      obtain ⟨rfl, rfl, rfl⟩ := hh
      obtain ⟨hb37, h⟩ := ck_some h
      obtain ⟨r38, hr38, h⟩ := Option.bind_eq_some_iff.mp h
      obtain ⟨fs39, hf39⟩ := isO_ex hb37
      refine aw_callV C (ci := 5) (b := j7) [.int (0 : Int32), va_rf x32, .int x33, .int r35.1] mv_X8_382 rfl rfl hf39 (rmX5_isSame hr38) rfl dX8_isNow_95 (Nat.le_of_ble_eq_true rfl) (Nat.le_of_ble_eq_true rfl) rfl (Nat.le_of_ble_eq_true rfl) (show (((0 + 0) + 0) + 0) + 0 ≤ 0 by omega) (show (((0 + 0) + 0) + 0) + 0 ≤ 0 by omega) (fun v9 f9 n9 hh => ?_)
      obtain ⟨rfl, rfl, rfl⟩ := hh
      refine aw_if_eq C 105 dX8_isNow_98 (by decide) (fun q => ?_) (fun q => ?_)
      · rw [if_pos q] at h
        refine aw_fl [none, none, none, none, none] trivial ?_
        exact rmX8_isNow_b105 C (by omega) (by omega) h
      · rw [if_neg q] at h
        refine aw_iconst C 1 dX8_isNow_101 ki_1 ?_
        refine aw_goto C 106 dX8_isNow_102 (by decide) ?_
        refine aw_fl [none, none, none, none, none] trivial ?_
        exact rmX8_isNow_b106 C (by omega) (by omega) h
end
