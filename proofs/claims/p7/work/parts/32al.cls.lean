def mX8_rememberAhead_b73 (f : AH) (n : Nat) : Option (Int32 × HpN) := some ((0 : Int32), (f, n))
set_option maxHeartbeats 1000000 in
theorem rmX8_rememberAhead_b73 {X : GX} {p : Program} {l : Launch} {e : Env} {s : State} {m : MethodId} {args : Array Value} {below : List Frame} {meth : Method} {c : Code} {r : Int32 × HpN} {f : AH} {n cells slots : Nat} (C : CC X p l (RM 1 0 0) s m args meth c RX8 cX8_rememberAhead 1 none) (hc : cells + 0 ≤ 0) (hs : slots + 0 ≤ 0) (h : mX8_rememberAhead_b73 f n = some r) : AW X p l e (RM 1 0 0) s m args below meth c 1 (ZM X below args s 0 0 (QHv r)) f n cells slots 73 [none] [] := by
  have h : some ((0 : Int32), (f, n)) = some r := h
  cases h
  exact aw_vret C rfl dX8_rememberAhead_73 (by omega) (by omega) ⟨rfl, rfl, rfl⟩
def mX8_rememberAhead_b16 (v0 : Nat) (f : AH) (n : Nat) : Option (Int32 × HpN) := ((gI f v0 8 11).bind fun x1 => (if x1 < (0 : Int32) then mX8_rememberAhead_b73 f n else ((gI f v0 8 11).bind fun x2 => ((gR f v0 8 4).bind fun x3 => ((x3).bind fun j4 => ((gL f j4).bind fun x5 => (if (nI x5) ≤ x2 then mX8_rememberAhead_b73 f n else ((gR f v0 8 4).bind fun x6 => ((gI f v0 8 11).bind fun x7 => ((x6).bind fun j8 => ((gRA f j8 x7).bind fun x9 => (oN x9 (mX8_rememberAhead_b73 f n) (fun j10 => ((gR f v0 8 4).bind fun x11 => ((gI f v0 8 11).bind fun x12 => ((x11).bind fun j13 => ((gRA f j13 x12).bind fun x14 => ((gR f v0 8 2).bind fun x15 => ((x14).bind fun j16 => rCk (isO f j16 7) (((mX7_copyFrom j16 x15 f n).bind fun r18 => ((gI r18.2.1 v0 8 11).bind fun x20 => ((pO r18.2.1 v0 8 11 (.int (x20 + (1 : Int32)))).bind fun f21 => mX8_rememberAhead_b73 f21 r18.2.2)))))))))))))))))))))))
set_option maxHeartbeats 1000000 in
theorem rmX8_rememberAhead_b16 {X : GX} {p : Program} {l : Launch} {e : Env} {s : State} {m : MethodId} {args : Array Value} {below : List Frame} {meth : Method} {c : Code} {r : Int32 × HpN} {v0 : Nat} {f : AH} {n cells slots : Nat} (C : CC X p l (RM 1 0 0) s m args meth c RX8 cX8_rememberAhead 1 none) (hc : cells + 0 ≤ 0) (hs : slots + 0 ≤ 0) (h : mX8_rememberAhead_b16 v0 f n = some r) : AW X p l e (RM 1 0 0) s m args below meth c 1 (ZM X below args s 0 0 (QHv r)) f n cells slots 16 [some (.ref v0)] [] := by
  have h : ((gI f v0 8 11).bind fun x1 => (if x1 < (0 : Int32) then mX8_rememberAhead_b73 f n else ((gI f v0 8 11).bind fun x2 => ((gR f v0 8 4).bind fun x3 => ((x3).bind fun j4 => ((gL f j4).bind fun x5 => (if (nI x5) ≤ x2 then mX8_rememberAhead_b73 f n else ((gR f v0 8 4).bind fun x6 => ((gI f v0 8 11).bind fun x7 => ((x6).bind fun j8 => ((gRA f j8 x7).bind fun x9 => (oN x9 (mX8_rememberAhead_b73 f n) (fun j10 => ((gR f v0 8 4).bind fun x11 => ((gI f v0 8 11).bind fun x12 => ((x11).bind fun j13 => ((gRA f j13 x12).bind fun x14 => ((gR f v0 8 2).bind fun x15 => ((x14).bind fun j16 => rCk (isO f j16 7) (((mX7_copyFrom j16 x15 f n).bind fun r18 => ((gI r18.2.1 v0 8 11).bind fun x20 => ((pO r18.2.1 v0 8 11 (.int (x20 + (1 : Int32)))).bind fun f21 => mX8_rememberAhead_b73 f21 r18.2.2))))))))))))))))))))))) = some r := h
  refine aw_ald_n C dX8_rememberAhead_16 rfl ?_
  obtain ⟨x1, hx1, h⟩ := Option.bind_eq_some_iff.mp h
  refine ah_getI C gf_X8_123 hx1 dX8_rememberAhead_17 ?_
  refine aw_if_lt C 73 dX8_rememberAhead_20 (by decide) (fun q => ?_) (fun q => ?_)
  · rw [if_pos q] at h
    refine aw_fl [none] trivial ?_
    exact rmX8_rememberAhead_b73 C (by omega) (by omega) h
  · rw [if_neg q] at h
    refine aw_ald_n C dX8_rememberAhead_23 rfl ?_
    obtain ⟨x2, hx2, h⟩ := Option.bind_eq_some_iff.mp h
    refine ah_getI C gf_X8_123 hx2 dX8_rememberAhead_24 ?_
    refine aw_ald_n C dX8_rememberAhead_27 rfl ?_
    obtain ⟨x3, hx3, h⟩ := Option.bind_eq_some_iff.mp h
    refine ah_getR C gf_X8_31 hx3 dX8_rememberAhead_28 ?_
    obtain ⟨j4, hj4, h⟩ := Option.bind_eq_some_iff.mp h
    rw [hj4]
    obtain ⟨x5, hx5, h⟩ := Option.bind_eq_some_iff.mp h
    refine ah_len C hx5 dX8_rememberAhead_31 ?_
    refine aw_icmp_ge C 73 dX8_rememberAhead_32 (by decide) (fun q => ?_) (fun q => ?_)
    · rw [if_pos q] at h
      refine aw_fl [none] trivial ?_
      exact rmX8_rememberAhead_b73 C (by omega) (by omega) h
    · rw [if_neg q] at h
      refine aw_ald_n C dX8_rememberAhead_35 rfl ?_
      obtain ⟨x6, hx6, h⟩ := Option.bind_eq_some_iff.mp h
      refine ah_getR C gf_X8_31 hx6 dX8_rememberAhead_36 ?_
      refine aw_ald_n C dX8_rememberAhead_39 rfl ?_
      obtain ⟨x7, hx7, h⟩ := Option.bind_eq_some_iff.mp h
      refine ah_getI C gf_X8_123 hx7 dX8_rememberAhead_40 ?_
      obtain ⟨j8, hj8, h⟩ := Option.bind_eq_some_iff.mp h
      rw [hj8]
      obtain ⟨x9, hx9, h⟩ := Option.bind_eq_some_iff.mp h
      refine ah_aald C hx9 dX8_rememberAhead_43 ?_
      cases x9 with
      | none =>
        replace h : mX8_rememberAhead_b73 f n = some r := h
        refine aw_ifnull_n C 73 dX8_rememberAhead_44 (by decide) ?_
        refine aw_fl [none] trivial ?_
        exact rmX8_rememberAhead_b73 C (by omega) (by omega) h
      | some j10 =>
        replace h : ((gR f v0 8 4).bind fun x11 => ((gI f v0 8 11).bind fun x12 => ((x11).bind fun j13 => ((gRA f j13 x12).bind fun x14 => ((gR f v0 8 2).bind fun x15 => ((x14).bind fun j16 => rCk (isO f j16 7) (((mX7_copyFrom j16 x15 f n).bind fun r18 => ((gI r18.2.1 v0 8 11).bind fun x20 => ((pO r18.2.1 v0 8 11 (.int (x20 + (1 : Int32)))).bind fun f21 => mX8_rememberAhead_b73 f21 r18.2.2)))))))))) = some r := h
        refine aw_ifnull_r C 73 dX8_rememberAhead_44 (by decide) ?_
        refine aw_ald_n C dX8_rememberAhead_47 rfl ?_
        obtain ⟨x11, hx11, h⟩ := Option.bind_eq_some_iff.mp h
        refine ah_getR C gf_X8_31 hx11 dX8_rememberAhead_48 ?_
        refine aw_ald_n C dX8_rememberAhead_51 rfl ?_
        obtain ⟨x12, hx12, h⟩ := Option.bind_eq_some_iff.mp h
        refine ah_getI C gf_X8_123 hx12 dX8_rememberAhead_52 ?_
        obtain ⟨j13, hj13, h⟩ := Option.bind_eq_some_iff.mp h
        rw [hj13]
        obtain ⟨x14, hx14, h⟩ := Option.bind_eq_some_iff.mp h
        refine ah_aald C hx14 dX8_rememberAhead_55 ?_
        refine aw_ald_n C dX8_rememberAhead_56 rfl ?_
        obtain ⟨x15, hx15, h⟩ := Option.bind_eq_some_iff.mp h
        refine ah_getR C gf_X8_25 hx15 dX8_rememberAhead_57 ?_
        obtain ⟨j16, hj16, h⟩ := Option.bind_eq_some_iff.mp h
        rw [hj16]
        obtain ⟨hb17, h⟩ := ck_some h
        obtain ⟨r18, hr18, h⟩ := Option.bind_eq_some_iff.mp h
        obtain ⟨fs19, hf19⟩ := isO_ex hb17
        refine aw_callV C (ci := 7) (b := j16) [va_rf x15] mv_X8_73 rfl rfl hf19 (rmX7_copyFrom hr18) rfl dX8_rememberAhead_60 (Nat.le_of_ble_eq_true rfl) (Nat.le_of_ble_eq_true rfl) rfl (Nat.le_of_ble_eq_true rfl) (show cells + 0 ≤ 0 by omega) (show slots + 0 ≤ 0 by omega) (fun v9 f9 n9 hh => ?_)
        obtain ⟨rfl, rfl, rfl⟩ := hh
        refine aw_ald_n C dX8_rememberAhead_63 rfl ?_
        refine aw_dup C dX8_rememberAhead_64 rfl ?_
        obtain ⟨x20, hx20, h⟩ := Option.bind_eq_some_iff.mp h
        refine ah_getI C gf_X8_123 hx20 dX8_rememberAhead_65 ?_
        refine aw_iconst C 1 dX8_rememberAhead_68 ki_1 ?_
        refine aw_iadd C dX8_rememberAhead_69 ?_
        obtain ⟨f21, hf21, h⟩ := Option.bind_eq_some_iff.mp h
        refine ah_put C gf_X8_123 cf8 nf8_11 rfl rfl hf21 dX8_rememberAhead_70 ?_
        refine aw_fl [none] trivial ?_
        exact rmX8_rememberAhead_b73 C (by omega) (by omega) h
def mX8_rememberAhead (v0 : Nat) (f : AH) (n : Nat) : Option (Int32 × HpN) := ((gI f v0 8 11).bind fun x1 => ((gR f v0 8 4).bind fun x2 => ((x2).bind fun j3 => ((gL f j3).bind fun x4 => (if x1 < (nI x4) then mX8_rememberAhead_b16 v0 f n else rCk (isO f v0 8) (((mX8_forgetOldest v0 f n).bind fun r6 => mX8_rememberAhead_b16 v0 r6.2.1 r6.2.2)))))))
set_option maxHeartbeats 1000000 in
theorem rmX8_rememberAhead {X : GX} {l : Launch} {r : Int32 × HpN} {v0 : Nat} {f : AH} {n : Nat} (h : mX8_rememberAhead v0 f n = some r) : AM X l yX8_rememberAhead cX8_rememberAhead 1 none 1 0 0 [.ref v0] f n (QHv r) := by
  have h : ((gI f v0 8 11).bind fun x1 => ((gR f v0 8 4).bind fun x2 => ((x2).bind fun j3 => ((gL f j3).bind fun x4 => (if x1 < (nI x4) then mX8_rememberAhead_b16 v0 f n else rCk (isO f v0 8) (((mX8_forgetOldest v0 f n).bind fun r6 => mX8_rememberAhead_b16 v0 r6.2.1 r6.2.2))))))) = some r := h
  refine AM.of (by decide +kernel) rfl (Nat.le_of_ble_eq_true rfl) (fun p e s m args below meth c C hnm => ?_)
  refine aw_nl [some (.ref v0)] rfl ?_
  refine aw_ald_n C dX8_rememberAhead_0 rfl ?_
  obtain ⟨x1, hx1, h⟩ := Option.bind_eq_some_iff.mp h
  refine ah_getI C gf_X8_123 hx1 dX8_rememberAhead_1 ?_
  refine aw_ald_n C dX8_rememberAhead_4 rfl ?_
  obtain ⟨x2, hx2, h⟩ := Option.bind_eq_some_iff.mp h
  refine ah_getR C gf_X8_31 hx2 dX8_rememberAhead_5 ?_
  obtain ⟨j3, hj3, h⟩ := Option.bind_eq_some_iff.mp h
  rw [hj3]
  obtain ⟨x4, hx4, h⟩ := Option.bind_eq_some_iff.mp h
  refine ah_len C hx4 dX8_rememberAhead_8 ?_
  refine aw_icmp_lt C 16 dX8_rememberAhead_9 (by decide) (fun q => ?_) (fun q => ?_)
  · rw [if_pos q] at h
    refine aw_fl [some (.ref v0)] ⟨rfl, trivial⟩ ?_
    exact rmX8_rememberAhead_b16 C (by omega) (by omega) h
  · rw [if_neg q] at h
    refine aw_ald_n C dX8_rememberAhead_12 rfl ?_
    obtain ⟨hb5, h⟩ := ck_some h
    obtain ⟨r6, hr6, h⟩ := Option.bind_eq_some_iff.mp h
    obtain ⟨fs7, hf7⟩ := isO_ex hb5
    refine aw_callV C (ci := 8) (b := v0) [] mv_X8_331 rfl rfl hf7 (rmX8_forgetOldest hr6) rfl dX8_rememberAhead_13 (Nat.le_of_ble_eq_true rfl) (Nat.le_of_ble_eq_true rfl) rfl (Nat.le_of_ble_eq_true rfl) (show 0 + 0 ≤ 0 by omega) (show 0 + 0 ≤ 0 by omega) (fun v9 f9 n9 hh => ?_)
    obtain ⟨rfl, rfl, rfl⟩ := hh
    refine aw_fl [some (.ref v0)] ⟨rfl, trivial⟩ ?_
    exact rmX8_rememberAhead_b16 C (by omega) (by omega) h
def mX8_finishCall_b18 (v0 : Nat) (v1 : Int32) (f : AH) (n : Nat) : Option ((Int32 ⊕ String) × HpN) := (if v1 = (0 : Int32) then rCk (isO f v0 8) (((mX8_rememberAhead v0 f n).bind fun r2 => some (.inl (0 : Int32), (r2.2.1, r2.2.2)))) else some (.inr eS, (f, n)))
set_option maxHeartbeats 1000000 in
theorem rmX8_finishCall_b18 {X : GX} {p : Program} {l : Launch} {e : Env} {s : State} {m : MethodId} {args : Array Value} {below : List Frame} {meth : Method} {c : Code} {r : (Int32 ⊕ String) × HpN} {v0 : Nat} {v1 : Int32} {f : AH} {n cells slots : Nat} (C : CC X p l (RM 6 1 6) s m args meth c RX8 cX8_finishCall 2 none) (hl0 : l.stackTraces = false) (htab : ∀ x ∈ c.exceptionTable.toList, False) (hc : cells + 1 ≤ 1) (hs : slots + 6 ≤ 6) (h : mX8_finishCall_b18 v0 v1 f n = some r) : AW X p l e (RM 6 1 6) s m args below meth c 2 (ZX X below args s 1 6 (QTr (QHv) r) (QTx r)) f n cells slots 18 [some (.ref v0), some (.int v1)] [] := by
  have h : (if v1 = (0 : Int32) then rCk (isO f v0 8) (((mX8_rememberAhead v0 f n).bind fun r2 => some (.inl (0 : Int32), (r2.2.1, r2.2.2)))) else some (.inr eS, (f, n))) = some r := h
  refine aw_iload_n C dX8_finishCall_18 rfl ?_
  refine aw_if_eq C 33 dX8_finishCall_19 (by decide) (fun q => ?_) (fun q => ?_)
  · rw [if_pos q] at h
    refine aw_ald_n C dX8_finishCall_33 rfl ?_
    obtain ⟨hb1, h⟩ := ck_some h
    obtain ⟨r2, hr2, h⟩ := Option.bind_eq_some_iff.mp h
    obtain ⟨fs3, hf3⟩ := isO_ex hb1
    refine aw_callV C (ci := 8) (b := v0) [] mv_X8_328 rfl rfl hf3 (rmX8_rememberAhead hr2) rfl dX8_finishCall_34 (Nat.le_of_ble_eq_true rfl) (Nat.le_of_ble_eq_true rfl) rfl (Nat.le_of_ble_eq_true rfl) (show cells + 0 ≤ 1 by omega) (show slots + 0 ≤ 6 by omega) (fun v9 f9 n9 hh => ?_)
    obtain ⟨rfl, rfl, rfl⟩ := hh
    cases h
    exact ax_of (aw_vret C rfl dX8_finishCall_37 (by omega) (by omega) ⟨_, rfl, rfl, rfl, rfl⟩)
  · rw [if_neg q] at h
    cases h
    exact ax_throwW C htab hl0 th_eS sx_326 dX8_finishCall_22 dX8_finishCall_25 dX8_finishCall_26 dX8_finishCall_29 dX8_finishCall_32 (Nat.le_of_ble_eq_true rfl) (Nat.le_of_ble_eq_true rfl) (show cells + 1 ≤ 1 by omega) (show slots + 6 ≤ 6 by omega) (by omega) (by omega) (fun n9 h9 => ⟨rfl, rfl, h9⟩)
def mX8_finishCall (v0 : Nat) (v1 : Int32) (f : AH) (n : Nat) : Option ((Int32 ⊕ String) × HpN) := ((pO f v0 8 12 (.int v1)).bind fun f1 => (if v1 = (3 : Int32) then ((gR f1 v0 8 2).bind fun x2 => rCk (isO f1 v0 8) (((mX8_restore v0 x2 f1 n).bind fun r4 => mX8_finishCall_b18 v0 v1 r4.2.1 r4.2.2))) else mX8_finishCall_b18 v0 v1 f1 n))
set_option maxHeartbeats 1000000 in
theorem rmX8_finishCall {X : GX} {l : Launch} {r : (Int32 ⊕ String) × HpN} {v0 : Nat} {v1 : Int32} {f : AH} {n : Nat} (hl0 : l.stackTraces = false) (h : mX8_finishCall v0 v1 f n = some r) : AX X l yX8_finishCall cX8_finishCall 2 none 6 1 6 [.ref v0, .int v1] f n (QTr (QHv) r) (QTx r) := by
  have h : ((pO f v0 8 12 (.int v1)).bind fun f1 => (if v1 = (3 : Int32) then ((gR f1 v0 8 2).bind fun x2 => rCk (isO f1 v0 8) (((mX8_restore v0 x2 f1 n).bind fun r4 => mX8_finishCall_b18 v0 v1 r4.2.1 r4.2.2))) else mX8_finishCall_b18 v0 v1 f1 n)) = some r := h
  refine AX.of (by decide +kernel) rfl (Nat.le_of_ble_eq_true rfl) (fun p e s m args below meth c C htab => ?_)
  refine aw_nl [some (.ref v0), some (.int v1)] rfl ?_
  refine aw_ald_n C dX8_finishCall_0 rfl ?_
  refine aw_iload_n C dX8_finishCall_1 rfl ?_
  obtain ⟨f1, hf1, h⟩ := Option.bind_eq_some_iff.mp h
  refine ah_put C gf_X8_110 cf8 nf8_12 rfl rfl hf1 dX8_finishCall_2 ?_
  refine aw_iload_n C dX8_finishCall_5 rfl ?_
  refine aw_iconst C 3 dX8_finishCall_6 ki_3 ?_
  refine aw_icmp_ne C 18 dX8_finishCall_7 (by decide) (fun q => ?_) (fun q => ?_)
  · rw [if_neg q] at h
    refine aw_fl [some (.ref v0), some (.int v1)] ⟨rfl, ⟨rfl, trivial⟩⟩ ?_
    exact rmX8_finishCall_b18 C hl0 htab (by omega) (by omega) h
  · rw [if_pos q] at h
    refine aw_ald_n C dX8_finishCall_10 rfl ?_
    refine aw_ald_n C dX8_finishCall_11 rfl ?_
    obtain ⟨x2, hx2, h⟩ := Option.bind_eq_some_iff.mp h
    refine ah_getR C gf_X8_25 hx2 dX8_finishCall_12 ?_
    obtain ⟨hb3, h⟩ := ck_some h
    obtain ⟨r4, hr4, h⟩ := Option.bind_eq_some_iff.mp h
    obtain ⟨fs5, hf5⟩ := isO_ex hb3
    refine aw_callV C (ci := 8) (b := v0) [va_rf x2] mv_X8_113 rfl rfl hf5 (rmX8_restore hr4) rfl dX8_finishCall_15 (Nat.le_of_ble_eq_true rfl) (Nat.le_of_ble_eq_true rfl) rfl (Nat.le_of_ble_eq_true rfl) (show 0 + 0 ≤ 1 by omega) (show 0 + 0 ≤ 6 by omega) (fun v9 f9 n9 hh => ?_)
    obtain ⟨rfl, rfl, rfl⟩ := hh
    refine aw_fl [some (.ref v0), some (.int v1)] ⟨rfl, ⟨rfl, trivial⟩⟩ ?_
    exact rmX8_finishCall_b18 C hl0 htab (by omega) (by omega) h
def mX8_unlock (v0 : Nat) (f : AH) (n : Nat) : Option ((Int32 ⊕ String) × HpN) := ((gR f v0 8 2).bind fun x1 => ((gR f v0 8 1).bind fun x2 => ((x1).bind fun j3 => rCk (isO f j3 7) (((mX7_copyFrom j3 x2 f n).bind fun r5 => rCk (isO r5.2.1 v0 8) (((mX8_doAct v0 (7 : Int32) (0 : Int32) (0 : Int32) (none : Option Nat) r5.2.1 r5.2.2).bind fun r8 => rCk (isO r8.2.1 v0 8) (((mX8_finishCall v0 r8.1 r8.2.1 r8.2.2).bind fun r11 => (tS r11.1 r11.2 (fun y11 => ((gR r11.2.1 v0 8 5).bind fun x13 => ((x13).bind fun j14 => rCk (isO r11.2.1 j14 1) (((mX1_size j14 r11.2.1 r11.2.2).bind fun r16 => some (.inl r16.1, (r16.2.1, r16.2.2)))))))))))))))))
set_option maxHeartbeats 1000000 in
theorem rmX8_unlock {X : GX} {l : Launch} {r : (Int32 ⊕ String) × HpN} {v0 : Nat} {f : AH} {n : Nat} (hl0 : l.stackTraces = false) (h : mX8_unlock v0 f n = some r) : AX X l yX8_unlock cX8_unlock 1 (some .int) 7 5 130 [.ref v0] f n (QTr (QHi) r) (QTx r) := by
  have h : ((gR f v0 8 2).bind fun x1 => ((gR f v0 8 1).bind fun x2 => ((x1).bind fun j3 => rCk (isO f j3 7) (((mX7_copyFrom j3 x2 f n).bind fun r5 => rCk (isO r5.2.1 v0 8) (((mX8_doAct v0 (7 : Int32) (0 : Int32) (0 : Int32) (none : Option Nat) r5.2.1 r5.2.2).bind fun r8 => rCk (isO r8.2.1 v0 8) (((mX8_finishCall v0 r8.1 r8.2.1 r8.2.2).bind fun r11 => (tS r11.1 r11.2 (fun y11 => ((gR r11.2.1 v0 8 5).bind fun x13 => ((x13).bind fun j14 => rCk (isO r11.2.1 j14 1) (((mX1_size j14 r11.2.1 r11.2.2).bind fun r16 => some (.inl r16.1, (r16.2.1, r16.2.2))))))))))))))))) = some r := h
  refine AX.of (by decide +kernel) rfl (Nat.le_of_ble_eq_true rfl) (fun p e s m args below meth c C htab => ?_)
  refine aw_nl [some (.ref v0)] rfl ?_
  refine aw_ald_n C dX8_unlock_0 rfl ?_
  obtain ⟨x1, hx1, h⟩ := Option.bind_eq_some_iff.mp h
  refine ah_getR C gf_X8_25 hx1 dX8_unlock_1 ?_
  refine aw_ald_n C dX8_unlock_4 rfl ?_
  obtain ⟨x2, hx2, h⟩ := Option.bind_eq_some_iff.mp h
  refine ah_getR C gf_X8_21 hx2 dX8_unlock_5 ?_
  obtain ⟨j3, hj3, h⟩ := Option.bind_eq_some_iff.mp h
  rw [hj3]
  obtain ⟨hb4, h⟩ := ck_some h
  obtain ⟨r5, hr5, h⟩ := Option.bind_eq_some_iff.mp h
  obtain ⟨fs6, hf6⟩ := isO_ex hb4
  refine aw_callV C (ci := 7) (b := j3) [va_rf x2] mv_X8_73 rfl rfl hf6 (rmX7_copyFrom hr5) rfl dX8_unlock_8 (Nat.le_of_ble_eq_true rfl) (Nat.le_of_ble_eq_true rfl) rfl (Nat.le_of_ble_eq_true rfl) (show 0 + 0 ≤ 5 by omega) (show 0 + 0 ≤ 130 by omega) (fun v9 f9 n9 hh => ?_)
  obtain ⟨rfl, rfl, rfl⟩ := hh
  refine aw_ald_n C dX8_unlock_11 rfl ?_
  refine aw_ald_n C dX8_unlock_12 rfl ?_
  refine aw_bipush C 7 dX8_unlock_13 kb_7 ?_
  refine aw_iconst C 0 dX8_unlock_15 ki_0 ?_
  refine aw_iconst C 0 dX8_unlock_16 ki_0 ?_
  refine aw_null C dX8_unlock_17 ?_
  obtain ⟨hb7, h⟩ := ck_some h
  obtain ⟨r8, hr8, h⟩ := Option.bind_eq_some_iff.mp h
  obtain ⟨fs9, hf9⟩ := isO_ex hb7
  refine aw_callV C (ci := 8) (b := v0) [.int (7 : Int32), .int (0 : Int32), .int (0 : Int32), .null] mv_X8_103 rfl rfl hf9 (rmX8_doAct hr8) rfl dX8_unlock_18 (Nat.le_of_ble_eq_true rfl) (Nat.le_of_ble_eq_true rfl) rfl (Nat.le_of_ble_eq_true rfl) (show (0 + 0) + 4 ≤ 5 by omega) (show (0 + 0) + 124 ≤ 130 by omega) (fun v9 f9 n9 hh => ?_)
  obtain ⟨rfl, rfl, rfl⟩ := hh
  obtain ⟨hb10, h⟩ := ck_some h
  obtain ⟨r11, hr11, h⟩ := Option.bind_eq_some_iff.mp h
  obtain ⟨fs12, hf12⟩ := isO_ex hb10
  refine ax_callV C (ci := 8) (b := v0) [.int r8.1] mv_X8_139 rfl rfl hf12 (rmX8_finishCall hl0 hr11) rfl dX8_unlock_21 (Nat.le_of_ble_eq_true rfl) (Nat.le_of_ble_eq_true rfl) rfl (Nat.le_of_ble_eq_true rfl) (show ((0 + 0) + 4) + 1 ≤ 5 by omega) (show ((0 + 0) + 124) + 6 ≤ 130 by omega) (fun E9 f9 n9 hq => ?_) (fun v9 f9 n9 hq => ?_)
  · obtain ⟨e1, e2, e3⟩ := hq
    rw [tS_r e1] at h
    cases h
    exact at_out C htab ⟨rfl, e2, e3⟩ (by omega) (by omega)
  obtain ⟨y11, e11, rfl, rfl, rfl⟩ := hq
  rw [tS_l e11] at h
  replace h : ((gR r11.2.1 v0 8 5).bind fun x13 => ((x13).bind fun j14 => rCk (isO r11.2.1 j14 1) (((mX1_size j14 r11.2.1 r11.2.2).bind fun r16 => some (.inl r16.1, (r16.2.1, r16.2.2)))))) = some r := h
  refine aw_ald_n C dX8_unlock_24 rfl ?_
  obtain ⟨x13, hx13, h⟩ := Option.bind_eq_some_iff.mp h
  refine ah_getR C gf_X8_38 hx13 dX8_unlock_25 ?_
  obtain ⟨j14, hj14, h⟩ := Option.bind_eq_some_iff.mp h
  rw [hj14]
  obtain ⟨hb15, h⟩ := ck_some h
  obtain ⟨r16, hr16, h⟩ := Option.bind_eq_some_iff.mp h
  obtain ⟨fs17, hf17⟩ := isO_ex hb15
  refine aw_callV C (ci := 1) (b := j14) [] mv_X8_136 rfl rfl hf17 (rmX1_size hr16) rfl dX8_unlock_28 (Nat.le_of_ble_eq_true rfl) (Nat.le_of_ble_eq_true rfl) rfl (Nat.le_of_ble_eq_true rfl) (show (((0 + 0) + 4) + 1) + 0 ≤ 5 by omega) (show (((0 + 0) + 124) + 6) + 0 ≤ 130 by omega) (fun v9 f9 n9 hh => ?_)
  obtain ⟨rfl, rfl, rfl⟩ := hh
  cases h
  exact ax_of (aw_iret C rfl rfl dX8_unlock_31 (by omega) (by omega) ⟨_, rfl, rfl, rfl, rfl⟩)
def mX8_holder_b44 (rec2 : Nat → Int32 → Int32 → AH → Nat → Option (Int32 × HpN)) (v0 : Nat) (v1 : Int32) (v2 : Int32) (f : AH) (n : Nat) : Option (Int32 × HpN) := rec2 v0 v1 (v2 + (1 : Int32)) f n
set_option maxHeartbeats 1000000 in
theorem rmX8_holder_b44 {X : GX} {p : Program} {l : Launch} {e : Env} {s : State} {m : MethodId} {args : Array Value} {below : List Frame} {meth : Method} {c : Code} {r : Int32 × HpN} {rec2 : Nat → Int32 → Int32 → AH → Nat → Option (Int32 × HpN)} {v0 : Nat} {v1 : Int32} {v2 : Int32} {f : AH} {n cells slots : Nat} (C : CC X p l (RM 1 0 0) s m args meth c RX8 cX8_holder 4 (some .int)) (Hr2 : ∀ (v0 : Nat) (v1 : Int32) (v2 : Int32) (f : AH) (n cells slots : Nat), cells + 0 ≤ 0 → slots + 0 ≤ 0 → rec2 v0 v1 v2 f n = some r → AW X p l e (RM 1 0 0) s m args below meth c 4 (ZM X below args s 0 0 (QHi r)) f n cells slots 2 [some (.ref v0), some (.int v1), some (.int v2), none] []) (hc : cells + 0 ≤ 0) (hs : slots + 0 ≤ 0) (h : mX8_holder_b44 rec2 v0 v1 v2 f n = some r) : AW X p l e (RM 1 0 0) s m args below meth c 4 (ZM X below args s 0 0 (QHi r)) f n cells slots 44 [some (.ref v0), some (.int v1), some (.int v2), none] [] := by
  have h : rec2 v0 v1 (v2 + (1 : Int32)) f n = some r := h
  refine aw_iinc C (v2 + (1 : Int32)) dX8_holder_44 rfl (by rw [ki_1]) (by decide) rfl ?_
  refine aw_nl [some (.ref v0), some (.int v1), some (.int (v2 + (1 : Int32))), none] rfl ?_
  refine aw_goto C 2 dX8_holder_47 (by decide) ?_
  refine aw_fl [some (.ref v0), some (.int v1), some (.int (v2 + (1 : Int32))), none] ⟨rfl, ⟨rfl, ⟨rfl, trivial⟩⟩⟩ ?_
  exact Hr2 v0 v1 (v2 + (1 : Int32)) f n _ _ (by omega) (by omega) h
def mX8_holder_l2 : Nat → Nat → Int32 → Int32 → AH → Nat → Option (Int32 × HpN)
  | 0, _, _, _, _, _ => none
  | d + 1, v0, v1, v2, f, n => ((gR f v0 8 5).bind fun x1 => ((x1).bind fun j2 => rCk (isO f j2 1) (((mX1_size j2 f n).bind fun r4 => (if r4.1 ≤ v2 then some ((-1 : Int32), (r4.2.1, r4.2.2)) else ((gR r4.2.1 v0 8 5).bind fun x6 => ((x6).bind fun j7 => rCk (isO r4.2.1 j7 1) (((mX1_get j7 v2 r4.2.1 r4.2.2).bind fun r9 => ((some r9.1).bind fun x11 => (oN x11 (mX8_holder_b44 (fun v0 v1 v2 f n => mX8_holder_l2 d v0 v1 v2 f n) v0 v1 v2 r9.2.1 r9.2.2) (fun j12 => ((gI r9.2.1 j12 3 0).bind fun x13 => (if v1 < x13 then mX8_holder_b44 (fun v0 v1 v2 f n => mX8_holder_l2 d v0 v1 v2 f n) v0 v1 v2 r9.2.1 r9.2.2 else ((gI r9.2.1 j12 3 1).bind fun x14 => (if x14 ≤ v1 then mX8_holder_b44 (fun v0 v1 v2 f n => mX8_holder_l2 d v0 v1 v2 f n) v0 v1 v2 r9.2.1 r9.2.2 else some (v2, (r9.2.1, r9.2.2))))))))))))))))))
set_option maxHeartbeats 1000000 in
theorem rmX8_holder_l2 {X : GX} {p : Program} {l : Launch} {e : Env} {s : State} {m : MethodId} {args : Array Value} {below : List Frame} {meth : Method} {c : Code} {r : Int32 × HpN} (C : CC X p l (RM 1 0 0) s m args meth c RX8 cX8_holder 4 (some .int)) : ∀ (d : Nat) (v0 : Nat) (v1 : Int32) (v2 : Int32) (f : AH) (n cells slots : Nat) (_ : cells + 0 ≤ 0) (_ : slots + 0 ≤ 0) (_ : mX8_holder_l2 d v0 v1 v2 f n = some r), AW X p l e (RM 1 0 0) s m args below meth c 4 (ZM X below args s 0 0 (QHi r)) f n cells slots 2 [some (.ref v0), some (.int v1), some (.int v2), none] [] := by
  intro d
  induction d with
  | zero =>
    intro v0 v1 v2 f n cells slots hc hs h
    exact nomatch (show (none : Option (Int32 × HpN)) = some r from h)
  | succ d ih =>
    intro v0 v1 v2 f n cells slots hc hs h
    have h : ((gR f v0 8 5).bind fun x1 => ((x1).bind fun j2 => rCk (isO f j2 1) (((mX1_size j2 f n).bind fun r4 => (if r4.1 ≤ v2 then some ((-1 : Int32), (r4.2.1, r4.2.2)) else ((gR r4.2.1 v0 8 5).bind fun x6 => ((x6).bind fun j7 => rCk (isO r4.2.1 j7 1) (((mX1_get j7 v2 r4.2.1 r4.2.2).bind fun r9 => ((some r9.1).bind fun x11 => (oN x11 (mX8_holder_b44 (fun v0 v1 v2 f n => mX8_holder_l2 d v0 v1 v2 f n) v0 v1 v2 r9.2.1 r9.2.2) (fun j12 => ((gI r9.2.1 j12 3 0).bind fun x13 => (if v1 < x13 then mX8_holder_b44 (fun v0 v1 v2 f n => mX8_holder_l2 d v0 v1 v2 f n) v0 v1 v2 r9.2.1 r9.2.2 else ((gI r9.2.1 j12 3 1).bind fun x14 => (if x14 ≤ v1 then mX8_holder_b44 (fun v0 v1 v2 f n => mX8_holder_l2 d v0 v1 v2 f n) v0 v1 v2 r9.2.1 r9.2.2 else some (v2, (r9.2.1, r9.2.2)))))))))))))))))) = some r := h
    refine aw_iload_n C dX8_holder_2 rfl ?_
    refine aw_ald_n C dX8_holder_3 rfl ?_
    obtain ⟨x1, hx1, h⟩ := Option.bind_eq_some_iff.mp h
    refine ah_getR C gf_X8_38 hx1 dX8_holder_4 ?_
    obtain ⟨j2, hj2, h⟩ := Option.bind_eq_some_iff.mp h
    rw [hj2]
    obtain ⟨hb3, h⟩ := ck_some h
    obtain ⟨r4, hr4, h⟩ := Option.bind_eq_some_iff.mp h
    obtain ⟨fs5, hf5⟩ := isO_ex hb3
    refine aw_callV C (ci := 1) (b := j2) [] mv_X8_136 rfl rfl hf5 (rmX1_size hr4) rfl dX8_holder_7 (Nat.le_of_ble_eq_true rfl) (Nat.le_of_ble_eq_true rfl) rfl (Nat.le_of_ble_eq_true rfl) (show cells + 0 ≤ 0 by omega) (show slots + 0 ≤ 0 by omega) (fun v9 f9 n9 hh => ?_)
    obtain ⟨rfl, rfl, rfl⟩ := hh
    refine aw_icmp_ge C 50 dX8_holder_10 (by decide) (fun q => ?_) (fun q => ?_)
    · rw [if_pos q] at h
      refine aw_iconst C (-1) dX8_holder_50 ki_m1 ?_
      cases h
      exact aw_iret C rfl rfl dX8_holder_51 (by omega) (by omega) ⟨rfl, rfl, rfl⟩
    · rw [if_neg q] at h
      refine aw_ald_n C dX8_holder_13 rfl ?_
      obtain ⟨x6, hx6, h⟩ := Option.bind_eq_some_iff.mp h
      refine ah_getR C gf_X8_38 hx6 dX8_holder_14 ?_
      refine aw_iload_n C dX8_holder_17 rfl ?_
      obtain ⟨j7, hj7, h⟩ := Option.bind_eq_some_iff.mp h
      rw [hj7]
      obtain ⟨hb8, h⟩ := ck_some h
      obtain ⟨r9, hr9, h⟩ := Option.bind_eq_some_iff.mp h
      obtain ⟨fs10, hf10⟩ := isO_ex hb8
      refine aw_callV C (ci := 1) (b := j7) [.int v2] mv_X8_241 rfl rfl hf10 (rmX1_get hr9) rfl dX8_holder_18 (Nat.le_of_ble_eq_true rfl) (Nat.le_of_ble_eq_true rfl) rfl (Nat.le_of_ble_eq_true rfl) (show (cells + 0) + 0 ≤ 0 by omega) (show (slots + 0) + 0 ≤ 0 by omega) (fun v9 f9 n9 hh => ?_)
      obtain ⟨rfl, rfl, rfl⟩ := hh
      obtain ⟨x11, hx11, h⟩ := Option.bind_eq_some_iff.mp h
      rw [Option.some.inj hx11]
      refine aw_astore_n C dX8_holder_21 (by decide) rfl (rf_or x11) ?_
      refine aw_nl [some (.ref v0), some (.int v1), some (.int v2), some (va_rf x11)] rfl ?_
      refine aw_aload_n C dX8_holder_22 rfl (rf_or x11) ?_
      cases x11 with
      | none =>
        replace h : mX8_holder_b44 (fun v0 v1 v2 f n => mX8_holder_l2 d v0 v1 v2 f n) v0 v1 v2 r9.2.1 r9.2.2 = some r := h
        refine aw_ifnull_n C 44 dX8_holder_23 (by decide) ?_
        refine aw_fl [some (.ref v0), some (.int v1), some (.int v2), none] ⟨rfl, ⟨rfl, ⟨rfl, trivial⟩⟩⟩ ?_
        exact rmX8_holder_b44 C (fun v0 v1 v2 f n cells slots hc hs h => ih v0 v1 v2 f n cells slots hc hs h) (by omega) (by omega) h
      | some j12 =>
        replace h : ((gI r9.2.1 j12 3 0).bind fun x13 => (if v1 < x13 then mX8_holder_b44 (fun v0 v1 v2 f n => mX8_holder_l2 d v0 v1 v2 f n) v0 v1 v2 r9.2.1 r9.2.2 else ((gI r9.2.1 j12 3 1).bind fun x14 => (if x14 ≤ v1 then mX8_holder_b44 (fun v0 v1 v2 f n => mX8_holder_l2 d v0 v1 v2 f n) v0 v1 v2 r9.2.1 r9.2.2 else some (v2, (r9.2.1, r9.2.2)))))) = some r := h
        refine aw_ifnull_r C 44 dX8_holder_23 (by decide) ?_
        refine aw_iload_n C dX8_holder_26 rfl ?_
        refine aw_ald_n C dX8_holder_27 rfl ?_
        obtain ⟨x13, hx13, h⟩ := Option.bind_eq_some_iff.mp h
        refine ah_getI C gf_X8_179 hx13 dX8_holder_28 ?_
        refine aw_icmp_lt C 44 dX8_holder_31 (by decide) (fun q => ?_) (fun q => ?_)
        · rw [if_pos q] at h
          refine aw_fl [some (.ref v0), some (.int v1), some (.int v2), none] ⟨rfl, ⟨rfl, ⟨rfl, trivial⟩⟩⟩ ?_
          exact rmX8_holder_b44 C (fun v0 v1 v2 f n cells slots hc hs h => ih v0 v1 v2 f n cells slots hc hs h) (by omega) (by omega) h
        · rw [if_neg q] at h
          refine aw_iload_n C dX8_holder_34 rfl ?_
          refine aw_ald_n C dX8_holder_35 rfl ?_
          obtain ⟨x14, hx14, h⟩ := Option.bind_eq_some_iff.mp h
          refine ah_getI C gf_X8_184 hx14 dX8_holder_36 ?_
          refine aw_icmp_ge C 44 dX8_holder_39 (by decide) (fun q => ?_) (fun q => ?_)
          · rw [if_pos q] at h
            refine aw_fl [some (.ref v0), some (.int v1), some (.int v2), none] ⟨rfl, ⟨rfl, ⟨rfl, trivial⟩⟩⟩ ?_
            exact rmX8_holder_b44 C (fun v0 v1 v2 f n cells slots hc hs h => ih v0 v1 v2 f n cells slots hc hs h) (by omega) (by omega) h
          · rw [if_neg q] at h
            refine aw_iload_n C dX8_holder_42 rfl ?_
            cases h
            exact aw_iret C rfl rfl dX8_holder_43 (by omega) (by omega) ⟨rfl, rfl, rfl⟩
def mX8_holder (v0 : Nat) (v1 : Int32) (f : AH) (n : Nat) : Option (Int32 × HpN) := mX8_holder_l2 rFU v0 v1 (0 : Int32) f n
set_option maxHeartbeats 1000000 in
theorem rmX8_holder {X : GX} {l : Launch} {r : Int32 × HpN} {v0 : Nat} {v1 : Int32} {f : AH} {n : Nat} (h : mX8_holder v0 v1 f n = some r) : AM X l yX8_holder cX8_holder 4 (some .int) 1 0 0 [.ref v0, .int v1] f n (QHi r) := by
  have h : mX8_holder_l2 rFU v0 v1 (0 : Int32) f n = some r := h
  refine AM.of (by decide +kernel) rfl (Nat.le_of_ble_eq_true rfl) (fun p e s m args below meth c C hnm => ?_)
  refine aw_nl [some (.ref v0), some (.int v1), none, none] rfl ?_
  refine aw_iconst C 0 dX8_holder_0 ki_0 ?_
  refine aw_istore_n C dX8_holder_1 (by decide) rfl ?_
  refine aw_nl [some (.ref v0), some (.int v1), some (.int (0 : Int32)), none] rfl ?_
  refine aw_fl [some (.ref v0), some (.int v1), some (.int (0 : Int32)), none] ⟨rfl, ⟨rfl, ⟨rfl, trivial⟩⟩⟩ ?_
  exact rmX8_holder_l2 C rFU v0 v1 (0 : Int32) f n _ _ (by omega) (by omega) h
def mX8_at_b29 (s0 : Int32) (f : AH) (n : Nat) : Option (Int32 × HpN) := some (s0, (f, n))
set_option maxHeartbeats 1000000 in
theorem rmX8_at_b29 {X : GX} {p : Program} {l : Launch} {e : Env} {s : State} {m : MethodId} {args : Array Value} {below : List Frame} {meth : Method} {c : Code} {r : Int32 × HpN} {s0 : Int32} {f : AH} {n cells slots : Nat} (C : CC X p l (RM 1 0 0) s m args meth c RX8 cX8_at 3 (some .int)) (hc : cells + 0 ≤ 0) (hs : slots + 0 ≤ 0) (h : mX8_at_b29 s0 f n = some r) : AW X p l e (RM 1 0 0) s m args below meth c 3 (ZM X below args s 0 0 (QHi r)) f n cells slots 29 [none, none, none] [.int s0] := by
  have h : some (s0, (f, n)) = some r := h
  cases h
  exact aw_iret C rfl rfl dX8_at_29 (by omega) (by omega) ⟨rfl, rfl, rfl⟩
def mX8_at (v0 : Nat) (v1 : Int32) (v2 : Int32) (f : AH) (n : Nat) : Option (Int32 × HpN) := (if v2 = (0 : Int32) then ((gR f v0 8 1).bind fun x1 => ((x1).bind fun j2 => ((gR f j2 7 0).bind fun x3 => ((x3).bind fun j4 => rCk (isO f j4 5) (((mX5_get j4 v1 f n).bind fun r6 => mX8_at_b29 r6.1 r6.2.1 r6.2.2)))))) else ((gR f v0 8 7).bind fun x8 => ((x8).bind fun j9 => ((gR f j9 0 0).bind fun x10 => ((x10).bind fun j11 => rCk (isO f j11 5) (((mX5_get j11 v1 f n).bind fun r13 => mX8_at_b29 r13.1 r13.2.1 r13.2.2)))))))
set_option maxHeartbeats 1000000 in
theorem rmX8_at {X : GX} {l : Launch} {r : Int32 × HpN} {v0 : Nat} {v1 : Int32} {v2 : Int32} {f : AH} {n : Nat} (h : mX8_at v0 v1 v2 f n = some r) : AM X l yX8_at cX8_at 3 (some .int) 1 0 0 [.ref v0, .int v1, .int v2] f n (QHi r) := by
  have h : (if v2 = (0 : Int32) then ((gR f v0 8 1).bind fun x1 => ((x1).bind fun j2 => ((gR f j2 7 0).bind fun x3 => ((x3).bind fun j4 => rCk (isO f j4 5) (((mX5_get j4 v1 f n).bind fun r6 => mX8_at_b29 r6.1 r6.2.1 r6.2.2)))))) else ((gR f v0 8 7).bind fun x8 => ((x8).bind fun j9 => ((gR f j9 0 0).bind fun x10 => ((x10).bind fun j11 => rCk (isO f j11 5) (((mX5_get j11 v1 f n).bind fun r13 => mX8_at_b29 r13.1 r13.2.1 r13.2.2))))))) = some r := h
  refine AM.of (by decide +kernel) rfl (Nat.le_of_ble_eq_true rfl) (fun p e s m args below meth c C hnm => ?_)
  refine aw_nl [some (.ref v0), some (.int v1), some (.int v2)] rfl ?_
  refine aw_iload_n C dX8_at_0 rfl ?_
  refine aw_if_eq C 18 dX8_at_1 (by decide) (fun q => ?_) (fun q => ?_)
  · rw [if_pos q] at h
    refine aw_ald_n C dX8_at_18 rfl ?_
    obtain ⟨x1, hx1, h⟩ := Option.bind_eq_some_iff.mp h
    refine ah_getR C gf_X8_21 hx1 dX8_at_19 ?_
    obtain ⟨j2, hj2, h⟩ := Option.bind_eq_some_iff.mp h
    rw [hj2]
    obtain ⟨x3, hx3, h⟩ := Option.bind_eq_some_iff.mp h
    refine ah_getR C gf_X8_130 hx3 dX8_at_22 ?_
    refine aw_iload_n C dX8_at_25 rfl ?_
    obtain ⟨j4, hj4, h⟩ := Option.bind_eq_some_iff.mp h
    rw [hj4]
    obtain ⟨hb5, h⟩ := ck_some h
    obtain ⟨r6, hr6, h⟩ := Option.bind_eq_some_iff.mp h
    obtain ⟨fs7, hf7⟩ := isO_ex hb5
    refine aw_callV C (ci := 5) (b := j4) [.int v1] mv_X8_227 rfl rfl hf7 (rmX5_get hr6) rfl dX8_at_26 (Nat.le_of_ble_eq_true rfl) (Nat.le_of_ble_eq_true rfl) rfl (Nat.le_of_ble_eq_true rfl) (show 0 + 0 ≤ 0 by omega) (show 0 + 0 ≤ 0 by omega) (fun v9 f9 n9 hh => ?_)
    obtain ⟨rfl, rfl, rfl⟩ := hh
    refine aw_fl [none, none, none] trivial ?_
    exact rmX8_at_b29 C (by omega) (by omega) h
  · rw [if_neg q] at h
    refine aw_ald_n C dX8_at_4 rfl ?_
    obtain ⟨x8, hx8, h⟩ := Option.bind_eq_some_iff.mp h
    refine ah_getR C gf_X8_48 hx8 dX8_at_5 ?_
    obtain ⟨j9, hj9, h⟩ := Option.bind_eq_some_iff.mp h
    rw [hj9]
    obtain ⟨x10, hx10, h⟩ := Option.bind_eq_some_iff.mp h
    refine ah_getR C gf_X8_160 hx10 dX8_at_8 ?_
    refine aw_iload_n C dX8_at_11 rfl ?_
    obtain ⟨j11, hj11, h⟩ := Option.bind_eq_some_iff.mp h
    rw [hj11]
    obtain ⟨hb12, h⟩ := ck_some h
    obtain ⟨r13, hr13, h⟩ := Option.bind_eq_some_iff.mp h
    obtain ⟨fs14, hf14⟩ := isO_ex hb12
    refine aw_callV C (ci := 5) (b := j11) [.int v1] mv_X8_227 rfl rfl hf14 (rmX5_get hr13) rfl dX8_at_12 (Nat.le_of_ble_eq_true rfl) (Nat.le_of_ble_eq_true rfl) rfl (Nat.le_of_ble_eq_true rfl) (show 0 + 0 ≤ 0 by omega) (show 0 + 0 ≤ 0 by omega) (fun v9 f9 n9 hh => ?_)
    obtain ⟨rfl, rfl, rfl⟩ := hh
    refine aw_goto C 29 dX8_at_15 (by decide) ?_
    refine aw_fl [none, none, none] trivial ?_
    exact rmX8_at_b29 C (by omega) (by omega) h
def mX8_memory_b85 (s0 : Int32) (f : AH) (n : Nat) : Option (Int32 × HpN) := some (s0, (f, n))
set_option maxHeartbeats 1000000 in
theorem rmX8_memory_b85 {X : GX} {p : Program} {l : Launch} {e : Env} {s : State} {m : MethodId} {args : Array Value} {below : List Frame} {meth : Method} {c : Code} {r : Int32 × HpN} {s0 : Int32} {f : AH} {n cells slots : Nat} (C : CC X p l (RM 1 0 0) s m args meth c RX8 cX8_memory 6 (some .int)) (hc : cells + 0 ≤ 0) (hs : slots + 0 ≤ 0) (h : mX8_memory_b85 s0 f n = some r) : AW X p l e (RM 1 0 0) s m args below meth c 6 (ZM X below args s 0 0 (QHi r)) f n cells slots 85 [none, none, none, none, none, none] [.int s0] := by
  have h : some (s0, (f, n)) = some r := h
  cases h
  exact aw_iret C rfl rfl dX8_memory_85 (by omega) (by omega) ⟨rfl, rfl, rfl⟩
def mX8_memory_b53 (v2 : Int32) (v3 : Int32) (v4 : Option Nat) (f : AH) (n : Nat) : Option (Int32 × HpN) := (oN v4 (some ((-1 : Int32), (f, n))) (fun j1 => (if v2 = (0 : Int32) then ((gR f j1 2 0).bind fun x2 => ((x2).bind fun j3 => rCk (isO f j3 5) (((mX5_get j3 v3 f n).bind fun r5 => mX8_memory_b85 r5.1 r5.2.1 r5.2.2)))) else ((gR f j1 2 1).bind fun x7 => ((x7).bind fun j8 => rCk (isO f j8 5) (((mX5_get j8 v3 f n).bind fun r10 => mX8_memory_b85 r10.1 r10.2.1 r10.2.2)))))))
set_option maxHeartbeats 1000000 in
theorem rmX8_memory_b53 {X : GX} {p : Program} {l : Launch} {e : Env} {s : State} {m : MethodId} {args : Array Value} {below : List Frame} {meth : Method} {c : Code} {r : Int32 × HpN} {v2 : Int32} {v3 : Int32} {v4 : Option Nat} {f : AH} {n cells slots : Nat} (C : CC X p l (RM 1 0 0) s m args meth c RX8 cX8_memory 6 (some .int)) (hc : cells + 0 ≤ 0) (hs : slots + 0 ≤ 0) (h : mX8_memory_b53 v2 v3 v4 f n = some r) : AW X p l e (RM 1 0 0) s m args below meth c 6 (ZM X below args s 0 0 (QHi r)) f n cells slots 53 [none, none, some (.int v2), some (.int v3), some (va_rf v4), none] [] := by
  have h : (oN v4 (some ((-1 : Int32), (f, n))) (fun j1 => (if v2 = (0 : Int32) then ((gR f j1 2 0).bind fun x2 => ((x2).bind fun j3 => rCk (isO f j3 5) (((mX5_get j3 v3 f n).bind fun r5 => mX8_memory_b85 r5.1 r5.2.1 r5.2.2)))) else ((gR f j1 2 1).bind fun x7 => ((x7).bind fun j8 => rCk (isO f j8 5) (((mX5_get j8 v3 f n).bind fun r10 => mX8_memory_b85 r10.1 r10.2.1 r10.2.2))))))) = some r := h
  refine aw_aload C dX8_memory_53 rfl (rf_or v4) ?_
  cases v4 with
  | none =>
    replace h : some ((-1 : Int32), (f, n)) = some r := h
    refine aw_ifnonnull_n C 60 dX8_memory_55 (by decide) ?_
    refine aw_iconst C (-1) dX8_memory_58 ki_m1 ?_
    cases h
    exact aw_iret C rfl rfl dX8_memory_59 (by omega) (by omega) ⟨rfl, rfl, rfl⟩
  | some j1 =>
    replace h : (if v2 = (0 : Int32) then ((gR f j1 2 0).bind fun x2 => ((x2).bind fun j3 => rCk (isO f j3 5) (((mX5_get j3 v3 f n).bind fun r5 => mX8_memory_b85 r5.1 r5.2.1 r5.2.2)))) else ((gR f j1 2 1).bind fun x7 => ((x7).bind fun j8 => rCk (isO f j8 5) (((mX5_get j8 v3 f n).bind fun r10 => mX8_memory_b85 r10.1 r10.2.1 r10.2.2))))) = some r := h
    refine aw_ifnonnull_r C 60 dX8_memory_55 (by decide) ?_
    refine aw_iload_n C dX8_memory_60 rfl ?_
    refine aw_if_eq C 76 dX8_memory_61 (by decide) (fun q => ?_) (fun q => ?_)
    · rw [if_pos q] at h
      refine aw_ald C dX8_memory_76 rfl ?_
      obtain ⟨x2, hx2, h⟩ := Option.bind_eq_some_iff.mp h
      refine ah_getR C gf_X8_273 hx2 dX8_memory_78 ?_
      refine aw_iload_n C dX8_memory_81 rfl ?_
      obtain ⟨j3, hj3, h⟩ := Option.bind_eq_some_iff.mp h
      rw [hj3]
      obtain ⟨hb4, h⟩ := ck_some h
      obtain ⟨r5, hr5, h⟩ := Option.bind_eq_some_iff.mp h
      obtain ⟨fs6, hf6⟩ := isO_ex hb4
      refine aw_callV C (ci := 5) (b := j3) [.int v3] mv_X8_227 rfl rfl hf6 (rmX5_get hr5) rfl dX8_memory_82 (Nat.le_of_ble_eq_true rfl) (Nat.le_of_ble_eq_true rfl) rfl (Nat.le_of_ble_eq_true rfl) (show cells + 0 ≤ 0 by omega) (show slots + 0 ≤ 0 by omega) (fun v9 f9 n9 hh => ?_)
      obtain ⟨rfl, rfl, rfl⟩ := hh
      refine aw_fl [none, none, none, none, none, none] trivial ?_
      exact rmX8_memory_b85 C (by omega) (by omega) h
    · rw [if_neg q] at h
      refine aw_ald C dX8_memory_64 rfl ?_
      obtain ⟨x7, hx7, h⟩ := Option.bind_eq_some_iff.mp h
      refine ah_getR C gf_X8_270 hx7 dX8_memory_66 ?_
      refine aw_iload_n C dX8_memory_69 rfl ?_
      obtain ⟨j8, hj8, h⟩ := Option.bind_eq_some_iff.mp h
      rw [hj8]
      obtain ⟨hb9, h⟩ := ck_some h
      obtain ⟨r10, hr10, h⟩ := Option.bind_eq_some_iff.mp h
      obtain ⟨fs11, hf11⟩ := isO_ex hb9
      refine aw_callV C (ci := 5) (b := j8) [.int v3] mv_X8_227 rfl rfl hf11 (rmX5_get hr10) rfl dX8_memory_70 (Nat.le_of_ble_eq_true rfl) (Nat.le_of_ble_eq_true rfl) rfl (Nat.le_of_ble_eq_true rfl) (show cells + 0 ≤ 0 by omega) (show slots + 0 ≤ 0 by omega) (fun v9 f9 n9 hh => ?_)
      obtain ⟨rfl, rfl, rfl⟩ := hh
      refine aw_goto C 85 dX8_memory_73 (by decide) ?_
      refine aw_fl [none, none, none, none, none, none] trivial ?_
      exact rmX8_memory_b85 C (by omega) (by omega) h
def mX8_memory_l29 : Nat → Int32 → Int32 → Int32 → (Option Nat) → Int32 → AH → Nat → Option (Int32 × HpN)
  | 0, _, _, _, _, _, _, _ => none
  | d + 1, v1, v2, v3, v4, v5, f, n => (if v1 ≤ v5 then mX8_memory_b53 v2 v3 v4 f n else (oN v4 (mX8_memory_b53 v2 v3 (none : Option Nat) f n) (fun j1 => ((gR f j1 2 2).bind fun x2 => mX8_memory_l29 d v1 v2 v3 x2 (v5 + (1 : Int32)) f n))))
set_option maxHeartbeats 1000000 in
theorem rmX8_memory_l29 {X : GX} {p : Program} {l : Launch} {e : Env} {s : State} {m : MethodId} {args : Array Value} {below : List Frame} {meth : Method} {c : Code} {r : Int32 × HpN} (C : CC X p l (RM 1 0 0) s m args meth c RX8 cX8_memory 6 (some .int)) : ∀ (d : Nat) (v1 : Int32) (v2 : Int32) (v3 : Int32) (v4 : Option Nat) (v5 : Int32) (f : AH) (n cells slots : Nat) (_ : cells + 0 ≤ 0) (_ : slots + 0 ≤ 0) (_ : mX8_memory_l29 d v1 v2 v3 v4 v5 f n = some r), AW X p l e (RM 1 0 0) s m args below meth c 6 (ZM X below args s 0 0 (QHi r)) f n cells slots 29 [none, some (.int v1), some (.int v2), some (.int v3), some (va_rf v4), some (.int v5)] [] := by
  intro d
  induction d with
  | zero =>
    intro v1 v2 v3 v4 v5 f n cells slots hc hs h
    exact nomatch (show (none : Option (Int32 × HpN)) = some r from h)
  | succ d ih =>
    intro v1 v2 v3 v4 v5 f n cells slots hc hs h
    have h : (if v1 ≤ v5 then mX8_memory_b53 v2 v3 v4 f n else (oN v4 (mX8_memory_b53 v2 v3 (none : Option Nat) f n) (fun j1 => ((gR f j1 2 2).bind fun x2 => mX8_memory_l29 d v1 v2 v3 x2 (v5 + (1 : Int32)) f n)))) = some r := h
    refine aw_iload C dX8_memory_29 rfl ?_
    refine aw_iload_n C dX8_memory_31 rfl ?_
    refine aw_icmp_ge C 53 dX8_memory_32 (by decide) (fun q => ?_) (fun q => ?_)
    · rw [if_pos q] at h
      refine aw_fl [none, none, some (.int v2), some (.int v3), some (va_rf v4), none] ⟨rfl, ⟨rfl, ⟨rfl, trivial⟩⟩⟩ ?_
      exact rmX8_memory_b53 C (by omega) (by omega) h
    · rw [if_neg q] at h
      refine aw_aload C dX8_memory_35 rfl (rf_or v4) ?_
      cases v4 with
      | none =>
        replace h : mX8_memory_b53 v2 v3 (none : Option Nat) f n = some r := h
        refine aw_ifnull_n C 53 dX8_memory_37 (by decide) ?_
        refine aw_fl [none, none, some (.int v2), some (.int v3), some (va_rf (none : Option Nat)), none] ⟨rfl, ⟨rfl, ⟨rfl, trivial⟩⟩⟩ ?_
        exact rmX8_memory_b53 C (by omega) (by omega) h
      | some j1 =>
        replace h : ((gR f j1 2 2).bind fun x2 => mX8_memory_l29 d v1 v2 v3 x2 (v5 + (1 : Int32)) f n) = some r := h
        refine aw_ifnull_r C 53 dX8_memory_37 (by decide) ?_
        refine aw_ald C dX8_memory_40 rfl ?_
        obtain ⟨x2, hx2, h⟩ := Option.bind_eq_some_iff.mp h
        refine ah_getR C gf_X8_265 hx2 dX8_memory_42 ?_
        refine aw_astore C dX8_memory_45 (by decide) rfl (rf_or x2) ?_
        refine aw_nl [none, some (.int v1), some (.int v2), some (.int v3), some (va_rf x2), some (.int v5)] rfl ?_
        refine aw_iinc C (v5 + (1 : Int32)) dX8_memory_47 rfl (by rw [ki_1]) (by decide) (ok_rf 4 rfl) ?_
        refine aw_nl [none, some (.int v1), some (.int v2), some (.int v3), some (va_rf x2), some (.int (v5 + (1 : Int32)))] rfl ?_
        refine aw_goto C 29 dX8_memory_50 (by decide) ?_
        refine aw_fl [none, some (.int v1), some (.int v2), some (.int v3), some (va_rf x2), some (.int (v5 + (1 : Int32)))] ⟨rfl, ⟨rfl, ⟨rfl, ⟨rfl, ⟨rfl, trivial⟩⟩⟩⟩⟩ ?_
        exact ih v1 v2 v3 x2 (v5 + (1 : Int32)) f n _ _ (by omega) (by omega) h
def mX8_memory_b15 (f : AH) (n : Nat) : Option (Int32 × HpN) := some ((-1 : Int32), (f, n))
set_option maxHeartbeats 1000000 in
theorem rmX8_memory_b15 {X : GX} {p : Program} {l : Launch} {e : Env} {s : State} {m : MethodId} {args : Array Value} {below : List Frame} {meth : Method} {c : Code} {r : Int32 × HpN} {f : AH} {n cells slots : Nat} (C : CC X p l (RM 1 0 0) s m args meth c RX8 cX8_memory 6 (some .int)) (hc : cells + 0 ≤ 0) (hs : slots + 0 ≤ 0) (h : mX8_memory_b15 f n = some r) : AW X p l e (RM 1 0 0) s m args below meth c 6 (ZM X below args s 0 0 (QHi r)) f n cells slots 15 [none, none, none, none, none, none] [] := by
  have h : some ((-1 : Int32), (f, n)) = some r := h
  refine aw_iconst C (-1) dX8_memory_15 ki_m1 ?_
  cases h
  exact aw_iret C rfl rfl dX8_memory_16 (by omega) (by omega) ⟨rfl, rfl, rfl⟩
def mX8_memory (v0 : Nat) (v1 : Int32) (v2 : Int32) (v3 : Int32) (f : AH) (n : Nat) : Option (Int32 × HpN) := (if v1 < (0 : Int32) then mX8_memory_b15 f n else ((gR f v0 8 1).bind fun x1 => ((x1).bind fun j2 => ((gI f j2 7 7).bind fun x3 => (if v1 < x3 then ((gR f v0 8 1).bind fun x4 => ((x4).bind fun j5 => ((gR f j5 7 6).bind fun x6 => mX8_memory_l29 rFU v1 v2 v3 x6 (0 : Int32) f n))) else mX8_memory_b15 f n)))))
set_option maxHeartbeats 1000000 in
theorem rmX8_memory {X : GX} {l : Launch} {r : Int32 × HpN} {v0 : Nat} {v1 : Int32} {v2 : Int32} {v3 : Int32} {f : AH} {n : Nat} (h : mX8_memory v0 v1 v2 v3 f n = some r) : AM X l yX8_memory cX8_memory 6 (some .int) 1 0 0 [.ref v0, .int v1, .int v2, .int v3] f n (QHi r) := by
  have h : (if v1 < (0 : Int32) then mX8_memory_b15 f n else ((gR f v0 8 1).bind fun x1 => ((x1).bind fun j2 => ((gI f j2 7 7).bind fun x3 => (if v1 < x3 then ((gR f v0 8 1).bind fun x4 => ((x4).bind fun j5 => ((gR f j5 7 6).bind fun x6 => mX8_memory_l29 rFU v1 v2 v3 x6 (0 : Int32) f n))) else mX8_memory_b15 f n))))) = some r := h
  refine AM.of (by decide +kernel) rfl (Nat.le_of_ble_eq_true rfl) (fun p e s m args below meth c C hnm => ?_)
  refine aw_nl [some (.ref v0), some (.int v1), some (.int v2), some (.int v3), none, none] rfl ?_
  refine aw_iload_n C dX8_memory_0 rfl ?_
  refine aw_if_lt C 15 dX8_memory_1 (by decide) (fun q => ?_) (fun q => ?_)
  · rw [if_pos q] at h
    refine aw_fl [none, none, none, none, none, none] trivial ?_
    exact rmX8_memory_b15 C (by omega) (by omega) h
  · rw [if_neg q] at h
    refine aw_iload_n C dX8_memory_4 rfl ?_
    refine aw_ald_n C dX8_memory_5 rfl ?_
    obtain ⟨x1, hx1, h⟩ := Option.bind_eq_some_iff.mp h
    refine ah_getR C gf_X8_21 hx1 dX8_memory_6 ?_
    obtain ⟨j2, hj2, h⟩ := Option.bind_eq_some_iff.mp h
    rw [hj2]
    obtain ⟨x3, hx3, h⟩ := Option.bind_eq_some_iff.mp h
    refine ah_getI C gf_X8_258 hx3 dX8_memory_9 ?_
    refine aw_icmp_lt C 17 dX8_memory_12 (by decide) (fun q => ?_) (fun q => ?_)
    · rw [if_pos q] at h
      refine aw_ald_n C dX8_memory_17 rfl ?_
      obtain ⟨x4, hx4, h⟩ := Option.bind_eq_some_iff.mp h
      refine ah_getR C gf_X8_21 hx4 dX8_memory_18 ?_
      obtain ⟨j5, hj5, h⟩ := Option.bind_eq_some_iff.mp h
      rw [hj5]
      obtain ⟨x6, hx6, h⟩ := Option.bind_eq_some_iff.mp h
      refine ah_getR C gf_X8_261 hx6 dX8_memory_21 ?_
      refine aw_astore C dX8_memory_24 (by decide) rfl (rf_or x6) ?_
      refine aw_nl [some (.ref v0), some (.int v1), some (.int v2), some (.int v3), some (va_rf x6), none] rfl ?_
      refine aw_iconst C 0 dX8_memory_26 ki_0 ?_
      refine aw_istore C dX8_memory_27 (by decide) (ok_rf 4 rfl) ?_
      refine aw_nl [some (.ref v0), some (.int v1), some (.int v2), some (.int v3), some (va_rf x6), some (.int (0 : Int32))] rfl ?_
      refine aw_fl [none, some (.int v1), some (.int v2), some (.int v3), some (va_rf x6), some (.int (0 : Int32))] ⟨rfl, ⟨rfl, ⟨rfl, ⟨rfl, ⟨rfl, trivial⟩⟩⟩⟩⟩ ?_
      exact rmX8_memory_l29 C rFU v1 v2 v3 x6 (0 : Int32) f n _ _ (by omega) (by omega) h
    · rw [if_neg q] at h
      refine aw_fl [none, none, none, none, none, none] trivial ?_
      exact rmX8_memory_b15 C (by omega) (by omega) h
def mX8_cutAgain_b30 (f : AH) (n : Nat) : Option (Int32 × HpN) := some ((0 : Int32), (f, n))
set_option maxHeartbeats 1000000 in
theorem rmX8_cutAgain_b30 {X : GX} {p : Program} {l : Launch} {e : Env} {s : State} {m : MethodId} {args : Array Value} {below : List Frame} {meth : Method} {c : Code} {r : Int32 × HpN} {f : AH} {n cells slots : Nat} (C : CC X p l (RM 5 0 0) s m args meth c RX8 cX8_cutAgain 1 none) (hc : cells + 0 ≤ 0) (hs : slots + 0 ≤ 0) (h : mX8_cutAgain_b30 f n = some r) : AW X p l e (RM 5 0 0) s m args below meth c 1 (ZM X below args s 0 0 (QHv r)) f n cells slots 30 [none] [] := by
  have h : some ((0 : Int32), (f, n)) = some r := h
  cases h
  exact aw_vret C rfl dX8_cutAgain_30 (by omega) (by omega) ⟨rfl, rfl, rfl⟩
def mX8_cutAgain (v0 : Nat) (f : AH) (n : Nat) : Option (Int32 × HpN) := ((gI f v0 8 10).bind fun x1 => (if x1 = (0 : Int32) then ((gR f v0 8 6).bind fun x2 => ((gR f v0 8 7).bind fun x3 => ((x3).bind fun j4 => ((gR f j4 0 0).bind fun x5 => ((gR f v0 8 1).bind fun x6 => ((x2).bind fun j7 => rCk (isO f j7 1) (((mX1_find j7 x5 x6 f n).bind fun r9 => rCk (rNb (1 : Int32)) (((pO r9.2.1 v0 8 10 (.int (1 : Int32))).bind fun f12 => mX8_cutAgain_b30 f12 r9.2.2)))))))))) else mX8_cutAgain_b30 f n))
set_option maxHeartbeats 1000000 in
theorem rmX8_cutAgain {X : GX} {l : Launch} {r : Int32 × HpN} {v0 : Nat} {f : AH} {n : Nat} (h : mX8_cutAgain v0 f n = some r) : AM X l yX8_cutAgain cX8_cutAgain 1 none 5 0 0 [.ref v0] f n (QHv r) := by
  have h : ((gI f v0 8 10).bind fun x1 => (if x1 = (0 : Int32) then ((gR f v0 8 6).bind fun x2 => ((gR f v0 8 7).bind fun x3 => ((x3).bind fun j4 => ((gR f j4 0 0).bind fun x5 => ((gR f v0 8 1).bind fun x6 => ((x2).bind fun j7 => rCk (isO f j7 1) (((mX1_find j7 x5 x6 f n).bind fun r9 => rCk (rNb (1 : Int32)) (((pO r9.2.1 v0 8 10 (.int (1 : Int32))).bind fun f12 => mX8_cutAgain_b30 f12 r9.2.2)))))))))) else mX8_cutAgain_b30 f n)) = some r := h
  refine AM.of (by decide +kernel) rfl (Nat.le_of_ble_eq_true rfl) (fun p e s m args below meth c C hnm => ?_)
  refine aw_nl [some (.ref v0)] rfl ?_
  refine aw_ald_n C dX8_cutAgain_0 rfl ?_
  obtain ⟨x1, hx1, h⟩ := Option.bind_eq_some_iff.mp h
  refine ah_getI C gf_X8_334 hx1 dX8_cutAgain_1 ?_
  refine aw_if_ne C 30 dX8_cutAgain_4 (by decide) (fun q => ?_) (fun q => ?_)
  · rw [if_neg q] at h
    refine aw_fl [none] trivial ?_
    exact rmX8_cutAgain_b30 C (by omega) (by omega) h
  · rw [if_pos q] at h
    refine aw_ald_n C dX8_cutAgain_7 rfl ?_
    obtain ⟨x2, hx2, h⟩ := Option.bind_eq_some_iff.mp h
    refine ah_getR C gf_X8_42 hx2 dX8_cutAgain_8 ?_
    refine aw_ald_n C dX8_cutAgain_11 rfl ?_
    obtain ⟨x3, hx3, h⟩ := Option.bind_eq_some_iff.mp h
    refine ah_getR C gf_X8_48 hx3 dX8_cutAgain_12 ?_
    obtain ⟨j4, hj4, h⟩ := Option.bind_eq_some_iff.mp h
    rw [hj4]
    obtain ⟨x5, hx5, h⟩ := Option.bind_eq_some_iff.mp h
    refine ah_getR C gf_X8_160 hx5 dX8_cutAgain_15 ?_
    refine aw_ald_n C dX8_cutAgain_18 rfl ?_
    obtain ⟨x6, hx6, h⟩ := Option.bind_eq_some_iff.mp h
    refine ah_getR C gf_X8_21 hx6 dX8_cutAgain_19 ?_
    obtain ⟨j7, hj7, h⟩ := Option.bind_eq_some_iff.mp h
    rw [hj7]
    obtain ⟨hb8, h⟩ := ck_some h
    obtain ⟨r9, hr9, h⟩ := Option.bind_eq_some_iff.mp h
    obtain ⟨fs10, hf10⟩ := isO_ex hb8
    refine aw_callV C (ci := 1) (b := j7) [va_rf x5, va_rf x6] mv_X8_361 rfl rfl hf10 (rmX1_find hr9) rfl dX8_cutAgain_22 (Nat.le_of_ble_eq_true rfl) (Nat.le_of_ble_eq_true rfl) rfl (Nat.le_of_ble_eq_true rfl) (show 0 + 0 ≤ 0 by omega) (show 0 + 0 ≤ 0 by omega) (fun v9 f9 n9 hh => ?_)
    obtain ⟨rfl, rfl, rfl⟩ := hh
    refine aw_ald_n C dX8_cutAgain_25 rfl ?_
    refine aw_iconst C 1 dX8_cutAgain_26 ki_1 ?_
    obtain ⟨hb11, h⟩ := ck_some h
    obtain ⟨f12, hf12, h⟩ := Option.bind_eq_some_iff.mp h
    refine ah_put C gf_X8_334 cf8 nf8_10 (nb_nar hb11) (nb_fit hb11) hf12 dX8_cutAgain_27 ?_
    refine aw_fl [none] trivial ?_
    exact rmX8_cutAgain_b30 C (by omega) (by omega) h
def mX8_isNow_b106 (s0 : Int32) (f : AH) (n : Nat) : Option (Int32 × HpN) := rCk (rNb s0) (some (s0, (f, n)))
set_option maxHeartbeats 1000000 in
theorem rmX8_isNow_b106 {X : GX} {p : Program} {l : Launch} {e : Env} {s : State} {m : MethodId} {args : Array Value} {below : List Frame} {meth : Method} {c : Code} {r : Int32 × HpN} {s0 : Int32} {f : AH} {n cells slots : Nat} (C : CC X p l (RM 2 0 0) s m args meth c RX8 cX8_isNow 5 (some .boolean)) (hc : cells + 0 ≤ 0) (hs : slots + 0 ≤ 0) (h : mX8_isNow_b106 s0 f n = some r) : AW X p l e (RM 2 0 0) s m args below meth c 5 (ZM X below args s 0 0 (QHi r)) f n cells slots 106 [none, none, none, none, none] [.int s0] := by
  have h : rCk (rNb s0) (some (s0, (f, n))) = some r := h
  obtain ⟨hb1, h⟩ := ck_some h
  cases h
  exact aw_iret C rfl (nb_nar hb1) dX8_isNow_106 (by omega) (by omega) ⟨rfl, rfl, rfl⟩
def mX8_isNow_b105 (f : AH) (n : Nat) : Option (Int32 × HpN) := mX8_isNow_b106 (0 : Int32) f n
set_option maxHeartbeats 1000000 in
theorem rmX8_isNow_b105 {X : GX} {p : Program} {l : Launch} {e : Env} {s : State} {m : MethodId} {args : Array Value} {below : List Frame} {meth : Method} {c : Code} {r : Int32 × HpN} {f : AH} {n cells slots : Nat} (C : CC X p l (RM 2 0 0) s m args meth c RX8 cX8_isNow 5 (some .boolean)) (hc : cells + 0 ≤ 0) (hs : slots + 0 ≤ 0) (h : mX8_isNow_b105 f n = some r) : AW X p l e (RM 2 0 0) s m args below meth c 5 (ZM X below args s 0 0 (QHi r)) f n cells slots 105 [none, none, none, none, none] [] := by
  have h : mX8_isNow_b106 (0 : Int32) f n = some r := h
  refine aw_iconst C 0 dX8_isNow_105 ki_0 ?_
  refine aw_fl [none, none, none, none, none] trivial ?_
  exact rmX8_isNow_b106 C (by omega) (by omega) h
def mX8_isNow_b63 (s0 : Int32) (f : AH) (n : Nat) : Option (Int32 × HpN) := rCk (rNb s0) (some (s0, (f, n)))
set_option maxHeartbeats 1000000 in
theorem rmX8_isNow_b63 {X : GX} {p : Program} {l : Launch} {e : Env} {s : State} {m : MethodId} {args : Array Value} {below : List Frame} {meth : Method} {c : Code} {r : Int32 × HpN} {s0 : Int32} {f : AH} {n cells slots : Nat} (C : CC X p l (RM 2 0 0) s m args meth c RX8 cX8_isNow 5 (some .boolean)) (hc : cells + 0 ≤ 0) (hs : slots + 0 ≤ 0) (h : mX8_isNow_b63 s0 f n = some r) : AW X p l e (RM 2 0 0) s m args below meth c 5 (ZM X below args s 0 0 (QHi r)) f n cells slots 63 [none, none, none, none, none] [.int s0] := by
  have h : rCk (rNb s0) (some (s0, (f, n))) = some r := h
  obtain ⟨hb1, h⟩ := ck_some h
  cases h
  exact aw_iret C rfl (nb_nar hb1) dX8_isNow_63 (by omega) (by omega) ⟨rfl, rfl, rfl⟩
def mX8_isNow_b62 (f : AH) (n : Nat) : Option (Int32 × HpN) := mX8_isNow_b63 (0 : Int32) f n
set_option maxHeartbeats 1000000 in
theorem rmX8_isNow_b62 {X : GX} {p : Program} {l : Launch} {e : Env} {s : State} {m : MethodId} {args : Array Value} {below : List Frame} {meth : Method} {c : Code} {r : Int32 × HpN} {f : AH} {n cells slots : Nat} (C : CC X p l (RM 2 0 0) s m args meth c RX8 cX8_isNow 5 (some .boolean)) (hc : cells + 0 ≤ 0) (hs : slots + 0 ≤ 0) (h : mX8_isNow_b62 f n = some r) : AW X p l e (RM 2 0 0) s m args below meth c 5 (ZM X below args s 0 0 (QHi r)) f n cells slots 62 [none, none, none, none, none] [] := by
  have h : mX8_isNow_b63 (0 : Int32) f n = some r := h
  refine aw_iconst C 0 dX8_isNow_62 ki_0 ?_
  refine aw_fl [none, none, none, none, none] trivial ?_
  exact rmX8_isNow_b63 C (by omega) (by omega) h
def mX8_isNow (v0 : Nat) (v1 : Int32) (v2 : Option Nat) (v3 : Option Nat) (f : AH) (n : Nat) : Option (Int32 × HpN) := ((gR f v0 8 1).bind fun x1 => ((x1).bind fun j2 => rCk (isO f j2 7) (((mX7_toldFor j2 v1 f n).bind fun r4 => ((some r4.1).bind fun x6 => (oN x6 (((v2).bind fun j8 => ((gI r4.2.1 j8 3 3).bind fun x9 => ((v3).bind fun j10 => ((gI r4.2.1 j10 3 3).bind fun x11 => (if x9 = x11 then ((gR r4.2.1 v0 8 5).bind fun x12 => ((x12).bind fun j13 => ((gR r4.2.1 j13 1 0).bind fun x14 => ((gI r4.2.1 j8 3 2).bind fun x15 => ((gR r4.2.1 v0 8 6).bind fun x16 => ((x16).bind fun j17 => ((gR r4.2.1 j17 1 0).bind fun x18 => ((gI r4.2.1 j10 3 2).bind fun x19 => ((gI r4.2.1 j8 3 3).bind fun x20 => ((x14).bind fun j21 => rCk (isO r4.2.1 j21 5) (((mX5_isSame j21 x15 x18 x19 x20 r4.2.1 r4.2.2).bind fun r23 => (if r23.1 = (0 : Int32) then mX8_isNow_b62 r23.2.1 r23.2.2 else mX8_isNow_b63 (1 : Int32) r23.2.1 r23.2.2))))))))))))) else mX8_isNow_b62 r4.2.1 r4.2.2)))))) (fun j7 => rCk (isO r4.2.1 j7 5) (((mX5_size j7 r4.2.1 r4.2.2).bind fun r26 => ((v3).bind fun j28 => ((gI r26.2.1 j28 3 3).bind fun x29 => (if r26.1 = x29 then ((gR r26.2.1 v0 8 6).bind fun x30 => ((x30).bind fun j31 => ((gR r26.2.1 j31 1 0).bind fun x32 => ((gI r26.2.1 j28 3 2).bind fun x33 => rCk (isO r26.2.1 j7 5) (((mX5_size j7 r26.2.1 r26.2.2).bind fun r35 => rCk (isO r35.2.1 j7 5) (((mX5_isSame j7 (0 : Int32) x32 x33 r35.1 r35.2.1 r35.2.2).bind fun r38 => (if r38.1 = (0 : Int32) then mX8_isNow_b105 r38.2.1 r38.2.2 else mX8_isNow_b106 (1 : Int32) r38.2.1 r38.2.2))))))))) else mX8_isNow_b105 r26.2.1 r26.2.2))))))))))))
set_option maxHeartbeats 1000000 in
theorem rmX8_isNow {X : GX} {l : Launch} {r : Int32 × HpN} {v0 : Nat} {v1 : Int32} {v2 : Option Nat} {v3 : Option Nat} {f : AH} {n : Nat} (h : mX8_isNow v0 v1 v2 v3 f n = some r) : AM X l yX8_isNow cX8_isNow 5 (some .boolean) 2 0 0 [.ref v0, .int v1, va_rf v2, va_rf v3] f n (QHi r) := by
  have h : ((gR f v0 8 1).bind fun x1 => ((x1).bind fun j2 => rCk (isO f j2 7) (((mX7_toldFor j2 v1 f n).bind fun r4 => ((some r4.1).bind fun x6 => (oN x6 (((v2).bind fun j8 => ((gI r4.2.1 j8 3 3).bind fun x9 => ((v3).bind fun j10 => ((gI r4.2.1 j10 3 3).bind fun x11 => (if x9 = x11 then ((gR r4.2.1 v0 8 5).bind fun x12 => ((x12).bind fun j13 => ((gR r4.2.1 j13 1 0).bind fun x14 => ((gI r4.2.1 j8 3 2).bind fun x15 => ((gR r4.2.1 v0 8 6).bind fun x16 => ((x16).bind fun j17 => ((gR r4.2.1 j17 1 0).bind fun x18 => ((gI r4.2.1 j10 3 2).bind fun x19 => ((gI r4.2.1 j8 3 3).bind fun x20 => ((x14).bind fun j21 => rCk (isO r4.2.1 j21 5) (((mX5_isSame j21 x15 x18 x19 x20 r4.2.1 r4.2.2).bind fun r23 => (if r23.1 = (0 : Int32) then mX8_isNow_b62 r23.2.1 r23.2.2 else mX8_isNow_b63 (1 : Int32) r23.2.1 r23.2.2))))))))))))) else mX8_isNow_b62 r4.2.1 r4.2.2)))))) (fun j7 => rCk (isO r4.2.1 j7 5) (((mX5_size j7 r4.2.1 r4.2.2).bind fun r26 => ((v3).bind fun j28 => ((gI r26.2.1 j28 3 3).bind fun x29 => (if r26.1 = x29 then ((gR r26.2.1 v0 8 6).bind fun x30 => ((x30).bind fun j31 => ((gR r26.2.1 j31 1 0).bind fun x32 => ((gI r26.2.1 j28 3 2).bind fun x33 => rCk (isO r26.2.1 j7 5) (((mX5_size j7 r26.2.1 r26.2.2).bind fun r35 => rCk (isO r35.2.1 j7 5) (((mX5_isSame j7 (0 : Int32) x32 x33 r35.1 r35.2.1 r35.2.2).bind fun r38 => (if r38.1 = (0 : Int32) then mX8_isNow_b105 r38.2.1 r38.2.2 else mX8_isNow_b106 (1 : Int32) r38.2.1 r38.2.2))))))))) else mX8_isNow_b105 r26.2.1 r26.2.2)))))))))))) = some r := h
  refine AM.of (by decide +kernel) (all1 rfl (all1 rfl (all1 (rf_cat _) (all1 (rf_cat _) rfl)))) (Nat.le_of_ble_eq_true rfl) (fun p e s m args below meth c C hnm => ?_)
  refine aw_nl [some (.ref v0), some (.int v1), some (va_rf v2), some (va_rf v3), none] rfl ?_
  refine aw_ald_n C dX8_isNow_0 rfl ?_
  obtain ⟨x1, hx1, h⟩ := Option.bind_eq_some_iff.mp h
  refine ah_getR C gf_X8_21 hx1 dX8_isNow_1 ?_
  refine aw_iload_n C dX8_isNow_4 rfl ?_
  obtain ⟨j2, hj2, h⟩ := Option.bind_eq_some_iff.mp h
  rw [hj2]
  obtain ⟨hb3, h⟩ := ck_some h
  obtain ⟨r4, hr4, h⟩ := Option.bind_eq_some_iff.mp h
  obtain ⟨fs5, hf5⟩ := isO_ex hb3
  refine aw_callV C (ci := 7) (b := j2) [.int v1] mv_X8_194 rfl rfl hf5 (rmX7_toldFor hr4) rfl dX8_isNow_5 (Nat.le_of_ble_eq_true rfl) (Nat.le_of_ble_eq_true rfl) rfl (Nat.le_of_ble_eq_true rfl) (show 0 + 0 ≤ 0 by omega) (show 0 + 0 ≤ 0 by omega) (fun v9 f9 n9 hh => ?_)
  obtain ⟨rfl, rfl, rfl⟩ := hh
  obtain ⟨x6, hx6, h⟩ := Option.bind_eq_some_iff.mp h
  rw [Option.some.inj hx6]
  refine aw_astore C dX8_isNow_8 (by decide) (ok_rf 3 rfl) (rf_or x6) ?_
  refine aw_nl [some (.ref v0), some (.int v1), some (va_rf v2), some (va_rf v3), some (va_rf x6)] rfl ?_
  refine aw_aload C dX8_isNow_10 rfl (rf_or x6) ?_
  cases x6 with
  | none =>
    replace h : ((v2).bind fun j8 => ((gI r4.2.1 j8 3 3).bind fun x9 => ((v3).bind fun j10 => ((gI r4.2.1 j10 3 3).bind fun x11 => (if x9 = x11 then ((gR r4.2.1 v0 8 5).bind fun x12 => ((x12).bind fun j13 => ((gR r4.2.1 j13 1 0).bind fun x14 => ((gI r4.2.1 j8 3 2).bind fun x15 => ((gR r4.2.1 v0 8 6).bind fun x16 => ((x16).bind fun j17 => ((gR r4.2.1 j17 1 0).bind fun x18 => ((gI r4.2.1 j10 3 2).bind fun x19 => ((gI r4.2.1 j8 3 3).bind fun x20 => ((x14).bind fun j21 => rCk (isO r4.2.1 j21 5) (((mX5_isSame j21 x15 x18 x19 x20 r4.2.1 r4.2.2).bind fun r23 => (if r23.1 = (0 : Int32) then mX8_isNow_b62 r23.2.1 r23.2.2 else mX8_isNow_b63 (1 : Int32) r23.2.1 r23.2.2))))))))))))) else mX8_isNow_b62 r4.2.1 r4.2.2))))) = some r := h
    refine aw_ifnonnull_n C 64 dX8_isNow_12 (by decide) ?_
    refine aw_aload_n C dX8_isNow_15 rfl (rf_or v2) ?_
    obtain ⟨j8, hj8, h⟩ := Option.bind_eq_some_iff.mp h
    rw [hj8]
    obtain ⟨x9, hx9, h⟩ := Option.bind_eq_some_iff.mp h
    refine ah_getI C gf_X8_187 hx9 dX8_isNow_16 ?_
    refine aw_aload_n C dX8_isNow_19 rfl (rf_or v3) ?_
    obtain ⟨j10, hj10, h⟩ := Option.bind_eq_some_iff.mp h
    rw [hj10]
    obtain ⟨x11, hx11, h⟩ := Option.bind_eq_some_iff.mp h
    refine ah_getI C gf_X8_187 hx11 dX8_isNow_20 ?_
    refine aw_icmp_ne C 62 dX8_isNow_23 (by decide) (fun q => ?_) (fun q => ?_)
    · rw [if_neg q] at h
      refine aw_fl [none, none, none, none, none] trivial ?_
      exact rmX8_isNow_b62 C (by omega) (by omega) h
    · rw [if_pos q] at h
      refine aw_ald_n C dX8_isNow_26 rfl ?_
      obtain ⟨x12, hx12, h⟩ := Option.bind_eq_some_iff.mp h
      refine ah_getR C gf_X8_38 hx12 dX8_isNow_27 ?_
      obtain ⟨j13, hj13, h⟩ := Option.bind_eq_some_iff.mp h
      rw [hj13]
      obtain ⟨x14, hx14, h⟩ := Option.bind_eq_some_iff.mp h
      refine ah_getR C gf_X8_373 hx14 dX8_isNow_30 ?_
      refine aw_ald_n C dX8_isNow_33 rfl ?_
      obtain ⟨x15, hx15, h⟩ := Option.bind_eq_some_iff.mp h
      refine ah_getI C gf_X8_224 hx15 dX8_isNow_34 ?_
      refine aw_ald_n C dX8_isNow_37 rfl ?_
      obtain ⟨x16, hx16, h⟩ := Option.bind_eq_some_iff.mp h
      refine ah_getR C gf_X8_42 hx16 dX8_isNow_38 ?_
      obtain ⟨j17, hj17, h⟩ := Option.bind_eq_some_iff.mp h
      rw [hj17]
      obtain ⟨x18, hx18, h⟩ := Option.bind_eq_some_iff.mp h
      refine ah_getR C gf_X8_373 hx18 dX8_isNow_41 ?_
      refine aw_ald_n C dX8_isNow_44 rfl ?_
      obtain ⟨x19, hx19, h⟩ := Option.bind_eq_some_iff.mp h
      refine ah_getI C gf_X8_224 hx19 dX8_isNow_45 ?_
      refine aw_ald_n C dX8_isNow_48 rfl ?_
      obtain ⟨x20, hx20, h⟩ := Option.bind_eq_some_iff.mp h
      refine ah_getI C gf_X8_187 hx20 dX8_isNow_49 ?_
      obtain ⟨j21, hj21, h⟩ := Option.bind_eq_some_iff.mp h
      rw [hj21]
      obtain ⟨hb22, h⟩ := ck_some h
      obtain ⟨r23, hr23, h⟩ := Option.bind_eq_some_iff.mp h
      obtain ⟨fs24, hf24⟩ := isO_ex hb22
      refine aw_callV C (ci := 5) (b := j21) [.int x15, va_rf x18, .int x19, .int x20] mv_X8_382 rfl rfl hf24 (rmX5_isSame hr23) rfl dX8_isNow_52 (Nat.le_of_ble_eq_true rfl) (Nat.le_of_ble_eq_true rfl) rfl (Nat.le_of_ble_eq_true rfl) (show (0 + 0) + 0 ≤ 0 by omega) (show (0 + 0) + 0 ≤ 0 by omega) (fun v9 f9 n9 hh => ?_)
      obtain ⟨rfl, rfl, rfl⟩ := hh
      refine aw_if_eq C 62 dX8_isNow_55 (by decide) (fun q => ?_) (fun q => ?_)
      · rw [if_pos q] at h
        refine aw_fl [none, none, none, none, none] trivial ?_
        exact rmX8_isNow_b62 C (by omega) (by omega) h
      · rw [if_neg q] at h
        refine aw_iconst C 1 dX8_isNow_58 ki_1 ?_
        refine aw_goto C 63 dX8_isNow_59 (by decide) ?_
        refine aw_fl [none, none, none, none, none] trivial ?_
        exact rmX8_isNow_b63 C (by omega) (by omega) h
  | some j7 =>
    replace h : rCk (isO r4.2.1 j7 5) (((mX5_size j7 r4.2.1 r4.2.2).bind fun r26 => ((v3).bind fun j28 => ((gI r26.2.1 j28 3 3).bind fun x29 => (if r26.1 = x29 then ((gR r26.2.1 v0 8 6).bind fun x30 => ((x30).bind fun j31 => ((gR r26.2.1 j31 1 0).bind fun x32 => ((gI r26.2.1 j28 3 2).bind fun x33 => rCk (isO r26.2.1 j7 5) (((mX5_size j7 r26.2.1 r26.2.2).bind fun r35 => rCk (isO r35.2.1 j7 5) (((mX5_isSame j7 (0 : Int32) x32 x33 r35.1 r35.2.1 r35.2.2).bind fun r38 => (if r38.1 = (0 : Int32) then mX8_isNow_b105 r38.2.1 r38.2.2 else mX8_isNow_b106 (1 : Int32) r38.2.1 r38.2.2))))))))) else mX8_isNow_b105 r26.2.1 r26.2.2))))) = some r := h
    refine aw_ifnonnull_r C 64 dX8_isNow_12 (by decide) ?_
    refine aw_ald C dX8_isNow_64 rfl ?_
    obtain ⟨hb25, h⟩ := ck_some h
    obtain ⟨r26, hr26, h⟩ := Option.bind_eq_some_iff.mp h
    obtain ⟨fs27, hf27⟩ := isO_ex hb25
    refine aw_callV C (ci := 5) (b := j7) [] mv_X8_63 rfl rfl hf27 (rmX5_size hr26) rfl dX8_isNow_66 (Nat.le_of_ble_eq_true rfl) (Nat.le_of_ble_eq_true rfl) rfl (Nat.le_of_ble_eq_true rfl) (show (0 + 0) + 0 ≤ 0 by omega) (show (0 + 0) + 0 ≤ 0 by omega) (fun v9 f9 n9 hh => ?_)
    obtain ⟨rfl, rfl, rfl⟩ := hh
    refine aw_aload_n C dX8_isNow_69 rfl (rf_or v3) ?_
    obtain ⟨j28, hj28, h⟩ := Option.bind_eq_some_iff.mp h
    rw [hj28]
    obtain ⟨x29, hx29, h⟩ := Option.bind_eq_some_iff.mp h
    refine ah_getI C gf_X8_187 hx29 dX8_isNow_70 ?_
    refine aw_icmp_ne C 105 dX8_isNow_73 (by decide) (fun q => ?_) (fun q => ?_)
    · rw [if_neg q] at h
      refine aw_fl [none, none, none, none, none] trivial ?_
      exact rmX8_isNow_b105 C (by omega) (by omega) h
    · rw [if_pos q] at h
      refine aw_ald C dX8_isNow_76 rfl ?_
      refine aw_iconst C 0 dX8_isNow_78 ki_0 ?_
      refine aw_ald_n C dX8_isNow_79 rfl ?_
      obtain ⟨x30, hx30, h⟩ := Option.bind_eq_some_iff.mp h
      refine ah_getR C gf_X8_42 hx30 dX8_isNow_80 ?_
      obtain ⟨j31, hj31, h⟩ := Option.bind_eq_some_iff.mp h
      rw [hj31]
      obtain ⟨x32, hx32, h⟩ := Option.bind_eq_some_iff.mp h
      refine ah_getR C gf_X8_373 hx32 dX8_isNow_83 ?_
      refine aw_ald_n C dX8_isNow_86 rfl ?_
      obtain ⟨x33, hx33, h⟩ := Option.bind_eq_some_iff.mp h
      refine ah_getI C gf_X8_224 hx33 dX8_isNow_87 ?_
      refine aw_ald C dX8_isNow_90 rfl ?_
      obtain ⟨hb34, h⟩ := ck_some h
      obtain ⟨r35, hr35, h⟩ := Option.bind_eq_some_iff.mp h
      obtain ⟨fs36, hf36⟩ := isO_ex hb34
      refine aw_callV C (ci := 5) (b := j7) [] mv_X8_63 rfl rfl hf36 (rmX5_size hr35) rfl dX8_isNow_92 (Nat.le_of_ble_eq_true rfl) (Nat.le_of_ble_eq_true rfl) rfl (cs_1 rfl (cs_1 (rf_cat _) (cs_1 rfl (cs_1 rfl cs_0)))) (show ((0 + 0) + 0) + 0 ≤ 0 by omega) (show ((0 + 0) + 0) + 0 ≤ 0 by omega) (fun v9 f9 n9 hh => ?_)
      obtain ⟨rfl, rfl, rfl⟩ := hh
      obtain ⟨hb37, h⟩ := ck_some h
      obtain ⟨r38, hr38, h⟩ := Option.bind_eq_some_iff.mp h
      obtain ⟨fs39, hf39⟩ := isO_ex hb37
      refine aw_callV C (ci := 5) (b := j7) [.int (0 : Int32), va_rf x32, .int x33, .int r35.1] mv_X8_382 rfl rfl hf39 (rmX5_isSame hr38) rfl dX8_isNow_95 (Nat.le_of_ble_eq_true rfl) (Nat.le_of_ble_eq_true rfl) rfl (Nat.le_of_ble_eq_true rfl) (show (((0 + 0) + 0) + 0) + 0 ≤ 0 by omega) (show (((0 + 0) + 0) + 0) + 0 ≤ 0 by omega) (fun v9 f9 n9 hh => ?_)
      obtain ⟨rfl, rfl, rfl⟩ := hh
      refine aw_if_eq C 105 dX8_isNow_98 (by decide) (fun q => ?_) (fun q => ?_)
      · rw [if_pos q] at h
        refine aw_fl [none, none, none, none, none] trivial ?_
        exact rmX8_isNow_b105 C (by omega) (by omega) h
      · rw [if_neg q] at h
        refine aw_iconst C 1 dX8_isNow_101 ki_1 ?_
        refine aw_goto C 106 dX8_isNow_102 (by decide) ?_
        refine aw_fl [none, none, none, none, none] trivial ?_
        exact rmX8_isNow_b106 C (by omega) (by omega) h
