def mX8_lock (v0 : Nat) (f : AH) (n : Nat) : Option ((Int32 ⊕ String) × HpN) := rCk (isO f v0 8) (((mX8_takeWord v0 f n).bind fun r2 => ((some r2.1).bind fun x4 => (oN x4 (some (.inr eA, (r2.2.1, r2.2.2))) (fun j5 => ((gR r2.2.1 v0 8 2).bind fun x6 => ((gR r2.2.1 v0 8 1).bind fun x7 => ((x6).bind fun j8 => rCk (isO r2.2.1 j8 7) (((mX7_copyFrom j8 x7 r2.2.1 r2.2.2).bind fun r10 => rCk (isO r10.2.1 v0 8) (((mX8_doAct v0 (6 : Int32) (0 : Int32) (0 : Int32) (some j5) r10.2.1 r10.2.2).bind fun r13 => rCk (isO r13.2.1 v0 8) (((mX8_finishCall v0 r13.1 r13.2.1 r13.2.2).bind fun r16 => (tS r16.1 r16.2 (fun y16 => ((gR r16.2.1 v0 8 5).bind fun x18 => ((x18).bind fun j19 => rCk (isO r16.2.1 j19 1) (((mX1_size j19 r16.2.1 r16.2.2).bind fun r21 => some (.inl r21.1, (r21.2.1, r21.2.2))))))))))))))))))))))
set_option maxHeartbeats 1000000 in
theorem rmX8_lock {X : GX} {l : Launch} {r : (Int32 ⊕ String) × HpN} {v0 : Nat} {f : AH} {n : Nat} (hl0 : l.stackTraces = false) (h : mX8_lock v0 f n = some r) : AX X l yX8_lock cX8_lock 2 (some .int) 7 7 140 [.ref v0] f n (QTr (QHi) r) (QTx r) := by
  have h : rCk (isO f v0 8) (((mX8_takeWord v0 f n).bind fun r2 => ((some r2.1).bind fun x4 => (oN x4 (some (.inr eA, (r2.2.1, r2.2.2))) (fun j5 => ((gR r2.2.1 v0 8 2).bind fun x6 => ((gR r2.2.1 v0 8 1).bind fun x7 => ((x6).bind fun j8 => rCk (isO r2.2.1 j8 7) (((mX7_copyFrom j8 x7 r2.2.1 r2.2.2).bind fun r10 => rCk (isO r10.2.1 v0 8) (((mX8_doAct v0 (6 : Int32) (0 : Int32) (0 : Int32) (some j5) r10.2.1 r10.2.2).bind fun r13 => rCk (isO r13.2.1 v0 8) (((mX8_finishCall v0 r13.1 r13.2.1 r13.2.2).bind fun r16 => (tS r16.1 r16.2 (fun y16 => ((gR r16.2.1 v0 8 5).bind fun x18 => ((x18).bind fun j19 => rCk (isO r16.2.1 j19 1) (((mX1_size j19 r16.2.1 r16.2.2).bind fun r21 => some (.inl r21.1, (r21.2.1, r21.2.2)))))))))))))))))))))) = some r := h
  refine AX.of (by decide +kernel) rfl (Nat.le_of_ble_eq_true rfl) (fun p e s m args below meth c C htab => ?_)
  refine aw_nl [some (.ref v0), none] rfl ?_
  refine aw_ald_n C dX8_lock_0 rfl ?_
  obtain ⟨hb1, h⟩ := ck_some h
  obtain ⟨r2, hr2, h⟩ := Option.bind_eq_some_iff.mp h
  obtain ⟨fs3, hf3⟩ := isO_ex hb1
  refine aw_callV C (ci := 8) (b := v0) [] mv_X8_149 rfl rfl hf3 (rmX8_takeWord hr2) rfl dX8_lock_1 (Nat.le_of_ble_eq_true rfl) (Nat.le_of_ble_eq_true rfl) rfl (Nat.le_of_ble_eq_true rfl) (show 0 + 2 ≤ 7 by omega) (show 0 + 10 ≤ 140 by omega) (fun v9 f9 n9 hh => ?_)
  obtain ⟨rfl, rfl, rfl⟩ := hh
  obtain ⟨x4, hx4, h⟩ := Option.bind_eq_some_iff.mp h
  rw [Option.some.inj hx4]
  refine aw_astore_n C dX8_lock_4 (by decide) rfl (rf_or x4) ?_
  refine aw_nl [some (.ref v0), some (va_rf x4)] rfl ?_
  refine aw_aload_n C dX8_lock_5 rfl (rf_or x4) ?_
  cases x4 with
  | none =>
    replace h : some (.inr eA, (r2.2.1, r2.2.2)) = some r := h
    refine aw_ifnonnull_n C 19 dX8_lock_6 (by decide) ?_
    cases h
    exact ax_throw C htab hl0 th_eA sx_153 dX8_lock_9 dX8_lock_12 dX8_lock_13 dX8_lock_15 dX8_lock_18 (Nat.le_of_ble_eq_true rfl) (Nat.le_of_ble_eq_true rfl) (show (0 + 2) + 1 ≤ 7 by omega) (show (0 + 10) + 6 ≤ 140 by omega) (by omega) (by omega) (fun n9 h9 => ⟨rfl, rfl, h9⟩)
  | some j5 =>
    replace h : ((gR r2.2.1 v0 8 2).bind fun x6 => ((gR r2.2.1 v0 8 1).bind fun x7 => ((x6).bind fun j8 => rCk (isO r2.2.1 j8 7) (((mX7_copyFrom j8 x7 r2.2.1 r2.2.2).bind fun r10 => rCk (isO r10.2.1 v0 8) (((mX8_doAct v0 (6 : Int32) (0 : Int32) (0 : Int32) (some j5) r10.2.1 r10.2.2).bind fun r13 => rCk (isO r13.2.1 v0 8) (((mX8_finishCall v0 r13.1 r13.2.1 r13.2.2).bind fun r16 => (tS r16.1 r16.2 (fun y16 => ((gR r16.2.1 v0 8 5).bind fun x18 => ((x18).bind fun j19 => rCk (isO r16.2.1 j19 1) (((mX1_size j19 r16.2.1 r16.2.2).bind fun r21 => some (.inl r21.1, (r21.2.1, r21.2.2))))))))))))))))) = some r := h
    refine aw_ifnonnull_r C 19 dX8_lock_6 (by decide) ?_
    refine aw_ald_n C dX8_lock_19 rfl ?_
    obtain ⟨x6, hx6, h⟩ := Option.bind_eq_some_iff.mp h
    refine ah_getR C gf_X8_25 hx6 dX8_lock_20 ?_
    refine aw_ald_n C dX8_lock_23 rfl ?_
    obtain ⟨x7, hx7, h⟩ := Option.bind_eq_some_iff.mp h
    refine ah_getR C gf_X8_21 hx7 dX8_lock_24 ?_
    obtain ⟨j8, hj8, h⟩ := Option.bind_eq_some_iff.mp h
    rw [hj8]
    obtain ⟨hb9, h⟩ := ck_some h
    obtain ⟨r10, hr10, h⟩ := Option.bind_eq_some_iff.mp h
    obtain ⟨fs11, hf11⟩ := isO_ex hb9
    refine aw_callV C (ci := 7) (b := j8) [va_rf x7] mv_X8_73 rfl rfl hf11 (rmX7_copyFrom hr10) rfl dX8_lock_27 (Nat.le_of_ble_eq_true rfl) (Nat.le_of_ble_eq_true rfl) rfl (Nat.le_of_ble_eq_true rfl) (show (0 + 2) + 0 ≤ 7 by omega) (show (0 + 10) + 0 ≤ 140 by omega) (fun v9 f9 n9 hh => ?_)
    obtain ⟨rfl, rfl, rfl⟩ := hh
    refine aw_ald_n C dX8_lock_30 rfl ?_
    refine aw_ald_n C dX8_lock_31 rfl ?_
    refine aw_bipush C 6 dX8_lock_32 kb_6 ?_
    refine aw_iconst C 0 dX8_lock_34 ki_0 ?_
    refine aw_iconst C 0 dX8_lock_35 ki_0 ?_
    refine aw_ald_n C dX8_lock_36 rfl ?_
    obtain ⟨hb12, h⟩ := ck_some h
    obtain ⟨r13, hr13, h⟩ := Option.bind_eq_some_iff.mp h
    obtain ⟨fs14, hf14⟩ := isO_ex hb12
    refine aw_callV C (ci := 8) (b := v0) [.int (6 : Int32), .int (0 : Int32), .int (0 : Int32), .ref j5] mv_X8_103 rfl rfl hf14 (rmX8_doAct hr13) rfl dX8_lock_37 (Nat.le_of_ble_eq_true rfl) (Nat.le_of_ble_eq_true rfl) rfl (Nat.le_of_ble_eq_true rfl) (show ((0 + 2) + 0) + 4 ≤ 7 by omega) (show ((0 + 10) + 0) + 124 ≤ 140 by omega) (fun v9 f9 n9 hh => ?_)
    obtain ⟨rfl, rfl, rfl⟩ := hh
    obtain ⟨hb15, h⟩ := ck_some h
    obtain ⟨r16, hr16, h⟩ := Option.bind_eq_some_iff.mp h
    obtain ⟨fs17, hf17⟩ := isO_ex hb15
    refine ax_callV C (ci := 8) (b := v0) [.int r13.1] mv_X8_139 rfl rfl hf17 (rmX8_finishCall hl0 hr16) rfl dX8_lock_40 (Nat.le_of_ble_eq_true rfl) (Nat.le_of_ble_eq_true rfl) rfl (Nat.le_of_ble_eq_true rfl) (show (((0 + 2) + 0) + 4) + 1 ≤ 7 by omega) (show (((0 + 10) + 0) + 124) + 6 ≤ 140 by omega) (fun E9 f9 n9 hq => ?_) (fun v9 f9 n9 hq => ?_)
    · obtain ⟨e1, e2, e3⟩ := hq
      rw [tS_r e1] at h
      cases h
      exact at_out C htab ⟨rfl, e2, e3⟩ (by omega) (by omega)
    obtain ⟨y16, e16, rfl, rfl, rfl⟩ := hq
    rw [tS_l e16] at h
    replace h : ((gR r16.2.1 v0 8 5).bind fun x18 => ((x18).bind fun j19 => rCk (isO r16.2.1 j19 1) (((mX1_size j19 r16.2.1 r16.2.2).bind fun r21 => some (.inl r21.1, (r21.2.1, r21.2.2)))))) = some r := h
    refine aw_ald_n C dX8_lock_43 rfl ?_
    obtain ⟨x18, hx18, h⟩ := Option.bind_eq_some_iff.mp h
    refine ah_getR C gf_X8_38 hx18 dX8_lock_44 ?_
    obtain ⟨j19, hj19, h⟩ := Option.bind_eq_some_iff.mp h
    rw [hj19]
    obtain ⟨hb20, h⟩ := ck_some h
    obtain ⟨r21, hr21, h⟩ := Option.bind_eq_some_iff.mp h
    obtain ⟨fs22, hf22⟩ := isO_ex hb20
    refine aw_callV C (ci := 1) (b := j19) [] mv_X8_136 rfl rfl hf22 (rmX1_size hr21) rfl dX8_lock_47 (Nat.le_of_ble_eq_true rfl) (Nat.le_of_ble_eq_true rfl) rfl (Nat.le_of_ble_eq_true rfl) (show ((((0 + 2) + 0) + 4) + 1) + 0 ≤ 7 by omega) (show ((((0 + 10) + 0) + 124) + 6) + 0 ≤ 140 by omega) (fun v9 f9 n9 hh => ?_)
    obtain ⟨rfl, rfl, rfl⟩ := hh
    cases h
    exact ax_of (aw_iret C rfl rfl dX8_lock_50 (by omega) (by omega) ⟨_, rfl, rfl, rfl, rfl⟩)
def mX8_takeTold_b31 (v0 : Nat) (s0 : Option Nat) (f : AH) (n : Nat) : Option (Option Nat × HpN) := ((gR f v0 8 0).bind fun x1 => ((x1).bind fun j2 => rCk (isO f j2 5) (((mX5_cutTo j2 (0 : Int32) f n).bind fun r4 => some (s0, (r4.2.1, r4.2.2))))))
set_option maxHeartbeats 1000000 in
theorem rmX8_takeTold_b31 {X : GX} {p : Program} {l : Launch} {e : Env} {s : State} {m : MethodId} {args : Array Value} {below : List Frame} {meth : Method} {c : Code} {r : Option Nat × HpN} {v0 : Nat} {s0 : Option Nat} {f : AH} {n cells slots : Nat} (C : CC X p l (RM 3 2 62) s m args meth c RX8 cX8_takeTold 2 (some (.object "PieceFiles$Row"))) (hc : cells + 0 ≤ 2) (hs : slots + 0 ≤ 62) (h : mX8_takeTold_b31 v0 s0 f n = some r) : AW X p l e (RM 3 2 62) s m args below meth c 2 (ZM X below args s 2 62 (QHr r)) f n cells slots 31 [some (.ref v0), none] [va_rf s0] := by
  have h : ((gR f v0 8 0).bind fun x1 => ((x1).bind fun j2 => rCk (isO f j2 5) (((mX5_cutTo j2 (0 : Int32) f n).bind fun r4 => some (s0, (r4.2.1, r4.2.2)))))) = some r := h
  refine aw_astore_n C dX8_takeTold_31 (by decide) rfl (rf_or s0) ?_
  refine aw_nl [some (.ref v0), some (va_rf s0)] rfl ?_
  refine aw_ald_n C dX8_takeTold_32 rfl ?_
  obtain ⟨x1, hx1, h⟩ := Option.bind_eq_some_iff.mp h
  refine ah_getR C gf_X8_14 hx1 dX8_takeTold_33 ?_
  refine aw_iconst C 0 dX8_takeTold_36 ki_0 ?_
  obtain ⟨j2, hj2, h⟩ := Option.bind_eq_some_iff.mp h
  rw [hj2]
  obtain ⟨hb3, h⟩ := ck_some h
  obtain ⟨r4, hr4, h⟩ := Option.bind_eq_some_iff.mp h
  obtain ⟨fs5, hf5⟩ := isO_ex hb3
  refine aw_callV C (ci := 5) (b := j2) [.int (0 : Int32)] mv_X8_70 rfl rfl hf5 (rmX5_cutTo hr4) rfl dX8_takeTold_37 (Nat.le_of_ble_eq_true rfl) (Nat.le_of_ble_eq_true rfl) rfl (Nat.le_of_ble_eq_true rfl) (show cells + 0 ≤ 2 by omega) (show slots + 0 ≤ 62 by omega) (fun v9 f9 n9 hh => ?_)
  obtain ⟨rfl, rfl, rfl⟩ := hh
  refine aw_aload_n C dX8_takeTold_40 rfl (rf_or s0) ?_
  cases h
  exact aw_aret C rfl (rf_or _) dX8_takeTold_41 (by omega) (by omega) ⟨rfl, rfl, rfl⟩
def mX8_takeTold (v0 : Nat) (f : AH) (n : Nat) : Option (Option Nat × HpN) := ((gR f v0 8 0).bind fun x1 => ((x1).bind fun j2 => rCk (isO f j2 5) (((mX5_size j2 f n).bind fun r4 => (if r4.1 ≤ (60 : Int32) then ((gR r4.2.1 v0 8 0).bind fun x6 => ((gR r4.2.1 v0 8 0).bind fun x7 => ((x7).bind fun j8 => rCk (isO r4.2.1 j8 5) (((mX5_size j8 r4.2.1 r4.2.2).bind fun r10 => ((x6).bind fun j12 => rCk (isO r10.2.1 j12 5) (((mX5_part 60 j12 (0 : Int32) r10.1 r10.2.1 r10.2.2).bind fun r14 => ((some r14.1).bind fun x16 => mX8_takeTold_b31 v0 x16 r14.2.1 r14.2.2))))))))) else mX8_takeTold_b31 v0 (none : Option Nat) r4.2.1 r4.2.2)))))
set_option maxHeartbeats 1000000 in
theorem rmX8_takeTold {X : GX} {l : Launch} {r : Option Nat × HpN} {v0 : Nat} {f : AH} {n : Nat} (h : mX8_takeTold v0 f n = some r) : AM X l yX8_takeTold cX8_takeTold 2 (some (.object "PieceFiles$Row")) 3 2 62 [.ref v0] f n (QHr r) := by
  have h : ((gR f v0 8 0).bind fun x1 => ((x1).bind fun j2 => rCk (isO f j2 5) (((mX5_size j2 f n).bind fun r4 => (if r4.1 ≤ (60 : Int32) then ((gR r4.2.1 v0 8 0).bind fun x6 => ((gR r4.2.1 v0 8 0).bind fun x7 => ((x7).bind fun j8 => rCk (isO r4.2.1 j8 5) (((mX5_size j8 r4.2.1 r4.2.2).bind fun r10 => ((x6).bind fun j12 => rCk (isO r10.2.1 j12 5) (((mX5_part 60 j12 (0 : Int32) r10.1 r10.2.1 r10.2.2).bind fun r14 => ((some r14.1).bind fun x16 => mX8_takeTold_b31 v0 x16 r14.2.1 r14.2.2))))))))) else mX8_takeTold_b31 v0 (none : Option Nat) r4.2.1 r4.2.2))))) = some r := h
  refine AM.of (by decide +kernel) rfl (Nat.le_of_ble_eq_true rfl) (fun p e s m args below meth c C hnm => ?_)
  refine aw_nl [some (.ref v0), none] rfl ?_
  refine aw_ald_n C dX8_takeTold_0 rfl ?_
  obtain ⟨x1, hx1, h⟩ := Option.bind_eq_some_iff.mp h
  refine ah_getR C gf_X8_14 hx1 dX8_takeTold_1 ?_
  obtain ⟨j2, hj2, h⟩ := Option.bind_eq_some_iff.mp h
  rw [hj2]
  obtain ⟨hb3, h⟩ := ck_some h
  obtain ⟨r4, hr4, h⟩ := Option.bind_eq_some_iff.mp h
  obtain ⟨fs5, hf5⟩ := isO_ex hb3
  refine aw_callV C (ci := 5) (b := j2) [] mv_X8_63 rfl rfl hf5 (rmX5_size hr4) rfl dX8_takeTold_4 (Nat.le_of_ble_eq_true rfl) (Nat.le_of_ble_eq_true rfl) rfl (Nat.le_of_ble_eq_true rfl) (show 0 + 0 ≤ 2 by omega) (show 0 + 0 ≤ 62 by omega) (fun v9 f9 n9 hh => ?_)
  obtain ⟨rfl, rfl, rfl⟩ := hh
  refine aw_bipush C 60 dX8_takeTold_7 kb_60 ?_
  refine aw_icmp_le C 16 dX8_takeTold_9 (by decide) (fun q => ?_) (fun q => ?_)
  · rw [if_pos q] at h
    refine aw_ald_n C dX8_takeTold_16 rfl ?_
    obtain ⟨x6, hx6, h⟩ := Option.bind_eq_some_iff.mp h
    refine ah_getR C gf_X8_14 hx6 dX8_takeTold_17 ?_
    refine aw_iconst C 0 dX8_takeTold_20 ki_0 ?_
    refine aw_ald_n C dX8_takeTold_21 rfl ?_
    obtain ⟨x7, hx7, h⟩ := Option.bind_eq_some_iff.mp h
    refine ah_getR C gf_X8_14 hx7 dX8_takeTold_22 ?_
    obtain ⟨j8, hj8, h⟩ := Option.bind_eq_some_iff.mp h
    rw [hj8]
    obtain ⟨hb9, h⟩ := ck_some h
    obtain ⟨r10, hr10, h⟩ := Option.bind_eq_some_iff.mp h
    obtain ⟨fs11, hf11⟩ := isO_ex hb9
    refine aw_callV C (ci := 5) (b := j8) [] mv_X8_63 rfl rfl hf11 (rmX5_size hr10) rfl dX8_takeTold_25 (Nat.le_of_ble_eq_true rfl) (Nat.le_of_ble_eq_true rfl) rfl (cs_1 rfl (cs_1 (rf_cat _) cs_0)) (show (0 + 0) + 0 ≤ 2 by omega) (show (0 + 0) + 0 ≤ 62 by omega) (fun v9 f9 n9 hh => ?_)
    obtain ⟨rfl, rfl, rfl⟩ := hh
    obtain ⟨j12, hj12, h⟩ := Option.bind_eq_some_iff.mp h
    rw [hj12]
    obtain ⟨hb13, h⟩ := ck_some h
    obtain ⟨r14, hr14, h⟩ := Option.bind_eq_some_iff.mp h
    obtain ⟨fs15, hf15⟩ := isO_ex hb13
    refine aw_callV C (ci := 5) (b := j12) [.int (0 : Int32), .int r10.1] mv_X8_126 rfl rfl hf15 (rmX5_part hr14) rfl dX8_takeTold_28 (Nat.le_of_ble_eq_true rfl) (Nat.le_of_ble_eq_true rfl) rfl (Nat.le_of_ble_eq_true rfl) (show ((0 + 0) + 0) + 2 ≤ 2 by omega) (show ((0 + 0) + 0) + (2 + 60) ≤ 62 by omega) (fun v9 f9 n9 hh => ?_)
    obtain ⟨rfl, rfl, rfl⟩ := hh
    obtain ⟨x16, hx16, h⟩ := Option.bind_eq_some_iff.mp h
    rw [Option.some.inj hx16]
    refine aw_fl [some (.ref v0), none] ⟨rfl, trivial⟩ ?_
    exact rmX8_takeTold_b31 C (by omega) (by omega) h
  · rw [if_neg q] at h
    refine aw_null C dX8_takeTold_12 ?_
    refine aw_goto C 31 dX8_takeTold_13 (by decide) ?_
    refine aw_fl [some (.ref v0), none] ⟨rfl, trivial⟩ ?_
    exact rmX8_takeTold_b31 C (by omega) (by omega) h
def mX8_tell (v0 : Nat) (v1 : Int32) (f : AH) (n : Nat) : Option ((Int32 ⊕ String) × HpN) := rCk (isO f v0 8) (((mX8_takeTold v0 f n).bind fun r2 => ((some r2.1).bind fun x4 => (oN x4 (some (.inr eA, (r2.2.1, r2.2.2))) (fun j5 => ((gR r2.2.1 v0 8 2).bind fun x6 => ((gR r2.2.1 v0 8 1).bind fun x7 => ((x6).bind fun j8 => rCk (isO r2.2.1 j8 7) (((mX7_copyFrom j8 x7 r2.2.1 r2.2.2).bind fun r10 => rCk (isO r10.2.1 v0 8) (((mX8_doAct v0 (12 : Int32) v1 (0 : Int32) (some j5) r10.2.1 r10.2.2).bind fun r13 => rCk (isO r13.2.1 v0 8) (((mX8_finishCall v0 r13.1 r13.2.1 r13.2.2).bind fun r16 => (tS r16.1 r16.2 (fun y16 => ((gR r16.2.1 v0 8 7).bind fun x18 => ((x18).bind fun j19 => ((gR r16.2.1 j19 0 0).bind fun x20 => ((x20).bind fun j21 => rCk (isO r16.2.1 j21 5) (((mX5_size j21 r16.2.1 r16.2.2).bind fun r23 => some (.inl r23.1, (r23.2.1, r23.2.2))))))))))))))))))))))))
set_option maxHeartbeats 1000000 in
theorem rmX8_tell {X : GX} {l : Launch} {r : (Int32 ⊕ String) × HpN} {v0 : Nat} {v1 : Int32} {f : AH} {n : Nat} (hl0 : l.stackTraces = false) (h : mX8_tell v0 v1 f n = some r) : AX X l yX8_tell cX8_tell 3 (some .int) 7 7 192 [.ref v0, .int v1] f n (QTr (QHi) r) (QTx r) := by
  have h : rCk (isO f v0 8) (((mX8_takeTold v0 f n).bind fun r2 => ((some r2.1).bind fun x4 => (oN x4 (some (.inr eA, (r2.2.1, r2.2.2))) (fun j5 => ((gR r2.2.1 v0 8 2).bind fun x6 => ((gR r2.2.1 v0 8 1).bind fun x7 => ((x6).bind fun j8 => rCk (isO r2.2.1 j8 7) (((mX7_copyFrom j8 x7 r2.2.1 r2.2.2).bind fun r10 => rCk (isO r10.2.1 v0 8) (((mX8_doAct v0 (12 : Int32) v1 (0 : Int32) (some j5) r10.2.1 r10.2.2).bind fun r13 => rCk (isO r13.2.1 v0 8) (((mX8_finishCall v0 r13.1 r13.2.1 r13.2.2).bind fun r16 => (tS r16.1 r16.2 (fun y16 => ((gR r16.2.1 v0 8 7).bind fun x18 => ((x18).bind fun j19 => ((gR r16.2.1 j19 0 0).bind fun x20 => ((x20).bind fun j21 => rCk (isO r16.2.1 j21 5) (((mX5_size j21 r16.2.1 r16.2.2).bind fun r23 => some (.inl r23.1, (r23.2.1, r23.2.2)))))))))))))))))))))))) = some r := h
  refine AX.of (by decide +kernel) rfl (Nat.le_of_ble_eq_true rfl) (fun p e s m args below meth c C htab => ?_)
  refine aw_nl [some (.ref v0), some (.int v1), none] rfl ?_
  refine aw_ald_n C dX8_tell_0 rfl ?_
  obtain ⟨hb1, h⟩ := ck_some h
  obtain ⟨r2, hr2, h⟩ := Option.bind_eq_some_iff.mp h
  obtain ⟨fs3, hf3⟩ := isO_ex hb1
  refine aw_callV C (ci := 8) (b := v0) [] mv_X8_155 rfl rfl hf3 (rmX8_takeTold hr2) rfl dX8_tell_1 (Nat.le_of_ble_eq_true rfl) (Nat.le_of_ble_eq_true rfl) rfl (Nat.le_of_ble_eq_true rfl) (show 0 + 2 ≤ 7 by omega) (show 0 + 62 ≤ 192 by omega) (fun v9 f9 n9 hh => ?_)
  obtain ⟨rfl, rfl, rfl⟩ := hh
  obtain ⟨x4, hx4, h⟩ := Option.bind_eq_some_iff.mp h
  rw [Option.some.inj hx4]
  refine aw_astore_n C dX8_tell_4 (by decide) rfl (rf_or x4) ?_
  refine aw_nl [some (.ref v0), some (.int v1), some (va_rf x4)] rfl ?_
  refine aw_aload_n C dX8_tell_5 rfl (rf_or x4) ?_
  cases x4 with
  | none =>
    replace h : some (.inr eA, (r2.2.1, r2.2.2)) = some r := h
    refine aw_ifnonnull_n C 19 dX8_tell_6 (by decide) ?_
    cases h
    exact ax_throw C htab hl0 th_eA sx_158 dX8_tell_9 dX8_tell_12 dX8_tell_13 dX8_tell_15 dX8_tell_18 (Nat.le_of_ble_eq_true rfl) (Nat.le_of_ble_eq_true rfl) (show (0 + 2) + 1 ≤ 7 by omega) (show (0 + 62) + 6 ≤ 192 by omega) (by omega) (by omega) (fun n9 h9 => ⟨rfl, rfl, h9⟩)
  | some j5 =>
    replace h : ((gR r2.2.1 v0 8 2).bind fun x6 => ((gR r2.2.1 v0 8 1).bind fun x7 => ((x6).bind fun j8 => rCk (isO r2.2.1 j8 7) (((mX7_copyFrom j8 x7 r2.2.1 r2.2.2).bind fun r10 => rCk (isO r10.2.1 v0 8) (((mX8_doAct v0 (12 : Int32) v1 (0 : Int32) (some j5) r10.2.1 r10.2.2).bind fun r13 => rCk (isO r13.2.1 v0 8) (((mX8_finishCall v0 r13.1 r13.2.1 r13.2.2).bind fun r16 => (tS r16.1 r16.2 (fun y16 => ((gR r16.2.1 v0 8 7).bind fun x18 => ((x18).bind fun j19 => ((gR r16.2.1 j19 0 0).bind fun x20 => ((x20).bind fun j21 => rCk (isO r16.2.1 j21 5) (((mX5_size j21 r16.2.1 r16.2.2).bind fun r23 => some (.inl r23.1, (r23.2.1, r23.2.2))))))))))))))))))) = some r := h
    refine aw_ifnonnull_r C 19 dX8_tell_6 (by decide) ?_
    refine aw_ald_n C dX8_tell_19 rfl ?_
    obtain ⟨x6, hx6, h⟩ := Option.bind_eq_some_iff.mp h
    refine ah_getR C gf_X8_25 hx6 dX8_tell_20 ?_
    refine aw_ald_n C dX8_tell_23 rfl ?_
    obtain ⟨x7, hx7, h⟩ := Option.bind_eq_some_iff.mp h
    refine ah_getR C gf_X8_21 hx7 dX8_tell_24 ?_
    obtain ⟨j8, hj8, h⟩ := Option.bind_eq_some_iff.mp h
    rw [hj8]
    obtain ⟨hb9, h⟩ := ck_some h
    obtain ⟨r10, hr10, h⟩ := Option.bind_eq_some_iff.mp h
    obtain ⟨fs11, hf11⟩ := isO_ex hb9
    refine aw_callV C (ci := 7) (b := j8) [va_rf x7] mv_X8_73 rfl rfl hf11 (rmX7_copyFrom hr10) rfl dX8_tell_27 (Nat.le_of_ble_eq_true rfl) (Nat.le_of_ble_eq_true rfl) rfl (Nat.le_of_ble_eq_true rfl) (show (0 + 2) + 0 ≤ 7 by omega) (show (0 + 62) + 0 ≤ 192 by omega) (fun v9 f9 n9 hh => ?_)
    obtain ⟨rfl, rfl, rfl⟩ := hh
    refine aw_ald_n C dX8_tell_30 rfl ?_
    refine aw_ald_n C dX8_tell_31 rfl ?_
    refine aw_bipush C 12 dX8_tell_32 kb_12 ?_
    refine aw_iload_n C dX8_tell_34 rfl ?_
    refine aw_iconst C 0 dX8_tell_35 ki_0 ?_
    refine aw_ald_n C dX8_tell_36 rfl ?_
    obtain ⟨hb12, h⟩ := ck_some h
    obtain ⟨r13, hr13, h⟩ := Option.bind_eq_some_iff.mp h
    obtain ⟨fs14, hf14⟩ := isO_ex hb12
    refine aw_callV C (ci := 8) (b := v0) [.int (12 : Int32), .int v1, .int (0 : Int32), .ref j5] mv_X8_103 rfl rfl hf14 (rmX8_doAct hr13) rfl dX8_tell_37 (Nat.le_of_ble_eq_true rfl) (Nat.le_of_ble_eq_true rfl) rfl (Nat.le_of_ble_eq_true rfl) (show ((0 + 2) + 0) + 4 ≤ 7 by omega) (show ((0 + 62) + 0) + 124 ≤ 192 by omega) (fun v9 f9 n9 hh => ?_)
    obtain ⟨rfl, rfl, rfl⟩ := hh
    obtain ⟨hb15, h⟩ := ck_some h
    obtain ⟨r16, hr16, h⟩ := Option.bind_eq_some_iff.mp h
    obtain ⟨fs17, hf17⟩ := isO_ex hb15
    refine ax_callV C (ci := 8) (b := v0) [.int r13.1] mv_X8_139 rfl rfl hf17 (rmX8_finishCall hl0 hr16) rfl dX8_tell_40 (Nat.le_of_ble_eq_true rfl) (Nat.le_of_ble_eq_true rfl) rfl (Nat.le_of_ble_eq_true rfl) (show (((0 + 2) + 0) + 4) + 1 ≤ 7 by omega) (show (((0 + 62) + 0) + 124) + 6 ≤ 192 by omega) (fun E9 f9 n9 hq => ?_) (fun v9 f9 n9 hq => ?_)
    · obtain ⟨e1, e2, e3⟩ := hq
      rw [tS_r e1] at h
      cases h
      exact at_out C htab ⟨rfl, e2, e3⟩ (by omega) (by omega)
    obtain ⟨y16, e16, rfl, rfl, rfl⟩ := hq
    rw [tS_l e16] at h
    replace h : ((gR r16.2.1 v0 8 7).bind fun x18 => ((x18).bind fun j19 => ((gR r16.2.1 j19 0 0).bind fun x20 => ((x20).bind fun j21 => rCk (isO r16.2.1 j21 5) (((mX5_size j21 r16.2.1 r16.2.2).bind fun r23 => some (.inl r23.1, (r23.2.1, r23.2.2)))))))) = some r := h
    refine aw_ald_n C dX8_tell_43 rfl ?_
    obtain ⟨x18, hx18, h⟩ := Option.bind_eq_some_iff.mp h
    refine ah_getR C gf_X8_48 hx18 dX8_tell_44 ?_
    obtain ⟨j19, hj19, h⟩ := Option.bind_eq_some_iff.mp h
    rw [hj19]
    obtain ⟨x20, hx20, h⟩ := Option.bind_eq_some_iff.mp h
    refine ah_getR C gf_X8_160 hx20 dX8_tell_47 ?_
    obtain ⟨j21, hj21, h⟩ := Option.bind_eq_some_iff.mp h
    rw [hj21]
    obtain ⟨hb22, h⟩ := ck_some h
    obtain ⟨r23, hr23, h⟩ := Option.bind_eq_some_iff.mp h
    obtain ⟨fs24, hf24⟩ := isO_ex hb22
    refine aw_callV C (ci := 5) (b := j21) [] mv_X8_63 rfl rfl hf24 (rmX5_size hr23) rfl dX8_tell_50 (Nat.le_of_ble_eq_true rfl) (Nat.le_of_ble_eq_true rfl) rfl (Nat.le_of_ble_eq_true rfl) (show ((((0 + 2) + 0) + 4) + 1) + 0 ≤ 7 by omega) (show ((((0 + 62) + 0) + 124) + 6) + 0 ≤ 192 by omega) (fun v9 f9 n9 hh => ?_)
    obtain ⟨rfl, rfl, rfl⟩ := hh
    cases h
    exact ax_of (aw_iret C rfl rfl dX8_tell_53 (by omega) (by omega) ⟨_, rfl, rfl, rfl, rfl⟩)
def mX8_free (v0 : Nat) (v1 : Int32) (f : AH) (n : Nat) : Option ((Int32 ⊕ String) × HpN) := ((gR f v0 8 2).bind fun x1 => ((gR f v0 8 1).bind fun x2 => ((x1).bind fun j3 => rCk (isO f j3 7) (((mX7_copyFrom j3 x2 f n).bind fun r5 => rCk (isO r5.2.1 v0 8) (((mX8_doAct v0 (8 : Int32) v1 (0 : Int32) (none : Option Nat) r5.2.1 r5.2.2).bind fun r8 => rCk (isO r8.2.1 v0 8) (((mX8_finishCall v0 r8.1 r8.2.1 r8.2.2).bind fun r11 => (tS r11.1 r11.2 (fun y11 => ((gR r11.2.1 v0 8 7).bind fun x13 => ((x13).bind fun j14 => ((gR r11.2.1 j14 0 0).bind fun x15 => ((x15).bind fun j16 => rCk (isO r11.2.1 j16 5) (((mX5_size j16 r11.2.1 r11.2.2).bind fun r18 => some (.inl r18.1, (r18.2.1, r18.2.2)))))))))))))))))))
set_option maxHeartbeats 1000000 in
theorem rmX8_free {X : GX} {l : Launch} {r : (Int32 ⊕ String) × HpN} {v0 : Nat} {v1 : Int32} {f : AH} {n : Nat} (hl0 : l.stackTraces = false) (h : mX8_free v0 v1 f n = some r) : AX X l yX8_free cX8_free 2 (some .int) 7 5 130 [.ref v0, .int v1] f n (QTr (QHi) r) (QTx r) := by
  have h : ((gR f v0 8 2).bind fun x1 => ((gR f v0 8 1).bind fun x2 => ((x1).bind fun j3 => rCk (isO f j3 7) (((mX7_copyFrom j3 x2 f n).bind fun r5 => rCk (isO r5.2.1 v0 8) (((mX8_doAct v0 (8 : Int32) v1 (0 : Int32) (none : Option Nat) r5.2.1 r5.2.2).bind fun r8 => rCk (isO r8.2.1 v0 8) (((mX8_finishCall v0 r8.1 r8.2.1 r8.2.2).bind fun r11 => (tS r11.1 r11.2 (fun y11 => ((gR r11.2.1 v0 8 7).bind fun x13 => ((x13).bind fun j14 => ((gR r11.2.1 j14 0 0).bind fun x15 => ((x15).bind fun j16 => rCk (isO r11.2.1 j16 5) (((mX5_size j16 r11.2.1 r11.2.2).bind fun r18 => some (.inl r18.1, (r18.2.1, r18.2.2))))))))))))))))))) = some r := h
  refine AX.of (by decide +kernel) rfl (Nat.le_of_ble_eq_true rfl) (fun p e s m args below meth c C htab => ?_)
  refine aw_nl [some (.ref v0), some (.int v1)] rfl ?_
  refine aw_ald_n C dX8_free_0 rfl ?_
  obtain ⟨x1, hx1, h⟩ := Option.bind_eq_some_iff.mp h
  refine ah_getR C gf_X8_25 hx1 dX8_free_1 ?_
  refine aw_ald_n C dX8_free_4 rfl ?_
  obtain ⟨x2, hx2, h⟩ := Option.bind_eq_some_iff.mp h
  refine ah_getR C gf_X8_21 hx2 dX8_free_5 ?_
  obtain ⟨j3, hj3, h⟩ := Option.bind_eq_some_iff.mp h
  rw [hj3]
  obtain ⟨hb4, h⟩ := ck_some h
  obtain ⟨r5, hr5, h⟩ := Option.bind_eq_some_iff.mp h
  obtain ⟨fs6, hf6⟩ := isO_ex hb4
  refine aw_callV C (ci := 7) (b := j3) [va_rf x2] mv_X8_73 rfl rfl hf6 (rmX7_copyFrom hr5) rfl dX8_free_8 (Nat.le_of_ble_eq_true rfl) (Nat.le_of_ble_eq_true rfl) rfl (Nat.le_of_ble_eq_true rfl) (show 0 + 0 ≤ 5 by omega) (show 0 + 0 ≤ 130 by omega) (fun v9 f9 n9 hh => ?_)
  obtain ⟨rfl, rfl, rfl⟩ := hh
  refine aw_ald_n C dX8_free_11 rfl ?_
  refine aw_ald_n C dX8_free_12 rfl ?_
  refine aw_bipush C 8 dX8_free_13 kb_8 ?_
  refine aw_iload_n C dX8_free_15 rfl ?_
  refine aw_iconst C 0 dX8_free_16 ki_0 ?_
  refine aw_null C dX8_free_17 ?_
  obtain ⟨hb7, h⟩ := ck_some h
  obtain ⟨r8, hr8, h⟩ := Option.bind_eq_some_iff.mp h
  obtain ⟨fs9, hf9⟩ := isO_ex hb7
  refine aw_callV C (ci := 8) (b := v0) [.int (8 : Int32), .int v1, .int (0 : Int32), .null] mv_X8_103 rfl rfl hf9 (rmX8_doAct hr8) rfl dX8_free_18 (Nat.le_of_ble_eq_true rfl) (Nat.le_of_ble_eq_true rfl) rfl (Nat.le_of_ble_eq_true rfl) (show (0 + 0) + 4 ≤ 5 by omega) (show (0 + 0) + 124 ≤ 130 by omega) (fun v9 f9 n9 hh => ?_)
  obtain ⟨rfl, rfl, rfl⟩ := hh
  obtain ⟨hb10, h⟩ := ck_some h
  obtain ⟨r11, hr11, h⟩ := Option.bind_eq_some_iff.mp h
  obtain ⟨fs12, hf12⟩ := isO_ex hb10
  refine ax_callV C (ci := 8) (b := v0) [.int r8.1] mv_X8_139 rfl rfl hf12 (rmX8_finishCall hl0 hr11) rfl dX8_free_21 (Nat.le_of_ble_eq_true rfl) (Nat.le_of_ble_eq_true rfl) rfl (Nat.le_of_ble_eq_true rfl) (show ((0 + 0) + 4) + 1 ≤ 5 by omega) (show ((0 + 0) + 124) + 6 ≤ 130 by omega) (fun E9 f9 n9 hq => ?_) (fun v9 f9 n9 hq => ?_)
  · obtain ⟨e1, e2, e3⟩ := hq
    rw [tS_r e1] at h
    cases h
    exact at_out C htab ⟨rfl, e2, e3⟩ (by omega) (by omega)
  obtain ⟨y11, e11, rfl, rfl, rfl⟩ := hq
  rw [tS_l e11] at h
  replace h : ((gR r11.2.1 v0 8 7).bind fun x13 => ((x13).bind fun j14 => ((gR r11.2.1 j14 0 0).bind fun x15 => ((x15).bind fun j16 => rCk (isO r11.2.1 j16 5) (((mX5_size j16 r11.2.1 r11.2.2).bind fun r18 => some (.inl r18.1, (r18.2.1, r18.2.2)))))))) = some r := h
  refine aw_ald_n C dX8_free_24 rfl ?_
  obtain ⟨x13, hx13, h⟩ := Option.bind_eq_some_iff.mp h
  refine ah_getR C gf_X8_48 hx13 dX8_free_25 ?_
  obtain ⟨j14, hj14, h⟩ := Option.bind_eq_some_iff.mp h
  rw [hj14]
  obtain ⟨x15, hx15, h⟩ := Option.bind_eq_some_iff.mp h
  refine ah_getR C gf_X8_160 hx15 dX8_free_28 ?_
  obtain ⟨j16, hj16, h⟩ := Option.bind_eq_some_iff.mp h
  rw [hj16]
  obtain ⟨hb17, h⟩ := ck_some h
  obtain ⟨r18, hr18, h⟩ := Option.bind_eq_some_iff.mp h
  obtain ⟨fs19, hf19⟩ := isO_ex hb17
  refine aw_callV C (ci := 5) (b := j16) [] mv_X8_63 rfl rfl hf19 (rmX5_size hr18) rfl dX8_free_31 (Nat.le_of_ble_eq_true rfl) (Nat.le_of_ble_eq_true rfl) rfl (Nat.le_of_ble_eq_true rfl) (show (((0 + 0) + 4) + 1) + 0 ≤ 5 by omega) (show (((0 + 0) + 124) + 6) + 0 ≤ 130 by omega) (fun v9 f9 n9 hh => ?_)
  obtain ⟨rfl, rfl, rfl⟩ := hh
  cases h
  exact ax_of (aw_iret C rfl rfl dX8_free_34 (by omega) (by omega) ⟨_, rfl, rfl, rfl, rfl⟩)
def mX1_likeCount_b24 (rec4 : Nat → Int32 → Int32 → Int32 → AH → Nat → Option (Int32 × HpN)) (v0 : Nat) (v1 : Int32) (v2 : Int32) (v3 : Int32) (f : AH) (n : Nat) : Option (Int32 × HpN) := rec4 v0 v1 v2 (v3 + (1 : Int32)) f n
set_option maxHeartbeats 1000000 in
theorem rmX1_likeCount_b24 {X : GX} {p : Program} {l : Launch} {e : Env} {s : State} {m : MethodId} {args : Array Value} {below : List Frame} {meth : Method} {c : Code} {r : Int32 × HpN} {rec4 : Nat → Int32 → Int32 → Int32 → AH → Nat → Option (Int32 × HpN)} {v0 : Nat} {v1 : Int32} {v2 : Int32} {v3 : Int32} {f : AH} {n cells slots : Nat} (C : CC X p l (RM 3 0 0) s m args meth c RX1 cX1_likeCount 4 (some .int)) (Hr4 : ∀ (v0 : Nat) (v1 : Int32) (v2 : Int32) (v3 : Int32) (f : AH) (n cells slots : Nat), cells + 0 ≤ 0 → slots + 0 ≤ 0 → rec4 v0 v1 v2 v3 f n = some r → AW X p l e (RM 3 0 0) s m args below meth c 4 (ZM X below args s 0 0 (QHi r)) f n cells slots 4 [some (.ref v0), some (.int v1), some (.int v2), some (.int v3)] []) (hc : cells + 0 ≤ 0) (hs : slots + 0 ≤ 0) (h : mX1_likeCount_b24 rec4 v0 v1 v2 v3 f n = some r) : AW X p l e (RM 3 0 0) s m args below meth c 4 (ZM X below args s 0 0 (QHi r)) f n cells slots 24 [some (.ref v0), some (.int v1), some (.int v2), some (.int v3)] [] := by
  have h : rec4 v0 v1 v2 (v3 + (1 : Int32)) f n = some r := h
  refine aw_iinc C (v3 + (1 : Int32)) dX1_likeCount_24 rfl (by rw [ki_1]) (by decide) rfl ?_
  refine aw_nl [some (.ref v0), some (.int v1), some (.int v2), some (.int (v3 + (1 : Int32)))] rfl ?_
  refine aw_goto C 4 dX1_likeCount_27 (by decide) ?_
  refine aw_fl [some (.ref v0), some (.int v1), some (.int v2), some (.int (v3 + (1 : Int32)))] ⟨rfl, ⟨rfl, ⟨rfl, ⟨rfl, trivial⟩⟩⟩⟩ ?_
  exact Hr4 v0 v1 v2 (v3 + (1 : Int32)) f n _ _ (by omega) (by omega) h
def mX1_likeCount_l4 : Nat → Nat → Int32 → Int32 → Int32 → AH → Nat → Option (Int32 × HpN)
  | 0, _, _, _, _, _, _ => none
  | d + 1, v0, v1, v2, v3, f, n => ((gI f v0 1 3).bind fun x1 => (if x1 ≤ v3 then some (v2, (f, n)) else rCk (isO f v0 1) (((mX1_areLike v0 v1 v3 f n).bind fun r3 => (if r3.1 = (0 : Int32) then mX1_likeCount_b24 (fun v0 v1 v2 v3 f n => mX1_likeCount_l4 d v0 v1 v2 v3 f n) v0 v1 v2 v3 r3.2.1 r3.2.2 else mX1_likeCount_b24 (fun v0 v1 v2 v3 f n => mX1_likeCount_l4 d v0 v1 v2 v3 f n) v0 v1 (v2 + (1 : Int32)) v3 r3.2.1 r3.2.2)))))
set_option maxHeartbeats 1000000 in
theorem rmX1_likeCount_l4 {X : GX} {p : Program} {l : Launch} {e : Env} {s : State} {m : MethodId} {args : Array Value} {below : List Frame} {meth : Method} {c : Code} {r : Int32 × HpN} (C : CC X p l (RM 3 0 0) s m args meth c RX1 cX1_likeCount 4 (some .int)) : ∀ (d : Nat) (v0 : Nat) (v1 : Int32) (v2 : Int32) (v3 : Int32) (f : AH) (n cells slots : Nat) (_ : cells + 0 ≤ 0) (_ : slots + 0 ≤ 0) (_ : mX1_likeCount_l4 d v0 v1 v2 v3 f n = some r), AW X p l e (RM 3 0 0) s m args below meth c 4 (ZM X below args s 0 0 (QHi r)) f n cells slots 4 [some (.ref v0), some (.int v1), some (.int v2), some (.int v3)] [] := by
  intro d
  induction d with
  | zero =>
    intro v0 v1 v2 v3 f n cells slots hc hs h
    exact nomatch (show (none : Option (Int32 × HpN)) = some r from h)
  | succ d ih =>
    intro v0 v1 v2 v3 f n cells slots hc hs h
    have h : ((gI f v0 1 3).bind fun x1 => (if x1 ≤ v3 then some (v2, (f, n)) else rCk (isO f v0 1) (((mX1_areLike v0 v1 v3 f n).bind fun r3 => (if r3.1 = (0 : Int32) then mX1_likeCount_b24 (fun v0 v1 v2 v3 f n => mX1_likeCount_l4 d v0 v1 v2 v3 f n) v0 v1 v2 v3 r3.2.1 r3.2.2 else mX1_likeCount_b24 (fun v0 v1 v2 v3 f n => mX1_likeCount_l4 d v0 v1 v2 v3 f n) v0 v1 (v2 + (1 : Int32)) v3 r3.2.1 r3.2.2))))) = some r := h
    refine aw_iload_n C dX1_likeCount_4 rfl ?_
    refine aw_ald_n C dX1_likeCount_5 rfl ?_
    obtain ⟨x1, hx1, h⟩ := Option.bind_eq_some_iff.mp h
    refine ah_getI C gf_X1_46 hx1 dX1_likeCount_6 ?_
    refine aw_icmp_ge C 30 dX1_likeCount_9 (by decide) (fun q => ?_) (fun q => ?_)
    · rw [if_pos q] at h
      refine aw_iload_n C dX1_likeCount_30 rfl ?_
      cases h
      exact aw_iret C rfl rfl dX1_likeCount_31 (by omega) (by omega) ⟨rfl, rfl, rfl⟩
    · rw [if_neg q] at h
      refine aw_ald_n C dX1_likeCount_12 rfl ?_
      refine aw_iload_n C dX1_likeCount_13 rfl ?_
      refine aw_iload_n C dX1_likeCount_14 rfl ?_
      obtain ⟨hb2, h⟩ := ck_some h
      obtain ⟨r3, hr3, h⟩ := Option.bind_eq_some_iff.mp h
      obtain ⟨fs4, hf4⟩ := isO_ex hb2
      refine aw_callV C (ci := 1) (b := v0) [.int v1, .int v3] mv_X1_161 rfl rfl hf4 (rmX1_areLike hr3) rfl dX1_likeCount_15 (Nat.le_of_ble_eq_true rfl) (Nat.le_of_ble_eq_true rfl) rfl (Nat.le_of_ble_eq_true rfl) (show cells + 0 ≤ 0 by omega) (show slots + 0 ≤ 0 by omega) (fun v9 f9 n9 hh => ?_)
      obtain ⟨rfl, rfl, rfl⟩ := hh
      refine aw_if_eq C 24 dX1_likeCount_18 (by decide) (fun q => ?_) (fun q => ?_)
      · rw [if_pos q] at h
        refine aw_fl [some (.ref v0), some (.int v1), some (.int v2), some (.int v3)] ⟨rfl, ⟨rfl, ⟨rfl, ⟨rfl, trivial⟩⟩⟩⟩ ?_
        exact rmX1_likeCount_b24 C (fun v0 v1 v2 v3 f n cells slots hc hs h => ih v0 v1 v2 v3 f n cells slots hc hs h) (by omega) (by omega) h
      · rw [if_neg q] at h
        refine aw_iinc C (v2 + (1 : Int32)) dX1_likeCount_21 rfl (by rw [ki_1]) (by decide) rfl ?_
        refine aw_nl [some (.ref v0), some (.int v1), some (.int (v2 + (1 : Int32))), some (.int v3)] rfl ?_
        refine aw_fl [some (.ref v0), some (.int v1), some (.int (v2 + (1 : Int32))), some (.int v3)] ⟨rfl, ⟨rfl, ⟨rfl, ⟨rfl, trivial⟩⟩⟩⟩ ?_
        exact rmX1_likeCount_b24 C (fun v0 v1 v2 v3 f n cells slots hc hs h => ih v0 v1 v2 v3 f n cells slots hc hs h) (by omega) (by omega) h
def mX1_likeCount (v0 : Nat) (v1 : Int32) (f : AH) (n : Nat) : Option (Int32 × HpN) := mX1_likeCount_l4 rFU v0 v1 (0 : Int32) (0 : Int32) f n
set_option maxHeartbeats 1000000 in
theorem rmX1_likeCount {X : GX} {l : Launch} {r : Int32 × HpN} {v0 : Nat} {v1 : Int32} {f : AH} {n : Nat} (h : mX1_likeCount v0 v1 f n = some r) : AM X l yX1_likeCount cX1_likeCount 4 (some .int) 3 0 0 [.ref v0, .int v1] f n (QHi r) := by
  have h : mX1_likeCount_l4 rFU v0 v1 (0 : Int32) (0 : Int32) f n = some r := h
  refine AM.of (by decide +kernel) rfl (Nat.le_of_ble_eq_true rfl) (fun p e s m args below meth c C hnm => ?_)
  refine aw_nl [some (.ref v0), some (.int v1), none, none] rfl ?_
  refine aw_iconst C 0 dX1_likeCount_0 ki_0 ?_
  refine aw_istore_n C dX1_likeCount_1 (by decide) rfl ?_
  refine aw_nl [some (.ref v0), some (.int v1), some (.int (0 : Int32)), none] rfl ?_
  refine aw_iconst C 0 dX1_likeCount_2 ki_0 ?_
  refine aw_istore_n C dX1_likeCount_3 (by decide) rfl ?_
  refine aw_nl [some (.ref v0), some (.int v1), some (.int (0 : Int32)), some (.int (0 : Int32))] rfl ?_
  refine aw_fl [some (.ref v0), some (.int v1), some (.int (0 : Int32)), some (.int (0 : Int32))] ⟨rfl, ⟨rfl, ⟨rfl, ⟨rfl, trivial⟩⟩⟩⟩ ?_
  exact rmX1_likeCount_l4 C rFU v0 v1 (0 : Int32) (0 : Int32) f n _ _ (by omega) (by omega) h
def mX8_spread (v0 : Nat) (v1 : Int32) (f : AH) (n : Nat) : Option ((Int32 ⊕ String) × HpN) := ((gR f v0 8 2).bind fun x1 => ((gR f v0 8 1).bind fun x2 => ((x1).bind fun j3 => rCk (isO f j3 7) (((mX7_copyFrom j3 x2 f n).bind fun r5 => rCk (isO r5.2.1 v0 8) (((mX8_doAct v0 (9 : Int32) v1 (0 : Int32) (none : Option Nat) r5.2.1 r5.2.2).bind fun r8 => rCk (isO r8.2.1 v0 8) (((mX8_finishCall v0 r8.1 r8.2.1 r8.2.2).bind fun r11 => (tS r11.1 r11.2 (fun y11 => ((gR r11.2.1 v0 8 5).bind fun x13 => ((x13).bind fun j14 => rCk (isO r11.2.1 j14 1) (((mX1_likeCount j14 v1 r11.2.1 r11.2.2).bind fun r16 => some (.inl (r16.1 - (1 : Int32)), (r16.2.1, r16.2.2)))))))))))))))))
set_option maxHeartbeats 1000000 in
theorem rmX8_spread {X : GX} {l : Launch} {r : (Int32 ⊕ String) × HpN} {v0 : Nat} {v1 : Int32} {f : AH} {n : Nat} (hl0 : l.stackTraces = false) (h : mX8_spread v0 v1 f n = some r) : AX X l yX8_spread cX8_spread 2 (some .int) 7 5 130 [.ref v0, .int v1] f n (QTr (QHi) r) (QTx r) := by
  have h : ((gR f v0 8 2).bind fun x1 => ((gR f v0 8 1).bind fun x2 => ((x1).bind fun j3 => rCk (isO f j3 7) (((mX7_copyFrom j3 x2 f n).bind fun r5 => rCk (isO r5.2.1 v0 8) (((mX8_doAct v0 (9 : Int32) v1 (0 : Int32) (none : Option Nat) r5.2.1 r5.2.2).bind fun r8 => rCk (isO r8.2.1 v0 8) (((mX8_finishCall v0 r8.1 r8.2.1 r8.2.2).bind fun r11 => (tS r11.1 r11.2 (fun y11 => ((gR r11.2.1 v0 8 5).bind fun x13 => ((x13).bind fun j14 => rCk (isO r11.2.1 j14 1) (((mX1_likeCount j14 v1 r11.2.1 r11.2.2).bind fun r16 => some (.inl (r16.1 - (1 : Int32)), (r16.2.1, r16.2.2))))))))))))))))) = some r := h
  refine AX.of (by decide +kernel) rfl (Nat.le_of_ble_eq_true rfl) (fun p e s m args below meth c C htab => ?_)
  refine aw_nl [some (.ref v0), some (.int v1)] rfl ?_
  refine aw_ald_n C dX8_spread_0 rfl ?_
  obtain ⟨x1, hx1, h⟩ := Option.bind_eq_some_iff.mp h
  refine ah_getR C gf_X8_25 hx1 dX8_spread_1 ?_
  refine aw_ald_n C dX8_spread_4 rfl ?_
  obtain ⟨x2, hx2, h⟩ := Option.bind_eq_some_iff.mp h
  refine ah_getR C gf_X8_21 hx2 dX8_spread_5 ?_
  obtain ⟨j3, hj3, h⟩ := Option.bind_eq_some_iff.mp h
  rw [hj3]
  obtain ⟨hb4, h⟩ := ck_some h
  obtain ⟨r5, hr5, h⟩ := Option.bind_eq_some_iff.mp h
  obtain ⟨fs6, hf6⟩ := isO_ex hb4
  refine aw_callV C (ci := 7) (b := j3) [va_rf x2] mv_X8_73 rfl rfl hf6 (rmX7_copyFrom hr5) rfl dX8_spread_8 (Nat.le_of_ble_eq_true rfl) (Nat.le_of_ble_eq_true rfl) rfl (Nat.le_of_ble_eq_true rfl) (show 0 + 0 ≤ 5 by omega) (show 0 + 0 ≤ 130 by omega) (fun v9 f9 n9 hh => ?_)
  obtain ⟨rfl, rfl, rfl⟩ := hh
  refine aw_ald_n C dX8_spread_11 rfl ?_
  refine aw_ald_n C dX8_spread_12 rfl ?_
  refine aw_bipush C 9 dX8_spread_13 kb_9 ?_
  refine aw_iload_n C dX8_spread_15 rfl ?_
  refine aw_iconst C 0 dX8_spread_16 ki_0 ?_
  refine aw_null C dX8_spread_17 ?_
  obtain ⟨hb7, h⟩ := ck_some h
  obtain ⟨r8, hr8, h⟩ := Option.bind_eq_some_iff.mp h
  obtain ⟨fs9, hf9⟩ := isO_ex hb7
  refine aw_callV C (ci := 8) (b := v0) [.int (9 : Int32), .int v1, .int (0 : Int32), .null] mv_X8_103 rfl rfl hf9 (rmX8_doAct hr8) rfl dX8_spread_18 (Nat.le_of_ble_eq_true rfl) (Nat.le_of_ble_eq_true rfl) rfl (Nat.le_of_ble_eq_true rfl) (show (0 + 0) + 4 ≤ 5 by omega) (show (0 + 0) + 124 ≤ 130 by omega) (fun v9 f9 n9 hh => ?_)
  obtain ⟨rfl, rfl, rfl⟩ := hh
  obtain ⟨hb10, h⟩ := ck_some h
  obtain ⟨r11, hr11, h⟩ := Option.bind_eq_some_iff.mp h
  obtain ⟨fs12, hf12⟩ := isO_ex hb10
  refine ax_callV C (ci := 8) (b := v0) [.int r8.1] mv_X8_139 rfl rfl hf12 (rmX8_finishCall hl0 hr11) rfl dX8_spread_21 (Nat.le_of_ble_eq_true rfl) (Nat.le_of_ble_eq_true rfl) rfl (Nat.le_of_ble_eq_true rfl) (show ((0 + 0) + 4) + 1 ≤ 5 by omega) (show ((0 + 0) + 124) + 6 ≤ 130 by omega) (fun E9 f9 n9 hq => ?_) (fun v9 f9 n9 hq => ?_)
  · obtain ⟨e1, e2, e3⟩ := hq
    rw [tS_r e1] at h
    cases h
    exact at_out C htab ⟨rfl, e2, e3⟩ (by omega) (by omega)
  obtain ⟨y11, e11, rfl, rfl, rfl⟩ := hq
  rw [tS_l e11] at h
  replace h : ((gR r11.2.1 v0 8 5).bind fun x13 => ((x13).bind fun j14 => rCk (isO r11.2.1 j14 1) (((mX1_likeCount j14 v1 r11.2.1 r11.2.2).bind fun r16 => some (.inl (r16.1 - (1 : Int32)), (r16.2.1, r16.2.2)))))) = some r := h
  refine aw_ald_n C dX8_spread_24 rfl ?_
  obtain ⟨x13, hx13, h⟩ := Option.bind_eq_some_iff.mp h
  refine ah_getR C gf_X8_38 hx13 dX8_spread_25 ?_
  refine aw_iload_n C dX8_spread_28 rfl ?_
  obtain ⟨j14, hj14, h⟩ := Option.bind_eq_some_iff.mp h
  rw [hj14]
  obtain ⟨hb15, h⟩ := ck_some h
  obtain ⟨r16, hr16, h⟩ := Option.bind_eq_some_iff.mp h
  obtain ⟨fs17, hf17⟩ := isO_ex hb15
  refine aw_callV C (ci := 1) (b := j14) [.int v1] mv_X8_163 rfl rfl hf17 (rmX1_likeCount hr16) rfl dX8_spread_29 (Nat.le_of_ble_eq_true rfl) (Nat.le_of_ble_eq_true rfl) rfl (Nat.le_of_ble_eq_true rfl) (show (((0 + 0) + 4) + 1) + 0 ≤ 5 by omega) (show (((0 + 0) + 124) + 6) + 0 ≤ 130 by omega) (fun v9 f9 n9 hh => ?_)
  obtain ⟨rfl, rfl, rfl⟩ := hh
  refine aw_iconst C 1 dX8_spread_32 ki_1 ?_
  refine aw_isub C dX8_spread_33 ?_
  cases h
  exact ax_of (aw_iret C rfl rfl dX8_spread_34 (by omega) (by omega) ⟨_, rfl, rfl, rfl, rfl⟩)
def mX8_swap (v0 : Nat) (v1 : Int32) (v2 : Int32) (f : AH) (n : Nat) : Option ((Int32 ⊕ String) × HpN) := ((gR f v0 8 2).bind fun x1 => ((gR f v0 8 1).bind fun x2 => ((x1).bind fun j3 => rCk (isO f j3 7) (((mX7_copyFrom j3 x2 f n).bind fun r5 => rCk (isO r5.2.1 v0 8) (((mX8_doAct v0 (10 : Int32) v1 v2 (none : Option Nat) r5.2.1 r5.2.2).bind fun r8 => rCk (isO r8.2.1 v0 8) (((mX8_finishCall v0 r8.1 r8.2.1 r8.2.2).bind fun r11 => (tS r11.1 r11.2 (fun y11 => ((gR r11.2.1 v0 8 7).bind fun x13 => ((x13).bind fun j14 => ((gR r11.2.1 j14 0 0).bind fun x15 => ((x15).bind fun j16 => rCk (isO r11.2.1 j16 5) (((mX5_size j16 r11.2.1 r11.2.2).bind fun r18 => some (.inl r18.1, (r18.2.1, r18.2.2)))))))))))))))))))
set_option maxHeartbeats 1000000 in
theorem rmX8_swap {X : GX} {l : Launch} {r : (Int32 ⊕ String) × HpN} {v0 : Nat} {v1 : Int32} {v2 : Int32} {f : AH} {n : Nat} (hl0 : l.stackTraces = false) (h : mX8_swap v0 v1 v2 f n = some r) : AX X l yX8_swap cX8_swap 3 (some .int) 7 5 130 [.ref v0, .int v1, .int v2] f n (QTr (QHi) r) (QTx r) := by
  have h : ((gR f v0 8 2).bind fun x1 => ((gR f v0 8 1).bind fun x2 => ((x1).bind fun j3 => rCk (isO f j3 7) (((mX7_copyFrom j3 x2 f n).bind fun r5 => rCk (isO r5.2.1 v0 8) (((mX8_doAct v0 (10 : Int32) v1 v2 (none : Option Nat) r5.2.1 r5.2.2).bind fun r8 => rCk (isO r8.2.1 v0 8) (((mX8_finishCall v0 r8.1 r8.2.1 r8.2.2).bind fun r11 => (tS r11.1 r11.2 (fun y11 => ((gR r11.2.1 v0 8 7).bind fun x13 => ((x13).bind fun j14 => ((gR r11.2.1 j14 0 0).bind fun x15 => ((x15).bind fun j16 => rCk (isO r11.2.1 j16 5) (((mX5_size j16 r11.2.1 r11.2.2).bind fun r18 => some (.inl r18.1, (r18.2.1, r18.2.2))))))))))))))))))) = some r := h
  refine AX.of (by decide +kernel) rfl (Nat.le_of_ble_eq_true rfl) (fun p e s m args below meth c C htab => ?_)
  refine aw_nl [some (.ref v0), some (.int v1), some (.int v2)] rfl ?_
  refine aw_ald_n C dX8_swap_0 rfl ?_
  obtain ⟨x1, hx1, h⟩ := Option.bind_eq_some_iff.mp h
  refine ah_getR C gf_X8_25 hx1 dX8_swap_1 ?_
  refine aw_ald_n C dX8_swap_4 rfl ?_
  obtain ⟨x2, hx2, h⟩ := Option.bind_eq_some_iff.mp h
  refine ah_getR C gf_X8_21 hx2 dX8_swap_5 ?_
  obtain ⟨j3, hj3, h⟩ := Option.bind_eq_some_iff.mp h
  rw [hj3]
  obtain ⟨hb4, h⟩ := ck_some h
  obtain ⟨r5, hr5, h⟩ := Option.bind_eq_some_iff.mp h
  obtain ⟨fs6, hf6⟩ := isO_ex hb4
  refine aw_callV C (ci := 7) (b := j3) [va_rf x2] mv_X8_73 rfl rfl hf6 (rmX7_copyFrom hr5) rfl dX8_swap_8 (Nat.le_of_ble_eq_true rfl) (Nat.le_of_ble_eq_true rfl) rfl (Nat.le_of_ble_eq_true rfl) (show 0 + 0 ≤ 5 by omega) (show 0 + 0 ≤ 130 by omega) (fun v9 f9 n9 hh => ?_)
  obtain ⟨rfl, rfl, rfl⟩ := hh
  refine aw_ald_n C dX8_swap_11 rfl ?_
  refine aw_ald_n C dX8_swap_12 rfl ?_
  refine aw_bipush C 10 dX8_swap_13 kb_10 ?_
  refine aw_iload_n C dX8_swap_15 rfl ?_
  refine aw_iload_n C dX8_swap_16 rfl ?_
  refine aw_null C dX8_swap_17 ?_
  obtain ⟨hb7, h⟩ := ck_some h
  obtain ⟨r8, hr8, h⟩ := Option.bind_eq_some_iff.mp h
  obtain ⟨fs9, hf9⟩ := isO_ex hb7
  refine aw_callV C (ci := 8) (b := v0) [.int (10 : Int32), .int v1, .int v2, .null] mv_X8_103 rfl rfl hf9 (rmX8_doAct hr8) rfl dX8_swap_18 (Nat.le_of_ble_eq_true rfl) (Nat.le_of_ble_eq_true rfl) rfl (Nat.le_of_ble_eq_true rfl) (show (0 + 0) + 4 ≤ 5 by omega) (show (0 + 0) + 124 ≤ 130 by omega) (fun v9 f9 n9 hh => ?_)
  obtain ⟨rfl, rfl, rfl⟩ := hh
  obtain ⟨hb10, h⟩ := ck_some h
  obtain ⟨r11, hr11, h⟩ := Option.bind_eq_some_iff.mp h
  obtain ⟨fs12, hf12⟩ := isO_ex hb10
  refine ax_callV C (ci := 8) (b := v0) [.int r8.1] mv_X8_139 rfl rfl hf12 (rmX8_finishCall hl0 hr11) rfl dX8_swap_21 (Nat.le_of_ble_eq_true rfl) (Nat.le_of_ble_eq_true rfl) rfl (Nat.le_of_ble_eq_true rfl) (show ((0 + 0) + 4) + 1 ≤ 5 by omega) (show ((0 + 0) + 124) + 6 ≤ 130 by omega) (fun E9 f9 n9 hq => ?_) (fun v9 f9 n9 hq => ?_)
  · obtain ⟨e1, e2, e3⟩ := hq
    rw [tS_r e1] at h
    cases h
    exact at_out C htab ⟨rfl, e2, e3⟩ (by omega) (by omega)
  obtain ⟨y11, e11, rfl, rfl, rfl⟩ := hq
  rw [tS_l e11] at h
  replace h : ((gR r11.2.1 v0 8 7).bind fun x13 => ((x13).bind fun j14 => ((gR r11.2.1 j14 0 0).bind fun x15 => ((x15).bind fun j16 => rCk (isO r11.2.1 j16 5) (((mX5_size j16 r11.2.1 r11.2.2).bind fun r18 => some (.inl r18.1, (r18.2.1, r18.2.2)))))))) = some r := h
  refine aw_ald_n C dX8_swap_24 rfl ?_
  obtain ⟨x13, hx13, h⟩ := Option.bind_eq_some_iff.mp h
  refine ah_getR C gf_X8_48 hx13 dX8_swap_25 ?_
  obtain ⟨j14, hj14, h⟩ := Option.bind_eq_some_iff.mp h
  rw [hj14]
  obtain ⟨x15, hx15, h⟩ := Option.bind_eq_some_iff.mp h
  refine ah_getR C gf_X8_160 hx15 dX8_swap_28 ?_
  obtain ⟨j16, hj16, h⟩ := Option.bind_eq_some_iff.mp h
  rw [hj16]
  obtain ⟨hb17, h⟩ := ck_some h
  obtain ⟨r18, hr18, h⟩ := Option.bind_eq_some_iff.mp h
  obtain ⟨fs19, hf19⟩ := isO_ex hb17
  refine aw_callV C (ci := 5) (b := j16) [] mv_X8_63 rfl rfl hf19 (rmX5_size hr18) rfl dX8_swap_31 (Nat.le_of_ble_eq_true rfl) (Nat.le_of_ble_eq_true rfl) rfl (Nat.le_of_ble_eq_true rfl) (show (((0 + 0) + 4) + 1) + 0 ≤ 5 by omega) (show (((0 + 0) + 124) + 6) + 0 ≤ 130 by omega) (fun v9 f9 n9 hh => ?_)
  obtain ⟨rfl, rfl, rfl⟩ := hh
  cases h
  exact ax_of (aw_iret C rfl rfl dX8_swap_34 (by omega) (by omega) ⟨_, rfl, rfl, rfl, rfl⟩)
def mX8_wipe (v0 : Nat) (f : AH) (n : Nat) : Option ((Int32 ⊕ String) × HpN) := ((gR f v0 8 1).bind fun x1 => ((x1).bind fun j2 => rCk (isO f j2 7) (((mX7_toldCount j2 f n).bind fun r4 => ((gR r4.2.1 v0 8 2).bind fun x6 => ((gR r4.2.1 v0 8 1).bind fun x7 => ((x6).bind fun j8 => rCk (isO r4.2.1 j8 7) (((mX7_copyFrom j8 x7 r4.2.1 r4.2.2).bind fun r10 => rCk (isO r10.2.1 v0 8) (((mX8_doAct v0 (11 : Int32) (0 : Int32) (0 : Int32) (none : Option Nat) r10.2.1 r10.2.2).bind fun r13 => rCk (isO r13.2.1 v0 8) (((mX8_finishCall v0 r13.1 r13.2.1 r13.2.2).bind fun r16 => (tS r16.1 r16.2 (fun y16 => some (.inl r4.1, (r16.2.1, r16.2.2)))))))))))))))))
set_option maxHeartbeats 1000000 in
theorem rmX8_wipe {X : GX} {l : Launch} {r : (Int32 ⊕ String) × HpN} {v0 : Nat} {f : AH} {n : Nat} (hl0 : l.stackTraces = false) (h : mX8_wipe v0 f n = some r) : AX X l yX8_wipe cX8_wipe 2 (some .int) 7 5 130 [.ref v0] f n (QTr (QHi) r) (QTx r) := by
  have h : ((gR f v0 8 1).bind fun x1 => ((x1).bind fun j2 => rCk (isO f j2 7) (((mX7_toldCount j2 f n).bind fun r4 => ((gR r4.2.1 v0 8 2).bind fun x6 => ((gR r4.2.1 v0 8 1).bind fun x7 => ((x6).bind fun j8 => rCk (isO r4.2.1 j8 7) (((mX7_copyFrom j8 x7 r4.2.1 r4.2.2).bind fun r10 => rCk (isO r10.2.1 v0 8) (((mX8_doAct v0 (11 : Int32) (0 : Int32) (0 : Int32) (none : Option Nat) r10.2.1 r10.2.2).bind fun r13 => rCk (isO r13.2.1 v0 8) (((mX8_finishCall v0 r13.1 r13.2.1 r13.2.2).bind fun r16 => (tS r16.1 r16.2 (fun y16 => some (.inl r4.1, (r16.2.1, r16.2.2))))))))))))))))) = some r := h
  refine AX.of (by decide +kernel) rfl (Nat.le_of_ble_eq_true rfl) (fun p e s m args below meth c C htab => ?_)
  refine aw_nl [some (.ref v0), none] rfl ?_
  refine aw_ald_n C dX8_wipe_0 rfl ?_
  obtain ⟨x1, hx1, h⟩ := Option.bind_eq_some_iff.mp h
  refine ah_getR C gf_X8_21 hx1 dX8_wipe_1 ?_
  obtain ⟨j2, hj2, h⟩ := Option.bind_eq_some_iff.mp h
  rw [hj2]
  obtain ⟨hb3, h⟩ := ck_some h
  obtain ⟨r4, hr4, h⟩ := Option.bind_eq_some_iff.mp h
  obtain ⟨fs5, hf5⟩ := isO_ex hb3
  refine aw_callV C (ci := 7) (b := j2) [] mv_X8_167 rfl rfl hf5 (rmX7_toldCount hr4) rfl dX8_wipe_4 (Nat.le_of_ble_eq_true rfl) (Nat.le_of_ble_eq_true rfl) rfl (Nat.le_of_ble_eq_true rfl) (show 0 + 0 ≤ 5 by omega) (show 0 + 0 ≤ 130 by omega) (fun v9 f9 n9 hh => ?_)
  obtain ⟨rfl, rfl, rfl⟩ := hh
  refine aw_istore_n C dX8_wipe_7 (by decide) rfl ?_
  refine aw_nl [some (.ref v0), some (.int r4.1)] rfl ?_
  refine aw_ald_n C dX8_wipe_8 rfl ?_
  obtain ⟨x6, hx6, h⟩ := Option.bind_eq_some_iff.mp h
  refine ah_getR C gf_X8_25 hx6 dX8_wipe_9 ?_
  refine aw_ald_n C dX8_wipe_12 rfl ?_
  obtain ⟨x7, hx7, h⟩ := Option.bind_eq_some_iff.mp h
  refine ah_getR C gf_X8_21 hx7 dX8_wipe_13 ?_
  obtain ⟨j8, hj8, h⟩ := Option.bind_eq_some_iff.mp h
  rw [hj8]
  obtain ⟨hb9, h⟩ := ck_some h
  obtain ⟨r10, hr10, h⟩ := Option.bind_eq_some_iff.mp h
  obtain ⟨fs11, hf11⟩ := isO_ex hb9
  refine aw_callV C (ci := 7) (b := j8) [va_rf x7] mv_X8_73 rfl rfl hf11 (rmX7_copyFrom hr10) rfl dX8_wipe_16 (Nat.le_of_ble_eq_true rfl) (Nat.le_of_ble_eq_true rfl) rfl (Nat.le_of_ble_eq_true rfl) (show (0 + 0) + 0 ≤ 5 by omega) (show (0 + 0) + 0 ≤ 130 by omega) (fun v9 f9 n9 hh => ?_)
  obtain ⟨rfl, rfl, rfl⟩ := hh
  refine aw_ald_n C dX8_wipe_19 rfl ?_
  refine aw_ald_n C dX8_wipe_20 rfl ?_
  refine aw_bipush C 11 dX8_wipe_21 kb_11 ?_
  refine aw_iconst C 0 dX8_wipe_23 ki_0 ?_
  refine aw_iconst C 0 dX8_wipe_24 ki_0 ?_
  refine aw_null C dX8_wipe_25 ?_
  obtain ⟨hb12, h⟩ := ck_some h
  obtain ⟨r13, hr13, h⟩ := Option.bind_eq_some_iff.mp h
  obtain ⟨fs14, hf14⟩ := isO_ex hb12
  refine aw_callV C (ci := 8) (b := v0) [.int (11 : Int32), .int (0 : Int32), .int (0 : Int32), .null] mv_X8_103 rfl rfl hf14 (rmX8_doAct hr13) rfl dX8_wipe_26 (Nat.le_of_ble_eq_true rfl) (Nat.le_of_ble_eq_true rfl) rfl (Nat.le_of_ble_eq_true rfl) (show ((0 + 0) + 0) + 4 ≤ 5 by omega) (show ((0 + 0) + 0) + 124 ≤ 130 by omega) (fun v9 f9 n9 hh => ?_)
  obtain ⟨rfl, rfl, rfl⟩ := hh
  obtain ⟨hb15, h⟩ := ck_some h
  obtain ⟨r16, hr16, h⟩ := Option.bind_eq_some_iff.mp h
  obtain ⟨fs17, hf17⟩ := isO_ex hb15
  refine ax_callV C (ci := 8) (b := v0) [.int r13.1] mv_X8_139 rfl rfl hf17 (rmX8_finishCall hl0 hr16) rfl dX8_wipe_29 (Nat.le_of_ble_eq_true rfl) (Nat.le_of_ble_eq_true rfl) rfl (Nat.le_of_ble_eq_true rfl) (show (((0 + 0) + 0) + 4) + 1 ≤ 5 by omega) (show (((0 + 0) + 0) + 124) + 6 ≤ 130 by omega) (fun E9 f9 n9 hq => ?_) (fun v9 f9 n9 hq => ?_)
  · obtain ⟨e1, e2, e3⟩ := hq
    rw [tS_r e1] at h
    cases h
    exact at_out C htab ⟨rfl, e2, e3⟩ (by omega) (by omega)
  obtain ⟨y16, e16, rfl, rfl, rfl⟩ := hq
  rw [tS_l e16] at h
  replace h : some (.inl r4.1, (r16.2.1, r16.2.2)) = some r := h
  refine aw_iload_n C dX8_wipe_32 rfl ?_
  cases h
  exact ax_of (aw_iret C rfl rfl dX8_wipe_33 (by omega) (by omega) ⟨_, rfl, rfl, rfl, rfl⟩)
def mX8_undo_b34 (f : AH) (n : Nat) : Option ((Int32 ⊕ String) × HpN) := some (.inr eS, (f, n))
set_option maxHeartbeats 1000000 in
theorem rmX8_undo_b34 {X : GX} {p : Program} {l : Launch} {e : Env} {s : State} {m : MethodId} {args : Array Value} {below : List Frame} {meth : Method} {c : Code} {r : (Int32 ⊕ String) × HpN} {f : AH} {n cells slots : Nat} (C : CC X p l (RM 6 1 6) s m args meth c RX8 cX8_undo 1 (some .int)) (hl0 : l.stackTraces = false) (htab : ∀ x ∈ c.exceptionTable.toList, False) (hc : cells + 1 ≤ 1) (hs : slots + 6 ≤ 6) (h : mX8_undo_b34 f n = some r) : AW X p l e (RM 6 1 6) s m args below meth c 1 (ZX X below args s 1 6 (QTr (QHi) r) (QTx r)) f n cells slots 34 [none] [] := by
  have h : some (.inr eS, (f, n)) = some r := h
  cases h
  exact ax_throw C htab hl0 th_eS sx_172 dX8_undo_34 dX8_undo_37 dX8_undo_38 dX8_undo_40 dX8_undo_43 (Nat.le_of_ble_eq_true rfl) (Nat.le_of_ble_eq_true rfl) (show cells + 1 ≤ 1 by omega) (show slots + 6 ≤ 6 by omega) (by omega) (by omega) (fun n9 h9 => ⟨rfl, rfl, h9⟩)
def mX8_undo (v0 : Nat) (f : AH) (n : Nat) : Option ((Int32 ⊕ String) × HpN) := ((gI f v0 8 11).bind fun x1 => (if x1 < (1 : Int32) then mX8_undo_b34 f n else ((gI f v0 8 11).bind fun x2 => ((gR f v0 8 4).bind fun x3 => ((x3).bind fun j4 => ((gL f j4).bind fun x5 => (if (nI x5) < x2 then mX8_undo_b34 f n else ((gR f v0 8 4).bind fun x6 => ((gI f v0 8 11).bind fun x7 => ((x6).bind fun j8 => ((gRA f j8 (x7 - (1 : Int32))).bind fun x9 => (oN x9 (mX8_undo_b34 f n) (fun j10 => ((gI f v0 8 11).bind fun x11 => ((pO f v0 8 11 (.int (x11 - (1 : Int32)))).bind fun f12 => ((gR f12 v0 8 4).bind fun x13 => ((gI f12 v0 8 11).bind fun x14 => ((x13).bind fun j15 => ((gRA f12 j15 x14).bind fun x16 => rCk (isO f12 v0 8) (((mX8_restore v0 x16 f12 n).bind fun r18 => ((gI r18.2.1 v0 8 11).bind fun x20 => some (.inl x20, (r18.2.1, r18.2.2))))))))))))))))))))))))
set_option maxHeartbeats 1000000 in
theorem rmX8_undo {X : GX} {l : Launch} {r : (Int32 ⊕ String) × HpN} {v0 : Nat} {f : AH} {n : Nat} (hl0 : l.stackTraces = false) (h : mX8_undo v0 f n = some r) : AX X l yX8_undo cX8_undo 1 (some .int) 6 1 6 [.ref v0] f n (QTr (QHi) r) (QTx r) := by
  have h : ((gI f v0 8 11).bind fun x1 => (if x1 < (1 : Int32) then mX8_undo_b34 f n else ((gI f v0 8 11).bind fun x2 => ((gR f v0 8 4).bind fun x3 => ((x3).bind fun j4 => ((gL f j4).bind fun x5 => (if (nI x5) < x2 then mX8_undo_b34 f n else ((gR f v0 8 4).bind fun x6 => ((gI f v0 8 11).bind fun x7 => ((x6).bind fun j8 => ((gRA f j8 (x7 - (1 : Int32))).bind fun x9 => (oN x9 (mX8_undo_b34 f n) (fun j10 => ((gI f v0 8 11).bind fun x11 => ((pO f v0 8 11 (.int (x11 - (1 : Int32)))).bind fun f12 => ((gR f12 v0 8 4).bind fun x13 => ((gI f12 v0 8 11).bind fun x14 => ((x13).bind fun j15 => ((gRA f12 j15 x14).bind fun x16 => rCk (isO f12 v0 8) (((mX8_restore v0 x16 f12 n).bind fun r18 => ((gI r18.2.1 v0 8 11).bind fun x20 => some (.inl x20, (r18.2.1, r18.2.2)))))))))))))))))))))))) = some r := h
  refine AX.of (by decide +kernel) rfl (Nat.le_of_ble_eq_true rfl) (fun p e s m args below meth c C htab => ?_)
  refine aw_nl [some (.ref v0)] rfl ?_
  refine aw_ald_n C dX8_undo_0 rfl ?_
  obtain ⟨x1, hx1, h⟩ := Option.bind_eq_some_iff.mp h
  refine ah_getI C gf_X8_123 hx1 dX8_undo_1 ?_
  refine aw_iconst C 1 dX8_undo_4 ki_1 ?_
  refine aw_icmp_lt C 34 dX8_undo_5 (by decide) (fun q => ?_) (fun q => ?_)
  · rw [if_pos q] at h
    refine aw_fl [none] trivial ?_
    exact rmX8_undo_b34 C hl0 htab (by omega) (by omega) h
  · rw [if_neg q] at h
    refine aw_ald_n C dX8_undo_8 rfl ?_
    obtain ⟨x2, hx2, h⟩ := Option.bind_eq_some_iff.mp h
    refine ah_getI C gf_X8_123 hx2 dX8_undo_9 ?_
    refine aw_ald_n C dX8_undo_12 rfl ?_
    obtain ⟨x3, hx3, h⟩ := Option.bind_eq_some_iff.mp h
    refine ah_getR C gf_X8_31 hx3 dX8_undo_13 ?_
    obtain ⟨j4, hj4, h⟩ := Option.bind_eq_some_iff.mp h
    rw [hj4]
    obtain ⟨x5, hx5, h⟩ := Option.bind_eq_some_iff.mp h
    refine ah_len C hx5 dX8_undo_16 ?_
    refine aw_icmp_gt C 34 dX8_undo_17 (by decide) (fun q => ?_) (fun q => ?_)
    · rw [if_pos q] at h
      refine aw_fl [none] trivial ?_
      exact rmX8_undo_b34 C hl0 htab (by omega) (by omega) h
    · rw [if_neg q] at h
      refine aw_ald_n C dX8_undo_20 rfl ?_
      obtain ⟨x6, hx6, h⟩ := Option.bind_eq_some_iff.mp h
      refine ah_getR C gf_X8_31 hx6 dX8_undo_21 ?_
      refine aw_ald_n C dX8_undo_24 rfl ?_
      obtain ⟨x7, hx7, h⟩ := Option.bind_eq_some_iff.mp h
      refine ah_getI C gf_X8_123 hx7 dX8_undo_25 ?_
      refine aw_iconst C 1 dX8_undo_28 ki_1 ?_
      refine aw_isub C dX8_undo_29 ?_
      obtain ⟨j8, hj8, h⟩ := Option.bind_eq_some_iff.mp h
      rw [hj8]
      obtain ⟨x9, hx9, h⟩ := Option.bind_eq_some_iff.mp h
      refine ah_aald C hx9 dX8_undo_30 ?_
      cases x9 with
      | none =>
        replace h : mX8_undo_b34 f n = some r := h
        refine aw_ifnonnull_n C 44 dX8_undo_31 (by decide) ?_
        refine aw_fl [none] trivial ?_
        exact rmX8_undo_b34 C hl0 htab (by omega) (by omega) h
      | some j10 =>
        replace h : ((gI f v0 8 11).bind fun x11 => ((pO f v0 8 11 (.int (x11 - (1 : Int32)))).bind fun f12 => ((gR f12 v0 8 4).bind fun x13 => ((gI f12 v0 8 11).bind fun x14 => ((x13).bind fun j15 => ((gRA f12 j15 x14).bind fun x16 => rCk (isO f12 v0 8) (((mX8_restore v0 x16 f12 n).bind fun r18 => ((gI r18.2.1 v0 8 11).bind fun x20 => some (.inl x20, (r18.2.1, r18.2.2))))))))))) = some r := h
        refine aw_ifnonnull_r C 44 dX8_undo_31 (by decide) ?_
        refine aw_ald_n C dX8_undo_44 rfl ?_
        refine aw_dup C dX8_undo_45 rfl ?_
        obtain ⟨x11, hx11, h⟩ := Option.bind_eq_some_iff.mp h
        refine ah_getI C gf_X8_123 hx11 dX8_undo_46 ?_
        refine aw_iconst C 1 dX8_undo_49 ki_1 ?_
        refine aw_isub C dX8_undo_50 ?_
        obtain ⟨f12, hf12, h⟩ := Option.bind_eq_some_iff.mp h
        refine ah_put C gf_X8_123 cf8 nf8_11 rfl rfl hf12 dX8_undo_51 ?_
        refine aw_ald_n C dX8_undo_54 rfl ?_
        refine aw_ald_n C dX8_undo_55 rfl ?_
        obtain ⟨x13, hx13, h⟩ := Option.bind_eq_some_iff.mp h
        refine ah_getR C gf_X8_31 hx13 dX8_undo_56 ?_
        refine aw_ald_n C dX8_undo_59 rfl ?_
        obtain ⟨x14, hx14, h⟩ := Option.bind_eq_some_iff.mp h
        refine ah_getI C gf_X8_123 hx14 dX8_undo_60 ?_
        obtain ⟨j15, hj15, h⟩ := Option.bind_eq_some_iff.mp h
        rw [hj15]
        obtain ⟨x16, hx16, h⟩ := Option.bind_eq_some_iff.mp h
        refine ah_aald C hx16 dX8_undo_63 ?_
        obtain ⟨hb17, h⟩ := ck_some h
        obtain ⟨r18, hr18, h⟩ := Option.bind_eq_some_iff.mp h
        obtain ⟨fs19, hf19⟩ := isO_ex hb17
        refine aw_callV C (ci := 8) (b := v0) [va_rf x16] mv_X8_113 rfl rfl hf19 (rmX8_restore hr18) rfl dX8_undo_64 (Nat.le_of_ble_eq_true rfl) (Nat.le_of_ble_eq_true rfl) rfl (Nat.le_of_ble_eq_true rfl) (show 0 + 0 ≤ 1 by omega) (show 0 + 0 ≤ 6 by omega) (fun v9 f9 n9 hh => ?_)
        obtain ⟨rfl, rfl, rfl⟩ := hh
        refine aw_ald_n C dX8_undo_67 rfl ?_
        obtain ⟨x20, hx20, h⟩ := Option.bind_eq_some_iff.mp h
        refine ah_getI C gf_X8_123 hx20 dX8_undo_68 ?_
        cases h
        exact ax_of (aw_iret C rfl rfl dX8_undo_71 (by omega) (by omega) ⟨_, rfl, rfl, rfl, rfl⟩)
def mX8_pieceOrThrow (v0 : Nat) (v1 : Int32) (f : AH) (n : Nat) : Option ((Option Nat ⊕ String) × HpN) := ((gR f v0 8 5).bind fun x1 => ((x1).bind fun j2 => rCk (isO f j2 1) (((mX1_get j2 v1 f n).bind fun r4 => ((some r4.1).bind fun x6 => (oN x6 (some (.inr eI, (r4.2.1, r4.2.2))) (fun j7 => some (.inl (some j7), (r4.2.1, r4.2.2)))))))))
set_option maxHeartbeats 1000000 in
theorem rmX8_pieceOrThrow {X : GX} {l : Launch} {r : (Option Nat ⊕ String) × HpN} {v0 : Nat} {v1 : Int32} {f : AH} {n : Nat} (hl0 : l.stackTraces = false) (h : mX8_pieceOrThrow v0 v1 f n = some r) : AX X l yX8_pieceOrThrow cX8_pieceOrThrow 3 (some (.object "PieceFiles$Piece")) 6 1 6 [.ref v0, .int v1] f n (QTr (QHr) r) (QTx r) := by
  have h : ((gR f v0 8 5).bind fun x1 => ((x1).bind fun j2 => rCk (isO f j2 1) (((mX1_get j2 v1 f n).bind fun r4 => ((some r4.1).bind fun x6 => (oN x6 (some (.inr eI, (r4.2.1, r4.2.2))) (fun j7 => some (.inl (some j7), (r4.2.1, r4.2.2))))))))) = some r := h
  refine AX.of (by decide +kernel) rfl (Nat.le_of_ble_eq_true rfl) (fun p e s m args below meth c C htab => ?_)
  refine aw_nl [some (.ref v0), some (.int v1), none] rfl ?_
  refine aw_ald_n C dX8_pieceOrThrow_0 rfl ?_
  obtain ⟨x1, hx1, h⟩ := Option.bind_eq_some_iff.mp h
  refine ah_getR C gf_X8_38 hx1 dX8_pieceOrThrow_1 ?_
  refine aw_iload_n C dX8_pieceOrThrow_4 rfl ?_
  obtain ⟨j2, hj2, h⟩ := Option.bind_eq_some_iff.mp h
  rw [hj2]
  obtain ⟨hb3, h⟩ := ck_some h
  obtain ⟨r4, hr4, h⟩ := Option.bind_eq_some_iff.mp h
  obtain ⟨fs5, hf5⟩ := isO_ex hb3
  refine aw_callV C (ci := 1) (b := j2) [.int v1] mv_X8_241 rfl rfl hf5 (rmX1_get hr4) rfl dX8_pieceOrThrow_5 (Nat.le_of_ble_eq_true rfl) (Nat.le_of_ble_eq_true rfl) rfl (Nat.le_of_ble_eq_true rfl) (show 0 + 0 ≤ 1 by omega) (show 0 + 0 ≤ 6 by omega) (fun v9 f9 n9 hh => ?_)
  obtain ⟨rfl, rfl, rfl⟩ := hh
  obtain ⟨x6, hx6, h⟩ := Option.bind_eq_some_iff.mp h
  rw [Option.some.inj hx6]
  refine aw_astore_n C dX8_pieceOrThrow_8 (by decide) rfl (rf_or x6) ?_
  refine aw_nl [some (.ref v0), some (.int v1), some (va_rf x6)] rfl ?_
  refine aw_aload_n C dX8_pieceOrThrow_9 rfl (rf_or x6) ?_
  cases x6 with
  | none =>
    replace h : some (.inr eI, (r4.2.1, r4.2.2)) = some r := h
    refine aw_ifnonnull_n C 24 dX8_pieceOrThrow_10 (by decide) ?_
    cases h
    exact ax_throwW C htab hl0 th_eI sx_323 dX8_pieceOrThrow_13 dX8_pieceOrThrow_16 dX8_pieceOrThrow_17 dX8_pieceOrThrow_20 dX8_pieceOrThrow_23 (Nat.le_of_ble_eq_true rfl) (Nat.le_of_ble_eq_true rfl) (show (0 + 0) + 1 ≤ 1 by omega) (show (0 + 0) + 6 ≤ 6 by omega) (by omega) (by omega) (fun n9 h9 => ⟨rfl, rfl, h9⟩)
  | some j7 =>
    replace h : some (.inl (some j7), (r4.2.1, r4.2.2)) = some r := h
    refine aw_ifnonnull_r C 24 dX8_pieceOrThrow_10 (by decide) ?_
    refine aw_ald_n C dX8_pieceOrThrow_24 rfl ?_
    cases h
    exact ax_of (aw_aret C rfl (Or.inr ⟨_, rfl⟩) dX8_pieceOrThrow_25 (by omega) (by omega) ⟨_, rfl, rfl, rfl, rfl⟩)
