def mX6_tryLine_b141 (v0 : Nat) (v2 : Int32) (v3 : Int32) (f : AH) (n : Nat) : Option (Int32 × HpN) := ((gR f v0 6 0).bind fun x1 => ((x1).bind fun j2 => rCk (isO f j2 5) (((mX5_behindBlanks j2 (v3 + (1 : Int32)) v2 f n).bind fun r4 => ((pO r4.2.1 v0 6 1 (.int r4.1)).bind fun f6 => some ((0 : Int32), (f6, r4.2.2)))))))
set_option maxHeartbeats 1000000 in
theorem rmX6_tryLine_b141 {X : GX} {p : Program} {l : Launch} {e : Env} {s : State} {m : MethodId} {args : Array Value} {below : List Frame} {meth : Method} {c : Code} {r : Int32 × HpN} {v0 : Nat} {v2 : Int32} {v3 : Int32} {f : AH} {n cells slots : Nat} (C : CC X p l (RM 1 0 0) s m args meth c RX6 cX6_tryLine 5 none) (hc : cells + 0 ≤ 0) (hs : slots + 0 ≤ 0) (h : mX6_tryLine_b141 v0 v2 v3 f n = some r) : AW X p l e (RM 1 0 0) s m args below meth c 5 (ZM X below args s 0 0 (QHv r)) f n cells slots 141 [some (.ref v0), none, some (.int v2), some (.int v3), none] [] := by
  have h : ((gR f v0 6 0).bind fun x1 => ((x1).bind fun j2 => rCk (isO f j2 5) (((mX5_behindBlanks j2 (v3 + (1 : Int32)) v2 f n).bind fun r4 => ((pO r4.2.1 v0 6 1 (.int r4.1)).bind fun f6 => some ((0 : Int32), (f6, r4.2.2))))))) = some r := h
  refine aw_ald_n C dX6_tryLine_141 rfl ?_
  refine aw_ald_n C dX6_tryLine_142 rfl ?_
  obtain ⟨x1, hx1, h⟩ := Option.bind_eq_some_iff.mp h
  refine ah_getR C gf_X6_14 hx1 dX6_tryLine_143 ?_
  refine aw_iload_n C dX6_tryLine_146 rfl ?_
  refine aw_iconst C 1 dX6_tryLine_147 ki_1 ?_
  refine aw_iadd C dX6_tryLine_148 ?_
  refine aw_iload_n C dX6_tryLine_149 rfl ?_
  obtain ⟨j2, hj2, h⟩ := Option.bind_eq_some_iff.mp h
  rw [hj2]
  obtain ⟨hb3, h⟩ := ck_some h
  obtain ⟨r4, hr4, h⟩ := Option.bind_eq_some_iff.mp h
  obtain ⟨fs5, hf5⟩ := isO_ex hb3
  refine aw_callV C (ci := 5) (b := j2) [.int (v3 + (1 : Int32)), .int v2] mv_X6_63 rfl rfl hf5 (rmX5_behindBlanks hr4) rfl dX6_tryLine_150 (Nat.le_of_ble_eq_true rfl) (Nat.le_of_ble_eq_true rfl) rfl (Nat.le_of_ble_eq_true rfl) (show cells + 0 ≤ 0 by omega) (show slots + 0 ≤ 0 by omega) (fun v9 f9 n9 hh => ?_)
  obtain ⟨rfl, rfl, rfl⟩ := hh
  obtain ⟨f6, hf6, h⟩ := Option.bind_eq_some_iff.mp h
  refine ah_put C gf_X6_53 cf6 nf6_1 rfl rfl hf6 dX6_tryLine_153 ?_
  cases h
  exact aw_vret C rfl dX6_tryLine_156 (by omega) (by omega) ⟨rfl, rfl, rfl⟩
def mX6_tryLine_l102 : Nat → Nat → Int32 → Int32 → Int32 → AH → Nat → Option (Int32 × HpN)
  | 0, _, _, _, _, _, _ => none
  | d + 1, v0, v2, v3, v4, f, n => ((gI f v0 6 4).bind fun x1 => (if v4 < x1 then mX6_tryLine_b141 v0 v2 v3 f n else ((gR f v0 6 0).bind fun x2 => ((x2).bind fun j3 => rCk (isO f j3 5) (((mX5_get j3 v4 f n).bind fun r5 => (if r5.1 = (32 : Int32) then ((gI r5.2.1 v0 6 5).bind fun x7 => ((pO r5.2.1 v0 6 5 (.int (x7 - (1 : Int32)))).bind fun f8 => mX6_tryLine_l102 d v0 v2 v3 (v4 + (-1 : Int32)) f8 r5.2.2)) else mX6_tryLine_b141 v0 v2 v3 r5.2.1 r5.2.2)))))))
set_option maxHeartbeats 1000000 in
theorem rmX6_tryLine_l102 {X : GX} {p : Program} {l : Launch} {e : Env} {s : State} {m : MethodId} {args : Array Value} {below : List Frame} {meth : Method} {c : Code} {r : Int32 × HpN} (C : CC X p l (RM 1 0 0) s m args meth c RX6 cX6_tryLine 5 none) : ∀ (d : Nat) (v0 : Nat) (v2 : Int32) (v3 : Int32) (v4 : Int32) (f : AH) (n cells slots : Nat) (_ : cells + 0 ≤ 0) (_ : slots + 0 ≤ 0) (_ : mX6_tryLine_l102 d v0 v2 v3 v4 f n = some r), AW X p l e (RM 1 0 0) s m args below meth c 5 (ZM X below args s 0 0 (QHv r)) f n cells slots 102 [some (.ref v0), none, some (.int v2), some (.int v3), some (.int v4)] [] := by
  intro d
  induction d with
  | zero =>
    intro v0 v2 v3 v4 f n cells slots hc hs h
    exact nomatch (show (none : Option (Int32 × HpN)) = some r from h)
  | succ d ih =>
    intro v0 v2 v3 v4 f n cells slots hc hs h
    have h : ((gI f v0 6 4).bind fun x1 => (if v4 < x1 then mX6_tryLine_b141 v0 v2 v3 f n else ((gR f v0 6 0).bind fun x2 => ((x2).bind fun j3 => rCk (isO f j3 5) (((mX5_get j3 v4 f n).bind fun r5 => (if r5.1 = (32 : Int32) then ((gI r5.2.1 v0 6 5).bind fun x7 => ((pO r5.2.1 v0 6 5 (.int (x7 - (1 : Int32)))).bind fun f8 => mX6_tryLine_l102 d v0 v2 v3 (v4 + (-1 : Int32)) f8 r5.2.2)) else mX6_tryLine_b141 v0 v2 v3 r5.2.1 r5.2.2))))))) = some r := h
    refine aw_iload C dX6_tryLine_102 rfl ?_
    refine aw_ald_n C dX6_tryLine_104 rfl ?_
    obtain ⟨x1, hx1, h⟩ := Option.bind_eq_some_iff.mp h
    refine ah_getI C gf_X6_31 hx1 dX6_tryLine_105 ?_
    refine aw_icmp_lt C 141 dX6_tryLine_108 (by decide) (fun q => ?_) (fun q => ?_)
    · rw [if_pos q] at h
      refine aw_fl [some (.ref v0), none, some (.int v2), some (.int v3), none] ⟨rfl, ⟨rfl, ⟨rfl, trivial⟩⟩⟩ ?_
      exact rmX6_tryLine_b141 C (by omega) (by omega) h
    · rw [if_neg q] at h
      refine aw_ald_n C dX6_tryLine_111 rfl ?_
      obtain ⟨x2, hx2, h⟩ := Option.bind_eq_some_iff.mp h
      refine ah_getR C gf_X6_14 hx2 dX6_tryLine_112 ?_
      refine aw_iload C dX6_tryLine_115 rfl ?_
      obtain ⟨j3, hj3, h⟩ := Option.bind_eq_some_iff.mp h
      rw [hj3]
      obtain ⟨hb4, h⟩ := ck_some h
      obtain ⟨r5, hr5, h⟩ := Option.bind_eq_some_iff.mp h
      obtain ⟨fs6, hf6⟩ := isO_ex hb4
      refine aw_callV C (ci := 5) (b := j3) [.int v4] mv_X6_67 rfl rfl hf6 (rmX5_get hr5) rfl dX6_tryLine_117 (Nat.le_of_ble_eq_true rfl) (Nat.le_of_ble_eq_true rfl) rfl (Nat.le_of_ble_eq_true rfl) (show cells + 0 ≤ 0 by omega) (show slots + 0 ≤ 0 by omega) (fun v9 f9 n9 hh => ?_)
      obtain ⟨rfl, rfl, rfl⟩ := hh
      refine aw_bipush C 32 dX6_tryLine_120 kb_32 ?_
      refine aw_icmp_ne C 141 dX6_tryLine_122 (by decide) (fun q => ?_) (fun q => ?_)
      · rw [if_neg q] at h
        refine aw_fl [some (.ref v0), none, some (.int v2), some (.int v3), none] ⟨rfl, ⟨rfl, ⟨rfl, trivial⟩⟩⟩ ?_
        exact rmX6_tryLine_b141 C (by omega) (by omega) h
      · rw [if_pos q] at h
        refine aw_ald_n C dX6_tryLine_125 rfl ?_
        refine aw_dup C dX6_tryLine_126 rfl ?_
        obtain ⟨x7, hx7, h⟩ := Option.bind_eq_some_iff.mp h
        refine ah_getI C gf_X6_34 hx7 dX6_tryLine_127 ?_
        refine aw_iconst C 1 dX6_tryLine_130 ki_1 ?_
        refine aw_isub C dX6_tryLine_131 ?_
        obtain ⟨f8, hf8, h⟩ := Option.bind_eq_some_iff.mp h
        refine ah_put C gf_X6_34 cf6 nf6_5 rfl rfl hf8 dX6_tryLine_132 ?_
        refine aw_iinc C (v4 + (-1 : Int32)) dX6_tryLine_135 rfl (by rw [ki_m1]) (by decide) rfl ?_
        refine aw_nl [some (.ref v0), none, some (.int v2), some (.int v3), some (.int (v4 + (-1 : Int32)))] rfl ?_
        refine aw_goto C 102 dX6_tryLine_138 (by decide) ?_
        refine aw_fl [some (.ref v0), none, some (.int v2), some (.int v3), some (.int (v4 + (-1 : Int32)))] ⟨rfl, ⟨rfl, ⟨rfl, ⟨rfl, trivial⟩⟩⟩⟩ ?_
        exact ih v0 v2 v3 (v4 + (-1 : Int32)) f8 r5.2.2 _ _ (by omega) (by omega) h
def mX6_tryLine_b86 (f : AH) (n : Nat) : Option (Int32 × HpN) := some ((0 : Int32), (f, n))
set_option maxHeartbeats 1000000 in
theorem rmX6_tryLine_b86 {X : GX} {p : Program} {l : Launch} {e : Env} {s : State} {m : MethodId} {args : Array Value} {below : List Frame} {meth : Method} {c : Code} {r : Int32 × HpN} {f : AH} {n cells slots : Nat} (C : CC X p l (RM 1 0 0) s m args meth c RX6 cX6_tryLine 5 none) (hc : cells + 0 ≤ 0) (hs : slots + 0 ≤ 0) (h : mX6_tryLine_b86 f n = some r) : AW X p l e (RM 1 0 0) s m args below meth c 5 (ZM X below args s 0 0 (QHv r)) f n cells slots 86 [none, none, none, none, none] [] := by
  have h : some ((0 : Int32), (f, n)) = some r := h
  cases h
  exact aw_vret C rfl dX6_tryLine_86 (by omega) (by omega) ⟨rfl, rfl, rfl⟩
def mX6_tryLine (v0 : Nat) (f : AH) (n : Nat) : Option (Int32 × HpN) := ((gI f v0 6 9).bind fun x1 => ((gR f v0 6 0).bind fun x2 => ((gR f v0 6 0).bind fun x3 => ((x3).bind fun j4 => rCk (isO f j4 5) (((mX5_size j4 f n).bind fun r6 => ((x2).bind fun j8 => rCk (isO r6.2.1 j8 5) (((mX5_next j8 (10 : Int32) x1 r6.1 r6.2.1 r6.2.2).bind fun r10 => ((pO r10.2.1 v0 6 9 (.int (r10.1 + (1 : Int32)))).bind fun f12 => ((gR f12 v0 6 0).bind fun x13 => ((x13).bind fun j14 => rCk (isO f12 j14 5) (((mX5_next j14 (61 : Int32) x1 r10.1 f12 r10.2.2).bind fun r16 => ((gR r16.2.1 v0 6 0).bind fun x18 => ((x18).bind fun j19 => rCk (isO r16.2.1 j19 5) (((mX5_behindBlanks j19 x1 r10.1 r16.2.1 r16.2.2).bind fun r21 => ((pO r21.2.1 v0 6 4 (.int r21.1)).bind fun f23 => ((pO f23 v0 6 1 (.int r10.1)).bind fun f24 => ((pO f24 v0 6 2 (.int r10.1)).bind fun f25 => (if r16.1 = r10.1 then mX6_tryLine_b86 f25 r21.2.2 else ((gR f25 v0 6 0).bind fun x26 => ((gI f25 v0 6 4).bind fun x27 => ((x26).bind fun j28 => rCk (isO f25 j28 5) (((mX5_get j28 x27 f25 r21.2.2).bind fun r30 => (if r30.1 = (35 : Int32) then mX6_tryLine_b86 r30.2.1 r30.2.2 else ((gI r30.2.1 v0 6 4).bind fun x32 => ((pO r30.2.1 v0 6 5 (.int (r16.1 - x32))).bind fun f33 => mX6_tryLine_l102 rFU v0 r10.1 r16.1 (r16.1 - (1 : Int32)) f33 r30.2.2))))))))))))))))))))))))))))))
set_option maxHeartbeats 1000000 in
theorem rmX6_tryLine {X : GX} {l : Launch} {r : Int32 × HpN} {v0 : Nat} {f : AH} {n : Nat} (h : mX6_tryLine v0 f n = some r) : AM X l yX6_tryLine cX6_tryLine 5 none 1 0 0 [.ref v0] f n (QHv r) := by
  have h : ((gI f v0 6 9).bind fun x1 => ((gR f v0 6 0).bind fun x2 => ((gR f v0 6 0).bind fun x3 => ((x3).bind fun j4 => rCk (isO f j4 5) (((mX5_size j4 f n).bind fun r6 => ((x2).bind fun j8 => rCk (isO r6.2.1 j8 5) (((mX5_next j8 (10 : Int32) x1 r6.1 r6.2.1 r6.2.2).bind fun r10 => ((pO r10.2.1 v0 6 9 (.int (r10.1 + (1 : Int32)))).bind fun f12 => ((gR f12 v0 6 0).bind fun x13 => ((x13).bind fun j14 => rCk (isO f12 j14 5) (((mX5_next j14 (61 : Int32) x1 r10.1 f12 r10.2.2).bind fun r16 => ((gR r16.2.1 v0 6 0).bind fun x18 => ((x18).bind fun j19 => rCk (isO r16.2.1 j19 5) (((mX5_behindBlanks j19 x1 r10.1 r16.2.1 r16.2.2).bind fun r21 => ((pO r21.2.1 v0 6 4 (.int r21.1)).bind fun f23 => ((pO f23 v0 6 1 (.int r10.1)).bind fun f24 => ((pO f24 v0 6 2 (.int r10.1)).bind fun f25 => (if r16.1 = r10.1 then mX6_tryLine_b86 f25 r21.2.2 else ((gR f25 v0 6 0).bind fun x26 => ((gI f25 v0 6 4).bind fun x27 => ((x26).bind fun j28 => rCk (isO f25 j28 5) (((mX5_get j28 x27 f25 r21.2.2).bind fun r30 => (if r30.1 = (35 : Int32) then mX6_tryLine_b86 r30.2.1 r30.2.2 else ((gI r30.2.1 v0 6 4).bind fun x32 => ((pO r30.2.1 v0 6 5 (.int (r16.1 - x32))).bind fun f33 => mX6_tryLine_l102 rFU v0 r10.1 r16.1 (r16.1 - (1 : Int32)) f33 r30.2.2)))))))))))))))))))))))))))))) = some r := h
  refine AM.of (by decide +kernel) rfl (Nat.le_of_ble_eq_true rfl) (fun p e s m args below meth c C hnm => ?_)
  refine aw_nl [some (.ref v0), none, none, none, none] rfl ?_
  refine aw_ald_n C dX6_tryLine_0 rfl ?_
  obtain ⟨x1, hx1, h⟩ := Option.bind_eq_some_iff.mp h
  refine ah_getI C gf_X6_24 hx1 dX6_tryLine_1 ?_
  refine aw_istore_n C dX6_tryLine_4 (by decide) rfl ?_
  refine aw_nl [some (.ref v0), some (.int x1), none, none, none] rfl ?_
  refine aw_ald_n C dX6_tryLine_5 rfl ?_
  obtain ⟨x2, hx2, h⟩ := Option.bind_eq_some_iff.mp h
  refine ah_getR C gf_X6_14 hx2 dX6_tryLine_6 ?_
  refine aw_bipush C 10 dX6_tryLine_9 kb_10 ?_
  refine aw_iload_n C dX6_tryLine_11 rfl ?_
  refine aw_ald_n C dX6_tryLine_12 rfl ?_
  obtain ⟨x3, hx3, h⟩ := Option.bind_eq_some_iff.mp h
  refine ah_getR C gf_X6_14 hx3 dX6_tryLine_13 ?_
  obtain ⟨j4, hj4, h⟩ := Option.bind_eq_some_iff.mp h
  rw [hj4]
  obtain ⟨hb5, h⟩ := ck_some h
  obtain ⟨r6, hr6, h⟩ := Option.bind_eq_some_iff.mp h
  obtain ⟨fs7, hf7⟩ := isO_ex hb5
  refine aw_callV C (ci := 5) (b := j4) [] mv_X6_37 rfl rfl hf7 (rmX5_size hr6) rfl dX6_tryLine_16 (Nat.le_of_ble_eq_true rfl) (Nat.le_of_ble_eq_true rfl) rfl (cs_1 rfl (cs_1 rfl (cs_1 (rf_cat _) cs_0))) (show 0 + 0 ≤ 0 by omega) (show 0 + 0 ≤ 0 by omega) (fun v9 f9 n9 hh => ?_)
  obtain ⟨rfl, rfl, rfl⟩ := hh
  obtain ⟨j8, hj8, h⟩ := Option.bind_eq_some_iff.mp h
  rw [hj8]
  obtain ⟨hb9, h⟩ := ck_some h
  obtain ⟨r10, hr10, h⟩ := Option.bind_eq_some_iff.mp h
  obtain ⟨fs11, hf11⟩ := isO_ex hb9
  refine aw_callV C (ci := 5) (b := j8) [.int (10 : Int32), .int x1, .int r6.1] mv_X6_59 rfl rfl hf11 (rmX5_next hr10) rfl dX6_tryLine_19 (Nat.le_of_ble_eq_true rfl) (Nat.le_of_ble_eq_true rfl) rfl (Nat.le_of_ble_eq_true rfl) (show (0 + 0) + 0 ≤ 0 by omega) (show (0 + 0) + 0 ≤ 0 by omega) (fun v9 f9 n9 hh => ?_)
  obtain ⟨rfl, rfl, rfl⟩ := hh
  refine aw_istore_n C dX6_tryLine_22 (by decide) rfl ?_
  refine aw_nl [some (.ref v0), some (.int x1), some (.int r10.1), none, none] rfl ?_
  refine aw_ald_n C dX6_tryLine_23 rfl ?_
  refine aw_iload_n C dX6_tryLine_24 rfl ?_
  refine aw_iconst C 1 dX6_tryLine_25 ki_1 ?_
  refine aw_iadd C dX6_tryLine_26 ?_
  obtain ⟨f12, hf12, h⟩ := Option.bind_eq_some_iff.mp h
  refine ah_put C gf_X6_24 cf6 nf6_9 rfl rfl hf12 dX6_tryLine_27 ?_
  refine aw_ald_n C dX6_tryLine_30 rfl ?_
  obtain ⟨x13, hx13, h⟩ := Option.bind_eq_some_iff.mp h
  refine ah_getR C gf_X6_14 hx13 dX6_tryLine_31 ?_
  refine aw_bipush C 61 dX6_tryLine_34 kb_61 ?_
  refine aw_iload_n C dX6_tryLine_36 rfl ?_
  refine aw_iload_n C dX6_tryLine_37 rfl ?_
  obtain ⟨j14, hj14, h⟩ := Option.bind_eq_some_iff.mp h
  rw [hj14]
  obtain ⟨hb15, h⟩ := ck_some h
  obtain ⟨r16, hr16, h⟩ := Option.bind_eq_some_iff.mp h
  obtain ⟨fs17, hf17⟩ := isO_ex hb15
  refine aw_callV C (ci := 5) (b := j14) [.int (61 : Int32), .int x1, .int r10.1] mv_X6_59 rfl rfl hf17 (rmX5_next hr16) rfl dX6_tryLine_38 (Nat.le_of_ble_eq_true rfl) (Nat.le_of_ble_eq_true rfl) rfl (Nat.le_of_ble_eq_true rfl) (show ((0 + 0) + 0) + 0 ≤ 0 by omega) (show ((0 + 0) + 0) + 0 ≤ 0 by omega) (fun v9 f9 n9 hh => ?_)
  obtain ⟨rfl, rfl, rfl⟩ := hh
  refine aw_istore_n C dX6_tryLine_41 (by decide) rfl ?_
  refine aw_nl [some (.ref v0), some (.int x1), some (.int r10.1), some (.int r16.1), none] rfl ?_
  refine aw_ald_n C dX6_tryLine_42 rfl ?_
  refine aw_ald_n C dX6_tryLine_43 rfl ?_
  obtain ⟨x18, hx18, h⟩ := Option.bind_eq_some_iff.mp h
  refine ah_getR C gf_X6_14 hx18 dX6_tryLine_44 ?_
  refine aw_iload_n C dX6_tryLine_47 rfl ?_
  refine aw_iload_n C dX6_tryLine_48 rfl ?_
  obtain ⟨j19, hj19, h⟩ := Option.bind_eq_some_iff.mp h
  rw [hj19]
  obtain ⟨hb20, h⟩ := ck_some h
  obtain ⟨r21, hr21, h⟩ := Option.bind_eq_some_iff.mp h
  obtain ⟨fs22, hf22⟩ := isO_ex hb20
  refine aw_callV C (ci := 5) (b := j19) [.int x1, .int r10.1] mv_X6_63 rfl rfl hf22 (rmX5_behindBlanks hr21) rfl dX6_tryLine_49 (Nat.le_of_ble_eq_true rfl) (Nat.le_of_ble_eq_true rfl) rfl (Nat.le_of_ble_eq_true rfl) (show (((0 + 0) + 0) + 0) + 0 ≤ 0 by omega) (show (((0 + 0) + 0) + 0) + 0 ≤ 0 by omega) (fun v9 f9 n9 hh => ?_)
  obtain ⟨rfl, rfl, rfl⟩ := hh
  obtain ⟨f23, hf23, h⟩ := Option.bind_eq_some_iff.mp h
  refine ah_put C gf_X6_31 cf6 nf6_4 rfl rfl hf23 dX6_tryLine_52 ?_
  refine aw_ald_n C dX6_tryLine_55 rfl ?_
  refine aw_iload_n C dX6_tryLine_56 rfl ?_
  obtain ⟨f24, hf24, h⟩ := Option.bind_eq_some_iff.mp h
  refine ah_put C gf_X6_53 cf6 nf6_1 rfl rfl hf24 dX6_tryLine_57 ?_
  refine aw_ald_n C dX6_tryLine_60 rfl ?_
  refine aw_iload_n C dX6_tryLine_61 rfl ?_
  obtain ⟨f25, hf25, h⟩ := Option.bind_eq_some_iff.mp h
  refine ah_put C gf_X6_56 cf6 nf6_2 rfl rfl hf25 dX6_tryLine_62 ?_
  refine aw_iload_n C dX6_tryLine_65 rfl ?_
  refine aw_iload_n C dX6_tryLine_66 rfl ?_
  refine aw_icmp_eq C 86 dX6_tryLine_67 (by decide) (fun q => ?_) (fun q => ?_)
  · rw [if_pos q] at h
    refine aw_fl [none, none, none, none, none] trivial ?_
    exact rmX6_tryLine_b86 C (by omega) (by omega) h
  · rw [if_neg q] at h
    refine aw_ald_n C dX6_tryLine_70 rfl ?_
    obtain ⟨x26, hx26, h⟩ := Option.bind_eq_some_iff.mp h
    refine ah_getR C gf_X6_14 hx26 dX6_tryLine_71 ?_
    refine aw_ald_n C dX6_tryLine_74 rfl ?_
    obtain ⟨x27, hx27, h⟩ := Option.bind_eq_some_iff.mp h
    refine ah_getI C gf_X6_31 hx27 dX6_tryLine_75 ?_
    obtain ⟨j28, hj28, h⟩ := Option.bind_eq_some_iff.mp h
    rw [hj28]
    obtain ⟨hb29, h⟩ := ck_some h
    obtain ⟨r30, hr30, h⟩ := Option.bind_eq_some_iff.mp h
    obtain ⟨fs31, hf31⟩ := isO_ex hb29
    refine aw_callV C (ci := 5) (b := j28) [.int x27] mv_X6_67 rfl rfl hf31 (rmX5_get hr30) rfl dX6_tryLine_78 (Nat.le_of_ble_eq_true rfl) (Nat.le_of_ble_eq_true rfl) rfl (Nat.le_of_ble_eq_true rfl) (show ((((0 + 0) + 0) + 0) + 0) + 0 ≤ 0 by omega) (show ((((0 + 0) + 0) + 0) + 0) + 0 ≤ 0 by omega) (fun v9 f9 n9 hh => ?_)
    obtain ⟨rfl, rfl, rfl⟩ := hh
    refine aw_bipush C 35 dX6_tryLine_81 kb_35 ?_
    refine aw_icmp_ne C 87 dX6_tryLine_83 (by decide) (fun q => ?_) (fun q => ?_)
    · rw [if_neg q] at h
      refine aw_ald_n C dX6_tryLine_87 rfl ?_
      refine aw_iload_n C dX6_tryLine_88 rfl ?_
      refine aw_ald_n C dX6_tryLine_89 rfl ?_
      obtain ⟨x32, hx32, h⟩ := Option.bind_eq_some_iff.mp h
      refine ah_getI C gf_X6_31 hx32 dX6_tryLine_90 ?_
      refine aw_isub C dX6_tryLine_93 ?_
      obtain ⟨f33, hf33, h⟩ := Option.bind_eq_some_iff.mp h
      refine ah_put C gf_X6_34 cf6 nf6_5 rfl rfl hf33 dX6_tryLine_94 ?_
      refine aw_iload_n C dX6_tryLine_97 rfl ?_
      refine aw_iconst C 1 dX6_tryLine_98 ki_1 ?_
      refine aw_isub C dX6_tryLine_99 ?_
      refine aw_istore C dX6_tryLine_100 (by decide) rfl ?_
      refine aw_nl [some (.ref v0), some (.int x1), some (.int r10.1), some (.int r16.1), some (.int (r16.1 - (1 : Int32)))] rfl ?_
      refine aw_fl [some (.ref v0), none, some (.int r10.1), some (.int r16.1), some (.int (r16.1 - (1 : Int32)))] ⟨rfl, ⟨rfl, ⟨rfl, ⟨rfl, trivial⟩⟩⟩⟩ ?_
      exact rmX6_tryLine_l102 C rFU v0 r10.1 r16.1 (r16.1 - (1 : Int32)) f33 r30.2.2 _ _ (by omega) (by omega) h
    · rw [if_pos q] at h
      refine aw_fl [none, none, none, none, none] trivial ?_
      exact rmX6_tryLine_b86 C (by omega) (by omega) h
def mX5_cellQuoteEnd_b80 (s0 : Int32) (f : AH) (n : Nat) : Option (Int32 × HpN) := some (s0, (f, n))
set_option maxHeartbeats 1000000 in
theorem rmX5_cellQuoteEnd_b80 {X : GX} {p : Program} {l : Launch} {e : Env} {s : State} {m : MethodId} {args : Array Value} {below : List Frame} {meth : Method} {c : Code} {r : Int32 × HpN} {s0 : Int32} {f : AH} {n cells slots : Nat} (C : CC X p l (RM 0 0 0) s m args meth c RX5 cX5_cellQuoteEnd 4 (some .int)) (hc : cells + 0 ≤ 0) (hs : slots + 0 ≤ 0) (h : mX5_cellQuoteEnd_b80 s0 f n = some r) : AW X p l e (RM 0 0 0) s m args below meth c 4 (ZM X below args s 0 0 (QHi r)) f n cells slots 80 [none, none, none, none] [.int s0] := by
  have h : some (s0, (f, n)) = some r := h
  cases h
  exact aw_iret C rfl rfl dX5_cellQuoteEnd_80 (by omega) (by omega) ⟨rfl, rfl, rfl⟩
def mX5_cellQuoteEnd_b63 (v0 : Nat) (v2 : Int32) (f : AH) (n : Nat) : Option (Int32 × HpN) := (if v2 = (0 : Int32) then ((gI f v0 5 1).bind fun x1 => mX5_cellQuoteEnd_b80 x1 f n) else ((gI f v0 5 1).bind fun x2 => mX5_cellQuoteEnd_b80 (x2 - (1 : Int32)) f n))
set_option maxHeartbeats 1000000 in
theorem rmX5_cellQuoteEnd_b63 {X : GX} {p : Program} {l : Launch} {e : Env} {s : State} {m : MethodId} {args : Array Value} {below : List Frame} {meth : Method} {c : Code} {r : Int32 × HpN} {v0 : Nat} {v2 : Int32} {f : AH} {n cells slots : Nat} (C : CC X p l (RM 0 0 0) s m args meth c RX5 cX5_cellQuoteEnd 4 (some .int)) (hc : cells + 0 ≤ 0) (hs : slots + 0 ≤ 0) (h : mX5_cellQuoteEnd_b63 v0 v2 f n = some r) : AW X p l e (RM 0 0 0) s m args below meth c 4 (ZM X below args s 0 0 (QHi r)) f n cells slots 63 [some (.ref v0), none, some (.int v2), none] [] := by
  have h : (if v2 = (0 : Int32) then ((gI f v0 5 1).bind fun x1 => mX5_cellQuoteEnd_b80 x1 f n) else ((gI f v0 5 1).bind fun x2 => mX5_cellQuoteEnd_b80 (x2 - (1 : Int32)) f n)) = some r := h
  refine aw_iload_n C dX5_cellQuoteEnd_63 rfl ?_
  refine aw_if_eq C 76 dX5_cellQuoteEnd_64 (by decide) (fun q => ?_) (fun q => ?_)
  · rw [if_pos q] at h
    refine aw_ald_n C dX5_cellQuoteEnd_76 rfl ?_
    obtain ⟨x1, hx1, h⟩ := Option.bind_eq_some_iff.mp h
    refine ah_getI C gf_X5_15 hx1 dX5_cellQuoteEnd_77 ?_
    refine aw_fl [none, none, none, none] trivial ?_
    exact rmX5_cellQuoteEnd_b80 C (by omega) (by omega) h
  · rw [if_neg q] at h
    refine aw_ald_n C dX5_cellQuoteEnd_67 rfl ?_
    obtain ⟨x2, hx2, h⟩ := Option.bind_eq_some_iff.mp h
    refine ah_getI C gf_X5_15 hx2 dX5_cellQuoteEnd_68 ?_
    refine aw_iconst C 1 dX5_cellQuoteEnd_71 ki_1 ?_
    refine aw_isub C dX5_cellQuoteEnd_72 ?_
    refine aw_goto C 80 dX5_cellQuoteEnd_73 (by decide) ?_
    refine aw_fl [none, none, none, none] trivial ?_
    exact rmX5_cellQuoteEnd_b80 C (by omega) (by omega) h
def mX5_cellQuoteEnd_b57 (rec4 : Nat → Int32 → Int32 → AH → Nat → Option (Int32 × HpN)) (v0 : Nat) (v2 : Int32) (v3 : Int32) (f : AH) (n : Nat) : Option (Int32 × HpN) := rec4 v0 v2 (v3 + (1 : Int32)) f n
set_option maxHeartbeats 1000000 in
theorem rmX5_cellQuoteEnd_b57 {X : GX} {p : Program} {l : Launch} {e : Env} {s : State} {m : MethodId} {args : Array Value} {below : List Frame} {meth : Method} {c : Code} {r : Int32 × HpN} {rec4 : Nat → Int32 → Int32 → AH → Nat → Option (Int32 × HpN)} {v0 : Nat} {v2 : Int32} {v3 : Int32} {f : AH} {n cells slots : Nat} (C : CC X p l (RM 0 0 0) s m args meth c RX5 cX5_cellQuoteEnd 4 (some .int)) (Hr4 : ∀ (v0 : Nat) (v2 : Int32) (v3 : Int32) (f : AH) (n cells slots : Nat), cells + 0 ≤ 0 → slots + 0 ≤ 0 → rec4 v0 v2 v3 f n = some r → AW X p l e (RM 0 0 0) s m args below meth c 4 (ZM X below args s 0 0 (QHi r)) f n cells slots 4 [some (.ref v0), none, some (.int v2), some (.int v3)] []) (hc : cells + 0 ≤ 0) (hs : slots + 0 ≤ 0) (h : mX5_cellQuoteEnd_b57 rec4 v0 v2 v3 f n = some r) : AW X p l e (RM 0 0 0) s m args below meth c 4 (ZM X below args s 0 0 (QHi r)) f n cells slots 57 [some (.ref v0), none, some (.int v2), some (.int v3)] [] := by
  have h : rec4 v0 v2 (v3 + (1 : Int32)) f n = some r := h
  refine aw_iinc C (v3 + (1 : Int32)) dX5_cellQuoteEnd_57 rfl (by rw [ki_1]) (by decide) rfl ?_
  refine aw_nl [some (.ref v0), none, some (.int v2), some (.int (v3 + (1 : Int32)))] rfl ?_
  refine aw_goto C 4 dX5_cellQuoteEnd_60 (by decide) ?_
  refine aw_fl [some (.ref v0), none, some (.int v2), some (.int (v3 + (1 : Int32)))] ⟨rfl, ⟨rfl, ⟨rfl, trivial⟩⟩⟩ ?_
  exact Hr4 v0 v2 (v3 + (1 : Int32)) f n _ _ (by omega) (by omega) h
def mX5_cellQuoteEnd_b45 (rec4 : Nat → Int32 → Int32 → AH → Nat → Option (Int32 × HpN)) (v0 : Nat) (v3 : Int32) (s0 : Int32) (f : AH) (n : Nat) : Option (Int32 × HpN) := mX5_cellQuoteEnd_b57 rec4 v0 s0 v3 f n
set_option maxHeartbeats 1000000 in
theorem rmX5_cellQuoteEnd_b45 {X : GX} {p : Program} {l : Launch} {e : Env} {s : State} {m : MethodId} {args : Array Value} {below : List Frame} {meth : Method} {c : Code} {r : Int32 × HpN} {rec4 : Nat → Int32 → Int32 → AH → Nat → Option (Int32 × HpN)} {v0 : Nat} {v3 : Int32} {s0 : Int32} {f : AH} {n cells slots : Nat} (C : CC X p l (RM 0 0 0) s m args meth c RX5 cX5_cellQuoteEnd 4 (some .int)) (Hr4 : ∀ (v0 : Nat) (v2 : Int32) (v3 : Int32) (f : AH) (n cells slots : Nat), cells + 0 ≤ 0 → slots + 0 ≤ 0 → rec4 v0 v2 v3 f n = some r → AW X p l e (RM 0 0 0) s m args below meth c 4 (ZM X below args s 0 0 (QHi r)) f n cells slots 4 [some (.ref v0), none, some (.int v2), some (.int v3)] []) (hc : cells + 0 ≤ 0) (hs : slots + 0 ≤ 0) (h : mX5_cellQuoteEnd_b45 rec4 v0 v3 s0 f n = some r) : AW X p l e (RM 0 0 0) s m args below meth c 4 (ZM X below args s 0 0 (QHi r)) f n cells slots 45 [some (.ref v0), none, none, some (.int v3)] [.int s0] := by
  have h : mX5_cellQuoteEnd_b57 rec4 v0 s0 v3 f n = some r := h
  refine aw_istore_n C dX5_cellQuoteEnd_45 (by decide) rfl ?_
  refine aw_nl [some (.ref v0), none, some (.int s0), some (.int v3)] rfl ?_
  refine aw_goto C 57 dX5_cellQuoteEnd_46 (by decide) ?_
  refine aw_fl [some (.ref v0), none, some (.int s0), some (.int v3)] ⟨rfl, ⟨rfl, ⟨rfl, trivial⟩⟩⟩ ?_
  exact rmX5_cellQuoteEnd_b57 C Hr4 (by omega) (by omega) h
def mX5_cellQuoteEnd_l4 : Nat → Nat → Int32 → Int32 → AH → Nat → Option (Int32 × HpN)
  | 0, _, _, _, _, _ => none
  | d + 1, v0, v2, v3, f, n => (if v3 < (0 : Int32) then mX5_cellQuoteEnd_b63 v0 v2 f n else ((gI f v0 5 1).bind fun x1 => (if x1 ≤ v3 then mX5_cellQuoteEnd_b63 v0 v2 f n else ((gR f v0 5 0).bind fun x2 => ((x2).bind fun j3 => ((gL f j3).bind fun x4 => (if (nI x4) ≤ v3 then mX5_cellQuoteEnd_b63 v0 v2 f n else ((gR f v0 5 0).bind fun x5 => ((x5).bind fun j6 => ((gIA f j6 v3).bind fun x7 => (if x7 = (34 : Int32) then (if v2 = (0 : Int32) then mX5_cellQuoteEnd_b45 (fun v0 v2 v3 f n => mX5_cellQuoteEnd_l4 d v0 v2 v3 f n) v0 v3 (1 : Int32) f n else mX5_cellQuoteEnd_b45 (fun v0 v2 v3 f n => mX5_cellQuoteEnd_l4 d v0 v2 v3 f n) v0 v3 (0 : Int32) f n) else (if v2 = (0 : Int32) then mX5_cellQuoteEnd_b57 (fun v0 v2 v3 f n => mX5_cellQuoteEnd_l4 d v0 v2 v3 f n) v0 v2 v3 f n else some ((v3 - (1 : Int32)), (f, n))))))))))))))
set_option maxHeartbeats 1000000 in
theorem rmX5_cellQuoteEnd_l4 {X : GX} {p : Program} {l : Launch} {e : Env} {s : State} {m : MethodId} {args : Array Value} {below : List Frame} {meth : Method} {c : Code} {r : Int32 × HpN} (C : CC X p l (RM 0 0 0) s m args meth c RX5 cX5_cellQuoteEnd 4 (some .int)) : ∀ (d : Nat) (v0 : Nat) (v2 : Int32) (v3 : Int32) (f : AH) (n cells slots : Nat) (_ : cells + 0 ≤ 0) (_ : slots + 0 ≤ 0) (_ : mX5_cellQuoteEnd_l4 d v0 v2 v3 f n = some r), AW X p l e (RM 0 0 0) s m args below meth c 4 (ZM X below args s 0 0 (QHi r)) f n cells slots 4 [some (.ref v0), none, some (.int v2), some (.int v3)] [] := by
  intro d
  induction d with
  | zero =>
    intro v0 v2 v3 f n cells slots hc hs h
    exact nomatch (show (none : Option (Int32 × HpN)) = some r from h)
  | succ d ih =>
    intro v0 v2 v3 f n cells slots hc hs h
    have h : (if v3 < (0 : Int32) then mX5_cellQuoteEnd_b63 v0 v2 f n else ((gI f v0 5 1).bind fun x1 => (if x1 ≤ v3 then mX5_cellQuoteEnd_b63 v0 v2 f n else ((gR f v0 5 0).bind fun x2 => ((x2).bind fun j3 => ((gL f j3).bind fun x4 => (if (nI x4) ≤ v3 then mX5_cellQuoteEnd_b63 v0 v2 f n else ((gR f v0 5 0).bind fun x5 => ((x5).bind fun j6 => ((gIA f j6 v3).bind fun x7 => (if x7 = (34 : Int32) then (if v2 = (0 : Int32) then mX5_cellQuoteEnd_b45 (fun v0 v2 v3 f n => mX5_cellQuoteEnd_l4 d v0 v2 v3 f n) v0 v3 (1 : Int32) f n else mX5_cellQuoteEnd_b45 (fun v0 v2 v3 f n => mX5_cellQuoteEnd_l4 d v0 v2 v3 f n) v0 v3 (0 : Int32) f n) else (if v2 = (0 : Int32) then mX5_cellQuoteEnd_b57 (fun v0 v2 v3 f n => mX5_cellQuoteEnd_l4 d v0 v2 v3 f n) v0 v2 v3 f n else some ((v3 - (1 : Int32)), (f, n)))))))))))))) = some r := h
    refine aw_iload_n C dX5_cellQuoteEnd_4 rfl ?_
    refine aw_if_lt C 63 dX5_cellQuoteEnd_5 (by decide) (fun q => ?_) (fun q => ?_)
    · rw [if_pos q] at h
      refine aw_fl [some (.ref v0), none, some (.int v2), none] ⟨rfl, ⟨rfl, trivial⟩⟩ ?_
      exact rmX5_cellQuoteEnd_b63 C (by omega) (by omega) h
    · rw [if_neg q] at h
      refine aw_iload_n C dX5_cellQuoteEnd_8 rfl ?_
      refine aw_ald_n C dX5_cellQuoteEnd_9 rfl ?_
      obtain ⟨x1, hx1, h⟩ := Option.bind_eq_some_iff.mp h
      refine ah_getI C gf_X5_15 hx1 dX5_cellQuoteEnd_10 ?_
      refine aw_icmp_ge C 63 dX5_cellQuoteEnd_13 (by decide) (fun q => ?_) (fun q => ?_)
      · rw [if_pos q] at h
        refine aw_fl [some (.ref v0), none, some (.int v2), none] ⟨rfl, ⟨rfl, trivial⟩⟩ ?_
        exact rmX5_cellQuoteEnd_b63 C (by omega) (by omega) h
      · rw [if_neg q] at h
        refine aw_iload_n C dX5_cellQuoteEnd_16 rfl ?_
        refine aw_ald_n C dX5_cellQuoteEnd_17 rfl ?_
        obtain ⟨x2, hx2, h⟩ := Option.bind_eq_some_iff.mp h
        refine ah_getR C gf_X5_9 hx2 dX5_cellQuoteEnd_18 ?_
        obtain ⟨j3, hj3, h⟩ := Option.bind_eq_some_iff.mp h
        rw [hj3]
        obtain ⟨x4, hx4, h⟩ := Option.bind_eq_some_iff.mp h
        refine ah_len C hx4 dX5_cellQuoteEnd_21 ?_
        refine aw_icmp_ge C 63 dX5_cellQuoteEnd_22 (by decide) (fun q => ?_) (fun q => ?_)
        · rw [if_pos q] at h
          refine aw_fl [some (.ref v0), none, some (.int v2), none] ⟨rfl, ⟨rfl, trivial⟩⟩ ?_
          exact rmX5_cellQuoteEnd_b63 C (by omega) (by omega) h
        · rw [if_neg q] at h
          refine aw_ald_n C dX5_cellQuoteEnd_25 rfl ?_
          obtain ⟨x5, hx5, h⟩ := Option.bind_eq_some_iff.mp h
          refine ah_getR C gf_X5_9 hx5 dX5_cellQuoteEnd_26 ?_
          refine aw_iload_n C dX5_cellQuoteEnd_29 rfl ?_
          obtain ⟨j6, hj6, h⟩ := Option.bind_eq_some_iff.mp h
          rw [hj6]
          obtain ⟨x7, hx7, h⟩ := Option.bind_eq_some_iff.mp h
          refine ah_iald C hx7 dX5_cellQuoteEnd_30 ?_
          refine aw_bipush C 34 dX5_cellQuoteEnd_31 kb_34 ?_
          refine aw_icmp_ne C 49 dX5_cellQuoteEnd_33 (by decide) (fun q => ?_) (fun q => ?_)
          · rw [if_neg q] at h
            refine aw_iload_n C dX5_cellQuoteEnd_49 rfl ?_
            refine aw_if_eq C 57 dX5_cellQuoteEnd_50 (by decide) (fun q => ?_) (fun q => ?_)
            · rw [if_pos q] at h
              refine aw_fl [some (.ref v0), none, some (.int v2), some (.int v3)] ⟨rfl, ⟨rfl, ⟨rfl, trivial⟩⟩⟩ ?_
              exact rmX5_cellQuoteEnd_b57 C (fun v0 v2 v3 f n cells slots hc hs h => ih v0 v2 v3 f n cells slots hc hs h) (by omega) (by omega) h
            · rw [if_neg q] at h
              refine aw_iload_n C dX5_cellQuoteEnd_53 rfl ?_
              refine aw_iconst C 1 dX5_cellQuoteEnd_54 ki_1 ?_
              refine aw_isub C dX5_cellQuoteEnd_55 ?_
              cases h
              exact aw_iret C rfl rfl dX5_cellQuoteEnd_56 (by omega) (by omega) ⟨rfl, rfl, rfl⟩
          · rw [if_pos q] at h
            refine aw_iload_n C dX5_cellQuoteEnd_36 rfl ?_
            refine aw_if_ne C 44 dX5_cellQuoteEnd_37 (by decide) (fun q => ?_) (fun q => ?_)
            · rw [if_neg q] at h
              refine aw_iconst C 0 dX5_cellQuoteEnd_44 ki_0 ?_
              refine aw_fl [some (.ref v0), none, none, some (.int v3)] ⟨rfl, ⟨rfl, trivial⟩⟩ ?_
              exact rmX5_cellQuoteEnd_b45 C (fun v0 v2 v3 f n cells slots hc hs h => ih v0 v2 v3 f n cells slots hc hs h) (by omega) (by omega) h
            · rw [if_pos q] at h
              refine aw_iconst C 1 dX5_cellQuoteEnd_40 ki_1 ?_
              refine aw_goto C 45 dX5_cellQuoteEnd_41 (by decide) ?_
              refine aw_fl [some (.ref v0), none, none, some (.int v3)] ⟨rfl, ⟨rfl, trivial⟩⟩ ?_
              exact rmX5_cellQuoteEnd_b45 C (fun v0 v2 v3 f n cells slots hc hs h => ih v0 v2 v3 f n cells slots hc hs h) (by omega) (by omega) h
def mX5_cellQuoteEnd (v0 : Nat) (v1 : Int32) (f : AH) (n : Nat) : Option (Int32 × HpN) := mX5_cellQuoteEnd_l4 rFU v0 (0 : Int32) v1 f n
set_option maxHeartbeats 1000000 in
theorem rmX5_cellQuoteEnd {X : GX} {l : Launch} {r : Int32 × HpN} {v0 : Nat} {v1 : Int32} {f : AH} {n : Nat} (h : mX5_cellQuoteEnd v0 v1 f n = some r) : AM X l yX5_cellQuoteEnd cX5_cellQuoteEnd 4 (some .int) 0 0 0 [.ref v0, .int v1] f n (QHi r) := by
  have h : mX5_cellQuoteEnd_l4 rFU v0 (0 : Int32) v1 f n = some r := h
  refine AM.of (by decide +kernel) rfl (Nat.le_of_ble_eq_true rfl) (fun p e s m args below meth c C hnm => ?_)
  refine aw_nl [some (.ref v0), some (.int v1), none, none] rfl ?_
  refine aw_iconst C 0 dX5_cellQuoteEnd_0 ki_0 ?_
  refine aw_istore_n C dX5_cellQuoteEnd_1 (by decide) rfl ?_
  refine aw_nl [some (.ref v0), some (.int v1), some (.int (0 : Int32)), none] rfl ?_
  refine aw_iload_n C dX5_cellQuoteEnd_2 rfl ?_
  refine aw_istore_n C dX5_cellQuoteEnd_3 (by decide) rfl ?_
  refine aw_nl [some (.ref v0), some (.int v1), some (.int (0 : Int32)), some (.int v1)] rfl ?_
  refine aw_fl [some (.ref v0), none, some (.int (0 : Int32)), some (.int v1)] ⟨rfl, ⟨rfl, ⟨rfl, trivial⟩⟩⟩ ?_
  exact rmX5_cellQuoteEnd_l4 C rFU v0 (0 : Int32) v1 f n _ _ (by omega) (by omega) h
def mX5_cellEnd_b53 (v0 : Nat) (f : AH) (n : Nat) : Option (Int32 × HpN) := ((gI f v0 5 1).bind fun x1 => some (x1, (f, n)))
set_option maxHeartbeats 1000000 in
theorem rmX5_cellEnd_b53 {X : GX} {p : Program} {l : Launch} {e : Env} {s : State} {m : MethodId} {args : Array Value} {below : List Frame} {meth : Method} {c : Code} {r : Int32 × HpN} {v0 : Nat} {f : AH} {n cells slots : Nat} (C : CC X p l (RM 0 0 0) s m args meth c RX5 cX5_cellEnd 3 (some .int)) (hc : cells + 0 ≤ 0) (hs : slots + 0 ≤ 0) (h : mX5_cellEnd_b53 v0 f n = some r) : AW X p l e (RM 0 0 0) s m args below meth c 3 (ZM X below args s 0 0 (QHi r)) f n cells slots 53 [some (.ref v0), none, none] [] := by
  have h : ((gI f v0 5 1).bind fun x1 => some (x1, (f, n))) = some r := h
  refine aw_ald_n C dX5_cellEnd_53 rfl ?_
  obtain ⟨x1, hx1, h⟩ := Option.bind_eq_some_iff.mp h
  refine ah_getI C gf_X5_15 hx1 dX5_cellEnd_54 ?_
  cases h
  exact aw_iret C rfl rfl dX5_cellEnd_57 (by omega) (by omega) ⟨rfl, rfl, rfl⟩
def mX5_cellEnd_b45 (v2 : Int32) (f : AH) (n : Nat) : Option (Int32 × HpN) := some (v2, (f, n))
set_option maxHeartbeats 1000000 in
theorem rmX5_cellEnd_b45 {X : GX} {p : Program} {l : Launch} {e : Env} {s : State} {m : MethodId} {args : Array Value} {below : List Frame} {meth : Method} {c : Code} {r : Int32 × HpN} {v2 : Int32} {f : AH} {n cells slots : Nat} (C : CC X p l (RM 0 0 0) s m args meth c RX5 cX5_cellEnd 3 (some .int)) (hc : cells + 0 ≤ 0) (hs : slots + 0 ≤ 0) (h : mX5_cellEnd_b45 v2 f n = some r) : AW X p l e (RM 0 0 0) s m args below meth c 3 (ZM X below args s 0 0 (QHi r)) f n cells slots 45 [none, none, some (.int v2)] [] := by
  have h : some (v2, (f, n)) = some r := h
  refine aw_iload_n C dX5_cellEnd_45 rfl ?_
  cases h
  exact aw_iret C rfl rfl dX5_cellEnd_46 (by omega) (by omega) ⟨rfl, rfl, rfl⟩
def mX5_cellEnd_l2 : Nat → Nat → Int32 → AH → Nat → Option (Int32 × HpN)
  | 0, _, _, _, _ => none
  | d + 1, v0, v2, f, n => (if v2 < (0 : Int32) then mX5_cellEnd_b53 v0 f n else ((gI f v0 5 1).bind fun x1 => (if x1 ≤ v2 then mX5_cellEnd_b53 v0 f n else ((gR f v0 5 0).bind fun x2 => ((x2).bind fun j3 => ((gL f j3).bind fun x4 => (if (nI x4) ≤ v2 then mX5_cellEnd_b53 v0 f n else ((gR f v0 5 0).bind fun x5 => ((x5).bind fun j6 => ((gIA f j6 v2).bind fun x7 => (if x7 = (44 : Int32) then mX5_cellEnd_b45 v2 f n else ((gR f v0 5 0).bind fun x8 => ((x8).bind fun j9 => ((gIA f j9 v2).bind fun x10 => (if x10 = (10 : Int32) then mX5_cellEnd_b45 v2 f n else mX5_cellEnd_l2 d v0 (v2 + (1 : Int32)) f n)))))))))))))))
set_option maxHeartbeats 1000000 in
theorem rmX5_cellEnd_l2 {X : GX} {p : Program} {l : Launch} {e : Env} {s : State} {m : MethodId} {args : Array Value} {below : List Frame} {meth : Method} {c : Code} {r : Int32 × HpN} (C : CC X p l (RM 0 0 0) s m args meth c RX5 cX5_cellEnd 3 (some .int)) : ∀ (d : Nat) (v0 : Nat) (v2 : Int32) (f : AH) (n cells slots : Nat) (_ : cells + 0 ≤ 0) (_ : slots + 0 ≤ 0) (_ : mX5_cellEnd_l2 d v0 v2 f n = some r), AW X p l e (RM 0 0 0) s m args below meth c 3 (ZM X below args s 0 0 (QHi r)) f n cells slots 2 [some (.ref v0), none, some (.int v2)] [] := by
  intro d
  induction d with
  | zero =>
    intro v0 v2 f n cells slots hc hs h
    exact nomatch (show (none : Option (Int32 × HpN)) = some r from h)
  | succ d ih =>
    intro v0 v2 f n cells slots hc hs h
    have h : (if v2 < (0 : Int32) then mX5_cellEnd_b53 v0 f n else ((gI f v0 5 1).bind fun x1 => (if x1 ≤ v2 then mX5_cellEnd_b53 v0 f n else ((gR f v0 5 0).bind fun x2 => ((x2).bind fun j3 => ((gL f j3).bind fun x4 => (if (nI x4) ≤ v2 then mX5_cellEnd_b53 v0 f n else ((gR f v0 5 0).bind fun x5 => ((x5).bind fun j6 => ((gIA f j6 v2).bind fun x7 => (if x7 = (44 : Int32) then mX5_cellEnd_b45 v2 f n else ((gR f v0 5 0).bind fun x8 => ((x8).bind fun j9 => ((gIA f j9 v2).bind fun x10 => (if x10 = (10 : Int32) then mX5_cellEnd_b45 v2 f n else mX5_cellEnd_l2 d v0 (v2 + (1 : Int32)) f n))))))))))))))) = some r := h
    refine aw_iload_n C dX5_cellEnd_2 rfl ?_
    refine aw_if_lt C 53 dX5_cellEnd_3 (by decide) (fun q => ?_) (fun q => ?_)
    · rw [if_pos q] at h
      refine aw_fl [some (.ref v0), none, none] ⟨rfl, trivial⟩ ?_
      exact rmX5_cellEnd_b53 C (by omega) (by omega) h
    · rw [if_neg q] at h
      refine aw_iload_n C dX5_cellEnd_6 rfl ?_
      refine aw_ald_n C dX5_cellEnd_7 rfl ?_
      obtain ⟨x1, hx1, h⟩ := Option.bind_eq_some_iff.mp h
      refine ah_getI C gf_X5_15 hx1 dX5_cellEnd_8 ?_
      refine aw_icmp_ge C 53 dX5_cellEnd_11 (by decide) (fun q => ?_) (fun q => ?_)
      · rw [if_pos q] at h
        refine aw_fl [some (.ref v0), none, none] ⟨rfl, trivial⟩ ?_
        exact rmX5_cellEnd_b53 C (by omega) (by omega) h
      · rw [if_neg q] at h
        refine aw_iload_n C dX5_cellEnd_14 rfl ?_
        refine aw_ald_n C dX5_cellEnd_15 rfl ?_
        obtain ⟨x2, hx2, h⟩ := Option.bind_eq_some_iff.mp h
        refine ah_getR C gf_X5_9 hx2 dX5_cellEnd_16 ?_
        obtain ⟨j3, hj3, h⟩ := Option.bind_eq_some_iff.mp h
        rw [hj3]
        obtain ⟨x4, hx4, h⟩ := Option.bind_eq_some_iff.mp h
        refine ah_len C hx4 dX5_cellEnd_19 ?_
        refine aw_icmp_ge C 53 dX5_cellEnd_20 (by decide) (fun q => ?_) (fun q => ?_)
        · rw [if_pos q] at h
          refine aw_fl [some (.ref v0), none, none] ⟨rfl, trivial⟩ ?_
          exact rmX5_cellEnd_b53 C (by omega) (by omega) h
        · rw [if_neg q] at h
          refine aw_ald_n C dX5_cellEnd_23 rfl ?_
          obtain ⟨x5, hx5, h⟩ := Option.bind_eq_some_iff.mp h
          refine ah_getR C gf_X5_9 hx5 dX5_cellEnd_24 ?_
          refine aw_iload_n C dX5_cellEnd_27 rfl ?_
          obtain ⟨j6, hj6, h⟩ := Option.bind_eq_some_iff.mp h
          rw [hj6]
          obtain ⟨x7, hx7, h⟩ := Option.bind_eq_some_iff.mp h
          refine ah_iald C hx7 dX5_cellEnd_28 ?_
          refine aw_bipush C 44 dX5_cellEnd_29 kb_44 ?_
          refine aw_icmp_eq C 45 dX5_cellEnd_31 (by decide) (fun q => ?_) (fun q => ?_)
          · rw [if_pos q] at h
            refine aw_fl [none, none, some (.int v2)] ⟨rfl, trivial⟩ ?_
            exact rmX5_cellEnd_b45 C (by omega) (by omega) h
          · rw [if_neg q] at h
            refine aw_ald_n C dX5_cellEnd_34 rfl ?_
            obtain ⟨x8, hx8, h⟩ := Option.bind_eq_some_iff.mp h
            refine ah_getR C gf_X5_9 hx8 dX5_cellEnd_35 ?_
            refine aw_iload_n C dX5_cellEnd_38 rfl ?_
            obtain ⟨j9, hj9, h⟩ := Option.bind_eq_some_iff.mp h
            rw [hj9]
            obtain ⟨x10, hx10, h⟩ := Option.bind_eq_some_iff.mp h
            refine ah_iald C hx10 dX5_cellEnd_39 ?_
            refine aw_bipush C 10 dX5_cellEnd_40 kb_10 ?_
            refine aw_icmp_ne C 47 dX5_cellEnd_42 (by decide) (fun q => ?_) (fun q => ?_)
            · rw [if_neg q] at h
              refine aw_iinc C (v2 + (1 : Int32)) dX5_cellEnd_47 rfl (by rw [ki_1]) (by decide) rfl ?_
              refine aw_nl [some (.ref v0), none, some (.int (v2 + (1 : Int32)))] rfl ?_
              refine aw_goto C 2 dX5_cellEnd_50 (by decide) ?_
              refine aw_fl [some (.ref v0), none, some (.int (v2 + (1 : Int32)))] ⟨rfl, ⟨rfl, trivial⟩⟩ ?_
              exact ih v0 (v2 + (1 : Int32)) f n _ _ (by omega) (by omega) h
            · rw [if_pos q] at h
              refine aw_fl [none, none, some (.int v2)] ⟨rfl, trivial⟩ ?_
              exact rmX5_cellEnd_b45 C (by omega) (by omega) h
def mX5_cellEnd (v0 : Nat) (v1 : Int32) (f : AH) (n : Nat) : Option (Int32 × HpN) := mX5_cellEnd_l2 rFU v0 v1 f n
set_option maxHeartbeats 1000000 in
theorem rmX5_cellEnd {X : GX} {l : Launch} {r : Int32 × HpN} {v0 : Nat} {v1 : Int32} {f : AH} {n : Nat} (h : mX5_cellEnd v0 v1 f n = some r) : AM X l yX5_cellEnd cX5_cellEnd 3 (some .int) 0 0 0 [.ref v0, .int v1] f n (QHi r) := by
  have h : mX5_cellEnd_l2 rFU v0 v1 f n = some r := h
  refine AM.of (by decide +kernel) rfl (Nat.le_of_ble_eq_true rfl) (fun p e s m args below meth c C hnm => ?_)
  refine aw_nl [some (.ref v0), some (.int v1), none] rfl ?_
  refine aw_iload_n C dX5_cellEnd_0 rfl ?_
  refine aw_istore_n C dX5_cellEnd_1 (by decide) rfl ?_
  refine aw_nl [some (.ref v0), some (.int v1), some (.int v1)] rfl ?_
  refine aw_fl [some (.ref v0), none, some (.int v1)] ⟨rfl, ⟨rfl, trivial⟩⟩ ?_
  exact rmX5_cellEnd_l2 C rFU v0 v1 f n _ _ (by omega) (by omega) h
def mX6_tryCell_b117 (s0 : Nat) (s1 : Int32) (f : AH) (n : Nat) : Option (Int32 × HpN) := ((pO f s0 6 9 (.int s1)).bind fun f1 => some ((0 : Int32), (f1, n)))
set_option maxHeartbeats 1000000 in
theorem rmX6_tryCell_b117 {X : GX} {p : Program} {l : Launch} {e : Env} {s : State} {m : MethodId} {args : Array Value} {below : List Frame} {meth : Method} {c : Code} {r : Int32 × HpN} {s0 : Nat} {s1 : Int32} {f : AH} {n cells slots : Nat} (C : CC X p l (RM 1 0 0) s m args meth c RX6 cX6_tryCell 1 none) (hc : cells + 0 ≤ 0) (hs : slots + 0 ≤ 0) (h : mX6_tryCell_b117 s0 s1 f n = some r) : AW X p l e (RM 1 0 0) s m args below meth c 1 (ZM X below args s 0 0 (QHv r)) f n cells slots 117 [none] [.int s1, .ref s0] := by
  have h : ((pO f s0 6 9 (.int s1)).bind fun f1 => some ((0 : Int32), (f1, n))) = some r := h
  obtain ⟨f1, hf1, h⟩ := Option.bind_eq_some_iff.mp h
  refine ah_put C gf_X6_24 cf6 nf6_9 rfl rfl hf1 dX6_tryCell_117 ?_
  cases h
  exact aw_vret C rfl dX6_tryCell_120 (by omega) (by omega) ⟨rfl, rfl, rfl⟩
def mX6_tryCell_b82 (v0 : Nat) (s0 : Nat) (s1 : Int32) (f : AH) (n : Nat) : Option (Int32 × HpN) := ((pO f s0 6 2 (.int s1)).bind fun f1 => ((gI f1 v0 6 3).bind fun x2 => (if x2 = (0 : Int32) then ((gI f1 v0 6 2).bind fun x3 => mX6_tryCell_b117 v0 (x3 + (1 : Int32)) f1 n) else ((gR f1 v0 6 0).bind fun x4 => ((gI f1 v0 6 2).bind fun x5 => ((x4).bind fun j6 => rCk (isO f1 j6 5) (((mX5_cellEnd j6 (x5 + (1 : Int32)) f1 n).bind fun r8 => mX6_tryCell_b117 v0 (r8.1 + (1 : Int32)) r8.2.1 r8.2.2))))))))
set_option maxHeartbeats 1000000 in
theorem rmX6_tryCell_b82 {X : GX} {p : Program} {l : Launch} {e : Env} {s : State} {m : MethodId} {args : Array Value} {below : List Frame} {meth : Method} {c : Code} {r : Int32 × HpN} {v0 : Nat} {s0 : Nat} {s1 : Int32} {f : AH} {n cells slots : Nat} (C : CC X p l (RM 1 0 0) s m args meth c RX6 cX6_tryCell 1 none) (hc : cells + 0 ≤ 0) (hs : slots + 0 ≤ 0) (h : mX6_tryCell_b82 v0 s0 s1 f n = some r) : AW X p l e (RM 1 0 0) s m args below meth c 1 (ZM X below args s 0 0 (QHv r)) f n cells slots 82 [some (.ref v0)] [.int s1, .ref s0] := by
  have h : ((pO f s0 6 2 (.int s1)).bind fun f1 => ((gI f1 v0 6 3).bind fun x2 => (if x2 = (0 : Int32) then ((gI f1 v0 6 2).bind fun x3 => mX6_tryCell_b117 v0 (x3 + (1 : Int32)) f1 n) else ((gR f1 v0 6 0).bind fun x4 => ((gI f1 v0 6 2).bind fun x5 => ((x4).bind fun j6 => rCk (isO f1 j6 5) (((mX5_cellEnd j6 (x5 + (1 : Int32)) f1 n).bind fun r8 => mX6_tryCell_b117 v0 (r8.1 + (1 : Int32)) r8.2.1 r8.2.2)))))))) = some r := h
  obtain ⟨f1, hf1, h⟩ := Option.bind_eq_some_iff.mp h
  refine ah_put C gf_X6_56 cf6 nf6_2 rfl rfl hf1 dX6_tryCell_82 ?_
  refine aw_ald_n C dX6_tryCell_85 rfl ?_
  refine aw_ald_n C dX6_tryCell_86 rfl ?_
  obtain ⟨x2, hx2, h⟩ := Option.bind_eq_some_iff.mp h
  refine ah_getI C gf_X6_27 hx2 dX6_tryCell_87 ?_
  refine aw_if_eq C 111 dX6_tryCell_90 (by decide) (fun q => ?_) (fun q => ?_)
  · rw [if_pos q] at h
    refine aw_ald_n C dX6_tryCell_111 rfl ?_
    obtain ⟨x3, hx3, h⟩ := Option.bind_eq_some_iff.mp h
    refine ah_getI C gf_X6_56 hx3 dX6_tryCell_112 ?_
    refine aw_iconst C 1 dX6_tryCell_115 ki_1 ?_
    refine aw_iadd C dX6_tryCell_116 ?_
    refine aw_fl [none] trivial ?_
    exact rmX6_tryCell_b117 C (by omega) (by omega) h
  · rw [if_neg q] at h
    refine aw_ald_n C dX6_tryCell_93 rfl ?_
    obtain ⟨x4, hx4, h⟩ := Option.bind_eq_some_iff.mp h
    refine ah_getR C gf_X6_14 hx4 dX6_tryCell_94 ?_
    refine aw_ald_n C dX6_tryCell_97 rfl ?_
    obtain ⟨x5, hx5, h⟩ := Option.bind_eq_some_iff.mp h
    refine ah_getI C gf_X6_56 hx5 dX6_tryCell_98 ?_
    refine aw_iconst C 1 dX6_tryCell_101 ki_1 ?_
    refine aw_iadd C dX6_tryCell_102 ?_
    obtain ⟨j6, hj6, h⟩ := Option.bind_eq_some_iff.mp h
    rw [hj6]
    obtain ⟨hb7, h⟩ := ck_some h
    obtain ⟨r8, hr8, h⟩ := Option.bind_eq_some_iff.mp h
    obtain ⟨fs9, hf9⟩ := isO_ex hb7
    refine aw_callV C (ci := 5) (b := j6) [.int (x5 + (1 : Int32))] mv_X6_74 rfl rfl hf9 (rmX5_cellEnd hr8) rfl dX6_tryCell_103 (Nat.le_of_ble_eq_true rfl) (Nat.le_of_ble_eq_true rfl) rfl (Nat.le_of_ble_eq_true rfl) (show cells + 0 ≤ 0 by omega) (show slots + 0 ≤ 0 by omega) (fun v9 f9 n9 hh => ?_)
    obtain ⟨rfl, rfl, rfl⟩ := hh
    refine aw_iconst C 1 dX6_tryCell_106 ki_1 ?_
    refine aw_iadd C dX6_tryCell_107 ?_
    refine aw_goto C 117 dX6_tryCell_108 (by decide) ?_
    refine aw_fl [none] trivial ?_
    exact rmX6_tryCell_b117 C (by omega) (by omega) h
def mX6_tryCell_b46 (v0 : Nat) (s0 : Nat) (s1 : Int32) (f : AH) (n : Nat) : Option (Int32 × HpN) := ((pO f s0 6 1 (.int s1)).bind fun f1 => ((gI f1 v0 6 3).bind fun x2 => (if x2 = (0 : Int32) then ((gR f1 v0 6 0).bind fun x3 => ((gI f1 v0 6 1).bind fun x4 => ((x3).bind fun j5 => rCk (isO f1 j5 5) (((mX5_cellEnd j5 x4 f1 n).bind fun r7 => mX6_tryCell_b82 v0 v0 r7.1 r7.2.1 r7.2.2))))) else ((gR f1 v0 6 0).bind fun x9 => ((gI f1 v0 6 1).bind fun x10 => ((x9).bind fun j11 => rCk (isO f1 j11 5) (((mX5_cellQuoteEnd j11 x10 f1 n).bind fun r13 => mX6_tryCell_b82 v0 v0 r13.1 r13.2.1 r13.2.2))))))))
set_option maxHeartbeats 1000000 in
theorem rmX6_tryCell_b46 {X : GX} {p : Program} {l : Launch} {e : Env} {s : State} {m : MethodId} {args : Array Value} {below : List Frame} {meth : Method} {c : Code} {r : Int32 × HpN} {v0 : Nat} {s0 : Nat} {s1 : Int32} {f : AH} {n cells slots : Nat} (C : CC X p l (RM 1 0 0) s m args meth c RX6 cX6_tryCell 1 none) (hc : cells + 0 ≤ 0) (hs : slots + 0 ≤ 0) (h : mX6_tryCell_b46 v0 s0 s1 f n = some r) : AW X p l e (RM 1 0 0) s m args below meth c 1 (ZM X below args s 0 0 (QHv r)) f n cells slots 46 [some (.ref v0)] [.int s1, .ref s0] := by
  have h : ((pO f s0 6 1 (.int s1)).bind fun f1 => ((gI f1 v0 6 3).bind fun x2 => (if x2 = (0 : Int32) then ((gR f1 v0 6 0).bind fun x3 => ((gI f1 v0 6 1).bind fun x4 => ((x3).bind fun j5 => rCk (isO f1 j5 5) (((mX5_cellEnd j5 x4 f1 n).bind fun r7 => mX6_tryCell_b82 v0 v0 r7.1 r7.2.1 r7.2.2))))) else ((gR f1 v0 6 0).bind fun x9 => ((gI f1 v0 6 1).bind fun x10 => ((x9).bind fun j11 => rCk (isO f1 j11 5) (((mX5_cellQuoteEnd j11 x10 f1 n).bind fun r13 => mX6_tryCell_b82 v0 v0 r13.1 r13.2.1 r13.2.2)))))))) = some r := h
  obtain ⟨f1, hf1, h⟩ := Option.bind_eq_some_iff.mp h
  refine ah_put C gf_X6_53 cf6 nf6_1 rfl rfl hf1 dX6_tryCell_46 ?_
  refine aw_ald_n C dX6_tryCell_49 rfl ?_
  refine aw_ald_n C dX6_tryCell_50 rfl ?_
  obtain ⟨x2, hx2, h⟩ := Option.bind_eq_some_iff.mp h
  refine ah_getI C gf_X6_27 hx2 dX6_tryCell_51 ?_
  refine aw_if_eq C 71 dX6_tryCell_54 (by decide) (fun q => ?_) (fun q => ?_)
  · rw [if_pos q] at h
    refine aw_ald_n C dX6_tryCell_71 rfl ?_
    obtain ⟨x3, hx3, h⟩ := Option.bind_eq_some_iff.mp h
    refine ah_getR C gf_X6_14 hx3 dX6_tryCell_72 ?_
    refine aw_ald_n C dX6_tryCell_75 rfl ?_
    obtain ⟨x4, hx4, h⟩ := Option.bind_eq_some_iff.mp h
    refine ah_getI C gf_X6_53 hx4 dX6_tryCell_76 ?_
    obtain ⟨j5, hj5, h⟩ := Option.bind_eq_some_iff.mp h
    rw [hj5]
    obtain ⟨hb6, h⟩ := ck_some h
    obtain ⟨r7, hr7, h⟩ := Option.bind_eq_some_iff.mp h
    obtain ⟨fs8, hf8⟩ := isO_ex hb6
    refine aw_callV C (ci := 5) (b := j5) [.int x4] mv_X6_74 rfl rfl hf8 (rmX5_cellEnd hr7) rfl dX6_tryCell_79 (Nat.le_of_ble_eq_true rfl) (Nat.le_of_ble_eq_true rfl) rfl (Nat.le_of_ble_eq_true rfl) (show cells + 0 ≤ 0 by omega) (show slots + 0 ≤ 0 by omega) (fun v9 f9 n9 hh => ?_)
    obtain ⟨rfl, rfl, rfl⟩ := hh
    refine aw_fl [some (.ref v0)] ⟨rfl, trivial⟩ ?_
    exact rmX6_tryCell_b82 C (by omega) (by omega) h
  · rw [if_neg q] at h
    refine aw_ald_n C dX6_tryCell_57 rfl ?_
    obtain ⟨x9, hx9, h⟩ := Option.bind_eq_some_iff.mp h
    refine ah_getR C gf_X6_14 hx9 dX6_tryCell_58 ?_
    refine aw_ald_n C dX6_tryCell_61 rfl ?_
    obtain ⟨x10, hx10, h⟩ := Option.bind_eq_some_iff.mp h
    refine ah_getI C gf_X6_53 hx10 dX6_tryCell_62 ?_
    obtain ⟨j11, hj11, h⟩ := Option.bind_eq_some_iff.mp h
    rw [hj11]
    obtain ⟨hb12, h⟩ := ck_some h
    obtain ⟨r13, hr13, h⟩ := Option.bind_eq_some_iff.mp h
    obtain ⟨fs14, hf14⟩ := isO_ex hb12
    refine aw_callV C (ci := 5) (b := j11) [.int x10] mv_X6_71 rfl rfl hf14 (rmX5_cellQuoteEnd hr13) rfl dX6_tryCell_65 (Nat.le_of_ble_eq_true rfl) (Nat.le_of_ble_eq_true rfl) rfl (Nat.le_of_ble_eq_true rfl) (show cells + 0 ≤ 0 by omega) (show slots + 0 ≤ 0 by omega) (fun v9 f9 n9 hh => ?_)
    obtain ⟨rfl, rfl, rfl⟩ := hh
    refine aw_goto C 82 dX6_tryCell_68 (by decide) ?_
    refine aw_fl [some (.ref v0)] ⟨rfl, trivial⟩ ?_
    exact rmX6_tryCell_b82 C (by omega) (by omega) h
def mX6_tryCell_b22 (v0 : Nat) (s0 : Nat) (s1 : Int32) (f : AH) (n : Nat) : Option (Int32 × HpN) := rCk (rNb s1) (((pO f s0 6 3 (.int s1)).bind fun f2 => ((gI f2 v0 6 3).bind fun x3 => (if x3 = (0 : Int32) then ((gI f2 v0 6 9).bind fun x4 => mX6_tryCell_b46 v0 v0 x4 f2 n) else ((gI f2 v0 6 9).bind fun x5 => mX6_tryCell_b46 v0 v0 (x5 + (1 : Int32)) f2 n)))))
set_option maxHeartbeats 1000000 in
theorem rmX6_tryCell_b22 {X : GX} {p : Program} {l : Launch} {e : Env} {s : State} {m : MethodId} {args : Array Value} {below : List Frame} {meth : Method} {c : Code} {r : Int32 × HpN} {v0 : Nat} {s0 : Nat} {s1 : Int32} {f : AH} {n cells slots : Nat} (C : CC X p l (RM 1 0 0) s m args meth c RX6 cX6_tryCell 1 none) (hc : cells + 0 ≤ 0) (hs : slots + 0 ≤ 0) (h : mX6_tryCell_b22 v0 s0 s1 f n = some r) : AW X p l e (RM 1 0 0) s m args below meth c 1 (ZM X below args s 0 0 (QHv r)) f n cells slots 22 [some (.ref v0)] [.int s1, .ref s0] := by
  have h : rCk (rNb s1) (((pO f s0 6 3 (.int s1)).bind fun f2 => ((gI f2 v0 6 3).bind fun x3 => (if x3 = (0 : Int32) then ((gI f2 v0 6 9).bind fun x4 => mX6_tryCell_b46 v0 v0 x4 f2 n) else ((gI f2 v0 6 9).bind fun x5 => mX6_tryCell_b46 v0 v0 (x5 + (1 : Int32)) f2 n))))) = some r := h
  obtain ⟨hb1, h⟩ := ck_some h
  obtain ⟨f2, hf2, h⟩ := Option.bind_eq_some_iff.mp h
  refine ah_put C gf_X6_27 cf6 nf6_3 (nb_nar hb1) (nb_fit hb1) hf2 dX6_tryCell_22 ?_
  refine aw_ald_n C dX6_tryCell_25 rfl ?_
  refine aw_ald_n C dX6_tryCell_26 rfl ?_
  obtain ⟨x3, hx3, h⟩ := Option.bind_eq_some_iff.mp h
  refine ah_getI C gf_X6_27 hx3 dX6_tryCell_27 ?_
  refine aw_if_eq C 42 dX6_tryCell_30 (by decide) (fun q => ?_) (fun q => ?_)
  · rw [if_pos q] at h
    refine aw_ald_n C dX6_tryCell_42 rfl ?_
    obtain ⟨x4, hx4, h⟩ := Option.bind_eq_some_iff.mp h
    refine ah_getI C gf_X6_24 hx4 dX6_tryCell_43 ?_
    refine aw_fl [some (.ref v0)] ⟨rfl, trivial⟩ ?_
    exact rmX6_tryCell_b46 C (by omega) (by omega) h
  · rw [if_neg q] at h
    refine aw_ald_n C dX6_tryCell_33 rfl ?_
    obtain ⟨x5, hx5, h⟩ := Option.bind_eq_some_iff.mp h
    refine ah_getI C gf_X6_24 hx5 dX6_tryCell_34 ?_
    refine aw_iconst C 1 dX6_tryCell_37 ki_1 ?_
    refine aw_iadd C dX6_tryCell_38 ?_
    refine aw_goto C 46 dX6_tryCell_39 (by decide) ?_
    refine aw_fl [some (.ref v0)] ⟨rfl, trivial⟩ ?_
    exact rmX6_tryCell_b46 C (by omega) (by omega) h
def mX6_tryCell (v0 : Nat) (f : AH) (n : Nat) : Option (Int32 × HpN) := ((gR f v0 6 0).bind fun x1 => ((gI f v0 6 9).bind fun x2 => ((x1).bind fun j3 => rCk (isO f j3 5) (((mX5_get j3 x2 f n).bind fun r5 => (if r5.1 = (34 : Int32) then mX6_tryCell_b22 v0 v0 (1 : Int32) r5.2.1 r5.2.2 else mX6_tryCell_b22 v0 v0 (0 : Int32) r5.2.1 r5.2.2))))))
set_option maxHeartbeats 1000000 in
theorem rmX6_tryCell {X : GX} {l : Launch} {r : Int32 × HpN} {v0 : Nat} {f : AH} {n : Nat} (h : mX6_tryCell v0 f n = some r) : AM X l yX6_tryCell cX6_tryCell 1 none 1 0 0 [.ref v0] f n (QHv r) := by
  have h : ((gR f v0 6 0).bind fun x1 => ((gI f v0 6 9).bind fun x2 => ((x1).bind fun j3 => rCk (isO f j3 5) (((mX5_get j3 x2 f n).bind fun r5 => (if r5.1 = (34 : Int32) then mX6_tryCell_b22 v0 v0 (1 : Int32) r5.2.1 r5.2.2 else mX6_tryCell_b22 v0 v0 (0 : Int32) r5.2.1 r5.2.2)))))) = some r := h
  refine AM.of (by decide +kernel) rfl (Nat.le_of_ble_eq_true rfl) (fun p e s m args below meth c C hnm => ?_)
  refine aw_nl [some (.ref v0)] rfl ?_
  refine aw_ald_n C dX6_tryCell_0 rfl ?_
  refine aw_ald_n C dX6_tryCell_1 rfl ?_
  obtain ⟨x1, hx1, h⟩ := Option.bind_eq_some_iff.mp h
  refine ah_getR C gf_X6_14 hx1 dX6_tryCell_2 ?_
  refine aw_ald_n C dX6_tryCell_5 rfl ?_
  obtain ⟨x2, hx2, h⟩ := Option.bind_eq_some_iff.mp h
  refine ah_getI C gf_X6_24 hx2 dX6_tryCell_6 ?_
  obtain ⟨j3, hj3, h⟩ := Option.bind_eq_some_iff.mp h
  rw [hj3]
  obtain ⟨hb4, h⟩ := ck_some h
  obtain ⟨r5, hr5, h⟩ := Option.bind_eq_some_iff.mp h
  obtain ⟨fs6, hf6⟩ := isO_ex hb4
  refine aw_callV C (ci := 5) (b := j3) [.int x2] mv_X6_67 rfl rfl hf6 (rmX5_get hr5) rfl dX6_tryCell_9 (Nat.le_of_ble_eq_true rfl) (Nat.le_of_ble_eq_true rfl) rfl (Nat.le_of_ble_eq_true rfl) (show 0 + 0 ≤ 0 by omega) (show 0 + 0 ≤ 0 by omega) (fun v9 f9 n9 hh => ?_)
  obtain ⟨rfl, rfl, rfl⟩ := hh
  refine aw_bipush C 34 dX6_tryCell_12 kb_34 ?_
  refine aw_icmp_ne C 21 dX6_tryCell_14 (by decide) (fun q => ?_) (fun q => ?_)
  · rw [if_neg q] at h
    refine aw_iconst C 0 dX6_tryCell_21 ki_0 ?_
    refine aw_fl [some (.ref v0)] ⟨rfl, trivial⟩ ?_
    exact rmX6_tryCell_b22 C (by omega) (by omega) h
  · rw [if_pos q] at h
    refine aw_iconst C 1 dX6_tryCell_17 ki_1 ?_
    refine aw_goto C 22 dX6_tryCell_18 (by decide) ?_
    refine aw_fl [some (.ref v0)] ⟨rfl, trivial⟩ ?_
    exact rmX6_tryCell_b22 C (by omega) (by omega) h
def mX5_behindSpace_b50 (v2 : Int32) (f : AH) (n : Nat) : Option (Int32 × HpN) := some (v2, (f, n))
set_option maxHeartbeats 1000000 in
theorem rmX5_behindSpace_b50 {X : GX} {p : Program} {l : Launch} {e : Env} {s : State} {m : MethodId} {args : Array Value} {below : List Frame} {meth : Method} {c : Code} {r : Int32 × HpN} {v2 : Int32} {f : AH} {n cells slots : Nat} (C : CC X p l (RM 0 0 0) s m args meth c RX5 cX5_behindSpace 4 (some .int)) (hc : cells + 0 ≤ 0) (hs : slots + 0 ≤ 0) (h : mX5_behindSpace_b50 v2 f n = some r) : AW X p l e (RM 0 0 0) s m args below meth c 4 (ZM X below args s 0 0 (QHi r)) f n cells slots 50 [none, none, some (.int v2), none] [] := by
  have h : some (v2, (f, n)) = some r := h
  refine aw_iload_n C dX5_behindSpace_50 rfl ?_
  cases h
  exact aw_iret C rfl rfl dX5_behindSpace_51 (by omega) (by omega) ⟨rfl, rfl, rfl⟩
def mX5_behindSpace_b44 (rec2 : Nat → Int32 → Int32 → AH → Nat → Option (Int32 × HpN)) (v0 : Nat) (v2 : Int32) (v3 : Int32) (f : AH) (n : Nat) : Option (Int32 × HpN) := rec2 v0 v2 (v3 + (1 : Int32)) f n
set_option maxHeartbeats 1000000 in
theorem rmX5_behindSpace_b44 {X : GX} {p : Program} {l : Launch} {e : Env} {s : State} {m : MethodId} {args : Array Value} {below : List Frame} {meth : Method} {c : Code} {r : Int32 × HpN} {rec2 : Nat → Int32 → Int32 → AH → Nat → Option (Int32 × HpN)} {v0 : Nat} {v2 : Int32} {v3 : Int32} {f : AH} {n cells slots : Nat} (C : CC X p l (RM 0 0 0) s m args meth c RX5 cX5_behindSpace 4 (some .int)) (Hr2 : ∀ (v0 : Nat) (v2 : Int32) (v3 : Int32) (f : AH) (n cells slots : Nat), cells + 0 ≤ 0 → slots + 0 ≤ 0 → rec2 v0 v2 v3 f n = some r → AW X p l e (RM 0 0 0) s m args below meth c 4 (ZM X below args s 0 0 (QHi r)) f n cells slots 2 [some (.ref v0), none, some (.int v2), some (.int v3)] []) (hc : cells + 0 ≤ 0) (hs : slots + 0 ≤ 0) (h : mX5_behindSpace_b44 rec2 v0 v2 v3 f n = some r) : AW X p l e (RM 0 0 0) s m args below meth c 4 (ZM X below args s 0 0 (QHi r)) f n cells slots 44 [some (.ref v0), none, some (.int v2), some (.int v3)] [] := by
  have h : rec2 v0 v2 (v3 + (1 : Int32)) f n = some r := h
  refine aw_iinc C (v3 + (1 : Int32)) dX5_behindSpace_44 rfl (by rw [ki_1]) (by decide) rfl ?_
  refine aw_nl [some (.ref v0), none, some (.int v2), some (.int (v3 + (1 : Int32)))] rfl ?_
  refine aw_goto C 2 dX5_behindSpace_47 (by decide) ?_
  refine aw_fl [some (.ref v0), none, some (.int v2), some (.int (v3 + (1 : Int32)))] ⟨rfl, ⟨rfl, ⟨rfl, trivial⟩⟩⟩ ?_
  exact Hr2 v0 v2 (v3 + (1 : Int32)) f n _ _ (by omega) (by omega) h
def mX5_behindSpace_l2 : Nat → Nat → Int32 → Int32 → AH → Nat → Option (Int32 × HpN)
  | 0, _, _, _, _, _ => none
  | d + 1, v0, v2, v3, f, n => (if v3 < (0 : Int32) then mX5_behindSpace_b50 v2 f n else (if v2 ≤ v3 then mX5_behindSpace_b50 v2 f n else ((gR f v0 5 0).bind fun x1 => ((x1).bind fun j2 => ((gL f j2).bind fun x3 => (if (nI x3) ≤ v3 then mX5_behindSpace_b50 v2 f n else ((gR f v0 5 0).bind fun x4 => ((x4).bind fun j5 => ((gIA f j5 v3).bind fun x6 => (if x6 = (32 : Int32) then mX5_behindSpace_b44 (fun v0 v2 v3 f n => mX5_behindSpace_l2 d v0 v2 v3 f n) v0 v2 v3 f n else ((gR f v0 5 0).bind fun x7 => ((x7).bind fun j8 => ((gIA f j8 v3).bind fun x9 => (if x9 = (10 : Int32) then mX5_behindSpace_b44 (fun v0 v2 v3 f n => mX5_behindSpace_l2 d v0 v2 v3 f n) v0 v2 v3 f n else some (v3, (f, n))))))))))))))))
set_option maxHeartbeats 1000000 in
theorem rmX5_behindSpace_l2 {X : GX} {p : Program} {l : Launch} {e : Env} {s : State} {m : MethodId} {args : Array Value} {below : List Frame} {meth : Method} {c : Code} {r : Int32 × HpN} (C : CC X p l (RM 0 0 0) s m args meth c RX5 cX5_behindSpace 4 (some .int)) : ∀ (d : Nat) (v0 : Nat) (v2 : Int32) (v3 : Int32) (f : AH) (n cells slots : Nat) (_ : cells + 0 ≤ 0) (_ : slots + 0 ≤ 0) (_ : mX5_behindSpace_l2 d v0 v2 v3 f n = some r), AW X p l e (RM 0 0 0) s m args below meth c 4 (ZM X below args s 0 0 (QHi r)) f n cells slots 2 [some (.ref v0), none, some (.int v2), some (.int v3)] [] := by
  intro d
  induction d with
  | zero =>
    intro v0 v2 v3 f n cells slots hc hs h
    exact nomatch (show (none : Option (Int32 × HpN)) = some r from h)
  | succ d ih =>
    intro v0 v2 v3 f n cells slots hc hs h
    have h : (if v3 < (0 : Int32) then mX5_behindSpace_b50 v2 f n else (if v2 ≤ v3 then mX5_behindSpace_b50 v2 f n else ((gR f v0 5 0).bind fun x1 => ((x1).bind fun j2 => ((gL f j2).bind fun x3 => (if (nI x3) ≤ v3 then mX5_behindSpace_b50 v2 f n else ((gR f v0 5 0).bind fun x4 => ((x4).bind fun j5 => ((gIA f j5 v3).bind fun x6 => (if x6 = (32 : Int32) then mX5_behindSpace_b44 (fun v0 v2 v3 f n => mX5_behindSpace_l2 d v0 v2 v3 f n) v0 v2 v3 f n else ((gR f v0 5 0).bind fun x7 => ((x7).bind fun j8 => ((gIA f j8 v3).bind fun x9 => (if x9 = (10 : Int32) then mX5_behindSpace_b44 (fun v0 v2 v3 f n => mX5_behindSpace_l2 d v0 v2 v3 f n) v0 v2 v3 f n else some (v3, (f, n)))))))))))))))) = some r := h
    refine aw_iload_n C dX5_behindSpace_2 rfl ?_
    refine aw_if_lt C 50 dX5_behindSpace_3 (by decide) (fun q => ?_) (fun q => ?_)
    · rw [if_pos q] at h
      refine aw_fl [none, none, some (.int v2), none] ⟨rfl, trivial⟩ ?_
      exact rmX5_behindSpace_b50 C (by omega) (by omega) h
    · rw [if_neg q] at h
      refine aw_iload_n C dX5_behindSpace_6 rfl ?_
      refine aw_iload_n C dX5_behindSpace_7 rfl ?_
      refine aw_icmp_ge C 50 dX5_behindSpace_8 (by decide) (fun q => ?_) (fun q => ?_)
      · rw [if_pos q] at h
        refine aw_fl [none, none, some (.int v2), none] ⟨rfl, trivial⟩ ?_
        exact rmX5_behindSpace_b50 C (by omega) (by omega) h
      · rw [if_neg q] at h
        refine aw_iload_n C dX5_behindSpace_11 rfl ?_
        refine aw_ald_n C dX5_behindSpace_12 rfl ?_
        obtain ⟨x1, hx1, h⟩ := Option.bind_eq_some_iff.mp h
        refine ah_getR C gf_X5_9 hx1 dX5_behindSpace_13 ?_
        obtain ⟨j2, hj2, h⟩ := Option.bind_eq_some_iff.mp h
        rw [hj2]
        obtain ⟨x3, hx3, h⟩ := Option.bind_eq_some_iff.mp h
        refine ah_len C hx3 dX5_behindSpace_16 ?_
        refine aw_icmp_ge C 50 dX5_behindSpace_17 (by decide) (fun q => ?_) (fun q => ?_)
        · rw [if_pos q] at h
          refine aw_fl [none, none, some (.int v2), none] ⟨rfl, trivial⟩ ?_
          exact rmX5_behindSpace_b50 C (by omega) (by omega) h
        · rw [if_neg q] at h
          refine aw_ald_n C dX5_behindSpace_20 rfl ?_
          obtain ⟨x4, hx4, h⟩ := Option.bind_eq_some_iff.mp h
          refine ah_getR C gf_X5_9 hx4 dX5_behindSpace_21 ?_
          refine aw_iload_n C dX5_behindSpace_24 rfl ?_
          obtain ⟨j5, hj5, h⟩ := Option.bind_eq_some_iff.mp h
          rw [hj5]
          obtain ⟨x6, hx6, h⟩ := Option.bind_eq_some_iff.mp h
          refine ah_iald C hx6 dX5_behindSpace_25 ?_
          refine aw_bipush C 32 dX5_behindSpace_26 kb_32 ?_
          refine aw_icmp_eq C 44 dX5_behindSpace_28 (by decide) (fun q => ?_) (fun q => ?_)
          · rw [if_pos q] at h
            refine aw_fl [some (.ref v0), none, some (.int v2), some (.int v3)] ⟨rfl, ⟨rfl, ⟨rfl, trivial⟩⟩⟩ ?_
            exact rmX5_behindSpace_b44 C (fun v0 v2 v3 f n cells slots hc hs h => ih v0 v2 v3 f n cells slots hc hs h) (by omega) (by omega) h
          · rw [if_neg q] at h
            refine aw_ald_n C dX5_behindSpace_31 rfl ?_
            obtain ⟨x7, hx7, h⟩ := Option.bind_eq_some_iff.mp h
            refine ah_getR C gf_X5_9 hx7 dX5_behindSpace_32 ?_
            refine aw_iload_n C dX5_behindSpace_35 rfl ?_
            obtain ⟨j8, hj8, h⟩ := Option.bind_eq_some_iff.mp h
            rw [hj8]
            obtain ⟨x9, hx9, h⟩ := Option.bind_eq_some_iff.mp h
            refine ah_iald C hx9 dX5_behindSpace_36 ?_
            refine aw_bipush C 10 dX5_behindSpace_37 kb_10 ?_
            refine aw_icmp_eq C 44 dX5_behindSpace_39 (by decide) (fun q => ?_) (fun q => ?_)
            · rw [if_pos q] at h
              refine aw_fl [some (.ref v0), none, some (.int v2), some (.int v3)] ⟨rfl, ⟨rfl, ⟨rfl, trivial⟩⟩⟩ ?_
              exact rmX5_behindSpace_b44 C (fun v0 v2 v3 f n cells slots hc hs h => ih v0 v2 v3 f n cells slots hc hs h) (by omega) (by omega) h
            · rw [if_neg q] at h
              refine aw_iload_n C dX5_behindSpace_42 rfl ?_
              cases h
              exact aw_iret C rfl rfl dX5_behindSpace_43 (by omega) (by omega) ⟨rfl, rfl, rfl⟩
def mX5_behindSpace (v0 : Nat) (v1 : Int32) (v2 : Int32) (f : AH) (n : Nat) : Option (Int32 × HpN) := mX5_behindSpace_l2 rFU v0 v2 v1 f n
set_option maxHeartbeats 1000000 in
theorem rmX5_behindSpace {X : GX} {l : Launch} {r : Int32 × HpN} {v0 : Nat} {v1 : Int32} {v2 : Int32} {f : AH} {n : Nat} (h : mX5_behindSpace v0 v1 v2 f n = some r) : AM X l yX5_behindSpace cX5_behindSpace 4 (some .int) 0 0 0 [.ref v0, .int v1, .int v2] f n (QHi r) := by
  have h : mX5_behindSpace_l2 rFU v0 v2 v1 f n = some r := h
  refine AM.of (by decide +kernel) rfl (Nat.le_of_ble_eq_true rfl) (fun p e s m args below meth c C hnm => ?_)
  refine aw_nl [some (.ref v0), some (.int v1), some (.int v2), none] rfl ?_
  refine aw_iload_n C dX5_behindSpace_0 rfl ?_
  refine aw_istore_n C dX5_behindSpace_1 (by decide) rfl ?_
  refine aw_nl [some (.ref v0), some (.int v1), some (.int v2), some (.int v1)] rfl ?_
  refine aw_fl [some (.ref v0), none, some (.int v2), some (.int v1)] ⟨rfl, ⟨rfl, ⟨rfl, trivial⟩⟩⟩ ?_
  exact rmX5_behindSpace_l2 C rFU v0 v2 v1 f n _ _ (by omega) (by omega) h
