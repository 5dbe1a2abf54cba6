def mX5_init_b14 (B : Nat) (s0 : Nat) (s1 : Int32) (f : AH) (n : Nat) : Option (Int32 × HpN) := rCk (!(decide (s1 < 0)) && (decide (s1.toNatClampNeg ≤ B) && decide (s1.toNatClampNeg ≤ 600))) (((pO (va_up f n (some (.inl (0, s1.toNatClampNeg, .inl (fun _ => 0))))) s0 5 0 (.ref n)).bind fun f2 => some ((0 : Int32), (f2, (n + 1)))))
set_option maxHeartbeats 1000000 in
theorem rmX5_init_b14 {X : GX} {p : Program} {l : Launch} {e : Env} {s : State} {m : MethodId} {args : Array Value} {below : List Frame} {meth : Method} {c : Code} {r : Int32 × HpN} {B : Nat} {s0 : Nat} {s1 : Int32} {f : AH} {n cells slots : Nat} (C : CC X p l (RM 1 1 (0 + B)) s m args meth c RX5 cX5_init 2 none) (hnm : meth.name = "<init>") (hc : cells + 1 ≤ 1) (hs : slots + 0 + B ≤ (0 + B)) (h : mX5_init_b14 B s0 s1 f n = some r) : AW X p l e (RM 1 1 (0 + B)) s m args below meth c 2 (ZM X below args s 1 (0 + B) (QHv r)) f n cells slots 14 [none, none] [.int s1, .ref s0] := by
  have h : rCk (!(decide (s1 < 0)) && (decide (s1.toNatClampNeg ≤ B) && decide (s1.toNatClampNeg ≤ 600))) (((pO (va_up f n (some (.inl (0, s1.toNatClampNeg, .inl (fun _ => 0))))) s0 5 0 (.ref n)).bind fun f2 => some ((0 : Int32), (f2, (n + 1))))) = some r := h
  obtain ⟨hb1, h⟩ := ck_some h
  refine ah_newi C (B := B) hb1 (show cells + 1 ≤ 1 by omega) (show slots + B ≤ (0 + B) by omega) dX5_init_14 ?_
  obtain ⟨f2, hf2, h⟩ := Option.bind_eq_some_iff.mp h
  refine ah_putF C gf_X5_9 cf5 fi5_0 hnm rfl rfl hf2 dX5_init_16 ?_
  cases h
  exact aw_vret C rfl dX5_init_19 (by omega) (by omega) ⟨rfl, rfl, rfl⟩
def mX5_init (B : Nat) (v0 : Nat) (v1 : Int32) (f : AH) (n : Nat) : Option (Int32 × HpN) := (if v1 ≤ (0 : Int32) then mX5_init_b14 B v0 (0 : Int32) f n else mX5_init_b14 B v0 v1 f n)
set_option maxHeartbeats 1000000 in
theorem rmX5_init {X : GX} {l : Launch} {r : Int32 × HpN} {B : Nat} {v0 : Nat} {v1 : Int32} {f : AH} {n : Nat} (h : mX5_init B v0 v1 f n = some r) : AM X l yX5_init cX5_init 2 none 1 1 (0 + B) [.ref v0, .int v1] f n (QHv r) := by
  have h : (if v1 ≤ (0 : Int32) then mX5_init_b14 B v0 (0 : Int32) f n else mX5_init_b14 B v0 v1 f n) = some r := h
  refine AM.of (by decide +kernel) rfl (Nat.le_of_ble_eq_true rfl) (fun p e s m args below meth c C hnm => ?_)
  refine aw_nl [some (.ref v0), some (.int v1)] rfl ?_
  refine aw_ald_n C dX5_init_0 rfl ?_
  refine aw_oinit C oi_X5_3 oi2 oi3 dX5_init_1 (Nat.le_of_ble_eq_true rfl) (Nat.le_of_ble_eq_true rfl) ?_
  refine aw_ald_n C dX5_init_4 rfl ?_
  refine aw_iload_n C dX5_init_5 rfl ?_
  refine aw_if_le C 13 dX5_init_6 (by decide) (fun q => ?_) (fun q => ?_)
  · rw [if_pos q] at h
    refine aw_iconst C 0 dX5_init_13 ki_0 ?_
    refine aw_fl [none, none] trivial ?_
    exact rmX5_init_b14 C hnm (by omega) (by omega) h
  · rw [if_neg q] at h
    refine aw_iload_n C dX5_init_9 rfl ?_
    refine aw_goto C 14 dX5_init_10 (by decide) ?_
    refine aw_fl [none, none] trivial ?_
    exact rmX5_init_b14 C hnm (by omega) (by omega) h
def mX5_size (v0 : Nat) (f : AH) (n : Nat) : Option (Int32 × HpN) := ((gI f v0 5 1).bind fun x1 => some (x1, (f, n)))
set_option maxHeartbeats 1000000 in
theorem rmX5_size {X : GX} {l : Launch} {r : Int32 × HpN} {v0 : Nat} {f : AH} {n : Nat} (h : mX5_size v0 f n = some r) : AM X l yX5_size cX5_size 1 (some .int) 0 0 0 [.ref v0] f n (QHi r) := by
  have h : ((gI f v0 5 1).bind fun x1 => some (x1, (f, n))) = some r := h
  refine AM.of (by decide +kernel) rfl (Nat.le_of_ble_eq_true rfl) (fun p e s m args below meth c C hnm => ?_)
  refine aw_nl [some (.ref v0)] rfl ?_
  refine aw_ald_n C dX5_size_0 rfl ?_
  obtain ⟨x1, hx1, h⟩ := Option.bind_eq_some_iff.mp h
  refine ah_getI C gf_X5_15 hx1 dX5_size_1 ?_
  cases h
  exact aw_iret C rfl rfl dX5_size_4 (by omega) (by omega) ⟨rfl, rfl, rfl⟩
def mX5_add_b19 (f : AH) (n : Nat) : Option (Int32 × HpN) := rCk (rNb (0 : Int32)) (some ((0 : Int32), (f, n)))
set_option maxHeartbeats 1000000 in
theorem rmX5_add_b19 {X : GX} {p : Program} {l : Launch} {e : Env} {s : State} {m : MethodId} {args : Array Value} {below : List Frame} {meth : Method} {c : Code} {r : Int32 × HpN} {f : AH} {n cells slots : Nat} (C : CC X p l (RM 0 0 0) s m args meth c RX5 cX5_add 2 (some .boolean)) (hc : cells + 0 ≤ 0) (hs : slots + 0 ≤ 0) (h : mX5_add_b19 f n = some r) : AW X p l e (RM 0 0 0) s m args below meth c 2 (ZM X below args s 0 0 (QHi r)) f n cells slots 19 [none, none] [] := by
  have h : rCk (rNb (0 : Int32)) (some ((0 : Int32), (f, n))) = some r := h
  refine aw_iconst C 0 dX5_add_19 ki_0 ?_
  obtain ⟨hb1, h⟩ := ck_some h
  cases h
  exact aw_iret C rfl (nb_nar hb1) dX5_add_20 (by omega) (by omega) ⟨rfl, rfl, rfl⟩
def mX5_add (v0 : Nat) (v1 : Int32) (f : AH) (n : Nat) : Option (Int32 × HpN) := ((gI f v0 5 1).bind fun x1 => (if x1 < (0 : Int32) then mX5_add_b19 f n else ((gI f v0 5 1).bind fun x2 => ((gR f v0 5 0).bind fun x3 => ((x3).bind fun j4 => ((gL f j4).bind fun x5 => (if x2 < (nI x5) then ((gR f v0 5 0).bind fun x6 => ((gI f v0 5 1).bind fun x7 => ((x6).bind fun j8 => ((pIA f j8 x7 v1).bind fun f9 => ((gI f9 v0 5 1).bind fun x10 => ((pO f9 v0 5 1 (.int (x10 + (1 : Int32)))).bind fun f11 => rCk (rNb (1 : Int32)) (some ((1 : Int32), (f11, n))))))))) else mX5_add_b19 f n)))))))
set_option maxHeartbeats 1000000 in
theorem rmX5_add {X : GX} {l : Launch} {r : Int32 × HpN} {v0 : Nat} {v1 : Int32} {f : AH} {n : Nat} (h : mX5_add v0 v1 f n = some r) : AM X l yX5_add cX5_add 2 (some .boolean) 0 0 0 [.ref v0, .int v1] f n (QHi r) := by
  have h : ((gI f v0 5 1).bind fun x1 => (if x1 < (0 : Int32) then mX5_add_b19 f n else ((gI f v0 5 1).bind fun x2 => ((gR f v0 5 0).bind fun x3 => ((x3).bind fun j4 => ((gL f j4).bind fun x5 => (if x2 < (nI x5) then ((gR f v0 5 0).bind fun x6 => ((gI f v0 5 1).bind fun x7 => ((x6).bind fun j8 => ((pIA f j8 x7 v1).bind fun f9 => ((gI f9 v0 5 1).bind fun x10 => ((pO f9 v0 5 1 (.int (x10 + (1 : Int32)))).bind fun f11 => rCk (rNb (1 : Int32)) (some ((1 : Int32), (f11, n))))))))) else mX5_add_b19 f n))))))) = some r := h
  refine AM.of (by decide +kernel) rfl (Nat.le_of_ble_eq_true rfl) (fun p e s m args below meth c C hnm => ?_)
  refine aw_nl [some (.ref v0), some (.int v1)] rfl ?_
  refine aw_ald_n C dX5_add_0 rfl ?_
  obtain ⟨x1, hx1, h⟩ := Option.bind_eq_some_iff.mp h
  refine ah_getI C gf_X5_15 hx1 dX5_add_1 ?_
  refine aw_if_lt C 19 dX5_add_4 (by decide) (fun q => ?_) (fun q => ?_)
  · rw [if_pos q] at h
    refine aw_fl [none, none] trivial ?_
    exact rmX5_add_b19 C (by omega) (by omega) h
  · rw [if_neg q] at h
    refine aw_ald_n C dX5_add_7 rfl ?_
    obtain ⟨x2, hx2, h⟩ := Option.bind_eq_some_iff.mp h
    refine ah_getI C gf_X5_15 hx2 dX5_add_8 ?_
    refine aw_ald_n C dX5_add_11 rfl ?_
    obtain ⟨x3, hx3, h⟩ := Option.bind_eq_some_iff.mp h
    refine ah_getR C gf_X5_9 hx3 dX5_add_12 ?_
    obtain ⟨j4, hj4, h⟩ := Option.bind_eq_some_iff.mp h
    rw [hj4]
    obtain ⟨x5, hx5, h⟩ := Option.bind_eq_some_iff.mp h
    refine ah_len C hx5 dX5_add_15 ?_
    refine aw_icmp_lt C 21 dX5_add_16 (by decide) (fun q => ?_) (fun q => ?_)
    · rw [if_pos q] at h
      refine aw_ald_n C dX5_add_21 rfl ?_
      obtain ⟨x6, hx6, h⟩ := Option.bind_eq_some_iff.mp h
      refine ah_getR C gf_X5_9 hx6 dX5_add_22 ?_
      refine aw_ald_n C dX5_add_25 rfl ?_
      obtain ⟨x7, hx7, h⟩ := Option.bind_eq_some_iff.mp h
      refine ah_getI C gf_X5_15 hx7 dX5_add_26 ?_
      refine aw_iload_n C dX5_add_29 rfl ?_
      obtain ⟨j8, hj8, h⟩ := Option.bind_eq_some_iff.mp h
      rw [hj8]
      obtain ⟨f9, hf9, h⟩ := Option.bind_eq_some_iff.mp h
      refine ah_iast C hf9 dX5_add_30 ?_
      refine aw_ald_n C dX5_add_31 rfl ?_
      refine aw_dup C dX5_add_32 rfl ?_
      obtain ⟨x10, hx10, h⟩ := Option.bind_eq_some_iff.mp h
      refine ah_getI C gf_X5_15 hx10 dX5_add_33 ?_
      refine aw_iconst C 1 dX5_add_36 ki_1 ?_
      refine aw_iadd C dX5_add_37 ?_
      obtain ⟨f11, hf11, h⟩ := Option.bind_eq_some_iff.mp h
      refine ah_put C gf_X5_15 cf5 nf5_1 rfl rfl hf11 dX5_add_38 ?_
      refine aw_iconst C 1 dX5_add_41 ki_1 ?_
      obtain ⟨hb12, h⟩ := ck_some h
      cases h
      exact aw_iret C rfl (nb_nar hb12) dX5_add_42 (by omega) (by omega) ⟨rfl, rfl, rfl⟩
    · rw [if_neg q] at h
      refine aw_fl [none, none] trivial ?_
      exact rmX5_add_b19 C (by omega) (by omega) h
def mX8_addFour_l3 : Nat → Nat → Int32 → Int32 → AH → Nat → Option (Int32 × HpN)
  | 0, _, _, _, _, _ => none
  | d + 1, v0, v1, v2, f, n => (if v2 < (0 : Int32) then some ((0 : Int32), (f, n)) else ((gR f v0 8 0).bind fun x1 => ((x1).bind fun j2 => rCk (isO f j2 5) (((mX5_add j2 ((v1.toUInt32 >>> (v2.toUInt32 &&& Int32.toUInt32 31)).toInt32 &&& (255 : Int32)) f n).bind fun r4 => mX8_addFour_l3 d v0 v1 (v2 + (-8 : Int32)) r4.2.1 r4.2.2)))))
set_option maxHeartbeats 1000000 in
theorem rmX8_addFour_l3 {X : GX} {p : Program} {l : Launch} {e : Env} {s : State} {m : MethodId} {args : Array Value} {below : List Frame} {meth : Method} {c : Code} {r : Int32 × HpN} (C : CC X p l (RM 1 0 0) s m args meth c RX8 cX8_addFour 3 none) : ∀ (d : Nat) (v0 : Nat) (v1 : Int32) (v2 : Int32) (f : AH) (n cells slots : Nat) (_ : cells + 0 ≤ 0) (_ : slots + 0 ≤ 0) (_ : mX8_addFour_l3 d v0 v1 v2 f n = some r), AW X p l e (RM 1 0 0) s m args below meth c 3 (ZM X below args s 0 0 (QHv r)) f n cells slots 3 [some (.ref v0), some (.int v1), some (.int v2)] [] := by
  intro d
  induction d with
  | zero =>
    intro v0 v1 v2 f n cells slots hc hs h
    exact nomatch (show (none : Option (Int32 × HpN)) = some r from h)
  | succ d ih =>
    intro v0 v1 v2 f n cells slots hc hs h
    have h : (if v2 < (0 : Int32) then some ((0 : Int32), (f, n)) else ((gR f v0 8 0).bind fun x1 => ((x1).bind fun j2 => rCk (isO f j2 5) (((mX5_add j2 ((v1.toUInt32 >>> (v2.toUInt32 &&& Int32.toUInt32 31)).toInt32 &&& (255 : Int32)) f n).bind fun r4 => mX8_addFour_l3 d v0 v1 (v2 + (-8 : Int32)) r4.2.1 r4.2.2))))) = some r := h
    refine aw_iload_n C dX8_addFour_3 rfl ?_
    refine aw_if_lt C 28 dX8_addFour_4 (by decide) (fun q => ?_) (fun q => ?_)
    · rw [if_pos q] at h
      cases h
      exact aw_vret C rfl dX8_addFour_28 (by omega) (by omega) ⟨rfl, rfl, rfl⟩
    · rw [if_neg q] at h
      refine aw_ald_n C dX8_addFour_7 rfl ?_
      obtain ⟨x1, hx1, h⟩ := Option.bind_eq_some_iff.mp h
      refine ah_getR C gf_X8_14 hx1 dX8_addFour_8 ?_
      refine aw_iload_n C dX8_addFour_11 rfl ?_
      refine aw_iload_n C dX8_addFour_12 rfl ?_
      refine aw_iushr C dX8_addFour_13 ?_
      refine aw_sipush C 255 dX8_addFour_14 ks_255 ?_
      refine aw_iand C dX8_addFour_17 ?_
      obtain ⟨j2, hj2, h⟩ := Option.bind_eq_some_iff.mp h
      rw [hj2]
      obtain ⟨hb3, h⟩ := ck_some h
      obtain ⟨r4, hr4, h⟩ := Option.bind_eq_some_iff.mp h
      obtain ⟨fs5, hf5⟩ := isO_ex hb3
      refine aw_callV C (ci := 5) (b := j2) [.int ((v1.toUInt32 >>> (v2.toUInt32 &&& Int32.toUInt32 31)).toInt32 &&& (255 : Int32))] mv_X8_314 rfl rfl hf5 (rmX5_add hr4) rfl dX8_addFour_18 (Nat.le_of_ble_eq_true rfl) (Nat.le_of_ble_eq_true rfl) rfl (Nat.le_of_ble_eq_true rfl) (show cells + 0 ≤ 0 by omega) (show slots + 0 ≤ 0 by omega) (fun v9 f9 n9 hh => ?_)
      obtain ⟨rfl, rfl, rfl⟩ := hh
      refine aw_pop C dX8_addFour_21 rfl ?_
      refine aw_iinc C (v2 + (-8 : Int32)) dX8_addFour_22 rfl (by rw [ki_m8]) (by decide) rfl ?_
      refine aw_nl [some (.ref v0), some (.int v1), some (.int (v2 + (-8 : Int32)))] rfl ?_
      refine aw_goto C 3 dX8_addFour_25 (by decide) ?_
      refine aw_fl [some (.ref v0), some (.int v1), some (.int (v2 + (-8 : Int32)))] ⟨rfl, ⟨rfl, ⟨rfl, trivial⟩⟩⟩ ?_
      exact ih v0 v1 (v2 + (-8 : Int32)) r4.2.1 r4.2.2 _ _ (by omega) (by omega) h
def mX8_addFour (v0 : Nat) (v1 : Int32) (f : AH) (n : Nat) : Option (Int32 × HpN) := mX8_addFour_l3 rFU v0 v1 (24 : Int32) f n
set_option maxHeartbeats 1000000 in
theorem rmX8_addFour {X : GX} {l : Launch} {r : Int32 × HpN} {v0 : Nat} {v1 : Int32} {f : AH} {n : Nat} (h : mX8_addFour v0 v1 f n = some r) : AM X l yX8_addFour cX8_addFour 3 none 1 0 0 [.ref v0, .int v1] f n (QHv r) := by
  have h : mX8_addFour_l3 rFU v0 v1 (24 : Int32) f n = some r := h
  refine AM.of (by decide +kernel) rfl (Nat.le_of_ble_eq_true rfl) (fun p e s m args below meth c C hnm => ?_)
  refine aw_nl [some (.ref v0), some (.int v1), none] rfl ?_
  refine aw_bipush C 24 dX8_addFour_0 kb_24 ?_
  refine aw_istore_n C dX8_addFour_2 (by decide) rfl ?_
  refine aw_nl [some (.ref v0), some (.int v1), some (.int (24 : Int32))] rfl ?_
  refine aw_fl [some (.ref v0), some (.int v1), some (.int (24 : Int32))] ⟨rfl, ⟨rfl, ⟨rfl, trivial⟩⟩⟩ ?_
  exact rmX8_addFour_l3 C rFU v0 v1 (24 : Int32) f n _ _ (by omega) (by omega) h
def mX8_feed (v0 : Nat) (v1 : Int32) (v2 : Int32) (v3 : Int32) (v4 : Int32) (v5 : Int32) (f : AH) (n : Nat) : Option (Int32 × HpN) := ((gR f v0 8 0).bind fun x1 => ((x1).bind fun j2 => rCk (isO f j2 5) (((mX5_size j2 f n).bind fun r4 => (if (r4.1 + (20 : Int32)) ≤ (400 : Int32) then rCk (isO r4.2.1 v0 8) (((mX8_addFour v0 v1 r4.2.1 r4.2.2).bind fun r7 => rCk (isO r7.2.1 v0 8) (((mX8_addFour v0 v2 r7.2.1 r7.2.2).bind fun r10 => rCk (isO r10.2.1 v0 8) (((mX8_addFour v0 v3 r10.2.1 r10.2.2).bind fun r13 => rCk (isO r13.2.1 v0 8) (((mX8_addFour v0 v4 r13.2.1 r13.2.2).bind fun r16 => rCk (isO r16.2.1 v0 8) (((mX8_addFour v0 v5 r16.2.1 r16.2.2).bind fun r19 => ((gR r19.2.1 v0 8 0).bind fun x21 => ((x21).bind fun j22 => rCk (isO r19.2.1 j22 5) (((mX5_size j22 r19.2.1 r19.2.2).bind fun r24 => some (r24.1, (r24.2.1, r24.2.2)))))))))))))))) else some ((-1 : Int32), (r4.2.1, r4.2.2)))))))
set_option maxHeartbeats 1000000 in
theorem rmX8_feed {X : GX} {l : Launch} {r : Int32 × HpN} {v0 : Nat} {v1 : Int32} {v2 : Int32} {v3 : Int32} {v4 : Int32} {v5 : Int32} {f : AH} {n : Nat} (h : mX8_feed v0 v1 v2 v3 v4 v5 f n = some r) : AM X l yX8_feed cX8_feed 6 (some .int) 2 0 0 [.ref v0, .int v1, .int v2, .int v3, .int v4, .int v5] f n (QHi r) := by
  have h : ((gR f v0 8 0).bind fun x1 => ((x1).bind fun j2 => rCk (isO f j2 5) (((mX5_size j2 f n).bind fun r4 => (if (r4.1 + (20 : Int32)) ≤ (400 : Int32) then rCk (isO r4.2.1 v0 8) (((mX8_addFour v0 v1 r4.2.1 r4.2.2).bind fun r7 => rCk (isO r7.2.1 v0 8) (((mX8_addFour v0 v2 r7.2.1 r7.2.2).bind fun r10 => rCk (isO r10.2.1 v0 8) (((mX8_addFour v0 v3 r10.2.1 r10.2.2).bind fun r13 => rCk (isO r13.2.1 v0 8) (((mX8_addFour v0 v4 r13.2.1 r13.2.2).bind fun r16 => rCk (isO r16.2.1 v0 8) (((mX8_addFour v0 v5 r16.2.1 r16.2.2).bind fun r19 => ((gR r19.2.1 v0 8 0).bind fun x21 => ((x21).bind fun j22 => rCk (isO r19.2.1 j22 5) (((mX5_size j22 r19.2.1 r19.2.2).bind fun r24 => some (r24.1, (r24.2.1, r24.2.2)))))))))))))))) else some ((-1 : Int32), (r4.2.1, r4.2.2))))))) = some r := h
  refine AM.of (by decide +kernel) rfl (Nat.le_of_ble_eq_true rfl) (fun p e s m args below meth c C hnm => ?_)
  refine aw_nl [some (.ref v0), some (.int v1), some (.int v2), some (.int v3), some (.int v4), some (.int v5)] rfl ?_
  refine aw_ald_n C dX8_feed_0 rfl ?_
  obtain ⟨x1, hx1, h⟩ := Option.bind_eq_some_iff.mp h
  refine ah_getR C gf_X8_14 hx1 dX8_feed_1 ?_
  obtain ⟨j2, hj2, h⟩ := Option.bind_eq_some_iff.mp h
  rw [hj2]
  obtain ⟨hb3, h⟩ := ck_some h
  obtain ⟨r4, hr4, h⟩ := Option.bind_eq_some_iff.mp h
  obtain ⟨fs5, hf5⟩ := isO_ex hb3
  refine aw_callV C (ci := 5) (b := j2) [] mv_X8_63 rfl rfl hf5 (rmX5_size hr4) rfl dX8_feed_4 (Nat.le_of_ble_eq_true rfl) (Nat.le_of_ble_eq_true rfl) rfl (Nat.le_of_ble_eq_true rfl) (show 0 + 0 ≤ 0 by omega) (show 0 + 0 ≤ 0 by omega) (fun v9 f9 n9 hh => ?_)
  obtain ⟨rfl, rfl, rfl⟩ := hh
  refine aw_bipush C 20 dX8_feed_7 kb_20 ?_
  refine aw_iadd C dX8_feed_9 ?_
  refine aw_sipush C 400 dX8_feed_10 ks_400 ?_
  refine aw_icmp_le C 18 dX8_feed_13 (by decide) (fun q => ?_) (fun q => ?_)
  · rw [if_pos q] at h
    refine aw_ald_n C dX8_feed_18 rfl ?_
    refine aw_iload_n C dX8_feed_19 rfl ?_
    obtain ⟨hb6, h⟩ := ck_some h
    obtain ⟨r7, hr7, h⟩ := Option.bind_eq_some_iff.mp h
    obtain ⟨fs8, hf8⟩ := isO_ex hb6
    refine aw_callV C (ci := 8) (b := v0) [.int v1] mv_X8_67 rfl rfl hf8 (rmX8_addFour hr7) rfl dX8_feed_20 (Nat.le_of_ble_eq_true rfl) (Nat.le_of_ble_eq_true rfl) rfl (Nat.le_of_ble_eq_true rfl) (show (0 + 0) + 0 ≤ 0 by omega) (show (0 + 0) + 0 ≤ 0 by omega) (fun v9 f9 n9 hh => ?_)
    obtain ⟨rfl, rfl, rfl⟩ := hh
    refine aw_ald_n C dX8_feed_23 rfl ?_
    refine aw_iload_n C dX8_feed_24 rfl ?_
    obtain ⟨hb9, h⟩ := ck_some h
    obtain ⟨r10, hr10, h⟩ := Option.bind_eq_some_iff.mp h
    obtain ⟨fs11, hf11⟩ := isO_ex hb9
    refine aw_callV C (ci := 8) (b := v0) [.int v2] mv_X8_67 rfl rfl hf11 (rmX8_addFour hr10) rfl dX8_feed_25 (Nat.le_of_ble_eq_true rfl) (Nat.le_of_ble_eq_true rfl) rfl (Nat.le_of_ble_eq_true rfl) (show ((0 + 0) + 0) + 0 ≤ 0 by omega) (show ((0 + 0) + 0) + 0 ≤ 0 by omega) (fun v9 f9 n9 hh => ?_)
    obtain ⟨rfl, rfl, rfl⟩ := hh
    refine aw_ald_n C dX8_feed_28 rfl ?_
    refine aw_iload_n C dX8_feed_29 rfl ?_
    obtain ⟨hb12, h⟩ := ck_some h
    obtain ⟨r13, hr13, h⟩ := Option.bind_eq_some_iff.mp h
    obtain ⟨fs14, hf14⟩ := isO_ex hb12
    refine aw_callV C (ci := 8) (b := v0) [.int v3] mv_X8_67 rfl rfl hf14 (rmX8_addFour hr13) rfl dX8_feed_30 (Nat.le_of_ble_eq_true rfl) (Nat.le_of_ble_eq_true rfl) rfl (Nat.le_of_ble_eq_true rfl) (show (((0 + 0) + 0) + 0) + 0 ≤ 0 by omega) (show (((0 + 0) + 0) + 0) + 0 ≤ 0 by omega) (fun v9 f9 n9 hh => ?_)
    obtain ⟨rfl, rfl, rfl⟩ := hh
    refine aw_ald_n C dX8_feed_33 rfl ?_
    refine aw_iload C dX8_feed_34 rfl ?_
    obtain ⟨hb15, h⟩ := ck_some h
    obtain ⟨r16, hr16, h⟩ := Option.bind_eq_some_iff.mp h
    obtain ⟨fs17, hf17⟩ := isO_ex hb15
    refine aw_callV C (ci := 8) (b := v0) [.int v4] mv_X8_67 rfl rfl hf17 (rmX8_addFour hr16) rfl dX8_feed_36 (Nat.le_of_ble_eq_true rfl) (Nat.le_of_ble_eq_true rfl) rfl (Nat.le_of_ble_eq_true rfl) (show ((((0 + 0) + 0) + 0) + 0) + 0 ≤ 0 by omega) (show ((((0 + 0) + 0) + 0) + 0) + 0 ≤ 0 by omega) (fun v9 f9 n9 hh => ?_)
    obtain ⟨rfl, rfl, rfl⟩ := hh
    refine aw_ald_n C dX8_feed_39 rfl ?_
    refine aw_iload C dX8_feed_40 rfl ?_
    obtain ⟨hb18, h⟩ := ck_some h
    obtain ⟨r19, hr19, h⟩ := Option.bind_eq_some_iff.mp h
    obtain ⟨fs20, hf20⟩ := isO_ex hb18
    refine aw_callV C (ci := 8) (b := v0) [.int v5] mv_X8_67 rfl rfl hf20 (rmX8_addFour hr19) rfl dX8_feed_42 (Nat.le_of_ble_eq_true rfl) (Nat.le_of_ble_eq_true rfl) rfl (Nat.le_of_ble_eq_true rfl) (show (((((0 + 0) + 0) + 0) + 0) + 0) + 0 ≤ 0 by omega) (show (((((0 + 0) + 0) + 0) + 0) + 0) + 0 ≤ 0 by omega) (fun v9 f9 n9 hh => ?_)
    obtain ⟨rfl, rfl, rfl⟩ := hh
    refine aw_ald_n C dX8_feed_45 rfl ?_
    obtain ⟨x21, hx21, h⟩ := Option.bind_eq_some_iff.mp h
    refine ah_getR C gf_X8_14 hx21 dX8_feed_46 ?_
    obtain ⟨j22, hj22, h⟩ := Option.bind_eq_some_iff.mp h
    rw [hj22]
    obtain ⟨hb23, h⟩ := ck_some h
    obtain ⟨r24, hr24, h⟩ := Option.bind_eq_some_iff.mp h
    obtain ⟨fs25, hf25⟩ := isO_ex hb23
    refine aw_callV C (ci := 5) (b := j22) [] mv_X8_63 rfl rfl hf25 (rmX5_size hr24) rfl dX8_feed_49 (Nat.le_of_ble_eq_true rfl) (Nat.le_of_ble_eq_true rfl) rfl (Nat.le_of_ble_eq_true rfl) (show ((((((0 + 0) + 0) + 0) + 0) + 0) + 0) + 0 ≤ 0 by omega) (show ((((((0 + 0) + 0) + 0) + 0) + 0) + 0) + 0 ≤ 0 by omega) (fun v9 f9 n9 hh => ?_)
    obtain ⟨rfl, rfl, rfl⟩ := hh
    cases h
    exact aw_iret C rfl rfl dX8_feed_52 (by omega) (by omega) ⟨rfl, rfl, rfl⟩
  · rw [if_neg q] at h
    refine aw_iconst C (-1) dX8_feed_16 ki_m1 ?_
    cases h
    exact aw_iret C rfl rfl dX8_feed_17 (by omega) (by omega) ⟨rfl, rfl, rfl⟩
def mX5_cutTo_b17 (f : AH) (n : Nat) : Option (Int32 × HpN) := some ((0 : Int32), (f, n))
set_option maxHeartbeats 1000000 in
theorem rmX5_cutTo_b17 {X : GX} {p : Program} {l : Launch} {e : Env} {s : State} {m : MethodId} {args : Array Value} {below : List Frame} {meth : Method} {c : Code} {r : Int32 × HpN} {f : AH} {n cells slots : Nat} (C : CC X p l (RM 0 0 0) s m args meth c RX5 cX5_cutTo 2 none) (hc : cells + 0 ≤ 0) (hs : slots + 0 ≤ 0) (h : mX5_cutTo_b17 f n = some r) : AW X p l e (RM 0 0 0) s m args below meth c 2 (ZM X below args s 0 0 (QHv r)) f n cells slots 17 [none, none] [] := by
  have h : some ((0 : Int32), (f, n)) = some r := h
  cases h
  exact aw_vret C rfl dX5_cutTo_17 (by omega) (by omega) ⟨rfl, rfl, rfl⟩
def mX5_cutTo (v0 : Nat) (v1 : Int32) (f : AH) (n : Nat) : Option (Int32 × HpN) := (if v1 < (0 : Int32) then mX5_cutTo_b17 f n else ((gI f v0 5 1).bind fun x1 => (if x1 ≤ v1 then mX5_cutTo_b17 f n else ((pO f v0 5 1 (.int v1)).bind fun f2 => mX5_cutTo_b17 f2 n))))
set_option maxHeartbeats 1000000 in
theorem rmX5_cutTo {X : GX} {l : Launch} {r : Int32 × HpN} {v0 : Nat} {v1 : Int32} {f : AH} {n : Nat} (h : mX5_cutTo v0 v1 f n = some r) : AM X l yX5_cutTo cX5_cutTo 2 none 0 0 0 [.ref v0, .int v1] f n (QHv r) := by
  have h : (if v1 < (0 : Int32) then mX5_cutTo_b17 f n else ((gI f v0 5 1).bind fun x1 => (if x1 ≤ v1 then mX5_cutTo_b17 f n else ((pO f v0 5 1 (.int v1)).bind fun f2 => mX5_cutTo_b17 f2 n)))) = some r := h
  refine AM.of (by decide +kernel) rfl (Nat.le_of_ble_eq_true rfl) (fun p e s m args below meth c C hnm => ?_)
  refine aw_nl [some (.ref v0), some (.int v1)] rfl ?_
  refine aw_iload_n C dX5_cutTo_0 rfl ?_
  refine aw_if_lt C 17 dX5_cutTo_1 (by decide) (fun q => ?_) (fun q => ?_)
  · rw [if_pos q] at h
    refine aw_fl [none, none] trivial ?_
    exact rmX5_cutTo_b17 C (by omega) (by omega) h
  · rw [if_neg q] at h
    refine aw_iload_n C dX5_cutTo_4 rfl ?_
    refine aw_ald_n C dX5_cutTo_5 rfl ?_
    obtain ⟨x1, hx1, h⟩ := Option.bind_eq_some_iff.mp h
    refine ah_getI C gf_X5_15 hx1 dX5_cutTo_6 ?_
    refine aw_icmp_ge C 17 dX5_cutTo_9 (by decide) (fun q => ?_) (fun q => ?_)
    · rw [if_pos q] at h
      refine aw_fl [none, none] trivial ?_
      exact rmX5_cutTo_b17 C (by omega) (by omega) h
    · rw [if_neg q] at h
      refine aw_ald_n C dX5_cutTo_12 rfl ?_
      refine aw_iload_n C dX5_cutTo_13 rfl ?_
      obtain ⟨f2, hf2, h⟩ := Option.bind_eq_some_iff.mp h
      refine ah_put C gf_X5_15 cf5 nf5_1 rfl rfl hf2 dX5_cutTo_14 ?_
      refine aw_fl [none, none] trivial ?_
      exact rmX5_cutTo_b17 C (by omega) (by omega) h
def mX8_end_b15 (f : AH) (n : Nat) : Option (Int32 × HpN) := rCk (rNb (0 : Int32)) (some ((0 : Int32), (f, n)))
set_option maxHeartbeats 1000000 in
theorem rmX8_end_b15 {X : GX} {p : Program} {l : Launch} {e : Env} {s : State} {m : MethodId} {args : Array Value} {below : List Frame} {meth : Method} {c : Code} {r : Int32 × HpN} {f : AH} {n cells slots : Nat} (C : CC X p l (RM 1 0 0) s m args meth c RX8 cX8_end 2 (some .boolean)) (hc : cells + 0 ≤ 0) (hs : slots + 0 ≤ 0) (h : mX8_end_b15 f n = some r) : AW X p l e (RM 1 0 0) s m args below meth c 2 (ZM X below args s 0 0 (QHi r)) f n cells slots 15 [none, none] [] := by
  have h : rCk (rNb (0 : Int32)) (some ((0 : Int32), (f, n))) = some r := h
  refine aw_iconst C 0 dX8_end_15 ki_0 ?_
  obtain ⟨hb1, h⟩ := ck_some h
  cases h
  exact aw_iret C rfl (nb_nar hb1) dX8_end_16 (by omega) (by omega) ⟨rfl, rfl, rfl⟩
def mX8_end (v0 : Nat) (v1 : Int32) (f : AH) (n : Nat) : Option (Int32 × HpN) := (if v1 < (0 : Int32) then mX8_end_b15 f n else ((gR f v0 8 0).bind fun x1 => ((x1).bind fun j2 => rCk (isO f j2 5) (((mX5_size j2 f n).bind fun r4 => (if v1 ≤ r4.1 then ((gR r4.2.1 v0 8 0).bind fun x6 => ((x6).bind fun j7 => rCk (isO r4.2.1 j7 5) (((mX5_cutTo j7 v1 r4.2.1 r4.2.2).bind fun r9 => rCk (rNb (1 : Int32)) (some ((1 : Int32), (r9.2.1, r9.2.2))))))) else mX8_end_b15 r4.2.1 r4.2.2))))))
set_option maxHeartbeats 1000000 in
theorem rmX8_end {X : GX} {l : Launch} {r : Int32 × HpN} {v0 : Nat} {v1 : Int32} {f : AH} {n : Nat} (h : mX8_end v0 v1 f n = some r) : AM X l yX8_end cX8_end 2 (some .boolean) 1 0 0 [.ref v0, .int v1] f n (QHi r) := by
  have h : (if v1 < (0 : Int32) then mX8_end_b15 f n else ((gR f v0 8 0).bind fun x1 => ((x1).bind fun j2 => rCk (isO f j2 5) (((mX5_size j2 f n).bind fun r4 => (if v1 ≤ r4.1 then ((gR r4.2.1 v0 8 0).bind fun x6 => ((x6).bind fun j7 => rCk (isO r4.2.1 j7 5) (((mX5_cutTo j7 v1 r4.2.1 r4.2.2).bind fun r9 => rCk (rNb (1 : Int32)) (some ((1 : Int32), (r9.2.1, r9.2.2))))))) else mX8_end_b15 r4.2.1 r4.2.2)))))) = some r := h
  refine AM.of (by decide +kernel) rfl (Nat.le_of_ble_eq_true rfl) (fun p e s m args below meth c C hnm => ?_)
  refine aw_nl [some (.ref v0), some (.int v1)] rfl ?_
  refine aw_iload_n C dX8_end_0 rfl ?_
  refine aw_if_lt C 15 dX8_end_1 (by decide) (fun q => ?_) (fun q => ?_)
  · rw [if_pos q] at h
    refine aw_fl [none, none] trivial ?_
    exact rmX8_end_b15 C (by omega) (by omega) h
  · rw [if_neg q] at h
    refine aw_iload_n C dX8_end_4 rfl ?_
    refine aw_ald_n C dX8_end_5 rfl ?_
    obtain ⟨x1, hx1, h⟩ := Option.bind_eq_some_iff.mp h
    refine ah_getR C gf_X8_14 hx1 dX8_end_6 ?_
    obtain ⟨j2, hj2, h⟩ := Option.bind_eq_some_iff.mp h
    rw [hj2]
    obtain ⟨hb3, h⟩ := ck_some h
    obtain ⟨r4, hr4, h⟩ := Option.bind_eq_some_iff.mp h
    obtain ⟨fs5, hf5⟩ := isO_ex hb3
    refine aw_callV C (ci := 5) (b := j2) [] mv_X8_63 rfl rfl hf5 (rmX5_size hr4) rfl dX8_end_9 (Nat.le_of_ble_eq_true rfl) (Nat.le_of_ble_eq_true rfl) rfl (Nat.le_of_ble_eq_true rfl) (show 0 + 0 ≤ 0 by omega) (show 0 + 0 ≤ 0 by omega) (fun v9 f9 n9 hh => ?_)
    obtain ⟨rfl, rfl, rfl⟩ := hh
    refine aw_icmp_le C 17 dX8_end_12 (by decide) (fun q => ?_) (fun q => ?_)
    · rw [if_pos q] at h
      refine aw_ald_n C dX8_end_17 rfl ?_
      obtain ⟨x6, hx6, h⟩ := Option.bind_eq_some_iff.mp h
      refine ah_getR C gf_X8_14 hx6 dX8_end_18 ?_
      refine aw_iload_n C dX8_end_21 rfl ?_
      obtain ⟨j7, hj7, h⟩ := Option.bind_eq_some_iff.mp h
      rw [hj7]
      obtain ⟨hb8, h⟩ := ck_some h
      obtain ⟨r9, hr9, h⟩ := Option.bind_eq_some_iff.mp h
      obtain ⟨fs10, hf10⟩ := isO_ex hb8
      refine aw_callV C (ci := 5) (b := j7) [.int v1] mv_X8_70 rfl rfl hf10 (rmX5_cutTo hr9) rfl dX8_end_22 (Nat.le_of_ble_eq_true rfl) (Nat.le_of_ble_eq_true rfl) rfl (Nat.le_of_ble_eq_true rfl) (show (0 + 0) + 0 ≤ 0 by omega) (show (0 + 0) + 0 ≤ 0 by omega) (fun v9 f9 n9 hh => ?_)
      obtain ⟨rfl, rfl, rfl⟩ := hh
      refine aw_iconst C 1 dX8_end_25 ki_1 ?_
      obtain ⟨hb11, h⟩ := ck_some h
      cases h
      exact aw_iret C rfl (nb_nar hb11) dX8_end_26 (by omega) (by omega) ⟨rfl, rfl, rfl⟩
    · rw [if_neg q] at h
      refine aw_fl [none, none] trivial ?_
      exact rmX8_end_b15 C (by omega) (by omega) h
def mX8_fault (v0 : Nat) (f : AH) (n : Nat) : Option (Int32 × HpN) := ((gI f v0 8 13).bind fun x1 => some (x1, (f, n)))
set_option maxHeartbeats 1000000 in
theorem rmX8_fault {X : GX} {l : Launch} {r : Int32 × HpN} {v0 : Nat} {f : AH} {n : Nat} (h : mX8_fault v0 f n = some r) : AM X l yX8_fault cX8_fault 1 (some .int) 0 0 0 [.ref v0] f n (QHi r) := by
  have h : ((gI f v0 8 13).bind fun x1 => some (x1, (f, n))) = some r := h
  refine AM.of (by decide +kernel) rfl (Nat.le_of_ble_eq_true rfl) (fun p e s m args below meth c C hnm => ?_)
  refine aw_nl [some (.ref v0)] rfl ?_
  refine aw_ald_n C dX8_fault_0 rfl ?_
  obtain ⟨x1, hx1, h⟩ := Option.bind_eq_some_iff.mp h
  refine ah_getI C gf_X8_59 hx1 dX8_fault_1 ?_
  cases h
  exact aw_iret C rfl rfl dX8_fault_4 (by omega) (by omega) ⟨rfl, rfl, rfl⟩
def mX8_why (v0 : Nat) (f : AH) (n : Nat) : Option (Int32 × HpN) := ((gI f v0 8 12).bind fun x1 => some (x1, (f, n)))
set_option maxHeartbeats 1000000 in
theorem rmX8_why {X : GX} {l : Launch} {r : Int32 × HpN} {v0 : Nat} {f : AH} {n : Nat} (h : mX8_why v0 f n = some r) : AM X l yX8_why cX8_why 1 (some .int) 0 0 0 [.ref v0] f n (QHi r) := by
  have h : ((gI f v0 8 12).bind fun x1 => some (x1, (f, n))) = some r := h
  refine AM.of (by decide +kernel) rfl (Nat.le_of_ble_eq_true rfl) (fun p e s m args below meth c C hnm => ?_)
  refine aw_nl [some (.ref v0)] rfl ?_
  refine aw_ald_n C dX8_why_0 rfl ?_
  obtain ⟨x1, hx1, h⟩ := Option.bind_eq_some_iff.mp h
  refine ah_getI C gf_X8_110 hx1 dX8_why_1 ?_
  cases h
  exact aw_iret C rfl rfl dX8_why_4 (by omega) (by omega) ⟨rfl, rfl, rfl⟩
def mX5_get_b31 (s0 : Int32) (f : AH) (n : Nat) : Option (Int32 × HpN) := some (s0, (f, n))
set_option maxHeartbeats 1000000 in
theorem rmX5_get_b31 {X : GX} {p : Program} {l : Launch} {e : Env} {s : State} {m : MethodId} {args : Array Value} {below : List Frame} {meth : Method} {c : Code} {r : Int32 × HpN} {s0 : Int32} {f : AH} {n cells slots : Nat} (C : CC X p l (RM 0 0 0) s m args meth c RX5 cX5_get 2 (some .int)) (hc : cells + 0 ≤ 0) (hs : slots + 0 ≤ 0) (h : mX5_get_b31 s0 f n = some r) : AW X p l e (RM 0 0 0) s m args below meth c 2 (ZM X below args s 0 0 (QHi r)) f n cells slots 31 [none, none] [.int s0] := by
  have h : some (s0, (f, n)) = some r := h
  cases h
  exact aw_iret C rfl rfl dX5_get_31 (by omega) (by omega) ⟨rfl, rfl, rfl⟩
def mX5_get_b30 (f : AH) (n : Nat) : Option (Int32 × HpN) := mX5_get_b31 (-1 : Int32) f n
set_option maxHeartbeats 1000000 in
theorem rmX5_get_b30 {X : GX} {p : Program} {l : Launch} {e : Env} {s : State} {m : MethodId} {args : Array Value} {below : List Frame} {meth : Method} {c : Code} {r : Int32 × HpN} {f : AH} {n cells slots : Nat} (C : CC X p l (RM 0 0 0) s m args meth c RX5 cX5_get 2 (some .int)) (hc : cells + 0 ≤ 0) (hs : slots + 0 ≤ 0) (h : mX5_get_b30 f n = some r) : AW X p l e (RM 0 0 0) s m args below meth c 2 (ZM X below args s 0 0 (QHi r)) f n cells slots 30 [none, none] [] := by
  have h : mX5_get_b31 (-1 : Int32) f n = some r := h
  refine aw_iconst C (-1) dX5_get_30 ki_m1 ?_
  refine aw_fl [none, none] trivial ?_
  exact rmX5_get_b31 C (by omega) (by omega) h
def mX5_get (v0 : Nat) (v1 : Int32) (f : AH) (n : Nat) : Option (Int32 × HpN) := (if v1 < (0 : Int32) then mX5_get_b30 f n else ((gI f v0 5 1).bind fun x1 => (if x1 ≤ v1 then mX5_get_b30 f n else ((gR f v0 5 0).bind fun x2 => ((x2).bind fun j3 => ((gL f j3).bind fun x4 => (if (nI x4) ≤ v1 then mX5_get_b30 f n else ((gR f v0 5 0).bind fun x5 => ((x5).bind fun j6 => ((gIA f j6 v1).bind fun x7 => mX5_get_b31 x7 f n))))))))))
set_option maxHeartbeats 1000000 in
theorem rmX5_get {X : GX} {l : Launch} {r : Int32 × HpN} {v0 : Nat} {v1 : Int32} {f : AH} {n : Nat} (h : mX5_get v0 v1 f n = some r) : AM X l yX5_get cX5_get 2 (some .int) 0 0 0 [.ref v0, .int v1] f n (QHi r) := by
  have h : (if v1 < (0 : Int32) then mX5_get_b30 f n else ((gI f v0 5 1).bind fun x1 => (if x1 ≤ v1 then mX5_get_b30 f n else ((gR f v0 5 0).bind fun x2 => ((x2).bind fun j3 => ((gL f j3).bind fun x4 => (if (nI x4) ≤ v1 then mX5_get_b30 f n else ((gR f v0 5 0).bind fun x5 => ((x5).bind fun j6 => ((gIA f j6 v1).bind fun x7 => mX5_get_b31 x7 f n)))))))))) = some r := h
  refine AM.of (by decide +kernel) rfl (Nat.le_of_ble_eq_true rfl) (fun p e s m args below meth c C hnm => ?_)
  refine aw_nl [some (.ref v0), some (.int v1)] rfl ?_
  refine aw_iload_n C dX5_get_0 rfl ?_
  refine aw_if_lt C 30 dX5_get_1 (by decide) (fun q => ?_) (fun q => ?_)
  · rw [if_pos q] at h
    refine aw_fl [none, none] trivial ?_
    exact rmX5_get_b30 C (by omega) (by omega) h
  · rw [if_neg q] at h
    refine aw_iload_n C dX5_get_4 rfl ?_
    refine aw_ald_n C dX5_get_5 rfl ?_
    obtain ⟨x1, hx1, h⟩ := Option.bind_eq_some_iff.mp h
    refine ah_getI C gf_X5_15 hx1 dX5_get_6 ?_
    refine aw_icmp_ge C 30 dX5_get_9 (by decide) (fun q => ?_) (fun q => ?_)
    · rw [if_pos q] at h
      refine aw_fl [none, none] trivial ?_
      exact rmX5_get_b30 C (by omega) (by omega) h
    · rw [if_neg q] at h
      refine aw_iload_n C dX5_get_12 rfl ?_
      refine aw_ald_n C dX5_get_13 rfl ?_
      obtain ⟨x2, hx2, h⟩ := Option.bind_eq_some_iff.mp h
      refine ah_getR C gf_X5_9 hx2 dX5_get_14 ?_
      obtain ⟨j3, hj3, h⟩ := Option.bind_eq_some_iff.mp h
      rw [hj3]
      obtain ⟨x4, hx4, h⟩ := Option.bind_eq_some_iff.mp h
      refine ah_len C hx4 dX5_get_17 ?_
      refine aw_icmp_ge C 30 dX5_get_18 (by decide) (fun q => ?_) (fun q => ?_)
      · rw [if_pos q] at h
        refine aw_fl [none, none] trivial ?_
        exact rmX5_get_b30 C (by omega) (by omega) h
      · rw [if_neg q] at h
        refine aw_ald_n C dX5_get_21 rfl ?_
        obtain ⟨x5, hx5, h⟩ := Option.bind_eq_some_iff.mp h
        refine ah_getR C gf_X5_9 hx5 dX5_get_22 ?_
        refine aw_iload_n C dX5_get_25 rfl ?_
        obtain ⟨j6, hj6, h⟩ := Option.bind_eq_some_iff.mp h
        rw [hj6]
        obtain ⟨x7, hx7, h⟩ := Option.bind_eq_some_iff.mp h
        refine ah_iald C hx7 dX5_get_26 ?_
        refine aw_goto C 31 dX5_get_27 (by decide) ?_
        refine aw_fl [none, none] trivial ?_
        exact rmX5_get_b31 C (by omega) (by omega) h
def mX5_addPart_b35 (v4 : Int32) (f : AH) (n : Nat) : Option (Int32 × HpN) := rCk (rNb v4) (some (v4, (f, n)))
set_option maxHeartbeats 1000000 in
theorem rmX5_addPart_b35 {X : GX} {p : Program} {l : Launch} {e : Env} {s : State} {m : MethodId} {args : Array Value} {below : List Frame} {meth : Method} {c : Code} {r : Int32 × HpN} {v4 : Int32} {f : AH} {n cells slots : Nat} (C : CC X p l (RM 1 0 0) s m args meth c RX5 cX5_addPart 6 (some .boolean)) (hc : cells + 0 ≤ 0) (hs : slots + 0 ≤ 0) (h : mX5_addPart_b35 v4 f n = some r) : AW X p l e (RM 1 0 0) s m args below meth c 6 (ZM X below args s 0 0 (QHi r)) f n cells slots 35 [none, none, none, none, some (.int v4), none] [] := by
  have h : rCk (rNb v4) (some (v4, (f, n))) = some r := h
  refine aw_iload C dX5_addPart_35 rfl ?_
  obtain ⟨hb1, h⟩ := ck_some h
  cases h
  exact aw_iret C rfl (nb_nar hb1) dX5_addPart_37 (by omega) (by omega) ⟨rfl, rfl, rfl⟩
def mX5_addPart_l6 : Nat → Nat → (Option Nat) → Int32 → Int32 → Int32 → AH → Nat → Option (Int32 × HpN)
  | 0, _, _, _, _, _, _, _ => none
  | d + 1, v0, v1, v3, v4, v5, f, n => (if v3 ≤ v5 then mX5_addPart_b35 v4 f n else (if v4 = (0 : Int32) then mX5_addPart_b35 v4 f n else ((v1).bind fun j1 => rCk (isO f j1 5) (((mX5_get j1 v5 f n).bind fun r3 => rCk (isO r3.2.1 v0 5) (((mX5_add v0 r3.1 r3.2.1 r3.2.2).bind fun r6 => mX5_addPart_l6 d v0 (some j1) v3 r6.1 (v5 + (1 : Int32)) r6.2.1 r6.2.2)))))))
set_option maxHeartbeats 1000000 in
theorem rmX5_addPart_l6 {X : GX} {p : Program} {l : Launch} {e : Env} {s : State} {m : MethodId} {args : Array Value} {below : List Frame} {meth : Method} {c : Code} {r : Int32 × HpN} (C : CC X p l (RM 1 0 0) s m args meth c RX5 cX5_addPart 6 (some .boolean)) : ∀ (d : Nat) (v0 : Nat) (v1 : Option Nat) (v3 : Int32) (v4 : Int32) (v5 : Int32) (f : AH) (n cells slots : Nat) (_ : cells + 0 ≤ 0) (_ : slots + 0 ≤ 0) (_ : mX5_addPart_l6 d v0 v1 v3 v4 v5 f n = some r), AW X p l e (RM 1 0 0) s m args below meth c 6 (ZM X below args s 0 0 (QHi r)) f n cells slots 6 [some (.ref v0), some (va_rf v1), none, some (.int v3), some (.int v4), some (.int v5)] [] := by
  intro d
  induction d with
  | zero =>
    intro v0 v1 v3 v4 v5 f n cells slots hc hs h
    exact nomatch (show (none : Option (Int32 × HpN)) = some r from h)
  | succ d ih =>
    intro v0 v1 v3 v4 v5 f n cells slots hc hs h
    have h : (if v3 ≤ v5 then mX5_addPart_b35 v4 f n else (if v4 = (0 : Int32) then mX5_addPart_b35 v4 f n else ((v1).bind fun j1 => rCk (isO f j1 5) (((mX5_get j1 v5 f n).bind fun r3 => rCk (isO r3.2.1 v0 5) (((mX5_add v0 r3.1 r3.2.1 r3.2.2).bind fun r6 => mX5_addPart_l6 d v0 (some j1) v3 r6.1 (v5 + (1 : Int32)) r6.2.1 r6.2.2))))))) = some r := h
    refine aw_iload C dX5_addPart_6 rfl ?_
    refine aw_iload_n C dX5_addPart_8 rfl ?_
    refine aw_icmp_ge C 35 dX5_addPart_9 (by decide) (fun q => ?_) (fun q => ?_)
    · rw [if_pos q] at h
      refine aw_fl [none, none, none, none, some (.int v4), none] ⟨rfl, trivial⟩ ?_
      exact rmX5_addPart_b35 C (by omega) (by omega) h
    · rw [if_neg q] at h
      refine aw_iload C dX5_addPart_12 rfl ?_
      refine aw_if_eq C 35 dX5_addPart_14 (by decide) (fun q => ?_) (fun q => ?_)
      · rw [if_pos q] at h
        refine aw_fl [none, none, none, none, some (.int v4), none] ⟨rfl, trivial⟩ ?_
        exact rmX5_addPart_b35 C (by omega) (by omega) h
      · rw [if_neg q] at h
        refine aw_ald_n C dX5_addPart_17 rfl ?_
        refine aw_aload_n C dX5_addPart_18 rfl (rf_or v1) ?_
        refine aw_iload C dX5_addPart_19 rfl ?_
        obtain ⟨j1, hj1, h⟩ := Option.bind_eq_some_iff.mp h
        rw [hj1]
        obtain ⟨hb2, h⟩ := ck_some h
        obtain ⟨r3, hr3, h⟩ := Option.bind_eq_some_iff.mp h
        obtain ⟨fs4, hf4⟩ := isO_ex hb2
        refine aw_callV C (ci := 5) (b := j1) [.int v5] mv_X5_19 rfl rfl hf4 (rmX5_get hr3) rfl dX5_addPart_21 (Nat.le_of_ble_eq_true rfl) (Nat.le_of_ble_eq_true rfl) rfl (Nat.le_of_ble_eq_true rfl) (show cells + 0 ≤ 0 by omega) (show slots + 0 ≤ 0 by omega) (fun v9 f9 n9 hh => ?_)
        obtain ⟨rfl, rfl, rfl⟩ := hh
        obtain ⟨hb5, h⟩ := ck_some h
        obtain ⟨r6, hr6, h⟩ := Option.bind_eq_some_iff.mp h
        obtain ⟨fs7, hf7⟩ := isO_ex hb5
        refine aw_callV C (ci := 5) (b := v0) [.int r3.1] mv_X5_23 rfl rfl hf7 (rmX5_add hr6) rfl dX5_addPart_24 (Nat.le_of_ble_eq_true rfl) (Nat.le_of_ble_eq_true rfl) rfl (Nat.le_of_ble_eq_true rfl) (show (cells + 0) + 0 ≤ 0 by omega) (show (slots + 0) + 0 ≤ 0 by omega) (fun v9 f9 n9 hh => ?_)
        obtain ⟨rfl, rfl, rfl⟩ := hh
        refine aw_istore C dX5_addPart_27 (by decide) rfl ?_
        refine aw_nl [some (.ref v0), some (.ref j1), none, some (.int v3), some (.int r6.1), some (.int v5)] rfl ?_
        refine aw_iinc C (v5 + (1 : Int32)) dX5_addPart_29 rfl (by rw [ki_1]) (by decide) rfl ?_
        refine aw_nl [some (.ref v0), some (.ref j1), none, some (.int v3), some (.int r6.1), some (.int (v5 + (1 : Int32)))] rfl ?_
        refine aw_goto C 6 dX5_addPart_32 (by decide) ?_
        refine aw_fl [some (.ref v0), some (va_rf (some j1)), none, some (.int v3), some (.int r6.1), some (.int (v5 + (1 : Int32)))] ⟨rfl, ⟨rfl, ⟨rfl, ⟨rfl, ⟨rfl, trivial⟩⟩⟩⟩⟩ ?_
        exact ih v0 (some j1) v3 r6.1 (v5 + (1 : Int32)) r6.2.1 r6.2.2 _ _ (by omega) (by omega) h
def mX5_addPart (v0 : Nat) (v1 : Option Nat) (v2 : Int32) (v3 : Int32) (f : AH) (n : Nat) : Option (Int32 × HpN) := mX5_addPart_l6 rFU v0 v1 v3 (1 : Int32) v2 f n
set_option maxHeartbeats 1000000 in
theorem rmX5_addPart {X : GX} {l : Launch} {r : Int32 × HpN} {v0 : Nat} {v1 : Option Nat} {v2 : Int32} {v3 : Int32} {f : AH} {n : Nat} (h : mX5_addPart v0 v1 v2 v3 f n = some r) : AM X l yX5_addPart cX5_addPart 6 (some .boolean) 1 0 0 [.ref v0, va_rf v1, .int v2, .int v3] f n (QHi r) := by
  have h : mX5_addPart_l6 rFU v0 v1 v3 (1 : Int32) v2 f n = some r := h
  refine AM.of (by decide +kernel) (all1 rfl (all1 (rf_cat _) (all1 rfl (all1 rfl rfl)))) (Nat.le_of_ble_eq_true rfl) (fun p e s m args below meth c C hnm => ?_)
  refine aw_nl [some (.ref v0), some (va_rf v1), some (.int v2), some (.int v3), none, none] rfl ?_
  refine aw_iconst C 1 dX5_addPart_0 ki_1 ?_
  refine aw_istore C dX5_addPart_1 (by decide) rfl ?_
  refine aw_nl [some (.ref v0), some (va_rf v1), some (.int v2), some (.int v3), some (.int (1 : Int32)), none] rfl ?_
  refine aw_iload_n C dX5_addPart_3 rfl ?_
  refine aw_istore C dX5_addPart_4 (by decide) rfl ?_
  refine aw_nl [some (.ref v0), some (va_rf v1), some (.int v2), some (.int v3), some (.int (1 : Int32)), some (.int v2)] rfl ?_
  refine aw_fl [some (.ref v0), some (va_rf v1), none, some (.int v3), some (.int (1 : Int32)), some (.int v2)] ⟨rfl, ⟨rfl, ⟨rfl, ⟨rfl, ⟨rfl, trivial⟩⟩⟩⟩⟩ ?_
  exact rmX5_addPart_l6 C rFU v0 v1 v3 (1 : Int32) v2 f n _ _ (by omega) (by omega) h
def mX5_part (B : Nat) (v0 : Nat) (v1 : Int32) (v2 : Int32) (f : AH) (n : Nat) : Option (Option Nat × HpN) := ((mX5_init B n v2 (va_up f n (some (.inr (5, df5)))) (n + 1)).bind fun r2 => rCk (isO r2.2.1 n 5) (((mX5_addPart n (some v0) v1 (v1 + v2) r2.2.1 r2.2.2).bind fun r4 => some ((some n), (r4.2.1, r4.2.2)))))
set_option maxHeartbeats 1000000 in
theorem rmX5_part {X : GX} {l : Launch} {r : Option Nat × HpN} {B : Nat} {v0 : Nat} {v1 : Int32} {v2 : Int32} {f : AH} {n : Nat} (h : mX5_part B v0 v1 v2 f n = some r) : AM X l yX5_part cX5_part 4 (some (.object "PieceFiles$Row")) 2 2 (2 + B) [.ref v0, .int v1, .int v2] f n (QHr r) := by
  have h : ((mX5_init B n v2 (va_up f n (some (.inr (5, df5)))) (n + 1)).bind fun r2 => rCk (isO r2.2.1 n 5) (((mX5_addPart n (some v0) v1 (v1 + v2) r2.2.1 r2.2.2).bind fun r4 => some ((some n), (r4.2.1, r4.2.2))))) = some r := h
  refine AM.of (by decide +kernel) rfl (Nat.le_of_ble_eq_true rfl) (fun p e s m args below meth c C hnm => ?_)
  refine aw_nl [some (.ref v0), some (.int v1), some (.int v2), none] rfl ?_
  refine aw_new C nw_X5_10 (show 0 + 1 ≤ 2 by omega) (show 0 + 2 ≤ (2 + B) by omega) dX5_part_0 ?_
  refine aw_wide (k := (0 + 1)) (j := (0 + 2)) (Nat.le_refl _) (Nat.le_refl _) ?_
  refine aw_dup C dX5_part_3 rfl ?_
  refine aw_iload_n C dX5_part_4 rfl ?_
  obtain ⟨r2, hr2, h⟩ := Option.bind_eq_some_iff.mp h
  refine aw_callI C (b := n) [.int v2] mi_X5_27 (rmX5_init hr2) rfl dX5_part_5 (Nat.le_of_ble_eq_true rfl) (Nat.le_of_ble_eq_true rfl) rfl (Nat.le_of_ble_eq_true rfl) (show (0 + 1) + 1 ≤ 2 by omega) (show (0 + 2) + (0 + B) ≤ (2 + B) by omega) (fun v9 f9 n9 hh => ?_)
  obtain ⟨rfl, rfl, rfl⟩ := hh
  refine aw_astore_n C dX5_part_8 (by decide) rfl (Or.inr ⟨_, rfl⟩) ?_
  refine aw_nl [some (.ref v0), some (.int v1), some (.int v2), some (.ref n)] rfl ?_
  refine aw_ald_n C dX5_part_9 rfl ?_
  refine aw_ald_n C dX5_part_10 rfl ?_
  refine aw_iload_n C dX5_part_11 rfl ?_
  refine aw_iload_n C dX5_part_12 rfl ?_
  refine aw_iload_n C dX5_part_13 rfl ?_
  refine aw_iadd C dX5_part_14 ?_
  obtain ⟨hb3, h⟩ := ck_some h
  obtain ⟨r4, hr4, h⟩ := Option.bind_eq_some_iff.mp h
  obtain ⟨fs5, hf5⟩ := isO_ex hb3
  refine aw_callV C (ci := 5) (b := n) [.ref v0, .int v1, .int (v1 + v2)] mv_X5_30 rfl rfl hf5 (rmX5_addPart hr4) rfl dX5_part_15 (Nat.le_of_ble_eq_true rfl) (Nat.le_of_ble_eq_true rfl) rfl (Nat.le_of_ble_eq_true rfl) (show ((0 + 1) + 1) + 0 ≤ 2 by omega) (show ((0 + 2) + (0 + B)) + 0 ≤ (2 + B) by omega) (fun v9 f9 n9 hh => ?_)
  obtain ⟨rfl, rfl, rfl⟩ := hh
  refine aw_pop C dX5_part_18 rfl ?_
  refine aw_ald_n C dX5_part_19 rfl ?_
  cases h
  exact aw_aret C rfl (Or.inr ⟨_, rfl⟩) dX5_part_20 (by omega) (by omega) ⟨rfl, rfl, rfl⟩
def mX7_forgetTold_l2 : Nat → Nat → Int32 → AH → Nat → Option (Int32 × HpN)
  | 0, _, _, _, _ => none
  | d + 1, v0, v1, f, n => ((gR f v0 7 9).bind fun x1 => ((x1).bind fun j2 => ((gL f j2).bind fun x3 => (if (nI x3) ≤ v1 then some ((0 : Int32), (f, n)) else ((gR f v0 7 9).bind fun x4 => ((x4).bind fun j5 => ((pRA f j5 v1 (none : Option Nat)).bind fun f6 => mX7_forgetTold_l2 d v0 (v1 + (1 : Int32)) f6 n)))))))
set_option maxHeartbeats 1000000 in
theorem rmX7_forgetTold_l2 {X : GX} {p : Program} {l : Launch} {e : Env} {s : State} {m : MethodId} {args : Array Value} {below : List Frame} {meth : Method} {c : Code} {r : Int32 × HpN} (C : CC X p l (RM 0 0 0) s m args meth c RX7 cX7_forgetTold 2 none) : ∀ (d : Nat) (v0 : Nat) (v1 : Int32) (f : AH) (n cells slots : Nat) (_ : cells + 0 ≤ 0) (_ : slots + 0 ≤ 0) (_ : mX7_forgetTold_l2 d v0 v1 f n = some r), AW X p l e (RM 0 0 0) s m args below meth c 2 (ZM X below args s 0 0 (QHv r)) f n cells slots 2 [some (.ref v0), some (.int v1)] [] := by
  intro d
  induction d with
  | zero =>
    intro v0 v1 f n cells slots hc hs h
    exact nomatch (show (none : Option (Int32 × HpN)) = some r from h)
  | succ d ih =>
    intro v0 v1 f n cells slots hc hs h
    have h : ((gR f v0 7 9).bind fun x1 => ((x1).bind fun j2 => ((gL f j2).bind fun x3 => (if (nI x3) ≤ v1 then some ((0 : Int32), (f, n)) else ((gR f v0 7 9).bind fun x4 => ((x4).bind fun j5 => ((pRA f j5 v1 (none : Option Nat)).bind fun f6 => mX7_forgetTold_l2 d v0 (v1 + (1 : Int32)) f6 n))))))) = some r := h
    refine aw_iload_n C dX7_forgetTold_2 rfl ?_
    refine aw_ald_n C dX7_forgetTold_3 rfl ?_
    obtain ⟨x1, hx1, h⟩ := Option.bind_eq_some_iff.mp h
    refine ah_getR C gf_X7_34 hx1 dX7_forgetTold_4 ?_
    obtain ⟨j2, hj2, h⟩ := Option.bind_eq_some_iff.mp h
    rw [hj2]
    obtain ⟨x3, hx3, h⟩ := Option.bind_eq_some_iff.mp h
    refine ah_len C hx3 dX7_forgetTold_7 ?_
    refine aw_icmp_ge C 24 dX7_forgetTold_8 (by decide) (fun q => ?_) (fun q => ?_)
    · rw [if_pos q] at h
      cases h
      exact aw_vret C rfl dX7_forgetTold_24 (by omega) (by omega) ⟨rfl, rfl, rfl⟩
    · rw [if_neg q] at h
      refine aw_ald_n C dX7_forgetTold_11 rfl ?_
      obtain ⟨x4, hx4, h⟩ := Option.bind_eq_some_iff.mp h
      refine ah_getR C gf_X7_34 hx4 dX7_forgetTold_12 ?_
      refine aw_iload_n C dX7_forgetTold_15 rfl ?_
      refine aw_null C dX7_forgetTold_16 ?_
      obtain ⟨j5, hj5, h⟩ := Option.bind_eq_some_iff.mp h
      rw [hj5]
      obtain ⟨f6, hf6, h⟩ := Option.bind_eq_some_iff.mp h
      refine ah_aast C hf6 dX7_forgetTold_17 ?_
      refine aw_iinc C (v1 + (1 : Int32)) dX7_forgetTold_18 rfl (by rw [ki_1]) (by decide) rfl ?_
      refine aw_nl [some (.ref v0), some (.int (v1 + (1 : Int32)))] rfl ?_
      refine aw_goto C 2 dX7_forgetTold_21 (by decide) ?_
      refine aw_fl [some (.ref v0), some (.int (v1 + (1 : Int32)))] ⟨rfl, ⟨rfl, trivial⟩⟩ ?_
      exact ih v0 (v1 + (1 : Int32)) f6 n _ _ (by omega) (by omega) h
def mX7_forgetTold (v0 : Nat) (f : AH) (n : Nat) : Option (Int32 × HpN) := mX7_forgetTold_l2 rFU v0 (0 : Int32) f n
set_option maxHeartbeats 1000000 in
theorem rmX7_forgetTold {X : GX} {l : Launch} {r : Int32 × HpN} {v0 : Nat} {f : AH} {n : Nat} (h : mX7_forgetTold v0 f n = some r) : AM X l yX7_forgetTold cX7_forgetTold 2 none 0 0 0 [.ref v0] f n (QHv r) := by
  have h : mX7_forgetTold_l2 rFU v0 (0 : Int32) f n = some r := h
  refine AM.of (by decide +kernel) rfl (Nat.le_of_ble_eq_true rfl) (fun p e s m args below meth c C hnm => ?_)
  refine aw_nl [some (.ref v0), none] rfl ?_
  refine aw_iconst C 0 dX7_forgetTold_0 ki_0 ?_
  refine aw_istore_n C dX7_forgetTold_1 (by decide) rfl ?_
  refine aw_nl [some (.ref v0), some (.int (0 : Int32))] rfl ?_
  refine aw_fl [some (.ref v0), some (.int (0 : Int32))] ⟨rfl, ⟨rfl, trivial⟩⟩ ?_
  exact rmX7_forgetTold_l2 C rFU v0 (0 : Int32) f n _ _ (by omega) (by omega) h
def mX6_start (v0 : Nat) (v1 : Option Nat) (v2 : Int32) (f : AH) (n : Nat) : Option (Int32 × HpN) := ((pO f v0 6 0 (va_rf v1)).bind fun f1 => ((pO f1 v0 6 8 (.int v2)).bind fun f2 => ((pO f2 v0 6 9 (.int (0 : Int32))).bind fun f3 => rCk (rNb (0 : Int32)) (((pO f3 v0 6 3 (.int (0 : Int32))).bind fun f5 => ((pO f5 v0 6 4 (.int (0 : Int32))).bind fun f6 => ((pO f6 v0 6 5 (.int (0 : Int32))).bind fun f7 => some ((0 : Int32), (f7, n)))))))))
set_option maxHeartbeats 1000000 in
theorem rmX6_start {X : GX} {l : Launch} {r : Int32 × HpN} {v0 : Nat} {v1 : Option Nat} {v2 : Int32} {f : AH} {n : Nat} (h : mX6_start v0 v1 v2 f n = some r) : AM X l yX6_start cX6_start 3 none 0 0 0 [.ref v0, va_rf v1, .int v2] f n (QHv r) := by
  have h : ((pO f v0 6 0 (va_rf v1)).bind fun f1 => ((pO f1 v0 6 8 (.int v2)).bind fun f2 => ((pO f2 v0 6 9 (.int (0 : Int32))).bind fun f3 => rCk (rNb (0 : Int32)) (((pO f3 v0 6 3 (.int (0 : Int32))).bind fun f5 => ((pO f5 v0 6 4 (.int (0 : Int32))).bind fun f6 => ((pO f6 v0 6 5 (.int (0 : Int32))).bind fun f7 => some ((0 : Int32), (f7, n))))))))) = some r := h
  refine AM.of (by decide +kernel) (all1 rfl (all1 (rf_cat _) (all1 rfl rfl))) (Nat.le_of_ble_eq_true rfl) (fun p e s m args below meth c C hnm => ?_)
  refine aw_nl [some (.ref v0), some (va_rf v1), some (.int v2)] rfl ?_
  refine aw_ald_n C dX6_start_0 rfl ?_
  refine aw_aload_n C dX6_start_1 rfl (rf_or v1) ?_
  obtain ⟨f1, hf1, h⟩ := Option.bind_eq_some_iff.mp h
  refine ah_put C gf_X6_14 cf6 nf6_0 (rf_nar _ v1) (rf_fit _ v1) hf1 dX6_start_2 ?_
  refine aw_ald_n C dX6_start_5 rfl ?_
  refine aw_iload_n C dX6_start_6 rfl ?_
  obtain ⟨f2, hf2, h⟩ := Option.bind_eq_some_iff.mp h
  refine ah_put C gf_X6_20 cf6 nf6_8 rfl rfl hf2 dX6_start_7 ?_
  refine aw_ald_n C dX6_start_10 rfl ?_
  refine aw_iconst C 0 dX6_start_11 ki_0 ?_
  obtain ⟨f3, hf3, h⟩ := Option.bind_eq_some_iff.mp h
  refine ah_put C gf_X6_24 cf6 nf6_9 rfl rfl hf3 dX6_start_12 ?_
  refine aw_ald_n C dX6_start_15 rfl ?_
  refine aw_iconst C 0 dX6_start_16 ki_0 ?_
  obtain ⟨hb4, h⟩ := ck_some h
  obtain ⟨f5, hf5, h⟩ := Option.bind_eq_some_iff.mp h
  refine ah_put C gf_X6_27 cf6 nf6_3 (nb_nar hb4) (nb_fit hb4) hf5 dX6_start_17 ?_
  refine aw_ald_n C dX6_start_20 rfl ?_
  refine aw_iconst C 0 dX6_start_21 ki_0 ?_
  obtain ⟨f6, hf6, h⟩ := Option.bind_eq_some_iff.mp h
  refine ah_put C gf_X6_31 cf6 nf6_4 rfl rfl hf6 dX6_start_22 ?_
  refine aw_ald_n C dX6_start_25 rfl ?_
  refine aw_iconst C 0 dX6_start_26 ki_0 ?_
  obtain ⟨f7, hf7, h⟩ := Option.bind_eq_some_iff.mp h
  refine ah_put C gf_X6_34 cf6 nf6_5 rfl rfl hf7 dX6_start_27 ?_
  cases h
  exact aw_vret C rfl dX6_start_30 (by omega) (by omega) ⟨rfl, rfl, rfl⟩
def mX5_next_b44 (v3 : Int32) (f : AH) (n : Nat) : Option (Int32 × HpN) := some (v3, (f, n))
set_option maxHeartbeats 1000000 in
theorem rmX5_next_b44 {X : GX} {p : Program} {l : Launch} {e : Env} {s : State} {m : MethodId} {args : Array Value} {below : List Frame} {meth : Method} {c : Code} {r : Int32 × HpN} {v3 : Int32} {f : AH} {n cells slots : Nat} (C : CC X p l (RM 0 0 0) s m args meth c RX5 cX5_next 5 (some .int)) (hc : cells + 0 ≤ 0) (hs : slots + 0 ≤ 0) (h : mX5_next_b44 v3 f n = some r) : AW X p l e (RM 0 0 0) s m args below meth c 5 (ZM X below args s 0 0 (QHi r)) f n cells slots 44 [none, none, none, some (.int v3), none] [] := by
  have h : some (v3, (f, n)) = some r := h
  refine aw_iload_n C dX5_next_44 rfl ?_
  cases h
  exact aw_iret C rfl rfl dX5_next_45 (by omega) (by omega) ⟨rfl, rfl, rfl⟩
def mX5_next_l3 : Nat → Nat → Int32 → Int32 → Int32 → AH → Nat → Option (Int32 × HpN)
  | 0, _, _, _, _, _, _ => none
  | d + 1, v0, v1, v3, v4, f, n => (if v4 < (0 : Int32) then mX5_next_b44 v3 f n else (if v3 ≤ v4 then mX5_next_b44 v3 f n else ((gR f v0 5 0).bind fun x1 => ((x1).bind fun j2 => ((gL f j2).bind fun x3 => (if (nI x3) ≤ v4 then mX5_next_b44 v3 f n else ((gR f v0 5 0).bind fun x4 => ((x4).bind fun j5 => ((gIA f j5 v4).bind fun x6 => (if x6 = v1 then some (v4, (f, n)) else mX5_next_l3 d v0 v1 v3 (v4 + (1 : Int32)) f n))))))))))
set_option maxHeartbeats 1000000 in
theorem rmX5_next_l3 {X : GX} {p : Program} {l : Launch} {e : Env} {s : State} {m : MethodId} {args : Array Value} {below : List Frame} {meth : Method} {c : Code} {r : Int32 × HpN} (C : CC X p l (RM 0 0 0) s m args meth c RX5 cX5_next 5 (some .int)) : ∀ (d : Nat) (v0 : Nat) (v1 : Int32) (v3 : Int32) (v4 : Int32) (f : AH) (n cells slots : Nat) (_ : cells + 0 ≤ 0) (_ : slots + 0 ≤ 0) (_ : mX5_next_l3 d v0 v1 v3 v4 f n = some r), AW X p l e (RM 0 0 0) s m args below meth c 5 (ZM X below args s 0 0 (QHi r)) f n cells slots 3 [some (.ref v0), some (.int v1), none, some (.int v3), some (.int v4)] [] := by
  intro d
  induction d with
  | zero =>
    intro v0 v1 v3 v4 f n cells slots hc hs h
    exact nomatch (show (none : Option (Int32 × HpN)) = some r from h)
  | succ d ih =>
    intro v0 v1 v3 v4 f n cells slots hc hs h
    have h : (if v4 < (0 : Int32) then mX5_next_b44 v3 f n else (if v3 ≤ v4 then mX5_next_b44 v3 f n else ((gR f v0 5 0).bind fun x1 => ((x1).bind fun j2 => ((gL f j2).bind fun x3 => (if (nI x3) ≤ v4 then mX5_next_b44 v3 f n else ((gR f v0 5 0).bind fun x4 => ((x4).bind fun j5 => ((gIA f j5 v4).bind fun x6 => (if x6 = v1 then some (v4, (f, n)) else mX5_next_l3 d v0 v1 v3 (v4 + (1 : Int32)) f n)))))))))) = some r := h
    refine aw_iload C dX5_next_3 rfl ?_
    refine aw_if_lt C 44 dX5_next_5 (by decide) (fun q => ?_) (fun q => ?_)
    · rw [if_pos q] at h
      refine aw_fl [none, none, none, some (.int v3), none] ⟨rfl, trivial⟩ ?_
      exact rmX5_next_b44 C (by omega) (by omega) h
    · rw [if_neg q] at h
      refine aw_iload C dX5_next_8 rfl ?_
      refine aw_iload_n C dX5_next_10 rfl ?_
      refine aw_icmp_ge C 44 dX5_next_11 (by decide) (fun q => ?_) (fun q => ?_)
      · rw [if_pos q] at h
        refine aw_fl [none, none, none, some (.int v3), none] ⟨rfl, trivial⟩ ?_
        exact rmX5_next_b44 C (by omega) (by omega) h
      · rw [if_neg q] at h
        refine aw_iload C dX5_next_14 rfl ?_
        refine aw_ald_n C dX5_next_16 rfl ?_
        obtain ⟨x1, hx1, h⟩ := Option.bind_eq_some_iff.mp h
        refine ah_getR C gf_X5_9 hx1 dX5_next_17 ?_
        obtain ⟨j2, hj2, h⟩ := Option.bind_eq_some_iff.mp h
        rw [hj2]
        obtain ⟨x3, hx3, h⟩ := Option.bind_eq_some_iff.mp h
        refine ah_len C hx3 dX5_next_20 ?_
        refine aw_icmp_ge C 44 dX5_next_21 (by decide) (fun q => ?_) (fun q => ?_)
        · rw [if_pos q] at h
          refine aw_fl [none, none, none, some (.int v3), none] ⟨rfl, trivial⟩ ?_
          exact rmX5_next_b44 C (by omega) (by omega) h
        · rw [if_neg q] at h
          refine aw_ald_n C dX5_next_24 rfl ?_
          obtain ⟨x4, hx4, h⟩ := Option.bind_eq_some_iff.mp h
          refine ah_getR C gf_X5_9 hx4 dX5_next_25 ?_
          refine aw_iload C dX5_next_28 rfl ?_
          obtain ⟨j5, hj5, h⟩ := Option.bind_eq_some_iff.mp h
          rw [hj5]
          obtain ⟨x6, hx6, h⟩ := Option.bind_eq_some_iff.mp h
          refine ah_iald C hx6 dX5_next_30 ?_
          refine aw_iload_n C dX5_next_31 rfl ?_
          refine aw_icmp_ne C 38 dX5_next_32 (by decide) (fun q => ?_) (fun q => ?_)
          · rw [if_neg q] at h
            refine aw_iinc C (v4 + (1 : Int32)) dX5_next_38 rfl (by rw [ki_1]) (by decide) rfl ?_
            refine aw_nl [some (.ref v0), some (.int v1), none, some (.int v3), some (.int (v4 + (1 : Int32)))] rfl ?_
            refine aw_goto C 3 dX5_next_41 (by decide) ?_
            refine aw_fl [some (.ref v0), some (.int v1), none, some (.int v3), some (.int (v4 + (1 : Int32)))] ⟨rfl, ⟨rfl, ⟨rfl, ⟨rfl, trivial⟩⟩⟩⟩ ?_
            exact ih v0 v1 v3 (v4 + (1 : Int32)) f n _ _ (by omega) (by omega) h
          · rw [if_pos q] at h
            refine aw_iload C dX5_next_35 rfl ?_
            cases h
            exact aw_iret C rfl rfl dX5_next_37 (by omega) (by omega) ⟨rfl, rfl, rfl⟩
def mX5_next (v0 : Nat) (v1 : Int32) (v2 : Int32) (v3 : Int32) (f : AH) (n : Nat) : Option (Int32 × HpN) := mX5_next_l3 rFU v0 v1 v3 v2 f n
set_option maxHeartbeats 1000000 in
theorem rmX5_next {X : GX} {l : Launch} {r : Int32 × HpN} {v0 : Nat} {v1 : Int32} {v2 : Int32} {v3 : Int32} {f : AH} {n : Nat} (h : mX5_next v0 v1 v2 v3 f n = some r) : AM X l yX5_next cX5_next 5 (some .int) 0 0 0 [.ref v0, .int v1, .int v2, .int v3] f n (QHi r) := by
  have h : mX5_next_l3 rFU v0 v1 v3 v2 f n = some r := h
  refine AM.of (by decide +kernel) rfl (Nat.le_of_ble_eq_true rfl) (fun p e s m args below meth c C hnm => ?_)
  refine aw_nl [some (.ref v0), some (.int v1), some (.int v2), some (.int v3), none] rfl ?_
  refine aw_iload_n C dX5_next_0 rfl ?_
  refine aw_istore C dX5_next_1 (by decide) rfl ?_
  refine aw_nl [some (.ref v0), some (.int v1), some (.int v2), some (.int v3), some (.int v2)] rfl ?_
  refine aw_fl [some (.ref v0), some (.int v1), none, some (.int v3), some (.int v2)] ⟨rfl, ⟨rfl, ⟨rfl, ⟨rfl, trivial⟩⟩⟩⟩ ?_
  exact rmX5_next_l3 C rFU v0 v1 v3 v2 f n _ _ (by omega) (by omega) h
def mX5_behindBlanks_b39 (v2 : Int32) (f : AH) (n : Nat) : Option (Int32 × HpN) := some (v2, (f, n))
set_option maxHeartbeats 1000000 in
theorem rmX5_behindBlanks_b39 {X : GX} {p : Program} {l : Launch} {e : Env} {s : State} {m : MethodId} {args : Array Value} {below : List Frame} {meth : Method} {c : Code} {r : Int32 × HpN} {v2 : Int32} {f : AH} {n cells slots : Nat} (C : CC X p l (RM 0 0 0) s m args meth c RX5 cX5_behindBlanks 4 (some .int)) (hc : cells + 0 ≤ 0) (hs : slots + 0 ≤ 0) (h : mX5_behindBlanks_b39 v2 f n = some r) : AW X p l e (RM 0 0 0) s m args below meth c 4 (ZM X below args s 0 0 (QHi r)) f n cells slots 39 [none, none, some (.int v2), none] [] := by
  have h : some (v2, (f, n)) = some r := h
  refine aw_iload_n C dX5_behindBlanks_39 rfl ?_
  cases h
  exact aw_iret C rfl rfl dX5_behindBlanks_40 (by omega) (by omega) ⟨rfl, rfl, rfl⟩
def mX5_behindBlanks_l2 : Nat → Nat → Int32 → Int32 → AH → Nat → Option (Int32 × HpN)
  | 0, _, _, _, _, _ => none
  | d + 1, v0, v2, v3, f, n => (if v3 < (0 : Int32) then mX5_behindBlanks_b39 v2 f n else (if v2 ≤ v3 then mX5_behindBlanks_b39 v2 f n else ((gR f v0 5 0).bind fun x1 => ((x1).bind fun j2 => ((gL f j2).bind fun x3 => (if (nI x3) ≤ v3 then mX5_behindBlanks_b39 v2 f n else ((gR f v0 5 0).bind fun x4 => ((x4).bind fun j5 => ((gIA f j5 v3).bind fun x6 => (if x6 = (32 : Int32) then mX5_behindBlanks_l2 d v0 v2 (v3 + (1 : Int32)) f n else some (v3, (f, n))))))))))))
set_option maxHeartbeats 1000000 in
theorem rmX5_behindBlanks_l2 {X : GX} {p : Program} {l : Launch} {e : Env} {s : State} {m : MethodId} {args : Array Value} {below : List Frame} {meth : Method} {c : Code} {r : Int32 × HpN} (C : CC X p l (RM 0 0 0) s m args meth c RX5 cX5_behindBlanks 4 (some .int)) : ∀ (d : Nat) (v0 : Nat) (v2 : Int32) (v3 : Int32) (f : AH) (n cells slots : Nat) (_ : cells + 0 ≤ 0) (_ : slots + 0 ≤ 0) (_ : mX5_behindBlanks_l2 d v0 v2 v3 f n = some r), AW X p l e (RM 0 0 0) s m args below meth c 4 (ZM X below args s 0 0 (QHi r)) f n cells slots 2 [some (.ref v0), none, some (.int v2), some (.int v3)] [] := by
  intro d
  induction d with
  | zero =>
    intro v0 v2 v3 f n cells slots hc hs h
    exact nomatch (show (none : Option (Int32 × HpN)) = some r from h)
  | succ d ih =>
    intro v0 v2 v3 f n cells slots hc hs h
    have h : (if v3 < (0 : Int32) then mX5_behindBlanks_b39 v2 f n else (if v2 ≤ v3 then mX5_behindBlanks_b39 v2 f n else ((gR f v0 5 0).bind fun x1 => ((x1).bind fun j2 => ((gL f j2).bind fun x3 => (if (nI x3) ≤ v3 then mX5_behindBlanks_b39 v2 f n else ((gR f v0 5 0).bind fun x4 => ((x4).bind fun j5 => ((gIA f j5 v3).bind fun x6 => (if x6 = (32 : Int32) then mX5_behindBlanks_l2 d v0 v2 (v3 + (1 : Int32)) f n else some (v3, (f, n)))))))))))) = some r := h
    refine aw_iload_n C dX5_behindBlanks_2 rfl ?_
    refine aw_if_lt C 39 dX5_behindBlanks_3 (by decide) (fun q => ?_) (fun q => ?_)
    · rw [if_pos q] at h
      refine aw_fl [none, none, some (.int v2), none] ⟨rfl, trivial⟩ ?_
      exact rmX5_behindBlanks_b39 C (by omega) (by omega) h
    · rw [if_neg q] at h
      refine aw_iload_n C dX5_behindBlanks_6 rfl ?_
      refine aw_iload_n C dX5_behindBlanks_7 rfl ?_
      refine aw_icmp_ge C 39 dX5_behindBlanks_8 (by decide) (fun q => ?_) (fun q => ?_)
      · rw [if_pos q] at h
        refine aw_fl [none, none, some (.int v2), none] ⟨rfl, trivial⟩ ?_
        exact rmX5_behindBlanks_b39 C (by omega) (by omega) h
      · rw [if_neg q] at h
        refine aw_iload_n C dX5_behindBlanks_11 rfl ?_
        refine aw_ald_n C dX5_behindBlanks_12 rfl ?_
        obtain ⟨x1, hx1, h⟩ := Option.bind_eq_some_iff.mp h
        refine ah_getR C gf_X5_9 hx1 dX5_behindBlanks_13 ?_
        obtain ⟨j2, hj2, h⟩ := Option.bind_eq_some_iff.mp h
        rw [hj2]
        obtain ⟨x3, hx3, h⟩ := Option.bind_eq_some_iff.mp h
        refine ah_len C hx3 dX5_behindBlanks_16 ?_
        refine aw_icmp_ge C 39 dX5_behindBlanks_17 (by decide) (fun q => ?_) (fun q => ?_)
        · rw [if_pos q] at h
          refine aw_fl [none, none, some (.int v2), none] ⟨rfl, trivial⟩ ?_
          exact rmX5_behindBlanks_b39 C (by omega) (by omega) h
        · rw [if_neg q] at h
          refine aw_ald_n C dX5_behindBlanks_20 rfl ?_
          obtain ⟨x4, hx4, h⟩ := Option.bind_eq_some_iff.mp h
          refine ah_getR C gf_X5_9 hx4 dX5_behindBlanks_21 ?_
          refine aw_iload_n C dX5_behindBlanks_24 rfl ?_
          obtain ⟨j5, hj5, h⟩ := Option.bind_eq_some_iff.mp h
          rw [hj5]
          obtain ⟨x6, hx6, h⟩ := Option.bind_eq_some_iff.mp h
          refine ah_iald C hx6 dX5_behindBlanks_25 ?_
          refine aw_bipush C 32 dX5_behindBlanks_26 kb_32 ?_
          refine aw_icmp_eq C 33 dX5_behindBlanks_28 (by decide) (fun q => ?_) (fun q => ?_)
          · rw [if_pos q] at h
            refine aw_iinc C (v3 + (1 : Int32)) dX5_behindBlanks_33 rfl (by rw [ki_1]) (by decide) rfl ?_
            refine aw_nl [some (.ref v0), none, some (.int v2), some (.int (v3 + (1 : Int32)))] rfl ?_
            refine aw_goto C 2 dX5_behindBlanks_36 (by decide) ?_
            refine aw_fl [some (.ref v0), none, some (.int v2), some (.int (v3 + (1 : Int32)))] ⟨rfl, ⟨rfl, ⟨rfl, trivial⟩⟩⟩ ?_
            exact ih v0 v2 (v3 + (1 : Int32)) f n _ _ (by omega) (by omega) h
          · rw [if_neg q] at h
            refine aw_iload_n C dX5_behindBlanks_31 rfl ?_
            cases h
            exact aw_iret C rfl rfl dX5_behindBlanks_32 (by omega) (by omega) ⟨rfl, rfl, rfl⟩
def mX5_behindBlanks (v0 : Nat) (v1 : Int32) (v2 : Int32) (f : AH) (n : Nat) : Option (Int32 × HpN) := mX5_behindBlanks_l2 rFU v0 v2 v1 f n
set_option maxHeartbeats 1000000 in
theorem rmX5_behindBlanks {X : GX} {l : Launch} {r : Int32 × HpN} {v0 : Nat} {v1 : Int32} {v2 : Int32} {f : AH} {n : Nat} (h : mX5_behindBlanks v0 v1 v2 f n = some r) : AM X l yX5_behindBlanks cX5_behindBlanks 4 (some .int) 0 0 0 [.ref v0, .int v1, .int v2] f n (QHi r) := by
  have h : mX5_behindBlanks_l2 rFU v0 v2 v1 f n = some r := h
  refine AM.of (by decide +kernel) rfl (Nat.le_of_ble_eq_true rfl) (fun p e s m args below meth c C hnm => ?_)
  refine aw_nl [some (.ref v0), some (.int v1), some (.int v2), none] rfl ?_
  refine aw_iload_n C dX5_behindBlanks_0 rfl ?_
  refine aw_istore_n C dX5_behindBlanks_1 (by decide) rfl ?_
  refine aw_nl [some (.ref v0), some (.int v1), some (.int v2), some (.int v1)] rfl ?_
  refine aw_fl [some (.ref v0), none, some (.int v2), some (.int v1)] ⟨rfl, ⟨rfl, ⟨rfl, trivial⟩⟩⟩ ?_
  exact rmX5_behindBlanks_l2 C rFU v0 v2 v1 f n _ _ (by omega) (by omega) h
