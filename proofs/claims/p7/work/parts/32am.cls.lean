def mX8_twice_b72 (f : AH) (n : Nat) : Option (Int32 × HpN) := rCk (rNb (0 : Int32)) (some ((0 : Int32), (f, n)))
set_option maxHeartbeats 1000000 in
theorem rmX8_twice_b72 {X : GX} {p : Program} {l : Launch} {e : Env} {s : State} {m : MethodId} {args : Array Value} {below : List Frame} {meth : Method} {c : Code} {r : Int32 × HpN} {f : AH} {n cells slots : Nat} (C : CC X p l (RM 6 0 0) s m args meth c RX8 cX8_twice 4 (some .boolean)) (hc : cells + 0 ≤ 0) (hs : slots + 0 ≤ 0) (h : mX8_twice_b72 f n = some r) : AW X p l e (RM 6 0 0) s m args below meth c 4 (ZM X below args s 0 0 (QHi r)) f n cells slots 72 [none, none, none, none] [] := by
  have h : rCk (rNb (0 : Int32)) (some ((0 : Int32), (f, n))) = some r := h
  refine aw_iconst C 0 dX8_twice_72 ki_0 ?_
  obtain ⟨hb1, h⟩ := ck_some h
  cases h
  exact aw_iret C rfl (nb_nar hb1) dX8_twice_73 (by omega) (by omega) ⟨rfl, rfl, rfl⟩
def mX8_twice_l25 : Nat → Nat → Int32 → AH → Nat → Option (Int32 × HpN)
  | 0, _, _, _, _ => none
  | d + 1, v0, v1, f, n => ((gR f v0 8 5).bind fun x1 => ((x1).bind fun j2 => rCk (isO f j2 1) (((mX1_size j2 f n).bind fun r4 => (if r4.1 ≤ v1 then rCk (rNb (1 : Int32)) (some ((1 : Int32), (r4.2.1, r4.2.2))) else ((gR r4.2.1 v0 8 5).bind fun x7 => ((x7).bind fun j8 => rCk (isO r4.2.1 j8 1) (((mX1_get j8 v1 r4.2.1 r4.2.2).bind fun r10 => ((some r10.1).bind fun x12 => ((gR r10.2.1 v0 8 6).bind fun x13 => ((x13).bind fun j14 => rCk (isO r10.2.1 j14 1) (((mX1_get j14 v1 r10.2.1 r10.2.2).bind fun r16 => ((some r16.1).bind fun x18 => (oN x12 (mX8_twice_b72 r16.2.1 r16.2.2) (fun j19 => (oN x18 (mX8_twice_b72 r16.2.1 r16.2.2) (fun j20 => rCk (isO r16.2.1 v0 8) (((mX8_isNow v0 v1 (some j19) (some j20) r16.2.1 r16.2.2).bind fun r22 => (if r22.1 = (0 : Int32) then mX8_twice_b72 r22.2.1 r22.2.2 else mX8_twice_l25 d v0 (v1 + (1 : Int32)) r22.2.1 r22.2.2))))))))))))))))))))))
set_option maxHeartbeats 1000000 in
theorem rmX8_twice_l25 {X : GX} {p : Program} {l : Launch} {e : Env} {s : State} {m : MethodId} {args : Array Value} {below : List Frame} {meth : Method} {c : Code} {r : Int32 × HpN} (C : CC X p l (RM 6 0 0) s m args meth c RX8 cX8_twice 4 (some .boolean)) : ∀ (d : Nat) (v0 : Nat) (v1 : Int32) (f : AH) (n cells slots : Nat) (_ : cells + 0 ≤ 0) (_ : slots + 0 ≤ 0) (_ : mX8_twice_l25 d v0 v1 f n = some r), AW X p l e (RM 6 0 0) s m args below meth c 4 (ZM X below args s 0 0 (QHi r)) f n cells slots 25 [some (.ref v0), some (.int v1), none, none] [] := by
  intro d
  induction d with
  | zero =>
    intro v0 v1 f n cells slots hc hs h
    exact nomatch (show (none : Option (Int32 × HpN)) = some r from h)
  | succ d ih =>
    intro v0 v1 f n cells slots hc hs h
    have h : ((gR f v0 8 5).bind fun x1 => ((x1).bind fun j2 => rCk (isO f j2 1) (((mX1_size j2 f n).bind fun r4 => (if r4.1 ≤ v1 then rCk (rNb (1 : Int32)) (some ((1 : Int32), (r4.2.1, r4.2.2))) else ((gR r4.2.1 v0 8 5).bind fun x7 => ((x7).bind fun j8 => rCk (isO r4.2.1 j8 1) (((mX1_get j8 v1 r4.2.1 r4.2.2).bind fun r10 => ((some r10.1).bind fun x12 => ((gR r10.2.1 v0 8 6).bind fun x13 => ((x13).bind fun j14 => rCk (isO r10.2.1 j14 1) (((mX1_get j14 v1 r10.2.1 r10.2.2).bind fun r16 => ((some r16.1).bind fun x18 => (oN x12 (mX8_twice_b72 r16.2.1 r16.2.2) (fun j19 => (oN x18 (mX8_twice_b72 r16.2.1 r16.2.2) (fun j20 => rCk (isO r16.2.1 v0 8) (((mX8_isNow v0 v1 (some j19) (some j20) r16.2.1 r16.2.2).bind fun r22 => (if r22.1 = (0 : Int32) then mX8_twice_b72 r22.2.1 r22.2.2 else mX8_twice_l25 d v0 (v1 + (1 : Int32)) r22.2.1 r22.2.2)))))))))))))))))))))) = some r := h
    refine aw_iload_n C dX8_twice_25 rfl ?_
    refine aw_ald_n C dX8_twice_26 rfl ?_
    obtain ⟨x1, hx1, h⟩ := Option.bind_eq_some_iff.mp h
    refine ah_getR C gf_X8_38 hx1 dX8_twice_27 ?_
    obtain ⟨j2, hj2, h⟩ := Option.bind_eq_some_iff.mp h
    rw [hj2]
    obtain ⟨hb3, h⟩ := ck_some h
    obtain ⟨r4, hr4, h⟩ := Option.bind_eq_some_iff.mp h
    obtain ⟨fs5, hf5⟩ := isO_ex hb3
    refine aw_callV C (ci := 1) (b := j2) [] mv_X8_136 rfl rfl hf5 (rmX1_size hr4) rfl dX8_twice_30 (Nat.le_of_ble_eq_true rfl) (Nat.le_of_ble_eq_true rfl) rfl (Nat.le_of_ble_eq_true rfl) (show cells + 0 ≤ 0 by omega) (show slots + 0 ≤ 0 by omega) (fun v9 f9 n9 hh => ?_)
    obtain ⟨rfl, rfl, rfl⟩ := hh
    refine aw_icmp_ge C 80 dX8_twice_33 (by decide) (fun q => ?_) (fun q => ?_)
    · rw [if_pos q] at h
      refine aw_iconst C 1 dX8_twice_80 ki_1 ?_
      obtain ⟨hb6, h⟩ := ck_some h
      cases h
      exact aw_iret C rfl (nb_nar hb6) dX8_twice_81 (by omega) (by omega) ⟨rfl, rfl, rfl⟩
    · rw [if_neg q] at h
      refine aw_ald_n C dX8_twice_36 rfl ?_
      obtain ⟨x7, hx7, h⟩ := Option.bind_eq_some_iff.mp h
      refine ah_getR C gf_X8_38 hx7 dX8_twice_37 ?_
      refine aw_iload_n C dX8_twice_40 rfl ?_
      obtain ⟨j8, hj8, h⟩ := Option.bind_eq_some_iff.mp h
      rw [hj8]
      obtain ⟨hb9, h⟩ := ck_some h
      obtain ⟨r10, hr10, h⟩ := Option.bind_eq_some_iff.mp h
      obtain ⟨fs11, hf11⟩ := isO_ex hb9
      refine aw_callV C (ci := 1) (b := j8) [.int v1] mv_X8_241 rfl rfl hf11 (rmX1_get hr10) rfl dX8_twice_41 (Nat.le_of_ble_eq_true rfl) (Nat.le_of_ble_eq_true rfl) rfl (Nat.le_of_ble_eq_true rfl) (show (cells + 0) + 0 ≤ 0 by omega) (show (slots + 0) + 0 ≤ 0 by omega) (fun v9 f9 n9 hh => ?_)
      obtain ⟨rfl, rfl, rfl⟩ := hh
      obtain ⟨x12, hx12, h⟩ := Option.bind_eq_some_iff.mp h
      rw [Option.some.inj hx12]
      refine aw_astore_n C dX8_twice_44 (by decide) rfl (rf_or x12) ?_
      refine aw_nl [some (.ref v0), some (.int v1), some (va_rf x12), none] rfl ?_
      refine aw_ald_n C dX8_twice_45 rfl ?_
      obtain ⟨x13, hx13, h⟩ := Option.bind_eq_some_iff.mp h
      refine ah_getR C gf_X8_42 hx13 dX8_twice_46 ?_
      refine aw_iload_n C dX8_twice_49 rfl ?_
      obtain ⟨j14, hj14, h⟩ := Option.bind_eq_some_iff.mp h
      rw [hj14]
      obtain ⟨hb15, h⟩ := ck_some h
      obtain ⟨r16, hr16, h⟩ := Option.bind_eq_some_iff.mp h
      obtain ⟨fs17, hf17⟩ := isO_ex hb15
      refine aw_callV C (ci := 1) (b := j14) [.int v1] mv_X8_241 rfl rfl hf17 (rmX1_get hr16) rfl dX8_twice_50 (Nat.le_of_ble_eq_true rfl) (Nat.le_of_ble_eq_true rfl) rfl (Nat.le_of_ble_eq_true rfl) (show ((cells + 0) + 0) + 0 ≤ 0 by omega) (show ((slots + 0) + 0) + 0 ≤ 0 by omega) (fun v9 f9 n9 hh => ?_)
      obtain ⟨rfl, rfl, rfl⟩ := hh
      obtain ⟨x18, hx18, h⟩ := Option.bind_eq_some_iff.mp h
      rw [Option.some.inj hx18]
      refine aw_astore_n C dX8_twice_53 (by decide) (ok_rf 2 rfl) (rf_or x18) ?_
      refine aw_nl [some (.ref v0), some (.int v1), some (va_rf x12), some (va_rf x18)] rfl ?_
      refine aw_aload_n C dX8_twice_54 rfl (rf_or x12) ?_
      cases x12 with
      | none =>
        replace h : mX8_twice_b72 r16.2.1 r16.2.2 = some r := h
        refine aw_ifnull_n C 72 dX8_twice_55 (by decide) ?_
        refine aw_fl [none, none, none, none] trivial ?_
        exact rmX8_twice_b72 C (by omega) (by omega) h
      | some j19 =>
        replace h : (oN x18 (mX8_twice_b72 r16.2.1 r16.2.2) (fun j20 => rCk (isO r16.2.1 v0 8) (((mX8_isNow v0 v1 (some j19) (some j20) r16.2.1 r16.2.2).bind fun r22 => (if r22.1 = (0 : Int32) then mX8_twice_b72 r22.2.1 r22.2.2 else mX8_twice_l25 d v0 (v1 + (1 : Int32)) r22.2.1 r22.2.2))))) = some r := h
        refine aw_ifnull_r C 72 dX8_twice_55 (by decide) ?_
        refine aw_aload_n C dX8_twice_58 rfl (rf_or x18) ?_
        cases x18 with
        | none =>
          replace h : mX8_twice_b72 r16.2.1 r16.2.2 = some r := h
          refine aw_ifnull_n C 72 dX8_twice_59 (by decide) ?_
          refine aw_fl [none, none, none, none] trivial ?_
          exact rmX8_twice_b72 C (by omega) (by omega) h
        | some j20 =>
          replace h : rCk (isO r16.2.1 v0 8) (((mX8_isNow v0 v1 (some j19) (some j20) r16.2.1 r16.2.2).bind fun r22 => (if r22.1 = (0 : Int32) then mX8_twice_b72 r22.2.1 r22.2.2 else mX8_twice_l25 d v0 (v1 + (1 : Int32)) r22.2.1 r22.2.2))) = some r := h
          refine aw_ifnull_r C 72 dX8_twice_59 (by decide) ?_
          refine aw_ald_n C dX8_twice_62 rfl ?_
          refine aw_iload_n C dX8_twice_63 rfl ?_
          refine aw_ald_n C dX8_twice_64 rfl ?_
          refine aw_ald_n C dX8_twice_65 rfl ?_
          obtain ⟨hb21, h⟩ := ck_some h
          obtain ⟨r22, hr22, h⟩ := Option.bind_eq_some_iff.mp h
          obtain ⟨fs23, hf23⟩ := isO_ex hb21
          refine aw_callV C (ci := 8) (b := v0) [.int v1, .ref j19, .ref j20] mv_X8_283 rfl rfl hf23 (rmX8_isNow hr22) rfl dX8_twice_66 (Nat.le_of_ble_eq_true rfl) (Nat.le_of_ble_eq_true rfl) rfl (Nat.le_of_ble_eq_true rfl) (show (((cells + 0) + 0) + 0) + 0 ≤ 0 by omega) (show (((slots + 0) + 0) + 0) + 0 ≤ 0 by omega) (fun v9 f9 n9 hh => ?_)
          obtain ⟨rfl, rfl, rfl⟩ := hh
          refine aw_if_ne C 74 dX8_twice_69 (by decide) (fun q => ?_) (fun q => ?_)
          · rw [if_neg q] at h
            refine aw_iinc C (v1 + (1 : Int32)) dX8_twice_74 rfl (by rw [ki_1]) (by decide) rfl ?_
            refine aw_nl [some (.ref v0), some (.int (v1 + (1 : Int32))), some (.ref j19), some (.ref j20)] rfl ?_
            refine aw_goto C 25 dX8_twice_77 (by decide) ?_
            refine aw_fl [some (.ref v0), some (.int (v1 + (1 : Int32))), none, none] ⟨rfl, ⟨rfl, trivial⟩⟩ ?_
            exact ih v0 (v1 + (1 : Int32)) r22.2.1 r22.2.2 _ _ (by omega) (by omega) h
          · rw [if_pos q] at h
            refine aw_fl [none, none, none, none] trivial ?_
            exact rmX8_twice_b72 C (by omega) (by omega) h
def mX8_twice (v0 : Nat) (f : AH) (n : Nat) : Option (Int32 × HpN) := rCk (isO f v0 8) (((mX8_cutAgain v0 f n).bind fun r2 => ((gR r2.2.1 v0 8 6).bind fun x4 => ((x4).bind fun j5 => rCk (isO r2.2.1 j5 1) (((mX1_size j5 r2.2.1 r2.2.2).bind fun r7 => ((gR r7.2.1 v0 8 5).bind fun x9 => ((x9).bind fun j10 => rCk (isO r7.2.1 j10 1) (((mX1_size j10 r7.2.1 r7.2.2).bind fun r12 => (if r7.1 = r12.1 then mX8_twice_l25 rFU v0 (0 : Int32) r12.2.1 r12.2.2 else rCk (rNb (0 : Int32)) (some ((0 : Int32), (r12.2.1, r12.2.2))))))))))))))
set_option maxHeartbeats 1000000 in
theorem rmX8_twice {X : GX} {l : Launch} {r : Int32 × HpN} {v0 : Nat} {f : AH} {n : Nat} (h : mX8_twice v0 f n = some r) : AM X l yX8_twice cX8_twice 4 (some .boolean) 6 0 0 [.ref v0] f n (QHi r) := by
  have h : rCk (isO f v0 8) (((mX8_cutAgain v0 f n).bind fun r2 => ((gR r2.2.1 v0 8 6).bind fun x4 => ((x4).bind fun j5 => rCk (isO r2.2.1 j5 1) (((mX1_size j5 r2.2.1 r2.2.2).bind fun r7 => ((gR r7.2.1 v0 8 5).bind fun x9 => ((x9).bind fun j10 => rCk (isO r7.2.1 j10 1) (((mX1_size j10 r7.2.1 r7.2.2).bind fun r12 => (if r7.1 = r12.1 then mX8_twice_l25 rFU v0 (0 : Int32) r12.2.1 r12.2.2 else rCk (rNb (0 : Int32)) (some ((0 : Int32), (r12.2.1, r12.2.2)))))))))))))) = some r := h
  refine AM.of (by decide +kernel) rfl (Nat.le_of_ble_eq_true rfl) (fun p e s m args below meth c C hnm => ?_)
  refine aw_nl [some (.ref v0), none, none, none] rfl ?_
  refine aw_ald_n C dX8_twice_0 rfl ?_
  obtain ⟨hb1, h⟩ := ck_some h
  obtain ⟨r2, hr2, h⟩ := Option.bind_eq_some_iff.mp h
  obtain ⟨fs3, hf3⟩ := isO_ex hb1
  refine aw_callV C (ci := 8) (b := v0) [] mv_X8_276 rfl rfl hf3 (rmX8_cutAgain hr2) rfl dX8_twice_1 (Nat.le_of_ble_eq_true rfl) (Nat.le_of_ble_eq_true rfl) rfl (Nat.le_of_ble_eq_true rfl) (show 0 + 0 ≤ 0 by omega) (show 0 + 0 ≤ 0 by omega) (fun v9 f9 n9 hh => ?_)
  obtain ⟨rfl, rfl, rfl⟩ := hh
  refine aw_ald_n C dX8_twice_4 rfl ?_
  obtain ⟨x4, hx4, h⟩ := Option.bind_eq_some_iff.mp h
  refine ah_getR C gf_X8_42 hx4 dX8_twice_5 ?_
  obtain ⟨j5, hj5, h⟩ := Option.bind_eq_some_iff.mp h
  rw [hj5]
  obtain ⟨hb6, h⟩ := ck_some h
  obtain ⟨r7, hr7, h⟩ := Option.bind_eq_some_iff.mp h
  obtain ⟨fs8, hf8⟩ := isO_ex hb6
  refine aw_callV C (ci := 1) (b := j5) [] mv_X8_136 rfl rfl hf8 (rmX1_size hr7) rfl dX8_twice_8 (Nat.le_of_ble_eq_true rfl) (Nat.le_of_ble_eq_true rfl) rfl (Nat.le_of_ble_eq_true rfl) (show (0 + 0) + 0 ≤ 0 by omega) (show (0 + 0) + 0 ≤ 0 by omega) (fun v9 f9 n9 hh => ?_)
  obtain ⟨rfl, rfl, rfl⟩ := hh
  refine aw_ald_n C dX8_twice_11 rfl ?_
  obtain ⟨x9, hx9, h⟩ := Option.bind_eq_some_iff.mp h
  refine ah_getR C gf_X8_38 hx9 dX8_twice_12 ?_
  obtain ⟨j10, hj10, h⟩ := Option.bind_eq_some_iff.mp h
  rw [hj10]
  obtain ⟨hb11, h⟩ := ck_some h
  obtain ⟨r12, hr12, h⟩ := Option.bind_eq_some_iff.mp h
  obtain ⟨fs13, hf13⟩ := isO_ex hb11
  refine aw_callV C (ci := 1) (b := j10) [] mv_X8_136 rfl rfl hf13 (rmX1_size hr12) rfl dX8_twice_15 (Nat.le_of_ble_eq_true rfl) (Nat.le_of_ble_eq_true rfl) rfl (Nat.le_of_ble_eq_true rfl) (show ((0 + 0) + 0) + 0 ≤ 0 by omega) (show ((0 + 0) + 0) + 0 ≤ 0 by omega) (fun v9 f9 n9 hh => ?_)
  obtain ⟨rfl, rfl, rfl⟩ := hh
  refine aw_icmp_eq C 23 dX8_twice_18 (by decide) (fun q => ?_) (fun q => ?_)
  · rw [if_pos q] at h
    refine aw_iconst C 0 dX8_twice_23 ki_0 ?_
    refine aw_istore_n C dX8_twice_24 (by decide) rfl ?_
    refine aw_nl [some (.ref v0), some (.int (0 : Int32)), none, none] rfl ?_
    refine aw_fl [some (.ref v0), some (.int (0 : Int32)), none, none] ⟨rfl, ⟨rfl, trivial⟩⟩ ?_
    exact rmX8_twice_l25 C rFU v0 (0 : Int32) r12.2.1 r12.2.2 _ _ (by omega) (by omega) h
  · rw [if_neg q] at h
    refine aw_iconst C 0 dX8_twice_21 ki_0 ?_
    obtain ⟨hb14, h⟩ := ck_some h
    cases h
    exact aw_iret C rfl (nb_nar hb14) dX8_twice_22 (by omega) (by omega) ⟨rfl, rfl, rfl⟩
def mX8_image (v0 : Nat) (f : AH) (n : Nat) : Option (Int32 × HpN) := ((gR f v0 8 3).bind fun x1 => ((gR f v0 8 1).bind fun x2 => ((x1).bind fun j3 => rCk (isO f j3 7) (((mX7_copyFrom j3 x2 f n).bind fun r5 => rCk (rNb (1 : Int32)) (((pO r5.2.1 v0 8 9 (.int (1 : Int32))).bind fun f8 => some ((0 : Int32), (f8, r5.2.2)))))))))
set_option maxHeartbeats 1000000 in
theorem rmX8_image {X : GX} {l : Launch} {r : Int32 × HpN} {v0 : Nat} {f : AH} {n : Nat} (h : mX8_image v0 f n = some r) : AM X l yX8_image cX8_image 1 none 1 0 0 [.ref v0] f n (QHv r) := by
  have h : ((gR f v0 8 3).bind fun x1 => ((gR f v0 8 1).bind fun x2 => ((x1).bind fun j3 => rCk (isO f j3 7) (((mX7_copyFrom j3 x2 f n).bind fun r5 => rCk (rNb (1 : Int32)) (((pO r5.2.1 v0 8 9 (.int (1 : Int32))).bind fun f8 => some ((0 : Int32), (f8, r5.2.2))))))))) = some r := h
  refine AM.of (by decide +kernel) rfl (Nat.le_of_ble_eq_true rfl) (fun p e s m args below meth c C hnm => ?_)
  refine aw_nl [some (.ref v0)] rfl ?_
  refine aw_ald_n C dX8_image_0 rfl ?_
  obtain ⟨x1, hx1, h⟩ := Option.bind_eq_some_iff.mp h
  refine ah_getR C gf_X8_28 hx1 dX8_image_1 ?_
  refine aw_ald_n C dX8_image_4 rfl ?_
  obtain ⟨x2, hx2, h⟩ := Option.bind_eq_some_iff.mp h
  refine ah_getR C gf_X8_21 hx2 dX8_image_5 ?_
  obtain ⟨j3, hj3, h⟩ := Option.bind_eq_some_iff.mp h
  rw [hj3]
  obtain ⟨hb4, h⟩ := ck_some h
  obtain ⟨r5, hr5, h⟩ := Option.bind_eq_some_iff.mp h
  obtain ⟨fs6, hf6⟩ := isO_ex hb4
  refine aw_callV C (ci := 7) (b := j3) [va_rf x2] mv_X8_73 rfl rfl hf6 (rmX7_copyFrom hr5) rfl dX8_image_8 (Nat.le_of_ble_eq_true rfl) (Nat.le_of_ble_eq_true rfl) rfl (Nat.le_of_ble_eq_true rfl) (show 0 + 0 ≤ 0 by omega) (show 0 + 0 ≤ 0 by omega) (fun v9 f9 n9 hh => ?_)
  obtain ⟨rfl, rfl, rfl⟩ := hh
  refine aw_ald_n C dX8_image_11 rfl ?_
  refine aw_iconst C 1 dX8_image_12 ki_1 ?_
  obtain ⟨hb7, h⟩ := ck_some h
  obtain ⟨f8, hf8, h⟩ := Option.bind_eq_some_iff.mp h
  refine ah_put C gf_X8_287 cf8 nf8_9 (nb_nar hb7) (nb_fit hb7) hf8 dX8_image_13 ?_
  cases h
  exact aw_vret C rfl dX8_image_16 (by omega) (by omega) ⟨rfl, rfl, rfl⟩
def mX8_back (v0 : Nat) (f : AH) (n : Nat) : Option (Int32 × HpN) := ((gI f v0 8 9).bind fun x1 => (if x1 = (0 : Int32) then rCk (rNb (0 : Int32)) (some ((0 : Int32), (f, n))) else ((gR f v0 8 3).bind fun x2 => rCk (isO f v0 8) (((mX8_restore v0 x2 f n).bind fun r4 => ((pO r4.2.1 v0 8 11 (.int (0 : Int32))).bind fun f6 => rCk (rNb (1 : Int32)) (some ((1 : Int32), (f6, r4.2.2)))))))))
set_option maxHeartbeats 1000000 in
theorem rmX8_back {X : GX} {l : Launch} {r : Int32 × HpN} {v0 : Nat} {f : AH} {n : Nat} (h : mX8_back v0 f n = some r) : AM X l yX8_back cX8_back 1 (some .boolean) 6 0 0 [.ref v0] f n (QHi r) := by
  have h : ((gI f v0 8 9).bind fun x1 => (if x1 = (0 : Int32) then rCk (rNb (0 : Int32)) (some ((0 : Int32), (f, n))) else ((gR f v0 8 3).bind fun x2 => rCk (isO f v0 8) (((mX8_restore v0 x2 f n).bind fun r4 => ((pO r4.2.1 v0 8 11 (.int (0 : Int32))).bind fun f6 => rCk (rNb (1 : Int32)) (some ((1 : Int32), (f6, r4.2.2))))))))) = some r := h
  refine AM.of (by decide +kernel) rfl (Nat.le_of_ble_eq_true rfl) (fun p e s m args below meth c C hnm => ?_)
  refine aw_nl [some (.ref v0)] rfl ?_
  refine aw_ald_n C dX8_back_0 rfl ?_
  obtain ⟨x1, hx1, h⟩ := Option.bind_eq_some_iff.mp h
  refine ah_getI C gf_X8_287 hx1 dX8_back_1 ?_
  refine aw_if_ne C 9 dX8_back_4 (by decide) (fun q => ?_) (fun q => ?_)
  · rw [if_neg q] at h
    refine aw_ald_n C dX8_back_9 rfl ?_
    refine aw_ald_n C dX8_back_10 rfl ?_
    obtain ⟨x2, hx2, h⟩ := Option.bind_eq_some_iff.mp h
    refine ah_getR C gf_X8_28 hx2 dX8_back_11 ?_
    obtain ⟨hb3, h⟩ := ck_some h
    obtain ⟨r4, hr4, h⟩ := Option.bind_eq_some_iff.mp h
    obtain ⟨fs5, hf5⟩ := isO_ex hb3
    refine aw_callV C (ci := 8) (b := v0) [va_rf x2] mv_X8_113 rfl rfl hf5 (rmX8_restore hr4) rfl dX8_back_14 (Nat.le_of_ble_eq_true rfl) (Nat.le_of_ble_eq_true rfl) rfl (Nat.le_of_ble_eq_true rfl) (show 0 + 0 ≤ 0 by omega) (show 0 + 0 ≤ 0 by omega) (fun v9 f9 n9 hh => ?_)
    obtain ⟨rfl, rfl, rfl⟩ := hh
    refine aw_ald_n C dX8_back_17 rfl ?_
    refine aw_iconst C 0 dX8_back_18 ki_0 ?_
    obtain ⟨f6, hf6, h⟩ := Option.bind_eq_some_iff.mp h
    refine ah_put C gf_X8_123 cf8 nf8_11 rfl rfl hf6 dX8_back_19 ?_
    refine aw_iconst C 1 dX8_back_22 ki_1 ?_
    obtain ⟨hb7, h⟩ := ck_some h
    cases h
    exact aw_iret C rfl (nb_nar hb7) dX8_back_23 (by omega) (by omega) ⟨rfl, rfl, rfl⟩
  · rw [if_pos q] at h
    refine aw_iconst C 0 dX8_back_7 ki_0 ?_
    obtain ⟨hb8, h⟩ := ck_some h
    cases h
    exact aw_iret C rfl (nb_nar hb8) dX8_back_8 (by omega) (by omega) ⟨rfl, rfl, rfl⟩
def mX1_bytesInPieces_b36 (rec4 : Nat → Int32 → Int32 → AH → Nat → Option (Int32 × HpN)) (v0 : Nat) (v2 : Int32) (s0 : Int32) (s1 : Int32) (f : AH) (n : Nat) : Option (Int32 × HpN) := rec4 v0 (s0 + s1) (v2 + (1 : Int32)) f n
set_option maxHeartbeats 1000000 in
theorem rmX1_bytesInPieces_b36 {X : GX} {p : Program} {l : Launch} {e : Env} {s : State} {m : MethodId} {args : Array Value} {below : List Frame} {meth : Method} {c : Code} {r : Int32 × HpN} {rec4 : Nat → Int32 → Int32 → AH → Nat → Option (Int32 × HpN)} {v0 : Nat} {v2 : Int32} {s0 : Int32} {s1 : Int32} {f : AH} {n cells slots : Nat} (C : CC X p l (RM 1 0 0) s m args meth c RX1 cX1_bytesInPieces 4 (some .int)) (Hr4 : ∀ (v0 : Nat) (v1 : Int32) (v2 : Int32) (f : AH) (n cells slots : Nat), cells + 0 ≤ 0 → slots + 0 ≤ 0 → rec4 v0 v1 v2 f n = some r → AW X p l e (RM 1 0 0) s m args below meth c 4 (ZM X below args s 0 0 (QHi r)) f n cells slots 4 [some (.ref v0), some (.int v1), some (.int v2), none] []) (hc : cells + 0 ≤ 0) (hs : slots + 0 ≤ 0) (h : mX1_bytesInPieces_b36 rec4 v0 v2 s0 s1 f n = some r) : AW X p l e (RM 1 0 0) s m args below meth c 4 (ZM X below args s 0 0 (QHi r)) f n cells slots 36 [some (.ref v0), none, some (.int v2), none] [.int s1, .int s0] := by
  have h : rec4 v0 (s0 + s1) (v2 + (1 : Int32)) f n = some r := h
  refine aw_iadd C dX1_bytesInPieces_36 ?_
  refine aw_istore_n C dX1_bytesInPieces_37 (by decide) rfl ?_
  refine aw_nl [some (.ref v0), some (.int (s0 + s1)), some (.int v2), none] rfl ?_
  refine aw_iinc C (v2 + (1 : Int32)) dX1_bytesInPieces_38 rfl (by rw [ki_1]) (by decide) rfl ?_
  refine aw_nl [some (.ref v0), some (.int (s0 + s1)), some (.int (v2 + (1 : Int32))), none] rfl ?_
  refine aw_goto C 4 dX1_bytesInPieces_41 (by decide) ?_
  refine aw_fl [some (.ref v0), some (.int (s0 + s1)), some (.int (v2 + (1 : Int32))), none] ⟨rfl, ⟨rfl, ⟨rfl, trivial⟩⟩⟩ ?_
  exact Hr4 v0 (s0 + s1) (v2 + (1 : Int32)) f n _ _ (by omega) (by omega) h
def mX1_bytesInPieces_l4 : Nat → Nat → Int32 → Int32 → AH → Nat → Option (Int32 × HpN)
  | 0, _, _, _, _, _ => none
  | d + 1, v0, v1, v2, f, n => ((gI f v0 1 3).bind fun x1 => (if x1 ≤ v2 then some (v1, (f, n)) else rCk (isO f v0 1) (((mX1_get v0 v2 f n).bind fun r3 => ((some r3.1).bind fun x5 => (oN x5 (mX1_bytesInPieces_b36 (fun v0 v1 v2 f n => mX1_bytesInPieces_l4 d v0 v1 v2 f n) v0 v2 v1 (0 : Int32) r3.2.1 r3.2.2) (fun j6 => ((gI r3.2.1 j6 3 1).bind fun x7 => ((gI r3.2.1 j6 3 0).bind fun x8 => mX1_bytesInPieces_b36 (fun v0 v1 v2 f n => mX1_bytesInPieces_l4 d v0 v1 v2 f n) v0 v2 v1 (x7 - x8) r3.2.1 r3.2.2)))))))))
set_option maxHeartbeats 1000000 in
theorem rmX1_bytesInPieces_l4 {X : GX} {p : Program} {l : Launch} {e : Env} {s : State} {m : MethodId} {args : Array Value} {below : List Frame} {meth : Method} {c : Code} {r : Int32 × HpN} (C : CC X p l (RM 1 0 0) s m args meth c RX1 cX1_bytesInPieces 4 (some .int)) : ∀ (d : Nat) (v0 : Nat) (v1 : Int32) (v2 : Int32) (f : AH) (n cells slots : Nat) (_ : cells + 0 ≤ 0) (_ : slots + 0 ≤ 0) (_ : mX1_bytesInPieces_l4 d v0 v1 v2 f n = some r), AW X p l e (RM 1 0 0) s m args below meth c 4 (ZM X below args s 0 0 (QHi r)) f n cells slots 4 [some (.ref v0), some (.int v1), some (.int v2), none] [] := by
  intro d
  induction d with
  | zero =>
    intro v0 v1 v2 f n cells slots hc hs h
    exact nomatch (show (none : Option (Int32 × HpN)) = some r from h)
  | succ d ih =>
    intro v0 v1 v2 f n cells slots hc hs h
    have h : ((gI f v0 1 3).bind fun x1 => (if x1 ≤ v2 then some (v1, (f, n)) else rCk (isO f v0 1) (((mX1_get v0 v2 f n).bind fun r3 => ((some r3.1).bind fun x5 => (oN x5 (mX1_bytesInPieces_b36 (fun v0 v1 v2 f n => mX1_bytesInPieces_l4 d v0 v1 v2 f n) v0 v2 v1 (0 : Int32) r3.2.1 r3.2.2) (fun j6 => ((gI r3.2.1 j6 3 1).bind fun x7 => ((gI r3.2.1 j6 3 0).bind fun x8 => mX1_bytesInPieces_b36 (fun v0 v1 v2 f n => mX1_bytesInPieces_l4 d v0 v1 v2 f n) v0 v2 v1 (x7 - x8) r3.2.1 r3.2.2))))))))) = some r := h
    refine aw_iload_n C dX1_bytesInPieces_4 rfl ?_
    refine aw_ald_n C dX1_bytesInPieces_5 rfl ?_
    obtain ⟨x1, hx1, h⟩ := Option.bind_eq_some_iff.mp h
    refine ah_getI C gf_X1_46 hx1 dX1_bytesInPieces_6 ?_
    refine aw_icmp_ge C 44 dX1_bytesInPieces_9 (by decide) (fun q => ?_) (fun q => ?_)
    · rw [if_pos q] at h
      refine aw_iload_n C dX1_bytesInPieces_44 rfl ?_
      cases h
      exact aw_iret C rfl rfl dX1_bytesInPieces_45 (by omega) (by omega) ⟨rfl, rfl, rfl⟩
    · rw [if_neg q] at h
      refine aw_ald_n C dX1_bytesInPieces_12 rfl ?_
      refine aw_iload_n C dX1_bytesInPieces_13 rfl ?_
      obtain ⟨hb2, h⟩ := ck_some h
      obtain ⟨r3, hr3, h⟩ := Option.bind_eq_some_iff.mp h
      obtain ⟨fs4, hf4⟩ := isO_ex hb2
      refine aw_callV C (ci := 1) (b := v0) [.int v2] mv_X1_154 rfl rfl hf4 (rmX1_get hr3) rfl dX1_bytesInPieces_14 (Nat.le_of_ble_eq_true rfl) (Nat.le_of_ble_eq_true rfl) rfl (Nat.le_of_ble_eq_true rfl) (show cells + 0 ≤ 0 by omega) (show slots + 0 ≤ 0 by omega) (fun v9 f9 n9 hh => ?_)
      obtain ⟨rfl, rfl, rfl⟩ := hh
      obtain ⟨x5, hx5, h⟩ := Option.bind_eq_some_iff.mp h
      rw [Option.some.inj hx5]
      refine aw_astore_n C dX1_bytesInPieces_17 (by decide) rfl (rf_or x5) ?_
      refine aw_nl [some (.ref v0), some (.int v1), some (.int v2), some (va_rf x5)] rfl ?_
      refine aw_iload_n C dX1_bytesInPieces_18 rfl ?_
      refine aw_aload_n C dX1_bytesInPieces_19 rfl (rf_or x5) ?_
      cases x5 with
      | none =>
        replace h : mX1_bytesInPieces_b36 (fun v0 v1 v2 f n => mX1_bytesInPieces_l4 d v0 v1 v2 f n) v0 v2 v1 (0 : Int32) r3.2.1 r3.2.2 = some r := h
        refine aw_ifnonnull_n C 27 dX1_bytesInPieces_20 (by decide) ?_
        refine aw_iconst C 0 dX1_bytesInPieces_23 ki_0 ?_
        refine aw_goto C 36 dX1_bytesInPieces_24 (by decide) ?_
        refine aw_fl [some (.ref v0), none, some (.int v2), none] ⟨rfl, ⟨rfl, trivial⟩⟩ ?_
        exact rmX1_bytesInPieces_b36 C (fun v0 v1 v2 f n cells slots hc hs h => ih v0 v1 v2 f n cells slots hc hs h) (by omega) (by omega) h
      | some j6 =>
        replace h : ((gI r3.2.1 j6 3 1).bind fun x7 => ((gI r3.2.1 j6 3 0).bind fun x8 => mX1_bytesInPieces_b36 (fun v0 v1 v2 f n => mX1_bytesInPieces_l4 d v0 v1 v2 f n) v0 v2 v1 (x7 - x8) r3.2.1 r3.2.2)) = some r := h
        refine aw_ifnonnull_r C 27 dX1_bytesInPieces_20 (by decide) ?_
        refine aw_ald_n C dX1_bytesInPieces_27 rfl ?_
        obtain ⟨x7, hx7, h⟩ := Option.bind_eq_some_iff.mp h
        refine ah_getI C gf_X1_129 hx7 dX1_bytesInPieces_28 ?_
        refine aw_ald_n C dX1_bytesInPieces_31 rfl ?_
        obtain ⟨x8, hx8, h⟩ := Option.bind_eq_some_iff.mp h
        refine ah_getI C gf_X1_128 hx8 dX1_bytesInPieces_32 ?_
        refine aw_isub C dX1_bytesInPieces_35 ?_
        refine aw_fl [some (.ref v0), none, some (.int v2), none] ⟨rfl, ⟨rfl, trivial⟩⟩ ?_
        exact rmX1_bytesInPieces_b36 C (fun v0 v1 v2 f n cells slots hc hs h => ih v0 v1 v2 f n cells slots hc hs h) (by omega) (by omega) h
def mX1_bytesInPieces (v0 : Nat) (f : AH) (n : Nat) : Option (Int32 × HpN) := mX1_bytesInPieces_l4 rFU v0 (0 : Int32) (0 : Int32) f n
set_option maxHeartbeats 1000000 in
theorem rmX1_bytesInPieces {X : GX} {l : Launch} {r : Int32 × HpN} {v0 : Nat} {f : AH} {n : Nat} (h : mX1_bytesInPieces v0 f n = some r) : AM X l yX1_bytesInPieces cX1_bytesInPieces 4 (some .int) 1 0 0 [.ref v0] f n (QHi r) := by
  have h : mX1_bytesInPieces_l4 rFU v0 (0 : Int32) (0 : Int32) f n = some r := h
  refine AM.of (by decide +kernel) rfl (Nat.le_of_ble_eq_true rfl) (fun p e s m args below meth c C hnm => ?_)
  refine aw_nl [some (.ref v0), none, none, none] rfl ?_
  refine aw_iconst C 0 dX1_bytesInPieces_0 ki_0 ?_
  refine aw_istore_n C dX1_bytesInPieces_1 (by decide) rfl ?_
  refine aw_nl [some (.ref v0), some (.int (0 : Int32)), none, none] rfl ?_
  refine aw_iconst C 0 dX1_bytesInPieces_2 ki_0 ?_
  refine aw_istore_n C dX1_bytesInPieces_3 (by decide) rfl ?_
  refine aw_nl [some (.ref v0), some (.int (0 : Int32)), some (.int (0 : Int32)), none] rfl ?_
  refine aw_fl [some (.ref v0), some (.int (0 : Int32)), some (.int (0 : Int32)), none] ⟨rfl, ⟨rfl, ⟨rfl, trivial⟩⟩⟩ ?_
  exact rmX1_bytesInPieces_l4 C rFU v0 (0 : Int32) (0 : Int32) f n _ _ (by omega) (by omega) h
def mX1_hasLikeAhead_l2 : Nat → Nat → Int32 → Int32 → AH → Nat → Option (Int32 × HpN)
  | 0, _, _, _, _, _ => none
  | d + 1, v0, v1, v2, f, n => (if v1 ≤ v2 then rCk (rNb (0 : Int32)) (some ((0 : Int32), (f, n))) else rCk (isO f v0 1) (((mX1_areLike v0 v1 v2 f n).bind fun r3 => (if r3.1 = (0 : Int32) then mX1_hasLikeAhead_l2 d v0 v1 (v2 + (1 : Int32)) r3.2.1 r3.2.2 else rCk (rNb (1 : Int32)) (some ((1 : Int32), (r3.2.1, r3.2.2)))))))
set_option maxHeartbeats 1000000 in
theorem rmX1_hasLikeAhead_l2 {X : GX} {p : Program} {l : Launch} {e : Env} {s : State} {m : MethodId} {args : Array Value} {below : List Frame} {meth : Method} {c : Code} {r : Int32 × HpN} (C : CC X p l (RM 3 0 0) s m args meth c RX1 cX1_hasLikeAhead 3 (some .boolean)) : ∀ (d : Nat) (v0 : Nat) (v1 : Int32) (v2 : Int32) (f : AH) (n cells slots : Nat) (_ : cells + 0 ≤ 0) (_ : slots + 0 ≤ 0) (_ : mX1_hasLikeAhead_l2 d v0 v1 v2 f n = some r), AW X p l e (RM 3 0 0) s m args below meth c 3 (ZM X below args s 0 0 (QHi r)) f n cells slots 2 [some (.ref v0), some (.int v1), some (.int v2)] [] := by
  intro d
  induction d with
  | zero =>
    intro v0 v1 v2 f n cells slots hc hs h
    exact nomatch (show (none : Option (Int32 × HpN)) = some r from h)
  | succ d ih =>
    intro v0 v1 v2 f n cells slots hc hs h
    have h : (if v1 ≤ v2 then rCk (rNb (0 : Int32)) (some ((0 : Int32), (f, n))) else rCk (isO f v0 1) (((mX1_areLike v0 v1 v2 f n).bind fun r3 => (if r3.1 = (0 : Int32) then mX1_hasLikeAhead_l2 d v0 v1 (v2 + (1 : Int32)) r3.2.1 r3.2.2 else rCk (rNb (1 : Int32)) (some ((1 : Int32), (r3.2.1, r3.2.2))))))) = some r := h
    refine aw_iload_n C dX1_hasLikeAhead_2 rfl ?_
    refine aw_iload_n C dX1_hasLikeAhead_3 rfl ?_
    refine aw_icmp_ge C 24 dX1_hasLikeAhead_4 (by decide) (fun q => ?_) (fun q => ?_)
    · rw [if_pos q] at h
      refine aw_iconst C 0 dX1_hasLikeAhead_24 ki_0 ?_
      obtain ⟨hb1, h⟩ := ck_some h
      cases h
      exact aw_iret C rfl (nb_nar hb1) dX1_hasLikeAhead_25 (by omega) (by omega) ⟨rfl, rfl, rfl⟩
    · rw [if_neg q] at h
      refine aw_ald_n C dX1_hasLikeAhead_7 rfl ?_
      refine aw_iload_n C dX1_hasLikeAhead_8 rfl ?_
      refine aw_iload_n C dX1_hasLikeAhead_9 rfl ?_
      obtain ⟨hb2, h⟩ := ck_some h
      obtain ⟨r3, hr3, h⟩ := Option.bind_eq_some_iff.mp h
      obtain ⟨fs4, hf4⟩ := isO_ex hb2
      refine aw_callV C (ci := 1) (b := v0) [.int v1, .int v2] mv_X1_161 rfl rfl hf4 (rmX1_areLike hr3) rfl dX1_hasLikeAhead_10 (Nat.le_of_ble_eq_true rfl) (Nat.le_of_ble_eq_true rfl) rfl (Nat.le_of_ble_eq_true rfl) (show cells + 0 ≤ 0 by omega) (show slots + 0 ≤ 0 by omega) (fun v9 f9 n9 hh => ?_)
      obtain ⟨rfl, rfl, rfl⟩ := hh
      refine aw_if_eq C 18 dX1_hasLikeAhead_13 (by decide) (fun q => ?_) (fun q => ?_)
      · rw [if_pos q] at h
        refine aw_iinc C (v2 + (1 : Int32)) dX1_hasLikeAhead_18 rfl (by rw [ki_1]) (by decide) rfl ?_
        refine aw_nl [some (.ref v0), some (.int v1), some (.int (v2 + (1 : Int32)))] rfl ?_
        refine aw_goto C 2 dX1_hasLikeAhead_21 (by decide) ?_
        refine aw_fl [some (.ref v0), some (.int v1), some (.int (v2 + (1 : Int32)))] ⟨rfl, ⟨rfl, ⟨rfl, trivial⟩⟩⟩ ?_
        exact ih v0 v1 (v2 + (1 : Int32)) r3.2.1 r3.2.2 _ _ (by omega) (by omega) h
      · rw [if_neg q] at h
        refine aw_iconst C 1 dX1_hasLikeAhead_16 ki_1 ?_
        obtain ⟨hb5, h⟩ := ck_some h
        cases h
        exact aw_iret C rfl (nb_nar hb5) dX1_hasLikeAhead_17 (by omega) (by omega) ⟨rfl, rfl, rfl⟩
def mX1_hasLikeAhead (v0 : Nat) (v1 : Int32) (f : AH) (n : Nat) : Option (Int32 × HpN) := mX1_hasLikeAhead_l2 rFU v0 v1 (0 : Int32) f n
set_option maxHeartbeats 1000000 in
theorem rmX1_hasLikeAhead {X : GX} {l : Launch} {r : Int32 × HpN} {v0 : Nat} {v1 : Int32} {f : AH} {n : Nat} (h : mX1_hasLikeAhead v0 v1 f n = some r) : AM X l yX1_hasLikeAhead cX1_hasLikeAhead 3 (some .boolean) 3 0 0 [.ref v0, .int v1] f n (QHi r) := by
  have h : mX1_hasLikeAhead_l2 rFU v0 v1 (0 : Int32) f n = some r := h
  refine AM.of (by decide +kernel) rfl (Nat.le_of_ble_eq_true rfl) (fun p e s m args below meth c C hnm => ?_)
  refine aw_nl [some (.ref v0), some (.int v1), none] rfl ?_
  refine aw_iconst C 0 dX1_hasLikeAhead_0 ki_0 ?_
  refine aw_istore_n C dX1_hasLikeAhead_1 (by decide) rfl ?_
  refine aw_nl [some (.ref v0), some (.int v1), some (.int (0 : Int32))] rfl ?_
  refine aw_fl [some (.ref v0), some (.int v1), some (.int (0 : Int32))] ⟨rfl, ⟨rfl, ⟨rfl, trivial⟩⟩⟩ ?_
  exact rmX1_hasLikeAhead_l2 C rFU v0 v1 (0 : Int32) f n _ _ (by omega) (by omega) h
def mX1_unlikeCount_b23 (rec4 : Nat → Int32 → Int32 → AH → Nat → Option (Int32 × HpN)) (v0 : Nat) (v1 : Int32) (v2 : Int32) (f : AH) (n : Nat) : Option (Int32 × HpN) := rec4 v0 v1 (v2 + (1 : Int32)) f n
set_option maxHeartbeats 1000000 in
theorem rmX1_unlikeCount_b23 {X : GX} {p : Program} {l : Launch} {e : Env} {s : State} {m : MethodId} {args : Array Value} {below : List Frame} {meth : Method} {c : Code} {r : Int32 × HpN} {rec4 : Nat → Int32 → Int32 → AH → Nat → Option (Int32 × HpN)} {v0 : Nat} {v1 : Int32} {v2 : Int32} {f : AH} {n cells slots : Nat} (C : CC X p l (RM 4 0 0) s m args meth c RX1 cX1_unlikeCount 3 (some .int)) (Hr4 : ∀ (v0 : Nat) (v1 : Int32) (v2 : Int32) (f : AH) (n cells slots : Nat), cells + 0 ≤ 0 → slots + 0 ≤ 0 → rec4 v0 v1 v2 f n = some r → AW X p l e (RM 4 0 0) s m args below meth c 3 (ZM X below args s 0 0 (QHi r)) f n cells slots 4 [some (.ref v0), some (.int v1), some (.int v2)] []) (hc : cells + 0 ≤ 0) (hs : slots + 0 ≤ 0) (h : mX1_unlikeCount_b23 rec4 v0 v1 v2 f n = some r) : AW X p l e (RM 4 0 0) s m args below meth c 3 (ZM X below args s 0 0 (QHi r)) f n cells slots 23 [some (.ref v0), some (.int v1), some (.int v2)] [] := by
  have h : rec4 v0 v1 (v2 + (1 : Int32)) f n = some r := h
  refine aw_iinc C (v2 + (1 : Int32)) dX1_unlikeCount_23 rfl (by rw [ki_1]) (by decide) rfl ?_
  refine aw_nl [some (.ref v0), some (.int v1), some (.int (v2 + (1 : Int32)))] rfl ?_
  refine aw_goto C 4 dX1_unlikeCount_26 (by decide) ?_
  refine aw_fl [some (.ref v0), some (.int v1), some (.int (v2 + (1 : Int32)))] ⟨rfl, ⟨rfl, ⟨rfl, trivial⟩⟩⟩ ?_
  exact Hr4 v0 v1 (v2 + (1 : Int32)) f n _ _ (by omega) (by omega) h
def mX1_unlikeCount_l4 : Nat → Nat → Int32 → Int32 → AH → Nat → Option (Int32 × HpN)
  | 0, _, _, _, _, _ => none
  | d + 1, v0, v1, v2, f, n => ((gI f v0 1 3).bind fun x1 => (if x1 ≤ v2 then some (v1, (f, n)) else rCk (isO f v0 1) (((mX1_hasLikeAhead v0 v2 f n).bind fun r3 => (if r3.1 = (0 : Int32) then mX1_unlikeCount_b23 (fun v0 v1 v2 f n => mX1_unlikeCount_l4 d v0 v1 v2 f n) v0 (v1 + (1 : Int32)) v2 r3.2.1 r3.2.2 else mX1_unlikeCount_b23 (fun v0 v1 v2 f n => mX1_unlikeCount_l4 d v0 v1 v2 f n) v0 v1 v2 r3.2.1 r3.2.2)))))
set_option maxHeartbeats 1000000 in
theorem rmX1_unlikeCount_l4 {X : GX} {p : Program} {l : Launch} {e : Env} {s : State} {m : MethodId} {args : Array Value} {below : List Frame} {meth : Method} {c : Code} {r : Int32 × HpN} (C : CC X p l (RM 4 0 0) s m args meth c RX1 cX1_unlikeCount 3 (some .int)) : ∀ (d : Nat) (v0 : Nat) (v1 : Int32) (v2 : Int32) (f : AH) (n cells slots : Nat) (_ : cells + 0 ≤ 0) (_ : slots + 0 ≤ 0) (_ : mX1_unlikeCount_l4 d v0 v1 v2 f n = some r), AW X p l e (RM 4 0 0) s m args below meth c 3 (ZM X below args s 0 0 (QHi r)) f n cells slots 4 [some (.ref v0), some (.int v1), some (.int v2)] [] := by
  intro d
  induction d with
  | zero =>
    intro v0 v1 v2 f n cells slots hc hs h
    exact nomatch (show (none : Option (Int32 × HpN)) = some r from h)
  | succ d ih =>
    intro v0 v1 v2 f n cells slots hc hs h
    have h : ((gI f v0 1 3).bind fun x1 => (if x1 ≤ v2 then some (v1, (f, n)) else rCk (isO f v0 1) (((mX1_hasLikeAhead v0 v2 f n).bind fun r3 => (if r3.1 = (0 : Int32) then mX1_unlikeCount_b23 (fun v0 v1 v2 f n => mX1_unlikeCount_l4 d v0 v1 v2 f n) v0 (v1 + (1 : Int32)) v2 r3.2.1 r3.2.2 else mX1_unlikeCount_b23 (fun v0 v1 v2 f n => mX1_unlikeCount_l4 d v0 v1 v2 f n) v0 v1 v2 r3.2.1 r3.2.2))))) = some r := h
    refine aw_iload_n C dX1_unlikeCount_4 rfl ?_
    refine aw_ald_n C dX1_unlikeCount_5 rfl ?_
    obtain ⟨x1, hx1, h⟩ := Option.bind_eq_some_iff.mp h
    refine ah_getI C gf_X1_46 hx1 dX1_unlikeCount_6 ?_
    refine aw_icmp_ge C 29 dX1_unlikeCount_9 (by decide) (fun q => ?_) (fun q => ?_)
    · rw [if_pos q] at h
      refine aw_iload_n C dX1_unlikeCount_29 rfl ?_
      cases h
      exact aw_iret C rfl rfl dX1_unlikeCount_30 (by omega) (by omega) ⟨rfl, rfl, rfl⟩
    · rw [if_neg q] at h
      refine aw_ald_n C dX1_unlikeCount_12 rfl ?_
      refine aw_iload_n C dX1_unlikeCount_13 rfl ?_
      obtain ⟨hb2, h⟩ := ck_some h
      obtain ⟨r3, hr3, h⟩ := Option.bind_eq_some_iff.mp h
      obtain ⟨fs4, hf4⟩ := isO_ex hb2
      refine aw_callV C (ci := 1) (b := v0) [.int v2] mv_X1_165 rfl rfl hf4 (rmX1_hasLikeAhead hr3) rfl dX1_unlikeCount_14 (Nat.le_of_ble_eq_true rfl) (Nat.le_of_ble_eq_true rfl) rfl (Nat.le_of_ble_eq_true rfl) (show cells + 0 ≤ 0 by omega) (show slots + 0 ≤ 0 by omega) (fun v9 f9 n9 hh => ?_)
      obtain ⟨rfl, rfl, rfl⟩ := hh
      refine aw_if_ne C 23 dX1_unlikeCount_17 (by decide) (fun q => ?_) (fun q => ?_)
      · rw [if_neg q] at h
        refine aw_fl [some (.ref v0), some (.int v1), some (.int v2)] ⟨rfl, ⟨rfl, ⟨rfl, trivial⟩⟩⟩ ?_
        exact rmX1_unlikeCount_b23 C (fun v0 v1 v2 f n cells slots hc hs h => ih v0 v1 v2 f n cells slots hc hs h) (by omega) (by omega) h
      · rw [if_pos q] at h
        refine aw_iinc C (v1 + (1 : Int32)) dX1_unlikeCount_20 rfl (by rw [ki_1]) (by decide) rfl ?_
        refine aw_nl [some (.ref v0), some (.int (v1 + (1 : Int32))), some (.int v2)] rfl ?_
        refine aw_fl [some (.ref v0), some (.int (v1 + (1 : Int32))), some (.int v2)] ⟨rfl, ⟨rfl, ⟨rfl, trivial⟩⟩⟩ ?_
        exact rmX1_unlikeCount_b23 C (fun v0 v1 v2 f n cells slots hc hs h => ih v0 v1 v2 f n cells slots hc hs h) (by omega) (by omega) h
def mX1_unlikeCount (v0 : Nat) (f : AH) (n : Nat) : Option (Int32 × HpN) := mX1_unlikeCount_l4 rFU v0 (0 : Int32) (0 : Int32) f n
set_option maxHeartbeats 1000000 in
theorem rmX1_unlikeCount {X : GX} {l : Launch} {r : Int32 × HpN} {v0 : Nat} {f : AH} {n : Nat} (h : mX1_unlikeCount v0 f n = some r) : AM X l yX1_unlikeCount cX1_unlikeCount 3 (some .int) 4 0 0 [.ref v0] f n (QHi r) := by
  have h : mX1_unlikeCount_l4 rFU v0 (0 : Int32) (0 : Int32) f n = some r := h
  refine AM.of (by decide +kernel) rfl (Nat.le_of_ble_eq_true rfl) (fun p e s m args below meth c C hnm => ?_)
  refine aw_nl [some (.ref v0), none, none] rfl ?_
  refine aw_iconst C 0 dX1_unlikeCount_0 ki_0 ?_
  refine aw_istore_n C dX1_unlikeCount_1 (by decide) rfl ?_
  refine aw_nl [some (.ref v0), some (.int (0 : Int32)), none] rfl ?_
  refine aw_iconst C 0 dX1_unlikeCount_2 ki_0 ?_
  refine aw_istore_n C dX1_unlikeCount_3 (by decide) rfl ?_
  refine aw_nl [some (.ref v0), some (.int (0 : Int32)), some (.int (0 : Int32))] rfl ?_
  refine aw_fl [some (.ref v0), some (.int (0 : Int32)), some (.int (0 : Int32))] ⟨rfl, ⟨rfl, ⟨rfl, trivial⟩⟩⟩ ?_
  exact rmX1_unlikeCount_l4 C rFU v0 (0 : Int32) (0 : Int32) f n _ _ (by omega) (by omega) h
def mX5_countWords_b40 (rec8 : Nat → Int32 → Int32 → Int32 → Int32 → Int32 → AH → Nat → Option (Int32 × HpN)) (v0 : Nat) (v1 : Int32) (v2 : Int32) (v3 : Int32) (v5 : Int32) (v6 : Int32) (f : AH) (n : Nat) : Option (Int32 × HpN) := rec8 v0 v1 v2 v3 v6 (v5 + (1 : Int32)) f n
set_option maxHeartbeats 1000000 in
theorem rmX5_countWords_b40 {X : GX} {p : Program} {l : Launch} {e : Env} {s : State} {m : MethodId} {args : Array Value} {below : List Frame} {meth : Method} {c : Code} {r : Int32 × HpN} {rec8 : Nat → Int32 → Int32 → Int32 → Int32 → Int32 → AH → Nat → Option (Int32 × HpN)} {v0 : Nat} {v1 : Int32} {v2 : Int32} {v3 : Int32} {v5 : Int32} {v6 : Int32} {f : AH} {n cells slots : Nat} (C : CC X p l (RM 1 0 0) s m args meth c RX5 cX5_countWords 7 (some .int)) (Hr8 : ∀ (v0 : Nat) (v1 : Int32) (v2 : Int32) (v3 : Int32) (v4 : Int32) (v5 : Int32) (f : AH) (n cells slots : Nat), cells + 0 ≤ 0 → slots + 0 ≤ 0 → rec8 v0 v1 v2 v3 v4 v5 f n = some r → AW X p l e (RM 1 0 0) s m args below meth c 7 (ZM X below args s 0 0 (QHi r)) f n cells slots 8 [some (.ref v0), some (.int v1), some (.int v2), some (.int v3), some (.int v4), some (.int v5), none] []) (hc : cells + 0 ≤ 0) (hs : slots + 0 ≤ 0) (h : mX5_countWords_b40 rec8 v0 v1 v2 v3 v5 v6 f n = some r) : AW X p l e (RM 1 0 0) s m args below meth c 7 (ZM X below args s 0 0 (QHi r)) f n cells slots 40 [some (.ref v0), some (.int v1), some (.int v2), some (.int v3), none, some (.int v5), some (.int v6)] [] := by
  have h : rec8 v0 v1 v2 v3 v6 (v5 + (1 : Int32)) f n = some r := h
  refine aw_iload C dX5_countWords_40 rfl ?_
  refine aw_istore C dX5_countWords_42 (by decide) rfl ?_
  refine aw_nl [some (.ref v0), some (.int v1), some (.int v2), some (.int v3), some (.int v6), some (.int v5), some (.int v6)] rfl ?_
  refine aw_iinc C (v5 + (1 : Int32)) dX5_countWords_44 rfl (by rw [ki_1]) (by decide) rfl ?_
  refine aw_nl [some (.ref v0), some (.int v1), some (.int v2), some (.int v3), some (.int v6), some (.int (v5 + (1 : Int32))), some (.int v6)] rfl ?_
  refine aw_goto C 8 dX5_countWords_47 (by decide) ?_
  refine aw_fl [some (.ref v0), some (.int v1), some (.int v2), some (.int v3), some (.int v6), some (.int (v5 + (1 : Int32))), none] ⟨rfl, ⟨rfl, ⟨rfl, ⟨rfl, ⟨rfl, ⟨rfl, trivial⟩⟩⟩⟩⟩⟩ ?_
  exact Hr8 v0 v1 v2 v3 v6 (v5 + (1 : Int32)) f n _ _ (by omega) (by omega) h
def mX5_countWords_l8 : Nat → Nat → Int32 → Int32 → Int32 → Int32 → Int32 → AH → Nat → Option (Int32 × HpN)
  | 0, _, _, _, _, _, _, _, _ => none
  | d + 1, v0, v1, v2, v3, v4, v5, f, n => (if (v1 + v2) ≤ v5 then some (v3, (f, n)) else rCk (isO f v0 5) (((mX5_get v0 v5 f n).bind fun r2 => ((mX8_isLetter r2.1 r2.2.1 r2.2.2).bind fun r4 => (if r4.1 = (0 : Int32) then mX5_countWords_b40 (fun v0 v1 v2 v3 v4 v5 f n => mX5_countWords_l8 d v0 v1 v2 v3 v4 v5 f n) v0 v1 v2 v3 v5 r4.1 r4.2.1 r4.2.2 else (if v4 = (0 : Int32) then mX5_countWords_b40 (fun v0 v1 v2 v3 v4 v5 f n => mX5_countWords_l8 d v0 v1 v2 v3 v4 v5 f n) v0 v1 v2 (v3 + (1 : Int32)) v5 r4.1 r4.2.1 r4.2.2 else mX5_countWords_b40 (fun v0 v1 v2 v3 v4 v5 f n => mX5_countWords_l8 d v0 v1 v2 v3 v4 v5 f n) v0 v1 v2 v3 v5 r4.1 r4.2.1 r4.2.2))))))
set_option maxHeartbeats 1000000 in
theorem rmX5_countWords_l8 {X : GX} {p : Program} {l : Launch} {e : Env} {s : State} {m : MethodId} {args : Array Value} {below : List Frame} {meth : Method} {c : Code} {r : Int32 × HpN} (C : CC X p l (RM 1 0 0) s m args meth c RX5 cX5_countWords 7 (some .int)) : ∀ (d : Nat) (v0 : Nat) (v1 : Int32) (v2 : Int32) (v3 : Int32) (v4 : Int32) (v5 : Int32) (f : AH) (n cells slots : Nat) (_ : cells + 0 ≤ 0) (_ : slots + 0 ≤ 0) (_ : mX5_countWords_l8 d v0 v1 v2 v3 v4 v5 f n = some r), AW X p l e (RM 1 0 0) s m args below meth c 7 (ZM X below args s 0 0 (QHi r)) f n cells slots 8 [some (.ref v0), some (.int v1), some (.int v2), some (.int v3), some (.int v4), some (.int v5), none] [] := by
  intro d
  induction d with
  | zero =>
    intro v0 v1 v2 v3 v4 v5 f n cells slots hc hs h
    exact nomatch (show (none : Option (Int32 × HpN)) = some r from h)
  | succ d ih =>
    intro v0 v1 v2 v3 v4 v5 f n cells slots hc hs h
    have h : (if (v1 + v2) ≤ v5 then some (v3, (f, n)) else rCk (isO f v0 5) (((mX5_get v0 v5 f n).bind fun r2 => ((mX8_isLetter r2.1 r2.2.1 r2.2.2).bind fun r4 => (if r4.1 = (0 : Int32) then mX5_countWords_b40 (fun v0 v1 v2 v3 v4 v5 f n => mX5_countWords_l8 d v0 v1 v2 v3 v4 v5 f n) v0 v1 v2 v3 v5 r4.1 r4.2.1 r4.2.2 else (if v4 = (0 : Int32) then mX5_countWords_b40 (fun v0 v1 v2 v3 v4 v5 f n => mX5_countWords_l8 d v0 v1 v2 v3 v4 v5 f n) v0 v1 v2 (v3 + (1 : Int32)) v5 r4.1 r4.2.1 r4.2.2 else mX5_countWords_b40 (fun v0 v1 v2 v3 v4 v5 f n => mX5_countWords_l8 d v0 v1 v2 v3 v4 v5 f n) v0 v1 v2 v3 v5 r4.1 r4.2.1 r4.2.2)))))) = some r := h
    refine aw_iload C dX5_countWords_8 rfl ?_
    refine aw_iload_n C dX5_countWords_10 rfl ?_
    refine aw_iload_n C dX5_countWords_11 rfl ?_
    refine aw_iadd C dX5_countWords_12 ?_
    refine aw_icmp_ge C 50 dX5_countWords_13 (by decide) (fun q => ?_) (fun q => ?_)
    · rw [if_pos q] at h
      refine aw_iload_n C dX5_countWords_50 rfl ?_
      cases h
      exact aw_iret C rfl rfl dX5_countWords_51 (by omega) (by omega) ⟨rfl, rfl, rfl⟩
    · rw [if_neg q] at h
      refine aw_ald_n C dX5_countWords_16 rfl ?_
      refine aw_iload C dX5_countWords_17 rfl ?_
      obtain ⟨hb1, h⟩ := ck_some h
      obtain ⟨r2, hr2, h⟩ := Option.bind_eq_some_iff.mp h
      obtain ⟨fs3, hf3⟩ := isO_ex hb1
      refine aw_callV C (ci := 5) (b := v0) [.int v5] mv_X5_19 rfl rfl hf3 (rmX5_get hr2) rfl dX5_countWords_19 (Nat.le_of_ble_eq_true rfl) (Nat.le_of_ble_eq_true rfl) rfl (Nat.le_of_ble_eq_true rfl) (show cells + 0 ≤ 0 by omega) (show slots + 0 ≤ 0 by omega) (fun v9 f9 n9 hh => ?_)
      obtain ⟨rfl, rfl, rfl⟩ := hh
      obtain ⟨r4, hr4, h⟩ := Option.bind_eq_some_iff.mp h
      refine aw_callSN C [.int r2.1] mn_X5_34 mnS_X5_34 (rmX8_isLetter hr4) rfl dX5_countWords_22 (Nat.le_of_ble_eq_true rfl) (Nat.le_of_ble_eq_true rfl) rfl (Nat.le_of_ble_eq_true rfl) (show (cells + 0) + 0 ≤ 0 by omega) (show (slots + 0) + 0 ≤ 0 by omega) (fun v9 f9 n9 hh => ?_)
      obtain ⟨rfl, rfl, rfl⟩ := hh
      refine aw_istore C dX5_countWords_25 (by decide) rfl ?_
      refine aw_nl [some (.ref v0), some (.int v1), some (.int v2), some (.int v3), some (.int v4), some (.int v5), some (.int r4.1)] rfl ?_
      refine aw_iload C dX5_countWords_27 rfl ?_
      refine aw_if_eq C 40 dX5_countWords_29 (by decide) (fun q => ?_) (fun q => ?_)
      · rw [if_pos q] at h
        refine aw_fl [some (.ref v0), some (.int v1), some (.int v2), some (.int v3), none, some (.int v5), some (.int r4.1)] ⟨rfl, ⟨rfl, ⟨rfl, ⟨rfl, ⟨rfl, ⟨rfl, trivial⟩⟩⟩⟩⟩⟩ ?_
        exact rmX5_countWords_b40 C (fun v0 v1 v2 v3 v4 v5 f n cells slots hc hs h => ih v0 v1 v2 v3 v4 v5 f n cells slots hc hs h) (by omega) (by omega) h
      · rw [if_neg q] at h
        refine aw_iload C dX5_countWords_32 rfl ?_
        refine aw_if_ne C 40 dX5_countWords_34 (by decide) (fun q => ?_) (fun q => ?_)
        · rw [if_neg q] at h
          refine aw_fl [some (.ref v0), some (.int v1), some (.int v2), some (.int v3), none, some (.int v5), some (.int r4.1)] ⟨rfl, ⟨rfl, ⟨rfl, ⟨rfl, ⟨rfl, ⟨rfl, trivial⟩⟩⟩⟩⟩⟩ ?_
          exact rmX5_countWords_b40 C (fun v0 v1 v2 v3 v4 v5 f n cells slots hc hs h => ih v0 v1 v2 v3 v4 v5 f n cells slots hc hs h) (by omega) (by omega) h
        · rw [if_pos q] at h
          refine aw_iinc C (v3 + (1 : Int32)) dX5_countWords_37 rfl (by rw [ki_1]) (by decide) rfl ?_
          refine aw_nl [some (.ref v0), some (.int v1), some (.int v2), some (.int (v3 + (1 : Int32))), some (.int v4), some (.int v5), some (.int r4.1)] rfl ?_
          refine aw_fl [some (.ref v0), some (.int v1), some (.int v2), some (.int (v3 + (1 : Int32))), none, some (.int v5), some (.int r4.1)] ⟨rfl, ⟨rfl, ⟨rfl, ⟨rfl, ⟨rfl, ⟨rfl, trivial⟩⟩⟩⟩⟩⟩ ?_
          exact rmX5_countWords_b40 C (fun v0 v1 v2 v3 v4 v5 f n cells slots hc hs h => ih v0 v1 v2 v3 v4 v5 f n cells slots hc hs h) (by omega) (by omega) h
def mX5_countWords (v0 : Nat) (v1 : Int32) (v2 : Int32) (f : AH) (n : Nat) : Option (Int32 × HpN) := mX5_countWords_l8 rFU v0 v1 v2 (0 : Int32) (0 : Int32) v1 f n
set_option maxHeartbeats 1000000 in
theorem rmX5_countWords {X : GX} {l : Launch} {r : Int32 × HpN} {v0 : Nat} {v1 : Int32} {v2 : Int32} {f : AH} {n : Nat} (h : mX5_countWords v0 v1 v2 f n = some r) : AM X l yX5_countWords cX5_countWords 7 (some .int) 1 0 0 [.ref v0, .int v1, .int v2] f n (QHi r) := by
  have h : mX5_countWords_l8 rFU v0 v1 v2 (0 : Int32) (0 : Int32) v1 f n = some r := h
  refine AM.of (by decide +kernel) rfl (Nat.le_of_ble_eq_true rfl) (fun p e s m args below meth c C hnm => ?_)
  refine aw_nl [some (.ref v0), some (.int v1), some (.int v2), none, none, none, none] rfl ?_
  refine aw_iconst C 0 dX5_countWords_0 ki_0 ?_
  refine aw_istore_n C dX5_countWords_1 (by decide) rfl ?_
  refine aw_nl [some (.ref v0), some (.int v1), some (.int v2), some (.int (0 : Int32)), none, none, none] rfl ?_
  refine aw_iconst C 0 dX5_countWords_2 ki_0 ?_
  refine aw_istore C dX5_countWords_3 (by decide) rfl ?_
  refine aw_nl [some (.ref v0), some (.int v1), some (.int v2), some (.int (0 : Int32)), some (.int (0 : Int32)), none, none] rfl ?_
  refine aw_iload_n C dX5_countWords_5 rfl ?_
  refine aw_istore C dX5_countWords_6 (by decide) rfl ?_
  refine aw_nl [some (.ref v0), some (.int v1), some (.int v2), some (.int (0 : Int32)), some (.int (0 : Int32)), some (.int v1), none] rfl ?_
  refine aw_fl [some (.ref v0), some (.int v1), some (.int v2), some (.int (0 : Int32)), some (.int (0 : Int32)), some (.int v1), none] ⟨rfl, ⟨rfl, ⟨rfl, ⟨rfl, ⟨rfl, ⟨rfl, trivial⟩⟩⟩⟩⟩⟩ ?_
  exact rmX5_countWords_l8 C rFU v0 v1 v2 (0 : Int32) (0 : Int32) v1 f n _ _ (by omega) (by omega) h
def mX8_countWords_b43 (s0 : Int32) (f : AH) (n : Nat) : Option (Int32 × HpN) := some (s0, (f, n))
set_option maxHeartbeats 1000000 in
theorem rmX8_countWords_b43 {X : GX} {p : Program} {l : Launch} {e : Env} {s : State} {m : MethodId} {args : Array Value} {below : List Frame} {meth : Method} {c : Code} {r : Int32 × HpN} {s0 : Int32} {f : AH} {n cells slots : Nat} (C : CC X p l (RM 2 0 0) s m args meth c RX8 cX8_countWords 4 (some .int)) (hc : cells + 0 ≤ 0) (hs : slots + 0 ≤ 0) (h : mX8_countWords_b43 s0 f n = some r) : AW X p l e (RM 2 0 0) s m args below meth c 4 (ZM X below args s 0 0 (QHi r)) f n cells slots 43 [none, none, none, none] [.int s0] := by
  have h : some (s0, (f, n)) = some r := h
  cases h
  exact aw_iret C rfl rfl dX8_countWords_43 (by omega) (by omega) ⟨rfl, rfl, rfl⟩
def mX8_countWords (v0 : Nat) (v1 : Int32) (v2 : Option Nat) (f : AH) (n : Nat) : Option (Int32 × HpN) := ((gR f v0 8 1).bind fun x1 => ((x1).bind fun j2 => rCk (isO f j2 7) (((mX7_toldFor j2 v1 f n).bind fun r4 => ((some r4.1).bind fun x6 => (oN x6 (((gR r4.2.1 v0 8 5).bind fun x8 => ((x8).bind fun j9 => ((gR r4.2.1 j9 1 0).bind fun x10 => ((v2).bind fun j11 => ((gI r4.2.1 j11 3 2).bind fun x12 => ((gI r4.2.1 j11 3 3).bind fun x13 => ((x10).bind fun j14 => rCk (isO r4.2.1 j14 5) (((mX5_countWords j14 x12 x13 r4.2.1 r4.2.2).bind fun r16 => mX8_countWords_b43 r16.1 r16.2.1 r16.2.2)))))))))) (fun j7 => rCk (isO r4.2.1 j7 5) (((mX5_size j7 r4.2.1 r4.2.2).bind fun r19 => rCk (isO r19.2.1 j7 5) (((mX5_countWords j7 (0 : Int32) r19.1 r19.2.1 r19.2.2).bind fun r22 => mX8_countWords_b43 r22.1 r22.2.1 r22.2.2)))))))))))
set_option maxHeartbeats 1000000 in
theorem rmX8_countWords {X : GX} {l : Launch} {r : Int32 × HpN} {v0 : Nat} {v1 : Int32} {v2 : Option Nat} {f : AH} {n : Nat} (h : mX8_countWords v0 v1 v2 f n = some r) : AM X l yX8_countWords cX8_countWords 4 (some .int) 2 0 0 [.ref v0, .int v1, va_rf v2] f n (QHi r) := by
  have h : ((gR f v0 8 1).bind fun x1 => ((x1).bind fun j2 => rCk (isO f j2 7) (((mX7_toldFor j2 v1 f n).bind fun r4 => ((some r4.1).bind fun x6 => (oN x6 (((gR r4.2.1 v0 8 5).bind fun x8 => ((x8).bind fun j9 => ((gR r4.2.1 j9 1 0).bind fun x10 => ((v2).bind fun j11 => ((gI r4.2.1 j11 3 2).bind fun x12 => ((gI r4.2.1 j11 3 3).bind fun x13 => ((x10).bind fun j14 => rCk (isO r4.2.1 j14 5) (((mX5_countWords j14 x12 x13 r4.2.1 r4.2.2).bind fun r16 => mX8_countWords_b43 r16.1 r16.2.1 r16.2.2)))))))))) (fun j7 => rCk (isO r4.2.1 j7 5) (((mX5_size j7 r4.2.1 r4.2.2).bind fun r19 => rCk (isO r19.2.1 j7 5) (((mX5_countWords j7 (0 : Int32) r19.1 r19.2.1 r19.2.2).bind fun r22 => mX8_countWords_b43 r22.1 r22.2.1 r22.2.2))))))))))) = some r := h
  refine AM.of (by decide +kernel) (all1 rfl (all1 rfl (all1 (rf_cat _) rfl))) (Nat.le_of_ble_eq_true rfl) (fun p e s m args below meth c C hnm => ?_)
  refine aw_nl [some (.ref v0), some (.int v1), some (va_rf v2), none] rfl ?_
  refine aw_ald_n C dX8_countWords_0 rfl ?_
  obtain ⟨x1, hx1, h⟩ := Option.bind_eq_some_iff.mp h
  refine ah_getR C gf_X8_21 hx1 dX8_countWords_1 ?_
  refine aw_iload_n C dX8_countWords_4 rfl ?_
  obtain ⟨j2, hj2, h⟩ := Option.bind_eq_some_iff.mp h
  rw [hj2]
  obtain ⟨hb3, h⟩ := ck_some h
  obtain ⟨r4, hr4, h⟩ := Option.bind_eq_some_iff.mp h
  obtain ⟨fs5, hf5⟩ := isO_ex hb3
  refine aw_callV C (ci := 7) (b := j2) [.int v1] mv_X8_194 rfl rfl hf5 (rmX7_toldFor hr4) rfl dX8_countWords_5 (Nat.le_of_ble_eq_true rfl) (Nat.le_of_ble_eq_true rfl) rfl (Nat.le_of_ble_eq_true rfl) (show 0 + 0 ≤ 0 by omega) (show 0 + 0 ≤ 0 by omega) (fun v9 f9 n9 hh => ?_)
  obtain ⟨rfl, rfl, rfl⟩ := hh
  obtain ⟨x6, hx6, h⟩ := Option.bind_eq_some_iff.mp h
  rw [Option.some.inj hx6]
  refine aw_astore_n C dX8_countWords_8 (by decide) (ok_rf 2 rfl) (rf_or x6) ?_
  refine aw_nl [some (.ref v0), some (.int v1), some (va_rf v2), some (va_rf x6)] rfl ?_
  refine aw_aload_n C dX8_countWords_9 rfl (rf_or x6) ?_
  cases x6 with
  | none =>
    replace h : ((gR r4.2.1 v0 8 5).bind fun x8 => ((x8).bind fun j9 => ((gR r4.2.1 j9 1 0).bind fun x10 => ((v2).bind fun j11 => ((gI r4.2.1 j11 3 2).bind fun x12 => ((gI r4.2.1 j11 3 3).bind fun x13 => ((x10).bind fun j14 => rCk (isO r4.2.1 j14 5) (((mX5_countWords j14 x12 x13 r4.2.1 r4.2.2).bind fun r16 => mX8_countWords_b43 r16.1 r16.2.1 r16.2.2))))))))) = some r := h
    refine aw_ifnonnull_n C 34 dX8_countWords_10 (by decide) ?_
    refine aw_ald_n C dX8_countWords_13 rfl ?_
    obtain ⟨x8, hx8, h⟩ := Option.bind_eq_some_iff.mp h
    refine ah_getR C gf_X8_38 hx8 dX8_countWords_14 ?_
    obtain ⟨j9, hj9, h⟩ := Option.bind_eq_some_iff.mp h
    rw [hj9]
    obtain ⟨x10, hx10, h⟩ := Option.bind_eq_some_iff.mp h
    refine ah_getR C gf_X8_373 hx10 dX8_countWords_17 ?_
    refine aw_aload_n C dX8_countWords_20 rfl (rf_or v2) ?_
    obtain ⟨j11, hj11, h⟩ := Option.bind_eq_some_iff.mp h
    rw [hj11]
    obtain ⟨x12, hx12, h⟩ := Option.bind_eq_some_iff.mp h
    refine ah_getI C gf_X8_224 hx12 dX8_countWords_21 ?_
    refine aw_ald_n C dX8_countWords_24 rfl ?_
    obtain ⟨x13, hx13, h⟩ := Option.bind_eq_some_iff.mp h
    refine ah_getI C gf_X8_187 hx13 dX8_countWords_25 ?_
    obtain ⟨j14, hj14, h⟩ := Option.bind_eq_some_iff.mp h
    rw [hj14]
    obtain ⟨hb15, h⟩ := ck_some h
    obtain ⟨r16, hr16, h⟩ := Option.bind_eq_some_iff.mp h
    obtain ⟨fs17, hf17⟩ := isO_ex hb15
    refine aw_callV C (ci := 5) (b := j14) [.int x12, .int x13] mv_X8_386 rfl rfl hf17 (rmX5_countWords hr16) rfl dX8_countWords_28 (Nat.le_of_ble_eq_true rfl) (Nat.le_of_ble_eq_true rfl) rfl (Nat.le_of_ble_eq_true rfl) (show (0 + 0) + 0 ≤ 0 by omega) (show (0 + 0) + 0 ≤ 0 by omega) (fun v9 f9 n9 hh => ?_)
    obtain ⟨rfl, rfl, rfl⟩ := hh
    refine aw_goto C 43 dX8_countWords_31 (by decide) ?_
    refine aw_fl [none, none, none, none] trivial ?_
    exact rmX8_countWords_b43 C (by omega) (by omega) h
  | some j7 =>
    replace h : rCk (isO r4.2.1 j7 5) (((mX5_size j7 r4.2.1 r4.2.2).bind fun r19 => rCk (isO r19.2.1 j7 5) (((mX5_countWords j7 (0 : Int32) r19.1 r19.2.1 r19.2.2).bind fun r22 => mX8_countWords_b43 r22.1 r22.2.1 r22.2.2)))) = some r := h
    refine aw_ifnonnull_r C 34 dX8_countWords_10 (by decide) ?_
    refine aw_ald_n C dX8_countWords_34 rfl ?_
    refine aw_iconst C 0 dX8_countWords_35 ki_0 ?_
    refine aw_ald_n C dX8_countWords_36 rfl ?_
    obtain ⟨hb18, h⟩ := ck_some h
    obtain ⟨r19, hr19, h⟩ := Option.bind_eq_some_iff.mp h
    obtain ⟨fs20, hf20⟩ := isO_ex hb18
    refine aw_callV C (ci := 5) (b := j7) [] mv_X8_63 rfl rfl hf20 (rmX5_size hr19) rfl dX8_countWords_37 (Nat.le_of_ble_eq_true rfl) (Nat.le_of_ble_eq_true rfl) rfl (Nat.le_of_ble_eq_true rfl) (show (0 + 0) + 0 ≤ 0 by omega) (show (0 + 0) + 0 ≤ 0 by omega) (fun v9 f9 n9 hh => ?_)
    obtain ⟨rfl, rfl, rfl⟩ := hh
    obtain ⟨hb21, h⟩ := ck_some h
    obtain ⟨r22, hr22, h⟩ := Option.bind_eq_some_iff.mp h
    obtain ⟨fs23, hf23⟩ := isO_ex hb21
    refine aw_callV C (ci := 5) (b := j7) [.int (0 : Int32), .int r19.1] mv_X8_386 rfl rfl hf23 (rmX5_countWords hr22) rfl dX8_countWords_40 (Nat.le_of_ble_eq_true rfl) (Nat.le_of_ble_eq_true rfl) rfl (Nat.le_of_ble_eq_true rfl) (show ((0 + 0) + 0) + 0 ≤ 0 by omega) (show ((0 + 0) + 0) + 0 ≤ 0 by omega) (fun v9 f9 n9 hh => ?_)
    obtain ⟨rfl, rfl, rfl⟩ := hh
    refine aw_fl [none, none, none, none] trivial ?_
    exact rmX8_countWords_b43 C (by omega) (by omega) h
def mX8_countAllWords_b37 (rec4 : Nat → Int32 → Int32 → AH → Nat → Option (Int32 × HpN)) (v0 : Nat) (v1 : Int32) (v2 : Int32) (f : AH) (n : Nat) : Option (Int32 × HpN) := rec4 v0 v1 (v2 + (1 : Int32)) f n
set_option maxHeartbeats 1000000 in
theorem rmX8_countAllWords_b37 {X : GX} {p : Program} {l : Launch} {e : Env} {s : State} {m : MethodId} {args : Array Value} {below : List Frame} {meth : Method} {c : Code} {r : Int32 × HpN} {rec4 : Nat → Int32 → Int32 → AH → Nat → Option (Int32 × HpN)} {v0 : Nat} {v1 : Int32} {v2 : Int32} {f : AH} {n cells slots : Nat} (C : CC X p l (RM 3 0 0) s m args meth c RX8 cX8_countAllWords 4 (some .int)) (Hr4 : ∀ (v0 : Nat) (v1 : Int32) (v2 : Int32) (f : AH) (n cells slots : Nat), cells + 0 ≤ 0 → slots + 0 ≤ 0 → rec4 v0 v1 v2 f n = some r → AW X p l e (RM 3 0 0) s m args below meth c 4 (ZM X below args s 0 0 (QHi r)) f n cells slots 4 [some (.ref v0), some (.int v1), some (.int v2), none] []) (hc : cells + 0 ≤ 0) (hs : slots + 0 ≤ 0) (h : mX8_countAllWords_b37 rec4 v0 v1 v2 f n = some r) : AW X p l e (RM 3 0 0) s m args below meth c 4 (ZM X below args s 0 0 (QHi r)) f n cells slots 37 [some (.ref v0), some (.int v1), some (.int v2), none] [] := by
  have h : rec4 v0 v1 (v2 + (1 : Int32)) f n = some r := h
  refine aw_iinc C (v2 + (1 : Int32)) dX8_countAllWords_37 rfl (by rw [ki_1]) (by decide) rfl ?_
  refine aw_nl [some (.ref v0), some (.int v1), some (.int (v2 + (1 : Int32))), none] rfl ?_
  refine aw_goto C 4 dX8_countAllWords_40 (by decide) ?_
  refine aw_fl [some (.ref v0), some (.int v1), some (.int (v2 + (1 : Int32))), none] ⟨rfl, ⟨rfl, ⟨rfl, trivial⟩⟩⟩ ?_
  exact Hr4 v0 v1 (v2 + (1 : Int32)) f n _ _ (by omega) (by omega) h
def mX8_countAllWords_l4 : Nat → Nat → Int32 → Int32 → AH → Nat → Option (Int32 × HpN)
  | 0, _, _, _, _, _ => none
  | d + 1, v0, v1, v2, f, n => ((gR f v0 8 5).bind fun x1 => ((x1).bind fun j2 => rCk (isO f j2 1) (((mX1_size j2 f n).bind fun r4 => (if r4.1 ≤ v2 then some (v1, (r4.2.1, r4.2.2)) else ((gR r4.2.1 v0 8 5).bind fun x6 => ((x6).bind fun j7 => rCk (isO r4.2.1 j7 1) (((mX1_get j7 v2 r4.2.1 r4.2.2).bind fun r9 => ((some r9.1).bind fun x11 => (oN x11 (mX8_countAllWords_b37 (fun v0 v1 v2 f n => mX8_countAllWords_l4 d v0 v1 v2 f n) v0 v1 v2 r9.2.1 r9.2.2) (fun j12 => rCk (isO r9.2.1 v0 8) (((mX8_countWords v0 v2 (some j12) r9.2.1 r9.2.2).bind fun r14 => mX8_countAllWords_b37 (fun v0 v1 v2 f n => mX8_countAllWords_l4 d v0 v1 v2 f n) v0 (v1 + r14.1) v2 r14.2.1 r14.2.2))))))))))))))
set_option maxHeartbeats 1000000 in
theorem rmX8_countAllWords_l4 {X : GX} {p : Program} {l : Launch} {e : Env} {s : State} {m : MethodId} {args : Array Value} {below : List Frame} {meth : Method} {c : Code} {r : Int32 × HpN} (C : CC X p l (RM 3 0 0) s m args meth c RX8 cX8_countAllWords 4 (some .int)) : ∀ (d : Nat) (v0 : Nat) (v1 : Int32) (v2 : Int32) (f : AH) (n cells slots : Nat) (_ : cells + 0 ≤ 0) (_ : slots + 0 ≤ 0) (_ : mX8_countAllWords_l4 d v0 v1 v2 f n = some r), AW X p l e (RM 3 0 0) s m args below meth c 4 (ZM X below args s 0 0 (QHi r)) f n cells slots 4 [some (.ref v0), some (.int v1), some (.int v2), none] [] := by
  intro d
  induction d with
  | zero =>
    intro v0 v1 v2 f n cells slots hc hs h
    exact nomatch (show (none : Option (Int32 × HpN)) = some r from h)
  | succ d ih =>
    intro v0 v1 v2 f n cells slots hc hs h
    have h : ((gR f v0 8 5).bind fun x1 => ((x1).bind fun j2 => rCk (isO f j2 1) (((mX1_size j2 f n).bind fun r4 => (if r4.1 ≤ v2 then some (v1, (r4.2.1, r4.2.2)) else ((gR r4.2.1 v0 8 5).bind fun x6 => ((x6).bind fun j7 => rCk (isO r4.2.1 j7 1) (((mX1_get j7 v2 r4.2.1 r4.2.2).bind fun r9 => ((some r9.1).bind fun x11 => (oN x11 (mX8_countAllWords_b37 (fun v0 v1 v2 f n => mX8_countAllWords_l4 d v0 v1 v2 f n) v0 v1 v2 r9.2.1 r9.2.2) (fun j12 => rCk (isO r9.2.1 v0 8) (((mX8_countWords v0 v2 (some j12) r9.2.1 r9.2.2).bind fun r14 => mX8_countAllWords_b37 (fun v0 v1 v2 f n => mX8_countAllWords_l4 d v0 v1 v2 f n) v0 (v1 + r14.1) v2 r14.2.1 r14.2.2)))))))))))))) = some r := h
    refine aw_iload_n C dX8_countAllWords_4 rfl ?_
    refine aw_ald_n C dX8_countAllWords_5 rfl ?_
    obtain ⟨x1, hx1, h⟩ := Option.bind_eq_some_iff.mp h
    refine ah_getR C gf_X8_38 hx1 dX8_countAllWords_6 ?_
    obtain ⟨j2, hj2, h⟩ := Option.bind_eq_some_iff.mp h
    rw [hj2]
    obtain ⟨hb3, h⟩ := ck_some h
    obtain ⟨r4, hr4, h⟩ := Option.bind_eq_some_iff.mp h
    obtain ⟨fs5, hf5⟩ := isO_ex hb3
    refine aw_callV C (ci := 1) (b := j2) [] mv_X8_136 rfl rfl hf5 (rmX1_size hr4) rfl dX8_countAllWords_9 (Nat.le_of_ble_eq_true rfl) (Nat.le_of_ble_eq_true rfl) rfl (Nat.le_of_ble_eq_true rfl) (show cells + 0 ≤ 0 by omega) (show slots + 0 ≤ 0 by omega) (fun v9 f9 n9 hh => ?_)
    obtain ⟨rfl, rfl, rfl⟩ := hh
    refine aw_icmp_ge C 43 dX8_countAllWords_12 (by decide) (fun q => ?_) (fun q => ?_)
    · rw [if_pos q] at h
      refine aw_iload_n C dX8_countAllWords_43 rfl ?_
      cases h
      exact aw_iret C rfl rfl dX8_countAllWords_44 (by omega) (by omega) ⟨rfl, rfl, rfl⟩
    · rw [if_neg q] at h
      refine aw_ald_n C dX8_countAllWords_15 rfl ?_
      obtain ⟨x6, hx6, h⟩ := Option.bind_eq_some_iff.mp h
      refine ah_getR C gf_X8_38 hx6 dX8_countAllWords_16 ?_
      refine aw_iload_n C dX8_countAllWords_19 rfl ?_
      obtain ⟨j7, hj7, h⟩ := Option.bind_eq_some_iff.mp h
      rw [hj7]
      obtain ⟨hb8, h⟩ := ck_some h
      obtain ⟨r9, hr9, h⟩ := Option.bind_eq_some_iff.mp h
      obtain ⟨fs10, hf10⟩ := isO_ex hb8
      refine aw_callV C (ci := 1) (b := j7) [.int v2] mv_X8_241 rfl rfl hf10 (rmX1_get hr9) rfl dX8_countAllWords_20 (Nat.le_of_ble_eq_true rfl) (Nat.le_of_ble_eq_true rfl) rfl (Nat.le_of_ble_eq_true rfl) (show (cells + 0) + 0 ≤ 0 by omega) (show (slots + 0) + 0 ≤ 0 by omega) (fun v9 f9 n9 hh => ?_)
      obtain ⟨rfl, rfl, rfl⟩ := hh
      obtain ⟨x11, hx11, h⟩ := Option.bind_eq_some_iff.mp h
      rw [Option.some.inj hx11]
      refine aw_astore_n C dX8_countAllWords_23 (by decide) rfl (rf_or x11) ?_
      refine aw_nl [some (.ref v0), some (.int v1), some (.int v2), some (va_rf x11)] rfl ?_
      refine aw_aload_n C dX8_countAllWords_24 rfl (rf_or x11) ?_
      cases x11 with
      | none =>
        replace h : mX8_countAllWords_b37 (fun v0 v1 v2 f n => mX8_countAllWords_l4 d v0 v1 v2 f n) v0 v1 v2 r9.2.1 r9.2.2 = some r := h
        refine aw_ifnull_n C 37 dX8_countAllWords_25 (by decide) ?_
        refine aw_fl [some (.ref v0), some (.int v1), some (.int v2), none] ⟨rfl, ⟨rfl, ⟨rfl, trivial⟩⟩⟩ ?_
        exact rmX8_countAllWords_b37 C (fun v0 v1 v2 f n cells slots hc hs h => ih v0 v1 v2 f n cells slots hc hs h) (by omega) (by omega) h
      | some j12 =>
        replace h : rCk (isO r9.2.1 v0 8) (((mX8_countWords v0 v2 (some j12) r9.2.1 r9.2.2).bind fun r14 => mX8_countAllWords_b37 (fun v0 v1 v2 f n => mX8_countAllWords_l4 d v0 v1 v2 f n) v0 (v1 + r14.1) v2 r14.2.1 r14.2.2)) = some r := h
        refine aw_ifnull_r C 37 dX8_countAllWords_25 (by decide) ?_
        refine aw_iload_n C dX8_countAllWords_28 rfl ?_
        refine aw_ald_n C dX8_countAllWords_29 rfl ?_
        refine aw_iload_n C dX8_countAllWords_30 rfl ?_
        refine aw_ald_n C dX8_countAllWords_31 rfl ?_
        obtain ⟨hb13, h⟩ := ck_some h
        obtain ⟨r14, hr14, h⟩ := Option.bind_eq_some_iff.mp h
        obtain ⟨fs15, hf15⟩ := isO_ex hb13
        refine aw_callV C (ci := 8) (b := v0) [.int v2, .ref j12] mv_X8_198 rfl rfl hf15 (rmX8_countWords hr14) rfl dX8_countAllWords_32 (Nat.le_of_ble_eq_true rfl) (Nat.le_of_ble_eq_true rfl) rfl (Nat.le_of_ble_eq_true rfl) (show ((cells + 0) + 0) + 0 ≤ 0 by omega) (show ((slots + 0) + 0) + 0 ≤ 0 by omega) (fun v9 f9 n9 hh => ?_)
        obtain ⟨rfl, rfl, rfl⟩ := hh
        refine aw_iadd C dX8_countAllWords_35 ?_
        refine aw_istore_n C dX8_countAllWords_36 (by decide) rfl ?_
        refine aw_nl [some (.ref v0), some (.int (v1 + r14.1)), some (.int v2), some (.ref j12)] rfl ?_
        refine aw_fl [some (.ref v0), some (.int (v1 + r14.1)), some (.int v2), none] ⟨rfl, ⟨rfl, ⟨rfl, trivial⟩⟩⟩ ?_
        exact rmX8_countAllWords_b37 C (fun v0 v1 v2 f n cells slots hc hs h => ih v0 v1 v2 f n cells slots hc hs h) (by omega) (by omega) h
def mX8_countAllWords (v0 : Nat) (f : AH) (n : Nat) : Option (Int32 × HpN) := mX8_countAllWords_l4 rFU v0 (0 : Int32) (0 : Int32) f n
set_option maxHeartbeats 1000000 in
theorem rmX8_countAllWords {X : GX} {l : Launch} {r : Int32 × HpN} {v0 : Nat} {f : AH} {n : Nat} (h : mX8_countAllWords v0 f n = some r) : AM X l yX8_countAllWords cX8_countAllWords 4 (some .int) 3 0 0 [.ref v0] f n (QHi r) := by
  have h : mX8_countAllWords_l4 rFU v0 (0 : Int32) (0 : Int32) f n = some r := h
  refine AM.of (by decide +kernel) rfl (Nat.le_of_ble_eq_true rfl) (fun p e s m args below meth c C hnm => ?_)
  refine aw_nl [some (.ref v0), none, none, none] rfl ?_
  refine aw_iconst C 0 dX8_countAllWords_0 ki_0 ?_
  refine aw_istore_n C dX8_countAllWords_1 (by decide) rfl ?_
  refine aw_nl [some (.ref v0), some (.int (0 : Int32)), none, none] rfl ?_
  refine aw_iconst C 0 dX8_countAllWords_2 ki_0 ?_
  refine aw_istore_n C dX8_countAllWords_3 (by decide) rfl ?_
  refine aw_nl [some (.ref v0), some (.int (0 : Int32)), some (.int (0 : Int32)), none] rfl ?_
  refine aw_fl [some (.ref v0), some (.int (0 : Int32)), some (.int (0 : Int32)), none] ⟨rfl, ⟨rfl, ⟨rfl, trivial⟩⟩⟩ ?_
  exact rmX8_countAllWords_l4 C rFU v0 (0 : Int32) (0 : Int32) f n _ _ (by omega) (by omega) h
