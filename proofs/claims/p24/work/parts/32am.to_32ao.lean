/-! part 32am.cls -/
section
def mX8_twice_b72 (f : AH) (n : Nat) : Option (Int32 × HpN) := rCk (rNb (0 : Int32)) (some ((0 : Int32), (f, n)))
set_option maxHeartbeats 1000000 in
theorem rmX8_twice_b72 {X : GX} {p : Program} {l : Launch} {e : Env} {s : State} {m : MethodId} {args : Array Value} {below : List Frame} {meth : Method} {c : Code} {r : Int32 × HpN} {f : AH} {n cells slots : Nat} (C : CC X p l (RM 6 0 0) s m args meth c RX8 cX8_twice 4 (some .boolean)) (hc : cells + 0 ≤ 0) (hs : slots + 0 ≤ 0) (h : mX8_twice_b72 f n = some r) : AW X p l e (RM 6 0 0) s m args below meth c 4 (ZM X below args s 0 0 (QHi r)) f n cells slots 72 [none, none, none, none] [] := by
  have h : rCk (rNb (0 : Int32)) (some ((0 : Int32), (f, n))) = some r := h
  refine aw_iconst C 0 dX8_twice_72 ki_0 ?_
  obtain ⟨hb1, h⟩ := ck_some h
  cases h
  exact aw_iret C rfl (nb_nar hb1) dX8_twice_73 (by omega) (by omega) ⟨rfl, rfl, rfl⟩
def mX8_twice_l25 : Nat → Nat → Int32 → AH → Nat → Option (Int32 × HpN)
  | 0, _, _, _, _ => none
  | d + 1, v0, v1, f, n => ((gR f v0 8 5).bind fun x1 => ((x1).bind fun j2 => rCk (isO f j2 1) (((mX1_size j2 f n).bind fun r4 => (if r4.1 ≤ v1 then rCk (rNb (1 : Int32)) (some ((1 : Int32), (r4.2.1, r4.2.2))) else ((gR r4.2.1 v0 8 5).bind fun x7 => ((x7).bind fun j8 => rCk (isO r4.2.1 j8 1) (((mX1_get j8 v1 r4.2.1 r4.2.2).bind fun r10 => ((some r10.1).bind fun x12 => ((gR r10.2.1 v0 8 6).bind fun x13 => ((x13).bind fun j14 => rCk (isO r10.2.1 j14 1) (((mX1_get j14 v1 r10.2.1 r10.2.2).bind fun r16 => ((some r16.1).bind fun x18 => (oN x12 (mX8_twice_b72 r16.2.1 r16.2.2) (fun j19 => (oN x18 (mX8_twice_b72 r16.2.1 r16.2.2) (fun j20 => rCk (isO r16.2.1 v0 8) (((mX8_isNow v0 v1 (some j19) (some j20) r16.2.1 r16.2.2).bind fun r22 => (if r22.1 = (0 : Int32) then mX8_twice_b72 r22.2.1 r22.2.2 else mX8_twice_l25 d v0 (v1 + (1 : Int32)) r22.2.1 r22.2.2))))))))))))))))))))))
set_option maxHeartbeats 1000000 in
theorem rmX8_twice_l25 {X : GX} {p : Program} {l : Launch} {e : Env} {s : State} {m : MethodId} {args : Array Value} {below : List Frame} {meth : Method} {c : Code} {r : Int32 × HpN} (C : CC X p l (RM 6 0 0) s m args meth c RX8 cX8_twice 4 (some .boolean)) : ∀ (d : Nat) (v0 : Nat) (v1 : Int32) (f : AH) (n cells slots : Nat) (_ : cells + 0 ≤ 0) (_ : slots + 0 ≤ 0) (_ : mX8_twice_l25 d v0 v1 f n = some r), AW X p l e (RM 6 0 0) s m args below meth c 4 (ZM X below args s 0 0 (QHi r)) f n cells slots 25 [some (.ref v0), some (.int v1), none, none] [] := by
  intro d
  induction d with
  | zero =>
    intro v0 v1 f n cells slots hc hs h
    exact nomatch (show (none : Option (Int32 × HpN)) = some r from h)
  | succ d ih =>
    intro v0 v1 f n cells slots hc hs h
    have h : ((gR f v0 8 5).bind fun x1 => ((x1).bind fun j2 => rCk (isO f j2 1) (((mX1_size j2 f n).bind fun r4 => (if r4.1 ≤ v1 then rCk (rNb (1 : Int32)) (some ((1 : Int32), (r4.2.1, r4.2.2))) else ((gR r4.2.1 v0 8 5).bind fun x7 => ((x7).bind fun j8 => rCk (isO r4.2.1 j8 1) (((mX1_get j8 v1 r4.2.1 r4.2.2).bind fun r10 => ((some r10.1).bind fun x12 => ((gR r10.2.1 v0 8 6).bind fun x13 => ((x13).bind fun j14 => rCk (isO r10.2.1 j14 1) (((mX1_get j14 v1 r10.2.1 r10.2.2).bind fun r16 => ((some r16.1).bind fun x18 => (oN x12 (mX8_twice_b72 r16.2.1 r16.2.2) (fun j19 => (oN x18 (mX8_twice_b72 r16.2.1 r16.2.2) (fun j20 => rCk (isO r16.2.1 v0 8) (((mX8_isNow v0 v1 (some j19) (some j20) r16.2.1 r16.2.2).bind fun r22 => (if r22.1 = (0 : Int32) then mX8_twice_b72 r22.2.1 r22.2.2 else mX8_twice_l25 d v0 (v1 + (1 : Int32)) r22.2.1 r22.2.2)))))))))))))))))))))) = some r := h
    refine aw_iload_n C dX8_twice_25 rfl ?_
    refine aw_ald_n C dX8_twice_26 rfl ?_
    obtain ⟨x1, hx1, h⟩ := Option.bind_eq_some_iff.mp h
    refine ah_getR C gf_X8_38 hx1 dX8_twice_27 ?_
    obtain ⟨j2, hj2, h⟩ := Option.bind_eq_some_iff.mp h
    rw [hj2]
    obtain ⟨hb3, h⟩ := ck_some h
    obtain ⟨r4, hr4, h⟩ := Option.bind_eq_some_iff.mp h
    obtain ⟨fs5, hf5⟩ := isO_ex hb3
    refine aw_callV C (ci := 1) (b := j2) [] mv_X8_136 rfl rfl hf5 (rmX1_size hr4) rfl dX8_twice_30 (Nat.le_of_ble_eq_true rfl) (Nat.le_of_ble_eq_true rfl) rfl (Nat.le_of_ble_eq_true rfl) (show cells + 0 ≤ 0 by omega) (show slots + 0 ≤ 0 by omega) (fun v9 f9 n9 hh => ?_)
    obtain ⟨rfl, rfl, rfl⟩ := hh
    refine aw_icmp_ge C 80 dX8_twice_33 (by decide) (fun q => ?_) (fun q => ?_)
    · rw [if_pos q] at h
      refine aw_iconst C 1 dX8_twice_80 ki_1 ?_
      obtain ⟨hb6, h⟩ := ck_some h
      cases h
      exact aw_iret C rfl (nb_nar hb6) dX8_twice_81 (by omega) (by omega) ⟨rfl, rfl, rfl⟩
    · rw [if_neg q] at h
      refine aw_ald_n C dX8_twice_36 rfl ?_
      obtain ⟨x7, hx7, h⟩ := Option.bind_eq_some_iff.mp h
      refine ah_getR C gf_X8_38 hx7 dX8_twice_37 ?_
      refine aw_iload_n C dX8_twice_40 rfl ?_
      obtain ⟨j8, hj8, h⟩ := Option.bind_eq_some_iff.mp h
      rw [hj8]
      obtain ⟨hb9, h⟩ := ck_some h
      obtain ⟨r10, hr10, h⟩ := Option.bind_eq_some_iff.mp h
      obtain ⟨fs11, hf11⟩ := isO_ex hb9
      refine aw_callV C (ci := 1) (b := j8) [.int v1] mv_X8_241 rfl rfl hf11 (rmX1_get hr10) rfl dX8_twice_41 (Nat.le_of_ble_eq_true rfl) (Nat.le_of_ble_eq_true rfl) rfl (Nat.le_of_ble_eq_true rfl) (show (cells + 0) + 0 ≤ 0 by omega) (show (slots + 0) + 0 ≤ 0 by omega) (fun v9 f9 n9 hh => ?_)
      obtain ⟨rfl, rfl, rfl⟩ := hh
      obtain ⟨x12, hx12, h⟩ := Option.bind_eq_some_iff.mp h
      rw [Option.some.inj hx12]
      refine aw_astore_n C dX8_twice_44 (by decide) rfl (rf_or x12) ?_
      refine aw_nl [some (.ref v0), some (.int v1), some (va_rf x12), none] rfl ?_
      refine aw_ald_n C dX8_twice_45 rfl ?_
      obtain ⟨x13, hx13, h⟩ := Option.bind_eq_some_iff.mp h
      refine ah_getR C gf_X8_42 hx13 dX8_twice_46 ?_
      refine aw_iload_n C dX8_twice_49 rfl ?_
      obtain ⟨j14, hj14, h⟩ := Option.bind_eq_some_iff.mp h
      rw [hj14]
      obtain ⟨hb15, h⟩ := ck_some h
      obtain ⟨r16, hr16, h⟩ := Option.bind_eq_some_iff.mp h
      obtain ⟨fs17, hf17⟩ := isO_ex hb15
      refine aw_callV C (ci := 1) (b := j14) [.int v1] mv_X8_241 rfl rfl hf17 (rmX1_get hr16) rfl dX8_twice_50 (Nat.le_of_ble_eq_true rfl) (Nat.le_of_ble_eq_true rfl) rfl (Nat.le_of_ble_eq_true rfl) (show ((cells + 0) + 0) + 0 ≤ 0 by omega) (show ((slots + 0) + 0) + 0 ≤ 0 by omega) (fun v9 f9 n9 hh => ?_)
      obtain ⟨rfl, rfl, rfl⟩ := hh
      obtain ⟨x18, hx18, h⟩ := Option.bind_eq_some_iff.mp h
      rw [Option.some.inj hx18]
      refine aw_astore_n C dX8_twice_53 (by decide) (ok_rf 2 rfl) (rf_or x18) ?_
      refine aw_nl [some (.ref v0), some (.int v1), some (va_rf x12), some (va_rf x18)] rfl ?_
      refine aw_aload_n C dX8_twice_54 rfl (rf_or x12) ?_
      cases x12 with
      | none =>
        replace h : mX8_twice_b72 r16.2.1 r16.2.2 = some r := h
        refine aw_ifnull_n C 72 dX8_twice_55 (by decide) ?_
        refine aw_fl [none, none, none, none] trivial ?_
        exact rmX8_twice_b72 C (by omega) (by omega) h
      | some j19 =>
        replace h : (oN x18 (mX8_twice_b72 r16.2.1 r16.2.2) (fun j20 => rCk (isO r16.2.1 v0 8) (((mX8_isNow v0 v1 (some j19) (some j20) r16.2.1 r16.2.2).bind fun r22 => (if r22.1 = (0 : Int32) then mX8_twice_b72 r22.2.1 r22.2.2 else mX8_twice_l25 d v0 (v1 + (1 : Int32)) r22.2.1 r22.2.2))))) = some r := h
        refine aw_ifnull_r C 72 dX8_twice_55 (by decide) ?_
        refine aw_aload_n C dX8_twice_58 rfl (rf_or x18) ?_
        cases x18 with
        | none =>
          replace h : mX8_twice_b72 r16.2.1 r16.2.2 = some r := h
          refine aw_ifnull_n C 72 dX8_twice_59 (by decide) ?_
          refine aw_fl [none, none, none, none] trivial ?_
          exact rmX8_twice_b72 C (by omega) (by omega) h
        | some j20 =>
          replace h : rCk (isO r16.2.1 v0 8) (((mX8_isNow v0 v1 (some j19) (some j20) r16.2.1 r16.2.2).bind fun r22 => (if r22.1 = (0 : Int32) then mX8_twice_b72 r22.2.1 r22.2.2 else mX8_twice_l25 d v0 (v1 + (1 : Int32)) r22.2.1 r22.2.2))) = some r := h
          refine aw_ifnull_r C 72 dX8_twice_59 (by decide) ?_
          refine aw_ald_n C dX8_twice_62 rfl ?_
          refine aw_iload_n C dX8_twice_63 rfl ?_
          refine aw_ald_n C dX8_twice_64 rfl ?_
          refine aw_ald_n C dX8_twice_65 rfl ?_
          obtain ⟨hb21, h⟩ := ck_some h
          obtain ⟨r22, hr22, h⟩ := Option.bind_eq_some_iff.mp h
          obtain ⟨fs23, hf23⟩ := isO_ex hb21
          refine aw_callV C (ci := 8) (b := v0) [.int v1, .ref j19, .ref j20] mv_X8_283 rfl rfl hf23 (rmX8_isNow hr22) rfl dX8_twice_66 (Nat.le_of_ble_eq_true rfl) (Nat.le_of_ble_eq_true rfl) rfl (Nat.le_of_ble_eq_true rfl) (show (((cells + 0) + 0) + 0) + 0 ≤ 0 by omega) (show (((slots + 0) + 0) + 0) + 0 ≤ 0 by omega) (fun v9 f9 n9 hh => ?_)
          obtain ⟨rfl, rfl, rfl⟩ := hh
          refine aw_if_ne C 74 dX8_twice_69 (by decide) (fun q => ?_) (fun q => ?_)
          · rw [if_neg q] at h
            refine aw_iinc C (v1 + (1 : Int32)) dX8_twice_74 rfl (by rw [ki_1]) (by decide) rfl ?_
            refine aw_nl [some (.ref v0), some (.int (v1 + (1 : Int32))), some (.ref j19), some (.ref j20)] rfl ?_
            refine aw_goto C 25 dX8_twice_77 (by decide) ?_
            refine aw_fl [some (.ref v0), some (.int (v1 + (1 : Int32))), none, none] ⟨rfl, ⟨rfl, trivial⟩⟩ ?_
            exact ih v0 (v1 + (1 : Int32)) r22.2.1 r22.2.2 _ _ (by omega) (by omega) h
          · rw [if_pos q] at h
            refine aw_fl [none, none, none, none] trivial ?_
            exact rmX8_twice_b72 C (by omega) (by omega) h
def mX8_twice (v0 : Nat) (f : AH) (n : Nat) : Option (Int32 × HpN) := rCk (isO f v0 8) (((mX8_cutAgain v0 f n).bind fun r2 => ((gR r2.2.1 v0 8 6).bind fun x4 => ((x4).bind fun j5 => rCk (isO r2.2.1 j5 1) (((mX1_size j5 r2.2.1 r2.2.2).bind fun r7 => ((gR r7.2.1 v0 8 5).bind fun x9 => ((x9).bind fun j10 => rCk (isO r7.2.1 j10 1) (((mX1_size j10 r7.2.1 r7.2.2).bind fun r12 => (if r7.1 = r12.1 then mX8_twice_l25 rFU v0 (0 : Int32) r12.2.1 r12.2.2 else rCk (rNb (0 : Int32)) (some ((0 : Int32), (r12.2.1, r12.2.2))))))))))))))
set_option maxHeartbeats 1000000 in
theorem rmX8_twice {X : GX} {l : Launch} {r : Int32 × HpN} {v0 : Nat} {f : AH} {n : Nat} (h : mX8_twice v0 f n = some r) : AM X l yX8_twice cX8_twice 4 (some .boolean) 6 0 0 [.ref v0] f n (QHi r) := by
  have h : rCk (isO f v0 8) (((mX8_cutAgain v0 f n).bind fun r2 => ((gR r2.2.1 v0 8 6).bind fun x4 => ((x4).bind fun j5 => rCk (isO r2.2.1 j5 1) (((mX1_size j5 r2.2.1 r2.2.2).bind fun r7 => ((gR r7.2.1 v0 8 5).bind fun x9 => ((x9).bind fun j10 => rCk (isO r7.2.1 j10 1) (((mX1_size j10 r7.2.1 r7.2.2).bind fun r12 => (if r7.1 = r12.1 then mX8_twice_l25 rFU v0 (0 : Int32) r12.2.1 r12.2.2 else rCk (rNb (0 : Int32)) (some ((0 : Int32), (r12.2.1, r12.2.2)))))))))))))) = some r := h
  refine AM.of (by decide +kernel) rfl (Nat.le_of_ble_eq_true rfl) (fun p e s m args below meth c C hnm => ?_)
  refine aw_nl [some (.ref v0), none, none, none] rfl ?_
  refine aw_ald_n C dX8_twice_0 rfl ?_
  obtain ⟨hb1, h⟩ := ck_some h
  obtain ⟨r2, hr2, h⟩ := Option.bind_eq_some_iff.mp h
  obtain ⟨fs3, hf3⟩ := isO_ex hb1
  refine aw_callV C (ci := 8) (b := v0) [] mv_X8_276 rfl rfl hf3 (rmX8_cutAgain hr2) rfl dX8_twice_1 (Nat.le_of_ble_eq_true rfl) (Nat.le_of_ble_eq_true rfl) rfl (Nat.le_of_ble_eq_true rfl) (show 0 + 0 ≤ 0 by omega) (show 0 + 0 ≤ 0 by omega) (fun v9 f9 n9 hh => ?_)
  obtain ⟨rfl, rfl, rfl⟩ := hh
  refine aw_ald_n C dX8_twice_4 rfl ?_
  obtain ⟨x4, hx4, h⟩ := Option.bind_eq_some_iff.mp h
  refine ah_getR C gf_X8_42 hx4 dX8_twice_5 ?_
  obtain ⟨j5, hj5, h⟩ := Option.bind_eq_some_iff.mp h
  rw [hj5]
  obtain ⟨hb6, h⟩ := ck_some h
  obtain ⟨r7, hr7, h⟩ := Option.bind_eq_some_iff.mp h
  obtain ⟨fs8, hf8⟩ := isO_ex hb6
  refine aw_callV C (ci := 1) (b := j5) [] mv_X8_136 rfl rfl hf8 (rmX1_size hr7) rfl dX8_twice_8 (Nat.le_of_ble_eq_true rfl) (Nat.le_of_ble_eq_true rfl) rfl (Nat.le_of_ble_eq_true rfl) (show (0 + 0) + 0 ≤ 0 by omega) (show (0 + 0) + 0 ≤ 0 by omega) (fun v9 f9 n9 hh => ?_)
  obtain ⟨rfl, rfl, rfl⟩ := hh
  refine aw_ald_n C dX8_twice_11 rfl ?_
  obtain ⟨x9, hx9, h⟩ := Option.bind_eq_some_iff.mp h
  refine ah_getR C gf_X8_38 hx9 dX8_twice_12 ?_
  obtain ⟨j10, hj10, h⟩ := Option.bind_eq_some_iff.mp h
  rw [hj10]
  obtain ⟨hb11, h⟩ := ck_some h
  obtain ⟨r12, hr12, h⟩ := Option.bind_eq_some_iff.mp h
  obtain ⟨fs13, hf13⟩ := isO_ex hb11
  refine aw_callV C (ci := 1) (b := j10) [] mv_X8_136 rfl rfl hf13 (rmX1_size hr12) rfl dX8_twice_15 (Nat.le_of_ble_eq_true rfl) (Nat.le_of_ble_eq_true rfl) rfl (Nat.le_of_ble_eq_true rfl) (show ((0 + 0) + 0) + 0 ≤ 0 by omega) (show ((0 + 0) + 0) + 0 ≤ 0 by omega) (fun v9 f9 n9 hh => ?_)
  obtain ⟨rfl, rfl, rfl⟩ := hh
  refine aw_icmp_eq C 23 dX8_twice_18 (by decide) (fun q => ?_) (fun q => ?_)
  · rw [if_pos q] at h
    refine aw_iconst C 0 dX8_twice_23 ki_0 ?_
    refine aw_istore_n C dX8_twice_24 (by decide) rfl ?_
    refine aw_nl [some (.ref v0), some (.int (0 : Int32)), none, none] rfl ?_
    refine aw_fl [some (.ref v0), some (.int (0 : Int32)), none, none] ⟨rfl, ⟨rfl, trivial⟩⟩ ?_
    exact rmX8_twice_l25 C rFU v0 (0 : Int32) r12.2.1 r12.2.2 _ _ (by omega) (by omega) h
  · rw [if_neg q] at h
    refine aw_iconst C 0 dX8_twice_21 ki_0 ?_
    obtain ⟨hb14, h⟩ := ck_some h
    cases h
    exact aw_iret C rfl (nb_nar hb14) dX8_twice_22 (by omega) (by omega) ⟨rfl, rfl, rfl⟩
def mX8_image (v0 : Nat) (f : AH) (n : Nat) : Option (Int32 × HpN) := ((gR f v0 8 3).bind fun x1 => ((gR f v0 8 1).bind fun x2 => ((x1).bind fun j3 => rCk (isO f j3 7) (((mX7_copyFrom j3 x2 f n).bind fun r5 => rCk (rNb (1 : Int32)) (((pO r5.2.1 v0 8 9 (.int (1 : Int32))).bind fun f8 => some ((0 : Int32), (f8, r5.2.2)))))))))
set_option maxHeartbeats 1000000 in
theorem rmX8_image {X : GX} {l : Launch} {r : Int32 × HpN} {v0 : Nat} {f : AH} {n : Nat} (h : mX8_image v0 f n = some r) : AM X l yX8_image cX8_image 1 none 1 0 0 [.ref v0] f n (QHv r) := by
  have h : ((gR f v0 8 3).bind fun x1 => ((gR f v0 8 1).bind fun x2 => ((x1).bind fun j3 => rCk (isO f j3 7) (((mX7_copyFrom j3 x2 f n).bind fun r5 => rCk (rNb (1 : Int32)) (((pO r5.2.1 v0 8 9 (.int (1 : Int32))).bind fun f8 => some ((0 : Int32), (f8, r5.2.2))))))))) = some r := h
  refine AM.of (by decide +kernel) rfl (Nat.le_of_ble_eq_true rfl) (fun p e s m args below meth c C hnm => ?_)
  refine aw_nl [some (.ref v0)] rfl ?_
  refine aw_ald_n C dX8_image_0 rfl ?_
  obtain ⟨x1, hx1, h⟩ := Option.bind_eq_some_iff.mp h
  refine ah_getR C gf_X8_28 hx1 dX8_image_1 ?_
  refine aw_ald_n C dX8_image_4 rfl ?_
  obtain ⟨x2, hx2, h⟩ := Option.bind_eq_some_iff.mp h
  refine ah_getR C gf_X8_21 hx2 dX8_image_5 ?_
  obtain ⟨j3, hj3, h⟩ := Option.bind_eq_some_iff.mp h
  rw [hj3]
  obtain ⟨hb4, h⟩ := ck_some h
  obtain ⟨r5, hr5, h⟩ := Option.bind_eq_some_iff.mp h
  obtain ⟨fs6, hf6⟩ := isO_ex hb4
  refine aw_callV C (ci := 7) (b := j3) [va_rf x2] mv_X8_73 rfl rfl hf6 (rmX7_copyFrom hr5) rfl dX8_image_8 (Nat.le_of_ble_eq_true rfl) (Nat.le_of_ble_eq_true rfl) rfl (Nat.le_of_ble_eq_true rfl) (show 0 + 0 ≤ 0 by omega) (show 0 + 0 ≤ 0 by omega) (fun v9 f9 n9 hh => ?_)
  obtain ⟨rfl, rfl, rfl⟩ := hh
  refine aw_ald_n C dX8_image_11 rfl ?_
  refine aw_iconst C 1 dX8_image_12 ki_1 ?_
  obtain ⟨hb7, h⟩ := ck_some h
  obtain ⟨f8, hf8, h⟩ := Option.bind_eq_some_iff.mp h
  refine ah_put C gf_X8_287 cf8 nf8_9 (nb_nar hb7) (nb_fit hb7) hf8 dX8_image_13 ?_
  cases h
  exact aw_vret C rfl dX8_image_16 (by omega) (by omega) ⟨rfl, rfl, rfl⟩
def mX8_back (v0 : Nat) (f : AH) (n : Nat) : Option (Int32 × HpN) := ((gI f v0 8 9).bind fun x1 => (if x1 = (0 : Int32) then rCk (rNb (0 : Int32)) (some ((0 : Int32), (f, n))) else ((gR f v0 8 3).bind fun x2 => rCk (isO f v0 8) (((mX8_restore v0 x2 f n).bind fun r4 => ((pO r4.2.1 v0 8 11 (.int (0 : Int32))).bind fun f6 => rCk (rNb (1 : Int32)) (some ((1 : Int32), (f6, r4.2.2)))))))))
set_option maxHeartbeats 1000000 in
theorem rmX8_back {X : GX} {l : Launch} {r : Int32 × HpN} {v0 : Nat} {f : AH} {n : Nat} (h : mX8_back v0 f n = some r) : AM X l yX8_back cX8_back 1 (some .boolean) 6 0 0 [.ref v0] f n (QHi r) := by
  have h : ((gI f v0 8 9).bind fun x1 => (if x1 = (0 : Int32) then rCk (rNb (0 : Int32)) (some ((0 : Int32), (f, n))) else ((gR f v0 8 3).bind fun x2 => rCk (isO f v0 8) (((mX8_restore v0 x2 f n).bind fun r4 => ((pO r4.2.1 v0 8 11 (.int (0 : Int32))).bind fun f6 => rCk (rNb (1 : Int32)) (some ((1 : Int32), (f6, r4.2.2))))))))) = some r := h
  refine AM.of (by decide +kernel) rfl (Nat.le_of_ble_eq_true rfl) (fun p e s m args below meth c C hnm => ?_)
  refine aw_nl [some (.ref v0)] rfl ?_
  refine aw_ald_n C dX8_back_0 rfl ?_
  obtain ⟨x1, hx1, h⟩ := Option.bind_eq_some_iff.mp h
  refine ah_getI C gf_X8_287 hx1 dX8_back_1 ?_
  refine aw_if_ne C 9 dX8_back_4 (by decide) (fun q => ?_) (fun q => ?_)
  · rw [if_neg q] at h
    refine aw_ald_n C dX8_back_9 rfl ?_
    refine aw_ald_n C dX8_back_10 rfl ?_
    obtain ⟨x2, hx2, h⟩ := Option.bind_eq_some_iff.mp h
    refine ah_getR C gf_X8_28 hx2 dX8_back_11 ?_
    obtain ⟨hb3, h⟩ := ck_some h
    obtain ⟨r4, hr4, h⟩ := Option.bind_eq_some_iff.mp h
    obtain ⟨fs5, hf5⟩ := isO_ex hb3
    refine aw_callV C (ci := 8) (b := v0) [va_rf x2] mv_X8_113 rfl rfl hf5 (rmX8_restore hr4) rfl dX8_back_14 (Nat.le_of_ble_eq_true rfl) (Nat.le_of_ble_eq_true rfl) rfl (Nat.le_of_ble_eq_true rfl) (show 0 + 0 ≤ 0 by omega) (show 0 + 0 ≤ 0 by omega) (fun v9 f9 n9 hh => ?_)
    obtain ⟨rfl, rfl, rfl⟩ := hh
    refine aw_ald_n C dX8_back_17 rfl ?_
    refine aw_iconst C 0 dX8_back_18 ki_0 ?_
    obtain ⟨f6, hf6, h⟩ := Option.bind_eq_some_iff.mp h
    refine ah_put C gf_X8_123 cf8 nf8_11 rfl rfl hf6 dX8_back_19 ?_
    refine aw_iconst C 1 dX8_back_22 ki_1 ?_
    obtain ⟨hb7, h⟩ := ck_some h
    cases h
    exact aw_iret C rfl (nb_nar hb7) dX8_back_23 (by omega) (by omega) ⟨rfl, rfl, rfl⟩
  · rw [if_pos q] at h
    refine aw_iconst C 0 dX8_back_7 ki_0 ?_
    obtain ⟨hb8, h⟩ := ck_some h
    cases h
    exact aw_iret C rfl (nb_nar hb8) dX8_back_8 (by omega) (by omega) ⟨rfl, rfl, rfl⟩
def mX1_bytesInPieces_b36 (rec4 : Nat → Int32 → Int32 → AH → Nat → Option (Int32 × HpN)) (v0 : Nat) (v2 : Int32) (s0 : Int32) (s1 : Int32) (f : AH) (n : Nat) : Option (Int32 × HpN) := rec4 v0 (s0 + s1) (v2 + (1 : Int32)) f n
set_option maxHeartbeats 1000000 in
theorem rmX1_bytesInPieces_b36 {X : GX} {p : Program} {l : Launch} {e : Env} {s : State} {m : MethodId} {args : Array Value} {below : List Frame} {meth : Method} {c : Code} {r : Int32 × HpN} {rec4 : Nat → Int32 → Int32 → AH → Nat → Option (Int32 × HpN)} {v0 : Nat} {v2 : Int32} {s0 : Int32} {s1 : Int32} {f : AH} {n cells slots : Nat} (C : CC X p l (RM 1 0 0) s m args meth c RX1 cX1_bytesInPieces 4 (some .int)) (Hr4 : ∀ (v0 : Nat) (v1 : Int32) (v2 : Int32) (f : AH) (n cells slots : Nat), cells + 0 ≤ 0 → slots + 0 ≤ 0 → rec4 v0 v1 v2 f n = some r → AW X p l e (RM 1 0 0) s m args below meth c 4 (ZM X below args s 0 0 (QHi r)) f n cells slots 4 [some (.ref v0), some (.int v1), some (.int v2), none] []) (hc : cells + 0 ≤ 0) (hs : slots + 0 ≤ 0) (h : mX1_bytesInPieces_b36 rec4 v0 v2 s0 s1 f n = some r) : AW X p l e (RM 1 0 0) s m args below meth c 4 (ZM X below args s 0 0 (QHi r)) f n cells slots 36 [some (.ref v0), none, some (.int v2), none] [.int s1, .int s0] := by
  have h : rec4 v0 (s0 + s1) (v2 + (1 : Int32)) f n = some r := h
  refine aw_iadd C dX1_bytesInPieces_36 ?_
  refine aw_istore_n C dX1_bytesInPieces_37 (by decide) rfl ?_
  refine aw_nl [some (.ref v0), some (.int (s0 + s1)), some (.int v2), none] rfl ?_
  refine aw_iinc C (v2 + (1 : Int32)) dX1_bytesInPieces_38 rfl (by rw [ki_1]) (by decide) rfl ?_
  refine aw_nl [some (.ref v0), some (.int (s0 + s1)), some (.int (v2 + (1 : Int32))), none] rfl ?_
  refine aw_goto C 4 dX1_bytesInPieces_41 (by decide) ?_
  refine aw_fl [some (.ref v0), some (.int (s0 + s1)), some (.int (v2 + (1 : Int32))), none] ⟨rfl, ⟨rfl, ⟨rfl, trivial⟩⟩⟩ ?_
  exact Hr4 v0 (s0 + s1) (v2 + (1 : Int32)) f n _ _ (by omega) (by omega) h
def mX1_bytesInPieces_l4 : Nat → Nat → Int32 → Int32 → AH → Nat → Option (Int32 × HpN)
  | 0, _, _, _, _, _ => none
  | d + 1, v0, v1, v2, f, n => ((gI f v0 1 3).bind fun x1 => (if x1 ≤ v2 then some (v1, (f, n)) else rCk (isO f v0 1) (((mX1_get v0 v2 f n).bind fun r3 => ((some r3.1).bind fun x5 => (oN x5 (mX1_bytesInPieces_b36 (fun v0 v1 v2 f n => mX1_bytesInPieces_l4 d v0 v1 v2 f n) v0 v2 v1 (0 : Int32) r3.2.1 r3.2.2) (fun j6 => ((gI r3.2.1 j6 3 1).bind fun x7 => ((gI r3.2.1 j6 3 0).bind fun x8 => mX1_bytesInPieces_b36 (fun v0 v1 v2 f n => mX1_bytesInPieces_l4 d v0 v1 v2 f n) v0 v2 v1 (x7 - x8) r3.2.1 r3.2.2)))))))))
set_option maxHeartbeats 1000000 in
theorem rmX1_bytesInPieces_l4 {X : GX} {p : Program} {l : Launch} {e : Env} {s : State} {m : MethodId} {args : Array Value} {below : List Frame} {meth : Method} {c : Code} {r : Int32 × HpN} (C : CC X p l (RM 1 0 0) s m args meth c RX1 cX1_bytesInPieces 4 (some .int)) : ∀ (d : Nat) (v0 : Nat) (v1 : Int32) (v2 : Int32) (f : AH) (n cells slots : Nat) (_ : cells + 0 ≤ 0) (_ : slots + 0 ≤ 0) (_ : mX1_bytesInPieces_l4 d v0 v1 v2 f n = some r), AW X p l e (RM 1 0 0) s m args below meth c 4 (ZM X below args s 0 0 (QHi r)) f n cells slots 4 [some (.ref v0), some (.int v1), some (.int v2), none] [] := by
  intro d
  induction d with
  | zero =>
    intro v0 v1 v2 f n cells slots hc hs h
    exact nomatch (show (none : Option (Int32 × HpN)) = some r from h)
  | succ d ih =>
    intro v0 v1 v2 f n cells slots hc hs h
    have h : ((gI f v0 1 3).bind fun x1 => (if x1 ≤ v2 then some (v1, (f, n)) else rCk (isO f v0 1) (((mX1_get v0 v2 f n).bind fun r3 => ((some r3.1).bind fun x5 => (oN x5 (mX1_bytesInPieces_b36 (fun v0 v1 v2 f n => mX1_bytesInPieces_l4 d v0 v1 v2 f n) v0 v2 v1 (0 : Int32) r3.2.1 r3.2.2) (fun j6 => ((gI r3.2.1 j6 3 1).bind fun x7 => ((gI r3.2.1 j6 3 0).bind fun x8 => mX1_bytesInPieces_b36 (fun v0 v1 v2 f n => mX1_bytesInPieces_l4 d v0 v1 v2 f n) v0 v2 v1 (x7 - x8) r3.2.1 r3.2.2))))))))) = some r := h
    refine aw_iload_n C dX1_bytesInPieces_4 rfl ?_
    refine aw_ald_n C dX1_bytesInPieces_5 rfl ?_
    obtain ⟨x1, hx1, h⟩ := Option.bind_eq_some_iff.mp h
    refine ah_getI C gf_X1_46 hx1 dX1_bytesInPieces_6 ?_
    refine aw_icmp_ge C 44 dX1_bytesInPieces_9 (by decide) (fun q => ?_) (fun q => ?_)
    · rw [if_pos q] at h
      refine aw_iload_n C dX1_bytesInPieces_44 rfl ?_
      cases h
      exact aw_iret C rfl rfl dX1_bytesInPieces_45 (by omega) (by omega) ⟨rfl, rfl, rfl⟩
    · rw [if_neg q] at h
      refine aw_ald_n C dX1_bytesInPieces_12 rfl ?_
      refine aw_iload_n C dX1_bytesInPieces_13 rfl ?_
      obtain ⟨hb2, h⟩ := ck_some h
      obtain ⟨r3, hr3, h⟩ := Option.bind_eq_some_iff.mp h
      obtain ⟨fs4, hf4⟩ := isO_ex hb2
      refine aw_callV C (ci := 1) (b := v0) [.int v2] mv_X1_154 rfl rfl hf4 (rmX1_get hr3) rfl dX1_bytesInPieces_14 (Nat.le_of_ble_eq_true rfl) (Nat.le_of_ble_eq_true rfl) rfl (Nat.le_of_ble_eq_true rfl) (show cells + 0 ≤ 0 by omega) (show slots + 0 ≤ 0 by omega) (fun v9 f9 n9 hh => ?_)
      obtain ⟨rfl, rfl, rfl⟩ := hh
      obtain ⟨x5, hx5, h⟩ := Option.bind_eq_some_iff.mp h
      rw [Option.some.inj hx5]
      refine aw_astore_n C dX1_bytesInPieces_17 (by decide) rfl (rf_or x5) ?_
      refine aw_nl [some (.ref v0), some (.int v1), some (.int v2), some (va_rf x5)] rfl ?_
      refine aw_iload_n C dX1_bytesInPieces_18 rfl ?_
      refine aw_aload_n C dX1_bytesInPieces_19 rfl (rf_or x5) ?_
      cases x5 with
      | none =>
        replace h : mX1_bytesInPieces_b36 (fun v0 v1 v2 f n => mX1_bytesInPieces_l4 d v0 v1 v2 f n) v0 v2 v1 (0 : Int32) r3.2.1 r3.2.2 = some r := h
        refine aw_ifnonnull_n C 27 dX1_bytesInPieces_20 (by decide) ?_
        refine aw_iconst C 0 dX1_bytesInPieces_23 ki_0 ?_
        refine aw_goto C 36 dX1_bytesInPieces_24 (by decide) ?_
        refine aw_fl [some (.ref v0), none, some (.int v2), none] ⟨rfl, ⟨rfl, trivial⟩⟩ ?_
        exact rmX1_bytesInPieces_b36 C (fun v0 v1 v2 f n cells slots hc hs h => ih v0 v1 v2 f n cells slots hc hs h) (by omega) (by omega) h
      | some j6 =>
        replace h : ((gI r3.2.1 j6 3 1).bind fun x7 => ((gI r3.2.1 j6 3 0).bind fun x8 => mX1_bytesInPieces_b36 (fun v0 v1 v2 f n => mX1_bytesInPieces_l4 d v0 v1 v2 f n) v0 v2 v1 (x7 - x8) r3.2.1 r3.2.2)) = some r := h
        refine aw_ifnonnull_r C 27 dX1_bytesInPieces_20 (by decide) ?_
        refine aw_ald_n C dX1_bytesInPieces_27 rfl ?_
        obtain ⟨x7, hx7, h⟩ := Option.bind_eq_some_iff.mp h
        refine ah_getI C gf_X1_129 hx7 dX1_bytesInPieces_28 ?_
        refine aw_ald_n C dX1_bytesInPieces_31 rfl ?_
        obtain ⟨x8, hx8, h⟩ := Option.bind_eq_some_iff.mp h
        refine ah_getI C gf_X1_128 hx8 dX1_bytesInPieces_32 ?_
        refine aw_isub C dX1_bytesInPieces_35 ?_
        refine aw_fl [some (.ref v0), none, some (.int v2), none] ⟨rfl, ⟨rfl, trivial⟩⟩ ?_
        exact rmX1_bytesInPieces_b36 C (fun v0 v1 v2 f n cells slots hc hs h => ih v0 v1 v2 f n cells slots hc hs h) (by omega) (by omega) h
def mX1_bytesInPieces (v0 : Nat) (f : AH) (n : Nat) : Option (Int32 × HpN) := mX1_bytesInPieces_l4 rFU v0 (0 : Int32) (0 : Int32) f n
set_option maxHeartbeats 1000000 in
theorem rmX1_bytesInPieces {X : GX} {l : Launch} {r : Int32 × HpN} {v0 : Nat} {f : AH} {n : Nat} (h : mX1_bytesInPieces v0 f n = some r) : AM X l yX1_bytesInPieces cX1_bytesInPieces 4 (some .int) 1 0 0 [.ref v0] f n (QHi r) := by
  have h : mX1_bytesInPieces_l4 rFU v0 (0 : Int32) (0 : Int32) f n = some r := h
  refine AM.of (by decide +kernel) rfl (Nat.le_of_ble_eq_true rfl) (fun p e s m args below meth c C hnm => ?_)
  refine aw_nl [some (.ref v0), none, none, none] rfl ?_
  refine aw_iconst C 0 dX1_bytesInPieces_0 ki_0 ?_
  refine aw_istore_n C dX1_bytesInPieces_1 (by decide) rfl ?_
  refine aw_nl [some (.ref v0), some (.int (0 : Int32)), none, none] rfl ?_
  refine aw_iconst C 0 dX1_bytesInPieces_2 ki_0 ?_
  refine aw_istore_n C dX1_bytesInPieces_3 (by decide) rfl ?_
  refine aw_nl [some (.ref v0), some (.int (0 : Int32)), some (.int (0 : Int32)), none] rfl ?_
  refine aw_fl [some (.ref v0), some (.int (0 : Int32)), some (.int (0 : Int32)), none] ⟨rfl, ⟨rfl, ⟨rfl, trivial⟩⟩⟩ ?_
  exact rmX1_bytesInPieces_l4 C rFU v0 (0 : Int32) (0 : Int32) f n _ _ (by omega) (by omega) h
def mX1_hasLikeAhead_l2 : Nat → Nat → Int32 → Int32 → AH → Nat → Option (Int32 × HpN)
  | 0, _, _, _, _, _ => none
  | d + 1, v0, v1, v2, f, n => (if v1 ≤ v2 then rCk (rNb (0 : Int32)) (some ((0 : Int32), (f, n))) else rCk (isO f v0 1) (((mX1_areLike v0 v1 v2 f n).bind fun r3 => (if r3.1 = (0 : Int32) then mX1_hasLikeAhead_l2 d v0 v1 (v2 + (1 : Int32)) r3.2.1 r3.2.2 else rCk (rNb (1 : Int32)) (some ((1 : Int32), (r3.2.1, r3.2.2)))))))
set_option maxHeartbeats 1000000 in
theorem rmX1_hasLikeAhead_l2 {X : GX} {p : Program} {l : Launch} {e : Env} {s : State} {m : MethodId} {args : Array Value} {below : List Frame} {meth : Method} {c : Code} {r : Int32 × HpN} (C : CC X p l (RM 3 0 0) s m args meth c RX1 cX1_hasLikeAhead 3 (some .boolean)) : ∀ (d : Nat) (v0 : Nat) (v1 : Int32) (v2 : Int32) (f : AH) (n cells slots : Nat) (_ : cells + 0 ≤ 0) (_ : slots + 0 ≤ 0) (_ : mX1_hasLikeAhead_l2 d v0 v1 v2 f n = some r), AW X p l e (RM 3 0 0) s m args below meth c 3 (ZM X below args s 0 0 (QHi r)) f n cells slots 2 [some (.ref v0), some (.int v1), some (.int v2)] [] := by
  intro d
  induction d with
  | zero =>
    intro v0 v1 v2 f n cells slots hc hs h
    exact nomatch (show (none : Option (Int32 × HpN)) = some r from h)
  | succ d ih =>
    intro v0 v1 v2 f n cells slots hc hs h
    have h : (if v1 ≤ v2 then rCk (rNb (0 : Int32)) (some ((0 : Int32), (f, n))) else rCk (isO f v0 1) (((mX1_areLike v0 v1 v2 f n).bind fun r3 => (if r3.1 = (0 : Int32) then mX1_hasLikeAhead_l2 d v0 v1 (v2 + (1 : Int32)) r3.2.1 r3.2.2 else rCk (rNb (1 : Int32)) (some ((1 : Int32), (r3.2.1, r3.2.2))))))) = some r := h
    refine aw_iload_n C dX1_hasLikeAhead_2 rfl ?_
    refine aw_iload_n C dX1_hasLikeAhead_3 rfl ?_
    refine aw_icmp_ge C 24 dX1_hasLikeAhead_4 (by decide) (fun q => ?_) (fun q => ?_)
    · rw [if_pos q] at h
      refine aw_iconst C 0 dX1_hasLikeAhead_24 ki_0 ?_
      obtain ⟨hb1, h⟩ := ck_some h
      cases h
      exact aw_iret C rfl (nb_nar hb1) dX1_hasLikeAhead_25 (by omega) (by omega) ⟨rfl, rfl, rfl⟩
    · rw [if_neg q] at h
      refine aw_ald_n C dX1_hasLikeAhead_7 rfl ?_
      refine aw_iload_n C dX1_hasLikeAhead_8 rfl ?_
      refine aw_iload_n C dX1_hasLikeAhead_9 rfl ?_
      obtain ⟨hb2, h⟩ := ck_some h
      obtain ⟨r3, hr3, h⟩ := Option.bind_eq_some_iff.mp h
      obtain ⟨fs4, hf4⟩ := isO_ex hb2
      refine aw_callV C (ci := 1) (b := v0) [.int v1, .int v2] mv_X1_161 rfl rfl hf4 (rmX1_areLike hr3) rfl dX1_hasLikeAhead_10 (Nat.le_of_ble_eq_true rfl) (Nat.le_of_ble_eq_true rfl) rfl (Nat.le_of_ble_eq_true rfl) (show cells + 0 ≤ 0 by omega) (show slots + 0 ≤ 0 by omega) (fun v9 f9 n9 hh => ?_)
      obtain ⟨rfl, rfl, rfl⟩ := hh
      refine aw_if_eq C 18 dX1_hasLikeAhead_13 (by decide) (fun q => ?_) (fun q => ?_)
      · rw [if_pos q] at h
        refine aw_iinc C (v2 + (1 : Int32)) dX1_hasLikeAhead_18 rfl (by rw [ki_1]) (by decide) rfl ?_
        refine aw_nl [some (.ref v0), some (.int v1), some (.int (v2 + (1 : Int32)))] rfl ?_
        refine aw_goto C 2 dX1_hasLikeAhead_21 (by decide) ?_
        refine aw_fl [some (.ref v0), some (.int v1), some (.int (v2 + (1 : Int32)))] ⟨rfl, ⟨rfl, ⟨rfl, trivial⟩⟩⟩ ?_
        exact ih v0 v1 (v2 + (1 : Int32)) r3.2.1 r3.2.2 _ _ (by omega) (by omega) h
      · rw [if_neg q] at h
        refine aw_iconst C 1 dX1_hasLikeAhead_16 ki_1 ?_
        obtain ⟨hb5, h⟩ := ck_some h
        cases h
        exact aw_iret C rfl (nb_nar hb5) dX1_hasLikeAhead_17 (by omega) (by omega) ⟨rfl, rfl, rfl⟩
def mX1_hasLikeAhead (v0 : Nat) (v1 : Int32) (f : AH) (n : Nat) : Option (Int32 × HpN) := mX1_hasLikeAhead_l2 rFU v0 v1 (0 : Int32) f n
set_option maxHeartbeats 1000000 in
theorem rmX1_hasLikeAhead {X : GX} {l : Launch} {r : Int32 × HpN} {v0 : Nat} {v1 : Int32} {f : AH} {n : Nat} (h : mX1_hasLikeAhead v0 v1 f n = some r) : AM X l yX1_hasLikeAhead cX1_hasLikeAhead 3 (some .boolean) 3 0 0 [.ref v0, .int v1] f n (QHi r) := by
  have h : mX1_hasLikeAhead_l2 rFU v0 v1 (0 : Int32) f n = some r := h
  refine AM.of (by decide +kernel) rfl (Nat.le_of_ble_eq_true rfl) (fun p e s m args below meth c C hnm => ?_)
  refine aw_nl [some (.ref v0), some (.int v1), none] rfl ?_
  refine aw_iconst C 0 dX1_hasLikeAhead_0 ki_0 ?_
  refine aw_istore_n C dX1_hasLikeAhead_1 (by decide) rfl ?_
  refine aw_nl [some (.ref v0), some (.int v1), some (.int (0 : Int32))] rfl ?_
  refine aw_fl [some (.ref v0), some (.int v1), some (.int (0 : Int32))] ⟨rfl, ⟨rfl, ⟨rfl, trivial⟩⟩⟩ ?_
  exact rmX1_hasLikeAhead_l2 C rFU v0 v1 (0 : Int32) f n _ _ (by omega) (by omega) h
def mX1_unlikeCount_b23 (rec4 : Nat → Int32 → Int32 → AH → Nat → Option (Int32 × HpN)) (v0 : Nat) (v1 : Int32) (v2 : Int32) (f : AH) (n : Nat) : Option (Int32 × HpN) := rec4 v0 v1 (v2 + (1 : Int32)) f n
set_option maxHeartbeats 1000000 in
theorem rmX1_unlikeCount_b23 {X : GX} {p : Program} {l : Launch} {e : Env} {s : State} {m : MethodId} {args : Array Value} {below : List Frame} {meth : Method} {c : Code} {r : Int32 × HpN} {rec4 : Nat → Int32 → Int32 → AH → Nat → Option (Int32 × HpN)} {v0 : Nat} {v1 : Int32} {v2 : Int32} {f : AH} {n cells slots : Nat} (C : CC X p l (RM 4 0 0) s m args meth c RX1 cX1_unlikeCount 3 (some .int)) (Hr4 : ∀ (v0 : Nat) (v1 : Int32) (v2 : Int32) (f : AH) (n cells slots : Nat), cells + 0 ≤ 0 → slots + 0 ≤ 0 → rec4 v0 v1 v2 f n = some r → AW X p l e (RM 4 0 0) s m args below meth c 3 (ZM X below args s 0 0 (QHi r)) f n cells slots 4 [some (.ref v0), some (.int v1), some (.int v2)] []) (hc : cells + 0 ≤ 0) (hs : slots + 0 ≤ 0) (h : mX1_unlikeCount_b23 rec4 v0 v1 v2 f n = some r) : AW X p l e (RM 4 0 0) s m args below meth c 3 (ZM X below args s 0 0 (QHi r)) f n cells slots 23 [some (.ref v0), some (.int v1), some (.int v2)] [] := by
  have h : rec4 v0 v1 (v2 + (1 : Int32)) f n = some r := h
  refine aw_iinc C (v2 + (1 : Int32)) dX1_unlikeCount_23 rfl (by rw [ki_1]) (by decide) rfl ?_
  refine aw_nl [some (.ref v0), some (.int v1), some (.int (v2 + (1 : Int32)))] rfl ?_
  refine aw_goto C 4 dX1_unlikeCount_26 (by decide) ?_
  refine aw_fl [some (.ref v0), some (.int v1), some (.int (v2 + (1 : Int32)))] ⟨rfl, ⟨rfl, ⟨rfl, trivial⟩⟩⟩ ?_
  exact Hr4 v0 v1 (v2 + (1 : Int32)) f n _ _ (by omega) (by omega) h
def mX1_unlikeCount_l4 : Nat → Nat → Int32 → Int32 → AH → Nat → Option (Int32 × HpN)
  | 0, _, _, _, _, _ => none
  | d + 1, v0, v1, v2, f, n => ((gI f v0 1 3).bind fun x1 => (if x1 ≤ v2 then some (v1, (f, n)) else rCk (isO f v0 1) (((mX1_hasLikeAhead v0 v2 f n).bind fun r3 => (if r3.1 = (0 : Int32) then mX1_unlikeCount_b23 (fun v0 v1 v2 f n => mX1_unlikeCount_l4 d v0 v1 v2 f n) v0 (v1 + (1 : Int32)) v2 r3.2.1 r3.2.2 else mX1_unlikeCount_b23 (fun v0 v1 v2 f n => mX1_unlikeCount_l4 d v0 v1 v2 f n) v0 v1 v2 r3.2.1 r3.2.2)))))
set_option maxHeartbeats 1000000 in
theorem rmX1_unlikeCount_l4 {X : GX} {p : Program} {l : Launch} {e : Env} {s : State} {m : MethodId} {args : Array Value} {below : List Frame} {meth : Method} {c : Code} {r : Int32 × HpN} (C : CC X p l (RM 4 0 0) s m args meth c RX1 cX1_unlikeCount 3 (some .int)) : ∀ (d : Nat) (v0 : Nat) (v1 : Int32) (v2 : Int32) (f : AH) (n cells slots : Nat) (_ : cells + 0 ≤ 0) (_ : slots + 0 ≤ 0) (_ : mX1_unlikeCount_l4 d v0 v1 v2 f n = some r), AW X p l e (RM 4 0 0) s m args below meth c 3 (ZM X below args s 0 0 (QHi r)) f n cells slots 4 [some (.ref v0), some (.int v1), some (.int v2)] [] := by
  intro d
  induction d with
  | zero =>
    intro v0 v1 v2 f n cells slots hc hs h
    exact nomatch (show (none : Option (Int32 × HpN)) = some r from h)
  | succ d ih =>
    intro v0 v1 v2 f n cells slots hc hs h
    have h : ((gI f v0 1 3).bind fun x1 => (if x1 ≤ v2 then some (v1, (f, n)) else rCk (isO f v0 1) (((mX1_hasLikeAhead v0 v2 f n).bind fun r3 => (if r3.1 = (0 : Int32) then mX1_unlikeCount_b23 (fun v0 v1 v2 f n => mX1_unlikeCount_l4 d v0 v1 v2 f n) v0 (v1 + (1 : Int32)) v2 r3.2.1 r3.2.2 else mX1_unlikeCount_b23 (fun v0 v1 v2 f n => mX1_unlikeCount_l4 d v0 v1 v2 f n) v0 v1 v2 r3.2.1 r3.2.2))))) = some r := h
    refine aw_iload_n C dX1_unlikeCount_4 rfl ?_
    refine aw_ald_n C dX1_unlikeCount_5 rfl ?_
    obtain ⟨x1, hx1, h⟩ := Option.bind_eq_some_iff.mp h
    refine ah_getI C gf_X1_46 hx1 dX1_unlikeCount_6 ?_
    refine aw_icmp_ge C 29 dX1_unlikeCount_9 (by decide) (fun q => ?_) (fun q => ?_)
    · rw [if_pos q] at h
      refine aw_iload_n C dX1_unlikeCount_29 rfl ?_
      cases h
      exact aw_iret C rfl rfl dX1_unlikeCount_30 (by omega) (by omega) ⟨rfl, rfl, rfl⟩
    · rw [if_neg q] at h
      refine aw_ald_n C dX1_unlikeCount_12 rfl ?_
      refine aw_iload_n C dX1_unlikeCount_13 rfl ?_
      obtain ⟨hb2, h⟩ := ck_some h
      obtain ⟨r3, hr3, h⟩ := Option.bind_eq_some_iff.mp h
      obtain ⟨fs4, hf4⟩ := isO_ex hb2
      refine aw_callV C (ci := 1) (b := v0) [.int v2] mv_X1_165 rfl rfl hf4 (rmX1_hasLikeAhead hr3) rfl dX1_unlikeCount_14 (Nat.le_of_ble_eq_true rfl) (Nat.le_of_ble_eq_true rfl) rfl (Nat.le_of_ble_eq_true rfl) (show cells + 0 ≤ 0 by omega) (show slots + 0 ≤ 0 by omega) (fun v9 f9 n9 hh => ?_)
      obtain ⟨rfl, rfl, rfl⟩ := hh
      refine aw_if_ne C 23 dX1_unlikeCount_17 (by decide) (fun q => ?_) (fun q => ?_)
      · rw [if_neg q] at h
        refine aw_fl [some (.ref v0), some (.int v1), some (.int v2)] ⟨rfl, ⟨rfl, ⟨rfl, trivial⟩⟩⟩ ?_
        exact rmX1_unlikeCount_b23 C (fun v0 v1 v2 f n cells slots hc hs h => ih v0 v1 v2 f n cells slots hc hs h) (by omega) (by omega) h
      · rw [if_pos q] at h
        refine aw_iinc C (v1 + (1 : Int32)) dX1_unlikeCount_20 rfl (by rw [ki_1]) (by decide) rfl ?_
        refine aw_nl [some (.ref v0), some (.int (v1 + (1 : Int32))), some (.int v2)] rfl ?_
        refine aw_fl [some (.ref v0), some (.int (v1 + (1 : Int32))), some (.int v2)] ⟨rfl, ⟨rfl, ⟨rfl, trivial⟩⟩⟩ ?_
        exact rmX1_unlikeCount_b23 C (fun v0 v1 v2 f n cells slots hc hs h => ih v0 v1 v2 f n cells slots hc hs h) (by omega) (by omega) h
def mX1_unlikeCount (v0 : Nat) (f : AH) (n : Nat) : Option (Int32 × HpN) := mX1_unlikeCount_l4 rFU v0 (0 : Int32) (0 : Int32) f n
set_option maxHeartbeats 1000000 in
theorem rmX1_unlikeCount {X : GX} {l : Launch} {r : Int32 × HpN} {v0 : Nat} {f : AH} {n : Nat} (h : mX1_unlikeCount v0 f n = some r) : AM X l yX1_unlikeCount cX1_unlikeCount 3 (some .int) 4 0 0 [.ref v0] f n (QHi r) := by
  have h : mX1_unlikeCount_l4 rFU v0 (0 : Int32) (0 : Int32) f n = some r := h
  refine AM.of (by decide +kernel) rfl (Nat.le_of_ble_eq_true rfl) (fun p e s m args below meth c C hnm => ?_)
  refine aw_nl [some (.ref v0), none, none] rfl ?_
  refine aw_iconst C 0 dX1_unlikeCount_0 ki_0 ?_
  refine aw_istore_n C dX1_unlikeCount_1 (by decide) rfl ?_
  refine aw_nl [some (.ref v0), some (.int (0 : Int32)), none] rfl ?_
  refine aw_iconst C 0 dX1_unlikeCount_2 ki_0 ?_
  refine aw_istore_n C dX1_unlikeCount_3 (by decide) rfl ?_
  refine aw_nl [some (.ref v0), some (.int (0 : Int32)), some (.int (0 : Int32))] rfl ?_
  refine aw_fl [some (.ref v0), some (.int (0 : Int32)), some (.int (0 : Int32))] ⟨rfl, ⟨rfl, ⟨rfl, trivial⟩⟩⟩ ?_
  exact rmX1_unlikeCount_l4 C rFU v0 (0 : Int32) (0 : Int32) f n _ _ (by omega) (by omega) h
def mX5_countWords_b40 (rec8 : Nat → Int32 → Int32 → Int32 → Int32 → Int32 → AH → Nat → Option (Int32 × HpN)) (v0 : Nat) (v1 : Int32) (v2 : Int32) (v3 : Int32) (v5 : Int32) (v6 : Int32) (f : AH) (n : Nat) : Option (Int32 × HpN) := rec8 v0 v1 v2 v3 v6 (v5 + (1 : Int32)) f n
set_option maxHeartbeats 1000000 in
theorem rmX5_countWords_b40 {X : GX} {p : Program} {l : Launch} {e : Env} {s : State} {m : MethodId} {args : Array Value} {below : List Frame} {meth : Method} {c : Code} {r : Int32 × HpN} {rec8 : Nat → Int32 → Int32 → Int32 → Int32 → Int32 → AH → Nat → Option (Int32 × HpN)} {v0 : Nat} {v1 : Int32} {v2 : Int32} {v3 : Int32} {v5 : Int32} {v6 : Int32} {f : AH} {n cells slots : Nat} (C : CC X p l (RM 1 0 0) s m args meth c RX5 cX5_countWords 7 (some .int)) (Hr8 : ∀ (v0 : Nat) (v1 : Int32) (v2 : Int32) (v3 : Int32) (v4 : Int32) (v5 : Int32) (f : AH) (n cells slots : Nat), cells + 0 ≤ 0 → slots + 0 ≤ 0 → rec8 v0 v1 v2 v3 v4 v5 f n = some r → AW X p l e (RM 1 0 0) s m args below meth c 7 (ZM X below args s 0 0 (QHi r)) f n cells slots 8 [some (.ref v0), some (.int v1), some (.int v2), some (.int v3), some (.int v4), some (.int v5), none] []) (hc : cells + 0 ≤ 0) (hs : slots + 0 ≤ 0) (h : mX5_countWords_b40 rec8 v0 v1 v2 v3 v5 v6 f n = some r) : AW X p l e (RM 1 0 0) s m args below meth c 7 (ZM X below args s 0 0 (QHi r)) f n cells slots 40 [some (.ref v0), some (.int v1), some (.int v2), some (.int v3), none, some (.int v5), some (.int v6)] [] := by
  have h : rec8 v0 v1 v2 v3 v6 (v5 + (1 : Int32)) f n = some r := h
  refine aw_iload C dX5_countWords_40 rfl ?_
  refine aw_istore C dX5_countWords_42 (by decide) rfl ?_
  refine aw_nl [some (.ref v0), some (.int v1), some (.int v2), some (.int v3), some (.int v6), some (.int v5), some (.int v6)] rfl ?_
  refine aw_iinc C (v5 + (1 : Int32)) dX5_countWords_44 rfl (by rw [ki_1]) (by decide) rfl ?_
  refine aw_nl [some (.ref v0), some (.int v1), some (.int v2), some (.int v3), some (.int v6), some (.int (v5 + (1 : Int32))), some (.int v6)] rfl ?_
  refine aw_goto C 8 dX5_countWords_47 (by decide) ?_
  refine aw_fl [some (.ref v0), some (.int v1), some (.int v2), some (.int v3), some (.int v6), some (.int (v5 + (1 : Int32))), none] ⟨rfl, ⟨rfl, ⟨rfl, ⟨rfl, ⟨rfl, ⟨rfl, trivial⟩⟩⟩⟩⟩⟩ ?_
  exact Hr8 v0 v1 v2 v3 v6 (v5 + (1 : Int32)) f n _ _ (by omega) (by omega) h
def mX5_countWords_l8 : Nat → Nat → Int32 → Int32 → Int32 → Int32 → Int32 → AH → Nat → Option (Int32 × HpN)
  | 0, _, _, _, _, _, _, _, _ => none
  | d + 1, v0, v1, v2, v3, v4, v5, f, n => (if (v1 + v2) ≤ v5 then some (v3, (f, n)) else rCk (isO f v0 5) (((mX5_get v0 v5 f n).bind fun r2 => ((mX8_isLetter r2.1 r2.2.1 r2.2.2).bind fun r4 => (if r4.1 = (0 : Int32) then mX5_countWords_b40 (fun v0 v1 v2 v3 v4 v5 f n => mX5_countWords_l8 d v0 v1 v2 v3 v4 v5 f n) v0 v1 v2 v3 v5 r4.1 r4.2.1 r4.2.2 else (if v4 = (0 : Int32) then mX5_countWords_b40 (fun v0 v1 v2 v3 v4 v5 f n => mX5_countWords_l8 d v0 v1 v2 v3 v4 v5 f n) v0 v1 v2 (v3 + (1 : Int32)) v5 r4.1 r4.2.1 r4.2.2 else mX5_countWords_b40 (fun v0 v1 v2 v3 v4 v5 f n => mX5_countWords_l8 d v0 v1 v2 v3 v4 v5 f n) v0 v1 v2 v3 v5 r4.1 r4.2.1 r4.2.2))))))
set_option maxHeartbeats 1000000 in
theorem rmX5_countWords_l8 {X : GX} {p : Program} {l : Launch} {e : Env} {s : State} {m : MethodId} {args : Array Value} {below : List Frame} {meth : Method} {c : Code} {r : Int32 × HpN} (C : CC X p l (RM 1 0 0) s m args meth c RX5 cX5_countWords 7 (some .int)) : ∀ (d : Nat) (v0 : Nat) (v1 : Int32) (v2 : Int32) (v3 : Int32) (v4 : Int32) (v5 : Int32) (f : AH) (n cells slots : Nat) (_ : cells + 0 ≤ 0) (_ : slots + 0 ≤ 0) (_ : mX5_countWords_l8 d v0 v1 v2 v3 v4 v5 f n = some r), AW X p l e (RM 1 0 0) s m args below meth c 7 (ZM X below args s 0 0 (QHi r)) f n cells slots 8 [some (.ref v0), some (.int v1), some (.int v2), some (.int v3), some (.int v4), some (.int v5), none] [] := by
  intro d
  induction d with
  | zero =>
    intro v0 v1 v2 v3 v4 v5 f n cells slots hc hs h
    exact nomatch (show (none : Option (Int32 × HpN)) = some r from h)
  | succ d ih =>
    intro v0 v1 v2 v3 v4 v5 f n cells slots hc hs h
    have h : (if (v1 + v2) ≤ v5 then some (v3, (f, n)) else rCk (isO f v0 5) (((mX5_get v0 v5 f n).bind fun r2 => ((mX8_isLetter r2.1 r2.2.1 r2.2.2).bind fun r4 => (if r4.1 = (0 : Int32) then mX5_countWords_b40 (fun v0 v1 v2 v3 v4 v5 f n => mX5_countWords_l8 d v0 v1 v2 v3 v4 v5 f n) v0 v1 v2 v3 v5 r4.1 r4.2.1 r4.2.2 else (if v4 = (0 : Int32) then mX5_countWords_b40 (fun v0 v1 v2 v3 v4 v5 f n => mX5_countWords_l8 d v0 v1 v2 v3 v4 v5 f n) v0 v1 v2 (v3 + (1 : Int32)) v5 r4.1 r4.2.1 r4.2.2 else mX5_countWords_b40 (fun v0 v1 v2 v3 v4 v5 f n => mX5_countWords_l8 d v0 v1 v2 v3 v4 v5 f n) v0 v1 v2 v3 v5 r4.1 r4.2.1 r4.2.2)))))) = some r := h
    refine aw_iload C dX5_countWords_8 rfl ?_
    refine aw_iload_n C dX5_countWords_10 rfl ?_
    refine aw_iload_n C dX5_countWords_11 rfl ?_
    refine aw_iadd C dX5_countWords_12 ?_
    refine aw_icmp_ge C 50 dX5_countWords_13 (by decide) (fun q => ?_) (fun q => ?_)
    · rw [if_pos q] at h
      refine aw_iload_n C dX5_countWords_50 rfl ?_
      cases h
      exact aw_iret C rfl rfl dX5_countWords_51 (by omega) (by omega) ⟨rfl, rfl, rfl⟩
    · rw [if_neg q] at h
      refine aw_ald_n C dX5_countWords_16 rfl ?_
      refine aw_iload C dX5_countWords_17 rfl ?_
      obtain ⟨hb1, h⟩ := ck_some h
      obtain ⟨r2, hr2, h⟩ := Option.bind_eq_some_iff.mp h
      obtain ⟨fs3, hf3⟩ := isO_ex hb1
      refine aw_callV C (ci := 5) (b := v0) [.int v5] mv_X5_19 rfl rfl hf3 (rmX5_get hr2) rfl dX5_countWords_19 (Nat.le_of_ble_eq_true rfl) (Nat.le_of_ble_eq_true rfl) rfl (Nat.le_of_ble_eq_true rfl) (show cells + 0 ≤ 0 by omega) (show slots + 0 ≤ 0 by omega) (fun v9 f9 n9 hh => ?_)
      obtain ⟨rfl, rfl, rfl⟩ := hh
      obtain ⟨r4, hr4, h⟩ := Option.bind_eq_some_iff.mp h
      refine aw_callSN C [.int r2.1] mn_X5_34 mnS_X5_34 (rmX8_isLetter hr4) rfl dX5_countWords_22 (Nat.le_of_ble_eq_true rfl) (Nat.le_of_ble_eq_true rfl) rfl (Nat.le_of_ble_eq_true rfl) (show (cells + 0) + 0 ≤ 0 by omega) (show (slots + 0) + 0 ≤ 0 by omega) (fun v9 f9 n9 hh => ?_)
      obtain ⟨rfl, rfl, rfl⟩ := hh
      refine aw_istore C dX5_countWords_25 (by decide) rfl ?_
      refine aw_nl [some (.ref v0), some (.int v1), some (.int v2), some (.int v3), some (.int v4), some (.int v5), some (.int r4.1)] rfl ?_
      refine aw_iload C dX5_countWords_27 rfl ?_
      refine aw_if_eq C 40 dX5_countWords_29 (by decide) (fun q => ?_) (fun q => ?_)
      · rw [if_pos q] at h
        refine aw_fl [some (.ref v0), some (.int v1), some (.int v2), some (.int v3), none, some (.int v5), some (.int r4.1)] ⟨rfl, ⟨rfl, ⟨rfl, ⟨rfl, ⟨rfl, ⟨rfl, trivial⟩⟩⟩⟩⟩⟩ ?_
        exact rmX5_countWords_b40 C (fun v0 v1 v2 v3 v4 v5 f n cells slots hc hs h => ih v0 v1 v2 v3 v4 v5 f n cells slots hc hs h) (by omega) (by omega) h
      · rw [if_neg q] at h
        refine aw_iload C dX5_countWords_32 rfl ?_
        refine aw_if_ne C 40 dX5_countWords_34 (by decide) (fun q => ?_) (fun q => ?_)
        · rw [if_neg q] at h
          refine aw_fl [some (.ref v0), some (.int v1), some (.int v2), some (.int v3), none, some (.int v5), some (.int r4.1)] ⟨rfl, ⟨rfl, ⟨rfl, ⟨rfl, ⟨rfl, ⟨rfl, trivial⟩⟩⟩⟩⟩⟩ ?_
          exact rmX5_countWords_b40 C (fun v0 v1 v2 v3 v4 v5 f n cells slots hc hs h => ih v0 v1 v2 v3 v4 v5 f n cells slots hc hs h) (by omega) (by omega) h
        · rw [if_pos q] at h
          refine aw_iinc C (v3 + (1 : Int32)) dX5_countWords_37 rfl (by rw [ki_1]) (by decide) rfl ?_
          refine aw_nl [some (.ref v0), some (.int v1), some (.int v2), some (.int (v3 + (1 : Int32))), some (.int v4), some (.int v5), some (.int r4.1)] rfl ?_
          refine aw_fl [some (.ref v0), some (.int v1), some (.int v2), some (.int (v3 + (1 : Int32))), none, some (.int v5), some (.int r4.1)] ⟨rfl, ⟨rfl, ⟨rfl, ⟨rfl, ⟨rfl, ⟨rfl, trivial⟩⟩⟩⟩⟩⟩ ?_
          exact rmX5_countWords_b40 C (fun v0 v1 v2 v3 v4 v5 f n cells slots hc hs h => ih v0 v1 v2 v3 v4 v5 f n cells slots hc hs h) (by omega) (by omega) h
def mX5_countWords (v0 : Nat) (v1 : Int32) (v2 : Int32) (f : AH) (n : Nat) : Option (Int32 × HpN) := mX5_countWords_l8 rFU v0 v1 v2 (0 : Int32) (0 : Int32) v1 f n
set_option maxHeartbeats 1000000 in
theorem rmX5_countWords {X : GX} {l : Launch} {r : Int32 × HpN} {v0 : Nat} {v1 : Int32} {v2 : Int32} {f : AH} {n : Nat} (h : mX5_countWords v0 v1 v2 f n = some r) : AM X l yX5_countWords cX5_countWords 7 (some .int) 1 0 0 [.ref v0, .int v1, .int v2] f n (QHi r) := by
  have h : mX5_countWords_l8 rFU v0 v1 v2 (0 : Int32) (0 : Int32) v1 f n = some r := h
  refine AM.of (by decide +kernel) rfl (Nat.le_of_ble_eq_true rfl) (fun p e s m args below meth c C hnm => ?_)
  refine aw_nl [some (.ref v0), some (.int v1), some (.int v2), none, none, none, none] rfl ?_
  refine aw_iconst C 0 dX5_countWords_0 ki_0 ?_
  refine aw_istore_n C dX5_countWords_1 (by decide) rfl ?_
  refine aw_nl [some (.ref v0), some (.int v1), some (.int v2), some (.int (0 : Int32)), none, none, none] rfl ?_
  refine aw_iconst C 0 dX5_countWords_2 ki_0 ?_
  refine aw_istore C dX5_countWords_3 (by decide) rfl ?_
  refine aw_nl [some (.ref v0), some (.int v1), some (.int v2), some (.int (0 : Int32)), some (.int (0 : Int32)), none, none] rfl ?_
  refine aw_iload_n C dX5_countWords_5 rfl ?_
  refine aw_istore C dX5_countWords_6 (by decide) rfl ?_
  refine aw_nl [some (.ref v0), some (.int v1), some (.int v2), some (.int (0 : Int32)), some (.int (0 : Int32)), some (.int v1), none] rfl ?_
  refine aw_fl [some (.ref v0), some (.int v1), some (.int v2), some (.int (0 : Int32)), some (.int (0 : Int32)), some (.int v1), none] ⟨rfl, ⟨rfl, ⟨rfl, ⟨rfl, ⟨rfl, ⟨rfl, trivial⟩⟩⟩⟩⟩⟩ ?_
  exact rmX5_countWords_l8 C rFU v0 v1 v2 (0 : Int32) (0 : Int32) v1 f n _ _ (by omega) (by omega) h
def mX8_countWords_b43 (s0 : Int32) (f : AH) (n : Nat) : Option (Int32 × HpN) := some (s0, (f, n))
set_option maxHeartbeats 1000000 in
theorem rmX8_countWords_b43 {X : GX} {p : Program} {l : Launch} {e : Env} {s : State} {m : MethodId} {args : Array Value} {below : List Frame} {meth : Method} {c : Code} {r : Int32 × HpN} {s0 : Int32} {f : AH} {n cells slots : Nat} (C : CC X p l (RM 2 0 0) s m args meth c RX8 cX8_countWords 4 (some .int)) (hc : cells + 0 ≤ 0) (hs : slots + 0 ≤ 0) (h : mX8_countWords_b43 s0 f n = some r) : AW X p l e (RM 2 0 0) s m args below meth c 4 (ZM X below args s 0 0 (QHi r)) f n cells slots 43 [none, none, none, none] [.int s0] := by
  have h : some (s0, (f, n)) = some r := h
  cases h
  exact aw_iret C rfl rfl dX8_countWords_43 (by omega) (by omega) ⟨rfl, rfl, rfl⟩
def mX8_countWords (v0 : Nat) (v1 : Int32) (v2 : Option Nat) (f : AH) (n : Nat) : Option (Int32 × HpN) := ((gR f v0 8 1).bind fun x1 => ((x1).bind fun j2 => rCk (isO f j2 7) (((mX7_toldFor j2 v1 f n).bind fun r4 => ((some r4.1).bind fun x6 => (oN x6 (((gR r4.2.1 v0 8 5).bind fun x8 => ((x8).bind fun j9 => ((gR r4.2.1 j9 1 0).bind fun x10 => ((v2).bind fun j11 => ((gI r4.2.1 j11 3 2).bind fun x12 => ((gI r4.2.1 j11 3 3).bind fun x13 => ((x10).bind fun j14 => rCk (isO r4.2.1 j14 5) (((mX5_countWords j14 x12 x13 r4.2.1 r4.2.2).bind fun r16 => mX8_countWords_b43 r16.1 r16.2.1 r16.2.2)))))))))) (fun j7 => rCk (isO r4.2.1 j7 5) (((mX5_size j7 r4.2.1 r4.2.2).bind fun r19 => rCk (isO r19.2.1 j7 5) (((mX5_countWords j7 (0 : Int32) r19.1 r19.2.1 r19.2.2).bind fun r22 => mX8_countWords_b43 r22.1 r22.2.1 r22.2.2)))))))))))
set_option maxHeartbeats 1000000 in
theorem rmX8_countWords {X : GX} {l : Launch} {r : Int32 × HpN} {v0 : Nat} {v1 : Int32} {v2 : Option Nat} {f : AH} {n : Nat} (h : mX8_countWords v0 v1 v2 f n = some r) : AM X l yX8_countWords cX8_countWords 4 (some .int) 2 0 0 [.ref v0, .int v1, va_rf v2] f n (QHi r) := by
  have h : ((gR f v0 8 1).bind fun x1 => ((x1).bind fun j2 => rCk (isO f j2 7) (((mX7_toldFor j2 v1 f n).bind fun r4 => ((some r4.1).bind fun x6 => (oN x6 (((gR r4.2.1 v0 8 5).bind fun x8 => ((x8).bind fun j9 => ((gR r4.2.1 j9 1 0).bind fun x10 => ((v2).bind fun j11 => ((gI r4.2.1 j11 3 2).bind fun x12 => ((gI r4.2.1 j11 3 3).bind fun x13 => ((x10).bind fun j14 => rCk (isO r4.2.1 j14 5) (((mX5_countWords j14 x12 x13 r4.2.1 r4.2.2).bind fun r16 => mX8_countWords_b43 r16.1 r16.2.1 r16.2.2)))))))))) (fun j7 => rCk (isO r4.2.1 j7 5) (((mX5_size j7 r4.2.1 r4.2.2).bind fun r19 => rCk (isO r19.2.1 j7 5) (((mX5_countWords j7 (0 : Int32) r19.1 r19.2.1 r19.2.2).bind fun r22 => mX8_countWords_b43 r22.1 r22.2.1 r22.2.2))))))))))) = some r := h
  refine AM.of (by decide +kernel) (all1 rfl (all1 rfl (all1 (rf_cat _) rfl))) (Nat.le_of_ble_eq_true rfl) (fun p e s m args below meth c C hnm => ?_)
  refine aw_nl [some (.ref v0), some (.int v1), some (va_rf v2), none] rfl ?_
  refine aw_ald_n C dX8_countWords_0 rfl ?_
  obtain ⟨x1, hx1, h⟩ := Option.bind_eq_some_iff.mp h
  refine ah_getR C gf_X8_21 hx1 dX8_countWords_1 ?_
  refine aw_iload_n C dX8_countWords_4 rfl ?_
  obtain ⟨j2, hj2, h⟩ := Option.bind_eq_some_iff.mp h
  rw [hj2]
  obtain ⟨hb3, h⟩ := ck_some h
  obtain ⟨r4, hr4, h⟩ := Option.bind_eq_some_iff.mp h
  obtain ⟨fs5, hf5⟩ := isO_ex hb3
  refine aw_callV C (ci := 7) (b := j2) [.int v1] mv_X8_194 rfl rfl hf5 (rmX7_toldFor hr4) rfl dX8_countWords_5 (Nat.le_of_ble_eq_true rfl) (Nat.le_of_ble_eq_true rfl) rfl (Nat.le_of_ble_eq_true rfl) (show 0 + 0 ≤ 0 by omega) (show 0 + 0 ≤ 0 by omega) (fun v9 f9 n9 hh => ?_)
  obtain ⟨rfl, rfl, rfl⟩ := hh
  obtain ⟨x6, hx6, h⟩ := Option.bind_eq_some_iff.mp h
  rw [Option.some.inj hx6]
  refine aw_astore_n C dX8_countWords_8 (by decide) (ok_rf 2 rfl) (rf_or x6) ?_
  refine aw_nl [some (.ref v0), some (.int v1), some (va_rf v2), some (va_rf x6)] rfl ?_
  refine aw_aload_n C dX8_countWords_9 rfl (rf_or x6) ?_
  cases x6 with
  | none =>
    replace h : ((gR r4.2.1 v0 8 5).bind fun x8 => ((x8).bind fun j9 => ((gR r4.2.1 j9 1 0).bind fun x10 => ((v2).bind fun j11 => ((gI r4.2.1 j11 3 2).bind fun x12 => ((gI r4.2.1 j11 3 3).bind fun x13 => ((x10).bind fun j14 => rCk (isO r4.2.1 j14 5) (((mX5_countWords j14 x12 x13 r4.2.1 r4.2.2).bind fun r16 => mX8_countWords_b43 r16.1 r16.2.1 r16.2.2))))))))) = some r := h
    refine aw_ifnonnull_n C 34 dX8_countWords_10 (by decide) ?_
    refine aw_ald_n C dX8_countWords_13 rfl ?_
    obtain ⟨x8, hx8, h⟩ := Option.bind_eq_some_iff.mp h
    refine ah_getR C gf_X8_38 hx8 dX8_countWords_14 ?_
    obtain ⟨j9, hj9, h⟩ := Option.bind_eq_some_iff.mp h
    rw [hj9]
    obtain ⟨x10, hx10, h⟩ := Option.bind_eq_some_iff.mp h
    refine ah_getR C gf_X8_373 hx10 dX8_countWords_17 ?_
    refine aw_aload_n C dX8_countWords_20 rfl (rf_or v2) ?_
    obtain ⟨j11, hj11, h⟩ := Option.bind_eq_some_iff.mp h
    rw [hj11]
    obtain ⟨x12, hx12, h⟩ := Option.bind_eq_some_iff.mp h
    refine ah_getI C gf_X8_224 hx12 dX8_countWords_21 ?_
    refine aw_ald_n C dX8_countWords_24 rfl ?_
    obtain ⟨x13, hx13, h⟩ := Option.bind_eq_some_iff.mp h
    refine ah_getI C gf_X8_187 hx13 dX8_countWords_25 ?_
    obtain ⟨j14, hj14, h⟩ := Option.bind_eq_some_iff.mp h
    rw [hj14]
    obtain ⟨hb15, h⟩ := ck_some h
    obtain ⟨r16, hr16, h⟩ := Option.bind_eq_some_iff.mp h
    obtain ⟨fs17, hf17⟩ := isO_ex hb15
    refine aw_callV C (ci := 5) (b := j14) [.int x12, .int x13] mv_X8_386 rfl rfl hf17 (rmX5_countWords hr16) rfl dX8_countWords_28 (Nat.le_of_ble_eq_true rfl) (Nat.le_of_ble_eq_true rfl) rfl (Nat.le_of_ble_eq_true rfl) (show (0 + 0) + 0 ≤ 0 by omega) (show (0 + 0) + 0 ≤ 0 by omega) (fun v9 f9 n9 hh => ?_)
    obtain ⟨rfl, rfl, rfl⟩ := hh
    refine aw_goto C 43 dX8_countWords_31 (by decide) ?_
    refine aw_fl [none, none, none, none] trivial ?_
    exact rmX8_countWords_b43 C (by omega) (by omega) h
  | some j7 =>
    replace h : rCk (isO r4.2.1 j7 5) (((mX5_size j7 r4.2.1 r4.2.2).bind fun r19 => rCk (isO r19.2.1 j7 5) (((mX5_countWords j7 (0 : Int32) r19.1 r19.2.1 r19.2.2).bind fun r22 => mX8_countWords_b43 r22.1 r22.2.1 r22.2.2)))) = some r := h
    refine aw_ifnonnull_r C 34 dX8_countWords_10 (by decide) ?_
    refine aw_ald_n C dX8_countWords_34 rfl ?_
    refine aw_iconst C 0 dX8_countWords_35 ki_0 ?_
    refine aw_ald_n C dX8_countWords_36 rfl ?_
    obtain ⟨hb18, h⟩ := ck_some h
    obtain ⟨r19, hr19, h⟩ := Option.bind_eq_some_iff.mp h
    obtain ⟨fs20, hf20⟩ := isO_ex hb18
    refine aw_callV C (ci := 5) (b := j7) [] mv_X8_63 rfl rfl hf20 (rmX5_size hr19) rfl dX8_countWords_37 (Nat.le_of_ble_eq_true rfl) (Nat.le_of_ble_eq_true rfl) rfl (Nat.le_of_ble_eq_true rfl) (show (0 + 0) + 0 ≤ 0 by omega) (show (0 + 0) + 0 ≤ 0 by omega) (fun v9 f9 n9 hh => ?_)
    obtain ⟨rfl, rfl, rfl⟩ := hh
    obtain ⟨hb21, h⟩ := ck_some h
    obtain ⟨r22, hr22, h⟩ := Option.bind_eq_some_iff.mp h
    obtain ⟨fs23, hf23⟩ := isO_ex hb21
    refine aw_callV C (ci := 5) (b := j7) [.int (0 : Int32), .int r19.1] mv_X8_386 rfl rfl hf23 (rmX5_countWords hr22) rfl dX8_countWords_40 (Nat.le_of_ble_eq_true rfl) (Nat.le_of_ble_eq_true rfl) rfl (Nat.le_of_ble_eq_true rfl) (show ((0 + 0) + 0) + 0 ≤ 0 by omega) (show ((0 + 0) + 0) + 0 ≤ 0 by omega) (fun v9 f9 n9 hh => ?_)
    obtain ⟨rfl, rfl, rfl⟩ := hh
    refine aw_fl [none, none, none, none] trivial ?_
    exact rmX8_countWords_b43 C (by omega) (by omega) h
def mX8_countAllWords_b37 (rec4 : Nat → Int32 → Int32 → AH → Nat → Option (Int32 × HpN)) (v0 : Nat) (v1 : Int32) (v2 : Int32) (f : AH) (n : Nat) : Option (Int32 × HpN) := rec4 v0 v1 (v2 + (1 : Int32)) f n
set_option maxHeartbeats 1000000 in
theorem rmX8_countAllWords_b37 {X : GX} {p : Program} {l : Launch} {e : Env} {s : State} {m : MethodId} {args : Array Value} {below : List Frame} {meth : Method} {c : Code} {r : Int32 × HpN} {rec4 : Nat → Int32 → Int32 → AH → Nat → Option (Int32 × HpN)} {v0 : Nat} {v1 : Int32} {v2 : Int32} {f : AH} {n cells slots : Nat} (C : CC X p l (RM 3 0 0) s m args meth c RX8 cX8_countAllWords 4 (some .int)) (Hr4 : ∀ (v0 : Nat) (v1 : Int32) (v2 : Int32) (f : AH) (n cells slots : Nat), cells + 0 ≤ 0 → slots + 0 ≤ 0 → rec4 v0 v1 v2 f n = some r → AW X p l e (RM 3 0 0) s m args below meth c 4 (ZM X below args s 0 0 (QHi r)) f n cells slots 4 [some (.ref v0), some (.int v1), some (.int v2), none] []) (hc : cells + 0 ≤ 0) (hs : slots + 0 ≤ 0) (h : mX8_countAllWords_b37 rec4 v0 v1 v2 f n = some r) : AW X p l e (RM 3 0 0) s m args below meth c 4 (ZM X below args s 0 0 (QHi r)) f n cells slots 37 [some (.ref v0), some (.int v1), some (.int v2), none] [] := by
  have h : rec4 v0 v1 (v2 + (1 : Int32)) f n = some r := h
  refine aw_iinc C (v2 + (1 : Int32)) dX8_countAllWords_37 rfl (by rw [ki_1]) (by decide) rfl ?_
  refine aw_nl [some (.ref v0), some (.int v1), some (.int (v2 + (1 : Int32))), none] rfl ?_
  refine aw_goto C 4 dX8_countAllWords_40 (by decide) ?_
  refine aw_fl [some (.ref v0), some (.int v1), some (.int (v2 + (1 : Int32))), none] ⟨rfl, ⟨rfl, ⟨rfl, trivial⟩⟩⟩ ?_
  exact Hr4 v0 v1 (v2 + (1 : Int32)) f n _ _ (by omega) (by omega) h
def mX8_countAllWords_l4 : Nat → Nat → Int32 → Int32 → AH → Nat → Option (Int32 × HpN)
  | 0, _, _, _, _, _ => none
  | d + 1, v0, v1, v2, f, n => ((gR f v0 8 5).bind fun x1 => ((x1).bind fun j2 => rCk (isO f j2 1) (((mX1_size j2 f n).bind fun r4 => (if r4.1 ≤ v2 then some (v1, (r4.2.1, r4.2.2)) else ((gR r4.2.1 v0 8 5).bind fun x6 => ((x6).bind fun j7 => rCk (isO r4.2.1 j7 1) (((mX1_get j7 v2 r4.2.1 r4.2.2).bind fun r9 => ((some r9.1).bind fun x11 => (oN x11 (mX8_countAllWords_b37 (fun v0 v1 v2 f n => mX8_countAllWords_l4 d v0 v1 v2 f n) v0 v1 v2 r9.2.1 r9.2.2) (fun j12 => rCk (isO r9.2.1 v0 8) (((mX8_countWords v0 v2 (some j12) r9.2.1 r9.2.2).bind fun r14 => mX8_countAllWords_b37 (fun v0 v1 v2 f n => mX8_countAllWords_l4 d v0 v1 v2 f n) v0 (v1 + r14.1) v2 r14.2.1 r14.2.2))))))))))))))
set_option maxHeartbeats 1000000 in
theorem rmX8_countAllWords_l4 {X : GX} {p : Program} {l : Launch} {e : Env} {s : State} {m : MethodId} {args : Array Value} {below : List Frame} {meth : Method} {c : Code} {r : Int32 × HpN} (C : CC X p l (RM 3 0 0) s m args meth c RX8 cX8_countAllWords 4 (some .int)) : ∀ (d : Nat) (v0 : Nat) (v1 : Int32) (v2 : Int32) (f : AH) (n cells slots : Nat) (_ : cells + 0 ≤ 0) (_ : slots + 0 ≤ 0) (_ : mX8_countAllWords_l4 d v0 v1 v2 f n = some r), AW X p l e (RM 3 0 0) s m args below meth c 4 (ZM X below args s 0 0 (QHi r)) f n cells slots 4 [some (.ref v0), some (.int v1), some (.int v2), none] [] := by
  intro d
  induction d with
  | zero =>
    intro v0 v1 v2 f n cells slots hc hs h
    exact nomatch (show (none : Option (Int32 × HpN)) = some r from h)
  | succ d ih =>
    intro v0 v1 v2 f n cells slots hc hs h
    have h : ((gR f v0 8 5).bind fun x1 => ((x1).bind fun j2 => rCk (isO f j2 1) (((mX1_size j2 f n).bind fun r4 => (if r4.1 ≤ v2 then some (v1, (r4.2.1, r4.2.2)) else ((gR r4.2.1 v0 8 5).bind fun x6 => ((x6).bind fun j7 => rCk (isO r4.2.1 j7 1) (((mX1_get j7 v2 r4.2.1 r4.2.2).bind fun r9 => ((some r9.1).bind fun x11 => (oN x11 (mX8_countAllWords_b37 (fun v0 v1 v2 f n => mX8_countAllWords_l4 d v0 v1 v2 f n) v0 v1 v2 r9.2.1 r9.2.2) (fun j12 => rCk (isO r9.2.1 v0 8) (((mX8_countWords v0 v2 (some j12) r9.2.1 r9.2.2).bind fun r14 => mX8_countAllWords_b37 (fun v0 v1 v2 f n => mX8_countAllWords_l4 d v0 v1 v2 f n) v0 (v1 + r14.1) v2 r14.2.1 r14.2.2)))))))))))))) = some r := h
    refine aw_iload_n C dX8_countAllWords_4 rfl ?_
    refine aw_ald_n C dX8_countAllWords_5 rfl ?_
    obtain ⟨x1, hx1, h⟩ := Option.bind_eq_some_iff.mp h
    refine ah_getR C gf_X8_38 hx1 dX8_countAllWords_6 ?_
    obtain ⟨j2, hj2, h⟩ := Option.bind_eq_some_iff.mp h
    rw [hj2]
    obtain ⟨hb3, h⟩ := ck_some h
    obtain ⟨r4, hr4, h⟩ := Option.bind_eq_some_iff.mp h
    obtain ⟨fs5, hf5⟩ := isO_ex hb3
    refine aw_callV C (ci := 1) (b := j2) [] mv_X8_136 rfl rfl hf5 (rmX1_size hr4) rfl dX8_countAllWords_9 (Nat.le_of_ble_eq_true rfl) (Nat.le_of_ble_eq_true rfl) rfl (Nat.le_of_ble_eq_true rfl) (show cells + 0 ≤ 0 by omega) (show slots + 0 ≤ 0 by omega) (fun v9 f9 n9 hh => ?_)
    obtain ⟨rfl, rfl, rfl⟩ := hh
    refine aw_icmp_ge C 43 dX8_countAllWords_12 (by decide) (fun q => ?_) (fun q => ?_)
    · rw [if_pos q] at h
      refine aw_iload_n C dX8_countAllWords_43 rfl ?_
      cases h
      exact aw_iret C rfl rfl dX8_countAllWords_44 (by omega) (by omega) ⟨rfl, rfl, rfl⟩
    · rw [if_neg q] at h
      refine aw_ald_n C dX8_countAllWords_15 rfl ?_
      obtain ⟨x6, hx6, h⟩ := Option.bind_eq_some_iff.mp h
      refine ah_getR C gf_X8_38 hx6 dX8_countAllWords_16 ?_
      refine aw_iload_n C dX8_countAllWords_19 rfl ?_
      obtain ⟨j7, hj7, h⟩ := Option.bind_eq_some_iff.mp h
      rw [hj7]
      obtain ⟨hb8, h⟩ := ck_some h
      obtain ⟨r9, hr9, h⟩ := Option.bind_eq_some_iff.mp h
      obtain ⟨fs10, hf10⟩ := isO_ex hb8
      refine aw_callV C (ci := 1) (b := j7) [.int v2] mv_X8_241 rfl rfl hf10 (rmX1_get hr9) rfl dX8_countAllWords_20 (Nat.le_of_ble_eq_true rfl) (Nat.le_of_ble_eq_true rfl) rfl (Nat.le_of_ble_eq_true rfl) (show (cells + 0) + 0 ≤ 0 by omega) (show (slots + 0) + 0 ≤ 0 by omega) (fun v9 f9 n9 hh => ?_)
      obtain ⟨rfl, rfl, rfl⟩ := hh
      obtain ⟨x11, hx11, h⟩ := Option.bind_eq_some_iff.mp h
      rw [Option.some.inj hx11]
      refine aw_astore_n C dX8_countAllWords_23 (by decide) rfl (rf_or x11) ?_
      refine aw_nl [some (.ref v0), some (.int v1), some (.int v2), some (va_rf x11)] rfl ?_
      refine aw_aload_n C dX8_countAllWords_24 rfl (rf_or x11) ?_
      cases x11 with
      | none =>
        replace h : mX8_countAllWords_b37 (fun v0 v1 v2 f n => mX8_countAllWords_l4 d v0 v1 v2 f n) v0 v1 v2 r9.2.1 r9.2.2 = some r := h
        refine aw_ifnull_n C 37 dX8_countAllWords_25 (by decide) ?_
        refine aw_fl [some (.ref v0), some (.int v1), some (.int v2), none] ⟨rfl, ⟨rfl, ⟨rfl, trivial⟩⟩⟩ ?_
        exact rmX8_countAllWords_b37 C (fun v0 v1 v2 f n cells slots hc hs h => ih v0 v1 v2 f n cells slots hc hs h) (by omega) (by omega) h
      | some j12 =>
        replace h : rCk (isO r9.2.1 v0 8) (((mX8_countWords v0 v2 (some j12) r9.2.1 r9.2.2).bind fun r14 => mX8_countAllWords_b37 (fun v0 v1 v2 f n => mX8_countAllWords_l4 d v0 v1 v2 f n) v0 (v1 + r14.1) v2 r14.2.1 r14.2.2)) = some r := h
        refine aw_ifnull_r C 37 dX8_countAllWords_25 (by decide) ?_
        refine aw_iload_n C dX8_countAllWords_28 rfl ?_
        refine aw_ald_n C dX8_countAllWords_29 rfl ?_
        refine aw_iload_n C dX8_countAllWords_30 rfl ?_
        refine aw_ald_n C dX8_countAllWords_31 rfl ?_
        obtain ⟨hb13, h⟩ := ck_some h
        obtain ⟨r14, hr14, h⟩ := Option.bind_eq_some_iff.mp h
        obtain ⟨fs15, hf15⟩ := isO_ex hb13
        refine aw_callV C (ci := 8) (b := v0) [.int v2, .ref j12] mv_X8_198 rfl rfl hf15 (rmX8_countWords hr14) rfl dX8_countAllWords_32 (Nat.le_of_ble_eq_true rfl) (Nat.le_of_ble_eq_true rfl) rfl (Nat.le_of_ble_eq_true rfl) (show ((cells + 0) + 0) + 0 ≤ 0 by omega) (show ((slots + 0) + 0) + 0 ≤ 0 by omega) (fun v9 f9 n9 hh => ?_)
        obtain ⟨rfl, rfl, rfl⟩ := hh
        refine aw_iadd C dX8_countAllWords_35 ?_
        refine aw_istore_n C dX8_countAllWords_36 (by decide) rfl ?_
        refine aw_nl [some (.ref v0), some (.int (v1 + r14.1)), some (.int v2), some (.ref j12)] rfl ?_
        refine aw_fl [some (.ref v0), some (.int (v1 + r14.1)), some (.int v2), none] ⟨rfl, ⟨rfl, ⟨rfl, trivial⟩⟩⟩ ?_
        exact rmX8_countAllWords_b37 C (fun v0 v1 v2 f n cells slots hc hs h => ih v0 v1 v2 f n cells slots hc hs h) (by omega) (by omega) h
def mX8_countAllWords (v0 : Nat) (f : AH) (n : Nat) : Option (Int32 × HpN) := mX8_countAllWords_l4 rFU v0 (0 : Int32) (0 : Int32) f n
set_option maxHeartbeats 1000000 in
theorem rmX8_countAllWords {X : GX} {l : Launch} {r : Int32 × HpN} {v0 : Nat} {f : AH} {n : Nat} (h : mX8_countAllWords v0 f n = some r) : AM X l yX8_countAllWords cX8_countAllWords 4 (some .int) 3 0 0 [.ref v0] f n (QHi r) := by
  have h : mX8_countAllWords_l4 rFU v0 (0 : Int32) (0 : Int32) f n = some r := h
  refine AM.of (by decide +kernel) rfl (Nat.le_of_ble_eq_true rfl) (fun p e s m args below meth c C hnm => ?_)
  refine aw_nl [some (.ref v0), none, none, none] rfl ?_
  refine aw_iconst C 0 dX8_countAllWords_0 ki_0 ?_
  refine aw_istore_n C dX8_countAllWords_1 (by decide) rfl ?_
  refine aw_nl [some (.ref v0), some (.int (0 : Int32)), none, none] rfl ?_
  refine aw_iconst C 0 dX8_countAllWords_2 ki_0 ?_
  refine aw_istore_n C dX8_countAllWords_3 (by decide) rfl ?_
  refine aw_nl [some (.ref v0), some (.int (0 : Int32)), some (.int (0 : Int32)), none] rfl ?_
  refine aw_fl [some (.ref v0), some (.int (0 : Int32)), some (.int (0 : Int32)), none] ⟨rfl, ⟨rfl, ⟨rfl, trivial⟩⟩⟩ ?_
  exact rmX8_countAllWords_l4 C rFU v0 (0 : Int32) (0 : Int32) f n _ _ (by omega) (by omega) h
end
/-! part 32an.cls -/
section
def mX1_longestText_b34 (rec4 : Nat → Int32 → Int32 → AH → Nat → Option (Int32 × HpN)) (v0 : Nat) (v2 : Int32) (s0 : Int32) (f : AH) (n : Nat) : Option (Int32 × HpN) := rec4 v0 s0 (v2 + (1 : Int32)) f n
set_option maxHeartbeats 1000000 in
theorem rmX1_longestText_b34 {X : GX} {p : Program} {l : Launch} {e : Env} {s : State} {m : MethodId} {args : Array Value} {below : List Frame} {meth : Method} {c : Code} {r : Int32 × HpN} {rec4 : Nat → Int32 → Int32 → AH → Nat → Option (Int32 × HpN)} {v0 : Nat} {v2 : Int32} {s0 : Int32} {f : AH} {n cells slots : Nat} (C : CC X p l (RM 1 0 0) s m args meth c RX1 cX1_longestText 4 (some .int)) (Hr4 : ∀ (v0 : Nat) (v1 : Int32) (v2 : Int32) (f : AH) (n cells slots : Nat), cells + 0 ≤ 0 → slots + 0 ≤ 0 → rec4 v0 v1 v2 f n = some r → AW X p l e (RM 1 0 0) s m args below meth c 4 (ZM X below args s 0 0 (QHi r)) f n cells slots 4 [some (.ref v0), some (.int v1), some (.int v2), none] []) (hc : cells + 0 ≤ 0) (hs : slots + 0 ≤ 0) (h : mX1_longestText_b34 rec4 v0 v2 s0 f n = some r) : AW X p l e (RM 1 0 0) s m args below meth c 4 (ZM X below args s 0 0 (QHi r)) f n cells slots 34 [some (.ref v0), none, some (.int v2), none] [.int s0] := by
  have h : rec4 v0 s0 (v2 + (1 : Int32)) f n = some r := h
  refine aw_istore_n C dX1_longestText_34 (by decide) rfl ?_
  refine aw_nl [some (.ref v0), some (.int s0), some (.int v2), none] rfl ?_
  refine aw_iinc C (v2 + (1 : Int32)) dX1_longestText_35 rfl (by rw [ki_1]) (by decide) rfl ?_
  refine aw_nl [some (.ref v0), some (.int s0), some (.int (v2 + (1 : Int32))), none] rfl ?_
  refine aw_goto C 4 dX1_longestText_38 (by decide) ?_
  refine aw_fl [some (.ref v0), some (.int s0), some (.int (v2 + (1 : Int32))), none] ⟨rfl, ⟨rfl, ⟨rfl, trivial⟩⟩⟩ ?_
  exact Hr4 v0 s0 (v2 + (1 : Int32)) f n _ _ (by omega) (by omega) h
def mX1_longestText_l4 : Nat → Nat → Int32 → Int32 → AH → Nat → Option (Int32 × HpN)
  | 0, _, _, _, _, _ => none
  | d + 1, v0, v1, v2, f, n => ((gI f v0 1 3).bind fun x1 => (if x1 ≤ v2 then some (v1, (f, n)) else rCk (isO f v0 1) (((mX1_get v0 v2 f n).bind fun r3 => ((some r3.1).bind fun x5 => (oN x5 (mX1_longestText_b34 (fun v0 v1 v2 f n => mX1_longestText_l4 d v0 v1 v2 f n) v0 v2 v1 r3.2.1 r3.2.2) (fun j6 => ((gI r3.2.1 j6 3 3).bind fun x7 => mX1_longestText_b34 (fun v0 v1 v2 f n => mX1_longestText_l4 d v0 v1 v2 f n) v0 v2 (jMax v1 x7) r3.2.1 r3.2.2))))))))
set_option maxHeartbeats 1000000 in
theorem rmX1_longestText_l4 {X : GX} {p : Program} {l : Launch} {e : Env} {s : State} {m : MethodId} {args : Array Value} {below : List Frame} {meth : Method} {c : Code} {r : Int32 × HpN} (C : CC X p l (RM 1 0 0) s m args meth c RX1 cX1_longestText 4 (some .int)) : ∀ (d : Nat) (v0 : Nat) (v1 : Int32) (v2 : Int32) (f : AH) (n cells slots : Nat) (_ : cells + 0 ≤ 0) (_ : slots + 0 ≤ 0) (_ : mX1_longestText_l4 d v0 v1 v2 f n = some r), AW X p l e (RM 1 0 0) s m args below meth c 4 (ZM X below args s 0 0 (QHi r)) f n cells slots 4 [some (.ref v0), some (.int v1), some (.int v2), none] [] := by
  intro d
  induction d with
  | zero =>
    intro v0 v1 v2 f n cells slots hc hs h
    exact nomatch (show (none : Option (Int32 × HpN)) = some r from h)
  | succ d ih =>
    intro v0 v1 v2 f n cells slots hc hs h
    have h : ((gI f v0 1 3).bind fun x1 => (if x1 ≤ v2 then some (v1, (f, n)) else rCk (isO f v0 1) (((mX1_get v0 v2 f n).bind fun r3 => ((some r3.1).bind fun x5 => (oN x5 (mX1_longestText_b34 (fun v0 v1 v2 f n => mX1_longestText_l4 d v0 v1 v2 f n) v0 v2 v1 r3.2.1 r3.2.2) (fun j6 => ((gI r3.2.1 j6 3 3).bind fun x7 => mX1_longestText_b34 (fun v0 v1 v2 f n => mX1_longestText_l4 d v0 v1 v2 f n) v0 v2 (jMax v1 x7) r3.2.1 r3.2.2)))))))) = some r := h
    refine aw_iload_n C dX1_longestText_4 rfl ?_
    refine aw_ald_n C dX1_longestText_5 rfl ?_
    obtain ⟨x1, hx1, h⟩ := Option.bind_eq_some_iff.mp h
    refine ah_getI C gf_X1_46 hx1 dX1_longestText_6 ?_
    refine aw_icmp_ge C 41 dX1_longestText_9 (by decide) (fun q => ?_) (fun q => ?_)
    · rw [if_pos q] at h
      refine aw_iload_n C dX1_longestText_41 rfl ?_
      cases h
      exact aw_iret C rfl rfl dX1_longestText_42 (by omega) (by omega) ⟨rfl, rfl, rfl⟩
    · rw [if_neg q] at h
      refine aw_ald_n C dX1_longestText_12 rfl ?_
      refine aw_iload_n C dX1_longestText_13 rfl ?_
      obtain ⟨hb2, h⟩ := ck_some h
      obtain ⟨r3, hr3, h⟩ := Option.bind_eq_some_iff.mp h
      obtain ⟨fs4, hf4⟩ := isO_ex hb2
      refine aw_callV C (ci := 1) (b := v0) [.int v2] mv_X1_154 rfl rfl hf4 (rmX1_get hr3) rfl dX1_longestText_14 (Nat.le_of_ble_eq_true rfl) (Nat.le_of_ble_eq_true rfl) rfl (Nat.le_of_ble_eq_true rfl) (show cells + 0 ≤ 0 by omega) (show slots + 0 ≤ 0 by omega) (fun v9 f9 n9 hh => ?_)
      obtain ⟨rfl, rfl, rfl⟩ := hh
      obtain ⟨x5, hx5, h⟩ := Option.bind_eq_some_iff.mp h
      rw [Option.some.inj hx5]
      refine aw_astore_n C dX1_longestText_17 (by decide) rfl (rf_or x5) ?_
      refine aw_nl [some (.ref v0), some (.int v1), some (.int v2), some (va_rf x5)] rfl ?_
      refine aw_aload_n C dX1_longestText_18 rfl (rf_or x5) ?_
      cases x5 with
      | none =>
        replace h : mX1_longestText_b34 (fun v0 v1 v2 f n => mX1_longestText_l4 d v0 v1 v2 f n) v0 v2 v1 r3.2.1 r3.2.2 = some r := h
        refine aw_ifnonnull_n C 26 dX1_longestText_19 (by decide) ?_
        refine aw_iload_n C dX1_longestText_22 rfl ?_
        refine aw_goto C 34 dX1_longestText_23 (by decide) ?_
        refine aw_fl [some (.ref v0), none, some (.int v2), none] ⟨rfl, ⟨rfl, trivial⟩⟩ ?_
        exact rmX1_longestText_b34 C (fun v0 v1 v2 f n cells slots hc hs h => ih v0 v1 v2 f n cells slots hc hs h) (by omega) (by omega) h
      | some j6 =>
        replace h : ((gI r3.2.1 j6 3 3).bind fun x7 => mX1_longestText_b34 (fun v0 v1 v2 f n => mX1_longestText_l4 d v0 v1 v2 f n) v0 v2 (jMax v1 x7) r3.2.1 r3.2.2) = some r := h
        refine aw_ifnonnull_r C 26 dX1_longestText_19 (by decide) ?_
        refine aw_iload_n C dX1_longestText_26 rfl ?_
        refine aw_ald_n C dX1_longestText_27 rfl ?_
        obtain ⟨x7, hx7, h⟩ := Option.bind_eq_some_iff.mp h
        refine ah_getI C gf_X1_133 hx7 dX1_longestText_28 ?_
        refine ah_jMax C ms_X1_108 dX1_longestText_31 (Nat.le_of_ble_eq_true rfl) (Nat.le_of_ble_eq_true rfl) (Nat.le_of_ble_eq_true rfl) (show _ + 0 ≤ 0 by omega) (show _ + 0 ≤ 0 by omega) ?_
        refine aw_fl [some (.ref v0), none, some (.int v2), none] ⟨rfl, ⟨rfl, trivial⟩⟩ ?_
        exact rmX1_longestText_b34 C (fun v0 v1 v2 f n cells slots hc hs h => ih v0 v1 v2 f n cells slots hc hs h) (by omega) (by omega) h
def mX1_longestText (v0 : Nat) (f : AH) (n : Nat) : Option (Int32 × HpN) := mX1_longestText_l4 rFU v0 (0 : Int32) (0 : Int32) f n
set_option maxHeartbeats 1000000 in
theorem rmX1_longestText {X : GX} {l : Launch} {r : Int32 × HpN} {v0 : Nat} {f : AH} {n : Nat} (h : mX1_longestText v0 f n = some r) : AM X l yX1_longestText cX1_longestText 4 (some .int) 1 0 0 [.ref v0] f n (QHi r) := by
  have h : mX1_longestText_l4 rFU v0 (0 : Int32) (0 : Int32) f n = some r := h
  refine AM.of (by decide +kernel) rfl (Nat.le_of_ble_eq_true rfl) (fun p e s m args below meth c C hnm => ?_)
  refine aw_nl [some (.ref v0), none, none, none] rfl ?_
  refine aw_iconst C 0 dX1_longestText_0 ki_0 ?_
  refine aw_istore_n C dX1_longestText_1 (by decide) rfl ?_
  refine aw_nl [some (.ref v0), some (.int (0 : Int32)), none, none] rfl ?_
  refine aw_iconst C 0 dX1_longestText_2 ki_0 ?_
  refine aw_istore_n C dX1_longestText_3 (by decide) rfl ?_
  refine aw_nl [some (.ref v0), some (.int (0 : Int32)), some (.int (0 : Int32)), none] rfl ?_
  refine aw_fl [some (.ref v0), some (.int (0 : Int32)), some (.int (0 : Int32)), none] ⟨rfl, ⟨rfl, ⟨rfl, trivial⟩⟩⟩ ?_
  exact rmX1_longestText_l4 C rFU v0 (0 : Int32) (0 : Int32) f n _ _ (by omega) (by omega) h
def mX8_count_b164 (s0 : Int32) (f : AH) (n : Nat) : Option (Int32 × HpN) := some (s0, (f, n))
set_option maxHeartbeats 1000000 in
theorem rmX8_count_b164 {X : GX} {p : Program} {l : Launch} {e : Env} {s : State} {m : MethodId} {args : Array Value} {below : List Frame} {meth : Method} {c : Code} {r : Int32 × HpN} {s0 : Int32} {f : AH} {n cells slots : Nat} (C : CC X p l (RM 5 0 0) s m args meth c RX8 cX8_count 2 (some .int)) (hc : cells + 0 ≤ 0) (hs : slots + 0 ≤ 0) (h : mX8_count_b164 s0 f n = some r) : AW X p l e (RM 5 0 0) s m args below meth c 2 (ZM X below args s 0 0 (QHi r)) f n cells slots 164 [none, none] [.int s0] := by
  have h : some (s0, (f, n)) = some r := h
  cases h
  exact aw_iret C rfl rfl dX8_count_164 (by omega) (by omega) ⟨rfl, rfl, rfl⟩
def mX8_count (v0 : Nat) (v1 : Int32) (f : AH) (n : Nat) : Option (Int32 × HpN) := (if v1 = (0 : Int32) then ((gR f v0 8 1).bind fun x1 => ((x1).bind fun j2 => ((gR f j2 7 0).bind fun x3 => ((x3).bind fun j4 => rCk (isO f j4 5) (((mX5_size j4 f n).bind fun r6 => some (r6.1, (r6.2.1, r6.2.2)))))))) else if v1 = (1 : Int32) then ((gR f v0 8 1).bind fun x8 => ((x8).bind fun j9 => ((gI f j9 7 1).bind fun x10 => some (x10, (f, n))))) else if v1 = (2 : Int32) then ((gR f v0 8 1).bind fun x11 => ((x11).bind fun j12 => ((gI f j12 7 2).bind fun x13 => some (x13, (f, n))))) else if v1 = (3 : Int32) then ((gR f v0 8 5).bind fun x14 => ((x14).bind fun j15 => rCk (isO f j15 1) (((mX1_size j15 f n).bind fun r17 => some (r17.1, (r17.2.1, r17.2.2)))))) else if v1 = (4 : Int32) then ((gR f v0 8 1).bind fun x19 => ((x19).bind fun j20 => rCk (isO f j20 7) (((mX7_toldCount j20 f n).bind fun r22 => some (r22.1, (r22.2.1, r22.2.2)))))) else if v1 = (5 : Int32) then ((gR f v0 8 7).bind fun x24 => ((x24).bind fun j25 => ((gR f j25 0 0).bind fun x26 => ((x26).bind fun j27 => rCk (isO f j27 5) (((mX5_size j27 f n).bind fun r29 => some (r29.1, (r29.2.1, r29.2.2)))))))) else if v1 = (6 : Int32) then ((gR f v0 8 1).bind fun x31 => ((x31).bind fun j32 => ((gR f j32 7 0).bind fun x33 => ((x33).bind fun j34 => rCk (isO f j34 5) (((mX5_size j34 f n).bind fun r36 => ((gR r36.2.1 v0 8 5).bind fun x38 => ((x38).bind fun j39 => rCk (isO r36.2.1 j39 1) (((mX1_bytesInPieces j39 r36.2.1 r36.2.2).bind fun r41 => some ((r36.1 - r41.1), (r41.2.1, r41.2.2)))))))))))) else if v1 = (7 : Int32) then ((gR f v0 8 1).bind fun x43 => ((x43).bind fun j44 => ((gI f j44 7 3).bind fun x45 => (if x45 = (0 : Int32) then mX8_count_b164 (0 : Int32) f n else mX8_count_b164 (1 : Int32) f n)))) else if v1 = (8 : Int32) then ((gR f v0 8 1).bind fun x46 => ((x46).bind fun j47 => ((gI f j47 7 4).bind fun x48 => some (x48, (f, n))))) else if v1 = (9 : Int32) then ((gR f v0 8 1).bind fun x49 => ((x49).bind fun j50 => ((gI f j50 7 5).bind fun x51 => some (x51, (f, n))))) else if v1 = (10 : Int32) then ((gR f v0 8 5).bind fun x52 => ((x52).bind fun j53 => rCk (isO f j53 1) (((mX1_unlikeCount j53 f n).bind fun r55 => some (r55.1, (r55.2.1, r55.2.2)))))) else if v1 = (11 : Int32) then rCk (isO f v0 8) (((mX8_countAllWords v0 f n).bind fun r58 => some (r58.1, (r58.2.1, r58.2.2)))) else if v1 = (12 : Int32) then ((gR f v0 8 1).bind fun x60 => ((x60).bind fun j61 => ((gI f j61 7 7).bind fun x62 => some (x62, (f, n))))) else if v1 = (13 : Int32) then ((gR f v0 8 5).bind fun x63 => ((x63).bind fun j64 => rCk (isO f j64 1) (((mX1_longestText j64 f n).bind fun r66 => some (r66.1, (r66.2.1, r66.2.2)))))) else if v1 = (14 : Int32) then ((gI f v0 8 11).bind fun x68 => some (x68, (f, n))) else some ((-1 : Int32), (f, n)))
set_option maxHeartbeats 1000000 in
theorem rmX8_count {X : GX} {l : Launch} {r : Int32 × HpN} {v0 : Nat} {v1 : Int32} {f : AH} {n : Nat} (h : mX8_count v0 v1 f n = some r) : AM X l yX8_count cX8_count 2 (some .int) 5 0 0 [.ref v0, .int v1] f n (QHi r) := by
  have h : (if v1 = (0 : Int32) then ((gR f v0 8 1).bind fun x1 => ((x1).bind fun j2 => ((gR f j2 7 0).bind fun x3 => ((x3).bind fun j4 => rCk (isO f j4 5) (((mX5_size j4 f n).bind fun r6 => some (r6.1, (r6.2.1, r6.2.2)))))))) else if v1 = (1 : Int32) then ((gR f v0 8 1).bind fun x8 => ((x8).bind fun j9 => ((gI f j9 7 1).bind fun x10 => some (x10, (f, n))))) else if v1 = (2 : Int32) then ((gR f v0 8 1).bind fun x11 => ((x11).bind fun j12 => ((gI f j12 7 2).bind fun x13 => some (x13, (f, n))))) else if v1 = (3 : Int32) then ((gR f v0 8 5).bind fun x14 => ((x14).bind fun j15 => rCk (isO f j15 1) (((mX1_size j15 f n).bind fun r17 => some (r17.1, (r17.2.1, r17.2.2)))))) else if v1 = (4 : Int32) then ((gR f v0 8 1).bind fun x19 => ((x19).bind fun j20 => rCk (isO f j20 7) (((mX7_toldCount j20 f n).bind fun r22 => some (r22.1, (r22.2.1, r22.2.2)))))) else if v1 = (5 : Int32) then ((gR f v0 8 7).bind fun x24 => ((x24).bind fun j25 => ((gR f j25 0 0).bind fun x26 => ((x26).bind fun j27 => rCk (isO f j27 5) (((mX5_size j27 f n).bind fun r29 => some (r29.1, (r29.2.1, r29.2.2)))))))) else if v1 = (6 : Int32) then ((gR f v0 8 1).bind fun x31 => ((x31).bind fun j32 => ((gR f j32 7 0).bind fun x33 => ((x33).bind fun j34 => rCk (isO f j34 5) (((mX5_size j34 f n).bind fun r36 => ((gR r36.2.1 v0 8 5).bind fun x38 => ((x38).bind fun j39 => rCk (isO r36.2.1 j39 1) (((mX1_bytesInPieces j39 r36.2.1 r36.2.2).bind fun r41 => some ((r36.1 - r41.1), (r41.2.1, r41.2.2)))))))))))) else if v1 = (7 : Int32) then ((gR f v0 8 1).bind fun x43 => ((x43).bind fun j44 => ((gI f j44 7 3).bind fun x45 => (if x45 = (0 : Int32) then mX8_count_b164 (0 : Int32) f n else mX8_count_b164 (1 : Int32) f n)))) else if v1 = (8 : Int32) then ((gR f v0 8 1).bind fun x46 => ((x46).bind fun j47 => ((gI f j47 7 4).bind fun x48 => some (x48, (f, n))))) else if v1 = (9 : Int32) then ((gR f v0 8 1).bind fun x49 => ((x49).bind fun j50 => ((gI f j50 7 5).bind fun x51 => some (x51, (f, n))))) else if v1 = (10 : Int32) then ((gR f v0 8 5).bind fun x52 => ((x52).bind fun j53 => rCk (isO f j53 1) (((mX1_unlikeCount j53 f n).bind fun r55 => some (r55.1, (r55.2.1, r55.2.2)))))) else if v1 = (11 : Int32) then rCk (isO f v0 8) (((mX8_countAllWords v0 f n).bind fun r58 => some (r58.1, (r58.2.1, r58.2.2)))) else if v1 = (12 : Int32) then ((gR f v0 8 1).bind fun x60 => ((x60).bind fun j61 => ((gI f j61 7 7).bind fun x62 => some (x62, (f, n))))) else if v1 = (13 : Int32) then ((gR f v0 8 5).bind fun x63 => ((x63).bind fun j64 => rCk (isO f j64 1) (((mX1_longestText j64 f n).bind fun r66 => some (r66.1, (r66.2.1, r66.2.2)))))) else if v1 = (14 : Int32) then ((gI f v0 8 11).bind fun x68 => some (x68, (f, n))) else some ((-1 : Int32), (f, n))) = some r := h
  refine AM.of (by decide +kernel) rfl (Nat.le_of_ble_eq_true rfl) (fun p e s m args below meth c C hnm => ?_)
  refine aw_nl [some (.ref v0), some (.int v1)] rfl ?_
  refine aw_iload_n C dX8_count_0 rfl ?_
  by_cases q : v1 = (0 : Int32)
  · rw [if_pos q] at h
    refine aw_top (0 : Int32) q ?_
    refine aw_tabIn C (off := 75) 76 dX8_count_1 (by decide) (by decide) (by decide) (by decide) ?_
    refine aw_ald_n C dX8_count_76 rfl ?_
    obtain ⟨x1, hx1, h⟩ := Option.bind_eq_some_iff.mp h
    refine ah_getR C gf_X8_21 hx1 dX8_count_77 ?_
    obtain ⟨j2, hj2, h⟩ := Option.bind_eq_some_iff.mp h
    rw [hj2]
    obtain ⟨x3, hx3, h⟩ := Option.bind_eq_some_iff.mp h
    refine ah_getR C gf_X8_130 hx3 dX8_count_80 ?_
    obtain ⟨j4, hj4, h⟩ := Option.bind_eq_some_iff.mp h
    rw [hj4]
    obtain ⟨hb5, h⟩ := ck_some h
    obtain ⟨r6, hr6, h⟩ := Option.bind_eq_some_iff.mp h
    obtain ⟨fs7, hf7⟩ := isO_ex hb5
    refine aw_callV C (ci := 5) (b := j4) [] mv_X8_63 rfl rfl hf7 (rmX5_size hr6) rfl dX8_count_83 (Nat.le_of_ble_eq_true rfl) (Nat.le_of_ble_eq_true rfl) rfl (Nat.le_of_ble_eq_true rfl) (show 0 + 0 ≤ 0 by omega) (show 0 + 0 ≤ 0 by omega) (fun v9 f9 n9 hh => ?_)
    obtain ⟨rfl, rfl, rfl⟩ := hh
    cases h
    exact aw_iret C rfl rfl dX8_count_86 (by omega) (by omega) ⟨rfl, rfl, rfl⟩
  · rw [if_neg q] at h
    have q0 := q
    by_cases q : v1 = (1 : Int32)
    · rw [if_pos q] at h
      refine aw_top (1 : Int32) q ?_
      refine aw_tabIn C (off := 86) 87 dX8_count_1 (by decide) (by decide) (by decide) (by decide) ?_
      refine aw_ald_n C dX8_count_87 rfl ?_
      obtain ⟨x8, hx8, h⟩ := Option.bind_eq_some_iff.mp h
      refine ah_getR C gf_X8_21 hx8 dX8_count_88 ?_
      obtain ⟨j9, hj9, h⟩ := Option.bind_eq_some_iff.mp h
      rw [hj9]
      obtain ⟨x10, hx10, h⟩ := Option.bind_eq_some_iff.mp h
      refine ah_getI C gf_X8_232 hx10 dX8_count_91 ?_
      cases h
      exact aw_iret C rfl rfl dX8_count_94 (by omega) (by omega) ⟨rfl, rfl, rfl⟩
    · rw [if_neg q] at h
      have q1 := q
      by_cases q : v1 = (2 : Int32)
      · rw [if_pos q] at h
        refine aw_top (2 : Int32) q ?_
        refine aw_tabIn C (off := 94) 95 dX8_count_1 (by decide) (by decide) (by decide) (by decide) ?_
        refine aw_ald_n C dX8_count_95 rfl ?_
        obtain ⟨x11, hx11, h⟩ := Option.bind_eq_some_iff.mp h
        refine ah_getR C gf_X8_21 hx11 dX8_count_96 ?_
        obtain ⟨j12, hj12, h⟩ := Option.bind_eq_some_iff.mp h
        rw [hj12]
        obtain ⟨x13, hx13, h⟩ := Option.bind_eq_some_iff.mp h
        refine ah_getI C gf_X8_290 hx13 dX8_count_99 ?_
        cases h
        exact aw_iret C rfl rfl dX8_count_102 (by omega) (by omega) ⟨rfl, rfl, rfl⟩
      · rw [if_neg q] at h
        have q2 := q
        by_cases q : v1 = (3 : Int32)
        · rw [if_pos q] at h
          refine aw_top (3 : Int32) q ?_
          refine aw_tabIn C (off := 102) 103 dX8_count_1 (by decide) (by decide) (by decide) (by decide) ?_
          refine aw_ald_n C dX8_count_103 rfl ?_
          obtain ⟨x14, hx14, h⟩ := Option.bind_eq_some_iff.mp h
          refine ah_getR C gf_X8_38 hx14 dX8_count_104 ?_
          obtain ⟨j15, hj15, h⟩ := Option.bind_eq_some_iff.mp h
          rw [hj15]
          obtain ⟨hb16, h⟩ := ck_some h
          obtain ⟨r17, hr17, h⟩ := Option.bind_eq_some_iff.mp h
          obtain ⟨fs18, hf18⟩ := isO_ex hb16
          refine aw_callV C (ci := 1) (b := j15) [] mv_X8_136 rfl rfl hf18 (rmX1_size hr17) rfl dX8_count_107 (Nat.le_of_ble_eq_true rfl) (Nat.le_of_ble_eq_true rfl) rfl (Nat.le_of_ble_eq_true rfl) (show 0 + 0 ≤ 0 by omega) (show 0 + 0 ≤ 0 by omega) (fun v9 f9 n9 hh => ?_)
          obtain ⟨rfl, rfl, rfl⟩ := hh
          cases h
          exact aw_iret C rfl rfl dX8_count_110 (by omega) (by omega) ⟨rfl, rfl, rfl⟩
        · rw [if_neg q] at h
          have q3 := q
          by_cases q : v1 = (4 : Int32)
          · rw [if_pos q] at h
            refine aw_top (4 : Int32) q ?_
            refine aw_tabIn C (off := 110) 111 dX8_count_1 (by decide) (by decide) (by decide) (by decide) ?_
            refine aw_ald_n C dX8_count_111 rfl ?_
            obtain ⟨x19, hx19, h⟩ := Option.bind_eq_some_iff.mp h
            refine ah_getR C gf_X8_21 hx19 dX8_count_112 ?_
            obtain ⟨j20, hj20, h⟩ := Option.bind_eq_some_iff.mp h
            rw [hj20]
            obtain ⟨hb21, h⟩ := ck_some h
            obtain ⟨r22, hr22, h⟩ := Option.bind_eq_some_iff.mp h
            obtain ⟨fs23, hf23⟩ := isO_ex hb21
            refine aw_callV C (ci := 7) (b := j20) [] mv_X8_167 rfl rfl hf23 (rmX7_toldCount hr22) rfl dX8_count_115 (Nat.le_of_ble_eq_true rfl) (Nat.le_of_ble_eq_true rfl) rfl (Nat.le_of_ble_eq_true rfl) (show 0 + 0 ≤ 0 by omega) (show 0 + 0 ≤ 0 by omega) (fun v9 f9 n9 hh => ?_)
            obtain ⟨rfl, rfl, rfl⟩ := hh
            cases h
            exact aw_iret C rfl rfl dX8_count_118 (by omega) (by omega) ⟨rfl, rfl, rfl⟩
          · rw [if_neg q] at h
            have q4 := q
            by_cases q : v1 = (5 : Int32)
            · rw [if_pos q] at h
              refine aw_top (5 : Int32) q ?_
              refine aw_tabIn C (off := 118) 119 dX8_count_1 (by decide) (by decide) (by decide) (by decide) ?_
              refine aw_ald_n C dX8_count_119 rfl ?_
              obtain ⟨x24, hx24, h⟩ := Option.bind_eq_some_iff.mp h
              refine ah_getR C gf_X8_48 hx24 dX8_count_120 ?_
              obtain ⟨j25, hj25, h⟩ := Option.bind_eq_some_iff.mp h
              rw [hj25]
              obtain ⟨x26, hx26, h⟩ := Option.bind_eq_some_iff.mp h
              refine ah_getR C gf_X8_160 hx26 dX8_count_123 ?_
              obtain ⟨j27, hj27, h⟩ := Option.bind_eq_some_iff.mp h
              rw [hj27]
              obtain ⟨hb28, h⟩ := ck_some h
              obtain ⟨r29, hr29, h⟩ := Option.bind_eq_some_iff.mp h
              obtain ⟨fs30, hf30⟩ := isO_ex hb28
              refine aw_callV C (ci := 5) (b := j27) [] mv_X8_63 rfl rfl hf30 (rmX5_size hr29) rfl dX8_count_126 (Nat.le_of_ble_eq_true rfl) (Nat.le_of_ble_eq_true rfl) rfl (Nat.le_of_ble_eq_true rfl) (show 0 + 0 ≤ 0 by omega) (show 0 + 0 ≤ 0 by omega) (fun v9 f9 n9 hh => ?_)
              obtain ⟨rfl, rfl, rfl⟩ := hh
              cases h
              exact aw_iret C rfl rfl dX8_count_129 (by omega) (by omega) ⟨rfl, rfl, rfl⟩
            · rw [if_neg q] at h
              have q5 := q
              by_cases q : v1 = (6 : Int32)
              · rw [if_pos q] at h
                refine aw_top (6 : Int32) q ?_
                refine aw_tabIn C (off := 129) 130 dX8_count_1 (by decide) (by decide) (by decide) (by decide) ?_
                refine aw_ald_n C dX8_count_130 rfl ?_
                obtain ⟨x31, hx31, h⟩ := Option.bind_eq_some_iff.mp h
                refine ah_getR C gf_X8_21 hx31 dX8_count_131 ?_
                obtain ⟨j32, hj32, h⟩ := Option.bind_eq_some_iff.mp h
                rw [hj32]
                obtain ⟨x33, hx33, h⟩ := Option.bind_eq_some_iff.mp h
                refine ah_getR C gf_X8_130 hx33 dX8_count_134 ?_
                obtain ⟨j34, hj34, h⟩ := Option.bind_eq_some_iff.mp h
                rw [hj34]
                obtain ⟨hb35, h⟩ := ck_some h
                obtain ⟨r36, hr36, h⟩ := Option.bind_eq_some_iff.mp h
                obtain ⟨fs37, hf37⟩ := isO_ex hb35
                refine aw_callV C (ci := 5) (b := j34) [] mv_X8_63 rfl rfl hf37 (rmX5_size hr36) rfl dX8_count_137 (Nat.le_of_ble_eq_true rfl) (Nat.le_of_ble_eq_true rfl) rfl (Nat.le_of_ble_eq_true rfl) (show 0 + 0 ≤ 0 by omega) (show 0 + 0 ≤ 0 by omega) (fun v9 f9 n9 hh => ?_)
                obtain ⟨rfl, rfl, rfl⟩ := hh
                refine aw_ald_n C dX8_count_140 rfl ?_
                obtain ⟨x38, hx38, h⟩ := Option.bind_eq_some_iff.mp h
                refine ah_getR C gf_X8_38 hx38 dX8_count_141 ?_
                obtain ⟨j39, hj39, h⟩ := Option.bind_eq_some_iff.mp h
                rw [hj39]
                obtain ⟨hb40, h⟩ := ck_some h
                obtain ⟨r41, hr41, h⟩ := Option.bind_eq_some_iff.mp h
                obtain ⟨fs42, hf42⟩ := isO_ex hb40
                refine aw_callV C (ci := 1) (b := j39) [] mv_X8_293 rfl rfl hf42 (rmX1_bytesInPieces hr41) rfl dX8_count_144 (Nat.le_of_ble_eq_true rfl) (Nat.le_of_ble_eq_true rfl) rfl (Nat.le_of_ble_eq_true rfl) (show (0 + 0) + 0 ≤ 0 by omega) (show (0 + 0) + 0 ≤ 0 by omega) (fun v9 f9 n9 hh => ?_)
                obtain ⟨rfl, rfl, rfl⟩ := hh
                refine aw_isub C dX8_count_147 ?_
                cases h
                exact aw_iret C rfl rfl dX8_count_148 (by omega) (by omega) ⟨rfl, rfl, rfl⟩
              · rw [if_neg q] at h
                have q6 := q
                by_cases q : v1 = (7 : Int32)
                · rw [if_pos q] at h
                  refine aw_top (7 : Int32) q ?_
                  refine aw_tabIn C (off := 148) 149 dX8_count_1 (by decide) (by decide) (by decide) (by decide) ?_
                  refine aw_ald_n C dX8_count_149 rfl ?_
                  obtain ⟨x43, hx43, h⟩ := Option.bind_eq_some_iff.mp h
                  refine ah_getR C gf_X8_21 hx43 dX8_count_150 ?_
                  obtain ⟨j44, hj44, h⟩ := Option.bind_eq_some_iff.mp h
                  rw [hj44]
                  obtain ⟨x45, hx45, h⟩ := Option.bind_eq_some_iff.mp h
                  refine ah_getI C gf_X8_296 hx45 dX8_count_153 ?_
                  refine aw_if_eq C 163 dX8_count_156 (by decide) (fun q => ?_) (fun q => ?_)
                  · rw [if_pos q] at h
                    refine aw_iconst C 0 dX8_count_163 ki_0 ?_
                    refine aw_fl [none, none] trivial ?_
                    exact rmX8_count_b164 C (by omega) (by omega) h
                  · rw [if_neg q] at h
                    refine aw_iconst C 1 dX8_count_159 ki_1 ?_
                    refine aw_goto C 164 dX8_count_160 (by decide) ?_
                    refine aw_fl [none, none] trivial ?_
                    exact rmX8_count_b164 C (by omega) (by omega) h
                · rw [if_neg q] at h
                  have q7 := q
                  by_cases q : v1 = (8 : Int32)
                  · rw [if_pos q] at h
                    refine aw_top (8 : Int32) q ?_
                    refine aw_tabIn C (off := 164) 165 dX8_count_1 (by decide) (by decide) (by decide) (by decide) ?_
                    refine aw_ald_n C dX8_count_165 rfl ?_
                    obtain ⟨x46, hx46, h⟩ := Option.bind_eq_some_iff.mp h
                    refine ah_getR C gf_X8_21 hx46 dX8_count_166 ?_
                    obtain ⟨j47, hj47, h⟩ := Option.bind_eq_some_iff.mp h
                    rw [hj47]
                    obtain ⟨x48, hx48, h⟩ := Option.bind_eq_some_iff.mp h
                    refine ah_getI C gf_X8_299 hx48 dX8_count_169 ?_
                    cases h
                    exact aw_iret C rfl rfl dX8_count_172 (by omega) (by omega) ⟨rfl, rfl, rfl⟩
                  · rw [if_neg q] at h
                    have q8 := q
                    by_cases q : v1 = (9 : Int32)
                    · rw [if_pos q] at h
                      refine aw_top (9 : Int32) q ?_
                      refine aw_tabIn C (off := 172) 173 dX8_count_1 (by decide) (by decide) (by decide) (by decide) ?_
                      refine aw_ald_n C dX8_count_173 rfl ?_
                      obtain ⟨x49, hx49, h⟩ := Option.bind_eq_some_iff.mp h
                      refine ah_getR C gf_X8_21 hx49 dX8_count_174 ?_
                      obtain ⟨j50, hj50, h⟩ := Option.bind_eq_some_iff.mp h
                      rw [hj50]
                      obtain ⟨x51, hx51, h⟩ := Option.bind_eq_some_iff.mp h
                      refine ah_getI C gf_X8_302 hx51 dX8_count_177 ?_
                      cases h
                      exact aw_iret C rfl rfl dX8_count_180 (by omega) (by omega) ⟨rfl, rfl, rfl⟩
                    · rw [if_neg q] at h
                      have q9 := q
                      by_cases q : v1 = (10 : Int32)
                      · rw [if_pos q] at h
                        refine aw_top (10 : Int32) q ?_
                        refine aw_tabIn C (off := 180) 181 dX8_count_1 (by decide) (by decide) (by decide) (by decide) ?_
                        refine aw_ald_n C dX8_count_181 rfl ?_
                        obtain ⟨x52, hx52, h⟩ := Option.bind_eq_some_iff.mp h
                        refine ah_getR C gf_X8_38 hx52 dX8_count_182 ?_
                        obtain ⟨j53, hj53, h⟩ := Option.bind_eq_some_iff.mp h
                        rw [hj53]
                        obtain ⟨hb54, h⟩ := ck_some h
                        obtain ⟨r55, hr55, h⟩ := Option.bind_eq_some_iff.mp h
                        obtain ⟨fs56, hf56⟩ := isO_ex hb54
                        refine aw_callV C (ci := 1) (b := j53) [] mv_X8_305 rfl rfl hf56 (rmX1_unlikeCount hr55) rfl dX8_count_185 (Nat.le_of_ble_eq_true rfl) (Nat.le_of_ble_eq_true rfl) rfl (Nat.le_of_ble_eq_true rfl) (show 0 + 0 ≤ 0 by omega) (show 0 + 0 ≤ 0 by omega) (fun v9 f9 n9 hh => ?_)
                        obtain ⟨rfl, rfl, rfl⟩ := hh
                        cases h
                        exact aw_iret C rfl rfl dX8_count_188 (by omega) (by omega) ⟨rfl, rfl, rfl⟩
                      · rw [if_neg q] at h
                        have q10 := q
                        by_cases q : v1 = (11 : Int32)
                        · rw [if_pos q] at h
                          refine aw_top (11 : Int32) q ?_
                          refine aw_tabIn C (off := 188) 189 dX8_count_1 (by decide) (by decide) (by decide) (by decide) ?_
                          refine aw_ald_n C dX8_count_189 rfl ?_
                          obtain ⟨hb57, h⟩ := ck_some h
                          obtain ⟨r58, hr58, h⟩ := Option.bind_eq_some_iff.mp h
                          obtain ⟨fs59, hf59⟩ := isO_ex hb57
                          refine aw_callV C (ci := 8) (b := v0) [] mv_X8_308 rfl rfl hf59 (rmX8_countAllWords hr58) rfl dX8_count_190 (Nat.le_of_ble_eq_true rfl) (Nat.le_of_ble_eq_true rfl) rfl (Nat.le_of_ble_eq_true rfl) (show 0 + 0 ≤ 0 by omega) (show 0 + 0 ≤ 0 by omega) (fun v9 f9 n9 hh => ?_)
                          obtain ⟨rfl, rfl, rfl⟩ := hh
                          cases h
                          exact aw_iret C rfl rfl dX8_count_193 (by omega) (by omega) ⟨rfl, rfl, rfl⟩
                        · rw [if_neg q] at h
                          have q11 := q
                          by_cases q : v1 = (12 : Int32)
                          · rw [if_pos q] at h
                            refine aw_top (12 : Int32) q ?_
                            refine aw_tabIn C (off := 193) 194 dX8_count_1 (by decide) (by decide) (by decide) (by decide) ?_
                            refine aw_ald_n C dX8_count_194 rfl ?_
                            obtain ⟨x60, hx60, h⟩ := Option.bind_eq_some_iff.mp h
                            refine ah_getR C gf_X8_21 hx60 dX8_count_195 ?_
                            obtain ⟨j61, hj61, h⟩ := Option.bind_eq_some_iff.mp h
                            rw [hj61]
                            obtain ⟨x62, hx62, h⟩ := Option.bind_eq_some_iff.mp h
                            refine ah_getI C gf_X8_258 hx62 dX8_count_198 ?_
                            cases h
                            exact aw_iret C rfl rfl dX8_count_201 (by omega) (by omega) ⟨rfl, rfl, rfl⟩
                          · rw [if_neg q] at h
                            have q12 := q
                            by_cases q : v1 = (13 : Int32)
                            · rw [if_pos q] at h
                              refine aw_top (13 : Int32) q ?_
                              refine aw_tabIn C (off := 201) 202 dX8_count_1 (by decide) (by decide) (by decide) (by decide) ?_
                              refine aw_ald_n C dX8_count_202 rfl ?_
                              obtain ⟨x63, hx63, h⟩ := Option.bind_eq_some_iff.mp h
                              refine ah_getR C gf_X8_38 hx63 dX8_count_203 ?_
                              obtain ⟨j64, hj64, h⟩ := Option.bind_eq_some_iff.mp h
                              rw [hj64]
                              obtain ⟨hb65, h⟩ := ck_some h
                              obtain ⟨r66, hr66, h⟩ := Option.bind_eq_some_iff.mp h
                              obtain ⟨fs67, hf67⟩ := isO_ex hb65
                              refine aw_callV C (ci := 1) (b := j64) [] mv_X8_311 rfl rfl hf67 (rmX1_longestText hr66) rfl dX8_count_206 (Nat.le_of_ble_eq_true rfl) (Nat.le_of_ble_eq_true rfl) rfl (Nat.le_of_ble_eq_true rfl) (show 0 + 0 ≤ 0 by omega) (show 0 + 0 ≤ 0 by omega) (fun v9 f9 n9 hh => ?_)
                              obtain ⟨rfl, rfl, rfl⟩ := hh
                              cases h
                              exact aw_iret C rfl rfl dX8_count_209 (by omega) (by omega) ⟨rfl, rfl, rfl⟩
                            · rw [if_neg q] at h
                              have q13 := q
                              by_cases q : v1 = (14 : Int32)
                              · rw [if_pos q] at h
                                refine aw_top (14 : Int32) q ?_
                                refine aw_tabIn C (off := 209) 210 dX8_count_1 (by decide) (by decide) (by decide) (by decide) ?_
                                refine aw_ald_n C dX8_count_210 rfl ?_
                                obtain ⟨x68, hx68, h⟩ := Option.bind_eq_some_iff.mp h
                                refine ah_getI C gf_X8_123 hx68 dX8_count_211 ?_
                                cases h
                                exact aw_iret C rfl rfl dX8_count_214 (by omega) (by omega) ⟨rfl, rfl, rfl⟩
                              · rw [if_neg q] at h
                                have q14 := q
                                refine aw_tabOut C 215 dX8_count_1 (sx_out0_15 q0 q1 q2 q3 q4 q5 q6 q7 q8 q9 q10 q11 q12 q13 q14) (by decide) ?_
                                refine aw_iconst C (-1) dX8_count_215 ki_m1 ?_
                                cases h
                                exact aw_iret C rfl rfl dX8_count_216 (by omega) (by omega) ⟨rfl, rfl, rfl⟩
def mX4_start_b44 (s0 : Nat) (s1 : Int32) (f : AH) (n : Nat) : Option (Int32 × HpN) := rCk (rNb s1) (((pO f s0 4 0 (.int s1)).bind fun f2 => some ((0 : Int32), (f2, n))))
set_option maxHeartbeats 1000000 in
theorem rmX4_start_b44 {X : GX} {p : Program} {l : Launch} {e : Env} {s : State} {m : MethodId} {args : Array Value} {below : List Frame} {meth : Method} {c : Code} {r : Int32 × HpN} {s0 : Nat} {s1 : Int32} {f : AH} {n cells slots : Nat} (C : CC X p l (RM 1 0 0) s m args meth c RX4 cX4_start 2 none) (hc : cells + 0 ≤ 0) (hs : slots + 0 ≤ 0) (h : mX4_start_b44 s0 s1 f n = some r) : AW X p l e (RM 1 0 0) s m args below meth c 2 (ZM X below args s 0 0 (QHv r)) f n cells slots 44 [none, none] [.int s1, .ref s0] := by
  have h : rCk (rNb s1) (((pO f s0 4 0 (.int s1)).bind fun f2 => some ((0 : Int32), (f2, n)))) = some r := h
  obtain ⟨hb1, h⟩ := ck_some h
  obtain ⟨f2, hf2, h⟩ := Option.bind_eq_some_iff.mp h
  refine ah_put C gf_X4_32 cf4 nf4_0 (nb_nar hb1) (nb_fit hb1) hf2 dX4_start_44 ?_
  cases h
  exact aw_vret C rfl dX4_start_47 (by omega) (by omega) ⟨rfl, rfl, rfl⟩
def mX4_start (v0 : Nat) (v1 : Option Nat) (f : AH) (n : Nat) : Option (Int32 × HpN) := ((pO f v0 4 7 (va_rf v1)).bind fun f1 => ((gR f1 v0 4 7).bind fun x2 => ((gR f1 v0 4 7).bind fun x3 => ((x3).bind fun j4 => rCk (isO f1 j4 5) (((mX5_size j4 f1 n).bind fun r6 => ((x2).bind fun j8 => rCk (isO r6.2.1 j8 5) (((mX5_behindBlanks j8 (0 : Int32) r6.1 r6.2.1 r6.2.2).bind fun r10 => ((pO r10.2.1 v0 4 1 (.int r10.1)).bind fun f12 => ((gI f12 v0 4 1).bind fun x13 => ((gR f12 v0 4 7).bind fun x14 => ((x14).bind fun j15 => rCk (isO f12 j15 5) (((mX5_size j15 f12 r10.2.2).bind fun r17 => (if r17.1 ≤ x13 then mX4_start_b44 v0 (0 : Int32) r17.2.1 r17.2.2 else mX4_start_b44 v0 (1 : Int32) r17.2.1 r17.2.2))))))))))))))))
set_option maxHeartbeats 1000000 in
theorem rmX4_start {X : GX} {l : Launch} {r : Int32 × HpN} {v0 : Nat} {v1 : Option Nat} {f : AH} {n : Nat} (h : mX4_start v0 v1 f n = some r) : AM X l yX4_start cX4_start 2 none 1 0 0 [.ref v0, va_rf v1] f n (QHv r) := by
  have h : ((pO f v0 4 7 (va_rf v1)).bind fun f1 => ((gR f1 v0 4 7).bind fun x2 => ((gR f1 v0 4 7).bind fun x3 => ((x3).bind fun j4 => rCk (isO f1 j4 5) (((mX5_size j4 f1 n).bind fun r6 => ((x2).bind fun j8 => rCk (isO r6.2.1 j8 5) (((mX5_behindBlanks j8 (0 : Int32) r6.1 r6.2.1 r6.2.2).bind fun r10 => ((pO r10.2.1 v0 4 1 (.int r10.1)).bind fun f12 => ((gI f12 v0 4 1).bind fun x13 => ((gR f12 v0 4 7).bind fun x14 => ((x14).bind fun j15 => rCk (isO f12 j15 5) (((mX5_size j15 f12 r10.2.2).bind fun r17 => (if r17.1 ≤ x13 then mX4_start_b44 v0 (0 : Int32) r17.2.1 r17.2.2 else mX4_start_b44 v0 (1 : Int32) r17.2.1 r17.2.2)))))))))))))))) = some r := h
  refine AM.of (by decide +kernel) (all1 rfl (all1 (rf_cat _) rfl)) (Nat.le_of_ble_eq_true rfl) (fun p e s m args below meth c C hnm => ?_)
  refine aw_nl [some (.ref v0), some (va_rf v1)] rfl ?_
  refine aw_ald_n C dX4_start_0 rfl ?_
  refine aw_aload_n C dX4_start_1 rfl (rf_or v1) ?_
  obtain ⟨f1, hf1, h⟩ := Option.bind_eq_some_iff.mp h
  refine ah_put C gf_X4_14 cf4 nf4_7 (rf_nar _ v1) (rf_fit _ v1) hf1 dX4_start_2 ?_
  refine aw_ald_n C dX4_start_5 rfl ?_
  refine aw_ald_n C dX4_start_6 rfl ?_
  obtain ⟨x2, hx2, h⟩ := Option.bind_eq_some_iff.mp h
  refine ah_getR C gf_X4_14 hx2 dX4_start_7 ?_
  refine aw_iconst C 0 dX4_start_10 ki_0 ?_
  refine aw_ald_n C dX4_start_11 rfl ?_
  obtain ⟨x3, hx3, h⟩ := Option.bind_eq_some_iff.mp h
  refine ah_getR C gf_X4_14 hx3 dX4_start_12 ?_
  obtain ⟨j4, hj4, h⟩ := Option.bind_eq_some_iff.mp h
  rw [hj4]
  obtain ⟨hb5, h⟩ := ck_some h
  obtain ⟨r6, hr6, h⟩ := Option.bind_eq_some_iff.mp h
  obtain ⟨fs7, hf7⟩ := isO_ex hb5
  refine aw_callV C (ci := 5) (b := j4) [] mv_X4_20 rfl rfl hf7 (rmX5_size hr6) rfl dX4_start_15 (Nat.le_of_ble_eq_true rfl) (Nat.le_of_ble_eq_true rfl) rfl (cs_1 rfl (cs_1 (rf_cat _) (cs_1 rfl cs_0))) (show 0 + 0 ≤ 0 by omega) (show 0 + 0 ≤ 0 by omega) (fun v9 f9 n9 hh => ?_)
  obtain ⟨rfl, rfl, rfl⟩ := hh
  obtain ⟨j8, hj8, h⟩ := Option.bind_eq_some_iff.mp h
  rw [hj8]
  obtain ⟨hb9, h⟩ := ck_some h
  obtain ⟨r10, hr10, h⟩ := Option.bind_eq_some_iff.mp h
  obtain ⟨fs11, hf11⟩ := isO_ex hb9
  refine aw_callV C (ci := 5) (b := j8) [.int (0 : Int32), .int r6.1] mv_X4_24 rfl rfl hf11 (rmX5_behindBlanks hr10) rfl dX4_start_18 (Nat.le_of_ble_eq_true rfl) (Nat.le_of_ble_eq_true rfl) rfl (Nat.le_of_ble_eq_true rfl) (show (0 + 0) + 0 ≤ 0 by omega) (show (0 + 0) + 0 ≤ 0 by omega) (fun v9 f9 n9 hh => ?_)
  obtain ⟨rfl, rfl, rfl⟩ := hh
  obtain ⟨f12, hf12, h⟩ := Option.bind_eq_some_iff.mp h
  refine ah_put C gf_X4_28 cf4 nf4_1 rfl rfl hf12 dX4_start_21 ?_
  refine aw_ald_n C dX4_start_24 rfl ?_
  refine aw_ald_n C dX4_start_25 rfl ?_
  obtain ⟨x13, hx13, h⟩ := Option.bind_eq_some_iff.mp h
  refine ah_getI C gf_X4_28 hx13 dX4_start_26 ?_
  refine aw_ald_n C dX4_start_29 rfl ?_
  obtain ⟨x14, hx14, h⟩ := Option.bind_eq_some_iff.mp h
  refine ah_getR C gf_X4_14 hx14 dX4_start_30 ?_
  obtain ⟨j15, hj15, h⟩ := Option.bind_eq_some_iff.mp h
  rw [hj15]
  obtain ⟨hb16, h⟩ := ck_some h
  obtain ⟨r17, hr17, h⟩ := Option.bind_eq_some_iff.mp h
  obtain ⟨fs18, hf18⟩ := isO_ex hb16
  refine aw_callV C (ci := 5) (b := j15) [] mv_X4_20 rfl rfl hf18 (rmX5_size hr17) rfl dX4_start_33 (Nat.le_of_ble_eq_true rfl) (Nat.le_of_ble_eq_true rfl) rfl (Nat.le_of_ble_eq_true rfl) (show ((0 + 0) + 0) + 0 ≤ 0 by omega) (show ((0 + 0) + 0) + 0 ≤ 0 by omega) (fun v9 f9 n9 hh => ?_)
  obtain ⟨rfl, rfl, rfl⟩ := hh
  refine aw_icmp_ge C 43 dX4_start_36 (by decide) (fun q => ?_) (fun q => ?_)
  · rw [if_pos q] at h
    refine aw_iconst C 0 dX4_start_43 ki_0 ?_
    refine aw_fl [none, none] trivial ?_
    exact rmX4_start_b44 C (by omega) (by omega) h
  · rw [if_neg q] at h
    refine aw_iconst C 1 dX4_start_39 ki_1 ?_
    refine aw_goto C 44 dX4_start_40 (by decide) ?_
    refine aw_fl [none, none] trivial ?_
    exact rmX4_start_b44 C (by omega) (by omega) h
def mX4_lettersEnd_b42 (v1 : Int32) (f : AH) (n : Nat) : Option (Int32 × HpN) := some (v1, (f, n))
set_option maxHeartbeats 1000000 in
theorem rmX4_lettersEnd_b42 {X : GX} {p : Program} {l : Launch} {e : Env} {s : State} {m : MethodId} {args : Array Value} {below : List Frame} {meth : Method} {c : Code} {r : Int32 × HpN} {v1 : Int32} {f : AH} {n cells slots : Nat} (C : CC X p l (RM 1 0 0) s m args meth c RX4 cX4_lettersEnd 2 (some .int)) (hc : cells + 0 ≤ 0) (hs : slots + 0 ≤ 0) (h : mX4_lettersEnd_b42 v1 f n = some r) : AW X p l e (RM 1 0 0) s m args below meth c 2 (ZM X below args s 0 0 (QHi r)) f n cells slots 42 [none, some (.int v1)] [] := by
  have h : some (v1, (f, n)) = some r := h
  refine aw_iload_n C dX4_lettersEnd_42 rfl ?_
  cases h
  exact aw_iret C rfl rfl dX4_lettersEnd_43 (by omega) (by omega) ⟨rfl, rfl, rfl⟩
def mX4_lettersEnd_l5 : Nat → Nat → Int32 → AH → Nat → Option (Int32 × HpN)
  | 0, _, _, _, _ => none
  | d + 1, v0, v1, f, n => ((gR f v0 4 7).bind fun x1 => ((x1).bind fun j2 => rCk (isO f j2 5) (((mX5_size j2 f n).bind fun r4 => (if r4.1 ≤ v1 then ((gR r4.2.1 v0 4 7).bind fun x6 => ((x6).bind fun j7 => rCk (isO r4.2.1 j7 5) (((mX5_size j7 r4.2.1 r4.2.2).bind fun r9 => some (r9.1, (r9.2.1, r9.2.2)))))) else ((gR r4.2.1 v0 4 7).bind fun x11 => ((x11).bind fun j12 => rCk (isO r4.2.1 j12 5) (((mX5_get j12 v1 r4.2.1 r4.2.2).bind fun r14 => (if r14.1 < (97 : Int32) then mX4_lettersEnd_b42 v1 r14.2.1 r14.2.2 else ((gR r14.2.1 v0 4 7).bind fun x16 => ((x16).bind fun j17 => rCk (isO r14.2.1 j17 5) (((mX5_get j17 v1 r14.2.1 r14.2.2).bind fun r19 => (if r19.1 ≤ (122 : Int32) then mX4_lettersEnd_l5 d v0 (v1 + (1 : Int32)) r19.2.1 r19.2.2 else mX4_lettersEnd_b42 v1 r19.2.1 r19.2.2)))))))))))))))
set_option maxHeartbeats 1000000 in
theorem rmX4_lettersEnd_l5 {X : GX} {p : Program} {l : Launch} {e : Env} {s : State} {m : MethodId} {args : Array Value} {below : List Frame} {meth : Method} {c : Code} {r : Int32 × HpN} (C : CC X p l (RM 1 0 0) s m args meth c RX4 cX4_lettersEnd 2 (some .int)) : ∀ (d : Nat) (v0 : Nat) (v1 : Int32) (f : AH) (n cells slots : Nat) (_ : cells + 0 ≤ 0) (_ : slots + 0 ≤ 0) (_ : mX4_lettersEnd_l5 d v0 v1 f n = some r), AW X p l e (RM 1 0 0) s m args below meth c 2 (ZM X below args s 0 0 (QHi r)) f n cells slots 5 [some (.ref v0), some (.int v1)] [] := by
  intro d
  induction d with
  | zero =>
    intro v0 v1 f n cells slots hc hs h
    exact nomatch (show (none : Option (Int32 × HpN)) = some r from h)
  | succ d ih =>
    intro v0 v1 f n cells slots hc hs h
    have h : ((gR f v0 4 7).bind fun x1 => ((x1).bind fun j2 => rCk (isO f j2 5) (((mX5_size j2 f n).bind fun r4 => (if r4.1 ≤ v1 then ((gR r4.2.1 v0 4 7).bind fun x6 => ((x6).bind fun j7 => rCk (isO r4.2.1 j7 5) (((mX5_size j7 r4.2.1 r4.2.2).bind fun r9 => some (r9.1, (r9.2.1, r9.2.2)))))) else ((gR r4.2.1 v0 4 7).bind fun x11 => ((x11).bind fun j12 => rCk (isO r4.2.1 j12 5) (((mX5_get j12 v1 r4.2.1 r4.2.2).bind fun r14 => (if r14.1 < (97 : Int32) then mX4_lettersEnd_b42 v1 r14.2.1 r14.2.2 else ((gR r14.2.1 v0 4 7).bind fun x16 => ((x16).bind fun j17 => rCk (isO r14.2.1 j17 5) (((mX5_get j17 v1 r14.2.1 r14.2.2).bind fun r19 => (if r19.1 ≤ (122 : Int32) then mX4_lettersEnd_l5 d v0 (v1 + (1 : Int32)) r19.2.1 r19.2.2 else mX4_lettersEnd_b42 v1 r19.2.1 r19.2.2))))))))))))))) = some r := h
    refine aw_iload_n C dX4_lettersEnd_5 rfl ?_
    refine aw_ald_n C dX4_lettersEnd_6 rfl ?_
    obtain ⟨x1, hx1, h⟩ := Option.bind_eq_some_iff.mp h
    refine ah_getR C gf_X4_14 hx1 dX4_lettersEnd_7 ?_
    obtain ⟨j2, hj2, h⟩ := Option.bind_eq_some_iff.mp h
    rw [hj2]
    obtain ⟨hb3, h⟩ := ck_some h
    obtain ⟨r4, hr4, h⟩ := Option.bind_eq_some_iff.mp h
    obtain ⟨fs5, hf5⟩ := isO_ex hb3
    refine aw_callV C (ci := 5) (b := j2) [] mv_X4_20 rfl rfl hf5 (rmX5_size hr4) rfl dX4_lettersEnd_10 (Nat.le_of_ble_eq_true rfl) (Nat.le_of_ble_eq_true rfl) rfl (Nat.le_of_ble_eq_true rfl) (show cells + 0 ≤ 0 by omega) (show slots + 0 ≤ 0 by omega) (fun v9 f9 n9 hh => ?_)
    obtain ⟨rfl, rfl, rfl⟩ := hh
    refine aw_icmp_ge C 50 dX4_lettersEnd_13 (by decide) (fun q => ?_) (fun q => ?_)
    · rw [if_pos q] at h
      refine aw_ald_n C dX4_lettersEnd_50 rfl ?_
      obtain ⟨x6, hx6, h⟩ := Option.bind_eq_some_iff.mp h
      refine ah_getR C gf_X4_14 hx6 dX4_lettersEnd_51 ?_
      obtain ⟨j7, hj7, h⟩ := Option.bind_eq_some_iff.mp h
      rw [hj7]
      obtain ⟨hb8, h⟩ := ck_some h
      obtain ⟨r9, hr9, h⟩ := Option.bind_eq_some_iff.mp h
      obtain ⟨fs10, hf10⟩ := isO_ex hb8
      refine aw_callV C (ci := 5) (b := j7) [] mv_X4_20 rfl rfl hf10 (rmX5_size hr9) rfl dX4_lettersEnd_54 (Nat.le_of_ble_eq_true rfl) (Nat.le_of_ble_eq_true rfl) rfl (Nat.le_of_ble_eq_true rfl) (show (cells + 0) + 0 ≤ 0 by omega) (show (slots + 0) + 0 ≤ 0 by omega) (fun v9 f9 n9 hh => ?_)
      obtain ⟨rfl, rfl, rfl⟩ := hh
      cases h
      exact aw_iret C rfl rfl dX4_lettersEnd_57 (by omega) (by omega) ⟨rfl, rfl, rfl⟩
    · rw [if_neg q] at h
      refine aw_ald_n C dX4_lettersEnd_16 rfl ?_
      obtain ⟨x11, hx11, h⟩ := Option.bind_eq_some_iff.mp h
      refine ah_getR C gf_X4_14 hx11 dX4_lettersEnd_17 ?_
      refine aw_iload_n C dX4_lettersEnd_20 rfl ?_
      obtain ⟨j12, hj12, h⟩ := Option.bind_eq_some_iff.mp h
      rw [hj12]
      obtain ⟨hb13, h⟩ := ck_some h
      obtain ⟨r14, hr14, h⟩ := Option.bind_eq_some_iff.mp h
      obtain ⟨fs15, hf15⟩ := isO_ex hb13
      refine aw_callV C (ci := 5) (b := j12) [.int v1] mv_X4_36 rfl rfl hf15 (rmX5_get hr14) rfl dX4_lettersEnd_21 (Nat.le_of_ble_eq_true rfl) (Nat.le_of_ble_eq_true rfl) rfl (Nat.le_of_ble_eq_true rfl) (show (cells + 0) + 0 ≤ 0 by omega) (show (slots + 0) + 0 ≤ 0 by omega) (fun v9 f9 n9 hh => ?_)
      obtain ⟨rfl, rfl, rfl⟩ := hh
      refine aw_bipush C 97 dX4_lettersEnd_24 kb_97 ?_
      refine aw_icmp_lt C 42 dX4_lettersEnd_26 (by decide) (fun q => ?_) (fun q => ?_)
      · rw [if_pos q] at h
        refine aw_fl [none, some (.int v1)] ⟨rfl, trivial⟩ ?_
        exact rmX4_lettersEnd_b42 C (by omega) (by omega) h
      · rw [if_neg q] at h
        refine aw_ald_n C dX4_lettersEnd_29 rfl ?_
        obtain ⟨x16, hx16, h⟩ := Option.bind_eq_some_iff.mp h
        refine ah_getR C gf_X4_14 hx16 dX4_lettersEnd_30 ?_
        refine aw_iload_n C dX4_lettersEnd_33 rfl ?_
        obtain ⟨j17, hj17, h⟩ := Option.bind_eq_some_iff.mp h
        rw [hj17]
        obtain ⟨hb18, h⟩ := ck_some h
        obtain ⟨r19, hr19, h⟩ := Option.bind_eq_some_iff.mp h
        obtain ⟨fs20, hf20⟩ := isO_ex hb18
        refine aw_callV C (ci := 5) (b := j17) [.int v1] mv_X4_36 rfl rfl hf20 (rmX5_get hr19) rfl dX4_lettersEnd_34 (Nat.le_of_ble_eq_true rfl) (Nat.le_of_ble_eq_true rfl) rfl (Nat.le_of_ble_eq_true rfl) (show ((cells + 0) + 0) + 0 ≤ 0 by omega) (show ((slots + 0) + 0) + 0 ≤ 0 by omega) (fun v9 f9 n9 hh => ?_)
        obtain ⟨rfl, rfl, rfl⟩ := hh
        refine aw_bipush C 122 dX4_lettersEnd_37 kb_122 ?_
        refine aw_icmp_le C 44 dX4_lettersEnd_39 (by decide) (fun q => ?_) (fun q => ?_)
        · rw [if_pos q] at h
          refine aw_iinc C (v1 + (1 : Int32)) dX4_lettersEnd_44 rfl (by rw [ki_1]) (by decide) rfl ?_
          refine aw_nl [some (.ref v0), some (.int (v1 + (1 : Int32)))] rfl ?_
          refine aw_goto C 5 dX4_lettersEnd_47 (by decide) ?_
          refine aw_fl [some (.ref v0), some (.int (v1 + (1 : Int32)))] ⟨rfl, ⟨rfl, trivial⟩⟩ ?_
          exact ih v0 (v1 + (1 : Int32)) r19.2.1 r19.2.2 _ _ (by omega) (by omega) h
        · rw [if_neg q] at h
          refine aw_fl [none, some (.int v1)] ⟨rfl, trivial⟩ ?_
          exact rmX4_lettersEnd_b42 C (by omega) (by omega) h
def mX4_lettersEnd (v0 : Nat) (f : AH) (n : Nat) : Option (Int32 × HpN) := ((gI f v0 4 1).bind fun x1 => mX4_lettersEnd_l5 rFU v0 x1 f n)
set_option maxHeartbeats 1000000 in
theorem rmX4_lettersEnd {X : GX} {l : Launch} {r : Int32 × HpN} {v0 : Nat} {f : AH} {n : Nat} (h : mX4_lettersEnd v0 f n = some r) : AM X l yX4_lettersEnd cX4_lettersEnd 2 (some .int) 1 0 0 [.ref v0] f n (QHi r) := by
  have h : ((gI f v0 4 1).bind fun x1 => mX4_lettersEnd_l5 rFU v0 x1 f n) = some r := h
  refine AM.of (by decide +kernel) rfl (Nat.le_of_ble_eq_true rfl) (fun p e s m args below meth c C hnm => ?_)
  refine aw_nl [some (.ref v0), none] rfl ?_
  refine aw_ald_n C dX4_lettersEnd_0 rfl ?_
  obtain ⟨x1, hx1, h⟩ := Option.bind_eq_some_iff.mp h
  refine ah_getI C gf_X4_28 hx1 dX4_lettersEnd_1 ?_
  refine aw_istore_n C dX4_lettersEnd_4 (by decide) rfl ?_
  refine aw_nl [some (.ref v0), some (.int x1)] rfl ?_
  refine aw_fl [some (.ref v0), some (.int x1)] ⟨rfl, ⟨rfl, trivial⟩⟩ ?_
  exact rmX4_lettersEnd_l5 C rFU v0 x1 f n _ _ (by omega) (by omega) h
def mX4_nameOf (v0 : Int32) (f : AH) (n : Nat) : Option (Nat × HpN) := (if v0 = (0 : Int32) then some (0, (f, n)) else if v0 = (1 : Int32) then some (1, (f, n)) else if v0 = (2 : Int32) then some (2, (f, n)) else if v0 = (3 : Int32) then some (3, (f, n)) else if v0 = (4 : Int32) then some (4, (f, n)) else if v0 = (5 : Int32) then some (5, (f, n)) else if v0 = (6 : Int32) then some (6, (f, n)) else if v0 = (7 : Int32) then some (7, (f, n)) else if v0 = (8 : Int32) then some (8, (f, n)) else if v0 = (9 : Int32) then some (9, (f, n)) else if v0 = (10 : Int32) then some (10, (f, n)) else some (11, (f, n)))
set_option maxHeartbeats 1000000 in
theorem rmX4_nameOf {X : GX} {l : Launch} {r : Nat × HpN} {v0 : Int32} {f : AH} {n : Nat} (h : mX4_nameOf v0 f n = some r) : AM X l yX4_nameOf cX4_nameOf 1 (some (.object "java/lang/String")) 0 0 0 [.int v0] f n (QHs X r) := by
  have h : (if v0 = (0 : Int32) then some (0, (f, n)) else if v0 = (1 : Int32) then some (1, (f, n)) else if v0 = (2 : Int32) then some (2, (f, n)) else if v0 = (3 : Int32) then some (3, (f, n)) else if v0 = (4 : Int32) then some (4, (f, n)) else if v0 = (5 : Int32) then some (5, (f, n)) else if v0 = (6 : Int32) then some (6, (f, n)) else if v0 = (7 : Int32) then some (7, (f, n)) else if v0 = (8 : Int32) then some (8, (f, n)) else if v0 = (9 : Int32) then some (9, (f, n)) else if v0 = (10 : Int32) then some (10, (f, n)) else some (11, (f, n))) = some r := h
  refine AM.of (by decide +kernel) rfl (Nat.le_of_ble_eq_true rfl) (fun p e s m args below meth c C hnm => ?_)
  refine aw_nl [some (.int v0)] rfl ?_
  refine aw_iload_n C dX4_nameOf_0 rfl ?_
  by_cases q : v0 = (0 : Int32)
  · rw [if_pos q] at h
    refine aw_top (0 : Int32) q ?_
    refine aw_tabIn C (off := 59) 60 dX4_nameOf_1 (by decide) (by decide) (by decide) (by decide) ?_
    refine aw_ldcK C (C.2.2.2.2.2.2.1.2.2.2.2.2.2.2.2.2.1.2 0 (by decide)) dX4_nameOf_60 ?_
    cases h
    exact aw_sret C rfl dX4_nameOf_62 (by omega) (by omega) ⟨rfl, rfl, rfl⟩
  · rw [if_neg q] at h
    have q0 := q
    by_cases q : v0 = (1 : Int32)
    · rw [if_pos q] at h
      refine aw_top (1 : Int32) q ?_
      refine aw_tabIn C (off := 62) 63 dX4_nameOf_1 (by decide) (by decide) (by decide) (by decide) ?_
      refine aw_ldcK C (C.2.2.2.2.2.2.1.2.2.2.2.2.2.2.2.2.1.2 1 (by decide)) dX4_nameOf_63 ?_
      cases h
      exact aw_sret C rfl dX4_nameOf_65 (by omega) (by omega) ⟨rfl, rfl, rfl⟩
    · rw [if_neg q] at h
      have q1 := q
      by_cases q : v0 = (2 : Int32)
      · rw [if_pos q] at h
        refine aw_top (2 : Int32) q ?_
        refine aw_tabIn C (off := 65) 66 dX4_nameOf_1 (by decide) (by decide) (by decide) (by decide) ?_
        refine aw_ldcK C (C.2.2.2.2.2.2.1.2.2.2.2.2.2.2.2.2.1.2 2 (by decide)) dX4_nameOf_66 ?_
        cases h
        exact aw_sret C rfl dX4_nameOf_68 (by omega) (by omega) ⟨rfl, rfl, rfl⟩
      · rw [if_neg q] at h
        have q2 := q
        by_cases q : v0 = (3 : Int32)
        · rw [if_pos q] at h
          refine aw_top (3 : Int32) q ?_
          refine aw_tabIn C (off := 68) 69 dX4_nameOf_1 (by decide) (by decide) (by decide) (by decide) ?_
          refine aw_ldcK C (C.2.2.2.2.2.2.1.2.2.2.2.2.2.2.2.2.1.2 3 (by decide)) dX4_nameOf_69 ?_
          cases h
          exact aw_sret C rfl dX4_nameOf_71 (by omega) (by omega) ⟨rfl, rfl, rfl⟩
        · rw [if_neg q] at h
          have q3 := q
          by_cases q : v0 = (4 : Int32)
          · rw [if_pos q] at h
            refine aw_top (4 : Int32) q ?_
            refine aw_tabIn C (off := 71) 72 dX4_nameOf_1 (by decide) (by decide) (by decide) (by decide) ?_
            refine aw_ldcK C (C.2.2.2.2.2.2.1.2.2.2.2.2.2.2.2.2.1.2 4 (by decide)) dX4_nameOf_72 ?_
            cases h
            exact aw_sret C rfl dX4_nameOf_74 (by omega) (by omega) ⟨rfl, rfl, rfl⟩
          · rw [if_neg q] at h
            have q4 := q
            by_cases q : v0 = (5 : Int32)
            · rw [if_pos q] at h
              refine aw_top (5 : Int32) q ?_
              refine aw_tabIn C (off := 74) 75 dX4_nameOf_1 (by decide) (by decide) (by decide) (by decide) ?_
              refine aw_ldcK C (C.2.2.2.2.2.2.1.2.2.2.2.2.2.2.2.2.1.2 5 (by decide)) dX4_nameOf_75 ?_
              cases h
              exact aw_sret C rfl dX4_nameOf_77 (by omega) (by omega) ⟨rfl, rfl, rfl⟩
            · rw [if_neg q] at h
              have q5 := q
              by_cases q : v0 = (6 : Int32)
              · rw [if_pos q] at h
                refine aw_top (6 : Int32) q ?_
                refine aw_tabIn C (off := 77) 78 dX4_nameOf_1 (by decide) (by decide) (by decide) (by decide) ?_
                refine aw_ldcK C (C.2.2.2.2.2.2.1.2.2.2.2.2.2.2.2.2.1.2 6 (by decide)) dX4_nameOf_78 ?_
                cases h
                exact aw_sret C rfl dX4_nameOf_80 (by omega) (by omega) ⟨rfl, rfl, rfl⟩
              · rw [if_neg q] at h
                have q6 := q
                by_cases q : v0 = (7 : Int32)
                · rw [if_pos q] at h
                  refine aw_top (7 : Int32) q ?_
                  refine aw_tabIn C (off := 80) 81 dX4_nameOf_1 (by decide) (by decide) (by decide) (by decide) ?_
                  refine aw_ldcK C (C.2.2.2.2.2.2.1.2.2.2.2.2.2.2.2.2.1.2 7 (by decide)) dX4_nameOf_81 ?_
                  cases h
                  exact aw_sret C rfl dX4_nameOf_83 (by omega) (by omega) ⟨rfl, rfl, rfl⟩
                · rw [if_neg q] at h
                  have q7 := q
                  by_cases q : v0 = (8 : Int32)
                  · rw [if_pos q] at h
                    refine aw_top (8 : Int32) q ?_
                    refine aw_tabIn C (off := 83) 84 dX4_nameOf_1 (by decide) (by decide) (by decide) (by decide) ?_
                    refine aw_ldcK C (C.2.2.2.2.2.2.1.2.2.2.2.2.2.2.2.2.1.2 8 (by decide)) dX4_nameOf_84 ?_
                    cases h
                    exact aw_sret C rfl dX4_nameOf_86 (by omega) (by omega) ⟨rfl, rfl, rfl⟩
                  · rw [if_neg q] at h
                    have q8 := q
                    by_cases q : v0 = (9 : Int32)
                    · rw [if_pos q] at h
                      refine aw_top (9 : Int32) q ?_
                      refine aw_tabIn C (off := 86) 87 dX4_nameOf_1 (by decide) (by decide) (by decide) (by decide) ?_
                      refine aw_ldcK C (C.2.2.2.2.2.2.1.2.2.2.2.2.2.2.2.2.1.2 9 (by decide)) dX4_nameOf_87 ?_
                      cases h
                      exact aw_sret C rfl dX4_nameOf_89 (by omega) (by omega) ⟨rfl, rfl, rfl⟩
                    · rw [if_neg q] at h
                      have q9 := q
                      by_cases q : v0 = (10 : Int32)
                      · rw [if_pos q] at h
                        refine aw_top (10 : Int32) q ?_
                        refine aw_tabIn C (off := 89) 90 dX4_nameOf_1 (by decide) (by decide) (by decide) (by decide) ?_
                        refine aw_ldcK C (C.2.2.2.2.2.2.1.2.2.2.2.2.2.2.2.2.1.2 10 (by decide)) dX4_nameOf_90 ?_
                        cases h
                        exact aw_sret C rfl dX4_nameOf_92 (by omega) (by omega) ⟨rfl, rfl, rfl⟩
                      · rw [if_neg q] at h
                        have q10 := q
                        refine aw_tabOut C 93 dX4_nameOf_1 (sx_out0_11 q0 q1 q2 q3 q4 q5 q6 q7 q8 q9 q10) (by decide) ?_
                        refine aw_ldcK C (C.2.2.2.2.2.2.1.2.2.2.2.2.2.2.2.2.1.2 11 (by decide)) dX4_nameOf_93 ?_
                        cases h
                        exact aw_sret C rfl dX4_nameOf_95 (by omega) (by omega) ⟨rfl, rfl, rfl⟩
def mX5_isText_b53 (f : AH) (n : Nat) : Option (Int32 × HpN) := rCk (rNb (1 : Int32)) (some ((1 : Int32), (f, n)))
set_option maxHeartbeats 1000000 in
theorem rmX5_isText_b53 {X : GX} {p : Program} {l : Launch} {e : Env} {s : State} {m : MethodId} {args : Array Value} {below : List Frame} {meth : Method} {c : Code} {r : Int32 × HpN} {f : AH} {n cells slots : Nat} (C : CC X p l (RM 4 0 0) s m args meth c RX5 cX5_isText 5 (some .boolean)) (hc : cells + 0 ≤ 0) (hs : slots + 0 ≤ 0) (h : mX5_isText_b53 f n = some r) : AW X p l e (RM 4 0 0) s m args below meth c 5 (ZM X below args s 0 0 (QHi r)) f n cells slots 53 [none, none, none, none, none] [] := by
  have h : rCk (rNb (1 : Int32)) (some ((1 : Int32), (f, n))) = some r := h
  refine aw_iconst C 1 dX5_isText_53 ki_1 ?_
  obtain ⟨hb1, h⟩ := ck_some h
  cases h
  exact aw_iret C rfl (nb_nar hb1) dX5_isText_54 (by omega) (by omega) ⟨rfl, rfl, rfl⟩
def mX5_isText_l13 : Nat → Nat → Int32 → Int32 → Nat → Int32 → AH → Nat → Option (Int32 × HpN)
  | 0, _, _, _, _, _, _, _ => none
  | d + 1, v0, v1, v2, v3, v4, f, n => (if v2 ≤ v4 then mX5_isText_b53 f n else (if (st4L v3) ≤ v4 then mX5_isText_b53 f n else rCk (isO f v0 5) (((mX5_get v0 (v1 + v4) f n).bind fun r2 => rCk (rIn v4 (sL4.getD v3 0)) ((if r2.1 = (st4C v3 v4) then mX5_isText_l13 d v0 v1 v2 v3 (v4 + (1 : Int32)) r2.2.1 r2.2.2 else rCk (rNb (0 : Int32)) (some ((0 : Int32), (r2.2.1, r2.2.2)))))))))
set_option maxHeartbeats 1000000 in
theorem rmX5_isText_l13 {X : GX} {p : Program} {l : Launch} {e : Env} {s : State} {m : MethodId} {args : Array Value} {below : List Frame} {meth : Method} {c : Code} {r : Int32 × HpN} (C : CC X p l (RM 4 0 0) s m args meth c RX5 cX5_isText 5 (some .boolean)) : ∀ (d : Nat) (v0 : Nat) (v1 : Int32) (v2 : Int32) (v3 : Nat) (v4 : Int32) (f : AH) (n cells slots : Nat) (_ : cells + 0 ≤ 0) (_ : slots + 0 ≤ 0) (_ : v3 < 12) (_ : mX5_isText_l13 d v0 v1 v2 v3 v4 f n = some r), AW X p l e (RM 4 0 0) s m args below meth c 5 (ZM X below args s 0 0 (QHi r)) f n cells slots 13 [some (.ref v0), some (.int v1), some (.int v2), some (.retAddr (X.2.2 (3000 + v3))), some (.int v4)] [] := by
  intro d
  induction d with
  | zero =>
    intro v0 v1 v2 v3 v4 f n cells slots hc hs is3 h
    exact nomatch (show (none : Option (Int32 × HpN)) = some r from h)
  | succ d ih =>
    intro v0 v1 v2 v3 v4 f n cells slots hc hs is3 h
    have h : (if v2 ≤ v4 then mX5_isText_b53 f n else (if (st4L v3) ≤ v4 then mX5_isText_b53 f n else rCk (isO f v0 5) (((mX5_get v0 (v1 + v4) f n).bind fun r2 => rCk (rIn v4 (sL4.getD v3 0)) ((if r2.1 = (st4C v3 v4) then mX5_isText_l13 d v0 v1 v2 v3 (v4 + (1 : Int32)) r2.2.1 r2.2.2 else rCk (rNb (0 : Int32)) (some ((0 : Int32), (r2.2.1, r2.2.2))))))))) = some r := h
    refine aw_iload C dX5_isText_13 rfl ?_
    refine aw_iload_n C dX5_isText_15 rfl ?_
    refine aw_icmp_ge C 53 dX5_isText_16 (by decide) (fun q => ?_) (fun q => ?_)
    · rw [if_pos q] at h
      refine aw_fl [none, none, none, none, none] trivial ?_
      exact rmX5_isText_b53 C (by omega) (by omega) h
    · rw [if_neg q] at h
      refine aw_iload C dX5_isText_19 rfl ?_
      refine aw_raw_n C dX5_isText_21 rfl ?_
      refine ah_slen C is3 dX5_isText_22 (Nat.le_of_ble_eq_true rfl) (Nat.le_of_ble_eq_true rfl) (Nat.le_of_ble_eq_true rfl) (show _ + 0 ≤ 0 by omega) (show _ + 0 ≤ 0 by omega) ?_
      refine aw_icmp_ge C 53 dX5_isText_25 (by decide) (fun q => ?_) (fun q => ?_)
      · rw [if_pos q] at h
        refine aw_fl [none, none, none, none, none] trivial ?_
        exact rmX5_isText_b53 C (by omega) (by omega) h
      · rw [if_neg q] at h
        refine aw_ald_n C dX5_isText_28 rfl ?_
        refine aw_iload_n C dX5_isText_29 rfl ?_
        refine aw_iload C dX5_isText_30 rfl ?_
        refine aw_iadd C dX5_isText_32 ?_
        obtain ⟨hb1, h⟩ := ck_some h
        obtain ⟨r2, hr2, h⟩ := Option.bind_eq_some_iff.mp h
        obtain ⟨fs3, hf3⟩ := isO_ex hb1
        refine aw_callV C (ci := 5) (b := v0) [.int (v1 + v4)] mv_X5_19 rfl rfl hf3 (rmX5_get hr2) rfl dX5_isText_33 (Nat.le_of_ble_eq_true rfl) (Nat.le_of_ble_eq_true rfl) rfl (Nat.le_of_ble_eq_true rfl) (show cells + 0 ≤ 0 by omega) (show slots + 0 ≤ 0 by omega) (fun v9 f9 n9 hh => ?_)
        obtain ⟨rfl, rfl, rfl⟩ := hh
        refine aw_raw_n C dX5_isText_36 rfl ?_
        refine aw_iload C dX5_isText_37 rfl ?_
        obtain ⟨hb4, h⟩ := ck_some h
        refine ah_schr C is3 hb4 dX5_isText_39 (Nat.le_of_ble_eq_true rfl) (Nat.le_of_ble_eq_true rfl) (Nat.le_of_ble_eq_true rfl) (show _ + 0 ≤ 0 by omega) (show _ + 0 ≤ 0 by omega) ?_
        refine aw_icmp_eq C 47 dX5_isText_42 (by decide) (fun q => ?_) (fun q => ?_)
        · rw [if_pos q] at h
          refine aw_iinc C (v4 + (1 : Int32)) dX5_isText_47 rfl (by rw [ki_1]) (by decide) rfl ?_
          refine aw_nl [some (.ref v0), some (.int v1), some (.int v2), some (.retAddr (X.2.2 (3000 + v3))), some (.int (v4 + (1 : Int32)))] rfl ?_
          refine aw_goto C 13 dX5_isText_50 (by decide) ?_
          refine aw_fl [some (.ref v0), some (.int v1), some (.int v2), some (.retAddr (X.2.2 (3000 + v3))), some (.int (v4 + (1 : Int32)))] ⟨rfl, ⟨rfl, ⟨rfl, ⟨rfl, ⟨rfl, trivial⟩⟩⟩⟩⟩ ?_
          exact ih v0 v1 v2 v3 (v4 + (1 : Int32)) r2.2.1 r2.2.2 _ _ (by omega) (by omega) is3 h
        · rw [if_neg q] at h
          refine aw_iconst C 0 dX5_isText_45 ki_0 ?_
          obtain ⟨hb5, h⟩ := ck_some h
          cases h
          exact aw_iret C rfl (nb_nar hb5) dX5_isText_46 (by omega) (by omega) ⟨rfl, rfl, rfl⟩
def mX5_isText (v0 : Nat) (v1 : Int32) (v2 : Int32) (v3 : Nat) (f : AH) (n : Nat) : Option (Int32 × HpN) := (if v2 = (st4L v3) then mX5_isText_l13 rFU v0 v1 v2 v3 (0 : Int32) f n else rCk (rNb (0 : Int32)) (some ((0 : Int32), (f, n))))
set_option maxHeartbeats 1000000 in
theorem rmX5_isText {X : GX} {l : Launch} {r : Int32 × HpN} {v0 : Nat} {v1 : Int32} {v2 : Int32} {v3 : Nat} {f : AH} {n : Nat} (is3 : v3 < 12) (h : mX5_isText v0 v1 v2 v3 f n = some r) : AM X l yX5_isText cX5_isText 5 (some .boolean) 4 0 0 [.ref v0, .int v1, .int v2, .retAddr (X.2.2 (3000 + v3))] f n (QHi r) := by
  have h : (if v2 = (st4L v3) then mX5_isText_l13 rFU v0 v1 v2 v3 (0 : Int32) f n else rCk (rNb (0 : Int32)) (some ((0 : Int32), (f, n)))) = some r := h
  refine AM.of (by decide +kernel) rfl (Nat.le_of_ble_eq_true rfl) (fun p e s m args below meth c C hnm => ?_)
  refine aw_nl [some (.ref v0), some (.int v1), some (.int v2), some (.retAddr (X.2.2 (3000 + v3))), none] rfl ?_
  refine aw_iload_n C dX5_isText_0 rfl ?_
  refine aw_raw_n C dX5_isText_1 rfl ?_
  refine ah_slen C is3 dX5_isText_2 (Nat.le_of_ble_eq_true rfl) (Nat.le_of_ble_eq_true rfl) (Nat.le_of_ble_eq_true rfl) (show _ + 0 ≤ 0 by omega) (show _ + 0 ≤ 0 by omega) ?_
  refine aw_icmp_eq C 10 dX5_isText_5 (by decide) (fun q => ?_) (fun q => ?_)
  · rw [if_pos q] at h
    refine aw_iconst C 0 dX5_isText_10 ki_0 ?_
    refine aw_istore C dX5_isText_11 (by decide) rfl ?_
    refine aw_nl [some (.ref v0), some (.int v1), some (.int v2), some (.retAddr (X.2.2 (3000 + v3))), some (.int (0 : Int32))] rfl ?_
    refine aw_fl [some (.ref v0), some (.int v1), some (.int v2), some (.retAddr (X.2.2 (3000 + v3))), some (.int (0 : Int32))] ⟨rfl, ⟨rfl, ⟨rfl, ⟨rfl, ⟨rfl, trivial⟩⟩⟩⟩⟩ ?_
    exact rmX5_isText_l13 C rFU v0 v1 v2 v3 (0 : Int32) f n _ _ (by omega) (by omega) is3 h
  · rw [if_neg q] at h
    refine aw_iconst C 0 dX5_isText_8 ki_0 ?_
    obtain ⟨hb1, h⟩ := ck_some h
    cases h
    exact aw_iret C rfl (nb_nar hb1) dX5_isText_9 (by omega) (by omega) ⟨rfl, rfl, rfl⟩
def mX4_actNamed_l2 : Nat → Nat → Int32 → Int32 → Int32 → AH → Nat → Option (Int32 × HpN)
  | 0, _, _, _, _, _, _ => none
  | d + 1, v0, v1, v2, v3, f, n => (if (11 : Int32) < v3 then some ((-1 : Int32), (f, n)) else ((gR f v0 4 7).bind fun x1 => ((mX4_nameOf v3 f n).bind fun r2 => ((x1).bind fun j3 => rCk (decide (r2.1 < 12)) (rCk (isO r2.2.1 j3 5) (((mX5_isText j3 v1 v2 r2.1 r2.2.1 r2.2.2).bind fun r6 => (if r6.1 = (0 : Int32) then mX4_actNamed_l2 d v0 v1 v2 (v3 + (1 : Int32)) r6.2.1 r6.2.2 else some (v3, (r6.2.1, r6.2.2))))))))))
set_option maxHeartbeats 1000000 in
theorem rmX4_actNamed_l2 {X : GX} {p : Program} {l : Launch} {e : Env} {s : State} {m : MethodId} {args : Array Value} {below : List Frame} {meth : Method} {c : Code} {r : Int32 × HpN} (C : CC X p l (RM 5 0 0) s m args meth c RX4 cX4_actNamed 4 (some .int)) : ∀ (d : Nat) (v0 : Nat) (v1 : Int32) (v2 : Int32) (v3 : Int32) (f : AH) (n cells slots : Nat) (_ : cells + 0 ≤ 0) (_ : slots + 0 ≤ 0) (_ : mX4_actNamed_l2 d v0 v1 v2 v3 f n = some r), AW X p l e (RM 5 0 0) s m args below meth c 4 (ZM X below args s 0 0 (QHi r)) f n cells slots 2 [some (.ref v0), some (.int v1), some (.int v2), some (.int v3)] [] := by
  intro d
  induction d with
  | zero =>
    intro v0 v1 v2 v3 f n cells slots hc hs h
    exact nomatch (show (none : Option (Int32 × HpN)) = some r from h)
  | succ d ih =>
    intro v0 v1 v2 v3 f n cells slots hc hs h
    have h : (if (11 : Int32) < v3 then some ((-1 : Int32), (f, n)) else ((gR f v0 4 7).bind fun x1 => ((mX4_nameOf v3 f n).bind fun r2 => ((x1).bind fun j3 => rCk (decide (r2.1 < 12)) (rCk (isO r2.2.1 j3 5) (((mX5_isText j3 v1 v2 r2.1 r2.2.1 r2.2.2).bind fun r6 => (if r6.1 = (0 : Int32) then mX4_actNamed_l2 d v0 v1 v2 (v3 + (1 : Int32)) r6.2.1 r6.2.2 else some (v3, (r6.2.1, r6.2.2)))))))))) = some r := h
    refine aw_iload_n C dX4_actNamed_2 rfl ?_
    refine aw_bipush C 11 dX4_actNamed_3 kb_11 ?_
    refine aw_icmp_gt C 32 dX4_actNamed_5 (by decide) (fun q => ?_) (fun q => ?_)
    · rw [if_pos q] at h
      refine aw_iconst C (-1) dX4_actNamed_32 ki_m1 ?_
      cases h
      exact aw_iret C rfl rfl dX4_actNamed_33 (by omega) (by omega) ⟨rfl, rfl, rfl⟩
    · rw [if_neg q] at h
      refine aw_ald_n C dX4_actNamed_8 rfl ?_
      obtain ⟨x1, hx1, h⟩ := Option.bind_eq_some_iff.mp h
      refine ah_getR C gf_X4_14 hx1 dX4_actNamed_9 ?_
      refine aw_iload_n C dX4_actNamed_12 rfl ?_
      refine aw_iload_n C dX4_actNamed_13 rfl ?_
      refine aw_iload_n C dX4_actNamed_14 rfl ?_
      obtain ⟨r2, hr2, h⟩ := Option.bind_eq_some_iff.mp h
      refine aw_callS C [.int v3] ms_X4_58 (rmX4_nameOf hr2) rfl dX4_actNamed_15 (Nat.le_of_ble_eq_true rfl) (Nat.le_of_ble_eq_true rfl) rfl (cs_1 rfl (cs_1 rfl (cs_1 (rf_cat _) cs_0))) (show cells + 0 ≤ 0 by omega) (show slots + 0 ≤ 0 by omega) (fun v9 f9 n9 hh => ?_)
      obtain ⟨rfl, rfl, rfl⟩ := hh
      obtain ⟨j3, hj3, h⟩ := Option.bind_eq_some_iff.mp h
      rw [hj3]
      obtain ⟨hb4, h⟩ := ck_some h
      obtain ⟨hb5, h⟩ := ck_some h
      obtain ⟨r6, hr6, h⟩ := Option.bind_eq_some_iff.mp h
      obtain ⟨fs7, hf7⟩ := isO_ex hb5
      refine aw_callV C (ci := 5) (b := j3) [.int v1, .int v2, .retAddr (X.2.2 (3000 + r2.1))] mv_X4_62 rfl rfl hf7 (rmX5_isText (of_decide_eq_true hb4) hr6) rfl dX4_actNamed_18 (Nat.le_of_ble_eq_true rfl) (Nat.le_of_ble_eq_true rfl) rfl (Nat.le_of_ble_eq_true rfl) (show (cells + 0) + 0 ≤ 0 by omega) (show (slots + 0) + 0 ≤ 0 by omega) (fun v9 f9 n9 hh => ?_)
      obtain ⟨rfl, rfl, rfl⟩ := hh
      refine aw_if_eq C 26 dX4_actNamed_21 (by decide) (fun q => ?_) (fun q => ?_)
      · rw [if_pos q] at h
        refine aw_iinc C (v3 + (1 : Int32)) dX4_actNamed_26 rfl (by rw [ki_1]) (by decide) rfl ?_
        refine aw_nl [some (.ref v0), some (.int v1), some (.int v2), some (.int (v3 + (1 : Int32)))] rfl ?_
        refine aw_goto C 2 dX4_actNamed_29 (by decide) ?_
        refine aw_fl [some (.ref v0), some (.int v1), some (.int v2), some (.int (v3 + (1 : Int32)))] ⟨rfl, ⟨rfl, ⟨rfl, ⟨rfl, trivial⟩⟩⟩⟩ ?_
        exact ih v0 v1 v2 (v3 + (1 : Int32)) r6.2.1 r6.2.2 _ _ (by omega) (by omega) h
      · rw [if_neg q] at h
        refine aw_iload_n C dX4_actNamed_24 rfl ?_
        cases h
        exact aw_iret C rfl rfl dX4_actNamed_25 (by omega) (by omega) ⟨rfl, rfl, rfl⟩
def mX4_actNamed (v0 : Nat) (v1 : Int32) (v2 : Int32) (f : AH) (n : Nat) : Option (Int32 × HpN) := mX4_actNamed_l2 rFU v0 v1 v2 (0 : Int32) f n
set_option maxHeartbeats 1000000 in
theorem rmX4_actNamed {X : GX} {l : Launch} {r : Int32 × HpN} {v0 : Nat} {v1 : Int32} {v2 : Int32} {f : AH} {n : Nat} (h : mX4_actNamed v0 v1 v2 f n = some r) : AM X l yX4_actNamed cX4_actNamed 4 (some .int) 5 0 0 [.ref v0, .int v1, .int v2] f n (QHi r) := by
  have h : mX4_actNamed_l2 rFU v0 v1 v2 (0 : Int32) f n = some r := h
  refine AM.of (by decide +kernel) rfl (Nat.le_of_ble_eq_true rfl) (fun p e s m args below meth c C hnm => ?_)
  refine aw_nl [some (.ref v0), some (.int v1), some (.int v2), none] rfl ?_
  refine aw_iconst C 0 dX4_actNamed_0 ki_0 ?_
  refine aw_istore_n C dX4_actNamed_1 (by decide) rfl ?_
  refine aw_nl [some (.ref v0), some (.int v1), some (.int v2), some (.int (0 : Int32))] rfl ?_
  refine aw_fl [some (.ref v0), some (.int v1), some (.int v2), some (.int (0 : Int32))] ⟨rfl, ⟨rfl, ⟨rfl, ⟨rfl, trivial⟩⟩⟩⟩ ?_
  exact rmX4_actNamed_l2 C rFU v0 v1 v2 (0 : Int32) f n _ _ (by omega) (by omega) h
end
/-! part 32ao.cls -/
section
def mX4_readNumber_b157 (s0 : Int32) (f : AH) (n : Nat) : Option (Int32 × HpN) := some (s0, (f, n))
set_option maxHeartbeats 1000000 in
theorem rmX4_readNumber_b157 {X : GX} {p : Program} {l : Launch} {e : Env} {s : State} {m : MethodId} {args : Array Value} {below : List Frame} {meth : Method} {c : Code} {r : Int32 × HpN} {s0 : Int32} {f : AH} {n cells slots : Nat} (C : CC X p l (RM 1 0 0) s m args meth c RX4 cX4_readNumber 6 (some .int)) (hc : cells + 0 ≤ 0) (hs : slots + 0 ≤ 0) (h : mX4_readNumber_b157 s0 f n = some r) : AW X p l e (RM 1 0 0) s m args below meth c 6 (ZM X below args s 0 0 (QHi r)) f n cells slots 157 [none, none, none, none, none, none] [.int s0] := by
  have h : some (s0, (f, n)) = some r := h
  cases h
  exact aw_iret C rfl rfl dX4_readNumber_157 (by omega) (by omega) ⟨rfl, rfl, rfl⟩
def mX4_readNumber_b156 (v3 : Int32) (f : AH) (n : Nat) : Option (Int32 × HpN) := mX4_readNumber_b157 v3 f n
set_option maxHeartbeats 1000000 in
theorem rmX4_readNumber_b156 {X : GX} {p : Program} {l : Launch} {e : Env} {s : State} {m : MethodId} {args : Array Value} {below : List Frame} {meth : Method} {c : Code} {r : Int32 × HpN} {v3 : Int32} {f : AH} {n cells slots : Nat} (C : CC X p l (RM 1 0 0) s m args meth c RX4 cX4_readNumber 6 (some .int)) (hc : cells + 0 ≤ 0) (hs : slots + 0 ≤ 0) (h : mX4_readNumber_b156 v3 f n = some r) : AW X p l e (RM 1 0 0) s m args below meth c 6 (ZM X below args s 0 0 (QHi r)) f n cells slots 156 [none, none, none, some (.int v3), none, none] [] := by
  have h : mX4_readNumber_b157 v3 f n = some r := h
  refine aw_iload_n C dX4_readNumber_156 rfl ?_
  refine aw_fl [none, none, none, none, none, none] trivial ?_
  exact rmX4_readNumber_b157 C (by omega) (by omega) h
def mX4_readNumber_b116 (v0 : Nat) (v1 : Int32) (v2 : Int32) (v3 : Int32) (v4 : Int32) (f : AH) (n : Nat) : Option (Int32 × HpN) := ((pO f v0 4 1 (.int (v3 + v4))).bind fun f1 => (if v4 < (1 : Int32) then mX4_readNumber_b156 v3 f1 n else (if (2 : Int32) < v4 then mX4_readNumber_b156 v3 f1 n else ((gI f1 v0 4 6).bind fun x2 => (if x2 < v1 then mX4_readNumber_b156 v3 f1 n else ((gI f1 v0 4 6).bind fun x3 => (if v2 < x3 then mX4_readNumber_b156 v3 f1 n else mX4_readNumber_b157 (-1 : Int32) f1 n)))))))
set_option maxHeartbeats 1000000 in
theorem rmX4_readNumber_b116 {X : GX} {p : Program} {l : Launch} {e : Env} {s : State} {m : MethodId} {args : Array Value} {below : List Frame} {meth : Method} {c : Code} {r : Int32 × HpN} {v0 : Nat} {v1 : Int32} {v2 : Int32} {v3 : Int32} {v4 : Int32} {f : AH} {n cells slots : Nat} (C : CC X p l (RM 1 0 0) s m args meth c RX4 cX4_readNumber 6 (some .int)) (hc : cells + 0 ≤ 0) (hs : slots + 0 ≤ 0) (h : mX4_readNumber_b116 v0 v1 v2 v3 v4 f n = some r) : AW X p l e (RM 1 0 0) s m args below meth c 6 (ZM X below args s 0 0 (QHi r)) f n cells slots 116 [some (.ref v0), some (.int v1), some (.int v2), some (.int v3), some (.int v4), none] [] := by
  have h : ((pO f v0 4 1 (.int (v3 + v4))).bind fun f1 => (if v4 < (1 : Int32) then mX4_readNumber_b156 v3 f1 n else (if (2 : Int32) < v4 then mX4_readNumber_b156 v3 f1 n else ((gI f1 v0 4 6).bind fun x2 => (if x2 < v1 then mX4_readNumber_b156 v3 f1 n else ((gI f1 v0 4 6).bind fun x3 => (if v2 < x3 then mX4_readNumber_b156 v3 f1 n else mX4_readNumber_b157 (-1 : Int32) f1 n))))))) = some r := h
  refine aw_ald_n C dX4_readNumber_116 rfl ?_
  refine aw_iload_n C dX4_readNumber_117 rfl ?_
  refine aw_iload C dX4_readNumber_118 rfl ?_
  refine aw_iadd C dX4_readNumber_120 ?_
  obtain ⟨f1, hf1, h⟩ := Option.bind_eq_some_iff.mp h
  refine ah_put C gf_X4_28 cf4 nf4_1 rfl rfl hf1 dX4_readNumber_121 ?_
  refine aw_iload C dX4_readNumber_124 rfl ?_
  refine aw_iconst C 1 dX4_readNumber_126 ki_1 ?_
  refine aw_icmp_lt C 156 dX4_readNumber_127 (by decide) (fun q => ?_) (fun q => ?_)
  · rw [if_pos q] at h
    refine aw_fl [none, none, none, some (.int v3), none, none] ⟨rfl, trivial⟩ ?_
    exact rmX4_readNumber_b156 C (by omega) (by omega) h
  · rw [if_neg q] at h
    refine aw_iload C dX4_readNumber_130 rfl ?_
    refine aw_iconst C 2 dX4_readNumber_132 ki_2 ?_
    refine aw_icmp_gt C 156 dX4_readNumber_133 (by decide) (fun q => ?_) (fun q => ?_)
    · rw [if_pos q] at h
      refine aw_fl [none, none, none, some (.int v3), none, none] ⟨rfl, trivial⟩ ?_
      exact rmX4_readNumber_b156 C (by omega) (by omega) h
    · rw [if_neg q] at h
      refine aw_ald_n C dX4_readNumber_136 rfl ?_
      obtain ⟨x2, hx2, h⟩ := Option.bind_eq_some_iff.mp h
      refine ah_getI C gf_X4_93 hx2 dX4_readNumber_137 ?_
      refine aw_iload_n C dX4_readNumber_140 rfl ?_
      refine aw_icmp_lt C 156 dX4_readNumber_141 (by decide) (fun q => ?_) (fun q => ?_)
      · rw [if_pos q] at h
        refine aw_fl [none, none, none, some (.int v3), none, none] ⟨rfl, trivial⟩ ?_
        exact rmX4_readNumber_b156 C (by omega) (by omega) h
      · rw [if_neg q] at h
        refine aw_ald_n C dX4_readNumber_144 rfl ?_
        obtain ⟨x3, hx3, h⟩ := Option.bind_eq_some_iff.mp h
        refine ah_getI C gf_X4_93 hx3 dX4_readNumber_145 ?_
        refine aw_iload_n C dX4_readNumber_148 rfl ?_
        refine aw_icmp_gt C 156 dX4_readNumber_149 (by decide) (fun q => ?_) (fun q => ?_)
        · rw [if_pos q] at h
          refine aw_fl [none, none, none, some (.int v3), none, none] ⟨rfl, trivial⟩ ?_
          exact rmX4_readNumber_b156 C (by omega) (by omega) h
        · rw [if_neg q] at h
          refine aw_iconst C (-1) dX4_readNumber_152 ki_m1 ?_
          refine aw_goto C 157 dX4_readNumber_153 (by decide) ?_
          refine aw_fl [none, none, none, none, none, none] trivial ?_
          exact rmX4_readNumber_b157 C (by omega) (by omega) h
def mX4_readNumber_b107 (rec30 : Nat → Int32 → Int32 → Int32 → Int32 → Int32 → AH → Nat → Option (Int32 × HpN)) (v0 : Nat) (v1 : Int32) (v2 : Int32) (v3 : Int32) (v4 : Int32) (v5 : Int32) (s0 : Nat) (s1 : Int32) (f : AH) (n : Nat) : Option (Int32 × HpN) := ((pO f s0 4 6 (.int s1)).bind fun f1 => rec30 v0 v1 v2 v3 v4 (v5 + (1 : Int32)) f1 n)
set_option maxHeartbeats 1000000 in
theorem rmX4_readNumber_b107 {X : GX} {p : Program} {l : Launch} {e : Env} {s : State} {m : MethodId} {args : Array Value} {below : List Frame} {meth : Method} {c : Code} {r : Int32 × HpN} {rec30 : Nat → Int32 → Int32 → Int32 → Int32 → Int32 → AH → Nat → Option (Int32 × HpN)} {v0 : Nat} {v1 : Int32} {v2 : Int32} {v3 : Int32} {v4 : Int32} {v5 : Int32} {s0 : Nat} {s1 : Int32} {f : AH} {n cells slots : Nat} (C : CC X p l (RM 1 0 0) s m args meth c RX4 cX4_readNumber 6 (some .int)) (Hr30 : ∀ (v0 : Nat) (v1 : Int32) (v2 : Int32) (v3 : Int32) (v4 : Int32) (v5 : Int32) (f : AH) (n cells slots : Nat), cells + 0 ≤ 0 → slots + 0 ≤ 0 → rec30 v0 v1 v2 v3 v4 v5 f n = some r → AW X p l e (RM 1 0 0) s m args below meth c 6 (ZM X below args s 0 0 (QHi r)) f n cells slots 30 [some (.ref v0), some (.int v1), some (.int v2), some (.int v3), some (.int v4), some (.int v5)] []) (hc : cells + 0 ≤ 0) (hs : slots + 0 ≤ 0) (h : mX4_readNumber_b107 rec30 v0 v1 v2 v3 v4 v5 s0 s1 f n = some r) : AW X p l e (RM 1 0 0) s m args below meth c 6 (ZM X below args s 0 0 (QHi r)) f n cells slots 107 [some (.ref v0), some (.int v1), some (.int v2), some (.int v3), some (.int v4), some (.int v5)] [.int s1, .ref s0] := by
  have h : ((pO f s0 4 6 (.int s1)).bind fun f1 => rec30 v0 v1 v2 v3 v4 (v5 + (1 : Int32)) f1 n) = some r := h
  obtain ⟨f1, hf1, h⟩ := Option.bind_eq_some_iff.mp h
  refine ah_put C gf_X4_93 cf4 nf4_6 rfl rfl hf1 dX4_readNumber_107 ?_
  refine aw_iinc C (v5 + (1 : Int32)) dX4_readNumber_110 rfl (by rw [ki_1]) (by decide) rfl ?_
  refine aw_nl [some (.ref v0), some (.int v1), some (.int v2), some (.int v3), some (.int v4), some (.int (v5 + (1 : Int32)))] rfl ?_
  refine aw_goto C 30 dX4_readNumber_113 (by decide) ?_
  refine aw_fl [some (.ref v0), some (.int v1), some (.int v2), some (.int v3), some (.int v4), some (.int (v5 + (1 : Int32)))] ⟨rfl, ⟨rfl, ⟨rfl, ⟨rfl, ⟨rfl, ⟨rfl, trivial⟩⟩⟩⟩⟩⟩ ?_
  exact Hr30 v0 v1 v2 v3 v4 (v5 + (1 : Int32)) f1 n _ _ (by omega) (by omega) h
def mX4_readNumber_l30 : Nat → Nat → Int32 → Int32 → Int32 → Int32 → Int32 → AH → Nat → Option (Int32 × HpN)
  | 0, _, _, _, _, _, _, _, _ => none
  | d + 1, v0, v1, v2, v3, v4, v5, f, n => ((gR f v0 4 7).bind fun x1 => ((x1).bind fun j2 => rCk (isO f j2 5) (((mX5_size j2 f n).bind fun r4 => (if r4.1 ≤ v5 then mX4_readNumber_b116 v0 v1 v2 v3 v4 r4.2.1 r4.2.2 else ((gR r4.2.1 v0 4 7).bind fun x6 => ((x6).bind fun j7 => rCk (isO r4.2.1 j7 5) (((mX5_get j7 v5 r4.2.1 r4.2.2).bind fun r9 => (if r9.1 < (48 : Int32) then mX4_readNumber_b116 v0 v1 v2 v3 v4 r9.2.1 r9.2.2 else ((gR r9.2.1 v0 4 7).bind fun x11 => ((x11).bind fun j12 => rCk (isO r9.2.1 j12 5) (((mX5_get j12 v5 r9.2.1 r9.2.2).bind fun r14 => (if (57 : Int32) < r14.1 then mX4_readNumber_b116 v0 v1 v2 v3 v4 r14.2.1 r14.2.2 else (if (v4 + (1 : Int32)) ≤ (2 : Int32) then ((gI r14.2.1 v0 4 6).bind fun x16 => ((gR r14.2.1 v0 4 7).bind fun x17 => ((x17).bind fun j18 => rCk (isO r14.2.1 j18 5) (((mX5_get j18 v5 r14.2.1 r14.2.2).bind fun r20 => mX4_readNumber_b107 (fun v0 v1 v2 v3 v4 v5 f n => mX4_readNumber_l30 d v0 v1 v2 v3 v4 v5 f n) v0 v1 v2 v3 (v4 + (1 : Int32)) v5 v0 (((x16 * (10 : Int32)) + r20.1) - (48 : Int32)) r20.2.1 r20.2.2))))) else ((gI r14.2.1 v0 4 6).bind fun x22 => mX4_readNumber_b107 (fun v0 v1 v2 v3 v4 v5 f n => mX4_readNumber_l30 d v0 v1 v2 v3 v4 v5 f n) v0 v1 v2 v3 (v4 + (1 : Int32)) v5 v0 x22 r14.2.1 r14.2.2)))))))))))))))))
set_option maxHeartbeats 1000000 in
theorem rmX4_readNumber_l30 {X : GX} {p : Program} {l : Launch} {e : Env} {s : State} {m : MethodId} {args : Array Value} {below : List Frame} {meth : Method} {c : Code} {r : Int32 × HpN} (C : CC X p l (RM 1 0 0) s m args meth c RX4 cX4_readNumber 6 (some .int)) : ∀ (d : Nat) (v0 : Nat) (v1 : Int32) (v2 : Int32) (v3 : Int32) (v4 : Int32) (v5 : Int32) (f : AH) (n cells slots : Nat) (_ : cells + 0 ≤ 0) (_ : slots + 0 ≤ 0) (_ : mX4_readNumber_l30 d v0 v1 v2 v3 v4 v5 f n = some r), AW X p l e (RM 1 0 0) s m args below meth c 6 (ZM X below args s 0 0 (QHi r)) f n cells slots 30 [some (.ref v0), some (.int v1), some (.int v2), some (.int v3), some (.int v4), some (.int v5)] [] := by
  intro d
  induction d with
  | zero =>
    intro v0 v1 v2 v3 v4 v5 f n cells slots hc hs h
    exact nomatch (show (none : Option (Int32 × HpN)) = some r from h)
  | succ d ih =>
    intro v0 v1 v2 v3 v4 v5 f n cells slots hc hs h
    have h : ((gR f v0 4 7).bind fun x1 => ((x1).bind fun j2 => rCk (isO f j2 5) (((mX5_size j2 f n).bind fun r4 => (if r4.1 ≤ v5 then mX4_readNumber_b116 v0 v1 v2 v3 v4 r4.2.1 r4.2.2 else ((gR r4.2.1 v0 4 7).bind fun x6 => ((x6).bind fun j7 => rCk (isO r4.2.1 j7 5) (((mX5_get j7 v5 r4.2.1 r4.2.2).bind fun r9 => (if r9.1 < (48 : Int32) then mX4_readNumber_b116 v0 v1 v2 v3 v4 r9.2.1 r9.2.2 else ((gR r9.2.1 v0 4 7).bind fun x11 => ((x11).bind fun j12 => rCk (isO r9.2.1 j12 5) (((mX5_get j12 v5 r9.2.1 r9.2.2).bind fun r14 => (if (57 : Int32) < r14.1 then mX4_readNumber_b116 v0 v1 v2 v3 v4 r14.2.1 r14.2.2 else (if (v4 + (1 : Int32)) ≤ (2 : Int32) then ((gI r14.2.1 v0 4 6).bind fun x16 => ((gR r14.2.1 v0 4 7).bind fun x17 => ((x17).bind fun j18 => rCk (isO r14.2.1 j18 5) (((mX5_get j18 v5 r14.2.1 r14.2.2).bind fun r20 => mX4_readNumber_b107 (fun v0 v1 v2 v3 v4 v5 f n => mX4_readNumber_l30 d v0 v1 v2 v3 v4 v5 f n) v0 v1 v2 v3 (v4 + (1 : Int32)) v5 v0 (((x16 * (10 : Int32)) + r20.1) - (48 : Int32)) r20.2.1 r20.2.2))))) else ((gI r14.2.1 v0 4 6).bind fun x22 => mX4_readNumber_b107 (fun v0 v1 v2 v3 v4 v5 f n => mX4_readNumber_l30 d v0 v1 v2 v3 v4 v5 f n) v0 v1 v2 v3 (v4 + (1 : Int32)) v5 v0 x22 r14.2.1 r14.2.2))))))))))))))))) = some r := h
    refine aw_iload C dX4_readNumber_30 rfl ?_
    refine aw_ald_n C dX4_readNumber_32 rfl ?_
    obtain ⟨x1, hx1, h⟩ := Option.bind_eq_some_iff.mp h
    refine ah_getR C gf_X4_14 hx1 dX4_readNumber_33 ?_
    obtain ⟨j2, hj2, h⟩ := Option.bind_eq_some_iff.mp h
    rw [hj2]
    obtain ⟨hb3, h⟩ := ck_some h
    obtain ⟨r4, hr4, h⟩ := Option.bind_eq_some_iff.mp h
    obtain ⟨fs5, hf5⟩ := isO_ex hb3
    refine aw_callV C (ci := 5) (b := j2) [] mv_X4_20 rfl rfl hf5 (rmX5_size hr4) rfl dX4_readNumber_36 (Nat.le_of_ble_eq_true rfl) (Nat.le_of_ble_eq_true rfl) rfl (Nat.le_of_ble_eq_true rfl) (show cells + 0 ≤ 0 by omega) (show slots + 0 ≤ 0 by omega) (fun v9 f9 n9 hh => ?_)
    obtain ⟨rfl, rfl, rfl⟩ := hh
    refine aw_icmp_ge C 116 dX4_readNumber_39 (by decide) (fun q => ?_) (fun q => ?_)
    · rw [if_pos q] at h
      refine aw_fl [some (.ref v0), some (.int v1), some (.int v2), some (.int v3), some (.int v4), none] ⟨rfl, ⟨rfl, ⟨rfl, ⟨rfl, ⟨rfl, trivial⟩⟩⟩⟩⟩ ?_
      exact rmX4_readNumber_b116 C (by omega) (by omega) h
    · rw [if_neg q] at h
      refine aw_ald_n C dX4_readNumber_42 rfl ?_
      obtain ⟨x6, hx6, h⟩ := Option.bind_eq_some_iff.mp h
      refine ah_getR C gf_X4_14 hx6 dX4_readNumber_43 ?_
      refine aw_iload C dX4_readNumber_46 rfl ?_
      obtain ⟨j7, hj7, h⟩ := Option.bind_eq_some_iff.mp h
      rw [hj7]
      obtain ⟨hb8, h⟩ := ck_some h
      obtain ⟨r9, hr9, h⟩ := Option.bind_eq_some_iff.mp h
      obtain ⟨fs10, hf10⟩ := isO_ex hb8
      refine aw_callV C (ci := 5) (b := j7) [.int v5] mv_X4_36 rfl rfl hf10 (rmX5_get hr9) rfl dX4_readNumber_48 (Nat.le_of_ble_eq_true rfl) (Nat.le_of_ble_eq_true rfl) rfl (Nat.le_of_ble_eq_true rfl) (show (cells + 0) + 0 ≤ 0 by omega) (show (slots + 0) + 0 ≤ 0 by omega) (fun v9 f9 n9 hh => ?_)
      obtain ⟨rfl, rfl, rfl⟩ := hh
      refine aw_bipush C 48 dX4_readNumber_51 kb_48 ?_
      refine aw_icmp_lt C 116 dX4_readNumber_53 (by decide) (fun q => ?_) (fun q => ?_)
      · rw [if_pos q] at h
        refine aw_fl [some (.ref v0), some (.int v1), some (.int v2), some (.int v3), some (.int v4), none] ⟨rfl, ⟨rfl, ⟨rfl, ⟨rfl, ⟨rfl, trivial⟩⟩⟩⟩⟩ ?_
        exact rmX4_readNumber_b116 C (by omega) (by omega) h
      · rw [if_neg q] at h
        refine aw_ald_n C dX4_readNumber_56 rfl ?_
        obtain ⟨x11, hx11, h⟩ := Option.bind_eq_some_iff.mp h
        refine ah_getR C gf_X4_14 hx11 dX4_readNumber_57 ?_
        refine aw_iload C dX4_readNumber_60 rfl ?_
        obtain ⟨j12, hj12, h⟩ := Option.bind_eq_some_iff.mp h
        rw [hj12]
        obtain ⟨hb13, h⟩ := ck_some h
        obtain ⟨r14, hr14, h⟩ := Option.bind_eq_some_iff.mp h
        obtain ⟨fs15, hf15⟩ := isO_ex hb13
        refine aw_callV C (ci := 5) (b := j12) [.int v5] mv_X4_36 rfl rfl hf15 (rmX5_get hr14) rfl dX4_readNumber_62 (Nat.le_of_ble_eq_true rfl) (Nat.le_of_ble_eq_true rfl) rfl (Nat.le_of_ble_eq_true rfl) (show ((cells + 0) + 0) + 0 ≤ 0 by omega) (show ((slots + 0) + 0) + 0 ≤ 0 by omega) (fun v9 f9 n9 hh => ?_)
        obtain ⟨rfl, rfl, rfl⟩ := hh
        refine aw_bipush C 57 dX4_readNumber_65 kb_57 ?_
        refine aw_icmp_gt C 116 dX4_readNumber_67 (by decide) (fun q => ?_) (fun q => ?_)
        · rw [if_pos q] at h
          refine aw_fl [some (.ref v0), some (.int v1), some (.int v2), some (.int v3), some (.int v4), none] ⟨rfl, ⟨rfl, ⟨rfl, ⟨rfl, ⟨rfl, trivial⟩⟩⟩⟩⟩ ?_
          exact rmX4_readNumber_b116 C (by omega) (by omega) h
        · rw [if_neg q] at h
          refine aw_iinc C (v4 + (1 : Int32)) dX4_readNumber_70 rfl (by rw [ki_1]) (by decide) rfl ?_
          refine aw_nl [some (.ref v0), some (.int v1), some (.int v2), some (.int v3), some (.int (v4 + (1 : Int32))), some (.int v5)] rfl ?_
          refine aw_ald_n C dX4_readNumber_73 rfl ?_
          refine aw_iload C dX4_readNumber_74 rfl ?_
          refine aw_iconst C 2 dX4_readNumber_76 ki_2 ?_
          refine aw_icmp_le C 87 dX4_readNumber_77 (by decide) (fun q => ?_) (fun q => ?_)
          · rw [if_pos q] at h
            refine aw_ald_n C dX4_readNumber_87 rfl ?_
            obtain ⟨x16, hx16, h⟩ := Option.bind_eq_some_iff.mp h
            refine ah_getI C gf_X4_93 hx16 dX4_readNumber_88 ?_
            refine aw_bipush C 10 dX4_readNumber_91 kb_10 ?_
            refine aw_imul C dX4_readNumber_93 ?_
            refine aw_ald_n C dX4_readNumber_94 rfl ?_
            obtain ⟨x17, hx17, h⟩ := Option.bind_eq_some_iff.mp h
            refine ah_getR C gf_X4_14 hx17 dX4_readNumber_95 ?_
            refine aw_iload C dX4_readNumber_98 rfl ?_
            obtain ⟨j18, hj18, h⟩ := Option.bind_eq_some_iff.mp h
            rw [hj18]
            obtain ⟨hb19, h⟩ := ck_some h
            obtain ⟨r20, hr20, h⟩ := Option.bind_eq_some_iff.mp h
            obtain ⟨fs21, hf21⟩ := isO_ex hb19
            refine aw_callV C (ci := 5) (b := j18) [.int v5] mv_X4_36 rfl rfl hf21 (rmX5_get hr20) rfl dX4_readNumber_100 (Nat.le_of_ble_eq_true rfl) (Nat.le_of_ble_eq_true rfl) rfl (Nat.le_of_ble_eq_true rfl) (show (((cells + 0) + 0) + 0) + 0 ≤ 0 by omega) (show (((slots + 0) + 0) + 0) + 0 ≤ 0 by omega) (fun v9 f9 n9 hh => ?_)
            obtain ⟨rfl, rfl, rfl⟩ := hh
            refine aw_iadd C dX4_readNumber_103 ?_
            refine aw_bipush C 48 dX4_readNumber_104 kb_48 ?_
            refine aw_isub C dX4_readNumber_106 ?_
            refine aw_fl [some (.ref v0), some (.int v1), some (.int v2), some (.int v3), some (.int (v4 + (1 : Int32))), some (.int v5)] ⟨rfl, ⟨rfl, ⟨rfl, ⟨rfl, ⟨rfl, ⟨rfl, trivial⟩⟩⟩⟩⟩⟩ ?_
            exact rmX4_readNumber_b107 C (fun v0 v1 v2 v3 v4 v5 f n cells slots hc hs h => ih v0 v1 v2 v3 v4 v5 f n cells slots hc hs h) (by omega) (by omega) h
          · rw [if_neg q] at h
            refine aw_ald_n C dX4_readNumber_80 rfl ?_
            obtain ⟨x22, hx22, h⟩ := Option.bind_eq_some_iff.mp h
            refine ah_getI C gf_X4_93 hx22 dX4_readNumber_81 ?_
            refine aw_goto C 107 dX4_readNumber_84 (by decide) ?_
            refine aw_fl [some (.ref v0), some (.int v1), some (.int v2), some (.int v3), some (.int (v4 + (1 : Int32))), some (.int v5)] ⟨rfl, ⟨rfl, ⟨rfl, ⟨rfl, ⟨rfl, ⟨rfl, trivial⟩⟩⟩⟩⟩⟩ ?_
            exact rmX4_readNumber_b107 C (fun v0 v1 v2 v3 v4 v5 f n cells slots hc hs h => ih v0 v1 v2 v3 v4 v5 f n cells slots hc hs h) (by omega) (by omega) h
def mX4_readNumber (v0 : Nat) (v1 : Int32) (v2 : Int32) (f : AH) (n : Nat) : Option (Int32 × HpN) := ((gR f v0 4 7).bind fun x1 => ((gI f v0 4 1).bind fun x2 => ((gR f v0 4 7).bind fun x3 => ((x3).bind fun j4 => rCk (isO f j4 5) (((mX5_size j4 f n).bind fun r6 => ((x1).bind fun j8 => rCk (isO r6.2.1 j8 5) (((mX5_behindBlanks j8 x2 r6.1 r6.2.1 r6.2.2).bind fun r10 => ((pO r10.2.1 v0 4 6 (.int (0 : Int32))).bind fun f12 => mX4_readNumber_l30 rFU v0 v1 v2 r10.1 (0 : Int32) r10.1 f12 r10.2.2))))))))))
set_option maxHeartbeats 1000000 in
theorem rmX4_readNumber {X : GX} {l : Launch} {r : Int32 × HpN} {v0 : Nat} {v1 : Int32} {v2 : Int32} {f : AH} {n : Nat} (h : mX4_readNumber v0 v1 v2 f n = some r) : AM X l yX4_readNumber cX4_readNumber 6 (some .int) 1 0 0 [.ref v0, .int v1, .int v2] f n (QHi r) := by
  have h : ((gR f v0 4 7).bind fun x1 => ((gI f v0 4 1).bind fun x2 => ((gR f v0 4 7).bind fun x3 => ((x3).bind fun j4 => rCk (isO f j4 5) (((mX5_size j4 f n).bind fun r6 => ((x1).bind fun j8 => rCk (isO r6.2.1 j8 5) (((mX5_behindBlanks j8 x2 r6.1 r6.2.1 r6.2.2).bind fun r10 => ((pO r10.2.1 v0 4 6 (.int (0 : Int32))).bind fun f12 => mX4_readNumber_l30 rFU v0 v1 v2 r10.1 (0 : Int32) r10.1 f12 r10.2.2)))))))))) = some r := h
  refine AM.of (by decide +kernel) rfl (Nat.le_of_ble_eq_true rfl) (fun p e s m args below meth c C hnm => ?_)
  refine aw_nl [some (.ref v0), some (.int v1), some (.int v2), none, none, none] rfl ?_
  refine aw_ald_n C dX4_readNumber_0 rfl ?_
  obtain ⟨x1, hx1, h⟩ := Option.bind_eq_some_iff.mp h
  refine ah_getR C gf_X4_14 hx1 dX4_readNumber_1 ?_
  refine aw_ald_n C dX4_readNumber_4 rfl ?_
  obtain ⟨x2, hx2, h⟩ := Option.bind_eq_some_iff.mp h
  refine ah_getI C gf_X4_28 hx2 dX4_readNumber_5 ?_
  refine aw_ald_n C dX4_readNumber_8 rfl ?_
  obtain ⟨x3, hx3, h⟩ := Option.bind_eq_some_iff.mp h
  refine ah_getR C gf_X4_14 hx3 dX4_readNumber_9 ?_
  obtain ⟨j4, hj4, h⟩ := Option.bind_eq_some_iff.mp h
  rw [hj4]
  obtain ⟨hb5, h⟩ := ck_some h
  obtain ⟨r6, hr6, h⟩ := Option.bind_eq_some_iff.mp h
  obtain ⟨fs7, hf7⟩ := isO_ex hb5
  refine aw_callV C (ci := 5) (b := j4) [] mv_X4_20 rfl rfl hf7 (rmX5_size hr6) rfl dX4_readNumber_12 (Nat.le_of_ble_eq_true rfl) (Nat.le_of_ble_eq_true rfl) rfl (cs_1 rfl (cs_1 (rf_cat _) cs_0)) (show 0 + 0 ≤ 0 by omega) (show 0 + 0 ≤ 0 by omega) (fun v9 f9 n9 hh => ?_)
  obtain ⟨rfl, rfl, rfl⟩ := hh
  obtain ⟨j8, hj8, h⟩ := Option.bind_eq_some_iff.mp h
  rw [hj8]
  obtain ⟨hb9, h⟩ := ck_some h
  obtain ⟨r10, hr10, h⟩ := Option.bind_eq_some_iff.mp h
  obtain ⟨fs11, hf11⟩ := isO_ex hb9
  refine aw_callV C (ci := 5) (b := j8) [.int x2, .int r6.1] mv_X4_24 rfl rfl hf11 (rmX5_behindBlanks hr10) rfl dX4_readNumber_15 (Nat.le_of_ble_eq_true rfl) (Nat.le_of_ble_eq_true rfl) rfl (Nat.le_of_ble_eq_true rfl) (show (0 + 0) + 0 ≤ 0 by omega) (show (0 + 0) + 0 ≤ 0 by omega) (fun v9 f9 n9 hh => ?_)
  obtain ⟨rfl, rfl, rfl⟩ := hh
  refine aw_istore_n C dX4_readNumber_18 (by decide) rfl ?_
  refine aw_nl [some (.ref v0), some (.int v1), some (.int v2), some (.int r10.1), none, none] rfl ?_
  refine aw_iconst C 0 dX4_readNumber_19 ki_0 ?_
  refine aw_istore C dX4_readNumber_20 (by decide) rfl ?_
  refine aw_nl [some (.ref v0), some (.int v1), some (.int v2), some (.int r10.1), some (.int (0 : Int32)), none] rfl ?_
  refine aw_ald_n C dX4_readNumber_22 rfl ?_
  refine aw_iconst C 0 dX4_readNumber_23 ki_0 ?_
  obtain ⟨f12, hf12, h⟩ := Option.bind_eq_some_iff.mp h
  refine ah_put C gf_X4_93 cf4 nf4_6 rfl rfl hf12 dX4_readNumber_24 ?_
  refine aw_iload_n C dX4_readNumber_27 rfl ?_
  refine aw_istore C dX4_readNumber_28 (by decide) rfl ?_
  refine aw_nl [some (.ref v0), some (.int v1), some (.int v2), some (.int r10.1), some (.int (0 : Int32)), some (.int r10.1)] rfl ?_
  refine aw_fl [some (.ref v0), some (.int v1), some (.int v2), some (.int r10.1), some (.int (0 : Int32)), some (.int r10.1)] ⟨rfl, ⟨rfl, ⟨rfl, ⟨rfl, ⟨rfl, ⟨rfl, trivial⟩⟩⟩⟩⟩⟩ ?_
  exact rmX4_readNumber_l30 C rFU v0 v1 v2 r10.1 (0 : Int32) r10.1 f12 r10.2.2 _ _ (by omega) (by omega) h
def mX4_readFirst (v0 : Nat) (v1 : Int32) (v2 : Int32) (f : AH) (n : Nat) : Option (Int32 × HpN) := rCk (isO f v0 4) (((mX4_readNumber v0 v1 v2 f n).bind fun r2 => ((gI r2.2.1 v0 4 6).bind fun x4 => ((pO r2.2.1 v0 4 3 (.int x4)).bind fun f5 => some (r2.1, (f5, r2.2.2))))))
set_option maxHeartbeats 1000000 in
theorem rmX4_readFirst {X : GX} {l : Launch} {r : Int32 × HpN} {v0 : Nat} {v1 : Int32} {v2 : Int32} {f : AH} {n : Nat} (h : mX4_readFirst v0 v1 v2 f n = some r) : AM X l yX4_readFirst cX4_readFirst 4 (some .int) 2 0 0 [.ref v0, .int v1, .int v2] f n (QHi r) := by
  have h : rCk (isO f v0 4) (((mX4_readNumber v0 v1 v2 f n).bind fun r2 => ((gI r2.2.1 v0 4 6).bind fun x4 => ((pO r2.2.1 v0 4 3 (.int x4)).bind fun f5 => some (r2.1, (f5, r2.2.2)))))) = some r := h
  refine AM.of (by decide +kernel) rfl (Nat.le_of_ble_eq_true rfl) (fun p e s m args below meth c C hnm => ?_)
  refine aw_nl [some (.ref v0), some (.int v1), some (.int v2), none] rfl ?_
  refine aw_ald_n C dX4_readFirst_0 rfl ?_
  refine aw_iload_n C dX4_readFirst_1 rfl ?_
  refine aw_iload_n C dX4_readFirst_2 rfl ?_
  obtain ⟨hb1, h⟩ := ck_some h
  obtain ⟨r2, hr2, h⟩ := Option.bind_eq_some_iff.mp h
  obtain ⟨fs3, hf3⟩ := isO_ex hb1
  refine aw_callV C (ci := 4) (b := v0) [.int v1, .int v2] mv_X4_90 rfl rfl hf3 (rmX4_readNumber hr2) rfl dX4_readFirst_3 (Nat.le_of_ble_eq_true rfl) (Nat.le_of_ble_eq_true rfl) rfl (Nat.le_of_ble_eq_true rfl) (show 0 + 0 ≤ 0 by omega) (show 0 + 0 ≤ 0 by omega) (fun v9 f9 n9 hh => ?_)
  obtain ⟨rfl, rfl, rfl⟩ := hh
  refine aw_istore_n C dX4_readFirst_6 (by decide) rfl ?_
  refine aw_nl [some (.ref v0), some (.int v1), some (.int v2), some (.int r2.1)] rfl ?_
  refine aw_ald_n C dX4_readFirst_7 rfl ?_
  refine aw_ald_n C dX4_readFirst_8 rfl ?_
  obtain ⟨x4, hx4, h⟩ := Option.bind_eq_some_iff.mp h
  refine ah_getI C gf_X4_93 hx4 dX4_readFirst_9 ?_
  obtain ⟨f5, hf5, h⟩ := Option.bind_eq_some_iff.mp h
  refine ah_put C gf_X4_96 cf4 nf4_3 rfl rfl hf5 dX4_readFirst_12 ?_
  refine aw_iload_n C dX4_readFirst_15 rfl ?_
  cases h
  exact aw_iret C rfl rfl dX4_readFirst_16 (by omega) (by omega) ⟨rfl, rfl, rfl⟩
def mX4_readSecond (v0 : Nat) (f : AH) (n : Nat) : Option (Int32 × HpN) := rCk (isO f v0 4) (((mX4_readNumber v0 (0 : Int32) (39 : Int32) f n).bind fun r2 => ((gI r2.2.1 v0 4 6).bind fun x4 => ((pO r2.2.1 v0 4 4 (.int x4)).bind fun f5 => some (r2.1, (f5, r2.2.2))))))
set_option maxHeartbeats 1000000 in
theorem rmX4_readSecond {X : GX} {l : Launch} {r : Int32 × HpN} {v0 : Nat} {f : AH} {n : Nat} (h : mX4_readSecond v0 f n = some r) : AM X l yX4_readSecond cX4_readSecond 2 (some .int) 2 0 0 [.ref v0] f n (QHi r) := by
  have h : rCk (isO f v0 4) (((mX4_readNumber v0 (0 : Int32) (39 : Int32) f n).bind fun r2 => ((gI r2.2.1 v0 4 6).bind fun x4 => ((pO r2.2.1 v0 4 4 (.int x4)).bind fun f5 => some (r2.1, (f5, r2.2.2)))))) = some r := h
  refine AM.of (by decide +kernel) rfl (Nat.le_of_ble_eq_true rfl) (fun p e s m args below meth c C hnm => ?_)
  refine aw_nl [some (.ref v0), none] rfl ?_
  refine aw_ald_n C dX4_readSecond_0 rfl ?_
  refine aw_iconst C 0 dX4_readSecond_1 ki_0 ?_
  refine aw_bipush C 39 dX4_readSecond_2 kb_39 ?_
  obtain ⟨hb1, h⟩ := ck_some h
  obtain ⟨r2, hr2, h⟩ := Option.bind_eq_some_iff.mp h
  obtain ⟨fs3, hf3⟩ := isO_ex hb1
  refine aw_callV C (ci := 4) (b := v0) [.int (0 : Int32), .int (39 : Int32)] mv_X4_90 rfl rfl hf3 (rmX4_readNumber hr2) rfl dX4_readSecond_4 (Nat.le_of_ble_eq_true rfl) (Nat.le_of_ble_eq_true rfl) rfl (Nat.le_of_ble_eq_true rfl) (show 0 + 0 ≤ 0 by omega) (show 0 + 0 ≤ 0 by omega) (fun v9 f9 n9 hh => ?_)
  obtain ⟨rfl, rfl, rfl⟩ := hh
  refine aw_istore_n C dX4_readSecond_7 (by decide) rfl ?_
  refine aw_nl [some (.ref v0), some (.int r2.1)] rfl ?_
  refine aw_ald_n C dX4_readSecond_8 rfl ?_
  refine aw_ald_n C dX4_readSecond_9 rfl ?_
  obtain ⟨x4, hx4, h⟩ := Option.bind_eq_some_iff.mp h
  refine ah_getI C gf_X4_93 hx4 dX4_readSecond_10 ?_
  obtain ⟨f5, hf5, h⟩ := Option.bind_eq_some_iff.mp h
  refine ah_put C gf_X4_99 cf4 nf4_4 rfl rfl hf5 dX4_readSecond_13 ?_
  refine aw_iload_n C dX4_readSecond_16 rfl ?_
  cases h
  exact aw_iret C rfl rfl dX4_readSecond_17 (by omega) (by omega) ⟨rfl, rfl, rfl⟩
def mX4_readWord_b50 (v1 : Int32) (f : AH) (n : Nat) : Option (Int32 × HpN) := some (v1, (f, n))
set_option maxHeartbeats 1000000 in
theorem rmX4_readWord_b50 {X : GX} {p : Program} {l : Launch} {e : Env} {s : State} {m : MethodId} {args : Array Value} {below : List Frame} {meth : Method} {c : Code} {r : Int32 × HpN} {v1 : Int32} {f : AH} {n cells slots : Nat} (C : CC X p l (RM 3 2 10) s m args meth c RX4 cX4_readWord 3 (some .int)) (hc : cells + 0 ≤ 2) (hs : slots + 0 ≤ 10) (h : mX4_readWord_b50 v1 f n = some r) : AW X p l e (RM 3 2 10) s m args below meth c 3 (ZM X below args s 2 10 (QHi r)) f n cells slots 50 [none, some (.int v1), none] [] := by
  have h : some (v1, (f, n)) = some r := h
  refine aw_iload_n C dX4_readWord_50 rfl ?_
  cases h
  exact aw_iret C rfl rfl dX4_readWord_51 (by omega) (by omega) ⟨rfl, rfl, rfl⟩
def mX4_readWord (v0 : Nat) (f : AH) (n : Nat) : Option (Int32 × HpN) := ((gR f v0 4 7).bind fun x1 => ((gI f v0 4 1).bind fun x2 => ((gR f v0 4 7).bind fun x3 => ((x3).bind fun j4 => rCk (isO f j4 5) (((mX5_size j4 f n).bind fun r6 => ((x1).bind fun j8 => rCk (isO r6.2.1 j8 5) (((mX5_behindBlanks j8 x2 r6.1 r6.2.1 r6.2.2).bind fun r10 => ((pO r10.2.1 v0 4 1 (.int r10.1)).bind fun f12 => rCk (isO f12 v0 4) (((mX4_lettersEnd v0 f12 r10.2.2).bind fun r14 => ((pO r14.2.1 v0 4 1 (.int r14.1)).bind fun f16 => ((gI f16 v0 4 1).bind fun x17 => (if (x17 - r10.1) < (1 : Int32) then mX4_readWord_b50 r10.1 f16 r14.2.2 else (if (x17 - r10.1) ≤ (8 : Int32) then ((gR f16 v0 4 7).bind fun x18 => ((x18).bind fun j19 => rCk (isO f16 j19 5) (((mX5_part 8 j19 r10.1 (x17 - r10.1) f16 r14.2.2).bind fun r21 => ((some r21.1).bind fun x23 => ((pO r21.2.1 v0 4 5 (va_rf x23)).bind fun f24 => some ((-1 : Int32), (f24, r21.2.2)))))))) else mX4_readWord_b50 r10.1 f16 r14.2.2))))))))))))))))
set_option maxHeartbeats 1000000 in
theorem rmX4_readWord {X : GX} {l : Launch} {r : Int32 × HpN} {v0 : Nat} {f : AH} {n : Nat} (h : mX4_readWord v0 f n = some r) : AM X l yX4_readWord cX4_readWord 3 (some .int) 3 2 10 [.ref v0] f n (QHi r) := by
  have h : ((gR f v0 4 7).bind fun x1 => ((gI f v0 4 1).bind fun x2 => ((gR f v0 4 7).bind fun x3 => ((x3).bind fun j4 => rCk (isO f j4 5) (((mX5_size j4 f n).bind fun r6 => ((x1).bind fun j8 => rCk (isO r6.2.1 j8 5) (((mX5_behindBlanks j8 x2 r6.1 r6.2.1 r6.2.2).bind fun r10 => ((pO r10.2.1 v0 4 1 (.int r10.1)).bind fun f12 => rCk (isO f12 v0 4) (((mX4_lettersEnd v0 f12 r10.2.2).bind fun r14 => ((pO r14.2.1 v0 4 1 (.int r14.1)).bind fun f16 => ((gI f16 v0 4 1).bind fun x17 => (if (x17 - r10.1) < (1 : Int32) then mX4_readWord_b50 r10.1 f16 r14.2.2 else (if (x17 - r10.1) ≤ (8 : Int32) then ((gR f16 v0 4 7).bind fun x18 => ((x18).bind fun j19 => rCk (isO f16 j19 5) (((mX5_part 8 j19 r10.1 (x17 - r10.1) f16 r14.2.2).bind fun r21 => ((some r21.1).bind fun x23 => ((pO r21.2.1 v0 4 5 (va_rf x23)).bind fun f24 => some ((-1 : Int32), (f24, r21.2.2)))))))) else mX4_readWord_b50 r10.1 f16 r14.2.2)))))))))))))))) = some r := h
  refine AM.of (by decide +kernel) rfl (Nat.le_of_ble_eq_true rfl) (fun p e s m args below meth c C hnm => ?_)
  refine aw_nl [some (.ref v0), none, none] rfl ?_
  refine aw_ald_n C dX4_readWord_0 rfl ?_
  obtain ⟨x1, hx1, h⟩ := Option.bind_eq_some_iff.mp h
  refine ah_getR C gf_X4_14 hx1 dX4_readWord_1 ?_
  refine aw_ald_n C dX4_readWord_4 rfl ?_
  obtain ⟨x2, hx2, h⟩ := Option.bind_eq_some_iff.mp h
  refine ah_getI C gf_X4_28 hx2 dX4_readWord_5 ?_
  refine aw_ald_n C dX4_readWord_8 rfl ?_
  obtain ⟨x3, hx3, h⟩ := Option.bind_eq_some_iff.mp h
  refine ah_getR C gf_X4_14 hx3 dX4_readWord_9 ?_
  obtain ⟨j4, hj4, h⟩ := Option.bind_eq_some_iff.mp h
  rw [hj4]
  obtain ⟨hb5, h⟩ := ck_some h
  obtain ⟨r6, hr6, h⟩ := Option.bind_eq_some_iff.mp h
  obtain ⟨fs7, hf7⟩ := isO_ex hb5
  refine aw_callV C (ci := 5) (b := j4) [] mv_X4_20 rfl rfl hf7 (rmX5_size hr6) rfl dX4_readWord_12 (Nat.le_of_ble_eq_true rfl) (Nat.le_of_ble_eq_true rfl) rfl (cs_1 rfl (cs_1 (rf_cat _) cs_0)) (show 0 + 0 ≤ 2 by omega) (show 0 + 0 ≤ 10 by omega) (fun v9 f9 n9 hh => ?_)
  obtain ⟨rfl, rfl, rfl⟩ := hh
  obtain ⟨j8, hj8, h⟩ := Option.bind_eq_some_iff.mp h
  rw [hj8]
  obtain ⟨hb9, h⟩ := ck_some h
  obtain ⟨r10, hr10, h⟩ := Option.bind_eq_some_iff.mp h
  obtain ⟨fs11, hf11⟩ := isO_ex hb9
  refine aw_callV C (ci := 5) (b := j8) [.int x2, .int r6.1] mv_X4_24 rfl rfl hf11 (rmX5_behindBlanks hr10) rfl dX4_readWord_15 (Nat.le_of_ble_eq_true rfl) (Nat.le_of_ble_eq_true rfl) rfl (Nat.le_of_ble_eq_true rfl) (show (0 + 0) + 0 ≤ 2 by omega) (show (0 + 0) + 0 ≤ 10 by omega) (fun v9 f9 n9 hh => ?_)
  obtain ⟨rfl, rfl, rfl⟩ := hh
  refine aw_istore_n C dX4_readWord_18 (by decide) rfl ?_
  refine aw_nl [some (.ref v0), some (.int r10.1), none] rfl ?_
  refine aw_ald_n C dX4_readWord_19 rfl ?_
  refine aw_iload_n C dX4_readWord_20 rfl ?_
  obtain ⟨f12, hf12, h⟩ := Option.bind_eq_some_iff.mp h
  refine ah_put C gf_X4_28 cf4 nf4_1 rfl rfl hf12 dX4_readWord_21 ?_
  refine aw_ald_n C dX4_readWord_24 rfl ?_
  refine aw_ald_n C dX4_readWord_25 rfl ?_
  obtain ⟨hb13, h⟩ := ck_some h
  obtain ⟨r14, hr14, h⟩ := Option.bind_eq_some_iff.mp h
  obtain ⟨fs15, hf15⟩ := isO_ex hb13
  refine aw_callV C (ci := 4) (b := v0) [] mv_X4_40 rfl rfl hf15 (rmX4_lettersEnd hr14) rfl dX4_readWord_26 (Nat.le_of_ble_eq_true rfl) (Nat.le_of_ble_eq_true rfl) rfl (Nat.le_of_ble_eq_true rfl) (show ((0 + 0) + 0) + 0 ≤ 2 by omega) (show ((0 + 0) + 0) + 0 ≤ 10 by omega) (fun v9 f9 n9 hh => ?_)
  obtain ⟨rfl, rfl, rfl⟩ := hh
  obtain ⟨f16, hf16, h⟩ := Option.bind_eq_some_iff.mp h
  refine ah_put C gf_X4_28 cf4 nf4_1 rfl rfl hf16 dX4_readWord_29 ?_
  refine aw_ald_n C dX4_readWord_32 rfl ?_
  obtain ⟨x17, hx17, h⟩ := Option.bind_eq_some_iff.mp h
  refine ah_getI C gf_X4_28 hx17 dX4_readWord_33 ?_
  refine aw_iload_n C dX4_readWord_36 rfl ?_
  refine aw_isub C dX4_readWord_37 ?_
  refine aw_istore_n C dX4_readWord_38 (by decide) rfl ?_
  refine aw_nl [some (.ref v0), some (.int r10.1), some (.int (x17 - r10.1))] rfl ?_
  refine aw_iload_n C dX4_readWord_39 rfl ?_
  refine aw_iconst C 1 dX4_readWord_40 ki_1 ?_
  refine aw_icmp_lt C 50 dX4_readWord_41 (by decide) (fun q => ?_) (fun q => ?_)
  · rw [if_pos q] at h
    refine aw_fl [none, some (.int r10.1), none] ⟨rfl, trivial⟩ ?_
    exact rmX4_readWord_b50 C (by omega) (by omega) h
  · rw [if_neg q] at h
    refine aw_iload_n C dX4_readWord_44 rfl ?_
    refine aw_bipush C 8 dX4_readWord_45 kb_8 ?_
    refine aw_icmp_le C 52 dX4_readWord_47 (by decide) (fun q => ?_) (fun q => ?_)
    · rw [if_pos q] at h
      refine aw_ald_n C dX4_readWord_52 rfl ?_
      refine aw_ald_n C dX4_readWord_53 rfl ?_
      obtain ⟨x18, hx18, h⟩ := Option.bind_eq_some_iff.mp h
      refine ah_getR C gf_X4_14 hx18 dX4_readWord_54 ?_
      refine aw_iload_n C dX4_readWord_57 rfl ?_
      refine aw_iload_n C dX4_readWord_58 rfl ?_
      obtain ⟨j19, hj19, h⟩ := Option.bind_eq_some_iff.mp h
      rw [hj19]
      obtain ⟨hb20, h⟩ := ck_some h
      obtain ⟨r21, hr21, h⟩ := Option.bind_eq_some_iff.mp h
      obtain ⟨fs22, hf22⟩ := isO_ex hb20
      refine aw_callV C (ci := 5) (b := j19) [.int r10.1, .int (x17 - r10.1)] mv_X4_102 rfl rfl hf22 (rmX5_part hr21) rfl dX4_readWord_59 (Nat.le_of_ble_eq_true rfl) (Nat.le_of_ble_eq_true rfl) rfl (Nat.le_of_ble_eq_true rfl) (show (((0 + 0) + 0) + 0) + 2 ≤ 2 by omega) (show (((0 + 0) + 0) + 0) + (2 + 8) ≤ 10 by omega) (fun v9 f9 n9 hh => ?_)
      obtain ⟨rfl, rfl, rfl⟩ := hh
      obtain ⟨x23, hx23, h⟩ := Option.bind_eq_some_iff.mp h
      rw [Option.some.inj hx23]
      obtain ⟨f24, hf24, h⟩ := Option.bind_eq_some_iff.mp h
      refine ah_put C gf_X4_106 cf4 nf4_5 (rf_nar _ x23) (rf_fit _ x23) hf24 dX4_readWord_62 ?_
      refine aw_iconst C (-1) dX4_readWord_65 ki_m1 ?_
      cases h
      exact aw_iret C rfl rfl dX4_readWord_66 (by omega) (by omega) ⟨rfl, rfl, rfl⟩
    · rw [if_neg q] at h
      refine aw_fl [none, some (.int r10.1), none] ⟨rfl, trivial⟩ ?_
      exact rmX4_readWord_b50 C (by omega) (by omega) h
def mX4_readAct_b148 (f : AH) (n : Nat) : Option (Int32 × HpN) := some ((-1 : Int32), (f, n))
set_option maxHeartbeats 1000000 in
theorem rmX4_readAct_b148 {X : GX} {p : Program} {l : Launch} {e : Env} {s : State} {m : MethodId} {args : Array Value} {below : List Frame} {meth : Method} {c : Code} {r : Int32 × HpN} {f : AH} {n cells slots : Nat} (C : CC X p l (RM 6 2 10) s m args meth c RX4 cX4_readAct 3 (some .int)) (hc : cells + 0 ≤ 2) (hs : slots + 0 ≤ 10) (h : mX4_readAct_b148 f n = some r) : AW X p l e (RM 6 2 10) s m args below meth c 3 (ZM X below args s 2 10 (QHi r)) f n cells slots 148 [none, none, none] [] := by
  have h : some ((-1 : Int32), (f, n)) = some r := h
  refine aw_iconst C (-1) dX4_readAct_148 ki_m1 ?_
  cases h
  exact aw_iret C rfl rfl dX4_readAct_149 (by omega) (by omega) ⟨rfl, rfl, rfl⟩
def mX4_readAct_b142 (s0 : Int32) (f : AH) (n : Nat) : Option (Int32 × HpN) := some (s0, (f, n))
set_option maxHeartbeats 1000000 in
theorem rmX4_readAct_b142 {X : GX} {p : Program} {l : Launch} {e : Env} {s : State} {m : MethodId} {args : Array Value} {below : List Frame} {meth : Method} {c : Code} {r : Int32 × HpN} {s0 : Int32} {f : AH} {n cells slots : Nat} (C : CC X p l (RM 6 2 10) s m args meth c RX4 cX4_readAct 3 (some .int)) (hc : cells + 0 ≤ 2) (hs : slots + 0 ≤ 10) (h : mX4_readAct_b142 s0 f n = some r) : AW X p l e (RM 6 2 10) s m args below meth c 3 (ZM X below args s 2 10 (QHi r)) f n cells slots 142 [none, none, none] [.int s0] := by
  have h : some (s0, (f, n)) = some r := h
  cases h
  exact aw_iret C rfl rfl dX4_readAct_142 (by omega) (by omega) ⟨rfl, rfl, rfl⟩
def mX4_readAct_b113 (v0 : Nat) (f : AH) (n : Nat) : Option (Int32 × HpN) := rCk (isO f v0 4) (((mX4_readFirst v0 (0 : Int32) (39 : Int32) f n).bind fun r2 => some (r2.1, (r2.2.1, r2.2.2))))
set_option maxHeartbeats 1000000 in
theorem rmX4_readAct_b113 {X : GX} {p : Program} {l : Launch} {e : Env} {s : State} {m : MethodId} {args : Array Value} {below : List Frame} {meth : Method} {c : Code} {r : Int32 × HpN} {v0 : Nat} {f : AH} {n cells slots : Nat} (C : CC X p l (RM 6 2 10) s m args meth c RX4 cX4_readAct 3 (some .int)) (hc : cells + 0 ≤ 2) (hs : slots + 0 ≤ 10) (h : mX4_readAct_b113 v0 f n = some r) : AW X p l e (RM 6 2 10) s m args below meth c 3 (ZM X below args s 2 10 (QHi r)) f n cells slots 113 [some (.ref v0), none, none] [] := by
  have h : rCk (isO f v0 4) (((mX4_readFirst v0 (0 : Int32) (39 : Int32) f n).bind fun r2 => some (r2.1, (r2.2.1, r2.2.2)))) = some r := h
  refine aw_ald_n C dX4_readAct_113 rfl ?_
  refine aw_iconst C 0 dX4_readAct_114 ki_0 ?_
  refine aw_bipush C 39 dX4_readAct_115 kb_39 ?_
  obtain ⟨hb1, h⟩ := ck_some h
  obtain ⟨r2, hr2, h⟩ := Option.bind_eq_some_iff.mp h
  obtain ⟨fs3, hf3⟩ := isO_ex hb1
  refine aw_callV C (ci := 4) (b := v0) [.int (0 : Int32), .int (39 : Int32)] mv_X4_49 rfl rfl hf3 (rmX4_readFirst hr2) rfl dX4_readAct_117 (Nat.le_of_ble_eq_true rfl) (Nat.le_of_ble_eq_true rfl) rfl (Nat.le_of_ble_eq_true rfl) (show cells + 0 ≤ 2 by omega) (show slots + 0 ≤ 10 by omega) (fun v9 f9 n9 hh => ?_)
  obtain ⟨rfl, rfl, rfl⟩ := hh
  cases h
  exact aw_iret C rfl rfl dX4_readAct_120 (by omega) (by omega) ⟨rfl, rfl, rfl⟩
def mX4_readAct_b98 (v0 : Nat) (f : AH) (n : Nat) : Option (Int32 × HpN) := rCk (isO f v0 4) (((mX4_readFirst v0 (0 : Int32) (3 : Int32) f n).bind fun r2 => some (r2.1, (r2.2.1, r2.2.2))))
set_option maxHeartbeats 1000000 in
theorem rmX4_readAct_b98 {X : GX} {p : Program} {l : Launch} {e : Env} {s : State} {m : MethodId} {args : Array Value} {below : List Frame} {meth : Method} {c : Code} {r : Int32 × HpN} {v0 : Nat} {f : AH} {n cells slots : Nat} (C : CC X p l (RM 6 2 10) s m args meth c RX4 cX4_readAct 3 (some .int)) (hc : cells + 0 ≤ 2) (hs : slots + 0 ≤ 10) (h : mX4_readAct_b98 v0 f n = some r) : AW X p l e (RM 6 2 10) s m args below meth c 3 (ZM X below args s 2 10 (QHi r)) f n cells slots 98 [some (.ref v0), none, none] [] := by
  have h : rCk (isO f v0 4) (((mX4_readFirst v0 (0 : Int32) (3 : Int32) f n).bind fun r2 => some (r2.1, (r2.2.1, r2.2.2)))) = some r := h
  refine aw_ald_n C dX4_readAct_98 rfl ?_
  refine aw_iconst C 0 dX4_readAct_99 ki_0 ?_
  refine aw_iconst C 3 dX4_readAct_100 ki_3 ?_
  obtain ⟨hb1, h⟩ := ck_some h
  obtain ⟨r2, hr2, h⟩ := Option.bind_eq_some_iff.mp h
  obtain ⟨fs3, hf3⟩ := isO_ex hb1
  refine aw_callV C (ci := 4) (b := v0) [.int (0 : Int32), .int (3 : Int32)] mv_X4_49 rfl rfl hf3 (rmX4_readFirst hr2) rfl dX4_readAct_101 (Nat.le_of_ble_eq_true rfl) (Nat.le_of_ble_eq_true rfl) rfl (Nat.le_of_ble_eq_true rfl) (show cells + 0 ≤ 2 by omega) (show slots + 0 ≤ 10 by omega) (fun v9 f9 n9 hh => ?_)
  obtain ⟨rfl, rfl, rfl⟩ := hh
  cases h
  exact aw_iret C rfl rfl dX4_readAct_104 (by omega) (by omega) ⟨rfl, rfl, rfl⟩
def mX4_readAct (v0 : Nat) (f : AH) (n : Nat) : Option (Int32 × HpN) := ((gI f v0 4 1).bind fun x1 => rCk (isO f v0 4) (((mX4_lettersEnd v0 f n).bind fun r3 => ((pO r3.2.1 v0 4 1 (.int r3.1)).bind fun f5 => ((gI f5 v0 4 1).bind fun x6 => rCk (isO f5 v0 4) (((mX4_actNamed v0 x1 (x6 - x1) f5 r3.2.2).bind fun r8 => ((pO r8.2.1 v0 4 2 (.int r8.1)).bind fun f10 => ((gI f10 v0 4 2).bind fun x11 => (if x11 = (-1 : Int32) then some (x1, (f10, r8.2.2)) else if x11 = (0 : Int32) then mX4_readAct_b98 v0 f10 r8.2.2 else if x11 = (1 : Int32) then mX4_readAct_b98 v0 f10 r8.2.2 else if x11 = (2 : Int32) then mX4_readAct_b148 f10 r8.2.2 else if x11 = (3 : Int32) then mX4_readAct_b148 f10 r8.2.2 else if x11 = (4 : Int32) then mX4_readAct_b148 f10 r8.2.2 else if x11 = (5 : Int32) then rCk (isO f10 v0 4) (((mX4_readFirst v0 (1 : Int32) (40 : Int32) f10 r8.2.2).bind fun r13 => some (r13.1, (r13.2.1, r13.2.2)))) else if x11 = (6 : Int32) then rCk (isO f10 v0 4) (((mX4_readWord v0 f10 r8.2.2).bind fun r16 => some (r16.1, (r16.2.1, r16.2.2)))) else if x11 = (7 : Int32) then mX4_readAct_b148 f10 r8.2.2 else if x11 = (8 : Int32) then mX4_readAct_b113 v0 f10 r8.2.2 else if x11 = (9 : Int32) then mX4_readAct_b113 v0 f10 r8.2.2 else if x11 = (10 : Int32) then rCk (isO f10 v0 4) (((mX4_readFirst v0 (0 : Int32) (39 : Int32) f10 r8.2.2).bind fun r19 => (if r19.1 = (-1 : Int32) then rCk (isO r19.2.1 v0 4) (((mX4_readSecond v0 r19.2.1 r19.2.2).bind fun r22 => mX4_readAct_b142 r22.1 r22.2.1 r22.2.2)) else mX4_readAct_b142 r19.1 r19.2.1 r19.2.2))) else mX4_readAct_b148 f10 r8.2.2))))))))))
set_option maxHeartbeats 1000000 in
theorem rmX4_readAct {X : GX} {l : Launch} {r : Int32 × HpN} {v0 : Nat} {f : AH} {n : Nat} (h : mX4_readAct v0 f n = some r) : AM X l yX4_readAct cX4_readAct 3 (some .int) 6 2 10 [.ref v0] f n (QHi r) := by
  have h : ((gI f v0 4 1).bind fun x1 => rCk (isO f v0 4) (((mX4_lettersEnd v0 f n).bind fun r3 => ((pO r3.2.1 v0 4 1 (.int r3.1)).bind fun f5 => ((gI f5 v0 4 1).bind fun x6 => rCk (isO f5 v0 4) (((mX4_actNamed v0 x1 (x6 - x1) f5 r3.2.2).bind fun r8 => ((pO r8.2.1 v0 4 2 (.int r8.1)).bind fun f10 => ((gI f10 v0 4 2).bind fun x11 => (if x11 = (-1 : Int32) then some (x1, (f10, r8.2.2)) else if x11 = (0 : Int32) then mX4_readAct_b98 v0 f10 r8.2.2 else if x11 = (1 : Int32) then mX4_readAct_b98 v0 f10 r8.2.2 else if x11 = (2 : Int32) then mX4_readAct_b148 f10 r8.2.2 else if x11 = (3 : Int32) then mX4_readAct_b148 f10 r8.2.2 else if x11 = (4 : Int32) then mX4_readAct_b148 f10 r8.2.2 else if x11 = (5 : Int32) then rCk (isO f10 v0 4) (((mX4_readFirst v0 (1 : Int32) (40 : Int32) f10 r8.2.2).bind fun r13 => some (r13.1, (r13.2.1, r13.2.2)))) else if x11 = (6 : Int32) then rCk (isO f10 v0 4) (((mX4_readWord v0 f10 r8.2.2).bind fun r16 => some (r16.1, (r16.2.1, r16.2.2)))) else if x11 = (7 : Int32) then mX4_readAct_b148 f10 r8.2.2 else if x11 = (8 : Int32) then mX4_readAct_b113 v0 f10 r8.2.2 else if x11 = (9 : Int32) then mX4_readAct_b113 v0 f10 r8.2.2 else if x11 = (10 : Int32) then rCk (isO f10 v0 4) (((mX4_readFirst v0 (0 : Int32) (39 : Int32) f10 r8.2.2).bind fun r19 => (if r19.1 = (-1 : Int32) then rCk (isO r19.2.1 v0 4) (((mX4_readSecond v0 r19.2.1 r19.2.2).bind fun r22 => mX4_readAct_b142 r22.1 r22.2.1 r22.2.2)) else mX4_readAct_b142 r19.1 r19.2.1 r19.2.2))) else mX4_readAct_b148 f10 r8.2.2)))))))))) = some r := h
  refine AM.of (by decide +kernel) rfl (Nat.le_of_ble_eq_true rfl) (fun p e s m args below meth c C hnm => ?_)
  refine aw_nl [some (.ref v0), none, none] rfl ?_
  refine aw_ald_n C dX4_readAct_0 rfl ?_
  obtain ⟨x1, hx1, h⟩ := Option.bind_eq_some_iff.mp h
  refine ah_getI C gf_X4_28 hx1 dX4_readAct_1 ?_
  refine aw_istore_n C dX4_readAct_4 (by decide) rfl ?_
  refine aw_nl [some (.ref v0), some (.int x1), none] rfl ?_
  refine aw_ald_n C dX4_readAct_5 rfl ?_
  refine aw_ald_n C dX4_readAct_6 rfl ?_
  obtain ⟨hb2, h⟩ := ck_some h
  obtain ⟨r3, hr3, h⟩ := Option.bind_eq_some_iff.mp h
  obtain ⟨fs4, hf4⟩ := isO_ex hb2
  refine aw_callV C (ci := 4) (b := v0) [] mv_X4_40 rfl rfl hf4 (rmX4_lettersEnd hr3) rfl dX4_readAct_7 (Nat.le_of_ble_eq_true rfl) (Nat.le_of_ble_eq_true rfl) rfl (Nat.le_of_ble_eq_true rfl) (show 0 + 0 ≤ 2 by omega) (show 0 + 0 ≤ 10 by omega) (fun v9 f9 n9 hh => ?_)
  obtain ⟨rfl, rfl, rfl⟩ := hh
  obtain ⟨f5, hf5, h⟩ := Option.bind_eq_some_iff.mp h
  refine ah_put C gf_X4_28 cf4 nf4_1 rfl rfl hf5 dX4_readAct_10 ?_
  refine aw_ald_n C dX4_readAct_13 rfl ?_
  refine aw_ald_n C dX4_readAct_14 rfl ?_
  refine aw_iload_n C dX4_readAct_15 rfl ?_
  refine aw_ald_n C dX4_readAct_16 rfl ?_
  obtain ⟨x6, hx6, h⟩ := Option.bind_eq_some_iff.mp h
  refine ah_getI C gf_X4_28 hx6 dX4_readAct_17 ?_
  refine aw_iload_n C dX4_readAct_20 rfl ?_
  refine aw_isub C dX4_readAct_21 ?_
  obtain ⟨hb7, h⟩ := ck_some h
  obtain ⟨r8, hr8, h⟩ := Option.bind_eq_some_iff.mp h
  obtain ⟨fs9, hf9⟩ := isO_ex hb7
  refine aw_callV C (ci := 4) (b := v0) [.int x1, .int (x6 - x1)] mv_X4_43 rfl rfl hf9 (rmX4_actNamed hr8) rfl dX4_readAct_22 (Nat.le_of_ble_eq_true rfl) (Nat.le_of_ble_eq_true rfl) rfl (Nat.le_of_ble_eq_true rfl) (show (0 + 0) + 0 ≤ 2 by omega) (show (0 + 0) + 0 ≤ 10 by omega) (fun v9 f9 n9 hh => ?_)
  obtain ⟨rfl, rfl, rfl⟩ := hh
  obtain ⟨f10, hf10, h⟩ := Option.bind_eq_some_iff.mp h
  refine ah_put C gf_X4_46 cf4 nf4_2 rfl rfl hf10 dX4_readAct_25 ?_
  refine aw_ald_n C dX4_readAct_28 rfl ?_
  obtain ⟨x11, hx11, h⟩ := Option.bind_eq_some_iff.mp h
  refine ah_getI C gf_X4_46 hx11 dX4_readAct_29 ?_
  by_cases q : x11 = (-1 : Int32)
  · rw [if_pos q] at h
    refine aw_top (-1 : Int32) q ?_
    refine aw_tabIn C (off := 64) 96 dX4_readAct_32 (by decide) (by decide) (by decide) (by decide) ?_
    refine aw_iload_n C dX4_readAct_96 rfl ?_
    cases h
    exact aw_iret C rfl rfl dX4_readAct_97 (by omega) (by omega) ⟨rfl, rfl, rfl⟩
  · rw [if_neg q] at h
    have q0 := q
    by_cases q : x11 = (0 : Int32)
    · rw [if_pos q] at h
      refine aw_top (0 : Int32) q ?_
      refine aw_tabIn C (off := 66) 98 dX4_readAct_32 (by decide) (by decide) (by decide) (by decide) ?_
      refine aw_fl [some (.ref v0), none, none] ⟨rfl, trivial⟩ ?_
      exact rmX4_readAct_b98 C (by omega) (by omega) h
    · rw [if_neg q] at h
      have q1 := q
      by_cases q : x11 = (1 : Int32)
      · rw [if_pos q] at h
        refine aw_top (1 : Int32) q ?_
        refine aw_tabIn C (off := 66) 98 dX4_readAct_32 (by decide) (by decide) (by decide) (by decide) ?_
        refine aw_fl [some (.ref v0), none, none] ⟨rfl, trivial⟩ ?_
        exact rmX4_readAct_b98 C (by omega) (by omega) h
      · rw [if_neg q] at h
        have q2 := q
        by_cases q : x11 = (2 : Int32)
        · rw [if_pos q] at h
          refine aw_top (2 : Int32) q ?_
          refine aw_tabIn C (off := 116) 148 dX4_readAct_32 (by decide) (by decide) (by decide) (by decide) ?_
          refine aw_fl [none, none, none] trivial ?_
          exact rmX4_readAct_b148 C (by omega) (by omega) h
        · rw [if_neg q] at h
          have q3 := q
          by_cases q : x11 = (3 : Int32)
          · rw [if_pos q] at h
            refine aw_top (3 : Int32) q ?_
            refine aw_tabIn C (off := 116) 148 dX4_readAct_32 (by decide) (by decide) (by decide) (by decide) ?_
            refine aw_fl [none, none, none] trivial ?_
            exact rmX4_readAct_b148 C (by omega) (by omega) h
          · rw [if_neg q] at h
            have q4 := q
            by_cases q : x11 = (4 : Int32)
            · rw [if_pos q] at h
              refine aw_top (4 : Int32) q ?_
              refine aw_tabIn C (off := 116) 148 dX4_readAct_32 (by decide) (by decide) (by decide) (by decide) ?_
              refine aw_fl [none, none, none] trivial ?_
              exact rmX4_readAct_b148 C (by omega) (by omega) h
            · rw [if_neg q] at h
              have q5 := q
              by_cases q : x11 = (5 : Int32)
              · rw [if_pos q] at h
                refine aw_top (5 : Int32) q ?_
                refine aw_tabIn C (off := 73) 105 dX4_readAct_32 (by decide) (by decide) (by decide) (by decide) ?_
                refine aw_ald_n C dX4_readAct_105 rfl ?_
                refine aw_iconst C 1 dX4_readAct_106 ki_1 ?_
                refine aw_bipush C 40 dX4_readAct_107 kb_40 ?_
                obtain ⟨hb12, h⟩ := ck_some h
                obtain ⟨r13, hr13, h⟩ := Option.bind_eq_some_iff.mp h
                obtain ⟨fs14, hf14⟩ := isO_ex hb12
                refine aw_callV C (ci := 4) (b := v0) [.int (1 : Int32), .int (40 : Int32)] mv_X4_49 rfl rfl hf14 (rmX4_readFirst hr13) rfl dX4_readAct_109 (Nat.le_of_ble_eq_true rfl) (Nat.le_of_ble_eq_true rfl) rfl (Nat.le_of_ble_eq_true rfl) (show ((0 + 0) + 0) + 0 ≤ 2 by omega) (show ((0 + 0) + 0) + 0 ≤ 10 by omega) (fun v9 f9 n9 hh => ?_)
                obtain ⟨rfl, rfl, rfl⟩ := hh
                cases h
                exact aw_iret C rfl rfl dX4_readAct_112 (by omega) (by omega) ⟨rfl, rfl, rfl⟩
              · rw [if_neg q] at h
                have q6 := q
                by_cases q : x11 = (6 : Int32)
                · rw [if_pos q] at h
                  refine aw_top (6 : Int32) q ?_
                  refine aw_tabIn C (off := 111) 143 dX4_readAct_32 (by decide) (by decide) (by decide) (by decide) ?_
                  refine aw_ald_n C dX4_readAct_143 rfl ?_
                  obtain ⟨hb15, h⟩ := ck_some h
                  obtain ⟨r16, hr16, h⟩ := Option.bind_eq_some_iff.mp h
                  obtain ⟨fs17, hf17⟩ := isO_ex hb15
                  refine aw_callV C (ci := 4) (b := v0) [] mv_X4_55 rfl rfl hf17 (rmX4_readWord hr16) rfl dX4_readAct_144 (Nat.le_of_ble_eq_true rfl) (Nat.le_of_ble_eq_true rfl) rfl (Nat.le_of_ble_eq_true rfl) (show ((0 + 0) + 0) + 2 ≤ 2 by omega) (show ((0 + 0) + 0) + 10 ≤ 10 by omega) (fun v9 f9 n9 hh => ?_)
                  obtain ⟨rfl, rfl, rfl⟩ := hh
                  cases h
                  exact aw_iret C rfl rfl dX4_readAct_147 (by omega) (by omega) ⟨rfl, rfl, rfl⟩
                · rw [if_neg q] at h
                  have q7 := q
                  by_cases q : x11 = (7 : Int32)
                  · rw [if_pos q] at h
                    refine aw_top (7 : Int32) q ?_
                    refine aw_tabIn C (off := 116) 148 dX4_readAct_32 (by decide) (by decide) (by decide) (by decide) ?_
                    refine aw_fl [none, none, none] trivial ?_
                    exact rmX4_readAct_b148 C (by omega) (by omega) h
                  · rw [if_neg q] at h
                    have q8 := q
                    by_cases q : x11 = (8 : Int32)
                    · rw [if_pos q] at h
                      refine aw_top (8 : Int32) q ?_
                      refine aw_tabIn C (off := 81) 113 dX4_readAct_32 (by decide) (by decide) (by decide) (by decide) ?_
                      refine aw_fl [some (.ref v0), none, none] ⟨rfl, trivial⟩ ?_
                      exact rmX4_readAct_b113 C (by omega) (by omega) h
                    · rw [if_neg q] at h
                      have q9 := q
                      by_cases q : x11 = (9 : Int32)
                      · rw [if_pos q] at h
                        refine aw_top (9 : Int32) q ?_
                        refine aw_tabIn C (off := 81) 113 dX4_readAct_32 (by decide) (by decide) (by decide) (by decide) ?_
                        refine aw_fl [some (.ref v0), none, none] ⟨rfl, trivial⟩ ?_
                        exact rmX4_readAct_b113 C (by omega) (by omega) h
                      · rw [if_neg q] at h
                        have q10 := q
                        by_cases q : x11 = (10 : Int32)
                        · rw [if_pos q] at h
                          refine aw_top (10 : Int32) q ?_
                          refine aw_tabIn C (off := 89) 121 dX4_readAct_32 (by decide) (by decide) (by decide) (by decide) ?_
                          refine aw_ald_n C dX4_readAct_121 rfl ?_
                          refine aw_iconst C 0 dX4_readAct_122 ki_0 ?_
                          refine aw_bipush C 39 dX4_readAct_123 kb_39 ?_
                          obtain ⟨hb18, h⟩ := ck_some h
                          obtain ⟨r19, hr19, h⟩ := Option.bind_eq_some_iff.mp h
                          obtain ⟨fs20, hf20⟩ := isO_ex hb18
                          refine aw_callV C (ci := 4) (b := v0) [.int (0 : Int32), .int (39 : Int32)] mv_X4_49 rfl rfl hf20 (rmX4_readFirst hr19) rfl dX4_readAct_125 (Nat.le_of_ble_eq_true rfl) (Nat.le_of_ble_eq_true rfl) rfl (Nat.le_of_ble_eq_true rfl) (show ((0 + 0) + 0) + 0 ≤ 2 by omega) (show ((0 + 0) + 0) + 0 ≤ 10 by omega) (fun v9 f9 n9 hh => ?_)
                          obtain ⟨rfl, rfl, rfl⟩ := hh
                          refine aw_istore_n C dX4_readAct_128 (by decide) rfl ?_
                          refine aw_nl [some (.ref v0), some (.int x1), some (.int r19.1)] rfl ?_
                          refine aw_iload_n C dX4_readAct_129 rfl ?_
                          refine aw_iconst C (-1) dX4_readAct_130 ki_m1 ?_
                          refine aw_icmp_ne C 141 dX4_readAct_131 (by decide) (fun q => ?_) (fun q => ?_)
                          · rw [if_neg q] at h
                            refine aw_iload_n C dX4_readAct_141 rfl ?_
                            refine aw_fl [none, none, none] trivial ?_
                            exact rmX4_readAct_b142 C (by omega) (by omega) h
                          · rw [if_pos q] at h
                            refine aw_ald_n C dX4_readAct_134 rfl ?_
                            obtain ⟨hb21, h⟩ := ck_some h
                            obtain ⟨r22, hr22, h⟩ := Option.bind_eq_some_iff.mp h
                            obtain ⟨fs23, hf23⟩ := isO_ex hb21
                            refine aw_callV C (ci := 4) (b := v0) [] mv_X4_52 rfl rfl hf23 (rmX4_readSecond hr22) rfl dX4_readAct_135 (Nat.le_of_ble_eq_true rfl) (Nat.le_of_ble_eq_true rfl) rfl (Nat.le_of_ble_eq_true rfl) (show (((0 + 0) + 0) + 0) + 0 ≤ 2 by omega) (show (((0 + 0) + 0) + 0) + 0 ≤ 10 by omega) (fun v9 f9 n9 hh => ?_)
                            obtain ⟨rfl, rfl, rfl⟩ := hh
                            refine aw_goto C 142 dX4_readAct_138 (by decide) ?_
                            refine aw_fl [none, none, none] trivial ?_
                            exact rmX4_readAct_b142 C (by omega) (by omega) h
                        · rw [if_neg q] at h
                          have q11 := q
                          refine aw_tabOut C 148 dX4_readAct_32 (sx_outm1_12 q0 q1 q2 q3 q4 q5 q6 q7 q8 q9 q10 q11) (by decide) ?_
                          refine aw_fl [none, none, none] trivial ?_
                          exact rmX4_readAct_b148 C (by omega) (by omega) h
def mX4_readBehindAct_b73 (v0 : Nat) (f : AH) (n : Nat) : Option (Int32 × HpN) := ((gR f v0 4 7).bind fun x1 => ((gI f v0 4 1).bind fun x2 => ((gR f v0 4 7).bind fun x3 => ((x3).bind fun j4 => rCk (isO f j4 5) (((mX5_size j4 f n).bind fun r6 => ((x1).bind fun j8 => rCk (isO r6.2.1 j8 5) (((mX5_behindBlanks j8 (x2 + (1 : Int32)) r6.1 r6.2.1 r6.2.2).bind fun r10 => ((pO r10.2.1 v0 4 1 (.int r10.1)).bind fun f12 => some ((-1 : Int32), (f12, r10.2.2))))))))))))
set_option maxHeartbeats 1000000 in
theorem rmX4_readBehindAct_b73 {X : GX} {p : Program} {l : Launch} {e : Env} {s : State} {m : MethodId} {args : Array Value} {below : List Frame} {meth : Method} {c : Code} {r : Int32 × HpN} {v0 : Nat} {f : AH} {n cells slots : Nat} (C : CC X p l (RM 1 0 0) s m args meth c RX4 cX4_readBehindAct 1 (some .int)) (hc : cells + 0 ≤ 0) (hs : slots + 0 ≤ 0) (h : mX4_readBehindAct_b73 v0 f n = some r) : AW X p l e (RM 1 0 0) s m args below meth c 1 (ZM X below args s 0 0 (QHi r)) f n cells slots 73 [some (.ref v0)] [] := by
  have h : ((gR f v0 4 7).bind fun x1 => ((gI f v0 4 1).bind fun x2 => ((gR f v0 4 7).bind fun x3 => ((x3).bind fun j4 => rCk (isO f j4 5) (((mX5_size j4 f n).bind fun r6 => ((x1).bind fun j8 => rCk (isO r6.2.1 j8 5) (((mX5_behindBlanks j8 (x2 + (1 : Int32)) r6.1 r6.2.1 r6.2.2).bind fun r10 => ((pO r10.2.1 v0 4 1 (.int r10.1)).bind fun f12 => some ((-1 : Int32), (f12, r10.2.2)))))))))))) = some r := h
  refine aw_ald_n C dX4_readBehindAct_73 rfl ?_
  refine aw_ald_n C dX4_readBehindAct_74 rfl ?_
  obtain ⟨x1, hx1, h⟩ := Option.bind_eq_some_iff.mp h
  refine ah_getR C gf_X4_14 hx1 dX4_readBehindAct_75 ?_
  refine aw_ald_n C dX4_readBehindAct_78 rfl ?_
  obtain ⟨x2, hx2, h⟩ := Option.bind_eq_some_iff.mp h
  refine ah_getI C gf_X4_28 hx2 dX4_readBehindAct_79 ?_
  refine aw_iconst C 1 dX4_readBehindAct_82 ki_1 ?_
  refine aw_iadd C dX4_readBehindAct_83 ?_
  refine aw_ald_n C dX4_readBehindAct_84 rfl ?_
  obtain ⟨x3, hx3, h⟩ := Option.bind_eq_some_iff.mp h
  refine ah_getR C gf_X4_14 hx3 dX4_readBehindAct_85 ?_
  obtain ⟨j4, hj4, h⟩ := Option.bind_eq_some_iff.mp h
  rw [hj4]
  obtain ⟨hb5, h⟩ := ck_some h
  obtain ⟨r6, hr6, h⟩ := Option.bind_eq_some_iff.mp h
  obtain ⟨fs7, hf7⟩ := isO_ex hb5
  refine aw_callV C (ci := 5) (b := j4) [] mv_X4_20 rfl rfl hf7 (rmX5_size hr6) rfl dX4_readBehindAct_88 (Nat.le_of_ble_eq_true rfl) (Nat.le_of_ble_eq_true rfl) rfl (cs_1 rfl (cs_1 (rf_cat _) (cs_1 rfl cs_0))) (show cells + 0 ≤ 0 by omega) (show slots + 0 ≤ 0 by omega) (fun v9 f9 n9 hh => ?_)
  obtain ⟨rfl, rfl, rfl⟩ := hh
  obtain ⟨j8, hj8, h⟩ := Option.bind_eq_some_iff.mp h
  rw [hj8]
  obtain ⟨hb9, h⟩ := ck_some h
  obtain ⟨r10, hr10, h⟩ := Option.bind_eq_some_iff.mp h
  obtain ⟨fs11, hf11⟩ := isO_ex hb9
  refine aw_callV C (ci := 5) (b := j8) [.int (x2 + (1 : Int32)), .int r6.1] mv_X4_24 rfl rfl hf11 (rmX5_behindBlanks hr10) rfl dX4_readBehindAct_91 (Nat.le_of_ble_eq_true rfl) (Nat.le_of_ble_eq_true rfl) rfl (Nat.le_of_ble_eq_true rfl) (show (cells + 0) + 0 ≤ 0 by omega) (show (slots + 0) + 0 ≤ 0 by omega) (fun v9 f9 n9 hh => ?_)
  obtain ⟨rfl, rfl, rfl⟩ := hh
  obtain ⟨f12, hf12, h⟩ := Option.bind_eq_some_iff.mp h
  refine ah_put C gf_X4_28 cf4 nf4_1 rfl rfl hf12 dX4_readBehindAct_94 ?_
  refine aw_iconst C (-1) dX4_readBehindAct_97 ki_m1 ?_
  cases h
  exact aw_iret C rfl rfl dX4_readBehindAct_98 (by omega) (by omega) ⟨rfl, rfl, rfl⟩
def mX4_readBehindAct_b42 (v0 : Nat) (s0 : Nat) (s1 : Int32) (f : AH) (n : Nat) : Option (Int32 × HpN) := rCk (rNb s1) (((pO f s0 4 0 (.int s1)).bind fun f2 => ((gI f2 v0 4 0).bind fun x3 => (if x3 = (0 : Int32) then mX4_readBehindAct_b73 v0 f2 n else ((gR f2 v0 4 7).bind fun x4 => ((gI f2 v0 4 1).bind fun x5 => ((x4).bind fun j6 => rCk (isO f2 j6 5) (((mX5_get j6 x5 f2 n).bind fun r8 => (if r8.1 = (59 : Int32) then mX4_readBehindAct_b73 v0 r8.2.1 r8.2.2 else ((gI r8.2.1 v0 4 1).bind fun x10 => some (x10, (r8.2.1, r8.2.2)))))))))))))
set_option maxHeartbeats 1000000 in
theorem rmX4_readBehindAct_b42 {X : GX} {p : Program} {l : Launch} {e : Env} {s : State} {m : MethodId} {args : Array Value} {below : List Frame} {meth : Method} {c : Code} {r : Int32 × HpN} {v0 : Nat} {s0 : Nat} {s1 : Int32} {f : AH} {n cells slots : Nat} (C : CC X p l (RM 1 0 0) s m args meth c RX4 cX4_readBehindAct 1 (some .int)) (hc : cells + 0 ≤ 0) (hs : slots + 0 ≤ 0) (h : mX4_readBehindAct_b42 v0 s0 s1 f n = some r) : AW X p l e (RM 1 0 0) s m args below meth c 1 (ZM X below args s 0 0 (QHi r)) f n cells slots 42 [some (.ref v0)] [.int s1, .ref s0] := by
  have h : rCk (rNb s1) (((pO f s0 4 0 (.int s1)).bind fun f2 => ((gI f2 v0 4 0).bind fun x3 => (if x3 = (0 : Int32) then mX4_readBehindAct_b73 v0 f2 n else ((gR f2 v0 4 7).bind fun x4 => ((gI f2 v0 4 1).bind fun x5 => ((x4).bind fun j6 => rCk (isO f2 j6 5) (((mX5_get j6 x5 f2 n).bind fun r8 => (if r8.1 = (59 : Int32) then mX4_readBehindAct_b73 v0 r8.2.1 r8.2.2 else ((gI r8.2.1 v0 4 1).bind fun x10 => some (x10, (r8.2.1, r8.2.2))))))))))))) = some r := h
  obtain ⟨hb1, h⟩ := ck_some h
  obtain ⟨f2, hf2, h⟩ := Option.bind_eq_some_iff.mp h
  refine ah_put C gf_X4_32 cf4 nf4_0 (nb_nar hb1) (nb_fit hb1) hf2 dX4_readBehindAct_42 ?_
  refine aw_ald_n C dX4_readBehindAct_45 rfl ?_
  obtain ⟨x3, hx3, h⟩ := Option.bind_eq_some_iff.mp h
  refine ah_getI C gf_X4_32 hx3 dX4_readBehindAct_46 ?_
  refine aw_if_eq C 73 dX4_readBehindAct_49 (by decide) (fun q => ?_) (fun q => ?_)
  · rw [if_pos q] at h
    refine aw_fl [some (.ref v0)] ⟨rfl, trivial⟩ ?_
    exact rmX4_readBehindAct_b73 C (by omega) (by omega) h
  · rw [if_neg q] at h
    refine aw_ald_n C dX4_readBehindAct_52 rfl ?_
    obtain ⟨x4, hx4, h⟩ := Option.bind_eq_some_iff.mp h
    refine ah_getR C gf_X4_14 hx4 dX4_readBehindAct_53 ?_
    refine aw_ald_n C dX4_readBehindAct_56 rfl ?_
    obtain ⟨x5, hx5, h⟩ := Option.bind_eq_some_iff.mp h
    refine ah_getI C gf_X4_28 hx5 dX4_readBehindAct_57 ?_
    obtain ⟨j6, hj6, h⟩ := Option.bind_eq_some_iff.mp h
    rw [hj6]
    obtain ⟨hb7, h⟩ := ck_some h
    obtain ⟨r8, hr8, h⟩ := Option.bind_eq_some_iff.mp h
    obtain ⟨fs9, hf9⟩ := isO_ex hb7
    refine aw_callV C (ci := 5) (b := j6) [.int x5] mv_X4_36 rfl rfl hf9 (rmX5_get hr8) rfl dX4_readBehindAct_60 (Nat.le_of_ble_eq_true rfl) (Nat.le_of_ble_eq_true rfl) rfl (Nat.le_of_ble_eq_true rfl) (show cells + 0 ≤ 0 by omega) (show slots + 0 ≤ 0 by omega) (fun v9 f9 n9 hh => ?_)
    obtain ⟨rfl, rfl, rfl⟩ := hh
    refine aw_bipush C 59 dX4_readBehindAct_63 kb_59 ?_
    refine aw_icmp_eq C 73 dX4_readBehindAct_65 (by decide) (fun q => ?_) (fun q => ?_)
    · rw [if_pos q] at h
      refine aw_fl [some (.ref v0)] ⟨rfl, trivial⟩ ?_
      exact rmX4_readBehindAct_b73 C (by omega) (by omega) h
    · rw [if_neg q] at h
      refine aw_ald_n C dX4_readBehindAct_68 rfl ?_
      obtain ⟨x10, hx10, h⟩ := Option.bind_eq_some_iff.mp h
      refine ah_getI C gf_X4_28 hx10 dX4_readBehindAct_69 ?_
      cases h
      exact aw_iret C rfl rfl dX4_readBehindAct_72 (by omega) (by omega) ⟨rfl, rfl, rfl⟩
def mX4_readBehindAct (v0 : Nat) (f : AH) (n : Nat) : Option (Int32 × HpN) := ((gR f v0 4 7).bind fun x1 => ((gI f v0 4 1).bind fun x2 => ((gR f v0 4 7).bind fun x3 => ((x3).bind fun j4 => rCk (isO f j4 5) (((mX5_size j4 f n).bind fun r6 => ((x1).bind fun j8 => rCk (isO r6.2.1 j8 5) (((mX5_behindBlanks j8 x2 r6.1 r6.2.1 r6.2.2).bind fun r10 => ((pO r10.2.1 v0 4 1 (.int r10.1)).bind fun f12 => ((gI f12 v0 4 1).bind fun x13 => ((gR f12 v0 4 7).bind fun x14 => ((x14).bind fun j15 => rCk (isO f12 j15 5) (((mX5_size j15 f12 r10.2.2).bind fun r17 => (if r17.1 ≤ x13 then mX4_readBehindAct_b42 v0 v0 (0 : Int32) r17.2.1 r17.2.2 else mX4_readBehindAct_b42 v0 v0 (1 : Int32) r17.2.1 r17.2.2))))))))))))))))
set_option maxHeartbeats 1000000 in
theorem rmX4_readBehindAct {X : GX} {l : Launch} {r : Int32 × HpN} {v0 : Nat} {f : AH} {n : Nat} (h : mX4_readBehindAct v0 f n = some r) : AM X l yX4_readBehindAct cX4_readBehindAct 1 (some .int) 1 0 0 [.ref v0] f n (QHi r) := by
  have h : ((gR f v0 4 7).bind fun x1 => ((gI f v0 4 1).bind fun x2 => ((gR f v0 4 7).bind fun x3 => ((x3).bind fun j4 => rCk (isO f j4 5) (((mX5_size j4 f n).bind fun r6 => ((x1).bind fun j8 => rCk (isO r6.2.1 j8 5) (((mX5_behindBlanks j8 x2 r6.1 r6.2.1 r6.2.2).bind fun r10 => ((pO r10.2.1 v0 4 1 (.int r10.1)).bind fun f12 => ((gI f12 v0 4 1).bind fun x13 => ((gR f12 v0 4 7).bind fun x14 => ((x14).bind fun j15 => rCk (isO f12 j15 5) (((mX5_size j15 f12 r10.2.2).bind fun r17 => (if r17.1 ≤ x13 then mX4_readBehindAct_b42 v0 v0 (0 : Int32) r17.2.1 r17.2.2 else mX4_readBehindAct_b42 v0 v0 (1 : Int32) r17.2.1 r17.2.2)))))))))))))))) = some r := h
  refine AM.of (by decide +kernel) rfl (Nat.le_of_ble_eq_true rfl) (fun p e s m args below meth c C hnm => ?_)
  refine aw_nl [some (.ref v0)] rfl ?_
  refine aw_ald_n C dX4_readBehindAct_0 rfl ?_
  refine aw_ald_n C dX4_readBehindAct_1 rfl ?_
  obtain ⟨x1, hx1, h⟩ := Option.bind_eq_some_iff.mp h
  refine ah_getR C gf_X4_14 hx1 dX4_readBehindAct_2 ?_
  refine aw_ald_n C dX4_readBehindAct_5 rfl ?_
  obtain ⟨x2, hx2, h⟩ := Option.bind_eq_some_iff.mp h
  refine ah_getI C gf_X4_28 hx2 dX4_readBehindAct_6 ?_
  refine aw_ald_n C dX4_readBehindAct_9 rfl ?_
  obtain ⟨x3, hx3, h⟩ := Option.bind_eq_some_iff.mp h
  refine ah_getR C gf_X4_14 hx3 dX4_readBehindAct_10 ?_
  obtain ⟨j4, hj4, h⟩ := Option.bind_eq_some_iff.mp h
  rw [hj4]
  obtain ⟨hb5, h⟩ := ck_some h
  obtain ⟨r6, hr6, h⟩ := Option.bind_eq_some_iff.mp h
  obtain ⟨fs7, hf7⟩ := isO_ex hb5
  refine aw_callV C (ci := 5) (b := j4) [] mv_X4_20 rfl rfl hf7 (rmX5_size hr6) rfl dX4_readBehindAct_13 (Nat.le_of_ble_eq_true rfl) (Nat.le_of_ble_eq_true rfl) rfl (cs_1 rfl (cs_1 (rf_cat _) (cs_1 rfl cs_0))) (show 0 + 0 ≤ 0 by omega) (show 0 + 0 ≤ 0 by omega) (fun v9 f9 n9 hh => ?_)
  obtain ⟨rfl, rfl, rfl⟩ := hh
  obtain ⟨j8, hj8, h⟩ := Option.bind_eq_some_iff.mp h
  rw [hj8]
  obtain ⟨hb9, h⟩ := ck_some h
  obtain ⟨r10, hr10, h⟩ := Option.bind_eq_some_iff.mp h
  obtain ⟨fs11, hf11⟩ := isO_ex hb9
  refine aw_callV C (ci := 5) (b := j8) [.int x2, .int r6.1] mv_X4_24 rfl rfl hf11 (rmX5_behindBlanks hr10) rfl dX4_readBehindAct_16 (Nat.le_of_ble_eq_true rfl) (Nat.le_of_ble_eq_true rfl) rfl (Nat.le_of_ble_eq_true rfl) (show (0 + 0) + 0 ≤ 0 by omega) (show (0 + 0) + 0 ≤ 0 by omega) (fun v9 f9 n9 hh => ?_)
  obtain ⟨rfl, rfl, rfl⟩ := hh
  obtain ⟨f12, hf12, h⟩ := Option.bind_eq_some_iff.mp h
  refine ah_put C gf_X4_28 cf4 nf4_1 rfl rfl hf12 dX4_readBehindAct_19 ?_
  refine aw_ald_n C dX4_readBehindAct_22 rfl ?_
  refine aw_ald_n C dX4_readBehindAct_23 rfl ?_
  obtain ⟨x13, hx13, h⟩ := Option.bind_eq_some_iff.mp h
  refine ah_getI C gf_X4_28 hx13 dX4_readBehindAct_24 ?_
  refine aw_ald_n C dX4_readBehindAct_27 rfl ?_
  obtain ⟨x14, hx14, h⟩ := Option.bind_eq_some_iff.mp h
  refine ah_getR C gf_X4_14 hx14 dX4_readBehindAct_28 ?_
  obtain ⟨j15, hj15, h⟩ := Option.bind_eq_some_iff.mp h
  rw [hj15]
  obtain ⟨hb16, h⟩ := ck_some h
  obtain ⟨r17, hr17, h⟩ := Option.bind_eq_some_iff.mp h
  obtain ⟨fs18, hf18⟩ := isO_ex hb16
  refine aw_callV C (ci := 5) (b := j15) [] mv_X4_20 rfl rfl hf18 (rmX5_size hr17) rfl dX4_readBehindAct_31 (Nat.le_of_ble_eq_true rfl) (Nat.le_of_ble_eq_true rfl) rfl (Nat.le_of_ble_eq_true rfl) (show ((0 + 0) + 0) + 0 ≤ 0 by omega) (show ((0 + 0) + 0) + 0 ≤ 0 by omega) (fun v9 f9 n9 hh => ?_)
  obtain ⟨rfl, rfl, rfl⟩ := hh
  refine aw_icmp_ge C 41 dX4_readBehindAct_34 (by decide) (fun q => ?_) (fun q => ?_)
  · rw [if_pos q] at h
    refine aw_iconst C 0 dX4_readBehindAct_41 ki_0 ?_
    refine aw_fl [some (.ref v0)] ⟨rfl, trivial⟩ ?_
    exact rmX4_readBehindAct_b42 C (by omega) (by omega) h
  · rw [if_neg q] at h
    refine aw_iconst C 1 dX4_readBehindAct_37 ki_1 ?_
    refine aw_goto C 42 dX4_readBehindAct_38 (by decide) ?_
    refine aw_fl [some (.ref v0)] ⟨rfl, trivial⟩ ?_
    exact rmX4_readBehindAct_b42 C (by omega) (by omega) h
end
