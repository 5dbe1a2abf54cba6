def mX8_kept_b63 (rec12 : Nat → Int32 → (Option Nat) → Int32 → AH → Nat → Option ((Int32 ⊕ String) × HpN)) (v0 : Nat) (v1 : Int32) (v2 : Option Nat) (v3 : Int32) (f : AH) (n : Nat) : Option ((Int32 ⊕ String) × HpN) := rec12 v0 v1 v2 (v3 + (1 : Int32)) f n
set_option maxHeartbeats 1000000 in
theorem rmX8_kept_b63 {X : GX} {p : Program} {l : Launch} {e : Env} {s : State} {m : MethodId} {args : Array Value} {below : List Frame} {meth : Method} {c : Code} {r : (Int32 ⊕ String) × HpN} {rec12 : Nat → Int32 → (Option Nat) → Int32 → AH → Nat → Option ((Int32 ⊕ String) × HpN)} {v0 : Nat} {v1 : Int32} {v2 : Option Nat} {v3 : Int32} {f : AH} {n cells slots : Nat} (C : CC X p l (RM 7 1 6) s m args meth c RX8 cX8_kept 5 (some .boolean)) (hl0 : l.stackTraces = false) (htab : ∀ x ∈ c.exceptionTable.toList, False) (Hr12 : ∀ (v0 : Nat) (v1 : Int32) (v2 : Option Nat) (v3 : Int32) (f : AH) (n cells slots : Nat), cells + 0 ≤ 1 → slots + 0 ≤ 6 → rec12 v0 v1 v2 v3 f n = some r → AW X p l e (RM 7 1 6) s m args below meth c 5 (ZX X below args s 1 6 (QTr (QHi) r) (QTx r)) f n cells slots 12 [some (.ref v0), some (.int v1), some (va_rf v2), some (.int v3), none] []) (hc : cells + 0 ≤ 1) (hs : slots + 0 ≤ 6) (h : mX8_kept_b63 rec12 v0 v1 v2 v3 f n = some r) : AW X p l e (RM 7 1 6) s m args below meth c 5 (ZX X below args s 1 6 (QTr (QHi) r) (QTx r)) f n cells slots 63 [some (.ref v0), some (.int v1), some (va_rf v2), some (.int v3), none] [] := by
  have h : rec12 v0 v1 v2 (v3 + (1 : Int32)) f n = some r := h
  refine aw_iinc C (v3 + (1 : Int32)) dX8_kept_63 rfl (by rw [ki_1]) (by decide) (ok_rf 2 rfl) ?_
  refine aw_nl [some (.ref v0), some (.int v1), some (va_rf v2), some (.int (v3 + (1 : Int32))), none] rfl ?_
  refine aw_goto C 12 dX8_kept_66 (by decide) ?_
  refine aw_fl [some (.ref v0), some (.int v1), some (va_rf v2), some (.int (v3 + (1 : Int32))), none] ⟨rfl, ⟨rfl, ⟨rfl, ⟨rfl, trivial⟩⟩⟩⟩ ?_
  exact Hr12 v0 v1 v2 (v3 + (1 : Int32)) f n _ _ (by omega) (by omega) h
def mX8_kept_l12 : Nat → Nat → Int32 → (Option Nat) → Int32 → AH → Nat → Option ((Int32 ⊕ String) × HpN)
  | 0, _, _, _, _, _, _ => none
  | d + 1, v0, v1, v2, v3, f, n => ((gR f v0 8 6).bind fun x1 => ((x1).bind fun j2 => rCk (isO f j2 1) (((mX1_size j2 f n).bind fun r4 => (if r4.1 ≤ v3 then rCk (rNb (0 : Int32)) (some (.inl (0 : Int32), (r4.2.1, r4.2.2))) else ((gR r4.2.1 v0 8 6).bind fun x7 => ((x7).bind fun j8 => rCk (isO r4.2.1 j8 1) (((mX1_get j8 v3 r4.2.1 r4.2.2).bind fun r10 => ((some r10.1).bind fun x12 => (oN x12 (mX8_kept_b63 (fun v0 v1 v2 v3 f n => mX8_kept_l12 d v0 v1 v2 v3 f n) v0 v1 v2 v3 r10.2.1 r10.2.2) (fun j13 => ((gI r10.2.1 j13 3 0).bind fun x14 => ((v2).bind fun j15 => rCk (isO r10.2.1 j15 3) (((mX3_mayBeginInBuilt j15 x14 r10.2.1 r10.2.2).bind fun r17 => (if r17.1 = (0 : Int32) then mX8_kept_b63 (fun v0 v1 v2 v3 f n => mX8_kept_l12 d v0 v1 v2 v3 f n) v0 v1 (some j15) v3 r17.2.1 r17.2.2 else rCk (isO r17.2.1 v0 8) (((mX8_isNow v0 v1 (some j15) (some j13) r17.2.1 r17.2.2).bind fun r20 => (if r20.1 = (0 : Int32) then mX8_kept_b63 (fun v0 v1 v2 v3 f n => mX8_kept_l12 d v0 v1 v2 v3 f n) v0 v1 (some j15) v3 r20.2.1 r20.2.2 else rCk (rNb (1 : Int32)) (some (.inl (1 : Int32), (r20.2.1, r20.2.2)))))))))))))))))))))))
set_option maxHeartbeats 1000000 in
theorem rmX8_kept_l12 {X : GX} {p : Program} {l : Launch} {e : Env} {s : State} {m : MethodId} {args : Array Value} {below : List Frame} {meth : Method} {c : Code} {r : (Int32 ⊕ String) × HpN} (C : CC X p l (RM 7 1 6) s m args meth c RX8 cX8_kept 5 (some .boolean)) (hl0 : l.stackTraces = false) (htab : ∀ x ∈ c.exceptionTable.toList, False) : ∀ (d : Nat) (v0 : Nat) (v1 : Int32) (v2 : Option Nat) (v3 : Int32) (f : AH) (n cells slots : Nat) (_ : cells + 0 ≤ 1) (_ : slots + 0 ≤ 6) (_ : mX8_kept_l12 d v0 v1 v2 v3 f n = some r), AW X p l e (RM 7 1 6) s m args below meth c 5 (ZX X below args s 1 6 (QTr (QHi) r) (QTx r)) f n cells slots 12 [some (.ref v0), some (.int v1), some (va_rf v2), some (.int v3), none] [] := by
  intro d
  induction d with
  | zero =>
    intro v0 v1 v2 v3 f n cells slots hc hs h
    exact nomatch (show (none : Option ((Int32 ⊕ String) × HpN)) = some r from h)
  | succ d ih =>
    intro v0 v1 v2 v3 f n cells slots hc hs h
    have h : ((gR f v0 8 6).bind fun x1 => ((x1).bind fun j2 => rCk (isO f j2 1) (((mX1_size j2 f n).bind fun r4 => (if r4.1 ≤ v3 then rCk (rNb (0 : Int32)) (some (.inl (0 : Int32), (r4.2.1, r4.2.2))) else ((gR r4.2.1 v0 8 6).bind fun x7 => ((x7).bind fun j8 => rCk (isO r4.2.1 j8 1) (((mX1_get j8 v3 r4.2.1 r4.2.2).bind fun r10 => ((some r10.1).bind fun x12 => (oN x12 (mX8_kept_b63 (fun v0 v1 v2 v3 f n => mX8_kept_l12 d v0 v1 v2 v3 f n) v0 v1 v2 v3 r10.2.1 r10.2.2) (fun j13 => ((gI r10.2.1 j13 3 0).bind fun x14 => ((v2).bind fun j15 => rCk (isO r10.2.1 j15 3) (((mX3_mayBeginInBuilt j15 x14 r10.2.1 r10.2.2).bind fun r17 => (if r17.1 = (0 : Int32) then mX8_kept_b63 (fun v0 v1 v2 v3 f n => mX8_kept_l12 d v0 v1 v2 v3 f n) v0 v1 (some j15) v3 r17.2.1 r17.2.2 else rCk (isO r17.2.1 v0 8) (((mX8_isNow v0 v1 (some j15) (some j13) r17.2.1 r17.2.2).bind fun r20 => (if r20.1 = (0 : Int32) then mX8_kept_b63 (fun v0 v1 v2 v3 f n => mX8_kept_l12 d v0 v1 v2 v3 f n) v0 v1 (some j15) v3 r20.2.1 r20.2.2 else rCk (rNb (1 : Int32)) (some (.inl (1 : Int32), (r20.2.1, r20.2.2))))))))))))))))))))))) = some r := h
    refine aw_iload_n C dX8_kept_12 rfl ?_
    refine aw_ald_n C dX8_kept_13 rfl ?_
    obtain ⟨x1, hx1, h⟩ := Option.bind_eq_some_iff.mp h
    refine ah_getR C gf_X8_42 hx1 dX8_kept_14 ?_
    obtain ⟨j2, hj2, h⟩ := Option.bind_eq_some_iff.mp h
    rw [hj2]
    obtain ⟨hb3, h⟩ := ck_some h
    obtain ⟨r4, hr4, h⟩ := Option.bind_eq_some_iff.mp h
    obtain ⟨fs5, hf5⟩ := isO_ex hb3
    refine aw_callV C (ci := 1) (b := j2) [] mv_X8_136 rfl rfl hf5 (rmX1_size hr4) rfl dX8_kept_17 (Nat.le_of_ble_eq_true rfl) (Nat.le_of_ble_eq_true rfl) rfl (Nat.le_of_ble_eq_true rfl) (show cells + 0 ≤ 1 by omega) (show slots + 0 ≤ 6 by omega) (fun v9 f9 n9 hh => ?_)
    obtain ⟨rfl, rfl, rfl⟩ := hh
    refine aw_icmp_ge C 69 dX8_kept_20 (by decide) (fun q => ?_) (fun q => ?_)
    · rw [if_pos q] at h
      refine aw_iconst C 0 dX8_kept_69 ki_0 ?_
      obtain ⟨hb6, h⟩ := ck_some h
      cases h
      exact ax_of (aw_iret C rfl (nb_nar hb6) dX8_kept_70 (by omega) (by omega) ⟨_, rfl, rfl, rfl, rfl⟩)
    · rw [if_neg q] at h
      refine aw_ald_n C dX8_kept_23 rfl ?_
      obtain ⟨x7, hx7, h⟩ := Option.bind_eq_some_iff.mp h
      refine ah_getR C gf_X8_42 hx7 dX8_kept_24 ?_
      refine aw_iload_n C dX8_kept_27 rfl ?_
      obtain ⟨j8, hj8, h⟩ := Option.bind_eq_some_iff.mp h
      rw [hj8]
      obtain ⟨hb9, h⟩ := ck_some h
      obtain ⟨r10, hr10, h⟩ := Option.bind_eq_some_iff.mp h
      obtain ⟨fs11, hf11⟩ := isO_ex hb9
      refine aw_callV C (ci := 1) (b := j8) [.int v3] mv_X8_241 rfl rfl hf11 (rmX1_get hr10) rfl dX8_kept_28 (Nat.le_of_ble_eq_true rfl) (Nat.le_of_ble_eq_true rfl) rfl (Nat.le_of_ble_eq_true rfl) (show (cells + 0) + 0 ≤ 1 by omega) (show (slots + 0) + 0 ≤ 6 by omega) (fun v9 f9 n9 hh => ?_)
      obtain ⟨rfl, rfl, rfl⟩ := hh
      obtain ⟨x12, hx12, h⟩ := Option.bind_eq_some_iff.mp h
      rw [Option.some.inj hx12]
      refine aw_astore C dX8_kept_31 (by decide) rfl (rf_or x12) ?_
      refine aw_nl [some (.ref v0), some (.int v1), some (va_rf v2), some (.int v3), some (va_rf x12)] rfl ?_
      refine aw_aload C dX8_kept_33 rfl (rf_or x12) ?_
      cases x12 with
      | none =>
        replace h : mX8_kept_b63 (fun v0 v1 v2 v3 f n => mX8_kept_l12 d v0 v1 v2 v3 f n) v0 v1 v2 v3 r10.2.1 r10.2.2 = some r := h
        refine aw_ifnull_n C 63 dX8_kept_35 (by decide) ?_
        refine aw_fl [some (.ref v0), some (.int v1), some (va_rf v2), some (.int v3), none] ⟨rfl, ⟨rfl, ⟨rfl, ⟨rfl, trivial⟩⟩⟩⟩ ?_
        exact rmX8_kept_b63 C hl0 htab (fun v0 v1 v2 v3 f n cells slots hc hs h => ih v0 v1 v2 v3 f n cells slots hc hs h) (by omega) (by omega) h
      | some j13 =>
        replace h : ((gI r10.2.1 j13 3 0).bind fun x14 => ((v2).bind fun j15 => rCk (isO r10.2.1 j15 3) (((mX3_mayBeginInBuilt j15 x14 r10.2.1 r10.2.2).bind fun r17 => (if r17.1 = (0 : Int32) then mX8_kept_b63 (fun v0 v1 v2 v3 f n => mX8_kept_l12 d v0 v1 v2 v3 f n) v0 v1 (some j15) v3 r17.2.1 r17.2.2 else rCk (isO r17.2.1 v0 8) (((mX8_isNow v0 v1 (some j15) (some j13) r17.2.1 r17.2.2).bind fun r20 => (if r20.1 = (0 : Int32) then mX8_kept_b63 (fun v0 v1 v2 v3 f n => mX8_kept_l12 d v0 v1 v2 v3 f n) v0 v1 (some j15) v3 r20.2.1 r20.2.2 else rCk (rNb (1 : Int32)) (some (.inl (1 : Int32), (r20.2.1, r20.2.2))))))))))) = some r := h
        refine aw_ifnull_r C 63 dX8_kept_35 (by decide) ?_
        refine aw_aload_n C dX8_kept_38 rfl (rf_or v2) ?_
        refine aw_ald C dX8_kept_39 rfl ?_
        obtain ⟨x14, hx14, h⟩ := Option.bind_eq_some_iff.mp h
        refine ah_getI C gf_X8_179 hx14 dX8_kept_41 ?_
        obtain ⟨j15, hj15, h⟩ := Option.bind_eq_some_iff.mp h
        rw [hj15]
        obtain ⟨hb16, h⟩ := ck_some h
        obtain ⟨r17, hr17, h⟩ := Option.bind_eq_some_iff.mp h
        obtain ⟨fs18, hf18⟩ := isO_ex hb16
        refine aw_callV C (ci := 3) (b := j15) [.int x14] mv_X8_279 rfl rfl hf18 (rmX3_mayBeginInBuilt hr17) rfl dX8_kept_44 (Nat.le_of_ble_eq_true rfl) (Nat.le_of_ble_eq_true rfl) rfl (Nat.le_of_ble_eq_true rfl) (show ((cells + 0) + 0) + 0 ≤ 1 by omega) (show ((slots + 0) + 0) + 0 ≤ 6 by omega) (fun v9 f9 n9 hh => ?_)
        obtain ⟨rfl, rfl, rfl⟩ := hh
        refine aw_if_eq C 63 dX8_kept_47 (by decide) (fun q => ?_) (fun q => ?_)
        · rw [if_pos q] at h
          refine aw_fl [some (.ref v0), some (.int v1), some (va_rf (some j15)), some (.int v3), none] ⟨rfl, ⟨rfl, ⟨rfl, ⟨rfl, trivial⟩⟩⟩⟩ ?_
          exact rmX8_kept_b63 C hl0 htab (fun v0 v1 v2 v3 f n cells slots hc hs h => ih v0 v1 v2 v3 f n cells slots hc hs h) (by omega) (by omega) h
        · rw [if_neg q] at h
          refine aw_ald_n C dX8_kept_50 rfl ?_
          refine aw_iload_n C dX8_kept_51 rfl ?_
          refine aw_ald_n C dX8_kept_52 rfl ?_
          refine aw_ald C dX8_kept_53 rfl ?_
          obtain ⟨hb19, h⟩ := ck_some h
          obtain ⟨r20, hr20, h⟩ := Option.bind_eq_some_iff.mp h
          obtain ⟨fs21, hf21⟩ := isO_ex hb19
          refine aw_callV C (ci := 8) (b := v0) [.int v1, .ref j15, .ref j13] mv_X8_283 rfl rfl hf21 (rmX8_isNow hr20) rfl dX8_kept_55 (Nat.le_of_ble_eq_true rfl) (Nat.le_of_ble_eq_true rfl) rfl (Nat.le_of_ble_eq_true rfl) (show (((cells + 0) + 0) + 0) + 0 ≤ 1 by omega) (show (((slots + 0) + 0) + 0) + 0 ≤ 6 by omega) (fun v9 f9 n9 hh => ?_)
          obtain ⟨rfl, rfl, rfl⟩ := hh
          refine aw_if_eq C 63 dX8_kept_58 (by decide) (fun q => ?_) (fun q => ?_)
          · rw [if_pos q] at h
            refine aw_fl [some (.ref v0), some (.int v1), some (va_rf (some j15)), some (.int v3), none] ⟨rfl, ⟨rfl, ⟨rfl, ⟨rfl, trivial⟩⟩⟩⟩ ?_
            exact rmX8_kept_b63 C hl0 htab (fun v0 v1 v2 v3 f n cells slots hc hs h => ih v0 v1 v2 v3 f n cells slots hc hs h) (by omega) (by omega) h
          · rw [if_neg q] at h
            refine aw_iconst C 1 dX8_kept_61 ki_1 ?_
            obtain ⟨hb22, h⟩ := ck_some h
            cases h
            exact ax_of (aw_iret C rfl (nb_nar hb22) dX8_kept_62 (by omega) (by omega) ⟨_, rfl, rfl, rfl, rfl⟩)
def mX8_kept (v0 : Nat) (v1 : Int32) (f : AH) (n : Nat) : Option ((Int32 ⊕ String) × HpN) := rCk (isO f v0 8) (((mX8_pieceOrThrow v0 v1 f n).bind fun r2 => (tS r2.1 r2.2 (fun y2 => ((some y2).bind fun x4 => rCk (isO r2.2.1 v0 8) (((mX8_cutAgain v0 r2.2.1 r2.2.2).bind fun r6 => mX8_kept_l12 rFU v0 v1 x4 (0 : Int32) r6.2.1 r6.2.2)))))))
set_option maxHeartbeats 1000000 in
theorem rmX8_kept {X : GX} {l : Launch} {r : (Int32 ⊕ String) × HpN} {v0 : Nat} {v1 : Int32} {f : AH} {n : Nat} (hl0 : l.stackTraces = false) (h : mX8_kept v0 v1 f n = some r) : AX X l yX8_kept cX8_kept 5 (some .boolean) 7 1 6 [.ref v0, .int v1] f n (QTr (QHi) r) (QTx r) := by
  have h : rCk (isO f v0 8) (((mX8_pieceOrThrow v0 v1 f n).bind fun r2 => (tS r2.1 r2.2 (fun y2 => ((some y2).bind fun x4 => rCk (isO r2.2.1 v0 8) (((mX8_cutAgain v0 r2.2.1 r2.2.2).bind fun r6 => mX8_kept_l12 rFU v0 v1 x4 (0 : Int32) r6.2.1 r6.2.2))))))) = some r := h
  refine AX.of (by decide +kernel) rfl (Nat.le_of_ble_eq_true rfl) (fun p e s m args below meth c C htab => ?_)
  refine aw_nl [some (.ref v0), some (.int v1), none, none, none] rfl ?_
  refine aw_ald_n C dX8_kept_0 rfl ?_
  refine aw_iload_n C dX8_kept_1 rfl ?_
  obtain ⟨hb1, h⟩ := ck_some h
  obtain ⟨r2, hr2, h⟩ := Option.bind_eq_some_iff.mp h
  obtain ⟨fs3, hf3⟩ := isO_ex hb1
  refine ax_callV C (ci := 8) (b := v0) [.int v1] mv_X8_175 rfl rfl hf3 (rmX8_pieceOrThrow hl0 hr2) rfl dX8_kept_2 (Nat.le_of_ble_eq_true rfl) (Nat.le_of_ble_eq_true rfl) rfl (Nat.le_of_ble_eq_true rfl) (show 0 + 1 ≤ 1 by omega) (show 0 + 6 ≤ 6 by omega) (fun E9 f9 n9 hq => ?_) (fun v9 f9 n9 hq => ?_)
  · obtain ⟨e1, e2, e3⟩ := hq
    rw [tS_r e1] at h
    cases h
    exact at_out C htab ⟨rfl, e2, e3⟩ (by omega) (by omega)
  obtain ⟨y2, e2, rfl, rfl, rfl⟩ := hq
  rw [tS_l e2] at h
  replace h : ((some y2).bind fun x4 => rCk (isO r2.2.1 v0 8) (((mX8_cutAgain v0 r2.2.1 r2.2.2).bind fun r6 => mX8_kept_l12 rFU v0 v1 x4 (0 : Int32) r6.2.1 r6.2.2))) = some r := h
  obtain ⟨x4, hx4, h⟩ := Option.bind_eq_some_iff.mp h
  rw [Option.some.inj hx4]
  refine aw_astore_n C dX8_kept_5 (by decide) rfl (rf_or x4) ?_
  refine aw_nl [some (.ref v0), some (.int v1), some (va_rf x4), none, none] rfl ?_
  refine aw_ald_n C dX8_kept_6 rfl ?_
  obtain ⟨hb5, h⟩ := ck_some h
  obtain ⟨r6, hr6, h⟩ := Option.bind_eq_some_iff.mp h
  obtain ⟨fs7, hf7⟩ := isO_ex hb5
  refine aw_callV C (ci := 8) (b := v0) [] mv_X8_276 rfl rfl hf7 (rmX8_cutAgain hr6) rfl dX8_kept_7 (Nat.le_of_ble_eq_true rfl) (Nat.le_of_ble_eq_true rfl) rfl (Nat.le_of_ble_eq_true rfl) (show (0 + 1) + 0 ≤ 1 by omega) (show (0 + 6) + 0 ≤ 6 by omega) (fun v9 f9 n9 hh => ?_)
  obtain ⟨rfl, rfl, rfl⟩ := hh
  refine aw_iconst C 0 dX8_kept_10 ki_0 ?_
  refine aw_istore_n C dX8_kept_11 (by decide) (ok_rf 2 rfl) ?_
  refine aw_nl [some (.ref v0), some (.int v1), some (va_rf x4), some (.int (0 : Int32)), none] rfl ?_
  refine aw_fl [some (.ref v0), some (.int v1), some (va_rf x4), some (.int (0 : Int32)), none] ⟨rfl, ⟨rfl, ⟨rfl, ⟨rfl, trivial⟩⟩⟩⟩ ?_
  exact rmX8_kept_l12 C hl0 htab rFU v0 v1 x4 (0 : Int32) r6.2.1 r6.2.2 _ _ (by omega) (by omega) h
