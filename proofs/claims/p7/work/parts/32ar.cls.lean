def mX8_knownPair_b78 (f : AH) (n : Nat) : Option (Int32 × HpN) := some ((-1 : Int32), (f, n))
set_option maxHeartbeats 1000000 in
theorem rmX8_knownPair_b78 {X : GX} {p : Program} {l : Launch} {e : Env} {s : State} {m : MethodId} {args : Array Value} {below : List Frame} {meth : Method} {c : Code} {r : Int32 × HpN} {f : AH} {n cells slots : Nat} (C : CC X p l (RM 2 0 0) s m args meth c RX8 cX8_knownPair 4 (some .int)) (hc : cells + 0 ≤ 0) (hs : slots + 0 ≤ 0) (h : mX8_knownPair_b78 f n = some r) : AW X p l e (RM 2 0 0) s m args below meth c 4 (ZM X below args s 0 0 (QHi r)) f n cells slots 78 [none, none, none, none] [] := by
  have h : some ((-1 : Int32), (f, n)) = some r := h
  refine aw_iconst C (-1) dX8_knownPair_78 ki_m1 ?_
  cases h
  exact aw_iret C rfl rfl dX8_knownPair_79 (by omega) (by omega) ⟨rfl, rfl, rfl⟩
def mX8_knownPair_b67 (rec10 : Nat → (Option Nat) → (Option Nat) → Int32 → AH → Nat → Option (Int32 × HpN)) (v0 : Nat) (v1 : Option Nat) (v2 : Option Nat) (v3 : Int32) (f : AH) (n : Nat) : Option (Int32 × HpN) := ((v2).bind fun j1 => ((gR f j1 2 2).bind fun x2 => rec10 v0 v1 x2 (v3 + (1 : Int32)) f n))
set_option maxHeartbeats 1000000 in
theorem rmX8_knownPair_b67 {X : GX} {p : Program} {l : Launch} {e : Env} {s : State} {m : MethodId} {args : Array Value} {below : List Frame} {meth : Method} {c : Code} {r : Int32 × HpN} {rec10 : Nat → (Option Nat) → (Option Nat) → Int32 → AH → Nat → Option (Int32 × HpN)} {v0 : Nat} {v1 : Option Nat} {v2 : Option Nat} {v3 : Int32} {f : AH} {n cells slots : Nat} (C : CC X p l (RM 2 0 0) s m args meth c RX8 cX8_knownPair 4 (some .int)) (Hr10 : ∀ (v0 : Nat) (v1 : Option Nat) (v2 : Option Nat) (v3 : Int32) (f : AH) (n cells slots : Nat), cells + 0 ≤ 0 → slots + 0 ≤ 0 → rec10 v0 v1 v2 v3 f n = some r → AW X p l e (RM 2 0 0) s m args below meth c 4 (ZM X below args s 0 0 (QHi r)) f n cells slots 10 [some (.ref v0), some (va_rf v1), some (va_rf v2), some (.int v3)] []) (hc : cells + 0 ≤ 0) (hs : slots + 0 ≤ 0) (h : mX8_knownPair_b67 rec10 v0 v1 v2 v3 f n = some r) : AW X p l e (RM 2 0 0) s m args below meth c 4 (ZM X below args s 0 0 (QHi r)) f n cells slots 67 [some (.ref v0), some (va_rf v1), some (va_rf v2), some (.int v3)] [] := by
  have h : ((v2).bind fun j1 => ((gR f j1 2 2).bind fun x2 => rec10 v0 v1 x2 (v3 + (1 : Int32)) f n)) = some r := h
  refine aw_aload_n C dX8_knownPair_67 rfl (rf_or v2) ?_
  obtain ⟨j1, hj1, h⟩ := Option.bind_eq_some_iff.mp h
  rw [hj1]
  obtain ⟨x2, hx2, h⟩ := Option.bind_eq_some_iff.mp h
  refine ah_getR C gf_X8_265 hx2 dX8_knownPair_68 ?_
  refine aw_astore_n C dX8_knownPair_71 (by decide) (ok_rf 1 rfl) (rf_or x2) ?_
  refine aw_nl [some (.ref v0), some (va_rf v1), some (va_rf x2), some (.int v3)] rfl ?_
  refine aw_iinc C (v3 + (1 : Int32)) dX8_knownPair_72 rfl (by rw [ki_1]) (by decide) (ok_rf 2 rfl) ?_
  refine aw_nl [some (.ref v0), some (va_rf v1), some (va_rf x2), some (.int (v3 + (1 : Int32)))] rfl ?_
  refine aw_goto C 10 dX8_knownPair_75 (by decide) ?_
  refine aw_fl [some (.ref v0), some (va_rf v1), some (va_rf x2), some (.int (v3 + (1 : Int32)))] ⟨rfl, ⟨rfl, ⟨rfl, ⟨rfl, trivial⟩⟩⟩⟩ ?_
  exact Hr10 v0 v1 x2 (v3 + (1 : Int32)) f n _ _ (by omega) (by omega) h
def mX8_knownPair_l10 : Nat → Nat → (Option Nat) → (Option Nat) → Int32 → AH → Nat → Option (Int32 × HpN)
  | 0, _, _, _, _, _, _ => none
  | d + 1, v0, v1, v2, v3, f, n => ((gR f v0 8 1).bind fun x1 => ((x1).bind fun j2 => ((gI f j2 7 7).bind fun x3 => (if x3 ≤ v3 then mX8_knownPair_b78 f n else (oN v2 (mX8_knownPair_b78 f n) (fun j4 => ((gR f j4 2 0).bind fun x5 => ((x5).bind fun j6 => rCk (isO f j6 5) (((mX5_size j6 f n).bind fun r8 => ((v1).bind fun j10 => ((gI r8.2.1 j10 3 3).bind fun x11 => (if r8.1 = x11 then ((gR r8.2.1 j4 2 0).bind fun x12 => ((gR r8.2.1 v0 8 5).bind fun x13 => ((x13).bind fun j14 => ((gR r8.2.1 j14 1 0).bind fun x15 => ((gI r8.2.1 j10 3 2).bind fun x16 => ((gI r8.2.1 j10 3 3).bind fun x17 => ((x12).bind fun j18 => rCk (isO r8.2.1 j18 5) (((mX5_isSame j18 (0 : Int32) x15 x16 x17 r8.2.1 r8.2.2).bind fun r20 => (if r20.1 = (0 : Int32) then mX8_knownPair_b67 (fun v0 v1 v2 v3 f n => mX8_knownPair_l10 d v0 v1 v2 v3 f n) v0 (some j10) (some j4) v3 r20.2.1 r20.2.2 else some (v3, (r20.2.1, r20.2.2)))))))))))) else mX8_knownPair_b67 (fun v0 v1 v2 v3 f n => mX8_knownPair_l10 d v0 v1 v2 v3 f n) v0 (some j10) (some j4) v3 r8.2.1 r8.2.2)))))))))))))
set_option maxHeartbeats 1000000 in
theorem rmX8_knownPair_l10 {X : GX} {p : Program} {l : Launch} {e : Env} {s : State} {m : MethodId} {args : Array Value} {below : List Frame} {meth : Method} {c : Code} {r : Int32 × HpN} (C : CC X p l (RM 2 0 0) s m args meth c RX8 cX8_knownPair 4 (some .int)) : ∀ (d : Nat) (v0 : Nat) (v1 : Option Nat) (v2 : Option Nat) (v3 : Int32) (f : AH) (n cells slots : Nat) (_ : cells + 0 ≤ 0) (_ : slots + 0 ≤ 0) (_ : mX8_knownPair_l10 d v0 v1 v2 v3 f n = some r), AW X p l e (RM 2 0 0) s m args below meth c 4 (ZM X below args s 0 0 (QHi r)) f n cells slots 10 [some (.ref v0), some (va_rf v1), some (va_rf v2), some (.int v3)] [] := by
  intro d
  induction d with
  | zero =>
    intro v0 v1 v2 v3 f n cells slots hc hs h
    exact nomatch (show (none : Option (Int32 × HpN)) = some r from h)
  | succ d ih =>
    intro v0 v1 v2 v3 f n cells slots hc hs h
    have h : ((gR f v0 8 1).bind fun x1 => ((x1).bind fun j2 => ((gI f j2 7 7).bind fun x3 => (if x3 ≤ v3 then mX8_knownPair_b78 f n else (oN v2 (mX8_knownPair_b78 f n) (fun j4 => ((gR f j4 2 0).bind fun x5 => ((x5).bind fun j6 => rCk (isO f j6 5) (((mX5_size j6 f n).bind fun r8 => ((v1).bind fun j10 => ((gI r8.2.1 j10 3 3).bind fun x11 => (if r8.1 = x11 then ((gR r8.2.1 j4 2 0).bind fun x12 => ((gR r8.2.1 v0 8 5).bind fun x13 => ((x13).bind fun j14 => ((gR r8.2.1 j14 1 0).bind fun x15 => ((gI r8.2.1 j10 3 2).bind fun x16 => ((gI r8.2.1 j10 3 3).bind fun x17 => ((x12).bind fun j18 => rCk (isO r8.2.1 j18 5) (((mX5_isSame j18 (0 : Int32) x15 x16 x17 r8.2.1 r8.2.2).bind fun r20 => (if r20.1 = (0 : Int32) then mX8_knownPair_b67 (fun v0 v1 v2 v3 f n => mX8_knownPair_l10 d v0 v1 v2 v3 f n) v0 (some j10) (some j4) v3 r20.2.1 r20.2.2 else some (v3, (r20.2.1, r20.2.2)))))))))))) else mX8_knownPair_b67 (fun v0 v1 v2 v3 f n => mX8_knownPair_l10 d v0 v1 v2 v3 f n) v0 (some j10) (some j4) v3 r8.2.1 r8.2.2))))))))))))) = some r := h
    refine aw_iload_n C dX8_knownPair_10 rfl ?_
    refine aw_ald_n C dX8_knownPair_11 rfl ?_
    obtain ⟨x1, hx1, h⟩ := Option.bind_eq_some_iff.mp h
    refine ah_getR C gf_X8_21 hx1 dX8_knownPair_12 ?_
    obtain ⟨j2, hj2, h⟩ := Option.bind_eq_some_iff.mp h
    rw [hj2]
    obtain ⟨x3, hx3, h⟩ := Option.bind_eq_some_iff.mp h
    refine ah_getI C gf_X8_258 hx3 dX8_knownPair_15 ?_
    refine aw_icmp_ge C 78 dX8_knownPair_18 (by decide) (fun q => ?_) (fun q => ?_)
    · rw [if_pos q] at h
      refine aw_fl [none, none, none, none] trivial ?_
      exact rmX8_knownPair_b78 C (by omega) (by omega) h
    · rw [if_neg q] at h
      refine aw_aload_n C dX8_knownPair_21 rfl (rf_or v2) ?_
      cases v2 with
      | none =>
        replace h : mX8_knownPair_b78 f n = some r := h
        refine aw_ifnull_n C 78 dX8_knownPair_22 (by decide) ?_
        refine aw_fl [none, none, none, none] trivial ?_
        exact rmX8_knownPair_b78 C (by omega) (by omega) h
      | some j4 =>
        replace h : ((gR f j4 2 0).bind fun x5 => ((x5).bind fun j6 => rCk (isO f j6 5) (((mX5_size j6 f n).bind fun r8 => ((v1).bind fun j10 => ((gI r8.2.1 j10 3 3).bind fun x11 => (if r8.1 = x11 then ((gR r8.2.1 j4 2 0).bind fun x12 => ((gR r8.2.1 v0 8 5).bind fun x13 => ((x13).bind fun j14 => ((gR r8.2.1 j14 1 0).bind fun x15 => ((gI r8.2.1 j10 3 2).bind fun x16 => ((gI r8.2.1 j10 3 3).bind fun x17 => ((x12).bind fun j18 => rCk (isO r8.2.1 j18 5) (((mX5_isSame j18 (0 : Int32) x15 x16 x17 r8.2.1 r8.2.2).bind fun r20 => (if r20.1 = (0 : Int32) then mX8_knownPair_b67 (fun v0 v1 v2 v3 f n => mX8_knownPair_l10 d v0 v1 v2 v3 f n) v0 (some j10) (some j4) v3 r20.2.1 r20.2.2 else some (v3, (r20.2.1, r20.2.2)))))))))))) else mX8_knownPair_b67 (fun v0 v1 v2 v3 f n => mX8_knownPair_l10 d v0 v1 v2 v3 f n) v0 (some j10) (some j4) v3 r8.2.1 r8.2.2))))))) = some r := h
        refine aw_ifnull_r C 78 dX8_knownPair_22 (by decide) ?_
        refine aw_ald_n C dX8_knownPair_25 rfl ?_
        obtain ⟨x5, hx5, h⟩ := Option.bind_eq_some_iff.mp h
        refine ah_getR C gf_X8_273 hx5 dX8_knownPair_26 ?_
        obtain ⟨j6, hj6, h⟩ := Option.bind_eq_some_iff.mp h
        rw [hj6]
        obtain ⟨hb7, h⟩ := ck_some h
        obtain ⟨r8, hr8, h⟩ := Option.bind_eq_some_iff.mp h
        obtain ⟨fs9, hf9⟩ := isO_ex hb7
        refine aw_callV C (ci := 5) (b := j6) [] mv_X8_63 rfl rfl hf9 (rmX5_size hr8) rfl dX8_knownPair_29 (Nat.le_of_ble_eq_true rfl) (Nat.le_of_ble_eq_true rfl) rfl (Nat.le_of_ble_eq_true rfl) (show cells + 0 ≤ 0 by omega) (show slots + 0 ≤ 0 by omega) (fun v9 f9 n9 hh => ?_)
        obtain ⟨rfl, rfl, rfl⟩ := hh
        refine aw_aload_n C dX8_knownPair_32 rfl (rf_or v1) ?_
        obtain ⟨j10, hj10, h⟩ := Option.bind_eq_some_iff.mp h
        rw [hj10]
        obtain ⟨x11, hx11, h⟩ := Option.bind_eq_some_iff.mp h
        refine ah_getI C gf_X8_187 hx11 dX8_knownPair_33 ?_
        refine aw_icmp_ne C 67 dX8_knownPair_36 (by decide) (fun q => ?_) (fun q => ?_)
        · rw [if_neg q] at h
          refine aw_fl [some (.ref v0), some (va_rf (some j10)), some (va_rf (some j4)), some (.int v3)] ⟨rfl, ⟨rfl, ⟨rfl, ⟨rfl, trivial⟩⟩⟩⟩ ?_
          exact rmX8_knownPair_b67 C (fun v0 v1 v2 v3 f n cells slots hc hs h => ih v0 v1 v2 v3 f n cells slots hc hs h) (by omega) (by omega) h
        · rw [if_pos q] at h
          refine aw_ald_n C dX8_knownPair_39 rfl ?_
          obtain ⟨x12, hx12, h⟩ := Option.bind_eq_some_iff.mp h
          refine ah_getR C gf_X8_273 hx12 dX8_knownPair_40 ?_
          refine aw_iconst C 0 dX8_knownPair_43 ki_0 ?_
          refine aw_ald_n C dX8_knownPair_44 rfl ?_
          obtain ⟨x13, hx13, h⟩ := Option.bind_eq_some_iff.mp h
          refine ah_getR C gf_X8_38 hx13 dX8_knownPair_45 ?_
          obtain ⟨j14, hj14, h⟩ := Option.bind_eq_some_iff.mp h
          rw [hj14]
          obtain ⟨x15, hx15, h⟩ := Option.bind_eq_some_iff.mp h
          refine ah_getR C gf_X8_373 hx15 dX8_knownPair_48 ?_
          refine aw_ald_n C dX8_knownPair_51 rfl ?_
          obtain ⟨x16, hx16, h⟩ := Option.bind_eq_some_iff.mp h
          refine ah_getI C gf_X8_224 hx16 dX8_knownPair_52 ?_
          refine aw_ald_n C dX8_knownPair_55 rfl ?_
          obtain ⟨x17, hx17, h⟩ := Option.bind_eq_some_iff.mp h
          refine ah_getI C gf_X8_187 hx17 dX8_knownPair_56 ?_
          obtain ⟨j18, hj18, h⟩ := Option.bind_eq_some_iff.mp h
          rw [hj18]
          obtain ⟨hb19, h⟩ := ck_some h
          obtain ⟨r20, hr20, h⟩ := Option.bind_eq_some_iff.mp h
          obtain ⟨fs21, hf21⟩ := isO_ex hb19
          refine aw_callV C (ci := 5) (b := j18) [.int (0 : Int32), va_rf x15, .int x16, .int x17] mv_X8_382 rfl rfl hf21 (rmX5_isSame hr20) rfl dX8_knownPair_59 (Nat.le_of_ble_eq_true rfl) (Nat.le_of_ble_eq_true rfl) rfl (Nat.le_of_ble_eq_true rfl) (show (cells + 0) + 0 ≤ 0 by omega) (show (slots + 0) + 0 ≤ 0 by omega) (fun v9 f9 n9 hh => ?_)
          obtain ⟨rfl, rfl, rfl⟩ := hh
          refine aw_if_eq C 67 dX8_knownPair_62 (by decide) (fun q => ?_) (fun q => ?_)
          · rw [if_pos q] at h
            refine aw_fl [some (.ref v0), some (va_rf (some j10)), some (va_rf (some j4)), some (.int v3)] ⟨rfl, ⟨rfl, ⟨rfl, ⟨rfl, trivial⟩⟩⟩⟩ ?_
            exact rmX8_knownPair_b67 C (fun v0 v1 v2 v3 f n cells slots hc hs h => ih v0 v1 v2 v3 f n cells slots hc hs h) (by omega) (by omega) h
          · rw [if_neg q] at h
            refine aw_iload_n C dX8_knownPair_65 rfl ?_
            cases h
            exact aw_iret C rfl rfl dX8_knownPair_66 (by omega) (by omega) ⟨rfl, rfl, rfl⟩
def mX8_knownPair (v0 : Nat) (v1 : Option Nat) (f : AH) (n : Nat) : Option (Int32 × HpN) := ((gR f v0 8 1).bind fun x1 => ((x1).bind fun j2 => ((gR f j2 7 6).bind fun x3 => mX8_knownPair_l10 rFU v0 v1 x3 (0 : Int32) f n)))
set_option maxHeartbeats 1000000 in
theorem rmX8_knownPair {X : GX} {l : Launch} {r : Int32 × HpN} {v0 : Nat} {v1 : Option Nat} {f : AH} {n : Nat} (h : mX8_knownPair v0 v1 f n = some r) : AM X l yX8_knownPair cX8_knownPair 4 (some .int) 2 0 0 [.ref v0, va_rf v1] f n (QHi r) := by
  have h : ((gR f v0 8 1).bind fun x1 => ((x1).bind fun j2 => ((gR f j2 7 6).bind fun x3 => mX8_knownPair_l10 rFU v0 v1 x3 (0 : Int32) f n))) = some r := h
  refine AM.of (by decide +kernel) (all1 rfl (all1 (rf_cat _) rfl)) (Nat.le_of_ble_eq_true rfl) (fun p e s m args below meth c C hnm => ?_)
  refine aw_nl [some (.ref v0), some (va_rf v1), none, none] rfl ?_
  refine aw_ald_n C dX8_knownPair_0 rfl ?_
  obtain ⟨x1, hx1, h⟩ := Option.bind_eq_some_iff.mp h
  refine ah_getR C gf_X8_21 hx1 dX8_knownPair_1 ?_
  obtain ⟨j2, hj2, h⟩ := Option.bind_eq_some_iff.mp h
  rw [hj2]
  obtain ⟨x3, hx3, h⟩ := Option.bind_eq_some_iff.mp h
  refine ah_getR C gf_X8_261 hx3 dX8_knownPair_4 ?_
  refine aw_astore_n C dX8_knownPair_7 (by decide) (ok_rf 1 rfl) (rf_or x3) ?_
  refine aw_nl [some (.ref v0), some (va_rf v1), some (va_rf x3), none] rfl ?_
  refine aw_iconst C 0 dX8_knownPair_8 ki_0 ?_
  refine aw_istore_n C dX8_knownPair_9 (by decide) (ok_rf 2 rfl) ?_
  refine aw_nl [some (.ref v0), some (va_rf v1), some (va_rf x3), some (.int (0 : Int32))] rfl ?_
  refine aw_fl [some (.ref v0), some (va_rf v1), some (va_rf x3), some (.int (0 : Int32))] ⟨rfl, ⟨rfl, ⟨rfl, ⟨rfl, trivial⟩⟩⟩⟩ ?_
  exact rmX8_knownPair_l10 C rFU v0 v1 x3 (0 : Int32) f n _ _ (by omega) (by omega) h
def mX8_piece_b98 (s0 : Int32) (f : AH) (n : Nat) : Option ((Int32 ⊕ String) × HpN) := some (.inl s0, (f, n))
set_option maxHeartbeats 1000000 in
theorem rmX8_piece_b98 {X : GX} {p : Program} {l : Launch} {e : Env} {s : State} {m : MethodId} {args : Array Value} {below : List Frame} {meth : Method} {c : Code} {r : (Int32 ⊕ String) × HpN} {s0 : Int32} {f : AH} {n cells slots : Nat} (C : CC X p l (RM 7 2 12) s m args meth c RX8 cX8_piece 4 (some .int)) (hl0 : l.stackTraces = false) (htab : ∀ x ∈ c.exceptionTable.toList, False) (hc : cells + 0 ≤ 2) (hs : slots + 0 ≤ 12) (h : mX8_piece_b98 s0 f n = some r) : AW X p l e (RM 7 2 12) s m args below meth c 4 (ZX X below args s 2 12 (QTr (QHi) r) (QTx r)) f n cells slots 98 [none, none, none, none] [.int s0] := by
  have h : some (.inl s0, (f, n)) = some r := h
  cases h
  exact ax_of (aw_iret C rfl rfl dX8_piece_98 (by omega) (by omega) ⟨_, rfl, rfl, rfl, rfl⟩)
def mX8_piece (v0 : Nat) (v1 : Int32) (v2 : Int32) (f : AH) (n : Nat) : Option ((Int32 ⊕ String) × HpN) := rCk (isO f v0 8) (((mX8_pieceOrThrow v0 v1 f n).bind fun r2 => (tS r2.1 r2.2 (fun y2 => ((some y2).bind fun x4 => (if v2 = (0 : Int32) then ((x4).bind fun j5 => ((gI r2.2.1 j5 3 0).bind fun x6 => some (.inl x6, (r2.2.1, r2.2.2)))) else if v2 = (1 : Int32) then ((x4).bind fun j7 => ((gI r2.2.1 j7 3 1).bind fun x8 => some (.inl x8, (r2.2.1, r2.2.2)))) else if v2 = (2 : Int32) then ((x4).bind fun j9 => ((gI r2.2.1 j9 3 3).bind fun x10 => some (.inl x10, (r2.2.1, r2.2.2)))) else if v2 = (3 : Int32) then rCk (isO r2.2.1 v0 8) (((mX8_nowSize v0 v1 x4 r2.2.1 r2.2.2).bind fun r12 => some (.inl r12.1, (r12.2.1, r12.2.2)))) else if v2 = (4 : Int32) then ((gR r2.2.1 v0 8 1).bind fun x14 => ((x14).bind fun j15 => rCk (isO r2.2.1 j15 7) (((mX7_toldFor j15 v1 r2.2.1 r2.2.2).bind fun r17 => ((some r17.1).bind fun x19 => (oN x19 (mX8_piece_b98 (0 : Int32) r17.2.1 r17.2.2) (fun j20 => mX8_piece_b98 (1 : Int32) r17.2.1 r17.2.2))))))) else if v2 = (5 : Int32) then ((gR r2.2.1 v0 8 5).bind fun x21 => ((x21).bind fun j22 => rCk (isO r2.2.1 j22 1) (((mX1_likeCount j22 v1 r2.2.1 r2.2.2).bind fun r24 => some (.inl r24.1, (r24.2.1, r24.2.2)))))) else if v2 = (6 : Int32) then rCk (isO r2.2.1 v0 8) (((mX8_countWords v0 v1 x4 r2.2.1 r2.2.2).bind fun r27 => some (.inl r27.1, (r27.2.1, r27.2.2)))) else if v2 = (7 : Int32) then rCk (isO r2.2.1 v0 8) (((mX8_knownPair v0 x4 r2.2.1 r2.2.2).bind fun r30 => some (.inl r30.1, (r30.2.1, r30.2.2)))) else if v2 = (8 : Int32) then ((x4).bind fun j32 => ((gI r2.2.1 j32 3 10).bind fun x33 => some (.inl x33, (r2.2.1, r2.2.2)))) else if v2 = (9 : Int32) then ((x4).bind fun j34 => ((gI r2.2.1 j34 3 9).bind fun x35 => some (.inl x35, (r2.2.1, r2.2.2)))) else some (.inr eN, (r2.2.1, r2.2.2))))))))
set_option maxHeartbeats 1000000 in
theorem rmX8_piece {X : GX} {l : Launch} {r : (Int32 ⊕ String) × HpN} {v0 : Nat} {v1 : Int32} {v2 : Int32} {f : AH} {n : Nat} (hl0 : l.stackTraces = false) (h : mX8_piece v0 v1 v2 f n = some r) : AX X l yX8_piece cX8_piece 4 (some .int) 7 2 12 [.ref v0, .int v1, .int v2] f n (QTr (QHi) r) (QTx r) := by
  have h : rCk (isO f v0 8) (((mX8_pieceOrThrow v0 v1 f n).bind fun r2 => (tS r2.1 r2.2 (fun y2 => ((some y2).bind fun x4 => (if v2 = (0 : Int32) then ((x4).bind fun j5 => ((gI r2.2.1 j5 3 0).bind fun x6 => some (.inl x6, (r2.2.1, r2.2.2)))) else if v2 = (1 : Int32) then ((x4).bind fun j7 => ((gI r2.2.1 j7 3 1).bind fun x8 => some (.inl x8, (r2.2.1, r2.2.2)))) else if v2 = (2 : Int32) then ((x4).bind fun j9 => ((gI r2.2.1 j9 3 3).bind fun x10 => some (.inl x10, (r2.2.1, r2.2.2)))) else if v2 = (3 : Int32) then rCk (isO r2.2.1 v0 8) (((mX8_nowSize v0 v1 x4 r2.2.1 r2.2.2).bind fun r12 => some (.inl r12.1, (r12.2.1, r12.2.2)))) else if v2 = (4 : Int32) then ((gR r2.2.1 v0 8 1).bind fun x14 => ((x14).bind fun j15 => rCk (isO r2.2.1 j15 7) (((mX7_toldFor j15 v1 r2.2.1 r2.2.2).bind fun r17 => ((some r17.1).bind fun x19 => (oN x19 (mX8_piece_b98 (0 : Int32) r17.2.1 r17.2.2) (fun j20 => mX8_piece_b98 (1 : Int32) r17.2.1 r17.2.2))))))) else if v2 = (5 : Int32) then ((gR r2.2.1 v0 8 5).bind fun x21 => ((x21).bind fun j22 => rCk (isO r2.2.1 j22 1) (((mX1_likeCount j22 v1 r2.2.1 r2.2.2).bind fun r24 => some (.inl r24.1, (r24.2.1, r24.2.2)))))) else if v2 = (6 : Int32) then rCk (isO r2.2.1 v0 8) (((mX8_countWords v0 v1 x4 r2.2.1 r2.2.2).bind fun r27 => some (.inl r27.1, (r27.2.1, r27.2.2)))) else if v2 = (7 : Int32) then rCk (isO r2.2.1 v0 8) (((mX8_knownPair v0 x4 r2.2.1 r2.2.2).bind fun r30 => some (.inl r30.1, (r30.2.1, r30.2.2)))) else if v2 = (8 : Int32) then ((x4).bind fun j32 => ((gI r2.2.1 j32 3 10).bind fun x33 => some (.inl x33, (r2.2.1, r2.2.2)))) else if v2 = (9 : Int32) then ((x4).bind fun j34 => ((gI r2.2.1 j34 3 9).bind fun x35 => some (.inl x35, (r2.2.1, r2.2.2)))) else some (.inr eN, (r2.2.1, r2.2.2)))))))) = some r := h
  refine AX.of (by decide +kernel) rfl (Nat.le_of_ble_eq_true rfl) (fun p e s m args below meth c C htab => ?_)
  refine aw_nl [some (.ref v0), some (.int v1), some (.int v2), none] rfl ?_
  refine aw_ald_n C dX8_piece_0 rfl ?_
  refine aw_iload_n C dX8_piece_1 rfl ?_
  obtain ⟨hb1, h⟩ := ck_some h
  obtain ⟨r2, hr2, h⟩ := Option.bind_eq_some_iff.mp h
  obtain ⟨fs3, hf3⟩ := isO_ex hb1
  refine ax_callV C (ci := 8) (b := v0) [.int v1] mv_X8_175 rfl rfl hf3 (rmX8_pieceOrThrow hl0 hr2) rfl dX8_piece_2 (Nat.le_of_ble_eq_true rfl) (Nat.le_of_ble_eq_true rfl) rfl (Nat.le_of_ble_eq_true rfl) (show 0 + 1 ≤ 2 by omega) (show 0 + 6 ≤ 12 by omega) (fun E9 f9 n9 hq => ?_) (fun v9 f9 n9 hq => ?_)
  · obtain ⟨e1, e2, e3⟩ := hq
    rw [tS_r e1] at h
    cases h
    exact at_out C htab ⟨rfl, e2, e3⟩ (by omega) (by omega)
  obtain ⟨y2, e2, rfl, rfl, rfl⟩ := hq
  rw [tS_l e2] at h
  replace h : ((some y2).bind fun x4 => (if v2 = (0 : Int32) then ((x4).bind fun j5 => ((gI r2.2.1 j5 3 0).bind fun x6 => some (.inl x6, (r2.2.1, r2.2.2)))) else if v2 = (1 : Int32) then ((x4).bind fun j7 => ((gI r2.2.1 j7 3 1).bind fun x8 => some (.inl x8, (r2.2.1, r2.2.2)))) else if v2 = (2 : Int32) then ((x4).bind fun j9 => ((gI r2.2.1 j9 3 3).bind fun x10 => some (.inl x10, (r2.2.1, r2.2.2)))) else if v2 = (3 : Int32) then rCk (isO r2.2.1 v0 8) (((mX8_nowSize v0 v1 x4 r2.2.1 r2.2.2).bind fun r12 => some (.inl r12.1, (r12.2.1, r12.2.2)))) else if v2 = (4 : Int32) then ((gR r2.2.1 v0 8 1).bind fun x14 => ((x14).bind fun j15 => rCk (isO r2.2.1 j15 7) (((mX7_toldFor j15 v1 r2.2.1 r2.2.2).bind fun r17 => ((some r17.1).bind fun x19 => (oN x19 (mX8_piece_b98 (0 : Int32) r17.2.1 r17.2.2) (fun j20 => mX8_piece_b98 (1 : Int32) r17.2.1 r17.2.2))))))) else if v2 = (5 : Int32) then ((gR r2.2.1 v0 8 5).bind fun x21 => ((x21).bind fun j22 => rCk (isO r2.2.1 j22 1) (((mX1_likeCount j22 v1 r2.2.1 r2.2.2).bind fun r24 => some (.inl r24.1, (r24.2.1, r24.2.2)))))) else if v2 = (6 : Int32) then rCk (isO r2.2.1 v0 8) (((mX8_countWords v0 v1 x4 r2.2.1 r2.2.2).bind fun r27 => some (.inl r27.1, (r27.2.1, r27.2.2)))) else if v2 = (7 : Int32) then rCk (isO r2.2.1 v0 8) (((mX8_knownPair v0 x4 r2.2.1 r2.2.2).bind fun r30 => some (.inl r30.1, (r30.2.1, r30.2.2)))) else if v2 = (8 : Int32) then ((x4).bind fun j32 => ((gI r2.2.1 j32 3 10).bind fun x33 => some (.inl x33, (r2.2.1, r2.2.2)))) else if v2 = (9 : Int32) then ((x4).bind fun j34 => ((gI r2.2.1 j34 3 9).bind fun x35 => some (.inl x35, (r2.2.1, r2.2.2)))) else some (.inr eN, (r2.2.1, r2.2.2)))) = some r := h
  obtain ⟨x4, hx4, h⟩ := Option.bind_eq_some_iff.mp h
  rw [Option.some.inj hx4]
  refine aw_astore_n C dX8_piece_5 (by decide) rfl (rf_or x4) ?_
  refine aw_nl [some (.ref v0), some (.int v1), some (.int v2), some (va_rf x4)] rfl ?_
  refine aw_iload_n C dX8_piece_6 rfl ?_
  by_cases q : v2 = (0 : Int32)
  · rw [if_pos q] at h
    refine aw_top (0 : Int32) q ?_
    refine aw_tabIn C (off := 53) 60 dX8_piece_7 (by decide) (by decide) (by decide) (by decide) ?_
    refine aw_aload_n C dX8_piece_60 rfl (rf_or x4) ?_
    obtain ⟨j5, hj5, h⟩ := Option.bind_eq_some_iff.mp h
    rw [hj5]
    obtain ⟨x6, hx6, h⟩ := Option.bind_eq_some_iff.mp h
    refine ah_getI C gf_X8_179 hx6 dX8_piece_61 ?_
    cases h
    exact ax_of (aw_iret C rfl rfl dX8_piece_64 (by omega) (by omega) ⟨_, rfl, rfl, rfl, rfl⟩)
  · rw [if_neg q] at h
    have q0 := q
    by_cases q : v2 = (1 : Int32)
    · rw [if_pos q] at h
      refine aw_top (1 : Int32) q ?_
      refine aw_tabIn C (off := 58) 65 dX8_piece_7 (by decide) (by decide) (by decide) (by decide) ?_
      refine aw_aload_n C dX8_piece_65 rfl (rf_or x4) ?_
      obtain ⟨j7, hj7, h⟩ := Option.bind_eq_some_iff.mp h
      rw [hj7]
      obtain ⟨x8, hx8, h⟩ := Option.bind_eq_some_iff.mp h
      refine ah_getI C gf_X8_184 hx8 dX8_piece_66 ?_
      cases h
      exact ax_of (aw_iret C rfl rfl dX8_piece_69 (by omega) (by omega) ⟨_, rfl, rfl, rfl, rfl⟩)
    · rw [if_neg q] at h
      have q1 := q
      by_cases q : v2 = (2 : Int32)
      · rw [if_pos q] at h
        refine aw_top (2 : Int32) q ?_
        refine aw_tabIn C (off := 63) 70 dX8_piece_7 (by decide) (by decide) (by decide) (by decide) ?_
        refine aw_aload_n C dX8_piece_70 rfl (rf_or x4) ?_
        obtain ⟨j9, hj9, h⟩ := Option.bind_eq_some_iff.mp h
        rw [hj9]
        obtain ⟨x10, hx10, h⟩ := Option.bind_eq_some_iff.mp h
        refine ah_getI C gf_X8_187 hx10 dX8_piece_71 ?_
        cases h
        exact ax_of (aw_iret C rfl rfl dX8_piece_74 (by omega) (by omega) ⟨_, rfl, rfl, rfl, rfl⟩)
      · rw [if_neg q] at h
        have q2 := q
        by_cases q : v2 = (3 : Int32)
        · rw [if_pos q] at h
          refine aw_top (3 : Int32) q ?_
          refine aw_tabIn C (off := 68) 75 dX8_piece_7 (by decide) (by decide) (by decide) (by decide) ?_
          refine aw_ald_n C dX8_piece_75 rfl ?_
          refine aw_iload_n C dX8_piece_76 rfl ?_
          refine aw_aload_n C dX8_piece_77 rfl (rf_or x4) ?_
          obtain ⟨hb11, h⟩ := ck_some h
          obtain ⟨r12, hr12, h⟩ := Option.bind_eq_some_iff.mp h
          obtain ⟨fs13, hf13⟩ := isO_ex hb11
          refine aw_callV C (ci := 8) (b := v0) [.int v1, va_rf x4] mv_X8_190 rfl rfl hf13 (rmX8_nowSize hr12) rfl dX8_piece_78 (Nat.le_of_ble_eq_true rfl) (Nat.le_of_ble_eq_true rfl) rfl (Nat.le_of_ble_eq_true rfl) (show (0 + 1) + 0 ≤ 2 by omega) (show (0 + 6) + 0 ≤ 12 by omega) (fun v9 f9 n9 hh => ?_)
          obtain ⟨rfl, rfl, rfl⟩ := hh
          cases h
          exact ax_of (aw_iret C rfl rfl dX8_piece_81 (by omega) (by omega) ⟨_, rfl, rfl, rfl, rfl⟩)
        · rw [if_neg q] at h
          have q3 := q
          by_cases q : v2 = (4 : Int32)
          · rw [if_pos q] at h
            refine aw_top (4 : Int32) q ?_
            refine aw_tabIn C (off := 75) 82 dX8_piece_7 (by decide) (by decide) (by decide) (by decide) ?_
            refine aw_ald_n C dX8_piece_82 rfl ?_
            obtain ⟨x14, hx14, h⟩ := Option.bind_eq_some_iff.mp h
            refine ah_getR C gf_X8_21 hx14 dX8_piece_83 ?_
            refine aw_iload_n C dX8_piece_86 rfl ?_
            obtain ⟨j15, hj15, h⟩ := Option.bind_eq_some_iff.mp h
            rw [hj15]
            obtain ⟨hb16, h⟩ := ck_some h
            obtain ⟨r17, hr17, h⟩ := Option.bind_eq_some_iff.mp h
            obtain ⟨fs18, hf18⟩ := isO_ex hb16
            refine aw_callV C (ci := 7) (b := j15) [.int v1] mv_X8_194 rfl rfl hf18 (rmX7_toldFor hr17) rfl dX8_piece_87 (Nat.le_of_ble_eq_true rfl) (Nat.le_of_ble_eq_true rfl) rfl (Nat.le_of_ble_eq_true rfl) (show (0 + 1) + 0 ≤ 2 by omega) (show (0 + 6) + 0 ≤ 12 by omega) (fun v9 f9 n9 hh => ?_)
            obtain ⟨rfl, rfl, rfl⟩ := hh
            obtain ⟨x19, hx19, h⟩ := Option.bind_eq_some_iff.mp h
            rw [Option.some.inj hx19]
            cases x19 with
            | none =>
              replace h : mX8_piece_b98 (0 : Int32) r17.2.1 r17.2.2 = some r := h
              refine aw_ifnonnull_n C 97 dX8_piece_90 (by decide) ?_
              refine aw_iconst C 0 dX8_piece_93 ki_0 ?_
              refine aw_goto C 98 dX8_piece_94 (by decide) ?_
              refine aw_fl [none, none, none, none] trivial ?_
              exact rmX8_piece_b98 C hl0 htab (by omega) (by omega) h
            | some j20 =>
              replace h : mX8_piece_b98 (1 : Int32) r17.2.1 r17.2.2 = some r := h
              refine aw_ifnonnull_r C 97 dX8_piece_90 (by decide) ?_
              refine aw_iconst C 1 dX8_piece_97 ki_1 ?_
              refine aw_fl [none, none, none, none] trivial ?_
              exact rmX8_piece_b98 C hl0 htab (by omega) (by omega) h
          · rw [if_neg q] at h
            have q4 := q
            by_cases q : v2 = (5 : Int32)
            · rw [if_pos q] at h
              refine aw_top (5 : Int32) q ?_
              refine aw_tabIn C (off := 92) 99 dX8_piece_7 (by decide) (by decide) (by decide) (by decide) ?_
              refine aw_ald_n C dX8_piece_99 rfl ?_
              obtain ⟨x21, hx21, h⟩ := Option.bind_eq_some_iff.mp h
              refine ah_getR C gf_X8_38 hx21 dX8_piece_100 ?_
              refine aw_iload_n C dX8_piece_103 rfl ?_
              obtain ⟨j22, hj22, h⟩ := Option.bind_eq_some_iff.mp h
              rw [hj22]
              obtain ⟨hb23, h⟩ := ck_some h
              obtain ⟨r24, hr24, h⟩ := Option.bind_eq_some_iff.mp h
              obtain ⟨fs25, hf25⟩ := isO_ex hb23
              refine aw_callV C (ci := 1) (b := j22) [.int v1] mv_X8_163 rfl rfl hf25 (rmX1_likeCount hr24) rfl dX8_piece_104 (Nat.le_of_ble_eq_true rfl) (Nat.le_of_ble_eq_true rfl) rfl (Nat.le_of_ble_eq_true rfl) (show (0 + 1) + 0 ≤ 2 by omega) (show (0 + 6) + 0 ≤ 12 by omega) (fun v9 f9 n9 hh => ?_)
              obtain ⟨rfl, rfl, rfl⟩ := hh
              cases h
              exact ax_of (aw_iret C rfl rfl dX8_piece_107 (by omega) (by omega) ⟨_, rfl, rfl, rfl, rfl⟩)
            · rw [if_neg q] at h
              have q5 := q
              by_cases q : v2 = (6 : Int32)
              · rw [if_pos q] at h
                refine aw_top (6 : Int32) q ?_
                refine aw_tabIn C (off := 101) 108 dX8_piece_7 (by decide) (by decide) (by decide) (by decide) ?_
                refine aw_ald_n C dX8_piece_108 rfl ?_
                refine aw_iload_n C dX8_piece_109 rfl ?_
                refine aw_aload_n C dX8_piece_110 rfl (rf_or x4) ?_
                obtain ⟨hb26, h⟩ := ck_some h
                obtain ⟨r27, hr27, h⟩ := Option.bind_eq_some_iff.mp h
                obtain ⟨fs28, hf28⟩ := isO_ex hb26
                refine aw_callV C (ci := 8) (b := v0) [.int v1, va_rf x4] mv_X8_198 rfl rfl hf28 (rmX8_countWords hr27) rfl dX8_piece_111 (Nat.le_of_ble_eq_true rfl) (Nat.le_of_ble_eq_true rfl) rfl (Nat.le_of_ble_eq_true rfl) (show (0 + 1) + 0 ≤ 2 by omega) (show (0 + 6) + 0 ≤ 12 by omega) (fun v9 f9 n9 hh => ?_)
                obtain ⟨rfl, rfl, rfl⟩ := hh
                cases h
                exact ax_of (aw_iret C rfl rfl dX8_piece_114 (by omega) (by omega) ⟨_, rfl, rfl, rfl, rfl⟩)
              · rw [if_neg q] at h
                have q6 := q
                by_cases q : v2 = (7 : Int32)
                · rw [if_pos q] at h
                  refine aw_top (7 : Int32) q ?_
                  refine aw_tabIn C (off := 108) 115 dX8_piece_7 (by decide) (by decide) (by decide) (by decide) ?_
                  refine aw_ald_n C dX8_piece_115 rfl ?_
                  refine aw_aload_n C dX8_piece_116 rfl (rf_or x4) ?_
                  obtain ⟨hb29, h⟩ := ck_some h
                  obtain ⟨r30, hr30, h⟩ := Option.bind_eq_some_iff.mp h
                  obtain ⟨fs31, hf31⟩ := isO_ex hb29
                  refine aw_callV C (ci := 8) (b := v0) [va_rf x4] mv_X8_201 rfl rfl hf31 (rmX8_knownPair hr30) rfl dX8_piece_117 (Nat.le_of_ble_eq_true rfl) (Nat.le_of_ble_eq_true rfl) rfl (Nat.le_of_ble_eq_true rfl) (show (0 + 1) + 0 ≤ 2 by omega) (show (0 + 6) + 0 ≤ 12 by omega) (fun v9 f9 n9 hh => ?_)
                  obtain ⟨rfl, rfl, rfl⟩ := hh
                  cases h
                  exact ax_of (aw_iret C rfl rfl dX8_piece_120 (by omega) (by omega) ⟨_, rfl, rfl, rfl, rfl⟩)
                · rw [if_neg q] at h
                  have q7 := q
                  by_cases q : v2 = (8 : Int32)
                  · rw [if_pos q] at h
                    refine aw_top (8 : Int32) q ?_
                    refine aw_tabIn C (off := 114) 121 dX8_piece_7 (by decide) (by decide) (by decide) (by decide) ?_
                    refine aw_aload_n C dX8_piece_121 rfl (rf_or x4) ?_
                    obtain ⟨j32, hj32, h⟩ := Option.bind_eq_some_iff.mp h
                    rw [hj32]
                    obtain ⟨x33, hx33, h⟩ := Option.bind_eq_some_iff.mp h
                    refine ah_getI C gf_X8_205 hx33 dX8_piece_122 ?_
                    cases h
                    exact ax_of (aw_iret C rfl rfl dX8_piece_125 (by omega) (by omega) ⟨_, rfl, rfl, rfl, rfl⟩)
                  · rw [if_neg q] at h
                    have q8 := q
                    by_cases q : v2 = (9 : Int32)
                    · rw [if_pos q] at h
                      refine aw_top (9 : Int32) q ?_
                      refine aw_tabIn C (off := 119) 126 dX8_piece_7 (by decide) (by decide) (by decide) (by decide) ?_
                      refine aw_aload_n C dX8_piece_126 rfl (rf_or x4) ?_
                      obtain ⟨j34, hj34, h⟩ := Option.bind_eq_some_iff.mp h
                      rw [hj34]
                      obtain ⟨x35, hx35, h⟩ := Option.bind_eq_some_iff.mp h
                      refine ah_getI C gf_X8_208 hx35 dX8_piece_127 ?_
                      cases h
                      exact ax_of (aw_iret C rfl rfl dX8_piece_130 (by omega) (by omega) ⟨_, rfl, rfl, rfl, rfl⟩)
                    · rw [if_neg q] at h
                      have q9 := q
                      refine aw_tabOut C 131 dX8_piece_7 (sx_out0_10 q0 q1 q2 q3 q4 q5 q6 q7 q8 q9) (by decide) ?_
                      cases h
                      exact ax_throwN C htab hl0 th_eN sx_211 dX8_piece_131 dX8_piece_134 dX8_piece_135 dX8_piece_137 dX8_piece_140 (Nat.le_of_ble_eq_true rfl) (Nat.le_of_ble_eq_true rfl) (show (0 + 1) + 1 ≤ 2 by omega) (show (0 + 6) + 6 ≤ 12 by omega) (by omega) (by omega) (fun n9 h9 => ⟨rfl, rfl, h9⟩)
def mX1_textByte_b29 (s0 : Int32) (f : AH) (n : Nat) : Option (Int32 × HpN) := some (s0, (f, n))
set_option maxHeartbeats 1000000 in
theorem rmX1_textByte_b29 {X : GX} {p : Program} {l : Launch} {e : Env} {s : State} {m : MethodId} {args : Array Value} {below : List Frame} {meth : Method} {c : Code} {r : Int32 × HpN} {s0 : Int32} {f : AH} {n cells slots : Nat} (C : CC X p l (RM 1 0 0) s m args meth c RX1 cX1_textByte 3 (some .int)) (hc : cells + 0 ≤ 0) (hs : slots + 0 ≤ 0) (h : mX1_textByte_b29 s0 f n = some r) : AW X p l e (RM 1 0 0) s m args below meth c 3 (ZM X below args s 0 0 (QHi r)) f n cells slots 29 [none, none, none] [.int s0] := by
  have h : some (s0, (f, n)) = some r := h
  cases h
  exact aw_iret C rfl rfl dX1_textByte_29 (by omega) (by omega) ⟨rfl, rfl, rfl⟩
def mX1_textByte_b28 (f : AH) (n : Nat) : Option (Int32 × HpN) := mX1_textByte_b29 (-1 : Int32) f n
set_option maxHeartbeats 1000000 in
theorem rmX1_textByte_b28 {X : GX} {p : Program} {l : Launch} {e : Env} {s : State} {m : MethodId} {args : Array Value} {below : List Frame} {meth : Method} {c : Code} {r : Int32 × HpN} {f : AH} {n cells slots : Nat} (C : CC X p l (RM 1 0 0) s m args meth c RX1 cX1_textByte 3 (some .int)) (hc : cells + 0 ≤ 0) (hs : slots + 0 ≤ 0) (h : mX1_textByte_b28 f n = some r) : AW X p l e (RM 1 0 0) s m args below meth c 3 (ZM X below args s 0 0 (QHi r)) f n cells slots 28 [none, none, none] [] := by
  have h : mX1_textByte_b29 (-1 : Int32) f n = some r := h
  refine aw_iconst C (-1) dX1_textByte_28 ki_m1 ?_
  refine aw_fl [none, none, none] trivial ?_
  exact rmX1_textByte_b29 C (by omega) (by omega) h
def mX1_textByte (v0 : Nat) (v1 : Option Nat) (v2 : Int32) (f : AH) (n : Nat) : Option (Int32 × HpN) := (if v2 < (0 : Int32) then mX1_textByte_b28 f n else ((v1).bind fun j1 => ((gI f j1 3 3).bind fun x2 => (if x2 ≤ v2 then mX1_textByte_b28 f n else ((gR f v0 1 0).bind fun x3 => ((gI f j1 3 2).bind fun x4 => ((x3).bind fun j5 => rCk (isO f j5 5) (((mX5_get j5 (x4 + v2) f n).bind fun r7 => mX1_textByte_b29 r7.1 r7.2.1 r7.2.2)))))))))
set_option maxHeartbeats 1000000 in
theorem rmX1_textByte {X : GX} {l : Launch} {r : Int32 × HpN} {v0 : Nat} {v1 : Option Nat} {v2 : Int32} {f : AH} {n : Nat} (h : mX1_textByte v0 v1 v2 f n = some r) : AM X l yX1_textByte cX1_textByte 3 (some .int) 1 0 0 [.ref v0, va_rf v1, .int v2] f n (QHi r) := by
  have h : (if v2 < (0 : Int32) then mX1_textByte_b28 f n else ((v1).bind fun j1 => ((gI f j1 3 3).bind fun x2 => (if x2 ≤ v2 then mX1_textByte_b28 f n else ((gR f v0 1 0).bind fun x3 => ((gI f j1 3 2).bind fun x4 => ((x3).bind fun j5 => rCk (isO f j5 5) (((mX5_get j5 (x4 + v2) f n).bind fun r7 => mX1_textByte_b29 r7.1 r7.2.1 r7.2.2))))))))) = some r := h
  refine AM.of (by decide +kernel) (all1 rfl (all1 (rf_cat _) (all1 rfl rfl))) (Nat.le_of_ble_eq_true rfl) (fun p e s m args below meth c C hnm => ?_)
  refine aw_nl [some (.ref v0), some (va_rf v1), some (.int v2)] rfl ?_
  refine aw_iload_n C dX1_textByte_0 rfl ?_
  refine aw_if_lt C 28 dX1_textByte_1 (by decide) (fun q => ?_) (fun q => ?_)
  · rw [if_pos q] at h
    refine aw_fl [none, none, none] trivial ?_
    exact rmX1_textByte_b28 C (by omega) (by omega) h
  · rw [if_neg q] at h
    refine aw_iload_n C dX1_textByte_4 rfl ?_
    refine aw_aload_n C dX1_textByte_5 rfl (rf_or v1) ?_
    obtain ⟨j1, hj1, h⟩ := Option.bind_eq_some_iff.mp h
    rw [hj1]
    obtain ⟨x2, hx2, h⟩ := Option.bind_eq_some_iff.mp h
    refine ah_getI C gf_X1_133 hx2 dX1_textByte_6 ?_
    refine aw_icmp_ge C 28 dX1_textByte_9 (by decide) (fun q => ?_) (fun q => ?_)
    · rw [if_pos q] at h
      refine aw_fl [none, none, none] trivial ?_
      exact rmX1_textByte_b28 C (by omega) (by omega) h
    · rw [if_neg q] at h
      refine aw_ald_n C dX1_textByte_12 rfl ?_
      obtain ⟨x3, hx3, h⟩ := Option.bind_eq_some_iff.mp h
      refine ah_getR C gf_X1_14 hx3 dX1_textByte_13 ?_
      refine aw_ald_n C dX1_textByte_16 rfl ?_
      obtain ⟨x4, hx4, h⟩ := Option.bind_eq_some_iff.mp h
      refine ah_getI C gf_X1_130 hx4 dX1_textByte_17 ?_
      refine aw_iload_n C dX1_textByte_20 rfl ?_
      refine aw_iadd C dX1_textByte_21 ?_
      obtain ⟨j5, hj5, h⟩ := Option.bind_eq_some_iff.mp h
      rw [hj5]
      obtain ⟨hb6, h⟩ := ck_some h
      obtain ⟨r7, hr7, h⟩ := Option.bind_eq_some_iff.mp h
      obtain ⟨fs8, hf8⟩ := isO_ex hb6
      refine aw_callV C (ci := 5) (b := j5) [.int (x4 + v2)] mv_X1_114 rfl rfl hf8 (rmX5_get hr7) rfl dX1_textByte_22 (Nat.le_of_ble_eq_true rfl) (Nat.le_of_ble_eq_true rfl) rfl (Nat.le_of_ble_eq_true rfl) (show 0 + 0 ≤ 0 by omega) (show 0 + 0 ≤ 0 by omega) (fun v9 f9 n9 hh => ?_)
      obtain ⟨rfl, rfl, rfl⟩ := hh
      refine aw_goto C 29 dX1_textByte_25 (by decide) ?_
      refine aw_fl [none, none, none] trivial ?_
      exact rmX1_textByte_b29 C (by omega) (by omega) h
def mX8_nowByte_b33 (s0 : Int32) (f : AH) (n : Nat) : Option (Int32 × HpN) := some (s0, (f, n))
set_option maxHeartbeats 1000000 in
theorem rmX8_nowByte_b33 {X : GX} {p : Program} {l : Launch} {e : Env} {s : State} {m : MethodId} {args : Array Value} {below : List Frame} {meth : Method} {c : Code} {r : Int32 × HpN} {s0 : Int32} {f : AH} {n cells slots : Nat} (C : CC X p l (RM 2 0 0) s m args meth c RX8 cX8_nowByte 5 (some .int)) (hc : cells + 0 ≤ 0) (hs : slots + 0 ≤ 0) (h : mX8_nowByte_b33 s0 f n = some r) : AW X p l e (RM 2 0 0) s m args below meth c 5 (ZM X below args s 0 0 (QHi r)) f n cells slots 33 [none, none, none, none, none] [.int s0] := by
  have h : some (s0, (f, n)) = some r := h
  cases h
  exact aw_iret C rfl rfl dX8_nowByte_33 (by omega) (by omega) ⟨rfl, rfl, rfl⟩
def mX8_nowByte (v0 : Nat) (v1 : Int32) (v2 : Option Nat) (v3 : Int32) (f : AH) (n : Nat) : Option (Int32 × HpN) := ((gR f v0 8 1).bind fun x1 => ((x1).bind fun j2 => rCk (isO f j2 7) (((mX7_toldFor j2 v1 f n).bind fun r4 => ((some r4.1).bind fun x6 => (oN x6 (((gR r4.2.1 v0 8 5).bind fun x8 => ((x8).bind fun j9 => rCk (isO r4.2.1 j9 1) (((mX1_textByte j9 v2 v3 r4.2.1 r4.2.2).bind fun r11 => mX8_nowByte_b33 r11.1 r11.2.1 r11.2.2))))) (fun j7 => rCk (isO r4.2.1 j7 5) (((mX5_get j7 v3 r4.2.1 r4.2.2).bind fun r14 => mX8_nowByte_b33 r14.1 r14.2.1 r14.2.2)))))))))
set_option maxHeartbeats 1000000 in
theorem rmX8_nowByte {X : GX} {l : Launch} {r : Int32 × HpN} {v0 : Nat} {v1 : Int32} {v2 : Option Nat} {v3 : Int32} {f : AH} {n : Nat} (h : mX8_nowByte v0 v1 v2 v3 f n = some r) : AM X l yX8_nowByte cX8_nowByte 5 (some .int) 2 0 0 [.ref v0, .int v1, va_rf v2, .int v3] f n (QHi r) := by
  have h : ((gR f v0 8 1).bind fun x1 => ((x1).bind fun j2 => rCk (isO f j2 7) (((mX7_toldFor j2 v1 f n).bind fun r4 => ((some r4.1).bind fun x6 => (oN x6 (((gR r4.2.1 v0 8 5).bind fun x8 => ((x8).bind fun j9 => rCk (isO r4.2.1 j9 1) (((mX1_textByte j9 v2 v3 r4.2.1 r4.2.2).bind fun r11 => mX8_nowByte_b33 r11.1 r11.2.1 r11.2.2))))) (fun j7 => rCk (isO r4.2.1 j7 5) (((mX5_get j7 v3 r4.2.1 r4.2.2).bind fun r14 => mX8_nowByte_b33 r14.1 r14.2.1 r14.2.2))))))))) = some r := h
  refine AM.of (by decide +kernel) (all1 rfl (all1 rfl (all1 (rf_cat _) (all1 rfl rfl)))) (Nat.le_of_ble_eq_true rfl) (fun p e s m args below meth c C hnm => ?_)
  refine aw_nl [some (.ref v0), some (.int v1), some (va_rf v2), some (.int v3), none] rfl ?_
  refine aw_ald_n C dX8_nowByte_0 rfl ?_
  obtain ⟨x1, hx1, h⟩ := Option.bind_eq_some_iff.mp h
  refine ah_getR C gf_X8_21 hx1 dX8_nowByte_1 ?_
  refine aw_iload_n C dX8_nowByte_4 rfl ?_
  obtain ⟨j2, hj2, h⟩ := Option.bind_eq_some_iff.mp h
  rw [hj2]
  obtain ⟨hb3, h⟩ := ck_some h
  obtain ⟨r4, hr4, h⟩ := Option.bind_eq_some_iff.mp h
  obtain ⟨fs5, hf5⟩ := isO_ex hb3
  refine aw_callV C (ci := 7) (b := j2) [.int v1] mv_X8_194 rfl rfl hf5 (rmX7_toldFor hr4) rfl dX8_nowByte_5 (Nat.le_of_ble_eq_true rfl) (Nat.le_of_ble_eq_true rfl) rfl (Nat.le_of_ble_eq_true rfl) (show 0 + 0 ≤ 0 by omega) (show 0 + 0 ≤ 0 by omega) (fun v9 f9 n9 hh => ?_)
  obtain ⟨rfl, rfl, rfl⟩ := hh
  obtain ⟨x6, hx6, h⟩ := Option.bind_eq_some_iff.mp h
  rw [Option.some.inj hx6]
  refine aw_astore C dX8_nowByte_8 (by decide) rfl (rf_or x6) ?_
  refine aw_nl [some (.ref v0), some (.int v1), some (va_rf v2), some (.int v3), some (va_rf x6)] rfl ?_
  refine aw_aload C dX8_nowByte_10 rfl (rf_or x6) ?_
  cases x6 with
  | none =>
    replace h : ((gR r4.2.1 v0 8 5).bind fun x8 => ((x8).bind fun j9 => rCk (isO r4.2.1 j9 1) (((mX1_textByte j9 v2 v3 r4.2.1 r4.2.2).bind fun r11 => mX8_nowByte_b33 r11.1 r11.2.1 r11.2.2)))) = some r := h
    refine aw_ifnonnull_n C 27 dX8_nowByte_12 (by decide) ?_
    refine aw_ald_n C dX8_nowByte_15 rfl ?_
    obtain ⟨x8, hx8, h⟩ := Option.bind_eq_some_iff.mp h
    refine ah_getR C gf_X8_38 hx8 dX8_nowByte_16 ?_
    refine aw_aload_n C dX8_nowByte_19 rfl (rf_or v2) ?_
    refine aw_iload_n C dX8_nowByte_20 rfl ?_
    obtain ⟨j9, hj9, h⟩ := Option.bind_eq_some_iff.mp h
    rw [hj9]
    obtain ⟨hb10, h⟩ := ck_some h
    obtain ⟨r11, hr11, h⟩ := Option.bind_eq_some_iff.mp h
    obtain ⟨fs12, hf12⟩ := isO_ex hb10
    refine aw_callV C (ci := 1) (b := j9) [va_rf v2, .int v3] mv_X8_217 rfl rfl hf12 (rmX1_textByte hr11) rfl dX8_nowByte_21 (Nat.le_of_ble_eq_true rfl) (Nat.le_of_ble_eq_true rfl) rfl (Nat.le_of_ble_eq_true rfl) (show (0 + 0) + 0 ≤ 0 by omega) (show (0 + 0) + 0 ≤ 0 by omega) (fun v9 f9 n9 hh => ?_)
    obtain ⟨rfl, rfl, rfl⟩ := hh
    refine aw_goto C 33 dX8_nowByte_24 (by decide) ?_
    refine aw_fl [none, none, none, none, none] trivial ?_
    exact rmX8_nowByte_b33 C (by omega) (by omega) h
  | some j7 =>
    replace h : rCk (isO r4.2.1 j7 5) (((mX5_get j7 v3 r4.2.1 r4.2.2).bind fun r14 => mX8_nowByte_b33 r14.1 r14.2.1 r14.2.2)) = some r := h
    refine aw_ifnonnull_r C 27 dX8_nowByte_12 (by decide) ?_
    refine aw_ald C dX8_nowByte_27 rfl ?_
    refine aw_iload_n C dX8_nowByte_29 rfl ?_
    obtain ⟨hb13, h⟩ := ck_some h
    obtain ⟨r14, hr14, h⟩ := Option.bind_eq_some_iff.mp h
    obtain ⟨fs15, hf15⟩ := isO_ex hb13
    refine aw_callV C (ci := 5) (b := j7) [.int v3] mv_X8_227 rfl rfl hf15 (rmX5_get hr14) rfl dX8_nowByte_30 (Nat.le_of_ble_eq_true rfl) (Nat.le_of_ble_eq_true rfl) rfl (Nat.le_of_ble_eq_true rfl) (show (0 + 0) + 0 ≤ 0 by omega) (show (0 + 0) + 0 ≤ 0 by omega) (fun v9 f9 n9 hh => ?_)
    obtain ⟨rfl, rfl, rfl⟩ := hh
    refine aw_fl [none, none, none, none, none] trivial ?_
    exact rmX8_nowByte_b33 C (by omega) (by omega) h
def mX8_octet_b32 (s0 : Int32) (f : AH) (n : Nat) : Option ((Int32 ⊕ String) × HpN) := some (.inl s0, (f, n))
set_option maxHeartbeats 1000000 in
theorem rmX8_octet_b32 {X : GX} {p : Program} {l : Launch} {e : Env} {s : State} {m : MethodId} {args : Array Value} {below : List Frame} {meth : Method} {c : Code} {r : (Int32 ⊕ String) × HpN} {s0 : Int32} {f : AH} {n cells slots : Nat} (C : CC X p l (RM 7 1 6) s m args meth c RX8 cX8_octet 5 (some .int)) (hl0 : l.stackTraces = false) (htab : ∀ x ∈ c.exceptionTable.toList, False) (hc : cells + 0 ≤ 1) (hs : slots + 0 ≤ 6) (h : mX8_octet_b32 s0 f n = some r) : AW X p l e (RM 7 1 6) s m args below meth c 5 (ZX X below args s 1 6 (QTr (QHi) r) (QTx r)) f n cells slots 32 [none, none, none, none, none] [.int s0] := by
  have h : some (.inl s0, (f, n)) = some r := h
  cases h
  exact ax_of (aw_iret C rfl rfl dX8_octet_32 (by omega) (by omega) ⟨_, rfl, rfl, rfl, rfl⟩)
def mX8_octet (v0 : Nat) (v1 : Int32) (v2 : Int32) (v3 : Int32) (f : AH) (n : Nat) : Option ((Int32 ⊕ String) × HpN) := rCk (isO f v0 8) (((mX8_pieceOrThrow v0 v1 f n).bind fun r2 => (tS r2.1 r2.2 (fun y2 => ((some y2).bind fun x4 => (if v3 = (0 : Int32) then ((gR r2.2.1 v0 8 5).bind fun x5 => ((x5).bind fun j6 => rCk (isO r2.2.1 j6 1) (((mX1_textByte j6 x4 v2 r2.2.1 r2.2.2).bind fun r8 => mX8_octet_b32 r8.1 r8.2.1 r8.2.2)))) else rCk (isO r2.2.1 v0 8) (((mX8_nowByte v0 v1 x4 v2 r2.2.1 r2.2.2).bind fun r11 => mX8_octet_b32 r11.1 r11.2.1 r11.2.2))))))))
set_option maxHeartbeats 1000000 in
theorem rmX8_octet {X : GX} {l : Launch} {r : (Int32 ⊕ String) × HpN} {v0 : Nat} {v1 : Int32} {v2 : Int32} {v3 : Int32} {f : AH} {n : Nat} (hl0 : l.stackTraces = false) (h : mX8_octet v0 v1 v2 v3 f n = some r) : AX X l yX8_octet cX8_octet 5 (some .int) 7 1 6 [.ref v0, .int v1, .int v2, .int v3] f n (QTr (QHi) r) (QTx r) := by
  have h : rCk (isO f v0 8) (((mX8_pieceOrThrow v0 v1 f n).bind fun r2 => (tS r2.1 r2.2 (fun y2 => ((some y2).bind fun x4 => (if v3 = (0 : Int32) then ((gR r2.2.1 v0 8 5).bind fun x5 => ((x5).bind fun j6 => rCk (isO r2.2.1 j6 1) (((mX1_textByte j6 x4 v2 r2.2.1 r2.2.2).bind fun r8 => mX8_octet_b32 r8.1 r8.2.1 r8.2.2)))) else rCk (isO r2.2.1 v0 8) (((mX8_nowByte v0 v1 x4 v2 r2.2.1 r2.2.2).bind fun r11 => mX8_octet_b32 r11.1 r11.2.1 r11.2.2)))))))) = some r := h
  refine AX.of (by decide +kernel) rfl (Nat.le_of_ble_eq_true rfl) (fun p e s m args below meth c C htab => ?_)
  refine aw_nl [some (.ref v0), some (.int v1), some (.int v2), some (.int v3), none] rfl ?_
  refine aw_ald_n C dX8_octet_0 rfl ?_
  refine aw_iload_n C dX8_octet_1 rfl ?_
  obtain ⟨hb1, h⟩ := ck_some h
  obtain ⟨r2, hr2, h⟩ := Option.bind_eq_some_iff.mp h
  obtain ⟨fs3, hf3⟩ := isO_ex hb1
  refine ax_callV C (ci := 8) (b := v0) [.int v1] mv_X8_175 rfl rfl hf3 (rmX8_pieceOrThrow hl0 hr2) rfl dX8_octet_2 (Nat.le_of_ble_eq_true rfl) (Nat.le_of_ble_eq_true rfl) rfl (Nat.le_of_ble_eq_true rfl) (show 0 + 1 ≤ 1 by omega) (show 0 + 6 ≤ 6 by omega) (fun E9 f9 n9 hq => ?_) (fun v9 f9 n9 hq => ?_)
  · obtain ⟨e1, e2, e3⟩ := hq
    rw [tS_r e1] at h
    cases h
    exact at_out C htab ⟨rfl, e2, e3⟩ (by omega) (by omega)
  obtain ⟨y2, e2, rfl, rfl, rfl⟩ := hq
  rw [tS_l e2] at h
  replace h : ((some y2).bind fun x4 => (if v3 = (0 : Int32) then ((gR r2.2.1 v0 8 5).bind fun x5 => ((x5).bind fun j6 => rCk (isO r2.2.1 j6 1) (((mX1_textByte j6 x4 v2 r2.2.1 r2.2.2).bind fun r8 => mX8_octet_b32 r8.1 r8.2.1 r8.2.2)))) else rCk (isO r2.2.1 v0 8) (((mX8_nowByte v0 v1 x4 v2 r2.2.1 r2.2.2).bind fun r11 => mX8_octet_b32 r11.1 r11.2.1 r11.2.2)))) = some r := h
  obtain ⟨x4, hx4, h⟩ := Option.bind_eq_some_iff.mp h
  rw [Option.some.inj hx4]
  refine aw_astore C dX8_octet_5 (by decide) rfl (rf_or x4) ?_
  refine aw_nl [some (.ref v0), some (.int v1), some (.int v2), some (.int v3), some (va_rf x4)] rfl ?_
  refine aw_iload_n C dX8_octet_7 rfl ?_
  refine aw_if_eq C 22 dX8_octet_8 (by decide) (fun q => ?_) (fun q => ?_)
  · rw [if_pos q] at h
    refine aw_ald_n C dX8_octet_22 rfl ?_
    obtain ⟨x5, hx5, h⟩ := Option.bind_eq_some_iff.mp h
    refine ah_getR C gf_X8_38 hx5 dX8_octet_23 ?_
    refine aw_aload C dX8_octet_26 rfl (rf_or x4) ?_
    refine aw_iload_n C dX8_octet_28 rfl ?_
    obtain ⟨j6, hj6, h⟩ := Option.bind_eq_some_iff.mp h
    rw [hj6]
    obtain ⟨hb7, h⟩ := ck_some h
    obtain ⟨r8, hr8, h⟩ := Option.bind_eq_some_iff.mp h
    obtain ⟨fs9, hf9⟩ := isO_ex hb7
    refine aw_callV C (ci := 1) (b := j6) [va_rf x4, .int v2] mv_X8_217 rfl rfl hf9 (rmX1_textByte hr8) rfl dX8_octet_29 (Nat.le_of_ble_eq_true rfl) (Nat.le_of_ble_eq_true rfl) rfl (Nat.le_of_ble_eq_true rfl) (show (0 + 1) + 0 ≤ 1 by omega) (show (0 + 6) + 0 ≤ 6 by omega) (fun v9 f9 n9 hh => ?_)
    obtain ⟨rfl, rfl, rfl⟩ := hh
    refine aw_fl [none, none, none, none, none] trivial ?_
    exact rmX8_octet_b32 C hl0 htab (by omega) (by omega) h
  · rw [if_neg q] at h
    refine aw_ald_n C dX8_octet_11 rfl ?_
    refine aw_iload_n C dX8_octet_12 rfl ?_
    refine aw_aload C dX8_octet_13 rfl (rf_or x4) ?_
    refine aw_iload_n C dX8_octet_15 rfl ?_
    obtain ⟨hb10, h⟩ := ck_some h
    obtain ⟨r11, hr11, h⟩ := Option.bind_eq_some_iff.mp h
    obtain ⟨fs12, hf12⟩ := isO_ex hb10
    refine aw_callV C (ci := 8) (b := v0) [.int v1, va_rf x4, .int v2] mv_X8_213 rfl rfl hf12 (rmX8_nowByte hr11) rfl dX8_octet_16 (Nat.le_of_ble_eq_true rfl) (Nat.le_of_ble_eq_true rfl) rfl (Nat.le_of_ble_eq_true rfl) (show (0 + 1) + 0 ≤ 1 by omega) (show (0 + 6) + 0 ≤ 6 by omega) (fun v9 f9 n9 hh => ?_)
    obtain ⟨rfl, rfl, rfl⟩ := hh
    refine aw_goto C 32 dX8_octet_19 (by decide) ?_
    refine aw_fl [none, none, none, none, none] trivial ?_
    exact rmX8_octet_b32 C hl0 htab (by omega) (by omega) h
def mX8_origin_b38 (s0 : Int32) (f : AH) (n : Nat) : Option ((Int32 ⊕ String) × HpN) := some (.inl s0, (f, n))
set_option maxHeartbeats 1000000 in
theorem rmX8_origin_b38 {X : GX} {p : Program} {l : Launch} {e : Env} {s : State} {m : MethodId} {args : Array Value} {below : List Frame} {meth : Method} {c : Code} {r : (Int32 ⊕ String) × HpN} {s0 : Int32} {f : AH} {n cells slots : Nat} (C : CC X p l (RM 7 1 6) s m args meth c RX8 cX8_origin 4 (some .int)) (hl0 : l.stackTraces = false) (htab : ∀ x ∈ c.exceptionTable.toList, False) (hc : cells + 0 ≤ 1) (hs : slots + 0 ≤ 6) (h : mX8_origin_b38 s0 f n = some r) : AW X p l e (RM 7 1 6) s m args below meth c 4 (ZX X below args s 1 6 (QTr (QHi) r) (QTx r)) f n cells slots 38 [none, none, none, none] [.int s0] := by
  have h : some (.inl s0, (f, n)) = some r := h
  cases h
  exact ax_of (aw_iret C rfl rfl dX8_origin_38 (by omega) (by omega) ⟨_, rfl, rfl, rfl, rfl⟩)
def mX8_origin_b37 (f : AH) (n : Nat) : Option ((Int32 ⊕ String) × HpN) := mX8_origin_b38 (-1 : Int32) f n
set_option maxHeartbeats 1000000 in
theorem rmX8_origin_b37 {X : GX} {p : Program} {l : Launch} {e : Env} {s : State} {m : MethodId} {args : Array Value} {below : List Frame} {meth : Method} {c : Code} {r : (Int32 ⊕ String) × HpN} {f : AH} {n cells slots : Nat} (C : CC X p l (RM 7 1 6) s m args meth c RX8 cX8_origin 4 (some .int)) (hl0 : l.stackTraces = false) (htab : ∀ x ∈ c.exceptionTable.toList, False) (hc : cells + 0 ≤ 1) (hs : slots + 0 ≤ 6) (h : mX8_origin_b37 f n = some r) : AW X p l e (RM 7 1 6) s m args below meth c 4 (ZX X below args s 1 6 (QTr (QHi) r) (QTx r)) f n cells slots 37 [none, none, none, none] [] := by
  have h : mX8_origin_b38 (-1 : Int32) f n = some r := h
  refine aw_iconst C (-1) dX8_origin_37 ki_m1 ?_
  refine aw_fl [none, none, none, none] trivial ?_
  exact rmX8_origin_b38 C hl0 htab (by omega) (by omega) h
def mX8_origin (v0 : Nat) (v1 : Int32) (v2 : Int32) (f : AH) (n : Nat) : Option ((Int32 ⊕ String) × HpN) := rCk (isO f v0 8) (((mX8_pieceOrThrow v0 v1 f n).bind fun r2 => (tS r2.1 r2.2 (fun y2 => ((some y2).bind fun x4 => (if v2 < (0 : Int32) then mX8_origin_b37 r2.2.1 r2.2.2 else ((x4).bind fun j5 => ((gI r2.2.1 j5 3 3).bind fun x6 => (if x6 ≤ v2 then mX8_origin_b37 r2.2.1 r2.2.2 else ((gR r2.2.1 v0 8 5).bind fun x7 => ((x7).bind fun j8 => ((gR r2.2.1 j8 1 1).bind fun x9 => ((gI r2.2.1 j5 3 2).bind fun x10 => ((x9).bind fun j11 => rCk (isO r2.2.1 j11 5) (((mX5_get j11 (x10 + v2) r2.2.1 r2.2.2).bind fun r13 => mX8_origin_b38 r13.1 r13.2.1 r13.2.2))))))))))))))))
set_option maxHeartbeats 1000000 in
theorem rmX8_origin {X : GX} {l : Launch} {r : (Int32 ⊕ String) × HpN} {v0 : Nat} {v1 : Int32} {v2 : Int32} {f : AH} {n : Nat} (hl0 : l.stackTraces = false) (h : mX8_origin v0 v1 v2 f n = some r) : AX X l yX8_origin cX8_origin 4 (some .int) 7 1 6 [.ref v0, .int v1, .int v2] f n (QTr (QHi) r) (QTx r) := by
  have h : rCk (isO f v0 8) (((mX8_pieceOrThrow v0 v1 f n).bind fun r2 => (tS r2.1 r2.2 (fun y2 => ((some y2).bind fun x4 => (if v2 < (0 : Int32) then mX8_origin_b37 r2.2.1 r2.2.2 else ((x4).bind fun j5 => ((gI r2.2.1 j5 3 3).bind fun x6 => (if x6 ≤ v2 then mX8_origin_b37 r2.2.1 r2.2.2 else ((gR r2.2.1 v0 8 5).bind fun x7 => ((x7).bind fun j8 => ((gR r2.2.1 j8 1 1).bind fun x9 => ((gI r2.2.1 j5 3 2).bind fun x10 => ((x9).bind fun j11 => rCk (isO r2.2.1 j11 5) (((mX5_get j11 (x10 + v2) r2.2.1 r2.2.2).bind fun r13 => mX8_origin_b38 r13.1 r13.2.1 r13.2.2)))))))))))))))) = some r := h
  refine AX.of (by decide +kernel) rfl (Nat.le_of_ble_eq_true rfl) (fun p e s m args below meth c C htab => ?_)
  refine aw_nl [some (.ref v0), some (.int v1), some (.int v2), none] rfl ?_
  refine aw_ald_n C dX8_origin_0 rfl ?_
  refine aw_iload_n C dX8_origin_1 rfl ?_
  obtain ⟨hb1, h⟩ := ck_some h
  obtain ⟨r2, hr2, h⟩ := Option.bind_eq_some_iff.mp h
  obtain ⟨fs3, hf3⟩ := isO_ex hb1
  refine ax_callV C (ci := 8) (b := v0) [.int v1] mv_X8_175 rfl rfl hf3 (rmX8_pieceOrThrow hl0 hr2) rfl dX8_origin_2 (Nat.le_of_ble_eq_true rfl) (Nat.le_of_ble_eq_true rfl) rfl (Nat.le_of_ble_eq_true rfl) (show 0 + 1 ≤ 1 by omega) (show 0 + 6 ≤ 6 by omega) (fun E9 f9 n9 hq => ?_) (fun v9 f9 n9 hq => ?_)
  · obtain ⟨e1, e2, e3⟩ := hq
    rw [tS_r e1] at h
    cases h
    exact at_out C htab ⟨rfl, e2, e3⟩ (by omega) (by omega)
  obtain ⟨y2, e2, rfl, rfl, rfl⟩ := hq
  rw [tS_l e2] at h
  replace h : ((some y2).bind fun x4 => (if v2 < (0 : Int32) then mX8_origin_b37 r2.2.1 r2.2.2 else ((x4).bind fun j5 => ((gI r2.2.1 j5 3 3).bind fun x6 => (if x6 ≤ v2 then mX8_origin_b37 r2.2.1 r2.2.2 else ((gR r2.2.1 v0 8 5).bind fun x7 => ((x7).bind fun j8 => ((gR r2.2.1 j8 1 1).bind fun x9 => ((gI r2.2.1 j5 3 2).bind fun x10 => ((x9).bind fun j11 => rCk (isO r2.2.1 j11 5) (((mX5_get j11 (x10 + v2) r2.2.1 r2.2.2).bind fun r13 => mX8_origin_b38 r13.1 r13.2.1 r13.2.2)))))))))))) = some r := h
  obtain ⟨x4, hx4, h⟩ := Option.bind_eq_some_iff.mp h
  rw [Option.some.inj hx4]
  refine aw_astore_n C dX8_origin_5 (by decide) rfl (rf_or x4) ?_
  refine aw_nl [some (.ref v0), some (.int v1), some (.int v2), some (va_rf x4)] rfl ?_
  refine aw_iload_n C dX8_origin_6 rfl ?_
  refine aw_if_lt C 37 dX8_origin_7 (by decide) (fun q => ?_) (fun q => ?_)
  · rw [if_pos q] at h
    refine aw_fl [none, none, none, none] trivial ?_
    exact rmX8_origin_b37 C hl0 htab (by omega) (by omega) h
  · rw [if_neg q] at h
    refine aw_iload_n C dX8_origin_10 rfl ?_
    refine aw_aload_n C dX8_origin_11 rfl (rf_or x4) ?_
    obtain ⟨j5, hj5, h⟩ := Option.bind_eq_some_iff.mp h
    rw [hj5]
    obtain ⟨x6, hx6, h⟩ := Option.bind_eq_some_iff.mp h
    refine ah_getI C gf_X8_187 hx6 dX8_origin_12 ?_
    refine aw_icmp_ge C 37 dX8_origin_15 (by decide) (fun q => ?_) (fun q => ?_)
    · rw [if_pos q] at h
      refine aw_fl [none, none, none, none] trivial ?_
      exact rmX8_origin_b37 C hl0 htab (by omega) (by omega) h
    · rw [if_neg q] at h
      refine aw_ald_n C dX8_origin_18 rfl ?_
      obtain ⟨x7, hx7, h⟩ := Option.bind_eq_some_iff.mp h
      refine ah_getR C gf_X8_38 hx7 dX8_origin_19 ?_
      obtain ⟨j8, hj8, h⟩ := Option.bind_eq_some_iff.mp h
      rw [hj8]
      obtain ⟨x9, hx9, h⟩ := Option.bind_eq_some_iff.mp h
      refine ah_getR C gf_X8_221 hx9 dX8_origin_22 ?_
      refine aw_ald_n C dX8_origin_25 rfl ?_
      obtain ⟨x10, hx10, h⟩ := Option.bind_eq_some_iff.mp h
      refine ah_getI C gf_X8_224 hx10 dX8_origin_26 ?_
      refine aw_iload_n C dX8_origin_29 rfl ?_
      refine aw_iadd C dX8_origin_30 ?_
      obtain ⟨j11, hj11, h⟩ := Option.bind_eq_some_iff.mp h
      rw [hj11]
      obtain ⟨hb12, h⟩ := ck_some h
      obtain ⟨r13, hr13, h⟩ := Option.bind_eq_some_iff.mp h
      obtain ⟨fs14, hf14⟩ := isO_ex hb12
      refine aw_callV C (ci := 5) (b := j11) [.int (x10 + v2)] mv_X8_227 rfl rfl hf14 (rmX5_get hr13) rfl dX8_origin_31 (Nat.le_of_ble_eq_true rfl) (Nat.le_of_ble_eq_true rfl) rfl (Nat.le_of_ble_eq_true rfl) (show (0 + 1) + 0 ≤ 1 by omega) (show (0 + 6) + 0 ≤ 6 by omega) (fun v9 f9 n9 hh => ?_)
      obtain ⟨rfl, rfl, rfl⟩ := hh
      refine aw_goto C 38 dX8_origin_34 (by decide) ?_
      refine aw_fl [none, none, none, none] trivial ?_
      exact rmX8_origin_b38 C hl0 htab (by omega) (by omega) h
def mX8_key_b52 (s0 : Int32) (f : AH) (n : Nat) : Option ((Int32 ⊕ String) × HpN) := some (.inl s0, (f, n))
set_option maxHeartbeats 1000000 in
theorem rmX8_key_b52 {X : GX} {p : Program} {l : Launch} {e : Env} {s : State} {m : MethodId} {args : Array Value} {below : List Frame} {meth : Method} {c : Code} {r : (Int32 ⊕ String) × HpN} {s0 : Int32} {f : AH} {n cells slots : Nat} (C : CC X p l (RM 7 2 12) s m args meth c RX8 cX8_key 4 (some .int)) (hl0 : l.stackTraces = false) (htab : ∀ x ∈ c.exceptionTable.toList, False) (hc : cells + 0 ≤ 2) (hs : slots + 0 ≤ 12) (h : mX8_key_b52 s0 f n = some r) : AW X p l e (RM 7 2 12) s m args below meth c 4 (ZX X below args s 2 12 (QTr (QHi) r) (QTx r)) f n cells slots 52 [none, none, none, none] [.int s0] := by
  have h : some (.inl s0, (f, n)) = some r := h
  cases h
  exact ax_of (aw_iret C rfl rfl dX8_key_52 (by omega) (by omega) ⟨_, rfl, rfl, rfl, rfl⟩)
def mX8_key_b25 (v0 : Nat) (v2 : Int32) (v3 : Option Nat) (f : AH) (n : Nat) : Option ((Int32 ⊕ String) × HpN) := ((gR f v0 8 1).bind fun x1 => ((x1).bind fun j2 => ((gI f j2 7 1).bind fun x3 => (if x3 = (0 : Int32) then (if v2 = (0 : Int32) then ((v3).bind fun j6 => ((gI f j6 3 4).bind fun x7 => mX8_key_b52 x7 f n)) else ((v3).bind fun j4 => ((gI f j4 3 5).bind fun x5 => mX8_key_b52 x5 f n))) else some (.inl (-1 : Int32), (f, n))))))
set_option maxHeartbeats 1000000 in
theorem rmX8_key_b25 {X : GX} {p : Program} {l : Launch} {e : Env} {s : State} {m : MethodId} {args : Array Value} {below : List Frame} {meth : Method} {c : Code} {r : (Int32 ⊕ String) × HpN} {v0 : Nat} {v2 : Int32} {v3 : Option Nat} {f : AH} {n cells slots : Nat} (C : CC X p l (RM 7 2 12) s m args meth c RX8 cX8_key 4 (some .int)) (hl0 : l.stackTraces = false) (htab : ∀ x ∈ c.exceptionTable.toList, False) (hc : cells + 0 ≤ 2) (hs : slots + 0 ≤ 12) (h : mX8_key_b25 v0 v2 v3 f n = some r) : AW X p l e (RM 7 2 12) s m args below meth c 4 (ZX X below args s 2 12 (QTr (QHi) r) (QTx r)) f n cells slots 25 [some (.ref v0), none, some (.int v2), some (va_rf v3)] [] := by
  have h : ((gR f v0 8 1).bind fun x1 => ((x1).bind fun j2 => ((gI f j2 7 1).bind fun x3 => (if x3 = (0 : Int32) then (if v2 = (0 : Int32) then ((v3).bind fun j6 => ((gI f j6 3 4).bind fun x7 => mX8_key_b52 x7 f n)) else ((v3).bind fun j4 => ((gI f j4 3 5).bind fun x5 => mX8_key_b52 x5 f n))) else some (.inl (-1 : Int32), (f, n)))))) = some r := h
  refine aw_ald_n C dX8_key_25 rfl ?_
  obtain ⟨x1, hx1, h⟩ := Option.bind_eq_some_iff.mp h
  refine ah_getR C gf_X8_21 hx1 dX8_key_26 ?_
  obtain ⟨j2, hj2, h⟩ := Option.bind_eq_some_iff.mp h
  rw [hj2]
  obtain ⟨x3, hx3, h⟩ := Option.bind_eq_some_iff.mp h
  refine ah_getI C gf_X8_232 hx3 dX8_key_29 ?_
  refine aw_if_eq C 37 dX8_key_32 (by decide) (fun q => ?_) (fun q => ?_)
  · rw [if_pos q] at h
    refine aw_iload_n C dX8_key_37 rfl ?_
    refine aw_if_ne C 48 dX8_key_38 (by decide) (fun q => ?_) (fun q => ?_)
    · rw [if_neg q] at h
      refine aw_aload_n C dX8_key_48 rfl (rf_or v3) ?_
      obtain ⟨j4, hj4, h⟩ := Option.bind_eq_some_iff.mp h
      rw [hj4]
      obtain ⟨x5, hx5, h⟩ := Option.bind_eq_some_iff.mp h
      refine ah_getI C gf_X8_238 hx5 dX8_key_49 ?_
      refine aw_fl [none, none, none, none] trivial ?_
      exact rmX8_key_b52 C hl0 htab (by omega) (by omega) h
    · rw [if_pos q] at h
      refine aw_aload_n C dX8_key_41 rfl (rf_or v3) ?_
      obtain ⟨j6, hj6, h⟩ := Option.bind_eq_some_iff.mp h
      rw [hj6]
      obtain ⟨x7, hx7, h⟩ := Option.bind_eq_some_iff.mp h
      refine ah_getI C gf_X8_235 hx7 dX8_key_42 ?_
      refine aw_goto C 52 dX8_key_45 (by decide) ?_
      refine aw_fl [none, none, none, none] trivial ?_
      exact rmX8_key_b52 C hl0 htab (by omega) (by omega) h
  · rw [if_neg q] at h
    refine aw_iconst C (-1) dX8_key_35 ki_m1 ?_
    cases h
    exact ax_of (aw_iret C rfl rfl dX8_key_36 (by omega) (by omega) ⟨_, rfl, rfl, rfl, rfl⟩)
def mX8_key (v0 : Nat) (v1 : Int32) (v2 : Int32) (f : AH) (n : Nat) : Option ((Int32 ⊕ String) × HpN) := rCk (isO f v0 8) (((mX8_pieceOrThrow v0 v1 f n).bind fun r2 => (tS r2.1 r2.2 (fun y2 => ((some y2).bind fun x4 => (if v2 = (0 : Int32) then mX8_key_b25 v0 v2 x4 r2.2.1 r2.2.2 else (if v2 = (1 : Int32) then mX8_key_b25 v0 v2 x4 r2.2.1 r2.2.2 else some (.inr eN, (r2.2.1, r2.2.2)))))))))
set_option maxHeartbeats 1000000 in
theorem rmX8_key {X : GX} {l : Launch} {r : (Int32 ⊕ String) × HpN} {v0 : Nat} {v1 : Int32} {v2 : Int32} {f : AH} {n : Nat} (hl0 : l.stackTraces = false) (h : mX8_key v0 v1 v2 f n = some r) : AX X l yX8_key cX8_key 4 (some .int) 7 2 12 [.ref v0, .int v1, .int v2] f n (QTr (QHi) r) (QTx r) := by
  have h : rCk (isO f v0 8) (((mX8_pieceOrThrow v0 v1 f n).bind fun r2 => (tS r2.1 r2.2 (fun y2 => ((some y2).bind fun x4 => (if v2 = (0 : Int32) then mX8_key_b25 v0 v2 x4 r2.2.1 r2.2.2 else (if v2 = (1 : Int32) then mX8_key_b25 v0 v2 x4 r2.2.1 r2.2.2 else some (.inr eN, (r2.2.1, r2.2.2))))))))) = some r := h
  refine AX.of (by decide +kernel) rfl (Nat.le_of_ble_eq_true rfl) (fun p e s m args below meth c C htab => ?_)
  refine aw_nl [some (.ref v0), some (.int v1), some (.int v2), none] rfl ?_
  refine aw_ald_n C dX8_key_0 rfl ?_
  refine aw_iload_n C dX8_key_1 rfl ?_
  obtain ⟨hb1, h⟩ := ck_some h
  obtain ⟨r2, hr2, h⟩ := Option.bind_eq_some_iff.mp h
  obtain ⟨fs3, hf3⟩ := isO_ex hb1
  refine ax_callV C (ci := 8) (b := v0) [.int v1] mv_X8_175 rfl rfl hf3 (rmX8_pieceOrThrow hl0 hr2) rfl dX8_key_2 (Nat.le_of_ble_eq_true rfl) (Nat.le_of_ble_eq_true rfl) rfl (Nat.le_of_ble_eq_true rfl) (show 0 + 1 ≤ 2 by omega) (show 0 + 6 ≤ 12 by omega) (fun E9 f9 n9 hq => ?_) (fun v9 f9 n9 hq => ?_)
  · obtain ⟨e1, e2, e3⟩ := hq
    rw [tS_r e1] at h
    cases h
    exact at_out C htab ⟨rfl, e2, e3⟩ (by omega) (by omega)
  obtain ⟨y2, e2, rfl, rfl, rfl⟩ := hq
  rw [tS_l e2] at h
  replace h : ((some y2).bind fun x4 => (if v2 = (0 : Int32) then mX8_key_b25 v0 v2 x4 r2.2.1 r2.2.2 else (if v2 = (1 : Int32) then mX8_key_b25 v0 v2 x4 r2.2.1 r2.2.2 else some (.inr eN, (r2.2.1, r2.2.2))))) = some r := h
  obtain ⟨x4, hx4, h⟩ := Option.bind_eq_some_iff.mp h
  rw [Option.some.inj hx4]
  refine aw_astore_n C dX8_key_5 (by decide) rfl (rf_or x4) ?_
  refine aw_nl [some (.ref v0), some (.int v1), some (.int v2), some (va_rf x4)] rfl ?_
  refine aw_iload_n C dX8_key_6 rfl ?_
  refine aw_if_eq C 25 dX8_key_7 (by decide) (fun q => ?_) (fun q => ?_)
  · rw [if_pos q] at h
    refine aw_fl [some (.ref v0), none, some (.int v2), some (va_rf x4)] ⟨rfl, ⟨rfl, ⟨rfl, trivial⟩⟩⟩ ?_
    exact rmX8_key_b25 C hl0 htab (by omega) (by omega) h
  · rw [if_neg q] at h
    refine aw_iload_n C dX8_key_10 rfl ?_
    refine aw_iconst C 1 dX8_key_11 ki_1 ?_
    refine aw_icmp_eq C 25 dX8_key_12 (by decide) (fun q => ?_) (fun q => ?_)
    · rw [if_pos q] at h
      refine aw_fl [some (.ref v0), none, some (.int v2), some (va_rf x4)] ⟨rfl, ⟨rfl, ⟨rfl, trivial⟩⟩⟩ ?_
      exact rmX8_key_b25 C hl0 htab (by omega) (by omega) h
    · rw [if_neg q] at h
      cases h
      exact ax_throwN C htab hl0 th_eN sx_230 dX8_key_15 dX8_key_18 dX8_key_19 dX8_key_21 dX8_key_24 (Nat.le_of_ble_eq_true rfl) (Nat.le_of_ble_eq_true rfl) (show (0 + 1) + 1 ≤ 2 by omega) (show (0 + 6) + 6 ≤ 12 by omega) (by omega) (by omega) (fun n9 h9 => ⟨rfl, rfl, h9⟩)
