/-! part 32ad.cls -/
section
def mX7_isLocked_b69 (f : AH) (n : Nat) : Option (Int32 × HpN) := rCk (rNb (0 : Int32)) (some ((0 : Int32), (f, n)))
set_option maxHeartbeats 1000000 in
theorem rmX7_isLocked_b69 {X : GX} {p : Program} {l : Launch} {e : Env} {s : State} {m : MethodId} {args : Array Value} {below : List Frame} {meth : Method} {c : Code} {r : Int32 × HpN} {f : AH} {n cells slots : Nat} (C : CC X p l (RM 2 0 0) s m args meth c RX7 cX7_isLocked 4 (some .boolean)) (hc : cells + 0 ≤ 0) (hs : slots + 0 ≤ 0) (h : mX7_isLocked_b69 f n = some r) : AW X p l e (RM 2 0 0) s m args below meth c 4 (ZM X below args s 0 0 (QHi r)) f n cells slots 69 [none, none, none, none] [] := by
  have h : rCk (rNb (0 : Int32)) (some ((0 : Int32), (f, n))) = some r := h
  refine aw_iconst C 0 dX7_isLocked_69 ki_0 ?_
  obtain ⟨hb1, h⟩ := ck_some h
  cases h
  exact aw_iret C rfl (nb_nar hb1) dX7_isLocked_70 (by omega) (by omega) ⟨rfl, rfl, rfl⟩
def mX7_isLocked_b63 (rec2 : Nat → (Option Nat) → Int32 → AH → Nat → Option (Int32 × HpN)) (v0 : Nat) (v1 : Option Nat) (v2 : Int32) (f : AH) (n : Nat) : Option (Int32 × HpN) := rec2 v0 v1 (v2 + (1 : Int32)) f n
set_option maxHeartbeats 1000000 in
theorem rmX7_isLocked_b63 {X : GX} {p : Program} {l : Launch} {e : Env} {s : State} {m : MethodId} {args : Array Value} {below : List Frame} {meth : Method} {c : Code} {r : Int32 × HpN} {rec2 : Nat → (Option Nat) → Int32 → AH → Nat → Option (Int32 × HpN)} {v0 : Nat} {v1 : Option Nat} {v2 : Int32} {f : AH} {n cells slots : Nat} (C : CC X p l (RM 2 0 0) s m args meth c RX7 cX7_isLocked 4 (some .boolean)) (Hr2 : ∀ (v0 : Nat) (v1 : Option Nat) (v2 : Int32) (f : AH) (n cells slots : Nat), cells + 0 ≤ 0 → slots + 0 ≤ 0 → rec2 v0 v1 v2 f n = some r → AW X p l e (RM 2 0 0) s m args below meth c 4 (ZM X below args s 0 0 (QHi r)) f n cells slots 2 [some (.ref v0), some (va_rf v1), some (.int v2), none] []) (hc : cells + 0 ≤ 0) (hs : slots + 0 ≤ 0) (h : mX7_isLocked_b63 rec2 v0 v1 v2 f n = some r) : AW X p l e (RM 2 0 0) s m args below meth c 4 (ZM X below args s 0 0 (QHi r)) f n cells slots 63 [some (.ref v0), some (va_rf v1), some (.int v2), none] [] := by
  have h : rec2 v0 v1 (v2 + (1 : Int32)) f n = some r := h
  refine aw_iinc C (v2 + (1 : Int32)) dX7_isLocked_63 rfl (by rw [ki_1]) (by decide) (ok_rf 1 rfl) ?_
  refine aw_nl [some (.ref v0), some (va_rf v1), some (.int (v2 + (1 : Int32))), none] rfl ?_
  refine aw_goto C 2 dX7_isLocked_66 (by decide) ?_
  refine aw_fl [some (.ref v0), some (va_rf v1), some (.int (v2 + (1 : Int32))), none] ⟨rfl, ⟨rfl, ⟨rfl, trivial⟩⟩⟩ ?_
  exact Hr2 v0 v1 (v2 + (1 : Int32)) f n _ _ (by omega) (by omega) h
def mX7_isLocked_l2 : Nat → Nat → (Option Nat) → Int32 → AH → Nat → Option (Int32 × HpN)
  | 0, _, _, _, _, _ => none
  | d + 1, v0, v1, v2, f, n => ((gI f v0 7 5).bind fun x1 => (if x1 ≤ v2 then mX7_isLocked_b69 f n else ((gR f v0 7 8).bind fun x2 => ((x2).bind fun j3 => ((gL f j3).bind fun x4 => (if (nI x4) ≤ v2 then mX7_isLocked_b69 f n else ((gR f v0 7 8).bind fun x5 => ((x5).bind fun j6 => ((gRA f j6 v2).bind fun x7 => (oN x7 (mX7_isLocked_b63 (fun v0 v1 v2 f n => mX7_isLocked_l2 d v0 v1 v2 f n) v0 v1 v2 f n) (fun j8 => rCk (isO f j8 5) (((mX5_size j8 f n).bind fun r10 => ((v1).bind fun j12 => ((gI r10.2.1 j12 6 5).bind fun x13 => (if x13 < r10.1 then mX7_isLocked_b63 (fun v0 v1 v2 f n => mX7_isLocked_l2 d v0 v1 v2 f n) v0 (some j12) v2 r10.2.1 r10.2.2 else ((gR r10.2.1 j12 6 0).bind fun x14 => ((gI r10.2.1 j12 6 4).bind fun x15 => rCk (isO r10.2.1 j8 5) (((mX5_size j8 r10.2.1 r10.2.2).bind fun r17 => rCk (isO r17.2.1 j8 5) (((mX5_isSame j8 (0 : Int32) x14 x15 r17.1 r17.2.1 r17.2.2).bind fun r20 => (if r20.1 = (0 : Int32) then mX7_isLocked_b63 (fun v0 v1 v2 f n => mX7_isLocked_l2 d v0 v1 v2 f n) v0 (some j12) v2 r20.2.1 r20.2.2 else rCk (rNb (1 : Int32)) (some ((1 : Int32), (r20.2.1, r20.2.2))))))))))))))))))))))))))
set_option maxHeartbeats 1000000 in
theorem rmX7_isLocked_l2 {X : GX} {p : Program} {l : Launch} {e : Env} {s : State} {m : MethodId} {args : Array Value} {below : List Frame} {meth : Method} {c : Code} {r : Int32 × HpN} (C : CC X p l (RM 2 0 0) s m args meth c RX7 cX7_isLocked 4 (some .boolean)) : ∀ (d : Nat) (v0 : Nat) (v1 : Option Nat) (v2 : Int32) (f : AH) (n cells slots : Nat) (_ : cells + 0 ≤ 0) (_ : slots + 0 ≤ 0) (_ : mX7_isLocked_l2 d v0 v1 v2 f n = some r), AW X p l e (RM 2 0 0) s m args below meth c 4 (ZM X below args s 0 0 (QHi r)) f n cells slots 2 [some (.ref v0), some (va_rf v1), some (.int v2), none] [] := by
  intro d
  induction d with
  | zero =>
    intro v0 v1 v2 f n cells slots hc hs h
    exact nomatch (show (none : Option (Int32 × HpN)) = some r from h)
  | succ d ih =>
    intro v0 v1 v2 f n cells slots hc hs h
    have h : ((gI f v0 7 5).bind fun x1 => (if x1 ≤ v2 then mX7_isLocked_b69 f n else ((gR f v0 7 8).bind fun x2 => ((x2).bind fun j3 => ((gL f j3).bind fun x4 => (if (nI x4) ≤ v2 then mX7_isLocked_b69 f n else ((gR f v0 7 8).bind fun x5 => ((x5).bind fun j6 => ((gRA f j6 v2).bind fun x7 => (oN x7 (mX7_isLocked_b63 (fun v0 v1 v2 f n => mX7_isLocked_l2 d v0 v1 v2 f n) v0 v1 v2 f n) (fun j8 => rCk (isO f j8 5) (((mX5_size j8 f n).bind fun r10 => ((v1).bind fun j12 => ((gI r10.2.1 j12 6 5).bind fun x13 => (if x13 < r10.1 then mX7_isLocked_b63 (fun v0 v1 v2 f n => mX7_isLocked_l2 d v0 v1 v2 f n) v0 (some j12) v2 r10.2.1 r10.2.2 else ((gR r10.2.1 j12 6 0).bind fun x14 => ((gI r10.2.1 j12 6 4).bind fun x15 => rCk (isO r10.2.1 j8 5) (((mX5_size j8 r10.2.1 r10.2.2).bind fun r17 => rCk (isO r17.2.1 j8 5) (((mX5_isSame j8 (0 : Int32) x14 x15 r17.1 r17.2.1 r17.2.2).bind fun r20 => (if r20.1 = (0 : Int32) then mX7_isLocked_b63 (fun v0 v1 v2 f n => mX7_isLocked_l2 d v0 v1 v2 f n) v0 (some j12) v2 r20.2.1 r20.2.2 else rCk (rNb (1 : Int32)) (some ((1 : Int32), (r20.2.1, r20.2.2)))))))))))))))))))))))))) = some r := h
    refine aw_iload_n C dX7_isLocked_2 rfl ?_
    refine aw_ald_n C dX7_isLocked_3 rfl ?_
    obtain ⟨x1, hx1, h⟩ := Option.bind_eq_some_iff.mp h
    refine ah_getI C gf_X7_41 hx1 dX7_isLocked_4 ?_
    refine aw_icmp_ge C 69 dX7_isLocked_7 (by decide) (fun q => ?_) (fun q => ?_)
    · rw [if_pos q] at h
      refine aw_fl [none, none, none, none] trivial ?_
      exact rmX7_isLocked_b69 C (by omega) (by omega) h
    · rw [if_neg q] at h
      refine aw_iload_n C dX7_isLocked_10 rfl ?_
      refine aw_ald_n C dX7_isLocked_11 rfl ?_
      obtain ⟨x2, hx2, h⟩ := Option.bind_eq_some_iff.mp h
      refine ah_getR C gf_X7_30 hx2 dX7_isLocked_12 ?_
      obtain ⟨j3, hj3, h⟩ := Option.bind_eq_some_iff.mp h
      rw [hj3]
      obtain ⟨x4, hx4, h⟩ := Option.bind_eq_some_iff.mp h
      refine ah_len C hx4 dX7_isLocked_15 ?_
      refine aw_icmp_ge C 69 dX7_isLocked_16 (by decide) (fun q => ?_) (fun q => ?_)
      · rw [if_pos q] at h
        refine aw_fl [none, none, none, none] trivial ?_
        exact rmX7_isLocked_b69 C (by omega) (by omega) h
      · rw [if_neg q] at h
        refine aw_ald_n C dX7_isLocked_19 rfl ?_
        obtain ⟨x5, hx5, h⟩ := Option.bind_eq_some_iff.mp h
        refine ah_getR C gf_X7_30 hx5 dX7_isLocked_20 ?_
        refine aw_iload_n C dX7_isLocked_23 rfl ?_
        obtain ⟨j6, hj6, h⟩ := Option.bind_eq_some_iff.mp h
        rw [hj6]
        obtain ⟨x7, hx7, h⟩ := Option.bind_eq_some_iff.mp h
        refine ah_aald C hx7 dX7_isLocked_24 ?_
        refine aw_astore_n C dX7_isLocked_25 (by decide) rfl (rf_or x7) ?_
        refine aw_nl [some (.ref v0), some (va_rf v1), some (.int v2), some (va_rf x7)] rfl ?_
        refine aw_aload_n C dX7_isLocked_26 rfl (rf_or x7) ?_
        cases x7 with
        | none =>
          replace h : mX7_isLocked_b63 (fun v0 v1 v2 f n => mX7_isLocked_l2 d v0 v1 v2 f n) v0 v1 v2 f n = some r := h
          refine aw_ifnull_n C 63 dX7_isLocked_27 (by decide) ?_
          refine aw_fl [some (.ref v0), some (va_rf v1), some (.int v2), none] ⟨rfl, ⟨rfl, ⟨rfl, trivial⟩⟩⟩ ?_
          exact rmX7_isLocked_b63 C (fun v0 v1 v2 f n cells slots hc hs h => ih v0 v1 v2 f n cells slots hc hs h) (by omega) (by omega) h
        | some j8 =>
          replace h : rCk (isO f j8 5) (((mX5_size j8 f n).bind fun r10 => ((v1).bind fun j12 => ((gI r10.2.1 j12 6 5).bind fun x13 => (if x13 < r10.1 then mX7_isLocked_b63 (fun v0 v1 v2 f n => mX7_isLocked_l2 d v0 v1 v2 f n) v0 (some j12) v2 r10.2.1 r10.2.2 else ((gR r10.2.1 j12 6 0).bind fun x14 => ((gI r10.2.1 j12 6 4).bind fun x15 => rCk (isO r10.2.1 j8 5) (((mX5_size j8 r10.2.1 r10.2.2).bind fun r17 => rCk (isO r17.2.1 j8 5) (((mX5_isSame j8 (0 : Int32) x14 x15 r17.1 r17.2.1 r17.2.2).bind fun r20 => (if r20.1 = (0 : Int32) then mX7_isLocked_b63 (fun v0 v1 v2 f n => mX7_isLocked_l2 d v0 v1 v2 f n) v0 (some j12) v2 r20.2.1 r20.2.2 else rCk (rNb (1 : Int32)) (some ((1 : Int32), (r20.2.1, r20.2.2))))))))))))))) = some r := h
          refine aw_ifnull_r C 63 dX7_isLocked_27 (by decide) ?_
          refine aw_ald_n C dX7_isLocked_30 rfl ?_
          obtain ⟨hb9, h⟩ := ck_some h
          obtain ⟨r10, hr10, h⟩ := Option.bind_eq_some_iff.mp h
          obtain ⟨fs11, hf11⟩ := isO_ex hb9
          refine aw_callV C (ci := 5) (b := j8) [] mv_X7_62 rfl rfl hf11 (rmX5_size hr10) rfl dX7_isLocked_31 (Nat.le_of_ble_eq_true rfl) (Nat.le_of_ble_eq_true rfl) rfl (Nat.le_of_ble_eq_true rfl) (show cells + 0 ≤ 0 by omega) (show slots + 0 ≤ 0 by omega) (fun v9 f9 n9 hh => ?_)
          obtain ⟨rfl, rfl, rfl⟩ := hh
          refine aw_aload_n C dX7_isLocked_34 rfl (rf_or v1) ?_
          obtain ⟨j12, hj12, h⟩ := Option.bind_eq_some_iff.mp h
          rw [hj12]
          obtain ⟨x13, hx13, h⟩ := Option.bind_eq_some_iff.mp h
          refine ah_getI C gf_X7_70 hx13 dX7_isLocked_35 ?_
          refine aw_icmp_gt C 63 dX7_isLocked_38 (by decide) (fun q => ?_) (fun q => ?_)
          · rw [if_pos q] at h
            refine aw_fl [some (.ref v0), some (va_rf (some j12)), some (.int v2), none] ⟨rfl, ⟨rfl, ⟨rfl, trivial⟩⟩⟩ ?_
            exact rmX7_isLocked_b63 C (fun v0 v1 v2 f n cells slots hc hs h => ih v0 v1 v2 f n cells slots hc hs h) (by omega) (by omega) h
          · rw [if_neg q] at h
            refine aw_ald_n C dX7_isLocked_41 rfl ?_
            refine aw_iconst C 0 dX7_isLocked_42 ki_0 ?_
            refine aw_ald_n C dX7_isLocked_43 rfl ?_
            obtain ⟨x14, hx14, h⟩ := Option.bind_eq_some_iff.mp h
            refine ah_getR C gf_X7_75 hx14 dX7_isLocked_44 ?_
            refine aw_ald_n C dX7_isLocked_47 rfl ?_
            obtain ⟨x15, hx15, h⟩ := Option.bind_eq_some_iff.mp h
            refine ah_getI C gf_X7_78 hx15 dX7_isLocked_48 ?_
            refine aw_ald_n C dX7_isLocked_51 rfl ?_
            obtain ⟨hb16, h⟩ := ck_some h
            obtain ⟨r17, hr17, h⟩ := Option.bind_eq_some_iff.mp h
            obtain ⟨fs18, hf18⟩ := isO_ex hb16
            refine aw_callV C (ci := 5) (b := j8) [] mv_X7_62 rfl rfl hf18 (rmX5_size hr17) rfl dX7_isLocked_52 (Nat.le_of_ble_eq_true rfl) (Nat.le_of_ble_eq_true rfl) rfl (cs_1 rfl (cs_1 (rf_cat _) (cs_1 rfl (cs_1 rfl cs_0)))) (show (cells + 0) + 0 ≤ 0 by omega) (show (slots + 0) + 0 ≤ 0 by omega) (fun v9 f9 n9 hh => ?_)
            obtain ⟨rfl, rfl, rfl⟩ := hh
            obtain ⟨hb19, h⟩ := ck_some h
            obtain ⟨r20, hr20, h⟩ := Option.bind_eq_some_iff.mp h
            obtain ⟨fs21, hf21⟩ := isO_ex hb19
            refine aw_callV C (ci := 5) (b := j8) [.int (0 : Int32), va_rf x14, .int x15, .int r17.1] mv_X7_66 rfl rfl hf21 (rmX5_isSame hr20) rfl dX7_isLocked_55 (Nat.le_of_ble_eq_true rfl) (Nat.le_of_ble_eq_true rfl) rfl (Nat.le_of_ble_eq_true rfl) (show ((cells + 0) + 0) + 0 ≤ 0 by omega) (show ((slots + 0) + 0) + 0 ≤ 0 by omega) (fun v9 f9 n9 hh => ?_)
            obtain ⟨rfl, rfl, rfl⟩ := hh
            refine aw_if_eq C 63 dX7_isLocked_58 (by decide) (fun q => ?_) (fun q => ?_)
            · rw [if_pos q] at h
              refine aw_fl [some (.ref v0), some (va_rf (some j12)), some (.int v2), none] ⟨rfl, ⟨rfl, ⟨rfl, trivial⟩⟩⟩ ?_
              exact rmX7_isLocked_b63 C (fun v0 v1 v2 f n cells slots hc hs h => ih v0 v1 v2 f n cells slots hc hs h) (by omega) (by omega) h
            · rw [if_neg q] at h
              refine aw_iconst C 1 dX7_isLocked_61 ki_1 ?_
              obtain ⟨hb22, h⟩ := ck_some h
              cases h
              exact aw_iret C rfl (nb_nar hb22) dX7_isLocked_62 (by omega) (by omega) ⟨rfl, rfl, rfl⟩
def mX7_isLocked (v0 : Nat) (v1 : Option Nat) (f : AH) (n : Nat) : Option (Int32 × HpN) := mX7_isLocked_l2 rFU v0 v1 (0 : Int32) f n
set_option maxHeartbeats 1000000 in
theorem rmX7_isLocked {X : GX} {l : Launch} {r : Int32 × HpN} {v0 : Nat} {v1 : Option Nat} {f : AH} {n : Nat} (h : mX7_isLocked v0 v1 f n = some r) : AM X l yX7_isLocked cX7_isLocked 4 (some .boolean) 2 0 0 [.ref v0, va_rf v1] f n (QHi r) := by
  have h : mX7_isLocked_l2 rFU v0 v1 (0 : Int32) f n = some r := h
  refine AM.of (by decide +kernel) (all1 rfl (all1 (rf_cat _) rfl)) (Nat.le_of_ble_eq_true rfl) (fun p e s m args below meth c C hnm => ?_)
  refine aw_nl [some (.ref v0), some (va_rf v1), none, none] rfl ?_
  refine aw_iconst C 0 dX7_isLocked_0 ki_0 ?_
  refine aw_istore_n C dX7_isLocked_1 (by decide) (ok_rf 1 rfl) ?_
  refine aw_nl [some (.ref v0), some (va_rf v1), some (.int (0 : Int32)), none] rfl ?_
  refine aw_fl [some (.ref v0), some (va_rf v1), some (.int (0 : Int32)), none] ⟨rfl, ⟨rfl, ⟨rfl, trivial⟩⟩⟩ ?_
  exact rmX7_isLocked_l2 C rFU v0 v1 (0 : Int32) f n _ _ (by omega) (by omega) h
def mX6_readMarkup_b154 (f : AH) (n : Nat) : Option (Int32 × HpN) := some ((0 : Int32), (f, n))
set_option maxHeartbeats 1000000 in
theorem rmX6_readMarkup_b154 {X : GX} {p : Program} {l : Launch} {e : Env} {s : State} {m : MethodId} {args : Array Value} {below : List Frame} {meth : Method} {c : Code} {r : Int32 × HpN} {f : AH} {n cells slots : Nat} (C : CC X p l (RM 1 0 0) s m args meth c RX6 cX6_readMarkup 3 none) (hc : cells + 0 ≤ 0) (hs : slots + 0 ≤ 0) (h : mX6_readMarkup_b154 f n = some r) : AW X p l e (RM 1 0 0) s m args below meth c 3 (ZM X below args s 0 0 (QHv r)) f n cells slots 154 [none, none, none] [] := by
  have h : some ((0 : Int32), (f, n)) = some r := h
  cases h
  exact aw_vret C rfl dX6_readMarkup_154 (by omega) (by omega) ⟨rfl, rfl, rfl⟩
def mX6_readMarkup_b146 (v0 : Nat) (s0 : Nat) (s1 : Int32) (f : AH) (n : Nat) : Option (Int32 × HpN) := ((pO f s0 6 6 (.int s1)).bind fun f1 => ((pO f1 v0 6 7 (.int (4 : Int32))).bind fun f2 => mX6_readMarkup_b154 f2 n))
set_option maxHeartbeats 1000000 in
theorem rmX6_readMarkup_b146 {X : GX} {p : Program} {l : Launch} {e : Env} {s : State} {m : MethodId} {args : Array Value} {below : List Frame} {meth : Method} {c : Code} {r : Int32 × HpN} {v0 : Nat} {s0 : Nat} {s1 : Int32} {f : AH} {n cells slots : Nat} (C : CC X p l (RM 1 0 0) s m args meth c RX6 cX6_readMarkup 3 none) (hc : cells + 0 ≤ 0) (hs : slots + 0 ≤ 0) (h : mX6_readMarkup_b146 v0 s0 s1 f n = some r) : AW X p l e (RM 1 0 0) s m args below meth c 3 (ZM X below args s 0 0 (QHv r)) f n cells slots 146 [some (.ref v0), none, none] [.int s1, .ref s0] := by
  have h : ((pO f s0 6 6 (.int s1)).bind fun f1 => ((pO f1 v0 6 7 (.int (4 : Int32))).bind fun f2 => mX6_readMarkup_b154 f2 n)) = some r := h
  obtain ⟨f1, hf1, h⟩ := Option.bind_eq_some_iff.mp h
  refine ah_put C gf_X6_83 cf6 nf6_6 rfl rfl hf1 dX6_readMarkup_146 ?_
  refine aw_ald_n C dX6_readMarkup_149 rfl ?_
  refine aw_iconst C 4 dX6_readMarkup_150 ki_4 ?_
  obtain ⟨f2, hf2, h⟩ := Option.bind_eq_some_iff.mp h
  refine ah_put C gf_X6_86 cf6 nf6_7 rfl rfl hf2 dX6_readMarkup_151 ?_
  refine aw_fl [none, none, none] trivial ?_
  exact rmX6_readMarkup_b154 C (by omega) (by omega) h
def mX6_readMarkup_b92 (v0 : Nat) (v1 : Int32) (v2 : Int32) (f : AH) (n : Nat) : Option (Int32 × HpN) := ((gI f v0 6 2).bind fun x1 => (if x1 ≤ (v1 + (3 : Int32)) then mX6_readMarkup_b154 f n else ((gR f v0 6 0).bind fun x2 => ((x2).bind fun j3 => rCk (isO f j3 5) (((mX5_get j3 (v1 + (2 : Int32)) f n).bind fun r5 => (if r5.1 = (116 : Int32) then ((gR r5.2.1 v0 6 0).bind fun x7 => ((x7).bind fun j8 => rCk (isO r5.2.1 j8 5) (((mX5_get j8 (v1 + (3 : Int32)) r5.2.1 r5.2.2).bind fun r10 => (if r10.1 = (59 : Int32) then (if v2 = (108 : Int32) then mX6_readMarkup_b146 v0 v0 (60 : Int32) r10.2.1 r10.2.2 else mX6_readMarkup_b146 v0 v0 (62 : Int32) r10.2.1 r10.2.2) else mX6_readMarkup_b154 r10.2.1 r10.2.2))))) else mX6_readMarkup_b154 r5.2.1 r5.2.2)))))))
set_option maxHeartbeats 1000000 in
theorem rmX6_readMarkup_b92 {X : GX} {p : Program} {l : Launch} {e : Env} {s : State} {m : MethodId} {args : Array Value} {below : List Frame} {meth : Method} {c : Code} {r : Int32 × HpN} {v0 : Nat} {v1 : Int32} {v2 : Int32} {f : AH} {n cells slots : Nat} (C : CC X p l (RM 1 0 0) s m args meth c RX6 cX6_readMarkup 3 none) (hc : cells + 0 ≤ 0) (hs : slots + 0 ≤ 0) (h : mX6_readMarkup_b92 v0 v1 v2 f n = some r) : AW X p l e (RM 1 0 0) s m args below meth c 3 (ZM X below args s 0 0 (QHv r)) f n cells slots 92 [some (.ref v0), some (.int v1), some (.int v2)] [] := by
  have h : ((gI f v0 6 2).bind fun x1 => (if x1 ≤ (v1 + (3 : Int32)) then mX6_readMarkup_b154 f n else ((gR f v0 6 0).bind fun x2 => ((x2).bind fun j3 => rCk (isO f j3 5) (((mX5_get j3 (v1 + (2 : Int32)) f n).bind fun r5 => (if r5.1 = (116 : Int32) then ((gR r5.2.1 v0 6 0).bind fun x7 => ((x7).bind fun j8 => rCk (isO r5.2.1 j8 5) (((mX5_get j8 (v1 + (3 : Int32)) r5.2.1 r5.2.2).bind fun r10 => (if r10.1 = (59 : Int32) then (if v2 = (108 : Int32) then mX6_readMarkup_b146 v0 v0 (60 : Int32) r10.2.1 r10.2.2 else mX6_readMarkup_b146 v0 v0 (62 : Int32) r10.2.1 r10.2.2) else mX6_readMarkup_b154 r10.2.1 r10.2.2))))) else mX6_readMarkup_b154 r5.2.1 r5.2.2))))))) = some r := h
  refine aw_iload_n C dX6_readMarkup_92 rfl ?_
  refine aw_iconst C 3 dX6_readMarkup_93 ki_3 ?_
  refine aw_iadd C dX6_readMarkup_94 ?_
  refine aw_ald_n C dX6_readMarkup_95 rfl ?_
  obtain ⟨x1, hx1, h⟩ := Option.bind_eq_some_iff.mp h
  refine ah_getI C gf_X6_56 hx1 dX6_readMarkup_96 ?_
  refine aw_icmp_ge C 154 dX6_readMarkup_99 (by decide) (fun q => ?_) (fun q => ?_)
  · rw [if_pos q] at h
    refine aw_fl [none, none, none] trivial ?_
    exact rmX6_readMarkup_b154 C (by omega) (by omega) h
  · rw [if_neg q] at h
    refine aw_ald_n C dX6_readMarkup_102 rfl ?_
    obtain ⟨x2, hx2, h⟩ := Option.bind_eq_some_iff.mp h
    refine ah_getR C gf_X6_14 hx2 dX6_readMarkup_103 ?_
    refine aw_iload_n C dX6_readMarkup_106 rfl ?_
    refine aw_iconst C 2 dX6_readMarkup_107 ki_2 ?_
    refine aw_iadd C dX6_readMarkup_108 ?_
    obtain ⟨j3, hj3, h⟩ := Option.bind_eq_some_iff.mp h
    rw [hj3]
    obtain ⟨hb4, h⟩ := ck_some h
    obtain ⟨r5, hr5, h⟩ := Option.bind_eq_some_iff.mp h
    obtain ⟨fs6, hf6⟩ := isO_ex hb4
    refine aw_callV C (ci := 5) (b := j3) [.int (v1 + (2 : Int32))] mv_X6_67 rfl rfl hf6 (rmX5_get hr5) rfl dX6_readMarkup_109 (Nat.le_of_ble_eq_true rfl) (Nat.le_of_ble_eq_true rfl) rfl (Nat.le_of_ble_eq_true rfl) (show cells + 0 ≤ 0 by omega) (show slots + 0 ≤ 0 by omega) (fun v9 f9 n9 hh => ?_)
    obtain ⟨rfl, rfl, rfl⟩ := hh
    refine aw_bipush C 116 dX6_readMarkup_112 kb_116 ?_
    refine aw_icmp_ne C 154 dX6_readMarkup_114 (by decide) (fun q => ?_) (fun q => ?_)
    · rw [if_neg q] at h
      refine aw_fl [none, none, none] trivial ?_
      exact rmX6_readMarkup_b154 C (by omega) (by omega) h
    · rw [if_pos q] at h
      refine aw_ald_n C dX6_readMarkup_117 rfl ?_
      obtain ⟨x7, hx7, h⟩ := Option.bind_eq_some_iff.mp h
      refine ah_getR C gf_X6_14 hx7 dX6_readMarkup_118 ?_
      refine aw_iload_n C dX6_readMarkup_121 rfl ?_
      refine aw_iconst C 3 dX6_readMarkup_122 ki_3 ?_
      refine aw_iadd C dX6_readMarkup_123 ?_
      obtain ⟨j8, hj8, h⟩ := Option.bind_eq_some_iff.mp h
      rw [hj8]
      obtain ⟨hb9, h⟩ := ck_some h
      obtain ⟨r10, hr10, h⟩ := Option.bind_eq_some_iff.mp h
      obtain ⟨fs11, hf11⟩ := isO_ex hb9
      refine aw_callV C (ci := 5) (b := j8) [.int (v1 + (3 : Int32))] mv_X6_67 rfl rfl hf11 (rmX5_get hr10) rfl dX6_readMarkup_124 (Nat.le_of_ble_eq_true rfl) (Nat.le_of_ble_eq_true rfl) rfl (Nat.le_of_ble_eq_true rfl) (show (cells + 0) + 0 ≤ 0 by omega) (show (slots + 0) + 0 ≤ 0 by omega) (fun v9 f9 n9 hh => ?_)
      obtain ⟨rfl, rfl, rfl⟩ := hh
      refine aw_bipush C 59 dX6_readMarkup_127 kb_59 ?_
      refine aw_icmp_ne C 154 dX6_readMarkup_129 (by decide) (fun q => ?_) (fun q => ?_)
      · rw [if_neg q] at h
        refine aw_fl [none, none, none] trivial ?_
        exact rmX6_readMarkup_b154 C (by omega) (by omega) h
      · rw [if_pos q] at h
        refine aw_ald_n C dX6_readMarkup_132 rfl ?_
        refine aw_iload_n C dX6_readMarkup_133 rfl ?_
        refine aw_bipush C 108 dX6_readMarkup_134 kb_108 ?_
        refine aw_icmp_ne C 144 dX6_readMarkup_136 (by decide) (fun q => ?_) (fun q => ?_)
        · rw [if_neg q] at h
          refine aw_bipush C 62 dX6_readMarkup_144 kb_62 ?_
          refine aw_fl [some (.ref v0), none, none] ⟨rfl, trivial⟩ ?_
          exact rmX6_readMarkup_b146 C (by omega) (by omega) h
        · rw [if_pos q] at h
          refine aw_bipush C 60 dX6_readMarkup_139 kb_60 ?_
          refine aw_goto C 146 dX6_readMarkup_141 (by decide) ?_
          refine aw_fl [some (.ref v0), none, none] ⟨rfl, trivial⟩ ?_
          exact rmX6_readMarkup_b146 C (by omega) (by omega) h
def mX6_readMarkup (v0 : Nat) (v1 : Int32) (f : AH) (n : Nat) : Option (Int32 × HpN) := ((gR f v0 6 0).bind fun x1 => ((x1).bind fun j2 => rCk (isO f j2 5) (((mX5_get j2 (v1 + (1 : Int32)) f n).bind fun r4 => (if r4.1 = (97 : Int32) then ((gI r4.2.1 v0 6 2).bind fun x6 => (if x6 ≤ (v1 + (4 : Int32)) then mX6_readMarkup_b154 r4.2.1 r4.2.2 else ((gR r4.2.1 v0 6 0).bind fun x7 => ((x7).bind fun j8 => rCk (isO r4.2.1 j8 5) (((mX5_get j8 (v1 + (2 : Int32)) r4.2.1 r4.2.2).bind fun r10 => (if r10.1 = (109 : Int32) then ((gR r10.2.1 v0 6 0).bind fun x12 => ((x12).bind fun j13 => rCk (isO r10.2.1 j13 5) (((mX5_get j13 (v1 + (3 : Int32)) r10.2.1 r10.2.2).bind fun r15 => (if r15.1 = (112 : Int32) then ((gR r15.2.1 v0 6 0).bind fun x17 => ((x17).bind fun j18 => rCk (isO r15.2.1 j18 5) (((mX5_get j18 (v1 + (4 : Int32)) r15.2.1 r15.2.2).bind fun r20 => (if r20.1 = (59 : Int32) then ((pO r20.2.1 v0 6 7 (.int (5 : Int32))).bind fun f22 => mX6_readMarkup_b154 f22 r20.2.2) else mX6_readMarkup_b154 r20.2.1 r20.2.2))))) else mX6_readMarkup_b154 r15.2.1 r15.2.2))))) else mX6_readMarkup_b154 r10.2.1 r10.2.2))))))) else (if r4.1 = (108 : Int32) then mX6_readMarkup_b92 v0 v1 r4.1 r4.2.1 r4.2.2 else (if r4.1 = (103 : Int32) then mX6_readMarkup_b92 v0 v1 r4.1 r4.2.1 r4.2.2 else mX6_readMarkup_b154 r4.2.1 r4.2.2)))))))
set_option maxHeartbeats 1000000 in
theorem rmX6_readMarkup {X : GX} {l : Launch} {r : Int32 × HpN} {v0 : Nat} {v1 : Int32} {f : AH} {n : Nat} (h : mX6_readMarkup v0 v1 f n = some r) : AM X l yX6_readMarkup cX6_readMarkup 3 none 1 0 0 [.ref v0, .int v1] f n (QHv r) := by
  have h : ((gR f v0 6 0).bind fun x1 => ((x1).bind fun j2 => rCk (isO f j2 5) (((mX5_get j2 (v1 + (1 : Int32)) f n).bind fun r4 => (if r4.1 = (97 : Int32) then ((gI r4.2.1 v0 6 2).bind fun x6 => (if x6 ≤ (v1 + (4 : Int32)) then mX6_readMarkup_b154 r4.2.1 r4.2.2 else ((gR r4.2.1 v0 6 0).bind fun x7 => ((x7).bind fun j8 => rCk (isO r4.2.1 j8 5) (((mX5_get j8 (v1 + (2 : Int32)) r4.2.1 r4.2.2).bind fun r10 => (if r10.1 = (109 : Int32) then ((gR r10.2.1 v0 6 0).bind fun x12 => ((x12).bind fun j13 => rCk (isO r10.2.1 j13 5) (((mX5_get j13 (v1 + (3 : Int32)) r10.2.1 r10.2.2).bind fun r15 => (if r15.1 = (112 : Int32) then ((gR r15.2.1 v0 6 0).bind fun x17 => ((x17).bind fun j18 => rCk (isO r15.2.1 j18 5) (((mX5_get j18 (v1 + (4 : Int32)) r15.2.1 r15.2.2).bind fun r20 => (if r20.1 = (59 : Int32) then ((pO r20.2.1 v0 6 7 (.int (5 : Int32))).bind fun f22 => mX6_readMarkup_b154 f22 r20.2.2) else mX6_readMarkup_b154 r20.2.1 r20.2.2))))) else mX6_readMarkup_b154 r15.2.1 r15.2.2))))) else mX6_readMarkup_b154 r10.2.1 r10.2.2))))))) else (if r4.1 = (108 : Int32) then mX6_readMarkup_b92 v0 v1 r4.1 r4.2.1 r4.2.2 else (if r4.1 = (103 : Int32) then mX6_readMarkup_b92 v0 v1 r4.1 r4.2.1 r4.2.2 else mX6_readMarkup_b154 r4.2.1 r4.2.2))))))) = some r := h
  refine AM.of (by decide +kernel) rfl (Nat.le_of_ble_eq_true rfl) (fun p e s m args below meth c C hnm => ?_)
  refine aw_nl [some (.ref v0), some (.int v1), none] rfl ?_
  refine aw_ald_n C dX6_readMarkup_0 rfl ?_
  obtain ⟨x1, hx1, h⟩ := Option.bind_eq_some_iff.mp h
  refine ah_getR C gf_X6_14 hx1 dX6_readMarkup_1 ?_
  refine aw_iload_n C dX6_readMarkup_4 rfl ?_
  refine aw_iconst C 1 dX6_readMarkup_5 ki_1 ?_
  refine aw_iadd C dX6_readMarkup_6 ?_
  obtain ⟨j2, hj2, h⟩ := Option.bind_eq_some_iff.mp h
  rw [hj2]
  obtain ⟨hb3, h⟩ := ck_some h
  obtain ⟨r4, hr4, h⟩ := Option.bind_eq_some_iff.mp h
  obtain ⟨fs5, hf5⟩ := isO_ex hb3
  refine aw_callV C (ci := 5) (b := j2) [.int (v1 + (1 : Int32))] mv_X6_67 rfl rfl hf5 (rmX5_get hr4) rfl dX6_readMarkup_7 (Nat.le_of_ble_eq_true rfl) (Nat.le_of_ble_eq_true rfl) rfl (Nat.le_of_ble_eq_true rfl) (show 0 + 0 ≤ 0 by omega) (show 0 + 0 ≤ 0 by omega) (fun v9 f9 n9 hh => ?_)
  obtain ⟨rfl, rfl, rfl⟩ := hh
  refine aw_istore_n C dX6_readMarkup_10 (by decide) rfl ?_
  refine aw_nl [some (.ref v0), some (.int v1), some (.int r4.1)] rfl ?_
  refine aw_iload_n C dX6_readMarkup_11 rfl ?_
  refine aw_bipush C 97 dX6_readMarkup_12 kb_97 ?_
  refine aw_icmp_ne C 80 dX6_readMarkup_14 (by decide) (fun q => ?_) (fun q => ?_)
  · rw [if_neg q] at h
    refine aw_iload_n C dX6_readMarkup_80 rfl ?_
    refine aw_bipush C 108 dX6_readMarkup_81 kb_108 ?_
    refine aw_icmp_eq C 92 dX6_readMarkup_83 (by decide) (fun q => ?_) (fun q => ?_)
    · rw [if_pos q] at h
      refine aw_fl [some (.ref v0), some (.int v1), some (.int r4.1)] ⟨rfl, ⟨rfl, ⟨rfl, trivial⟩⟩⟩ ?_
      exact rmX6_readMarkup_b92 C (by omega) (by omega) h
    · rw [if_neg q] at h
      refine aw_iload_n C dX6_readMarkup_86 rfl ?_
      refine aw_bipush C 103 dX6_readMarkup_87 kb_103 ?_
      refine aw_icmp_ne C 154 dX6_readMarkup_89 (by decide) (fun q => ?_) (fun q => ?_)
      · rw [if_neg q] at h
        refine aw_fl [none, none, none] trivial ?_
        exact rmX6_readMarkup_b154 C (by omega) (by omega) h
      · rw [if_pos q] at h
        refine aw_fl [some (.ref v0), some (.int v1), some (.int r4.1)] ⟨rfl, ⟨rfl, ⟨rfl, trivial⟩⟩⟩ ?_
        exact rmX6_readMarkup_b92 C (by omega) (by omega) h
  · rw [if_pos q] at h
    refine aw_iload_n C dX6_readMarkup_17 rfl ?_
    refine aw_iconst C 4 dX6_readMarkup_18 ki_4 ?_
    refine aw_iadd C dX6_readMarkup_19 ?_
    refine aw_ald_n C dX6_readMarkup_20 rfl ?_
    obtain ⟨x6, hx6, h⟩ := Option.bind_eq_some_iff.mp h
    refine ah_getI C gf_X6_56 hx6 dX6_readMarkup_21 ?_
    refine aw_icmp_ge C 154 dX6_readMarkup_24 (by decide) (fun q => ?_) (fun q => ?_)
    · rw [if_pos q] at h
      refine aw_fl [none, none, none] trivial ?_
      exact rmX6_readMarkup_b154 C (by omega) (by omega) h
    · rw [if_neg q] at h
      refine aw_ald_n C dX6_readMarkup_27 rfl ?_
      obtain ⟨x7, hx7, h⟩ := Option.bind_eq_some_iff.mp h
      refine ah_getR C gf_X6_14 hx7 dX6_readMarkup_28 ?_
      refine aw_iload_n C dX6_readMarkup_31 rfl ?_
      refine aw_iconst C 2 dX6_readMarkup_32 ki_2 ?_
      refine aw_iadd C dX6_readMarkup_33 ?_
      obtain ⟨j8, hj8, h⟩ := Option.bind_eq_some_iff.mp h
      rw [hj8]
      obtain ⟨hb9, h⟩ := ck_some h
      obtain ⟨r10, hr10, h⟩ := Option.bind_eq_some_iff.mp h
      obtain ⟨fs11, hf11⟩ := isO_ex hb9
      refine aw_callV C (ci := 5) (b := j8) [.int (v1 + (2 : Int32))] mv_X6_67 rfl rfl hf11 (rmX5_get hr10) rfl dX6_readMarkup_34 (Nat.le_of_ble_eq_true rfl) (Nat.le_of_ble_eq_true rfl) rfl (Nat.le_of_ble_eq_true rfl) (show (0 + 0) + 0 ≤ 0 by omega) (show (0 + 0) + 0 ≤ 0 by omega) (fun v9 f9 n9 hh => ?_)
      obtain ⟨rfl, rfl, rfl⟩ := hh
      refine aw_bipush C 109 dX6_readMarkup_37 kb_109 ?_
      refine aw_icmp_ne C 154 dX6_readMarkup_39 (by decide) (fun q => ?_) (fun q => ?_)
      · rw [if_neg q] at h
        refine aw_fl [none, none, none] trivial ?_
        exact rmX6_readMarkup_b154 C (by omega) (by omega) h
      · rw [if_pos q] at h
        refine aw_ald_n C dX6_readMarkup_42 rfl ?_
        obtain ⟨x12, hx12, h⟩ := Option.bind_eq_some_iff.mp h
        refine ah_getR C gf_X6_14 hx12 dX6_readMarkup_43 ?_
        refine aw_iload_n C dX6_readMarkup_46 rfl ?_
        refine aw_iconst C 3 dX6_readMarkup_47 ki_3 ?_
        refine aw_iadd C dX6_readMarkup_48 ?_
        obtain ⟨j13, hj13, h⟩ := Option.bind_eq_some_iff.mp h
        rw [hj13]
        obtain ⟨hb14, h⟩ := ck_some h
        obtain ⟨r15, hr15, h⟩ := Option.bind_eq_some_iff.mp h
        obtain ⟨fs16, hf16⟩ := isO_ex hb14
        refine aw_callV C (ci := 5) (b := j13) [.int (v1 + (3 : Int32))] mv_X6_67 rfl rfl hf16 (rmX5_get hr15) rfl dX6_readMarkup_49 (Nat.le_of_ble_eq_true rfl) (Nat.le_of_ble_eq_true rfl) rfl (Nat.le_of_ble_eq_true rfl) (show ((0 + 0) + 0) + 0 ≤ 0 by omega) (show ((0 + 0) + 0) + 0 ≤ 0 by omega) (fun v9 f9 n9 hh => ?_)
        obtain ⟨rfl, rfl, rfl⟩ := hh
        refine aw_bipush C 112 dX6_readMarkup_52 kb_112 ?_
        refine aw_icmp_ne C 154 dX6_readMarkup_54 (by decide) (fun q => ?_) (fun q => ?_)
        · rw [if_neg q] at h
          refine aw_fl [none, none, none] trivial ?_
          exact rmX6_readMarkup_b154 C (by omega) (by omega) h
        · rw [if_pos q] at h
          refine aw_ald_n C dX6_readMarkup_57 rfl ?_
          obtain ⟨x17, hx17, h⟩ := Option.bind_eq_some_iff.mp h
          refine ah_getR C gf_X6_14 hx17 dX6_readMarkup_58 ?_
          refine aw_iload_n C dX6_readMarkup_61 rfl ?_
          refine aw_iconst C 4 dX6_readMarkup_62 ki_4 ?_
          refine aw_iadd C dX6_readMarkup_63 ?_
          obtain ⟨j18, hj18, h⟩ := Option.bind_eq_some_iff.mp h
          rw [hj18]
          obtain ⟨hb19, h⟩ := ck_some h
          obtain ⟨r20, hr20, h⟩ := Option.bind_eq_some_iff.mp h
          obtain ⟨fs21, hf21⟩ := isO_ex hb19
          refine aw_callV C (ci := 5) (b := j18) [.int (v1 + (4 : Int32))] mv_X6_67 rfl rfl hf21 (rmX5_get hr20) rfl dX6_readMarkup_64 (Nat.le_of_ble_eq_true rfl) (Nat.le_of_ble_eq_true rfl) rfl (Nat.le_of_ble_eq_true rfl) (show (((0 + 0) + 0) + 0) + 0 ≤ 0 by omega) (show (((0 + 0) + 0) + 0) + 0 ≤ 0 by omega) (fun v9 f9 n9 hh => ?_)
          obtain ⟨rfl, rfl, rfl⟩ := hh
          refine aw_bipush C 59 dX6_readMarkup_67 kb_59 ?_
          refine aw_icmp_ne C 154 dX6_readMarkup_69 (by decide) (fun q => ?_) (fun q => ?_)
          · rw [if_neg q] at h
            refine aw_fl [none, none, none] trivial ?_
            exact rmX6_readMarkup_b154 C (by omega) (by omega) h
          · rw [if_pos q] at h
            refine aw_ald_n C dX6_readMarkup_72 rfl ?_
            refine aw_iconst C 5 dX6_readMarkup_73 ki_5 ?_
            obtain ⟨f22, hf22, h⟩ := Option.bind_eq_some_iff.mp h
            refine ah_put C gf_X6_86 cf6 nf6_7 rfl rfl hf22 dX6_readMarkup_74 ?_
            refine aw_goto C 154 dX6_readMarkup_77 (by decide) ?_
            refine aw_fl [none, none, none] trivial ?_
            exact rmX6_readMarkup_b154 C (by omega) (by omega) h
def mX6_readBack_b70 (f : AH) (n : Nat) : Option (Int32 × HpN) := some ((0 : Int32), (f, n))
set_option maxHeartbeats 1000000 in
theorem rmX6_readBack_b70 {X : GX} {p : Program} {l : Launch} {e : Env} {s : State} {m : MethodId} {args : Array Value} {below : List Frame} {meth : Method} {c : Code} {r : Int32 × HpN} {f : AH} {n cells slots : Nat} (C : CC X p l (RM 0 0 0) s m args meth c RX6 cX6_readBack 3 none) (hc : cells + 0 ≤ 0) (hs : slots + 0 ≤ 0) (h : mX6_readBack_b70 f n = some r) : AW X p l e (RM 0 0 0) s m args below meth c 3 (ZM X below args s 0 0 (QHv r)) f n cells slots 70 [none, none, none] [] := by
  have h : some ((0 : Int32), (f, n)) = some r := h
  cases h
  exact aw_vret C rfl dX6_readBack_70 (by omega) (by omega) ⟨rfl, rfl, rfl⟩
def mX6_readBack_b62 (v0 : Nat) (s0 : Nat) (s1 : Int32) (f : AH) (n : Nat) : Option (Int32 × HpN) := ((pO f s0 6 6 (.int s1)).bind fun f1 => ((pO f1 v0 6 7 (.int (2 : Int32))).bind fun f2 => mX6_readBack_b70 f2 n))
set_option maxHeartbeats 1000000 in
theorem rmX6_readBack_b62 {X : GX} {p : Program} {l : Launch} {e : Env} {s : State} {m : MethodId} {args : Array Value} {below : List Frame} {meth : Method} {c : Code} {r : Int32 × HpN} {v0 : Nat} {s0 : Nat} {s1 : Int32} {f : AH} {n cells slots : Nat} (C : CC X p l (RM 0 0 0) s m args meth c RX6 cX6_readBack 3 none) (hc : cells + 0 ≤ 0) (hs : slots + 0 ≤ 0) (h : mX6_readBack_b62 v0 s0 s1 f n = some r) : AW X p l e (RM 0 0 0) s m args below meth c 3 (ZM X below args s 0 0 (QHv r)) f n cells slots 62 [some (.ref v0), none, none] [.int s1, .ref s0] := by
  have h : ((pO f s0 6 6 (.int s1)).bind fun f1 => ((pO f1 v0 6 7 (.int (2 : Int32))).bind fun f2 => mX6_readBack_b70 f2 n)) = some r := h
  obtain ⟨f1, hf1, h⟩ := Option.bind_eq_some_iff.mp h
  refine ah_put C gf_X6_83 cf6 nf6_6 rfl rfl hf1 dX6_readBack_62 ?_
  refine aw_ald_n C dX6_readBack_65 rfl ?_
  refine aw_iconst C 2 dX6_readBack_66 ki_2 ?_
  obtain ⟨f2, hf2, h⟩ := Option.bind_eq_some_iff.mp h
  refine ah_put C gf_X6_86 cf6 nf6_7 rfl rfl hf2 dX6_readBack_67 ?_
  refine aw_fl [none, none, none] trivial ?_
  exact rmX6_readBack_b70 C (by omega) (by omega) h
def mX6_readBack_b38 (v0 : Nat) (v1 : Int32) (f : AH) (n : Nat) : Option (Int32 × HpN) := (if v1 = (110 : Int32) then mX6_readBack_b62 v0 v0 (10 : Int32) f n else (if v1 = (116 : Int32) then mX6_readBack_b62 v0 v0 (9 : Int32) f n else mX6_readBack_b62 v0 v0 v1 f n))
set_option maxHeartbeats 1000000 in
theorem rmX6_readBack_b38 {X : GX} {p : Program} {l : Launch} {e : Env} {s : State} {m : MethodId} {args : Array Value} {below : List Frame} {meth : Method} {c : Code} {r : Int32 × HpN} {v0 : Nat} {v1 : Int32} {f : AH} {n cells slots : Nat} (C : CC X p l (RM 0 0 0) s m args meth c RX6 cX6_readBack 3 none) (hc : cells + 0 ≤ 0) (hs : slots + 0 ≤ 0) (h : mX6_readBack_b38 v0 v1 f n = some r) : AW X p l e (RM 0 0 0) s m args below meth c 3 (ZM X below args s 0 0 (QHv r)) f n cells slots 38 [some (.ref v0), some (.int v1), none] [] := by
  have h : (if v1 = (110 : Int32) then mX6_readBack_b62 v0 v0 (10 : Int32) f n else (if v1 = (116 : Int32) then mX6_readBack_b62 v0 v0 (9 : Int32) f n else mX6_readBack_b62 v0 v0 v1 f n)) = some r := h
  refine aw_ald_n C dX6_readBack_38 rfl ?_
  refine aw_iload_n C dX6_readBack_39 rfl ?_
  refine aw_bipush C 110 dX6_readBack_40 kb_110 ?_
  refine aw_icmp_ne C 50 dX6_readBack_42 (by decide) (fun q => ?_) (fun q => ?_)
  · rw [if_neg q] at h
    refine aw_iload_n C dX6_readBack_50 rfl ?_
    refine aw_bipush C 116 dX6_readBack_51 kb_116 ?_
    refine aw_icmp_ne C 61 dX6_readBack_53 (by decide) (fun q => ?_) (fun q => ?_)
    · rw [if_neg q] at h
      refine aw_iload_n C dX6_readBack_61 rfl ?_
      refine aw_fl [some (.ref v0), none, none] ⟨rfl, trivial⟩ ?_
      exact rmX6_readBack_b62 C (by omega) (by omega) h
    · rw [if_pos q] at h
      refine aw_bipush C 9 dX6_readBack_56 kb_9 ?_
      refine aw_goto C 62 dX6_readBack_58 (by decide) ?_
      refine aw_fl [some (.ref v0), none, none] ⟨rfl, trivial⟩ ?_
      exact rmX6_readBack_b62 C (by omega) (by omega) h
  · rw [if_pos q] at h
    refine aw_bipush C 10 dX6_readBack_45 kb_10 ?_
    refine aw_goto C 62 dX6_readBack_47 (by decide) ?_
    refine aw_fl [some (.ref v0), none, none] ⟨rfl, trivial⟩ ?_
    exact rmX6_readBack_b62 C (by omega) (by omega) h
def mX6_readBack_b14 (v0 : Nat) (v1 : Int32) (s0 : Int32) (f : AH) (n : Nat) : Option (Int32 × HpN) := (if v1 = (110 : Int32) then mX6_readBack_b38 v0 v1 f n else (if v1 = (116 : Int32) then mX6_readBack_b38 v0 v1 f n else (if v1 = (92 : Int32) then mX6_readBack_b38 v0 v1 f n else (if v1 = s0 then mX6_readBack_b38 v0 v1 f n else mX6_readBack_b70 f n))))
set_option maxHeartbeats 1000000 in
theorem rmX6_readBack_b14 {X : GX} {p : Program} {l : Launch} {e : Env} {s : State} {m : MethodId} {args : Array Value} {below : List Frame} {meth : Method} {c : Code} {r : Int32 × HpN} {v0 : Nat} {v1 : Int32} {s0 : Int32} {f : AH} {n cells slots : Nat} (C : CC X p l (RM 0 0 0) s m args meth c RX6 cX6_readBack 3 none) (hc : cells + 0 ≤ 0) (hs : slots + 0 ≤ 0) (h : mX6_readBack_b14 v0 v1 s0 f n = some r) : AW X p l e (RM 0 0 0) s m args below meth c 3 (ZM X below args s 0 0 (QHv r)) f n cells slots 14 [some (.ref v0), some (.int v1), none] [.int s0] := by
  have h : (if v1 = (110 : Int32) then mX6_readBack_b38 v0 v1 f n else (if v1 = (116 : Int32) then mX6_readBack_b38 v0 v1 f n else (if v1 = (92 : Int32) then mX6_readBack_b38 v0 v1 f n else (if v1 = s0 then mX6_readBack_b38 v0 v1 f n else mX6_readBack_b70 f n)))) = some r := h
  refine aw_istore_n C dX6_readBack_14 (by decide) rfl ?_
  refine aw_nl [some (.ref v0), some (.int v1), some (.int s0)] rfl ?_
  refine aw_iload_n C dX6_readBack_15 rfl ?_
  refine aw_bipush C 110 dX6_readBack_16 kb_110 ?_
  refine aw_icmp_eq C 38 dX6_readBack_18 (by decide) (fun q => ?_) (fun q => ?_)
  · rw [if_pos q] at h
    refine aw_fl [some (.ref v0), some (.int v1), none] ⟨rfl, ⟨rfl, trivial⟩⟩ ?_
    exact rmX6_readBack_b38 C (by omega) (by omega) h
  · rw [if_neg q] at h
    refine aw_iload_n C dX6_readBack_21 rfl ?_
    refine aw_bipush C 116 dX6_readBack_22 kb_116 ?_
    refine aw_icmp_eq C 38 dX6_readBack_24 (by decide) (fun q => ?_) (fun q => ?_)
    · rw [if_pos q] at h
      refine aw_fl [some (.ref v0), some (.int v1), none] ⟨rfl, ⟨rfl, trivial⟩⟩ ?_
      exact rmX6_readBack_b38 C (by omega) (by omega) h
    · rw [if_neg q] at h
      refine aw_iload_n C dX6_readBack_27 rfl ?_
      refine aw_bipush C 92 dX6_readBack_28 kb_92 ?_
      refine aw_icmp_eq C 38 dX6_readBack_30 (by decide) (fun q => ?_) (fun q => ?_)
      · rw [if_pos q] at h
        refine aw_fl [some (.ref v0), some (.int v1), none] ⟨rfl, ⟨rfl, trivial⟩⟩ ?_
        exact rmX6_readBack_b38 C (by omega) (by omega) h
      · rw [if_neg q] at h
        refine aw_iload_n C dX6_readBack_33 rfl ?_
        refine aw_iload_n C dX6_readBack_34 rfl ?_
        refine aw_icmp_ne C 70 dX6_readBack_35 (by decide) (fun q => ?_) (fun q => ?_)
        · rw [if_neg q] at h
          refine aw_fl [none, none, none] trivial ?_
          exact rmX6_readBack_b70 C (by omega) (by omega) h
        · rw [if_pos q] at h
          refine aw_fl [some (.ref v0), some (.int v1), none] ⟨rfl, ⟨rfl, trivial⟩⟩ ?_
          exact rmX6_readBack_b38 C (by omega) (by omega) h
def mX6_readBack (v0 : Nat) (v1 : Int32) (f : AH) (n : Nat) : Option (Int32 × HpN) := ((gI f v0 6 8).bind fun x1 => (if x1 = (0 : Int32) then mX6_readBack_b14 v0 v1 (32 : Int32) f n else mX6_readBack_b14 v0 v1 (34 : Int32) f n))
set_option maxHeartbeats 1000000 in
theorem rmX6_readBack {X : GX} {l : Launch} {r : Int32 × HpN} {v0 : Nat} {v1 : Int32} {f : AH} {n : Nat} (h : mX6_readBack v0 v1 f n = some r) : AM X l yX6_readBack cX6_readBack 3 none 0 0 0 [.ref v0, .int v1] f n (QHv r) := by
  have h : ((gI f v0 6 8).bind fun x1 => (if x1 = (0 : Int32) then mX6_readBack_b14 v0 v1 (32 : Int32) f n else mX6_readBack_b14 v0 v1 (34 : Int32) f n)) = some r := h
  refine AM.of (by decide +kernel) rfl (Nat.le_of_ble_eq_true rfl) (fun p e s m args below meth c C hnm => ?_)
  refine aw_nl [some (.ref v0), some (.int v1), none] rfl ?_
  refine aw_ald_n C dX6_readBack_0 rfl ?_
  obtain ⟨x1, hx1, h⟩ := Option.bind_eq_some_iff.mp h
  refine ah_getI C gf_X6_20 hx1 dX6_readBack_1 ?_
  refine aw_if_ne C 12 dX6_readBack_4 (by decide) (fun q => ?_) (fun q => ?_)
  · rw [if_neg q] at h
    refine aw_bipush C 34 dX6_readBack_12 kb_34 ?_
    refine aw_fl [some (.ref v0), some (.int v1), none] ⟨rfl, ⟨rfl, trivial⟩⟩ ?_
    exact rmX6_readBack_b14 C (by omega) (by omega) h
  · rw [if_pos q] at h
    refine aw_bipush C 32 dX6_readBack_7 kb_32 ?_
    refine aw_goto C 14 dX6_readBack_9 (by decide) ?_
    refine aw_fl [some (.ref v0), some (.int v1), none] ⟨rfl, ⟨rfl, trivial⟩⟩ ?_
    exact rmX6_readBack_b14 C (by omega) (by omega) h
def mX6_read_b111 (f : AH) (n : Nat) : Option (Int32 × HpN) := some ((0 : Int32), (f, n))
set_option maxHeartbeats 1000000 in
theorem rmX6_read_b111 {X : GX} {p : Program} {l : Launch} {e : Env} {s : State} {m : MethodId} {args : Array Value} {below : List Frame} {meth : Method} {c : Code} {r : Int32 × HpN} {f : AH} {n cells slots : Nat} (C : CC X p l (RM 2 0 0) s m args meth c RX6 cX6_read 2 none) (hc : cells + 0 ≤ 0) (hs : slots + 0 ≤ 0) (h : mX6_read_b111 f n = some r) : AW X p l e (RM 2 0 0) s m args below meth c 2 (ZM X below args s 0 0 (QHv r)) f n cells slots 111 [none, none] [] := by
  have h : some ((0 : Int32), (f, n)) = some r := h
  cases h
  exact aw_vret C rfl dX6_read_111 (by omega) (by omega) ⟨rfl, rfl, rfl⟩
def mX6_read_b72 (s0 : Nat) (s1 : Int32) (f : AH) (n : Nat) : Option (Int32 × HpN) := ((pO f s0 6 7 (.int s1)).bind fun f1 => mX6_read_b111 f1 n)
set_option maxHeartbeats 1000000 in
theorem rmX6_read_b72 {X : GX} {p : Program} {l : Launch} {e : Env} {s : State} {m : MethodId} {args : Array Value} {below : List Frame} {meth : Method} {c : Code} {r : Int32 × HpN} {s0 : Nat} {s1 : Int32} {f : AH} {n cells slots : Nat} (C : CC X p l (RM 2 0 0) s m args meth c RX6 cX6_read 2 none) (hc : cells + 0 ≤ 0) (hs : slots + 0 ≤ 0) (h : mX6_read_b72 s0 s1 f n = some r) : AW X p l e (RM 2 0 0) s m args below meth c 2 (ZM X below args s 0 0 (QHv r)) f n cells slots 72 [none, none] [.int s1, .ref s0] := by
  have h : ((pO f s0 6 7 (.int s1)).bind fun f1 => mX6_read_b111 f1 n) = some r := h
  obtain ⟨f1, hf1, h⟩ := Option.bind_eq_some_iff.mp h
  refine ah_put C gf_X6_86 cf6 nf6_7 rfl rfl hf1 dX6_read_72 ?_
  refine aw_goto C 111 dX6_read_75 (by decide) ?_
  refine aw_fl [none, none] trivial ?_
  exact rmX6_read_b111 C (by omega) (by omega) h
def mX6_read_b71 (s0 : Nat) (f : AH) (n : Nat) : Option (Int32 × HpN) := mX6_read_b72 s0 (1 : Int32) f n
set_option maxHeartbeats 1000000 in
theorem rmX6_read_b71 {X : GX} {p : Program} {l : Launch} {e : Env} {s : State} {m : MethodId} {args : Array Value} {below : List Frame} {meth : Method} {c : Code} {r : Int32 × HpN} {s0 : Nat} {f : AH} {n cells slots : Nat} (C : CC X p l (RM 2 0 0) s m args meth c RX6 cX6_read 2 none) (hc : cells + 0 ≤ 0) (hs : slots + 0 ≤ 0) (h : mX6_read_b71 s0 f n = some r) : AW X p l e (RM 2 0 0) s m args below meth c 2 (ZM X below args s 0 0 (QHv r)) f n cells slots 71 [none, none] [.ref s0] := by
  have h : mX6_read_b72 s0 (1 : Int32) f n = some r := h
  refine aw_iconst C 1 dX6_read_71 ki_1 ?_
  refine aw_fl [none, none] trivial ?_
  exact rmX6_read_b72 C (by omega) (by omega) h
def mX6_read (v0 : Nat) (v1 : Int32) (f : AH) (n : Nat) : Option (Int32 × HpN) := ((gR f v0 6 0).bind fun x1 => ((x1).bind fun j2 => rCk (isO f j2 5) (((mX5_get j2 v1 f n).bind fun r4 => ((pO r4.2.1 v0 6 6 (.int r4.1)).bind fun f6 => ((pO f6 v0 6 7 (.int (1 : Int32))).bind fun f7 => ((gI f7 v0 6 8).bind fun x8 => (if x8 = (2 : Int32) then ((gI f7 v0 6 6).bind fun x22 => (if x22 = (38 : Int32) then rCk (isO f7 v0 6) (((mX6_readMarkup v0 v1 f7 r4.2.2).bind fun r24 => mX6_read_b111 r24.2.1 r24.2.2)) else mX6_read_b111 f7 r4.2.2)) else ((gI f7 v0 6 8).bind fun x9 => (if x9 = (1 : Int32) then ((gI f7 v0 6 3).bind fun x20 => (if x20 = (0 : Int32) then mX6_read_b71 v0 f7 r4.2.2 else ((gI f7 v0 6 6).bind fun x21 => (if x21 = (34 : Int32) then mX6_read_b72 v0 (2 : Int32) f7 r4.2.2 else mX6_read_b71 v0 f7 r4.2.2)))) else ((gI f7 v0 6 6).bind fun x10 => (if x10 = (92 : Int32) then ((gI f7 v0 6 2).bind fun x11 => (if x11 ≤ (v1 + (1 : Int32)) then mX6_read_b111 f7 r4.2.2 else ((gR f7 v0 6 0).bind fun x12 => ((x12).bind fun j13 => rCk (isO f7 j13 5) (((mX5_get j13 (v1 + (1 : Int32)) f7 r4.2.2).bind fun r15 => rCk (isO r15.2.1 v0 6) (((mX6_readBack v0 r15.1 r15.2.1 r15.2.2).bind fun r18 => mX6_read_b111 r18.2.1 r18.2.2)))))))) else mX6_read_b111 f7 r4.2.2))))))))))))
set_option maxHeartbeats 1000000 in
theorem rmX6_read {X : GX} {l : Launch} {r : Int32 × HpN} {v0 : Nat} {v1 : Int32} {f : AH} {n : Nat} (h : mX6_read v0 v1 f n = some r) : AM X l yX6_read cX6_read 2 none 2 0 0 [.ref v0, .int v1] f n (QHv r) := by
  have h : ((gR f v0 6 0).bind fun x1 => ((x1).bind fun j2 => rCk (isO f j2 5) (((mX5_get j2 v1 f n).bind fun r4 => ((pO r4.2.1 v0 6 6 (.int r4.1)).bind fun f6 => ((pO f6 v0 6 7 (.int (1 : Int32))).bind fun f7 => ((gI f7 v0 6 8).bind fun x8 => (if x8 = (2 : Int32) then ((gI f7 v0 6 6).bind fun x22 => (if x22 = (38 : Int32) then rCk (isO f7 v0 6) (((mX6_readMarkup v0 v1 f7 r4.2.2).bind fun r24 => mX6_read_b111 r24.2.1 r24.2.2)) else mX6_read_b111 f7 r4.2.2)) else ((gI f7 v0 6 8).bind fun x9 => (if x9 = (1 : Int32) then ((gI f7 v0 6 3).bind fun x20 => (if x20 = (0 : Int32) then mX6_read_b71 v0 f7 r4.2.2 else ((gI f7 v0 6 6).bind fun x21 => (if x21 = (34 : Int32) then mX6_read_b72 v0 (2 : Int32) f7 r4.2.2 else mX6_read_b71 v0 f7 r4.2.2)))) else ((gI f7 v0 6 6).bind fun x10 => (if x10 = (92 : Int32) then ((gI f7 v0 6 2).bind fun x11 => (if x11 ≤ (v1 + (1 : Int32)) then mX6_read_b111 f7 r4.2.2 else ((gR f7 v0 6 0).bind fun x12 => ((x12).bind fun j13 => rCk (isO f7 j13 5) (((mX5_get j13 (v1 + (1 : Int32)) f7 r4.2.2).bind fun r15 => rCk (isO r15.2.1 v0 6) (((mX6_readBack v0 r15.1 r15.2.1 r15.2.2).bind fun r18 => mX6_read_b111 r18.2.1 r18.2.2)))))))) else mX6_read_b111 f7 r4.2.2)))))))))))) = some r := h
  refine AM.of (by decide +kernel) rfl (Nat.le_of_ble_eq_true rfl) (fun p e s m args below meth c C hnm => ?_)
  refine aw_nl [some (.ref v0), some (.int v1)] rfl ?_
  refine aw_ald_n C dX6_read_0 rfl ?_
  refine aw_ald_n C dX6_read_1 rfl ?_
  obtain ⟨x1, hx1, h⟩ := Option.bind_eq_some_iff.mp h
  refine ah_getR C gf_X6_14 hx1 dX6_read_2 ?_
  refine aw_iload_n C dX6_read_5 rfl ?_
  obtain ⟨j2, hj2, h⟩ := Option.bind_eq_some_iff.mp h
  rw [hj2]
  obtain ⟨hb3, h⟩ := ck_some h
  obtain ⟨r4, hr4, h⟩ := Option.bind_eq_some_iff.mp h
  obtain ⟨fs5, hf5⟩ := isO_ex hb3
  refine aw_callV C (ci := 5) (b := j2) [.int v1] mv_X6_67 rfl rfl hf5 (rmX5_get hr4) rfl dX6_read_6 (Nat.le_of_ble_eq_true rfl) (Nat.le_of_ble_eq_true rfl) rfl (Nat.le_of_ble_eq_true rfl) (show 0 + 0 ≤ 0 by omega) (show 0 + 0 ≤ 0 by omega) (fun v9 f9 n9 hh => ?_)
  obtain ⟨rfl, rfl, rfl⟩ := hh
  obtain ⟨f6, hf6, h⟩ := Option.bind_eq_some_iff.mp h
  refine ah_put C gf_X6_83 cf6 nf6_6 rfl rfl hf6 dX6_read_9 ?_
  refine aw_ald_n C dX6_read_12 rfl ?_
  refine aw_iconst C 1 dX6_read_13 ki_1 ?_
  obtain ⟨f7, hf7, h⟩ := Option.bind_eq_some_iff.mp h
  refine ah_put C gf_X6_86 cf6 nf6_7 rfl rfl hf7 dX6_read_14 ?_
  refine aw_ald_n C dX6_read_17 rfl ?_
  obtain ⟨x8, hx8, h⟩ := Option.bind_eq_some_iff.mp h
  refine ah_getI C gf_X6_20 hx8 dX6_read_18 ?_
  refine aw_iconst C 2 dX6_read_21 ki_2 ?_
  refine aw_icmp_ne C 42 dX6_read_22 (by decide) (fun q => ?_) (fun q => ?_)
  · rw [if_neg q] at h
    refine aw_ald_n C dX6_read_42 rfl ?_
    obtain ⟨x9, hx9, h⟩ := Option.bind_eq_some_iff.mp h
    refine ah_getI C gf_X6_20 hx9 dX6_read_43 ?_
    refine aw_iconst C 1 dX6_read_46 ki_1 ?_
    refine aw_icmp_ne C 78 dX6_read_47 (by decide) (fun q => ?_) (fun q => ?_)
    · rw [if_neg q] at h
      refine aw_ald_n C dX6_read_78 rfl ?_
      obtain ⟨x10, hx10, h⟩ := Option.bind_eq_some_iff.mp h
      refine ah_getI C gf_X6_83 hx10 dX6_read_79 ?_
      refine aw_bipush C 92 dX6_read_82 kb_92 ?_
      refine aw_icmp_ne C 111 dX6_read_84 (by decide) (fun q => ?_) (fun q => ?_)
      · rw [if_neg q] at h
        refine aw_fl [none, none] trivial ?_
        exact rmX6_read_b111 C (by omega) (by omega) h
      · rw [if_pos q] at h
        refine aw_iload_n C dX6_read_87 rfl ?_
        refine aw_iconst C 1 dX6_read_88 ki_1 ?_
        refine aw_iadd C dX6_read_89 ?_
        refine aw_ald_n C dX6_read_90 rfl ?_
        obtain ⟨x11, hx11, h⟩ := Option.bind_eq_some_iff.mp h
        refine ah_getI C gf_X6_56 hx11 dX6_read_91 ?_
        refine aw_icmp_ge C 111 dX6_read_94 (by decide) (fun q => ?_) (fun q => ?_)
        · rw [if_pos q] at h
          refine aw_fl [none, none] trivial ?_
          exact rmX6_read_b111 C (by omega) (by omega) h
        · rw [if_neg q] at h
          refine aw_ald_n C dX6_read_97 rfl ?_
          refine aw_ald_n C dX6_read_98 rfl ?_
          obtain ⟨x12, hx12, h⟩ := Option.bind_eq_some_iff.mp h
          refine ah_getR C gf_X6_14 hx12 dX6_read_99 ?_
          refine aw_iload_n C dX6_read_102 rfl ?_
          refine aw_iconst C 1 dX6_read_103 ki_1 ?_
          refine aw_iadd C dX6_read_104 ?_
          obtain ⟨j13, hj13, h⟩ := Option.bind_eq_some_iff.mp h
          rw [hj13]
          obtain ⟨hb14, h⟩ := ck_some h
          obtain ⟨r15, hr15, h⟩ := Option.bind_eq_some_iff.mp h
          obtain ⟨fs16, hf16⟩ := isO_ex hb14
          refine aw_callV C (ci := 5) (b := j13) [.int (v1 + (1 : Int32))] mv_X6_67 rfl rfl hf16 (rmX5_get hr15) rfl dX6_read_105 (Nat.le_of_ble_eq_true rfl) (Nat.le_of_ble_eq_true rfl) rfl (Nat.le_of_ble_eq_true rfl) (show (0 + 0) + 0 ≤ 0 by omega) (show (0 + 0) + 0 ≤ 0 by omega) (fun v9 f9 n9 hh => ?_)
          obtain ⟨rfl, rfl, rfl⟩ := hh
          obtain ⟨hb17, h⟩ := ck_some h
          obtain ⟨r18, hr18, h⟩ := Option.bind_eq_some_iff.mp h
          obtain ⟨fs19, hf19⟩ := isO_ex hb17
          refine aw_callV C (ci := 6) (b := v0) [.int r15.1] mv_X6_92 rfl rfl hf19 (rmX6_readBack hr18) rfl dX6_read_108 (Nat.le_of_ble_eq_true rfl) (Nat.le_of_ble_eq_true rfl) rfl (Nat.le_of_ble_eq_true rfl) (show ((0 + 0) + 0) + 0 ≤ 0 by omega) (show ((0 + 0) + 0) + 0 ≤ 0 by omega) (fun v9 f9 n9 hh => ?_)
          obtain ⟨rfl, rfl, rfl⟩ := hh
          refine aw_fl [none, none] trivial ?_
          exact rmX6_read_b111 C (by omega) (by omega) h
    · rw [if_pos q] at h
      refine aw_ald_n C dX6_read_50 rfl ?_
      refine aw_ald_n C dX6_read_51 rfl ?_
      obtain ⟨x20, hx20, h⟩ := Option.bind_eq_some_iff.mp h
      refine ah_getI C gf_X6_27 hx20 dX6_read_52 ?_
      refine aw_if_eq C 71 dX6_read_55 (by decide) (fun q => ?_) (fun q => ?_)
      · rw [if_pos q] at h
        refine aw_fl [none, none] trivial ?_
        exact rmX6_read_b71 C (by omega) (by omega) h
      · rw [if_neg q] at h
        refine aw_ald_n C dX6_read_58 rfl ?_
        obtain ⟨x21, hx21, h⟩ := Option.bind_eq_some_iff.mp h
        refine ah_getI C gf_X6_83 hx21 dX6_read_59 ?_
        refine aw_bipush C 34 dX6_read_62 kb_34 ?_
        refine aw_icmp_ne C 71 dX6_read_64 (by decide) (fun q => ?_) (fun q => ?_)
        · rw [if_neg q] at h
          refine aw_fl [none, none] trivial ?_
          exact rmX6_read_b71 C (by omega) (by omega) h
        · rw [if_pos q] at h
          refine aw_iconst C 2 dX6_read_67 ki_2 ?_
          refine aw_goto C 72 dX6_read_68 (by decide) ?_
          refine aw_fl [none, none] trivial ?_
          exact rmX6_read_b72 C (by omega) (by omega) h
  · rw [if_pos q] at h
    refine aw_ald_n C dX6_read_25 rfl ?_
    obtain ⟨x22, hx22, h⟩ := Option.bind_eq_some_iff.mp h
    refine ah_getI C gf_X6_83 hx22 dX6_read_26 ?_
    refine aw_bipush C 38 dX6_read_29 kb_38 ?_
    refine aw_icmp_ne C 111 dX6_read_31 (by decide) (fun q => ?_) (fun q => ?_)
    · rw [if_neg q] at h
      refine aw_fl [none, none] trivial ?_
      exact rmX6_read_b111 C (by omega) (by omega) h
    · rw [if_pos q] at h
      refine aw_ald_n C dX6_read_34 rfl ?_
      refine aw_iload_n C dX6_read_35 rfl ?_
      obtain ⟨hb23, h⟩ := ck_some h
      obtain ⟨r24, hr24, h⟩ := Option.bind_eq_some_iff.mp h
      obtain ⟨fs25, hf25⟩ := isO_ex hb23
      refine aw_callV C (ci := 6) (b := v0) [.int v1] mv_X6_89 rfl rfl hf25 (rmX6_readMarkup hr24) rfl dX6_read_36 (Nat.le_of_ble_eq_true rfl) (Nat.le_of_ble_eq_true rfl) rfl (Nat.le_of_ble_eq_true rfl) (show (0 + 0) + 0 ≤ 0 by omega) (show (0 + 0) + 0 ≤ 0 by omega) (fun v9 f9 n9 hh => ?_)
      obtain ⟨rfl, rfl, rfl⟩ := hh
      refine aw_goto C 111 dX6_read_39 (by decide) ?_
      refine aw_fl [none, none] trivial ?_
      exact rmX6_read_b111 C (by omega) (by omega) h
def mX1_readOuter_l8 : Nat → Nat → (Option Nat) → (Option Nat) → Int32 → AH → Nat → Option (Int32 × HpN)
  | 0, _, _, _, _, _, _ => none
  | d + 1, v0, v1, v2, v3, f, n => ((gR f v0 1 4).bind fun x1 => ((x1).bind fun j2 => ((gI f j2 6 2).bind fun x3 => (if x3 ≤ v3 then some ((0 : Int32), (f, n)) else ((gR f v0 1 4).bind fun x4 => ((x4).bind fun j5 => rCk (isO f j5 6) (((mX6_read j5 v3 f n).bind fun r7 => ((gR r7.2.1 v0 1 4).bind fun x9 => ((x9).bind fun j10 => ((gI r7.2.1 j10 6 6).bind fun x11 => ((v1).bind fun j12 => rCk (isO r7.2.1 j12 5) (((mX5_add j12 x11 r7.2.1 r7.2.2).bind fun r14 => ((v2).bind fun j16 => rCk (isO r14.2.1 j16 5) (((mX5_add j16 v3 r14.2.1 r14.2.2).bind fun r18 => ((gR r18.2.1 v0 1 4).bind fun x20 => ((x20).bind fun j21 => ((gI r18.2.1 j21 6 7).bind fun x22 => mX1_readOuter_l8 d v0 (some j12) (some j16) (v3 + (jMax (1 : Int32) x22)) r18.2.1 r18.2.2))))))))))))))))))))
set_option maxHeartbeats 1000000 in
theorem rmX1_readOuter_l8 {X : GX} {p : Program} {l : Launch} {e : Env} {s : State} {m : MethodId} {args : Array Value} {below : List Frame} {meth : Method} {c : Code} {r : Int32 × HpN} (C : CC X p l (RM 3 0 0) s m args meth c RX1 cX1_readOuter 4 none) : ∀ (d : Nat) (v0 : Nat) (v1 : Option Nat) (v2 : Option Nat) (v3 : Int32) (f : AH) (n cells slots : Nat) (_ : cells + 0 ≤ 0) (_ : slots + 0 ≤ 0) (_ : mX1_readOuter_l8 d v0 v1 v2 v3 f n = some r), AW X p l e (RM 3 0 0) s m args below meth c 4 (ZM X below args s 0 0 (QHv r)) f n cells slots 8 [some (.ref v0), some (va_rf v1), some (va_rf v2), some (.int v3)] [] := by
  intro d
  induction d with
  | zero =>
    intro v0 v1 v2 v3 f n cells slots hc hs h
    exact nomatch (show (none : Option (Int32 × HpN)) = some r from h)
  | succ d ih =>
    intro v0 v1 v2 v3 f n cells slots hc hs h
    have h : ((gR f v0 1 4).bind fun x1 => ((x1).bind fun j2 => ((gI f j2 6 2).bind fun x3 => (if x3 ≤ v3 then some ((0 : Int32), (f, n)) else ((gR f v0 1 4).bind fun x4 => ((x4).bind fun j5 => rCk (isO f j5 6) (((mX6_read j5 v3 f n).bind fun r7 => ((gR r7.2.1 v0 1 4).bind fun x9 => ((x9).bind fun j10 => ((gI r7.2.1 j10 6 6).bind fun x11 => ((v1).bind fun j12 => rCk (isO r7.2.1 j12 5) (((mX5_add j12 x11 r7.2.1 r7.2.2).bind fun r14 => ((v2).bind fun j16 => rCk (isO r14.2.1 j16 5) (((mX5_add j16 v3 r14.2.1 r14.2.2).bind fun r18 => ((gR r18.2.1 v0 1 4).bind fun x20 => ((x20).bind fun j21 => ((gI r18.2.1 j21 6 7).bind fun x22 => mX1_readOuter_l8 d v0 (some j12) (some j16) (v3 + (jMax (1 : Int32) x22)) r18.2.1 r18.2.2)))))))))))))))))))) = some r := h
    refine aw_iload_n C dX1_readOuter_8 rfl ?_
    refine aw_ald_n C dX1_readOuter_9 rfl ?_
    obtain ⟨x1, hx1, h⟩ := Option.bind_eq_some_iff.mp h
    refine ah_getR C gf_X1_32 hx1 dX1_readOuter_10 ?_
    obtain ⟨j2, hj2, h⟩ := Option.bind_eq_some_iff.mp h
    rw [hj2]
    obtain ⟨x3, hx3, h⟩ := Option.bind_eq_some_iff.mp h
    refine ah_getI C gf_X1_84 hx3 dX1_readOuter_13 ?_
    refine aw_icmp_ge C 62 dX1_readOuter_16 (by decide) (fun q => ?_) (fun q => ?_)
    · rw [if_pos q] at h
      cases h
      exact aw_vret C rfl dX1_readOuter_62 (by omega) (by omega) ⟨rfl, rfl, rfl⟩
    · rw [if_neg q] at h
      refine aw_ald_n C dX1_readOuter_19 rfl ?_
      obtain ⟨x4, hx4, h⟩ := Option.bind_eq_some_iff.mp h
      refine ah_getR C gf_X1_32 hx4 dX1_readOuter_20 ?_
      refine aw_iload_n C dX1_readOuter_23 rfl ?_
      obtain ⟨j5, hj5, h⟩ := Option.bind_eq_some_iff.mp h
      rw [hj5]
      obtain ⟨hb6, h⟩ := ck_some h
      obtain ⟨r7, hr7, h⟩ := Option.bind_eq_some_iff.mp h
      obtain ⟨fs8, hf8⟩ := isO_ex hb6
      refine aw_callV C (ci := 6) (b := j5) [.int v3] mv_X1_95 rfl rfl hf8 (rmX6_read hr7) rfl dX1_readOuter_24 (Nat.le_of_ble_eq_true rfl) (Nat.le_of_ble_eq_true rfl) rfl (Nat.le_of_ble_eq_true rfl) (show cells + 0 ≤ 0 by omega) (show slots + 0 ≤ 0 by omega) (fun v9 f9 n9 hh => ?_)
      obtain ⟨rfl, rfl, rfl⟩ := hh
      refine aw_aload_n C dX1_readOuter_27 rfl (rf_or v1) ?_
      refine aw_ald_n C dX1_readOuter_28 rfl ?_
      obtain ⟨x9, hx9, h⟩ := Option.bind_eq_some_iff.mp h
      refine ah_getR C gf_X1_32 hx9 dX1_readOuter_29 ?_
      obtain ⟨j10, hj10, h⟩ := Option.bind_eq_some_iff.mp h
      rw [hj10]
      obtain ⟨x11, hx11, h⟩ := Option.bind_eq_some_iff.mp h
      refine ah_getI C gf_X1_98 hx11 dX1_readOuter_32 ?_
      obtain ⟨j12, hj12, h⟩ := Option.bind_eq_some_iff.mp h
      rw [hj12]
      obtain ⟨hb13, h⟩ := ck_some h
      obtain ⟨r14, hr14, h⟩ := Option.bind_eq_some_iff.mp h
      obtain ⟨fs15, hf15⟩ := isO_ex hb13
      refine aw_callV C (ci := 5) (b := j12) [.int x11] mv_X1_101 rfl rfl hf15 (rmX5_add hr14) rfl dX1_readOuter_35 (Nat.le_of_ble_eq_true rfl) (Nat.le_of_ble_eq_true rfl) rfl (Nat.le_of_ble_eq_true rfl) (show (cells + 0) + 0 ≤ 0 by omega) (show (slots + 0) + 0 ≤ 0 by omega) (fun v9 f9 n9 hh => ?_)
      obtain ⟨rfl, rfl, rfl⟩ := hh
      refine aw_pop C dX1_readOuter_38 rfl ?_
      refine aw_aload_n C dX1_readOuter_39 rfl (rf_or v2) ?_
      refine aw_iload_n C dX1_readOuter_40 rfl ?_
      obtain ⟨j16, hj16, h⟩ := Option.bind_eq_some_iff.mp h
      rw [hj16]
      obtain ⟨hb17, h⟩ := ck_some h
      obtain ⟨r18, hr18, h⟩ := Option.bind_eq_some_iff.mp h
      obtain ⟨fs19, hf19⟩ := isO_ex hb17
      refine aw_callV C (ci := 5) (b := j16) [.int v3] mv_X1_101 rfl rfl hf19 (rmX5_add hr18) rfl dX1_readOuter_41 (Nat.le_of_ble_eq_true rfl) (Nat.le_of_ble_eq_true rfl) rfl (Nat.le_of_ble_eq_true rfl) (show ((cells + 0) + 0) + 0 ≤ 0 by omega) (show ((slots + 0) + 0) + 0 ≤ 0 by omega) (fun v9 f9 n9 hh => ?_)
      obtain ⟨rfl, rfl, rfl⟩ := hh
      refine aw_pop C dX1_readOuter_44 rfl ?_
      refine aw_iload_n C dX1_readOuter_45 rfl ?_
      refine aw_iconst C 1 dX1_readOuter_46 ki_1 ?_
      refine aw_ald_n C dX1_readOuter_47 rfl ?_
      obtain ⟨x20, hx20, h⟩ := Option.bind_eq_some_iff.mp h
      refine ah_getR C gf_X1_32 hx20 dX1_readOuter_48 ?_
      obtain ⟨j21, hj21, h⟩ := Option.bind_eq_some_iff.mp h
      rw [hj21]
      obtain ⟨x22, hx22, h⟩ := Option.bind_eq_some_iff.mp h
      refine ah_getI C gf_X1_105 hx22 dX1_readOuter_51 ?_
      refine ah_jMax C ms_X1_108 dX1_readOuter_54 (Nat.le_of_ble_eq_true rfl) (Nat.le_of_ble_eq_true rfl) (Nat.le_of_ble_eq_true rfl) (show _ + 0 ≤ 0 by omega) (show _ + 0 ≤ 0 by omega) ?_
      refine aw_iadd C dX1_readOuter_57 ?_
      refine aw_istore_n C dX1_readOuter_58 (by decide) rfl ?_
      refine aw_nl [some (.ref v0), some (.ref j12), some (.ref j16), some (.int (v3 + (jMax (1 : Int32) x22)))] rfl ?_
      refine aw_goto C 8 dX1_readOuter_59 (by decide) ?_
      refine aw_fl [some (.ref v0), some (va_rf (some j12)), some (va_rf (some j16)), some (.int (v3 + (jMax (1 : Int32) x22)))] ⟨rfl, ⟨rfl, ⟨rfl, ⟨rfl, trivial⟩⟩⟩⟩ ?_
      exact ih v0 (some j12) (some j16) (v3 + (jMax (1 : Int32) x22)) r18.2.1 r18.2.2 _ _ (by omega) (by omega) h
def mX1_readOuter (v0 : Nat) (v1 : Option Nat) (v2 : Option Nat) (f : AH) (n : Nat) : Option (Int32 × HpN) := ((gR f v0 1 4).bind fun x1 => ((x1).bind fun j2 => ((gI f j2 6 1).bind fun x3 => mX1_readOuter_l8 rFU v0 v1 v2 x3 f n)))
set_option maxHeartbeats 1000000 in
theorem rmX1_readOuter {X : GX} {l : Launch} {r : Int32 × HpN} {v0 : Nat} {v1 : Option Nat} {v2 : Option Nat} {f : AH} {n : Nat} (h : mX1_readOuter v0 v1 v2 f n = some r) : AM X l yX1_readOuter cX1_readOuter 4 none 3 0 0 [.ref v0, va_rf v1, va_rf v2] f n (QHv r) := by
  have h : ((gR f v0 1 4).bind fun x1 => ((x1).bind fun j2 => ((gI f j2 6 1).bind fun x3 => mX1_readOuter_l8 rFU v0 v1 v2 x3 f n))) = some r := h
  refine AM.of (by decide +kernel) (all1 rfl (all1 (rf_cat _) (all1 (rf_cat _) rfl))) (Nat.le_of_ble_eq_true rfl) (fun p e s m args below meth c C hnm => ?_)
  refine aw_nl [some (.ref v0), some (va_rf v1), some (va_rf v2), none] rfl ?_
  refine aw_ald_n C dX1_readOuter_0 rfl ?_
  obtain ⟨x1, hx1, h⟩ := Option.bind_eq_some_iff.mp h
  refine ah_getR C gf_X1_32 hx1 dX1_readOuter_1 ?_
  obtain ⟨j2, hj2, h⟩ := Option.bind_eq_some_iff.mp h
  rw [hj2]
  obtain ⟨x3, hx3, h⟩ := Option.bind_eq_some_iff.mp h
  refine ah_getI C gf_X1_81 hx3 dX1_readOuter_4 ?_
  refine aw_istore_n C dX1_readOuter_7 (by decide) (ok_rf 2 rfl) ?_
  refine aw_nl [some (.ref v0), some (va_rf v1), some (va_rf v2), some (.int x3)] rfl ?_
  refine aw_fl [some (.ref v0), some (va_rf v1), some (va_rf v2), some (.int x3)] ⟨rfl, ⟨rfl, ⟨rfl, ⟨rfl, trivial⟩⟩⟩⟩ ?_
  exact rmX1_readOuter_l8 C rFU v0 v1 v2 x3 f n _ _ (by omega) (by omega) h
def mX8_isLetter_b29 (s0 : Int32) (f : AH) (n : Nat) : Option (Int32 × HpN) := rCk (rNb s0) (some (s0, (f, n)))
set_option maxHeartbeats 1000000 in
theorem rmX8_isLetter_b29 {X : GX} {p : Program} {l : Launch} {e : Env} {s : State} {m : MethodId} {args : Array Value} {below : List Frame} {meth : Method} {c : Code} {r : Int32 × HpN} {s0 : Int32} {f : AH} {n cells slots : Nat} (C : CC X p l (RM 0 0 0) s m args meth c RX8 cX8_isLetter 1 (some .boolean)) (hc : cells + 0 ≤ 0) (hs : slots + 0 ≤ 0) (h : mX8_isLetter_b29 s0 f n = some r) : AW X p l e (RM 0 0 0) s m args below meth c 1 (ZM X below args s 0 0 (QHi r)) f n cells slots 29 [none] [.int s0] := by
  have h : rCk (rNb s0) (some (s0, (f, n))) = some r := h
  obtain ⟨hb1, h⟩ := ck_some h
  cases h
  exact aw_iret C rfl (nb_nar hb1) dX8_isLetter_29 (by omega) (by omega) ⟨rfl, rfl, rfl⟩
def mX8_isLetter_b28 (f : AH) (n : Nat) : Option (Int32 × HpN) := mX8_isLetter_b29 (0 : Int32) f n
set_option maxHeartbeats 1000000 in
theorem rmX8_isLetter_b28 {X : GX} {p : Program} {l : Launch} {e : Env} {s : State} {m : MethodId} {args : Array Value} {below : List Frame} {meth : Method} {c : Code} {r : Int32 × HpN} {f : AH} {n cells slots : Nat} (C : CC X p l (RM 0 0 0) s m args meth c RX8 cX8_isLetter 1 (some .boolean)) (hc : cells + 0 ≤ 0) (hs : slots + 0 ≤ 0) (h : mX8_isLetter_b28 f n = some r) : AW X p l e (RM 0 0 0) s m args below meth c 1 (ZM X below args s 0 0 (QHi r)) f n cells slots 28 [none] [] := by
  have h : mX8_isLetter_b29 (0 : Int32) f n = some r := h
  refine aw_iconst C 0 dX8_isLetter_28 ki_0 ?_
  refine aw_fl [none] trivial ?_
  exact rmX8_isLetter_b29 C (by omega) (by omega) h
def mX8_isLetter_b24 (f : AH) (n : Nat) : Option (Int32 × HpN) := mX8_isLetter_b29 (1 : Int32) f n
set_option maxHeartbeats 1000000 in
theorem rmX8_isLetter_b24 {X : GX} {p : Program} {l : Launch} {e : Env} {s : State} {m : MethodId} {args : Array Value} {below : List Frame} {meth : Method} {c : Code} {r : Int32 × HpN} {f : AH} {n cells slots : Nat} (C : CC X p l (RM 0 0 0) s m args meth c RX8 cX8_isLetter 1 (some .boolean)) (hc : cells + 0 ≤ 0) (hs : slots + 0 ≤ 0) (h : mX8_isLetter_b24 f n = some r) : AW X p l e (RM 0 0 0) s m args below meth c 1 (ZM X below args s 0 0 (QHi r)) f n cells slots 24 [none] [] := by
  have h : mX8_isLetter_b29 (1 : Int32) f n = some r := h
  refine aw_iconst C 1 dX8_isLetter_24 ki_1 ?_
  refine aw_goto C 29 dX8_isLetter_25 (by decide) ?_
  refine aw_fl [none] trivial ?_
  exact rmX8_isLetter_b29 C (by omega) (by omega) h
def mX8_isLetter_b12 (v0 : Int32) (f : AH) (n : Nat) : Option (Int32 × HpN) := (if v0 < (65 : Int32) then mX8_isLetter_b28 f n else (if (90 : Int32) < v0 then mX8_isLetter_b28 f n else mX8_isLetter_b24 f n))
set_option maxHeartbeats 1000000 in
theorem rmX8_isLetter_b12 {X : GX} {p : Program} {l : Launch} {e : Env} {s : State} {m : MethodId} {args : Array Value} {below : List Frame} {meth : Method} {c : Code} {r : Int32 × HpN} {v0 : Int32} {f : AH} {n cells slots : Nat} (C : CC X p l (RM 0 0 0) s m args meth c RX8 cX8_isLetter 1 (some .boolean)) (hc : cells + 0 ≤ 0) (hs : slots + 0 ≤ 0) (h : mX8_isLetter_b12 v0 f n = some r) : AW X p l e (RM 0 0 0) s m args below meth c 1 (ZM X below args s 0 0 (QHi r)) f n cells slots 12 [some (.int v0)] [] := by
  have h : (if v0 < (65 : Int32) then mX8_isLetter_b28 f n else (if (90 : Int32) < v0 then mX8_isLetter_b28 f n else mX8_isLetter_b24 f n)) = some r := h
  refine aw_iload_n C dX8_isLetter_12 rfl ?_
  refine aw_bipush C 65 dX8_isLetter_13 kb_65 ?_
  refine aw_icmp_lt C 28 dX8_isLetter_15 (by decide) (fun q => ?_) (fun q => ?_)
  · rw [if_pos q] at h
    refine aw_fl [none] trivial ?_
    exact rmX8_isLetter_b28 C (by omega) (by omega) h
  · rw [if_neg q] at h
    refine aw_iload_n C dX8_isLetter_18 rfl ?_
    refine aw_bipush C 90 dX8_isLetter_19 kb_90 ?_
    refine aw_icmp_gt C 28 dX8_isLetter_21 (by decide) (fun q => ?_) (fun q => ?_)
    · rw [if_pos q] at h
      refine aw_fl [none] trivial ?_
      exact rmX8_isLetter_b28 C (by omega) (by omega) h
    · rw [if_neg q] at h
      refine aw_fl [none] trivial ?_
      exact rmX8_isLetter_b24 C (by omega) (by omega) h
def mX8_isLetter (v0 : Int32) (f : AH) (n : Nat) : Option (Int32 × HpN) := (if v0 < (97 : Int32) then mX8_isLetter_b12 v0 f n else (if v0 ≤ (122 : Int32) then mX8_isLetter_b24 f n else mX8_isLetter_b12 v0 f n))
set_option maxHeartbeats 1000000 in
theorem rmX8_isLetter {X : GX} {l : Launch} {r : Int32 × HpN} {v0 : Int32} {f : AH} {n : Nat} (h : mX8_isLetter v0 f n = some r) : AM X l yX8_isLetter cX8_isLetter 1 (some .boolean) 0 0 0 [.int v0] f n (QHi r) := by
  have h : (if v0 < (97 : Int32) then mX8_isLetter_b12 v0 f n else (if v0 ≤ (122 : Int32) then mX8_isLetter_b24 f n else mX8_isLetter_b12 v0 f n)) = some r := h
  refine AM.of (by decide +kernel) rfl (Nat.le_of_ble_eq_true rfl) (fun p e s m args below meth c C hnm => ?_)
  refine aw_nl [some (.int v0)] rfl ?_
  refine aw_iload_n C dX8_isLetter_0 rfl ?_
  refine aw_bipush C 97 dX8_isLetter_1 kb_97 ?_
  refine aw_icmp_lt C 12 dX8_isLetter_3 (by decide) (fun q => ?_) (fun q => ?_)
  · rw [if_pos q] at h
    refine aw_fl [some (.int v0)] ⟨rfl, trivial⟩ ?_
    exact rmX8_isLetter_b12 C (by omega) (by omega) h
  · rw [if_neg q] at h
    refine aw_iload_n C dX8_isLetter_6 rfl ?_
    refine aw_bipush C 122 dX8_isLetter_7 kb_122 ?_
    refine aw_icmp_le C 24 dX8_isLetter_9 (by decide) (fun q => ?_) (fun q => ?_)
    · rw [if_pos q] at h
      refine aw_fl [none] trivial ?_
      exact rmX8_isLetter_b24 C (by omega) (by omega) h
    · rw [if_neg q] at h
      refine aw_fl [some (.int v0)] ⟨rfl, trivial⟩ ?_
      exact rmX8_isLetter_b12 C (by omega) (by omega) h
end
/-! part 32ae.cls -/
section
def mX5_hasLetter_l2 : Nat → Nat → Int32 → AH → Nat → Option (Int32 × HpN)
  | 0, _, _, _, _ => none
  | d + 1, v0, v2, f, n => ((gI f v0 5 1).bind fun x1 => (if x1 ≤ v2 then rCk (rNb (0 : Int32)) (some ((0 : Int32), (f, n))) else rCk (isO f v0 5) (((mX5_get v0 v2 f n).bind fun r4 => ((mX8_isLetter r4.1 r4.2.1 r4.2.2).bind fun r6 => (if r6.1 = (0 : Int32) then mX5_hasLetter_l2 d v0 (v2 + (1 : Int32)) r6.2.1 r6.2.2 else rCk (rNb (1 : Int32)) (some ((1 : Int32), (r6.2.1, r6.2.2)))))))))
set_option maxHeartbeats 1000000 in
theorem rmX5_hasLetter_l2 {X : GX} {p : Program} {l : Launch} {e : Env} {s : State} {m : MethodId} {args : Array Value} {below : List Frame} {meth : Method} {c : Code} {r : Int32 × HpN} (C : CC X p l (RM 1 0 0) s m args meth c RX5 cX5_hasLetter 3 (some .boolean)) : ∀ (d : Nat) (v0 : Nat) (v2 : Int32) (f : AH) (n cells slots : Nat) (_ : cells + 0 ≤ 0) (_ : slots + 0 ≤ 0) (_ : mX5_hasLetter_l2 d v0 v2 f n = some r), AW X p l e (RM 1 0 0) s m args below meth c 3 (ZM X below args s 0 0 (QHi r)) f n cells slots 2 [some (.ref v0), none, some (.int v2)] [] := by
  intro d
  induction d with
  | zero =>
    intro v0 v2 f n cells slots hc hs h
    exact nomatch (show (none : Option (Int32 × HpN)) = some r from h)
  | succ d ih =>
    intro v0 v2 f n cells slots hc hs h
    have h : ((gI f v0 5 1).bind fun x1 => (if x1 ≤ v2 then rCk (rNb (0 : Int32)) (some ((0 : Int32), (f, n))) else rCk (isO f v0 5) (((mX5_get v0 v2 f n).bind fun r4 => ((mX8_isLetter r4.1 r4.2.1 r4.2.2).bind fun r6 => (if r6.1 = (0 : Int32) then mX5_hasLetter_l2 d v0 (v2 + (1 : Int32)) r6.2.1 r6.2.2 else rCk (rNb (1 : Int32)) (some ((1 : Int32), (r6.2.1, r6.2.2))))))))) = some r := h
    refine aw_iload_n C dX5_hasLetter_2 rfl ?_
    refine aw_ald_n C dX5_hasLetter_3 rfl ?_
    obtain ⟨x1, hx1, h⟩ := Option.bind_eq_some_iff.mp h
    refine ah_getI C gf_X5_15 hx1 dX5_hasLetter_4 ?_
    refine aw_icmp_ge C 29 dX5_hasLetter_7 (by decide) (fun q => ?_) (fun q => ?_)
    · rw [if_pos q] at h
      refine aw_iconst C 0 dX5_hasLetter_29 ki_0 ?_
      obtain ⟨hb2, h⟩ := ck_some h
      cases h
      exact aw_iret C rfl (nb_nar hb2) dX5_hasLetter_30 (by omega) (by omega) ⟨rfl, rfl, rfl⟩
    · rw [if_neg q] at h
      refine aw_ald_n C dX5_hasLetter_10 rfl ?_
      refine aw_iload_n C dX5_hasLetter_11 rfl ?_
      obtain ⟨hb3, h⟩ := ck_some h
      obtain ⟨r4, hr4, h⟩ := Option.bind_eq_some_iff.mp h
      obtain ⟨fs5, hf5⟩ := isO_ex hb3
      refine aw_callV C (ci := 5) (b := v0) [.int v2] mv_X5_19 rfl rfl hf5 (rmX5_get hr4) rfl dX5_hasLetter_12 (Nat.le_of_ble_eq_true rfl) (Nat.le_of_ble_eq_true rfl) rfl (Nat.le_of_ble_eq_true rfl) (show cells + 0 ≤ 0 by omega) (show slots + 0 ≤ 0 by omega) (fun v9 f9 n9 hh => ?_)
      obtain ⟨rfl, rfl, rfl⟩ := hh
      obtain ⟨r6, hr6, h⟩ := Option.bind_eq_some_iff.mp h
      refine aw_callSN C [.int r4.1] mn_X5_34 mnS_X5_34 (rmX8_isLetter hr6) rfl dX5_hasLetter_15 (Nat.le_of_ble_eq_true rfl) (Nat.le_of_ble_eq_true rfl) rfl (Nat.le_of_ble_eq_true rfl) (show (cells + 0) + 0 ≤ 0 by omega) (show (slots + 0) + 0 ≤ 0 by omega) (fun v9 f9 n9 hh => ?_)
      obtain ⟨rfl, rfl, rfl⟩ := hh
      refine aw_if_eq C 23 dX5_hasLetter_18 (by decide) (fun q => ?_) (fun q => ?_)
      · rw [if_pos q] at h
        refine aw_iinc C (v2 + (1 : Int32)) dX5_hasLetter_23 rfl (by rw [ki_1]) (by decide) rfl ?_
        refine aw_nl [some (.ref v0), none, some (.int (v2 + (1 : Int32)))] rfl ?_
        refine aw_goto C 2 dX5_hasLetter_26 (by decide) ?_
        refine aw_fl [some (.ref v0), none, some (.int (v2 + (1 : Int32)))] ⟨rfl, ⟨rfl, trivial⟩⟩ ?_
        exact ih v0 (v2 + (1 : Int32)) r6.2.1 r6.2.2 _ _ (by omega) (by omega) h
      · rw [if_neg q] at h
        refine aw_iconst C 1 dX5_hasLetter_21 ki_1 ?_
        obtain ⟨hb7, h⟩ := ck_some h
        cases h
        exact aw_iret C rfl (nb_nar hb7) dX5_hasLetter_22 (by omega) (by omega) ⟨rfl, rfl, rfl⟩
def mX5_hasLetter (v0 : Nat) (v1 : Int32) (f : AH) (n : Nat) : Option (Int32 × HpN) := mX5_hasLetter_l2 rFU v0 v1 f n
set_option maxHeartbeats 1000000 in
theorem rmX5_hasLetter {X : GX} {l : Launch} {r : Int32 × HpN} {v0 : Nat} {v1 : Int32} {f : AH} {n : Nat} (h : mX5_hasLetter v0 v1 f n = some r) : AM X l yX5_hasLetter cX5_hasLetter 3 (some .boolean) 1 0 0 [.ref v0, .int v1] f n (QHi r) := by
  have h : mX5_hasLetter_l2 rFU v0 v1 f n = some r := h
  refine AM.of (by decide +kernel) rfl (Nat.le_of_ble_eq_true rfl) (fun p e s m args below meth c C hnm => ?_)
  refine aw_nl [some (.ref v0), some (.int v1), none] rfl ?_
  refine aw_iload_n C dX5_hasLetter_0 rfl ?_
  refine aw_istore_n C dX5_hasLetter_1 (by decide) rfl ?_
  refine aw_nl [some (.ref v0), some (.int v1), some (.int v1)] rfl ?_
  refine aw_fl [some (.ref v0), none, some (.int v1)] ⟨rfl, ⟨rfl, trivial⟩⟩ ?_
  exact rmX5_hasLetter_l2 C rFU v0 v1 f n _ _ (by omega) (by omega) h
def mX1_settle_b212 (s0 : Option Nat) (s1 : Int32) (f : AH) (n : Nat) : Option (Int32 × HpN) := ((s0).bind fun j1 => rCk (rNb s1) (((pO f j1 3 8 (.int s1)).bind fun f3 => some ((0 : Int32), (f3, n)))))
set_option maxHeartbeats 1000000 in
theorem rmX1_settle_b212 {X : GX} {p : Program} {l : Launch} {e : Env} {s : State} {m : MethodId} {args : Array Value} {below : List Frame} {meth : Method} {c : Code} {r : Int32 × HpN} {s0 : Option Nat} {s1 : Int32} {f : AH} {n cells slots : Nat} (C : CC X p l (RM 2 0 0) s m args meth c RX1 cX1_settle 7 none) (hc : cells + 0 ≤ 0) (hs : slots + 0 ≤ 0) (h : mX1_settle_b212 s0 s1 f n = some r) : AW X p l e (RM 2 0 0) s m args below meth c 7 (ZM X below args s 0 0 (QHv r)) f n cells slots 212 [none, none, none, none, none, none, none] [.int s1, va_rf s0] := by
  have h : ((s0).bind fun j1 => rCk (rNb s1) (((pO f j1 3 8 (.int s1)).bind fun f3 => some ((0 : Int32), (f3, n))))) = some r := h
  obtain ⟨j1, hj1, h⟩ := Option.bind_eq_some_iff.mp h
  rw [hj1]
  obtain ⟨hb2, h⟩ := ck_some h
  obtain ⟨f3, hf3, h⟩ := Option.bind_eq_some_iff.mp h
  refine ah_put C gf_X1_151 cf3 nf3_8 (nb_nar hb2) (nb_fit hb2) hf3 dX1_settle_212 ?_
  cases h
  exact aw_vret C rfl dX1_settle_215 (by omega) (by omega) ⟨rfl, rfl, rfl⟩
def mX1_settle_b191 (v0 : Nat) (v3 : Int32) (v5 : Option Nat) (s0 : Option Nat) (s1 : Int32) (f : AH) (n : Nat) : Option (Int32 × HpN) := ((s0).bind fun j1 => rCk (rNb s1) (((pO f j1 3 7 (.int s1)).bind fun f3 => ((gR f3 v0 1 4).bind fun x4 => ((x4).bind fun j5 => ((gI f3 j5 6 1).bind fun x6 => (if v3 = x6 then mX1_settle_b212 v5 (1 : Int32) f3 n else mX1_settle_b212 v5 (0 : Int32) f3 n)))))))
set_option maxHeartbeats 1000000 in
theorem rmX1_settle_b191 {X : GX} {p : Program} {l : Launch} {e : Env} {s : State} {m : MethodId} {args : Array Value} {below : List Frame} {meth : Method} {c : Code} {r : Int32 × HpN} {v0 : Nat} {v3 : Int32} {v5 : Option Nat} {s0 : Option Nat} {s1 : Int32} {f : AH} {n cells slots : Nat} (C : CC X p l (RM 2 0 0) s m args meth c RX1 cX1_settle 7 none) (hc : cells + 0 ≤ 0) (hs : slots + 0 ≤ 0) (h : mX1_settle_b191 v0 v3 v5 s0 s1 f n = some r) : AW X p l e (RM 2 0 0) s m args below meth c 7 (ZM X below args s 0 0 (QHv r)) f n cells slots 191 [some (.ref v0), none, none, some (.int v3), none, some (va_rf v5), none] [.int s1, va_rf s0] := by
  have h : ((s0).bind fun j1 => rCk (rNb s1) (((pO f j1 3 7 (.int s1)).bind fun f3 => ((gR f3 v0 1 4).bind fun x4 => ((x4).bind fun j5 => ((gI f3 j5 6 1).bind fun x6 => (if v3 = x6 then mX1_settle_b212 v5 (1 : Int32) f3 n else mX1_settle_b212 v5 (0 : Int32) f3 n))))))) = some r := h
  obtain ⟨j1, hj1, h⟩ := Option.bind_eq_some_iff.mp h
  rw [hj1]
  obtain ⟨hb2, h⟩ := ck_some h
  obtain ⟨f3, hf3, h⟩ := Option.bind_eq_some_iff.mp h
  refine ah_put C gf_X1_148 cf3 nf3_7 (nb_nar hb2) (nb_fit hb2) hf3 dX1_settle_191 ?_
  refine aw_aload C dX1_settle_194 rfl (rf_or v5) ?_
  refine aw_iload_n C dX1_settle_196 rfl ?_
  refine aw_ald_n C dX1_settle_197 rfl ?_
  obtain ⟨x4, hx4, h⟩ := Option.bind_eq_some_iff.mp h
  refine ah_getR C gf_X1_32 hx4 dX1_settle_198 ?_
  obtain ⟨j5, hj5, h⟩ := Option.bind_eq_some_iff.mp h
  rw [hj5]
  obtain ⟨x6, hx6, h⟩ := Option.bind_eq_some_iff.mp h
  refine ah_getI C gf_X1_81 hx6 dX1_settle_201 ?_
  refine aw_icmp_ne C 211 dX1_settle_204 (by decide) (fun q => ?_) (fun q => ?_)
  · rw [if_neg q] at h
    refine aw_iconst C 0 dX1_settle_211 ki_0 ?_
    refine aw_fl [none, none, none, none, none, none, none] trivial ?_
    exact rmX1_settle_b212 C (by omega) (by omega) h
  · rw [if_pos q] at h
    refine aw_iconst C 1 dX1_settle_207 ki_1 ?_
    refine aw_goto C 212 dX1_settle_208 (by decide) ?_
    refine aw_fl [none, none, none, none, none, none, none] trivial ?_
    exact rmX1_settle_b212 C (by omega) (by omega) h
def mX1_settle_b190 (v0 : Nat) (v3 : Int32) (v5 : Option Nat) (s0 : Option Nat) (f : AH) (n : Nat) : Option (Int32 × HpN) := mX1_settle_b191 v0 v3 v5 s0 (0 : Int32) f n
set_option maxHeartbeats 1000000 in
theorem rmX1_settle_b190 {X : GX} {p : Program} {l : Launch} {e : Env} {s : State} {m : MethodId} {args : Array Value} {below : List Frame} {meth : Method} {c : Code} {r : Int32 × HpN} {v0 : Nat} {v3 : Int32} {v5 : Option Nat} {s0 : Option Nat} {f : AH} {n cells slots : Nat} (C : CC X p l (RM 2 0 0) s m args meth c RX1 cX1_settle 7 none) (hc : cells + 0 ≤ 0) (hs : slots + 0 ≤ 0) (h : mX1_settle_b190 v0 v3 v5 s0 f n = some r) : AW X p l e (RM 2 0 0) s m args below meth c 7 (ZM X below args s 0 0 (QHv r)) f n cells slots 190 [some (.ref v0), none, none, some (.int v3), none, some (va_rf v5), none] [va_rf s0] := by
  have h : mX1_settle_b191 v0 v3 v5 s0 (0 : Int32) f n = some r := h
  refine aw_iconst C 0 dX1_settle_190 ki_0 ?_
  refine aw_fl [some (.ref v0), none, none, some (.int v3), none, some (va_rf v5), none] ⟨rfl, ⟨rfl, ⟨rfl, trivial⟩⟩⟩ ?_
  exact rmX1_settle_b191 C (by omega) (by omega) h
def mX1_settle_b94 (v0 : Nat) (v1 : Option Nat) (v2 : Int32) (v3 : Int32) (v4 : Int32) (v5 : Option Nat) (v6 : Int32) (f : AH) (n : Nat) : Option (Int32 × HpN) := ((gI f v0 1 3).bind fun x1 => ((pO f v0 1 3 (.int (x1 + (1 : Int32)))).bind fun f2 => ((v5).bind fun j3 => ((pO f2 j3 3 0 (.int v3)).bind fun f4 => ((pO f4 j3 3 1 (.int v4)).bind fun f5 => ((pO f5 j3 3 2 (.int v2)).bind fun f6 => ((pO f6 j3 3 3 (.int v6)).bind fun f7 => ((gR f7 v0 1 4).bind fun x8 => ((x8).bind fun j9 => ((gI f7 j9 6 4).bind fun x10 => ((pO f7 j3 3 4 (.int x10)).bind fun f11 => ((gR f11 v0 1 4).bind fun x12 => ((x12).bind fun j13 => ((gI f11 j13 6 5).bind fun x14 => ((pO f11 j3 3 5 (.int x14)).bind fun f15 => ((gR f15 v0 1 4).bind fun x16 => ((x16).bind fun j17 => ((gI f15 j17 6 3).bind fun x18 => rCk (rNb x18) (((pO f15 j3 3 6 (.int x18)).bind fun f20 => ((v1).bind fun j21 => ((gI f20 j21 7 2).bind fun x22 => (if x22 = (1 : Int32) then ((gR f20 v0 1 5).bind fun x23 => ((x23).bind fun j24 => ((gI f20 j24 6 3).bind fun x25 => (if x25 = (0 : Int32) then mX1_settle_b190 v0 v3 (some j3) (some j3) f20 n else mX1_settle_b191 v0 v3 (some j3) (some j3) (1 : Int32) f20 n)))) else mX1_settle_b190 v0 v3 (some j3) (some j3) f20 n)))))))))))))))))))))))
set_option maxHeartbeats 1000000 in
theorem rmX1_settle_b94 {X : GX} {p : Program} {l : Launch} {e : Env} {s : State} {m : MethodId} {args : Array Value} {below : List Frame} {meth : Method} {c : Code} {r : Int32 × HpN} {v0 : Nat} {v1 : Option Nat} {v2 : Int32} {v3 : Int32} {v4 : Int32} {v5 : Option Nat} {v6 : Int32} {f : AH} {n cells slots : Nat} (C : CC X p l (RM 2 0 0) s m args meth c RX1 cX1_settle 7 none) (hc : cells + 0 ≤ 0) (hs : slots + 0 ≤ 0) (h : mX1_settle_b94 v0 v1 v2 v3 v4 v5 v6 f n = some r) : AW X p l e (RM 2 0 0) s m args below meth c 7 (ZM X below args s 0 0 (QHv r)) f n cells slots 94 [some (.ref v0), some (va_rf v1), some (.int v2), some (.int v3), some (.int v4), some (va_rf v5), some (.int v6)] [] := by
  have h : ((gI f v0 1 3).bind fun x1 => ((pO f v0 1 3 (.int (x1 + (1 : Int32)))).bind fun f2 => ((v5).bind fun j3 => ((pO f2 j3 3 0 (.int v3)).bind fun f4 => ((pO f4 j3 3 1 (.int v4)).bind fun f5 => ((pO f5 j3 3 2 (.int v2)).bind fun f6 => ((pO f6 j3 3 3 (.int v6)).bind fun f7 => ((gR f7 v0 1 4).bind fun x8 => ((x8).bind fun j9 => ((gI f7 j9 6 4).bind fun x10 => ((pO f7 j3 3 4 (.int x10)).bind fun f11 => ((gR f11 v0 1 4).bind fun x12 => ((x12).bind fun j13 => ((gI f11 j13 6 5).bind fun x14 => ((pO f11 j3 3 5 (.int x14)).bind fun f15 => ((gR f15 v0 1 4).bind fun x16 => ((x16).bind fun j17 => ((gI f15 j17 6 3).bind fun x18 => rCk (rNb x18) (((pO f15 j3 3 6 (.int x18)).bind fun f20 => ((v1).bind fun j21 => ((gI f20 j21 7 2).bind fun x22 => (if x22 = (1 : Int32) then ((gR f20 v0 1 5).bind fun x23 => ((x23).bind fun j24 => ((gI f20 j24 6 3).bind fun x25 => (if x25 = (0 : Int32) then mX1_settle_b190 v0 v3 (some j3) (some j3) f20 n else mX1_settle_b191 v0 v3 (some j3) (some j3) (1 : Int32) f20 n)))) else mX1_settle_b190 v0 v3 (some j3) (some j3) f20 n))))))))))))))))))))))) = some r := h
  refine aw_ald_n C dX1_settle_94 rfl ?_
  refine aw_dup C dX1_settle_95 rfl ?_
  obtain ⟨x1, hx1, h⟩ := Option.bind_eq_some_iff.mp h
  refine ah_getI C gf_X1_46 hx1 dX1_settle_96 ?_
  refine aw_iconst C 1 dX1_settle_99 ki_1 ?_
  refine aw_iadd C dX1_settle_100 ?_
  obtain ⟨f2, hf2, h⟩ := Option.bind_eq_some_iff.mp h
  refine ah_put C gf_X1_46 cf1 nf1_3 rfl rfl hf2 dX1_settle_101 ?_
  refine aw_aload C dX1_settle_104 rfl (rf_or v5) ?_
  refine aw_iload_n C dX1_settle_106 rfl ?_
  obtain ⟨j3, hj3, h⟩ := Option.bind_eq_some_iff.mp h
  rw [hj3]
  obtain ⟨f4, hf4, h⟩ := Option.bind_eq_some_iff.mp h
  refine ah_put C gf_X1_128 cf3 nf3_0 rfl rfl hf4 dX1_settle_107 ?_
  refine aw_ald C dX1_settle_110 rfl ?_
  refine aw_iload C dX1_settle_112 rfl ?_
  obtain ⟨f5, hf5, h⟩ := Option.bind_eq_some_iff.mp h
  refine ah_put C gf_X1_129 cf3 nf3_1 rfl rfl hf5 dX1_settle_114 ?_
  refine aw_ald C dX1_settle_117 rfl ?_
  refine aw_iload_n C dX1_settle_119 rfl ?_
  obtain ⟨f6, hf6, h⟩ := Option.bind_eq_some_iff.mp h
  refine ah_put C gf_X1_130 cf3 nf3_2 rfl rfl hf6 dX1_settle_120 ?_
  refine aw_ald C dX1_settle_123 rfl ?_
  refine aw_iload C dX1_settle_125 rfl ?_
  obtain ⟨f7, hf7, h⟩ := Option.bind_eq_some_iff.mp h
  refine ah_put C gf_X1_133 cf3 nf3_3 rfl rfl hf7 dX1_settle_127 ?_
  refine aw_ald C dX1_settle_130 rfl ?_
  refine aw_ald_n C dX1_settle_132 rfl ?_
  obtain ⟨x8, hx8, h⟩ := Option.bind_eq_some_iff.mp h
  refine ah_getR C gf_X1_32 hx8 dX1_settle_133 ?_
  obtain ⟨j9, hj9, h⟩ := Option.bind_eq_some_iff.mp h
  rw [hj9]
  obtain ⟨x10, hx10, h⟩ := Option.bind_eq_some_iff.mp h
  refine ah_getI C gf_X1_136 hx10 dX1_settle_136 ?_
  obtain ⟨f11, hf11, h⟩ := Option.bind_eq_some_iff.mp h
  refine ah_put C gf_X1_139 cf3 nf3_4 rfl rfl hf11 dX1_settle_139 ?_
  refine aw_ald C dX1_settle_142 rfl ?_
  refine aw_ald_n C dX1_settle_144 rfl ?_
  obtain ⟨x12, hx12, h⟩ := Option.bind_eq_some_iff.mp h
  refine ah_getR C gf_X1_32 hx12 dX1_settle_145 ?_
  obtain ⟨j13, hj13, h⟩ := Option.bind_eq_some_iff.mp h
  rw [hj13]
  obtain ⟨x14, hx14, h⟩ := Option.bind_eq_some_iff.mp h
  refine ah_getI C gf_X1_140 hx14 dX1_settle_148 ?_
  obtain ⟨f15, hf15, h⟩ := Option.bind_eq_some_iff.mp h
  refine ah_put C gf_X1_143 cf3 nf3_5 rfl rfl hf15 dX1_settle_151 ?_
  refine aw_ald C dX1_settle_154 rfl ?_
  refine aw_ald_n C dX1_settle_156 rfl ?_
  obtain ⟨x16, hx16, h⟩ := Option.bind_eq_some_iff.mp h
  refine ah_getR C gf_X1_32 hx16 dX1_settle_157 ?_
  obtain ⟨j17, hj17, h⟩ := Option.bind_eq_some_iff.mp h
  rw [hj17]
  obtain ⟨x18, hx18, h⟩ := Option.bind_eq_some_iff.mp h
  refine ah_getI C gf_X1_144 hx18 dX1_settle_160 ?_
  obtain ⟨hb19, h⟩ := ck_some h
  obtain ⟨f20, hf20, h⟩ := Option.bind_eq_some_iff.mp h
  refine ah_put C gf_X1_147 cf3 nf3_6 (nb_nar hb19) (nb_fit hb19) hf20 dX1_settle_163 ?_
  refine aw_ald C dX1_settle_166 rfl ?_
  refine aw_aload_n C dX1_settle_168 rfl (rf_or v1) ?_
  obtain ⟨j21, hj21, h⟩ := Option.bind_eq_some_iff.mp h
  rw [hj21]
  obtain ⟨x22, hx22, h⟩ := Option.bind_eq_some_iff.mp h
  refine ah_getI C gf_X1_70 hx22 dX1_settle_169 ?_
  refine aw_iconst C 1 dX1_settle_172 ki_1 ?_
  refine aw_icmp_ne C 190 dX1_settle_173 (by decide) (fun q => ?_) (fun q => ?_)
  · rw [if_neg q] at h
    refine aw_fl [some (.ref v0), none, none, some (.int v3), none, some (va_rf (some j3)), none] ⟨rfl, ⟨rfl, ⟨rfl, trivial⟩⟩⟩ ?_
    exact rmX1_settle_b190 C (by omega) (by omega) h
  · rw [if_pos q] at h
    refine aw_ald_n C dX1_settle_176 rfl ?_
    obtain ⟨x23, hx23, h⟩ := Option.bind_eq_some_iff.mp h
    refine ah_getR C gf_X1_36 hx23 dX1_settle_177 ?_
    obtain ⟨j24, hj24, h⟩ := Option.bind_eq_some_iff.mp h
    rw [hj24]
    obtain ⟨x25, hx25, h⟩ := Option.bind_eq_some_iff.mp h
    refine ah_getI C gf_X1_144 hx25 dX1_settle_180 ?_
    refine aw_if_eq C 190 dX1_settle_183 (by decide) (fun q => ?_) (fun q => ?_)
    · rw [if_pos q] at h
      refine aw_fl [some (.ref v0), none, none, some (.int v3), none, some (va_rf (some j3)), none] ⟨rfl, ⟨rfl, ⟨rfl, trivial⟩⟩⟩ ?_
      exact rmX1_settle_b190 C (by omega) (by omega) h
    · rw [if_neg q] at h
      refine aw_iconst C 1 dX1_settle_186 ki_1 ?_
      refine aw_goto C 191 dX1_settle_187 (by decide) ?_
      refine aw_fl [some (.ref v0), none, none, some (.int v3), none, some (va_rf (some j3)), none] ⟨rfl, ⟨rfl, ⟨rfl, trivial⟩⟩⟩ ?_
      exact rmX1_settle_b191 C (by omega) (by omega) h
def mX1_settle_b77 (v0 : Nat) (v2 : Int32) (f : AH) (n : Nat) : Option (Int32 × HpN) := ((gR f v0 1 0).bind fun x1 => ((x1).bind fun j2 => rCk (isO f j2 5) (((mX5_cutTo j2 v2 f n).bind fun r4 => ((gR r4.2.1 v0 1 1).bind fun x6 => ((x6).bind fun j7 => rCk (isO r4.2.1 j7 5) (((mX5_cutTo j7 v2 r4.2.1 r4.2.2).bind fun r9 => some ((0 : Int32), (r9.2.1, r9.2.2))))))))))
set_option maxHeartbeats 1000000 in
theorem rmX1_settle_b77 {X : GX} {p : Program} {l : Launch} {e : Env} {s : State} {m : MethodId} {args : Array Value} {below : List Frame} {meth : Method} {c : Code} {r : Int32 × HpN} {v0 : Nat} {v2 : Int32} {f : AH} {n cells slots : Nat} (C : CC X p l (RM 2 0 0) s m args meth c RX1 cX1_settle 7 none) (hc : cells + 0 ≤ 0) (hs : slots + 0 ≤ 0) (h : mX1_settle_b77 v0 v2 f n = some r) : AW X p l e (RM 2 0 0) s m args below meth c 7 (ZM X below args s 0 0 (QHv r)) f n cells slots 77 [some (.ref v0), none, some (.int v2), none, none, none, none] [] := by
  have h : ((gR f v0 1 0).bind fun x1 => ((x1).bind fun j2 => rCk (isO f j2 5) (((mX5_cutTo j2 v2 f n).bind fun r4 => ((gR r4.2.1 v0 1 1).bind fun x6 => ((x6).bind fun j7 => rCk (isO r4.2.1 j7 5) (((mX5_cutTo j7 v2 r4.2.1 r4.2.2).bind fun r9 => some ((0 : Int32), (r9.2.1, r9.2.2)))))))))) = some r := h
  refine aw_ald_n C dX1_settle_77 rfl ?_
  obtain ⟨x1, hx1, h⟩ := Option.bind_eq_some_iff.mp h
  refine ah_getR C gf_X1_14 hx1 dX1_settle_78 ?_
  refine aw_iload_n C dX1_settle_81 rfl ?_
  obtain ⟨j2, hj2, h⟩ := Option.bind_eq_some_iff.mp h
  rw [hj2]
  obtain ⟨hb3, h⟩ := ck_some h
  obtain ⟨r4, hr4, h⟩ := Option.bind_eq_some_iff.mp h
  obtain ⟨fs5, hf5⟩ := isO_ex hb3
  refine aw_callV C (ci := 5) (b := j2) [.int v2] mv_X1_50 rfl rfl hf5 (rmX5_cutTo hr4) rfl dX1_settle_82 (Nat.le_of_ble_eq_true rfl) (Nat.le_of_ble_eq_true rfl) rfl (Nat.le_of_ble_eq_true rfl) (show cells + 0 ≤ 0 by omega) (show slots + 0 ≤ 0 by omega) (fun v9 f9 n9 hh => ?_)
  obtain ⟨rfl, rfl, rfl⟩ := hh
  refine aw_ald_n C dX1_settle_85 rfl ?_
  obtain ⟨x6, hx6, h⟩ := Option.bind_eq_some_iff.mp h
  refine ah_getR C gf_X1_20 hx6 dX1_settle_86 ?_
  refine aw_iload_n C dX1_settle_89 rfl ?_
  obtain ⟨j7, hj7, h⟩ := Option.bind_eq_some_iff.mp h
  rw [hj7]
  obtain ⟨hb8, h⟩ := ck_some h
  obtain ⟨r9, hr9, h⟩ := Option.bind_eq_some_iff.mp h
  obtain ⟨fs10, hf10⟩ := isO_ex hb8
  refine aw_callV C (ci := 5) (b := j7) [.int v2] mv_X1_50 rfl rfl hf10 (rmX5_cutTo hr9) rfl dX1_settle_90 (Nat.le_of_ble_eq_true rfl) (Nat.le_of_ble_eq_true rfl) rfl (Nat.le_of_ble_eq_true rfl) (show (cells + 0) + 0 ≤ 0 by omega) (show (slots + 0) + 0 ≤ 0 by omega) (fun v9 f9 n9 hh => ?_)
  obtain ⟨rfl, rfl, rfl⟩ := hh
  cases h
  exact aw_vret C rfl dX1_settle_93 (by omega) (by omega) ⟨rfl, rfl, rfl⟩
def mX1_settle_b32 (v0 : Nat) (v1 : Option Nat) (v2 : Int32) (v3 : Int32) (v4 : Int32) (s0 : Option Nat) (f : AH) (n : Nat) : Option (Int32 × HpN) := ((gR f v0 1 0).bind fun x1 => ((x1).bind fun j2 => rCk (isO f j2 5) (((mX5_size j2 f n).bind fun r4 => (oN s0 (mX1_settle_b77 v0 v2 r4.2.1 r4.2.2) (fun j6 => ((v1).bind fun j7 => ((gI r4.2.1 j7 7 4).bind fun x8 => (if (r4.1 - v2) < x8 then mX1_settle_b77 v0 v2 r4.2.1 r4.2.2 else ((gI r4.2.1 j7 7 3).bind fun x9 => (if x9 = (0 : Int32) then mX1_settle_b94 v0 (some j7) v2 v3 v4 (some j6) (r4.1 - v2) r4.2.1 r4.2.2 else ((gR r4.2.1 v0 1 0).bind fun x10 => ((x10).bind fun j11 => rCk (isO r4.2.1 j11 5) (((mX5_hasLetter j11 v2 r4.2.1 r4.2.2).bind fun r13 => (if r13.1 = (0 : Int32) then mX1_settle_b77 v0 v2 r13.2.1 r13.2.2 else mX1_settle_b94 v0 (some j7) v2 v3 v4 (some j6) (r4.1 - v2) r13.2.1 r13.2.2))))))))))))))))
set_option maxHeartbeats 1000000 in
theorem rmX1_settle_b32 {X : GX} {p : Program} {l : Launch} {e : Env} {s : State} {m : MethodId} {args : Array Value} {below : List Frame} {meth : Method} {c : Code} {r : Int32 × HpN} {v0 : Nat} {v1 : Option Nat} {v2 : Int32} {v3 : Int32} {v4 : Int32} {s0 : Option Nat} {f : AH} {n cells slots : Nat} (C : CC X p l (RM 2 0 0) s m args meth c RX1 cX1_settle 7 none) (hc : cells + 0 ≤ 0) (hs : slots + 0 ≤ 0) (h : mX1_settle_b32 v0 v1 v2 v3 v4 s0 f n = some r) : AW X p l e (RM 2 0 0) s m args below meth c 7 (ZM X below args s 0 0 (QHv r)) f n cells slots 32 [some (.ref v0), some (va_rf v1), some (.int v2), some (.int v3), some (.int v4), none, none] [va_rf s0] := by
  have h : ((gR f v0 1 0).bind fun x1 => ((x1).bind fun j2 => rCk (isO f j2 5) (((mX5_size j2 f n).bind fun r4 => (oN s0 (mX1_settle_b77 v0 v2 r4.2.1 r4.2.2) (fun j6 => ((v1).bind fun j7 => ((gI r4.2.1 j7 7 4).bind fun x8 => (if (r4.1 - v2) < x8 then mX1_settle_b77 v0 v2 r4.2.1 r4.2.2 else ((gI r4.2.1 j7 7 3).bind fun x9 => (if x9 = (0 : Int32) then mX1_settle_b94 v0 (some j7) v2 v3 v4 (some j6) (r4.1 - v2) r4.2.1 r4.2.2 else ((gR r4.2.1 v0 1 0).bind fun x10 => ((x10).bind fun j11 => rCk (isO r4.2.1 j11 5) (((mX5_hasLetter j11 v2 r4.2.1 r4.2.2).bind fun r13 => (if r13.1 = (0 : Int32) then mX1_settle_b77 v0 v2 r13.2.1 r13.2.2 else mX1_settle_b94 v0 (some j7) v2 v3 v4 (some j6) (r4.1 - v2) r13.2.1 r13.2.2)))))))))))))))) = some r := h
  refine aw_astore C dX1_settle_32 (by decide) rfl (rf_or s0) ?_
  refine aw_nl [some (.ref v0), some (va_rf v1), some (.int v2), some (.int v3), some (.int v4), some (va_rf s0), none] rfl ?_
  refine aw_ald_n C dX1_settle_34 rfl ?_
  obtain ⟨x1, hx1, h⟩ := Option.bind_eq_some_iff.mp h
  refine ah_getR C gf_X1_14 hx1 dX1_settle_35 ?_
  obtain ⟨j2, hj2, h⟩ := Option.bind_eq_some_iff.mp h
  rw [hj2]
  obtain ⟨hb3, h⟩ := ck_some h
  obtain ⟨r4, hr4, h⟩ := Option.bind_eq_some_iff.mp h
  obtain ⟨fs5, hf5⟩ := isO_ex hb3
  refine aw_callV C (ci := 5) (b := j2) [] mv_X1_73 rfl rfl hf5 (rmX5_size hr4) rfl dX1_settle_38 (Nat.le_of_ble_eq_true rfl) (Nat.le_of_ble_eq_true rfl) rfl (Nat.le_of_ble_eq_true rfl) (show cells + 0 ≤ 0 by omega) (show slots + 0 ≤ 0 by omega) (fun v9 f9 n9 hh => ?_)
  obtain ⟨rfl, rfl, rfl⟩ := hh
  refine aw_iload_n C dX1_settle_41 rfl ?_
  refine aw_isub C dX1_settle_42 ?_
  refine aw_istore C dX1_settle_43 (by decide) (ok_rf 5 rfl) ?_
  refine aw_nl [some (.ref v0), some (va_rf v1), some (.int v2), some (.int v3), some (.int v4), some (va_rf s0), some (.int (r4.1 - v2))] rfl ?_
  refine aw_aload C dX1_settle_45 rfl (rf_or s0) ?_
  cases s0 with
  | none =>
    replace h : mX1_settle_b77 v0 v2 r4.2.1 r4.2.2 = some r := h
    refine aw_ifnull_n C 77 dX1_settle_47 (by decide) ?_
    refine aw_fl [some (.ref v0), none, some (.int v2), none, none, none, none] ⟨rfl, ⟨rfl, trivial⟩⟩ ?_
    exact rmX1_settle_b77 C (by omega) (by omega) h
  | some j6 =>
    replace h : ((v1).bind fun j7 => ((gI r4.2.1 j7 7 4).bind fun x8 => (if (r4.1 - v2) < x8 then mX1_settle_b77 v0 v2 r4.2.1 r4.2.2 else ((gI r4.2.1 j7 7 3).bind fun x9 => (if x9 = (0 : Int32) then mX1_settle_b94 v0 (some j7) v2 v3 v4 (some j6) (r4.1 - v2) r4.2.1 r4.2.2 else ((gR r4.2.1 v0 1 0).bind fun x10 => ((x10).bind fun j11 => rCk (isO r4.2.1 j11 5) (((mX5_hasLetter j11 v2 r4.2.1 r4.2.2).bind fun r13 => (if r13.1 = (0 : Int32) then mX1_settle_b77 v0 v2 r13.2.1 r13.2.2 else mX1_settle_b94 v0 (some j7) v2 v3 v4 (some j6) (r4.1 - v2) r13.2.1 r13.2.2)))))))))) = some r := h
    refine aw_ifnull_r C 77 dX1_settle_47 (by decide) ?_
    refine aw_iload C dX1_settle_50 rfl ?_
    refine aw_aload_n C dX1_settle_52 rfl (rf_or v1) ?_
    obtain ⟨j7, hj7, h⟩ := Option.bind_eq_some_iff.mp h
    rw [hj7]
    obtain ⟨x8, hx8, h⟩ := Option.bind_eq_some_iff.mp h
    refine ah_getI C gf_X1_118 hx8 dX1_settle_53 ?_
    refine aw_icmp_lt C 77 dX1_settle_56 (by decide) (fun q => ?_) (fun q => ?_)
    · rw [if_pos q] at h
      refine aw_fl [some (.ref v0), none, some (.int v2), none, none, none, none] ⟨rfl, ⟨rfl, trivial⟩⟩ ?_
      exact rmX1_settle_b77 C (by omega) (by omega) h
    · rw [if_neg q] at h
      refine aw_ald_n C dX1_settle_59 rfl ?_
      obtain ⟨x9, hx9, h⟩ := Option.bind_eq_some_iff.mp h
      refine ah_getI C gf_X1_121 hx9 dX1_settle_60 ?_
      refine aw_if_eq C 94 dX1_settle_63 (by decide) (fun q => ?_) (fun q => ?_)
      · rw [if_pos q] at h
        refine aw_fl [some (.ref v0), some (va_rf (some j7)), some (.int v2), some (.int v3), some (.int v4), some (va_rf (some j6)), some (.int (r4.1 - v2))] ⟨rfl, ⟨rfl, ⟨rfl, ⟨rfl, ⟨rfl, ⟨rfl, ⟨rfl, trivial⟩⟩⟩⟩⟩⟩⟩ ?_
        exact rmX1_settle_b94 C (by omega) (by omega) h
      · rw [if_neg q] at h
        refine aw_ald_n C dX1_settle_66 rfl ?_
        obtain ⟨x10, hx10, h⟩ := Option.bind_eq_some_iff.mp h
        refine ah_getR C gf_X1_14 hx10 dX1_settle_67 ?_
        refine aw_iload_n C dX1_settle_70 rfl ?_
        obtain ⟨j11, hj11, h⟩ := Option.bind_eq_some_iff.mp h
        rw [hj11]
        obtain ⟨hb12, h⟩ := ck_some h
        obtain ⟨r13, hr13, h⟩ := Option.bind_eq_some_iff.mp h
        obtain ⟨fs14, hf14⟩ := isO_ex hb12
        refine aw_callV C (ci := 5) (b := j11) [.int v2] mv_X1_125 rfl rfl hf14 (rmX5_hasLetter hr13) rfl dX1_settle_71 (Nat.le_of_ble_eq_true rfl) (Nat.le_of_ble_eq_true rfl) rfl (Nat.le_of_ble_eq_true rfl) (show (cells + 0) + 0 ≤ 0 by omega) (show (slots + 0) + 0 ≤ 0 by omega) (fun v9 f9 n9 hh => ?_)
        obtain ⟨rfl, rfl, rfl⟩ := hh
        refine aw_if_ne C 94 dX1_settle_74 (by decide) (fun q => ?_) (fun q => ?_)
        · rw [if_neg q] at h
          refine aw_fl [some (.ref v0), some (va_rf (some j7)), some (.int v2), some (.int v3), some (.int v4), some (va_rf (some j6)), some (.int (r4.1 - v2))] ⟨rfl, ⟨rfl, ⟨rfl, ⟨rfl, ⟨rfl, ⟨rfl, ⟨rfl, trivial⟩⟩⟩⟩⟩⟩⟩ ?_
          exact rmX1_settle_b94 C (by omega) (by omega) h
        · rw [if_pos q] at h
          refine aw_fl [some (.ref v0), none, some (.int v2), none, none, none, none] ⟨rfl, ⟨rfl, trivial⟩⟩ ?_
          exact rmX1_settle_b77 C (by omega) (by omega) h
def mX1_settle_b31 (v0 : Nat) (v1 : Option Nat) (v2 : Int32) (v3 : Int32) (v4 : Int32) (f : AH) (n : Nat) : Option (Int32 × HpN) := mX1_settle_b32 v0 v1 v2 v3 v4 (none : Option Nat) f n
set_option maxHeartbeats 1000000 in
theorem rmX1_settle_b31 {X : GX} {p : Program} {l : Launch} {e : Env} {s : State} {m : MethodId} {args : Array Value} {below : List Frame} {meth : Method} {c : Code} {r : Int32 × HpN} {v0 : Nat} {v1 : Option Nat} {v2 : Int32} {v3 : Int32} {v4 : Int32} {f : AH} {n cells slots : Nat} (C : CC X p l (RM 2 0 0) s m args meth c RX1 cX1_settle 7 none) (hc : cells + 0 ≤ 0) (hs : slots + 0 ≤ 0) (h : mX1_settle_b31 v0 v1 v2 v3 v4 f n = some r) : AW X p l e (RM 2 0 0) s m args below meth c 7 (ZM X below args s 0 0 (QHv r)) f n cells slots 31 [some (.ref v0), some (va_rf v1), some (.int v2), some (.int v3), some (.int v4), none, none] [] := by
  have h : mX1_settle_b32 v0 v1 v2 v3 v4 (none : Option Nat) f n = some r := h
  refine aw_null C dX1_settle_31 ?_
  refine aw_fl [some (.ref v0), some (va_rf v1), some (.int v2), some (.int v3), some (.int v4), none, none] ⟨rfl, ⟨rfl, ⟨rfl, ⟨rfl, ⟨rfl, trivial⟩⟩⟩⟩⟩ ?_
  exact rmX1_settle_b32 C (by omega) (by omega) h
def mX1_settle (v0 : Nat) (v1 : Option Nat) (v2 : Int32) (v3 : Int32) (v4 : Int32) (f : AH) (n : Nat) : Option (Int32 × HpN) := ((gI f v0 1 3).bind fun x1 => (if x1 < (0 : Int32) then mX1_settle_b31 v0 v1 v2 v3 v4 f n else ((gI f v0 1 3).bind fun x2 => ((gR f v0 1 2).bind fun x3 => ((x3).bind fun j4 => ((gL f j4).bind fun x5 => (if (nI x5) ≤ x2 then mX1_settle_b31 v0 v1 v2 v3 v4 f n else ((gR f v0 1 2).bind fun x6 => ((gI f v0 1 3).bind fun x7 => ((x6).bind fun j8 => ((gRA f j8 x7).bind fun x9 => mX1_settle_b32 v0 v1 v2 v3 v4 x9 f n)))))))))))
set_option maxHeartbeats 1000000 in
theorem rmX1_settle {X : GX} {l : Launch} {r : Int32 × HpN} {v0 : Nat} {v1 : Option Nat} {v2 : Int32} {v3 : Int32} {v4 : Int32} {f : AH} {n : Nat} (h : mX1_settle v0 v1 v2 v3 v4 f n = some r) : AM X l yX1_settle cX1_settle 7 none 2 0 0 [.ref v0, va_rf v1, .int v2, .int v3, .int v4] f n (QHv r) := by
  have h : ((gI f v0 1 3).bind fun x1 => (if x1 < (0 : Int32) then mX1_settle_b31 v0 v1 v2 v3 v4 f n else ((gI f v0 1 3).bind fun x2 => ((gR f v0 1 2).bind fun x3 => ((x3).bind fun j4 => ((gL f j4).bind fun x5 => (if (nI x5) ≤ x2 then mX1_settle_b31 v0 v1 v2 v3 v4 f n else ((gR f v0 1 2).bind fun x6 => ((gI f v0 1 3).bind fun x7 => ((x6).bind fun j8 => ((gRA f j8 x7).bind fun x9 => mX1_settle_b32 v0 v1 v2 v3 v4 x9 f n))))))))))) = some r := h
  refine AM.of (by decide +kernel) (all1 rfl (all1 (rf_cat _) (all1 rfl (all1 rfl (all1 rfl rfl))))) (Nat.le_of_ble_eq_true rfl) (fun p e s m args below meth c C hnm => ?_)
  refine aw_nl [some (.ref v0), some (va_rf v1), some (.int v2), some (.int v3), some (.int v4), none, none] rfl ?_
  refine aw_ald_n C dX1_settle_0 rfl ?_
  obtain ⟨x1, hx1, h⟩ := Option.bind_eq_some_iff.mp h
  refine ah_getI C gf_X1_46 hx1 dX1_settle_1 ?_
  refine aw_if_lt C 31 dX1_settle_4 (by decide) (fun q => ?_) (fun q => ?_)
  · rw [if_pos q] at h
    refine aw_fl [some (.ref v0), some (va_rf v1), some (.int v2), some (.int v3), some (.int v4), none, none] ⟨rfl, ⟨rfl, ⟨rfl, ⟨rfl, ⟨rfl, trivial⟩⟩⟩⟩⟩ ?_
    exact rmX1_settle_b31 C (by omega) (by omega) h
  · rw [if_neg q] at h
    refine aw_ald_n C dX1_settle_7 rfl ?_
    obtain ⟨x2, hx2, h⟩ := Option.bind_eq_some_iff.mp h
    refine ah_getI C gf_X1_46 hx2 dX1_settle_8 ?_
    refine aw_ald_n C dX1_settle_11 rfl ?_
    obtain ⟨x3, hx3, h⟩ := Option.bind_eq_some_iff.mp h
    refine ah_getR C gf_X1_41 hx3 dX1_settle_12 ?_
    obtain ⟨j4, hj4, h⟩ := Option.bind_eq_some_iff.mp h
    rw [hj4]
    obtain ⟨x5, hx5, h⟩ := Option.bind_eq_some_iff.mp h
    refine ah_len C hx5 dX1_settle_15 ?_
    refine aw_icmp_ge C 31 dX1_settle_16 (by decide) (fun q => ?_) (fun q => ?_)
    · rw [if_pos q] at h
      refine aw_fl [some (.ref v0), some (va_rf v1), some (.int v2), some (.int v3), some (.int v4), none, none] ⟨rfl, ⟨rfl, ⟨rfl, ⟨rfl, ⟨rfl, trivial⟩⟩⟩⟩⟩ ?_
      exact rmX1_settle_b31 C (by omega) (by omega) h
    · rw [if_neg q] at h
      refine aw_ald_n C dX1_settle_19 rfl ?_
      obtain ⟨x6, hx6, h⟩ := Option.bind_eq_some_iff.mp h
      refine ah_getR C gf_X1_41 hx6 dX1_settle_20 ?_
      refine aw_ald_n C dX1_settle_23 rfl ?_
      obtain ⟨x7, hx7, h⟩ := Option.bind_eq_some_iff.mp h
      refine ah_getI C gf_X1_46 hx7 dX1_settle_24 ?_
      obtain ⟨j8, hj8, h⟩ := Option.bind_eq_some_iff.mp h
      rw [hj8]
      obtain ⟨x9, hx9, h⟩ := Option.bind_eq_some_iff.mp h
      refine ah_aald C hx9 dX1_settle_27 ?_
      refine aw_goto C 32 dX1_settle_28 (by decide) ?_
      refine aw_fl [some (.ref v0), some (va_rf v1), some (.int v2), some (.int v3), some (.int v4), none, none] ⟨rfl, ⟨rfl, ⟨rfl, ⟨rfl, ⟨rfl, trivial⟩⟩⟩⟩⟩ ?_
      exact rmX1_settle_b32 C (by omega) (by omega) h
def mX1_takeWithin_b206 (f : AH) (n : Nat) : Option (Int32 × HpN) := some ((0 : Int32), (f, n))
set_option maxHeartbeats 1000000 in
theorem rmX1_takeWithin_b206 {X : GX} {p : Program} {l : Launch} {e : Env} {s : State} {m : MethodId} {args : Array Value} {below : List Frame} {meth : Method} {c : Code} {r : Int32 × HpN} {f : AH} {n cells slots : Nat} (C : CC X p l (RM 3 0 0) s m args meth c RX1 cX1_takeWithin 5 none) (hc : cells + 0 ≤ 0) (hs : slots + 0 ≤ 0) (h : mX1_takeWithin_b206 f n = some r) : AW X p l e (RM 3 0 0) s m args below meth c 5 (ZM X below args s 0 0 (QHv r)) f n cells slots 206 [none, none, none, none, none] [] := by
  have h : some ((0 : Int32), (f, n)) = some r := h
  cases h
  exact aw_vret C rfl dX1_takeWithin_206 (by omega) (by omega) ⟨rfl, rfl, rfl⟩
def mX1_takeWithin_b176 (rec17 : Nat → (Option Nat) → Int32 → AH → Nat → Option (Int32 × HpN)) (v0 : Nat) (v1 : Option Nat) (v2 : Int32) (v3 : Int32) (s0 : Int32) (f : AH) (n : Nat) : Option (Int32 × HpN) := ((gR f v0 1 7).bind fun x1 => ((gR f v0 1 5).bind fun x2 => ((x2).bind fun j3 => ((gI f j3 6 1).bind fun x4 => ((x1).bind fun j5 => rCk (isO f j5 5) (((mX5_get j5 x4 f n).bind fun r7 => rCk (isO r7.2.1 v0 1) (((mX1_settle v0 v1 v3 r7.1 s0 r7.2.1 r7.2.2).bind fun r10 => rec17 v0 v1 (v2 + (1 : Int32)) r10.2.1 r10.2.2)))))))))
set_option maxHeartbeats 1000000 in
theorem rmX1_takeWithin_b176 {X : GX} {p : Program} {l : Launch} {e : Env} {s : State} {m : MethodId} {args : Array Value} {below : List Frame} {meth : Method} {c : Code} {r : Int32 × HpN} {rec17 : Nat → (Option Nat) → Int32 → AH → Nat → Option (Int32 × HpN)} {v0 : Nat} {v1 : Option Nat} {v2 : Int32} {v3 : Int32} {s0 : Int32} {f : AH} {n cells slots : Nat} (C : CC X p l (RM 3 0 0) s m args meth c RX1 cX1_takeWithin 5 none) (Hr17 : ∀ (v0 : Nat) (v1 : Option Nat) (v2 : Int32) (f : AH) (n cells slots : Nat), cells + 0 ≤ 0 → slots + 0 ≤ 0 → rec17 v0 v1 v2 f n = some r → AW X p l e (RM 3 0 0) s m args below meth c 5 (ZM X below args s 0 0 (QHv r)) f n cells slots 17 [some (.ref v0), some (va_rf v1), some (.int v2), none, none] []) (hc : cells + 0 ≤ 0) (hs : slots + 0 ≤ 0) (h : mX1_takeWithin_b176 rec17 v0 v1 v2 v3 s0 f n = some r) : AW X p l e (RM 3 0 0) s m args below meth c 5 (ZM X below args s 0 0 (QHv r)) f n cells slots 176 [some (.ref v0), some (va_rf v1), some (.int v2), some (.int v3), none] [.int s0] := by
  have h : ((gR f v0 1 7).bind fun x1 => ((gR f v0 1 5).bind fun x2 => ((x2).bind fun j3 => ((gI f j3 6 1).bind fun x4 => ((x1).bind fun j5 => rCk (isO f j5 5) (((mX5_get j5 x4 f n).bind fun r7 => rCk (isO r7.2.1 v0 1) (((mX1_settle v0 v1 v3 r7.1 s0 r7.2.1 r7.2.2).bind fun r10 => rec17 v0 v1 (v2 + (1 : Int32)) r10.2.1 r10.2.2))))))))) = some r := h
  refine aw_istore C dX1_takeWithin_176 (by decide) rfl ?_
  refine aw_nl [some (.ref v0), some (va_rf v1), some (.int v2), some (.int v3), some (.int s0)] rfl ?_
  refine aw_ald_n C dX1_takeWithin_178 rfl ?_
  refine aw_aload_n C dX1_takeWithin_179 rfl (rf_or v1) ?_
  refine aw_iload_n C dX1_takeWithin_180 rfl ?_
  refine aw_ald_n C dX1_takeWithin_181 rfl ?_
  obtain ⟨x1, hx1, h⟩ := Option.bind_eq_some_iff.mp h
  refine ah_getR C gf_X1_26 hx1 dX1_takeWithin_182 ?_
  refine aw_ald_n C dX1_takeWithin_185 rfl ?_
  obtain ⟨x2, hx2, h⟩ := Option.bind_eq_some_iff.mp h
  refine ah_getR C gf_X1_36 hx2 dX1_takeWithin_186 ?_
  obtain ⟨j3, hj3, h⟩ := Option.bind_eq_some_iff.mp h
  rw [hj3]
  obtain ⟨x4, hx4, h⟩ := Option.bind_eq_some_iff.mp h
  refine ah_getI C gf_X1_81 hx4 dX1_takeWithin_189 ?_
  obtain ⟨j5, hj5, h⟩ := Option.bind_eq_some_iff.mp h
  rw [hj5]
  obtain ⟨hb6, h⟩ := ck_some h
  obtain ⟨r7, hr7, h⟩ := Option.bind_eq_some_iff.mp h
  obtain ⟨fs8, hf8⟩ := isO_ex hb6
  refine aw_callV C (ci := 5) (b := j5) [.int x4] mv_X1_114 rfl rfl hf8 (rmX5_get hr7) rfl dX1_takeWithin_192 (Nat.le_of_ble_eq_true rfl) (Nat.le_of_ble_eq_true rfl) rfl (cs_1 rfl (cs_1 (rf_cat _) (cs_1 rfl cs_0))) (show cells + 0 ≤ 0 by omega) (show slots + 0 ≤ 0 by omega) (fun v9 f9 n9 hh => ?_)
  obtain ⟨rfl, rfl, rfl⟩ := hh
  refine aw_iload C dX1_takeWithin_195 rfl ?_
  obtain ⟨hb9, h⟩ := ck_some h
  obtain ⟨r10, hr10, h⟩ := Option.bind_eq_some_iff.mp h
  obtain ⟨fs11, hf11⟩ := isO_ex hb9
  refine aw_callV C (ci := 1) (b := v0) [va_rf v1, .int v3, .int r7.1, .int s0] mv_X1_87 rfl rfl hf11 (rmX1_settle hr10) rfl dX1_takeWithin_197 (Nat.le_of_ble_eq_true rfl) (Nat.le_of_ble_eq_true rfl) rfl (Nat.le_of_ble_eq_true rfl) (show (cells + 0) + 0 ≤ 0 by omega) (show (slots + 0) + 0 ≤ 0 by omega) (fun v9 f9 n9 hh => ?_)
  obtain ⟨rfl, rfl, rfl⟩ := hh
  refine aw_iinc C (v2 + (1 : Int32)) dX1_takeWithin_200 rfl (by rw [ki_1]) (by decide) (ok_rf 1 rfl) ?_
  refine aw_nl [some (.ref v0), some (va_rf v1), some (.int (v2 + (1 : Int32))), some (.int v3), some (.int s0)] rfl ?_
  refine aw_goto C 17 dX1_takeWithin_203 (by decide) ?_
  refine aw_fl [some (.ref v0), some (va_rf v1), some (.int (v2 + (1 : Int32))), none, none] ⟨rfl, ⟨rfl, ⟨rfl, trivial⟩⟩⟩ ?_
  exact Hr17 v0 v1 (v2 + (1 : Int32)) r10.2.1 r10.2.2 _ _ (by omega) (by omega) h
def mX1_takeWithin_l63 (rec17 : Nat → (Option Nat) → Int32 → AH → Nat → Option (Int32 × HpN)) : Nat → Nat → (Option Nat) → Int32 → Int32 → Int32 → AH → Nat → Option (Int32 × HpN)
  | 0, _, _, _, _, _, _, _ => none
  | d + 1, v0, v1, v2, v3, v4, f, n => ((gR f v0 1 5).bind fun x1 => ((x1).bind fun j2 => ((gI f j2 6 2).bind fun x3 => (if x3 ≤ v4 then ((gR f v0 1 5).bind fun x4 => ((x4).bind fun j5 => ((gI f j5 6 2).bind fun x6 => ((gR f v0 1 6).bind fun x7 => ((x7).bind fun j8 => rCk (isO f j8 5) (((mX5_size j8 f n).bind fun r10 => (if r10.1 ≤ x6 then ((gR r10.2.1 v0 1 4).bind fun x12 => ((x12).bind fun j13 => ((gI r10.2.1 j13 6 2).bind fun x14 => mX1_takeWithin_b176 rec17 v0 v1 v2 v3 x14 r10.2.1 r10.2.2))) else ((gR r10.2.1 v0 1 7).bind fun x15 => ((gR r10.2.1 v0 1 5).bind fun x16 => ((x16).bind fun j17 => ((gI r10.2.1 j17 6 2).bind fun x18 => ((x15).bind fun j19 => rCk (isO r10.2.1 j19 5) (((mX5_get j19 x18 r10.2.1 r10.2.2).bind fun r21 => mX1_takeWithin_b176 rec17 v0 v1 v2 v3 r21.1 r21.2.1 r21.2.2))))))))))))))) else ((gR f v0 1 5).bind fun x23 => ((x23).bind fun j24 => rCk (isO f j24 6) (((mX6_read j24 v4 f n).bind fun r26 => ((gR r26.2.1 v0 1 0).bind fun x28 => ((gR r26.2.1 v0 1 5).bind fun x29 => ((x29).bind fun j30 => ((gI r26.2.1 j30 6 6).bind fun x31 => ((x28).bind fun j32 => rCk (isO r26.2.1 j32 5) (((mX5_add j32 x31 r26.2.1 r26.2.2).bind fun r34 => ((gR r34.2.1 v0 1 1).bind fun x36 => ((gR r34.2.1 v0 1 7).bind fun x37 => ((x37).bind fun j38 => rCk (isO r34.2.1 j38 5) (((mX5_get j38 v4 r34.2.1 r34.2.2).bind fun r40 => ((x36).bind fun j42 => rCk (isO r40.2.1 j42 5) (((mX5_add j42 r40.1 r40.2.1 r40.2.2).bind fun r44 => ((gR r44.2.1 v0 1 5).bind fun x46 => ((x46).bind fun j47 => ((gI r44.2.1 j47 6 7).bind fun x48 => mX1_takeWithin_l63 rec17 d v0 v1 v2 v3 (v4 + (jMax (1 : Int32) x48)) r44.2.1 r44.2.2))))))))))))))))))))))))))
set_option maxHeartbeats 1000000 in
theorem rmX1_takeWithin_l63 {X : GX} {p : Program} {l : Launch} {e : Env} {s : State} {m : MethodId} {args : Array Value} {below : List Frame} {meth : Method} {c : Code} {r : Int32 × HpN} {rec17 : Nat → (Option Nat) → Int32 → AH → Nat → Option (Int32 × HpN)} (C : CC X p l (RM 3 0 0) s m args meth c RX1 cX1_takeWithin 5 none) (Hr17 : ∀ (v0 : Nat) (v1 : Option Nat) (v2 : Int32) (f : AH) (n cells slots : Nat), cells + 0 ≤ 0 → slots + 0 ≤ 0 → rec17 v0 v1 v2 f n = some r → AW X p l e (RM 3 0 0) s m args below meth c 5 (ZM X below args s 0 0 (QHv r)) f n cells slots 17 [some (.ref v0), some (va_rf v1), some (.int v2), none, none] []) : ∀ (d : Nat) (v0 : Nat) (v1 : Option Nat) (v2 : Int32) (v3 : Int32) (v4 : Int32) (f : AH) (n cells slots : Nat) (_ : cells + 0 ≤ 0) (_ : slots + 0 ≤ 0) (_ : mX1_takeWithin_l63 rec17 d v0 v1 v2 v3 v4 f n = some r), AW X p l e (RM 3 0 0) s m args below meth c 5 (ZM X below args s 0 0 (QHv r)) f n cells slots 63 [some (.ref v0), some (va_rf v1), some (.int v2), some (.int v3), some (.int v4)] [] := by
  intro d
  induction d with
  | zero =>
    intro v0 v1 v2 v3 v4 f n cells slots hc hs h
    exact nomatch (show (none : Option (Int32 × HpN)) = some r from h)
  | succ d ih =>
    intro v0 v1 v2 v3 v4 f n cells slots hc hs h
    have h : ((gR f v0 1 5).bind fun x1 => ((x1).bind fun j2 => ((gI f j2 6 2).bind fun x3 => (if x3 ≤ v4 then ((gR f v0 1 5).bind fun x4 => ((x4).bind fun j5 => ((gI f j5 6 2).bind fun x6 => ((gR f v0 1 6).bind fun x7 => ((x7).bind fun j8 => rCk (isO f j8 5) (((mX5_size j8 f n).bind fun r10 => (if r10.1 ≤ x6 then ((gR r10.2.1 v0 1 4).bind fun x12 => ((x12).bind fun j13 => ((gI r10.2.1 j13 6 2).bind fun x14 => mX1_takeWithin_b176 rec17 v0 v1 v2 v3 x14 r10.2.1 r10.2.2))) else ((gR r10.2.1 v0 1 7).bind fun x15 => ((gR r10.2.1 v0 1 5).bind fun x16 => ((x16).bind fun j17 => ((gI r10.2.1 j17 6 2).bind fun x18 => ((x15).bind fun j19 => rCk (isO r10.2.1 j19 5) (((mX5_get j19 x18 r10.2.1 r10.2.2).bind fun r21 => mX1_takeWithin_b176 rec17 v0 v1 v2 v3 r21.1 r21.2.1 r21.2.2))))))))))))))) else ((gR f v0 1 5).bind fun x23 => ((x23).bind fun j24 => rCk (isO f j24 6) (((mX6_read j24 v4 f n).bind fun r26 => ((gR r26.2.1 v0 1 0).bind fun x28 => ((gR r26.2.1 v0 1 5).bind fun x29 => ((x29).bind fun j30 => ((gI r26.2.1 j30 6 6).bind fun x31 => ((x28).bind fun j32 => rCk (isO r26.2.1 j32 5) (((mX5_add j32 x31 r26.2.1 r26.2.2).bind fun r34 => ((gR r34.2.1 v0 1 1).bind fun x36 => ((gR r34.2.1 v0 1 7).bind fun x37 => ((x37).bind fun j38 => rCk (isO r34.2.1 j38 5) (((mX5_get j38 v4 r34.2.1 r34.2.2).bind fun r40 => ((x36).bind fun j42 => rCk (isO r40.2.1 j42 5) (((mX5_add j42 r40.1 r40.2.1 r40.2.2).bind fun r44 => ((gR r44.2.1 v0 1 5).bind fun x46 => ((x46).bind fun j47 => ((gI r44.2.1 j47 6 7).bind fun x48 => mX1_takeWithin_l63 rec17 d v0 v1 v2 v3 (v4 + (jMax (1 : Int32) x48)) r44.2.1 r44.2.2)))))))))))))))))))))))))) = some r := h
    refine aw_iload C dX1_takeWithin_63 rfl ?_
    refine aw_ald_n C dX1_takeWithin_65 rfl ?_
    obtain ⟨x1, hx1, h⟩ := Option.bind_eq_some_iff.mp h
    refine ah_getR C gf_X1_36 hx1 dX1_takeWithin_66 ?_
    obtain ⟨j2, hj2, h⟩ := Option.bind_eq_some_iff.mp h
    rw [hj2]
    obtain ⟨x3, hx3, h⟩ := Option.bind_eq_some_iff.mp h
    refine ah_getI C gf_X1_84 hx3 dX1_takeWithin_69 ?_
    refine aw_icmp_ge C 135 dX1_takeWithin_72 (by decide) (fun q => ?_) (fun q => ?_)
    · rw [if_pos q] at h
      refine aw_ald_n C dX1_takeWithin_135 rfl ?_
      obtain ⟨x4, hx4, h⟩ := Option.bind_eq_some_iff.mp h
      refine ah_getR C gf_X1_36 hx4 dX1_takeWithin_136 ?_
      obtain ⟨j5, hj5, h⟩ := Option.bind_eq_some_iff.mp h
      rw [hj5]
      obtain ⟨x6, hx6, h⟩ := Option.bind_eq_some_iff.mp h
      refine ah_getI C gf_X1_84 hx6 dX1_takeWithin_139 ?_
      refine aw_ald_n C dX1_takeWithin_142 rfl ?_
      obtain ⟨x7, hx7, h⟩ := Option.bind_eq_some_iff.mp h
      refine ah_getR C gf_X1_23 hx7 dX1_takeWithin_143 ?_
      obtain ⟨j8, hj8, h⟩ := Option.bind_eq_some_iff.mp h
      rw [hj8]
      obtain ⟨hb9, h⟩ := ck_some h
      obtain ⟨r10, hr10, h⟩ := Option.bind_eq_some_iff.mp h
      obtain ⟨fs11, hf11⟩ := isO_ex hb9
      refine aw_callV C (ci := 5) (b := j8) [] mv_X1_73 rfl rfl hf11 (rmX5_size hr10) rfl dX1_takeWithin_146 (Nat.le_of_ble_eq_true rfl) (Nat.le_of_ble_eq_true rfl) rfl (Nat.le_of_ble_eq_true rfl) (show cells + 0 ≤ 0 by omega) (show slots + 0 ≤ 0 by omega) (fun v9 f9 n9 hh => ?_)
      obtain ⟨rfl, rfl, rfl⟩ := hh
      refine aw_icmp_ge C 169 dX1_takeWithin_149 (by decide) (fun q => ?_) (fun q => ?_)
      · rw [if_pos q] at h
        refine aw_ald_n C dX1_takeWithin_169 rfl ?_
        obtain ⟨x12, hx12, h⟩ := Option.bind_eq_some_iff.mp h
        refine ah_getR C gf_X1_32 hx12 dX1_takeWithin_170 ?_
        obtain ⟨j13, hj13, h⟩ := Option.bind_eq_some_iff.mp h
        rw [hj13]
        obtain ⟨x14, hx14, h⟩ := Option.bind_eq_some_iff.mp h
        refine ah_getI C gf_X1_84 hx14 dX1_takeWithin_173 ?_
        refine aw_fl [some (.ref v0), some (va_rf v1), some (.int v2), some (.int v3), none] ⟨rfl, ⟨rfl, ⟨rfl, ⟨rfl, trivial⟩⟩⟩⟩ ?_
        exact rmX1_takeWithin_b176 C Hr17 (by omega) (by omega) h
      · rw [if_neg q] at h
        refine aw_ald_n C dX1_takeWithin_152 rfl ?_
        obtain ⟨x15, hx15, h⟩ := Option.bind_eq_some_iff.mp h
        refine ah_getR C gf_X1_26 hx15 dX1_takeWithin_153 ?_
        refine aw_ald_n C dX1_takeWithin_156 rfl ?_
        obtain ⟨x16, hx16, h⟩ := Option.bind_eq_some_iff.mp h
        refine ah_getR C gf_X1_36 hx16 dX1_takeWithin_157 ?_
        obtain ⟨j17, hj17, h⟩ := Option.bind_eq_some_iff.mp h
        rw [hj17]
        obtain ⟨x18, hx18, h⟩ := Option.bind_eq_some_iff.mp h
        refine ah_getI C gf_X1_84 hx18 dX1_takeWithin_160 ?_
        obtain ⟨j19, hj19, h⟩ := Option.bind_eq_some_iff.mp h
        rw [hj19]
        obtain ⟨hb20, h⟩ := ck_some h
        obtain ⟨r21, hr21, h⟩ := Option.bind_eq_some_iff.mp h
        obtain ⟨fs22, hf22⟩ := isO_ex hb20
        refine aw_callV C (ci := 5) (b := j19) [.int x18] mv_X1_114 rfl rfl hf22 (rmX5_get hr21) rfl dX1_takeWithin_163 (Nat.le_of_ble_eq_true rfl) (Nat.le_of_ble_eq_true rfl) rfl (Nat.le_of_ble_eq_true rfl) (show (cells + 0) + 0 ≤ 0 by omega) (show (slots + 0) + 0 ≤ 0 by omega) (fun v9 f9 n9 hh => ?_)
        obtain ⟨rfl, rfl, rfl⟩ := hh
        refine aw_goto C 176 dX1_takeWithin_166 (by decide) ?_
        refine aw_fl [some (.ref v0), some (va_rf v1), some (.int v2), some (.int v3), none] ⟨rfl, ⟨rfl, ⟨rfl, ⟨rfl, trivial⟩⟩⟩⟩ ?_
        exact rmX1_takeWithin_b176 C Hr17 (by omega) (by omega) h
    · rw [if_neg q] at h
      refine aw_ald_n C dX1_takeWithin_75 rfl ?_
      obtain ⟨x23, hx23, h⟩ := Option.bind_eq_some_iff.mp h
      refine ah_getR C gf_X1_36 hx23 dX1_takeWithin_76 ?_
      refine aw_iload C dX1_takeWithin_79 rfl ?_
      obtain ⟨j24, hj24, h⟩ := Option.bind_eq_some_iff.mp h
      rw [hj24]
      obtain ⟨hb25, h⟩ := ck_some h
      obtain ⟨r26, hr26, h⟩ := Option.bind_eq_some_iff.mp h
      obtain ⟨fs27, hf27⟩ := isO_ex hb25
      refine aw_callV C (ci := 6) (b := j24) [.int v4] mv_X1_95 rfl rfl hf27 (rmX6_read hr26) rfl dX1_takeWithin_81 (Nat.le_of_ble_eq_true rfl) (Nat.le_of_ble_eq_true rfl) rfl (Nat.le_of_ble_eq_true rfl) (show cells + 0 ≤ 0 by omega) (show slots + 0 ≤ 0 by omega) (fun v9 f9 n9 hh => ?_)
      obtain ⟨rfl, rfl, rfl⟩ := hh
      refine aw_ald_n C dX1_takeWithin_84 rfl ?_
      obtain ⟨x28, hx28, h⟩ := Option.bind_eq_some_iff.mp h
      refine ah_getR C gf_X1_14 hx28 dX1_takeWithin_85 ?_
      refine aw_ald_n C dX1_takeWithin_88 rfl ?_
      obtain ⟨x29, hx29, h⟩ := Option.bind_eq_some_iff.mp h
      refine ah_getR C gf_X1_36 hx29 dX1_takeWithin_89 ?_
      obtain ⟨j30, hj30, h⟩ := Option.bind_eq_some_iff.mp h
      rw [hj30]
      obtain ⟨x31, hx31, h⟩ := Option.bind_eq_some_iff.mp h
      refine ah_getI C gf_X1_98 hx31 dX1_takeWithin_92 ?_
      obtain ⟨j32, hj32, h⟩ := Option.bind_eq_some_iff.mp h
      rw [hj32]
      obtain ⟨hb33, h⟩ := ck_some h
      obtain ⟨r34, hr34, h⟩ := Option.bind_eq_some_iff.mp h
      obtain ⟨fs35, hf35⟩ := isO_ex hb33
      refine aw_callV C (ci := 5) (b := j32) [.int x31] mv_X1_101 rfl rfl hf35 (rmX5_add hr34) rfl dX1_takeWithin_95 (Nat.le_of_ble_eq_true rfl) (Nat.le_of_ble_eq_true rfl) rfl (Nat.le_of_ble_eq_true rfl) (show (cells + 0) + 0 ≤ 0 by omega) (show (slots + 0) + 0 ≤ 0 by omega) (fun v9 f9 n9 hh => ?_)
      obtain ⟨rfl, rfl, rfl⟩ := hh
      refine aw_pop C dX1_takeWithin_98 rfl ?_
      refine aw_ald_n C dX1_takeWithin_99 rfl ?_
      obtain ⟨x36, hx36, h⟩ := Option.bind_eq_some_iff.mp h
      refine ah_getR C gf_X1_20 hx36 dX1_takeWithin_100 ?_
      refine aw_ald_n C dX1_takeWithin_103 rfl ?_
      obtain ⟨x37, hx37, h⟩ := Option.bind_eq_some_iff.mp h
      refine ah_getR C gf_X1_26 hx37 dX1_takeWithin_104 ?_
      refine aw_iload C dX1_takeWithin_107 rfl ?_
      obtain ⟨j38, hj38, h⟩ := Option.bind_eq_some_iff.mp h
      rw [hj38]
      obtain ⟨hb39, h⟩ := ck_some h
      obtain ⟨r40, hr40, h⟩ := Option.bind_eq_some_iff.mp h
      obtain ⟨fs41, hf41⟩ := isO_ex hb39
      refine aw_callV C (ci := 5) (b := j38) [.int v4] mv_X1_114 rfl rfl hf41 (rmX5_get hr40) rfl dX1_takeWithin_109 (Nat.le_of_ble_eq_true rfl) (Nat.le_of_ble_eq_true rfl) rfl (cs_1 (rf_cat _) cs_0) (show ((cells + 0) + 0) + 0 ≤ 0 by omega) (show ((slots + 0) + 0) + 0 ≤ 0 by omega) (fun v9 f9 n9 hh => ?_)
      obtain ⟨rfl, rfl, rfl⟩ := hh
      obtain ⟨j42, hj42, h⟩ := Option.bind_eq_some_iff.mp h
      rw [hj42]
      obtain ⟨hb43, h⟩ := ck_some h
      obtain ⟨r44, hr44, h⟩ := Option.bind_eq_some_iff.mp h
      obtain ⟨fs45, hf45⟩ := isO_ex hb43
      refine aw_callV C (ci := 5) (b := j42) [.int r40.1] mv_X1_101 rfl rfl hf45 (rmX5_add hr44) rfl dX1_takeWithin_112 (Nat.le_of_ble_eq_true rfl) (Nat.le_of_ble_eq_true rfl) rfl (Nat.le_of_ble_eq_true rfl) (show (((cells + 0) + 0) + 0) + 0 ≤ 0 by omega) (show (((slots + 0) + 0) + 0) + 0 ≤ 0 by omega) (fun v9 f9 n9 hh => ?_)
      obtain ⟨rfl, rfl, rfl⟩ := hh
      refine aw_pop C dX1_takeWithin_115 rfl ?_
      refine aw_iload C dX1_takeWithin_116 rfl ?_
      refine aw_iconst C 1 dX1_takeWithin_118 ki_1 ?_
      refine aw_ald_n C dX1_takeWithin_119 rfl ?_
      obtain ⟨x46, hx46, h⟩ := Option.bind_eq_some_iff.mp h
      refine ah_getR C gf_X1_36 hx46 dX1_takeWithin_120 ?_
      obtain ⟨j47, hj47, h⟩ := Option.bind_eq_some_iff.mp h
      rw [hj47]
      obtain ⟨x48, hx48, h⟩ := Option.bind_eq_some_iff.mp h
      refine ah_getI C gf_X1_105 hx48 dX1_takeWithin_123 ?_
      refine ah_jMax C ms_X1_108 dX1_takeWithin_126 (Nat.le_of_ble_eq_true rfl) (Nat.le_of_ble_eq_true rfl) (Nat.le_of_ble_eq_true rfl) (show _ + 0 ≤ 0 by omega) (show _ + 0 ≤ 0 by omega) ?_
      refine aw_iadd C dX1_takeWithin_129 ?_
      refine aw_istore C dX1_takeWithin_130 (by decide) rfl ?_
      refine aw_nl [some (.ref v0), some (va_rf v1), some (.int v2), some (.int v3), some (.int (v4 + (jMax (1 : Int32) x48)))] rfl ?_
      refine aw_goto C 63 dX1_takeWithin_132 (by decide) ?_
      refine aw_fl [some (.ref v0), some (va_rf v1), some (.int v2), some (.int v3), some (.int (v4 + (jMax (1 : Int32) x48)))] ⟨rfl, ⟨rfl, ⟨rfl, ⟨rfl, ⟨rfl, trivial⟩⟩⟩⟩⟩ ?_
      exact ih v0 v1 v2 v3 (v4 + (jMax (1 : Int32) x48)) r44.2.1 r44.2.2 _ _ (by omega) (by omega) h
def mX1_takeWithin_l17 : Nat → Nat → (Option Nat) → Int32 → AH → Nat → Option (Int32 × HpN)
  | 0, _, _, _, _, _ => none
  | d + 1, v0, v1, v2, f, n => (if (600 : Int32) < v2 then mX1_takeWithin_b206 f n else ((gI f v0 1 3).bind fun x1 => ((gR f v0 1 2).bind fun x2 => ((x2).bind fun j3 => ((gL f j3).bind fun x4 => (if (nI x4) ≤ x1 then mX1_takeWithin_b206 f n else ((gR f v0 1 5).bind fun x5 => ((x5).bind fun j6 => rCk (isO f j6 6) (((mX6_next j6 f n).bind fun r8 => (if r8.1 = (0 : Int32) then mX1_takeWithin_b206 r8.2.1 r8.2.2 else ((gR r8.2.1 v0 1 0).bind fun x10 => ((x10).bind fun j11 => rCk (isO r8.2.1 j11 5) (((mX5_size j11 r8.2.1 r8.2.2).bind fun r13 => ((gR r13.2.1 v0 1 5).bind fun x15 => ((x15).bind fun j16 => ((gI r13.2.1 j16 6 1).bind fun x17 => mX1_takeWithin_l63 (fun v0 v1 v2 f n => mX1_takeWithin_l17 d v0 v1 v2 f n) rFU v0 v1 v2 r13.1 x17 r13.2.1 r13.2.2))))))))))))))))))
set_option maxHeartbeats 1000000 in
theorem rmX1_takeWithin_l17 {X : GX} {p : Program} {l : Launch} {e : Env} {s : State} {m : MethodId} {args : Array Value} {below : List Frame} {meth : Method} {c : Code} {r : Int32 × HpN} (C : CC X p l (RM 3 0 0) s m args meth c RX1 cX1_takeWithin 5 none) : ∀ (d : Nat) (v0 : Nat) (v1 : Option Nat) (v2 : Int32) (f : AH) (n cells slots : Nat) (_ : cells + 0 ≤ 0) (_ : slots + 0 ≤ 0) (_ : mX1_takeWithin_l17 d v0 v1 v2 f n = some r), AW X p l e (RM 3 0 0) s m args below meth c 5 (ZM X below args s 0 0 (QHv r)) f n cells slots 17 [some (.ref v0), some (va_rf v1), some (.int v2), none, none] [] := by
  intro d
  induction d with
  | zero =>
    intro v0 v1 v2 f n cells slots hc hs h
    exact nomatch (show (none : Option (Int32 × HpN)) = some r from h)
  | succ d ih =>
    intro v0 v1 v2 f n cells slots hc hs h
    have h : (if (600 : Int32) < v2 then mX1_takeWithin_b206 f n else ((gI f v0 1 3).bind fun x1 => ((gR f v0 1 2).bind fun x2 => ((x2).bind fun j3 => ((gL f j3).bind fun x4 => (if (nI x4) ≤ x1 then mX1_takeWithin_b206 f n else ((gR f v0 1 5).bind fun x5 => ((x5).bind fun j6 => rCk (isO f j6 6) (((mX6_next j6 f n).bind fun r8 => (if r8.1 = (0 : Int32) then mX1_takeWithin_b206 r8.2.1 r8.2.2 else ((gR r8.2.1 v0 1 0).bind fun x10 => ((x10).bind fun j11 => rCk (isO r8.2.1 j11 5) (((mX5_size j11 r8.2.1 r8.2.2).bind fun r13 => ((gR r13.2.1 v0 1 5).bind fun x15 => ((x15).bind fun j16 => ((gI r13.2.1 j16 6 1).bind fun x17 => mX1_takeWithin_l63 (fun v0 v1 v2 f n => mX1_takeWithin_l17 d v0 v1 v2 f n) rFU v0 v1 v2 r13.1 x17 r13.2.1 r13.2.2)))))))))))))))))) = some r := h
    refine aw_iload_n C dX1_takeWithin_17 rfl ?_
    refine aw_sipush C 600 dX1_takeWithin_18 ks_600 ?_
    refine aw_icmp_gt C 206 dX1_takeWithin_21 (by decide) (fun q => ?_) (fun q => ?_)
    · rw [if_pos q] at h
      refine aw_fl [none, none, none, none, none] trivial ?_
      exact rmX1_takeWithin_b206 C (by omega) (by omega) h
    · rw [if_neg q] at h
      refine aw_ald_n C dX1_takeWithin_24 rfl ?_
      obtain ⟨x1, hx1, h⟩ := Option.bind_eq_some_iff.mp h
      refine ah_getI C gf_X1_46 hx1 dX1_takeWithin_25 ?_
      refine aw_ald_n C dX1_takeWithin_28 rfl ?_
      obtain ⟨x2, hx2, h⟩ := Option.bind_eq_some_iff.mp h
      refine ah_getR C gf_X1_41 hx2 dX1_takeWithin_29 ?_
      obtain ⟨j3, hj3, h⟩ := Option.bind_eq_some_iff.mp h
      rw [hj3]
      obtain ⟨x4, hx4, h⟩ := Option.bind_eq_some_iff.mp h
      refine ah_len C hx4 dX1_takeWithin_32 ?_
      refine aw_icmp_ge C 206 dX1_takeWithin_33 (by decide) (fun q => ?_) (fun q => ?_)
      · rw [if_pos q] at h
        refine aw_fl [none, none, none, none, none] trivial ?_
        exact rmX1_takeWithin_b206 C (by omega) (by omega) h
      · rw [if_neg q] at h
        refine aw_ald_n C dX1_takeWithin_36 rfl ?_
        obtain ⟨x5, hx5, h⟩ := Option.bind_eq_some_iff.mp h
        refine ah_getR C gf_X1_36 hx5 dX1_takeWithin_37 ?_
        obtain ⟨j6, hj6, h⟩ := Option.bind_eq_some_iff.mp h
        rw [hj6]
        obtain ⟨hb7, h⟩ := ck_some h
        obtain ⟨r8, hr8, h⟩ := Option.bind_eq_some_iff.mp h
        obtain ⟨fs9, hf9⟩ := isO_ex hb7
        refine aw_callV C (ci := 6) (b := j6) [] mv_X1_62 rfl rfl hf9 (rmX6_next hr8) rfl dX1_takeWithin_40 (Nat.le_of_ble_eq_true rfl) (Nat.le_of_ble_eq_true rfl) rfl (Nat.le_of_ble_eq_true rfl) (show cells + 0 ≤ 0 by omega) (show slots + 0 ≤ 0 by omega) (fun v9 f9 n9 hh => ?_)
        obtain ⟨rfl, rfl, rfl⟩ := hh
        refine aw_if_eq C 206 dX1_takeWithin_43 (by decide) (fun q => ?_) (fun q => ?_)
        · rw [if_pos q] at h
          refine aw_fl [none, none, none, none, none] trivial ?_
          exact rmX1_takeWithin_b206 C (by omega) (by omega) h
        · rw [if_neg q] at h
          refine aw_ald_n C dX1_takeWithin_46 rfl ?_
          obtain ⟨x10, hx10, h⟩ := Option.bind_eq_some_iff.mp h
          refine ah_getR C gf_X1_14 hx10 dX1_takeWithin_47 ?_
          obtain ⟨j11, hj11, h⟩ := Option.bind_eq_some_iff.mp h
          rw [hj11]
          obtain ⟨hb12, h⟩ := ck_some h
          obtain ⟨r13, hr13, h⟩ := Option.bind_eq_some_iff.mp h
          obtain ⟨fs14, hf14⟩ := isO_ex hb12
          refine aw_callV C (ci := 5) (b := j11) [] mv_X1_73 rfl rfl hf14 (rmX5_size hr13) rfl dX1_takeWithin_50 (Nat.le_of_ble_eq_true rfl) (Nat.le_of_ble_eq_true rfl) rfl (Nat.le_of_ble_eq_true rfl) (show (cells + 0) + 0 ≤ 0 by omega) (show (slots + 0) + 0 ≤ 0 by omega) (fun v9 f9 n9 hh => ?_)
          obtain ⟨rfl, rfl, rfl⟩ := hh
          refine aw_istore_n C dX1_takeWithin_53 (by decide) rfl ?_
          refine aw_nl [some (.ref v0), some (va_rf v1), some (.int v2), some (.int r13.1), none] rfl ?_
          refine aw_ald_n C dX1_takeWithin_54 rfl ?_
          obtain ⟨x15, hx15, h⟩ := Option.bind_eq_some_iff.mp h
          refine ah_getR C gf_X1_36 hx15 dX1_takeWithin_55 ?_
          obtain ⟨j16, hj16, h⟩ := Option.bind_eq_some_iff.mp h
          rw [hj16]
          obtain ⟨x17, hx17, h⟩ := Option.bind_eq_some_iff.mp h
          refine ah_getI C gf_X1_81 hx17 dX1_takeWithin_58 ?_
          refine aw_istore C dX1_takeWithin_61 (by decide) rfl ?_
          refine aw_nl [some (.ref v0), some (va_rf v1), some (.int v2), some (.int r13.1), some (.int x17)] rfl ?_
          refine aw_fl [some (.ref v0), some (va_rf v1), some (.int v2), some (.int r13.1), some (.int x17)] ⟨rfl, ⟨rfl, ⟨rfl, ⟨rfl, ⟨rfl, trivial⟩⟩⟩⟩⟩ ?_
          exact rmX1_takeWithin_l63 C (fun v0 v1 v2 f n cells slots hc hs h => ih v0 v1 v2 f n cells slots hc hs h) rFU v0 v1 v2 r13.1 x17 r13.2.1 r13.2.2 _ _ (by omega) (by omega) h
def mX1_takeWithin (v0 : Nat) (v1 : Option Nat) (f : AH) (n : Nat) : Option (Int32 × HpN) := ((gR f v0 1 5).bind fun x1 => ((gR f v0 1 6).bind fun x2 => ((v1).bind fun j3 => ((gI f j3 7 2).bind fun x4 => ((x1).bind fun j5 => rCk (isO f j5 6) (((mX6_start j5 x2 x4 f n).bind fun r7 => mX1_takeWithin_l17 rFU v0 (some j3) (0 : Int32) r7.2.1 r7.2.2)))))))
set_option maxHeartbeats 1000000 in
theorem rmX1_takeWithin {X : GX} {l : Launch} {r : Int32 × HpN} {v0 : Nat} {v1 : Option Nat} {f : AH} {n : Nat} (h : mX1_takeWithin v0 v1 f n = some r) : AM X l yX1_takeWithin cX1_takeWithin 5 none 3 0 0 [.ref v0, va_rf v1] f n (QHv r) := by
  have h : ((gR f v0 1 5).bind fun x1 => ((gR f v0 1 6).bind fun x2 => ((v1).bind fun j3 => ((gI f j3 7 2).bind fun x4 => ((x1).bind fun j5 => rCk (isO f j5 6) (((mX6_start j5 x2 x4 f n).bind fun r7 => mX1_takeWithin_l17 rFU v0 (some j3) (0 : Int32) r7.2.1 r7.2.2))))))) = some r := h
  refine AM.of (by decide +kernel) (all1 rfl (all1 (rf_cat _) rfl)) (Nat.le_of_ble_eq_true rfl) (fun p e s m args below meth c C hnm => ?_)
  refine aw_nl [some (.ref v0), some (va_rf v1), none, none, none] rfl ?_
  refine aw_ald_n C dX1_takeWithin_0 rfl ?_
  obtain ⟨x1, hx1, h⟩ := Option.bind_eq_some_iff.mp h
  refine ah_getR C gf_X1_36 hx1 dX1_takeWithin_1 ?_
  refine aw_ald_n C dX1_takeWithin_4 rfl ?_
  obtain ⟨x2, hx2, h⟩ := Option.bind_eq_some_iff.mp h
  refine ah_getR C gf_X1_23 hx2 dX1_takeWithin_5 ?_
  refine aw_aload_n C dX1_takeWithin_8 rfl (rf_or v1) ?_
  obtain ⟨j3, hj3, h⟩ := Option.bind_eq_some_iff.mp h
  rw [hj3]
  obtain ⟨x4, hx4, h⟩ := Option.bind_eq_some_iff.mp h
  refine ah_getI C gf_X1_70 hx4 dX1_takeWithin_9 ?_
  obtain ⟨j5, hj5, h⟩ := Option.bind_eq_some_iff.mp h
  rw [hj5]
  obtain ⟨hb6, h⟩ := ck_some h
  obtain ⟨r7, hr7, h⟩ := Option.bind_eq_some_iff.mp h
  obtain ⟨fs8, hf8⟩ := isO_ex hb6
  refine aw_callV C (ci := 6) (b := j5) [va_rf x2, .int x4] mv_X1_58 rfl rfl hf8 (rmX6_start hr7) rfl dX1_takeWithin_12 (Nat.le_of_ble_eq_true rfl) (Nat.le_of_ble_eq_true rfl) rfl (Nat.le_of_ble_eq_true rfl) (show 0 + 0 ≤ 0 by omega) (show 0 + 0 ≤ 0 by omega) (fun v9 f9 n9 hh => ?_)
  obtain ⟨rfl, rfl, rfl⟩ := hh
  refine aw_iconst C 0 dX1_takeWithin_15 ki_0 ?_
  refine aw_istore_n C dX1_takeWithin_16 (by decide) rfl ?_
  refine aw_nl [some (.ref v0), some (.ref j3), some (.int (0 : Int32)), none, none] rfl ?_
  refine aw_fl [some (.ref v0), some (va_rf (some j3)), some (.int (0 : Int32)), none, none] ⟨rfl, ⟨rfl, ⟨rfl, trivial⟩⟩⟩ ?_
  exact rmX1_takeWithin_l17 C rFU v0 (some j3) (0 : Int32) r7.2.1 r7.2.2 _ _ (by omega) (by omega) h
end
/-! part 32af.cls -/
section
def mX1_find_b174 (f : AH) (n : Nat) : Option (Int32 × HpN) := some ((0 : Int32), (f, n))
set_option maxHeartbeats 1000000 in
theorem rmX1_find_b174 {X : GX} {p : Program} {l : Launch} {e : Env} {s : State} {m : MethodId} {args : Array Value} {below : List Frame} {meth : Method} {c : Code} {r : Int32 × HpN} {f : AH} {n cells slots : Nat} (C : CC X p l (RM 4 0 0) s m args meth c RX1 cX1_find 5 none) (hc : cells + 0 ≤ 0) (hs : slots + 0 ≤ 0) (h : mX1_find_b174 f n = some r) : AW X p l e (RM 4 0 0) s m args below meth c 5 (ZM X below args s 0 0 (QHv r)) f n cells slots 174 [none, none, none, none, none] [] := by
  have h : some ((0 : Int32), (f, n)) = some r := h
  cases h
  exact aw_vret C rfl dX1_find_174 (by omega) (by omega) ⟨rfl, rfl, rfl⟩
def mX1_find_b168 (rec35 : Nat → (Option Nat) → Int32 → AH → Nat → Option (Int32 × HpN)) (v0 : Nat) (v2 : Option Nat) (v3 : Int32) (f : AH) (n : Nat) : Option (Int32 × HpN) := rec35 v0 v2 (v3 + (1 : Int32)) f n
set_option maxHeartbeats 1000000 in
theorem rmX1_find_b168 {X : GX} {p : Program} {l : Launch} {e : Env} {s : State} {m : MethodId} {args : Array Value} {below : List Frame} {meth : Method} {c : Code} {r : Int32 × HpN} {rec35 : Nat → (Option Nat) → Int32 → AH → Nat → Option (Int32 × HpN)} {v0 : Nat} {v2 : Option Nat} {v3 : Int32} {f : AH} {n cells slots : Nat} (C : CC X p l (RM 4 0 0) s m args meth c RX1 cX1_find 5 none) (Hr35 : ∀ (v0 : Nat) (v2 : Option Nat) (v3 : Int32) (f : AH) (n cells slots : Nat), cells + 0 ≤ 0 → slots + 0 ≤ 0 → rec35 v0 v2 v3 f n = some r → AW X p l e (RM 4 0 0) s m args below meth c 5 (ZM X below args s 0 0 (QHv r)) f n cells slots 35 [some (.ref v0), none, some (va_rf v2), some (.int v3), none] []) (hc : cells + 0 ≤ 0) (hs : slots + 0 ≤ 0) (h : mX1_find_b168 rec35 v0 v2 v3 f n = some r) : AW X p l e (RM 4 0 0) s m args below meth c 5 (ZM X below args s 0 0 (QHv r)) f n cells slots 168 [some (.ref v0), none, some (va_rf v2), some (.int v3), none] [] := by
  have h : rec35 v0 v2 (v3 + (1 : Int32)) f n = some r := h
  refine aw_iinc C (v3 + (1 : Int32)) dX1_find_168 rfl (by rw [ki_1]) (by decide) (ok_rf 2 rfl) ?_
  refine aw_nl [some (.ref v0), none, some (va_rf v2), some (.int (v3 + (1 : Int32))), none] rfl ?_
  refine aw_goto C 35 dX1_find_171 (by decide) ?_
  refine aw_fl [some (.ref v0), none, some (va_rf v2), some (.int (v3 + (1 : Int32))), none] ⟨rfl, ⟨rfl, ⟨rfl, trivial⟩⟩⟩ ?_
  exact Hr35 v0 v2 (v3 + (1 : Int32)) f n _ _ (by omega) (by omega) h
def mX1_find_b82 (rec35 : Nat → (Option Nat) → Int32 → AH → Nat → Option (Int32 × HpN)) (v0 : Nat) (v2 : Option Nat) (v3 : Int32) (f : AH) (n : Nat) : Option (Int32 × HpN) := ((v2).bind fun j1 => ((gI f j1 7 2).bind fun x2 => (if x2 = (-1 : Int32) then ((gR f v0 1 0).bind fun x21 => ((x21).bind fun j22 => rCk (isO f j22 5) (((mX5_size j22 f n).bind fun r24 => ((gR r24.2.1 v0 1 0).bind fun x26 => ((gR r24.2.1 v0 1 1).bind fun x27 => rCk (isO r24.2.1 v0 1) (((mX1_readOuter v0 x26 x27 r24.2.1 r24.2.2).bind fun r29 => ((gR r29.2.1 v0 1 4).bind fun x31 => ((x31).bind fun j32 => ((gI r29.2.1 j32 6 1).bind fun x33 => ((gR r29.2.1 v0 1 4).bind fun x34 => ((x34).bind fun j35 => ((gI r29.2.1 j35 6 2).bind fun x36 => rCk (isO r29.2.1 v0 1) (((mX1_settle v0 (some j1) r24.1 x33 x36 r29.2.1 r29.2.2).bind fun r38 => mX1_find_b168 rec35 v0 (some j1) v3 r38.2.1 r38.2.2)))))))))))))))) else ((gR f v0 1 6).bind fun x3 => ((x3).bind fun j4 => rCk (isO f j4 5) (((mX5_cutTo j4 (0 : Int32) f n).bind fun r6 => ((gR r6.2.1 v0 1 7).bind fun x8 => ((x8).bind fun j9 => rCk (isO r6.2.1 j9 5) (((mX5_cutTo j9 (0 : Int32) r6.2.1 r6.2.2).bind fun r11 => ((gR r11.2.1 v0 1 6).bind fun x13 => ((gR r11.2.1 v0 1 7).bind fun x14 => rCk (isO r11.2.1 v0 1) (((mX1_readOuter v0 x13 x14 r11.2.1 r11.2.2).bind fun r16 => rCk (isO r16.2.1 v0 1) (((mX1_takeWithin v0 (some j1) r16.2.1 r16.2.2).bind fun r19 => mX1_find_b168 rec35 v0 (some j1) v3 r19.2.1 r19.2.2)))))))))))))))))
set_option maxHeartbeats 1000000 in
theorem rmX1_find_b82 {X : GX} {p : Program} {l : Launch} {e : Env} {s : State} {m : MethodId} {args : Array Value} {below : List Frame} {meth : Method} {c : Code} {r : Int32 × HpN} {rec35 : Nat → (Option Nat) → Int32 → AH → Nat → Option (Int32 × HpN)} {v0 : Nat} {v2 : Option Nat} {v3 : Int32} {f : AH} {n cells slots : Nat} (C : CC X p l (RM 4 0 0) s m args meth c RX1 cX1_find 5 none) (Hr35 : ∀ (v0 : Nat) (v2 : Option Nat) (v3 : Int32) (f : AH) (n cells slots : Nat), cells + 0 ≤ 0 → slots + 0 ≤ 0 → rec35 v0 v2 v3 f n = some r → AW X p l e (RM 4 0 0) s m args below meth c 5 (ZM X below args s 0 0 (QHv r)) f n cells slots 35 [some (.ref v0), none, some (va_rf v2), some (.int v3), none] []) (hc : cells + 0 ≤ 0) (hs : slots + 0 ≤ 0) (h : mX1_find_b82 rec35 v0 v2 v3 f n = some r) : AW X p l e (RM 4 0 0) s m args below meth c 5 (ZM X below args s 0 0 (QHv r)) f n cells slots 82 [some (.ref v0), none, some (va_rf v2), some (.int v3), none] [] := by
  have h : ((v2).bind fun j1 => ((gI f j1 7 2).bind fun x2 => (if x2 = (-1 : Int32) then ((gR f v0 1 0).bind fun x21 => ((x21).bind fun j22 => rCk (isO f j22 5) (((mX5_size j22 f n).bind fun r24 => ((gR r24.2.1 v0 1 0).bind fun x26 => ((gR r24.2.1 v0 1 1).bind fun x27 => rCk (isO r24.2.1 v0 1) (((mX1_readOuter v0 x26 x27 r24.2.1 r24.2.2).bind fun r29 => ((gR r29.2.1 v0 1 4).bind fun x31 => ((x31).bind fun j32 => ((gI r29.2.1 j32 6 1).bind fun x33 => ((gR r29.2.1 v0 1 4).bind fun x34 => ((x34).bind fun j35 => ((gI r29.2.1 j35 6 2).bind fun x36 => rCk (isO r29.2.1 v0 1) (((mX1_settle v0 (some j1) r24.1 x33 x36 r29.2.1 r29.2.2).bind fun r38 => mX1_find_b168 rec35 v0 (some j1) v3 r38.2.1 r38.2.2)))))))))))))))) else ((gR f v0 1 6).bind fun x3 => ((x3).bind fun j4 => rCk (isO f j4 5) (((mX5_cutTo j4 (0 : Int32) f n).bind fun r6 => ((gR r6.2.1 v0 1 7).bind fun x8 => ((x8).bind fun j9 => rCk (isO r6.2.1 j9 5) (((mX5_cutTo j9 (0 : Int32) r6.2.1 r6.2.2).bind fun r11 => ((gR r11.2.1 v0 1 6).bind fun x13 => ((gR r11.2.1 v0 1 7).bind fun x14 => rCk (isO r11.2.1 v0 1) (((mX1_readOuter v0 x13 x14 r11.2.1 r11.2.2).bind fun r16 => rCk (isO r16.2.1 v0 1) (((mX1_takeWithin v0 (some j1) r16.2.1 r16.2.2).bind fun r19 => mX1_find_b168 rec35 v0 (some j1) v3 r19.2.1 r19.2.2))))))))))))))))) = some r := h
  refine aw_aload_n C dX1_find_82 rfl (rf_or v2) ?_
  obtain ⟨j1, hj1, h⟩ := Option.bind_eq_some_iff.mp h
  rw [hj1]
  obtain ⟨x2, hx2, h⟩ := Option.bind_eq_some_iff.mp h
  refine ah_getI C gf_X1_70 hx2 dX1_find_83 ?_
  refine aw_iconst C (-1) dX1_find_86 ki_m1 ?_
  refine aw_icmp_ne C 135 dX1_find_87 (by decide) (fun q => ?_) (fun q => ?_)
  · rw [if_neg q] at h
    refine aw_ald_n C dX1_find_135 rfl ?_
    obtain ⟨x3, hx3, h⟩ := Option.bind_eq_some_iff.mp h
    refine ah_getR C gf_X1_23 hx3 dX1_find_136 ?_
    refine aw_iconst C 0 dX1_find_139 ki_0 ?_
    obtain ⟨j4, hj4, h⟩ := Option.bind_eq_some_iff.mp h
    rw [hj4]
    obtain ⟨hb5, h⟩ := ck_some h
    obtain ⟨r6, hr6, h⟩ := Option.bind_eq_some_iff.mp h
    obtain ⟨fs7, hf7⟩ := isO_ex hb5
    refine aw_callV C (ci := 5) (b := j4) [.int (0 : Int32)] mv_X1_50 rfl rfl hf7 (rmX5_cutTo hr6) rfl dX1_find_140 (Nat.le_of_ble_eq_true rfl) (Nat.le_of_ble_eq_true rfl) rfl (Nat.le_of_ble_eq_true rfl) (show cells + 0 ≤ 0 by omega) (show slots + 0 ≤ 0 by omega) (fun v9 f9 n9 hh => ?_)
    obtain ⟨rfl, rfl, rfl⟩ := hh
    refine aw_ald_n C dX1_find_143 rfl ?_
    obtain ⟨x8, hx8, h⟩ := Option.bind_eq_some_iff.mp h
    refine ah_getR C gf_X1_26 hx8 dX1_find_144 ?_
    refine aw_iconst C 0 dX1_find_147 ki_0 ?_
    obtain ⟨j9, hj9, h⟩ := Option.bind_eq_some_iff.mp h
    rw [hj9]
    obtain ⟨hb10, h⟩ := ck_some h
    obtain ⟨r11, hr11, h⟩ := Option.bind_eq_some_iff.mp h
    obtain ⟨fs12, hf12⟩ := isO_ex hb10
    refine aw_callV C (ci := 5) (b := j9) [.int (0 : Int32)] mv_X1_50 rfl rfl hf12 (rmX5_cutTo hr11) rfl dX1_find_148 (Nat.le_of_ble_eq_true rfl) (Nat.le_of_ble_eq_true rfl) rfl (Nat.le_of_ble_eq_true rfl) (show (cells + 0) + 0 ≤ 0 by omega) (show (slots + 0) + 0 ≤ 0 by omega) (fun v9 f9 n9 hh => ?_)
    obtain ⟨rfl, rfl, rfl⟩ := hh
    refine aw_ald_n C dX1_find_151 rfl ?_
    refine aw_ald_n C dX1_find_152 rfl ?_
    obtain ⟨x13, hx13, h⟩ := Option.bind_eq_some_iff.mp h
    refine ah_getR C gf_X1_23 hx13 dX1_find_153 ?_
    refine aw_ald_n C dX1_find_156 rfl ?_
    obtain ⟨x14, hx14, h⟩ := Option.bind_eq_some_iff.mp h
    refine ah_getR C gf_X1_26 hx14 dX1_find_157 ?_
    obtain ⟨hb15, h⟩ := ck_some h
    obtain ⟨r16, hr16, h⟩ := Option.bind_eq_some_iff.mp h
    obtain ⟨fs17, hf17⟩ := isO_ex hb15
    refine aw_callV C (ci := 1) (b := v0) [va_rf x13, va_rf x14] mv_X1_77 rfl rfl hf17 (rmX1_readOuter hr16) rfl dX1_find_160 (Nat.le_of_ble_eq_true rfl) (Nat.le_of_ble_eq_true rfl) rfl (Nat.le_of_ble_eq_true rfl) (show ((cells + 0) + 0) + 0 ≤ 0 by omega) (show ((slots + 0) + 0) + 0 ≤ 0 by omega) (fun v9 f9 n9 hh => ?_)
    obtain ⟨rfl, rfl, rfl⟩ := hh
    refine aw_ald_n C dX1_find_163 rfl ?_
    refine aw_ald_n C dX1_find_164 rfl ?_
    obtain ⟨hb18, h⟩ := ck_some h
    obtain ⟨r19, hr19, h⟩ := Option.bind_eq_some_iff.mp h
    obtain ⟨fs20, hf20⟩ := isO_ex hb18
    refine aw_callV C (ci := 1) (b := v0) [.ref j1] mv_X1_91 rfl rfl hf20 (rmX1_takeWithin hr19) rfl dX1_find_165 (Nat.le_of_ble_eq_true rfl) (Nat.le_of_ble_eq_true rfl) rfl (Nat.le_of_ble_eq_true rfl) (show (((cells + 0) + 0) + 0) + 0 ≤ 0 by omega) (show (((slots + 0) + 0) + 0) + 0 ≤ 0 by omega) (fun v9 f9 n9 hh => ?_)
    obtain ⟨rfl, rfl, rfl⟩ := hh
    refine aw_fl [some (.ref v0), none, some (va_rf (some j1)), some (.int v3), none] ⟨rfl, ⟨rfl, ⟨rfl, trivial⟩⟩⟩ ?_
    exact rmX1_find_b168 C Hr35 (by omega) (by omega) h
  · rw [if_pos q] at h
    refine aw_ald_n C dX1_find_90 rfl ?_
    obtain ⟨x21, hx21, h⟩ := Option.bind_eq_some_iff.mp h
    refine ah_getR C gf_X1_14 hx21 dX1_find_91 ?_
    obtain ⟨j22, hj22, h⟩ := Option.bind_eq_some_iff.mp h
    rw [hj22]
    obtain ⟨hb23, h⟩ := ck_some h
    obtain ⟨r24, hr24, h⟩ := Option.bind_eq_some_iff.mp h
    obtain ⟨fs25, hf25⟩ := isO_ex hb23
    refine aw_callV C (ci := 5) (b := j22) [] mv_X1_73 rfl rfl hf25 (rmX5_size hr24) rfl dX1_find_94 (Nat.le_of_ble_eq_true rfl) (Nat.le_of_ble_eq_true rfl) rfl (Nat.le_of_ble_eq_true rfl) (show cells + 0 ≤ 0 by omega) (show slots + 0 ≤ 0 by omega) (fun v9 f9 n9 hh => ?_)
    obtain ⟨rfl, rfl, rfl⟩ := hh
    refine aw_istore C dX1_find_97 (by decide) rfl ?_
    refine aw_nl [some (.ref v0), none, some (.ref j1), some (.int v3), some (.int r24.1)] rfl ?_
    refine aw_ald_n C dX1_find_99 rfl ?_
    refine aw_ald_n C dX1_find_100 rfl ?_
    obtain ⟨x26, hx26, h⟩ := Option.bind_eq_some_iff.mp h
    refine ah_getR C gf_X1_14 hx26 dX1_find_101 ?_
    refine aw_ald_n C dX1_find_104 rfl ?_
    obtain ⟨x27, hx27, h⟩ := Option.bind_eq_some_iff.mp h
    refine ah_getR C gf_X1_20 hx27 dX1_find_105 ?_
    obtain ⟨hb28, h⟩ := ck_some h
    obtain ⟨r29, hr29, h⟩ := Option.bind_eq_some_iff.mp h
    obtain ⟨fs30, hf30⟩ := isO_ex hb28
    refine aw_callV C (ci := 1) (b := v0) [va_rf x26, va_rf x27] mv_X1_77 rfl rfl hf30 (rmX1_readOuter hr29) rfl dX1_find_108 (Nat.le_of_ble_eq_true rfl) (Nat.le_of_ble_eq_true rfl) rfl (Nat.le_of_ble_eq_true rfl) (show (cells + 0) + 0 ≤ 0 by omega) (show (slots + 0) + 0 ≤ 0 by omega) (fun v9 f9 n9 hh => ?_)
    obtain ⟨rfl, rfl, rfl⟩ := hh
    refine aw_ald_n C dX1_find_111 rfl ?_
    refine aw_ald_n C dX1_find_112 rfl ?_
    refine aw_iload C dX1_find_113 rfl ?_
    refine aw_ald_n C dX1_find_115 rfl ?_
    obtain ⟨x31, hx31, h⟩ := Option.bind_eq_some_iff.mp h
    refine ah_getR C gf_X1_32 hx31 dX1_find_116 ?_
    obtain ⟨j32, hj32, h⟩ := Option.bind_eq_some_iff.mp h
    rw [hj32]
    obtain ⟨x33, hx33, h⟩ := Option.bind_eq_some_iff.mp h
    refine ah_getI C gf_X1_81 hx33 dX1_find_119 ?_
    refine aw_ald_n C dX1_find_122 rfl ?_
    obtain ⟨x34, hx34, h⟩ := Option.bind_eq_some_iff.mp h
    refine ah_getR C gf_X1_32 hx34 dX1_find_123 ?_
    obtain ⟨j35, hj35, h⟩ := Option.bind_eq_some_iff.mp h
    rw [hj35]
    obtain ⟨x36, hx36, h⟩ := Option.bind_eq_some_iff.mp h
    refine ah_getI C gf_X1_84 hx36 dX1_find_126 ?_
    obtain ⟨hb37, h⟩ := ck_some h
    obtain ⟨r38, hr38, h⟩ := Option.bind_eq_some_iff.mp h
    obtain ⟨fs39, hf39⟩ := isO_ex hb37
    refine aw_callV C (ci := 1) (b := v0) [.ref j1, .int r24.1, .int x33, .int x36] mv_X1_87 rfl rfl hf39 (rmX1_settle hr38) rfl dX1_find_129 (Nat.le_of_ble_eq_true rfl) (Nat.le_of_ble_eq_true rfl) rfl (Nat.le_of_ble_eq_true rfl) (show ((cells + 0) + 0) + 0 ≤ 0 by omega) (show ((slots + 0) + 0) + 0 ≤ 0 by omega) (fun v9 f9 n9 hh => ?_)
    obtain ⟨rfl, rfl, rfl⟩ := hh
    refine aw_goto C 168 dX1_find_132 (by decide) ?_
    refine aw_fl [some (.ref v0), none, some (va_rf (some j1)), some (.int v3), none] ⟨rfl, ⟨rfl, ⟨rfl, trivial⟩⟩⟩ ?_
    exact rmX1_find_b168 C Hr35 (by omega) (by omega) h
def mX1_find_l35 : Nat → Nat → (Option Nat) → Int32 → AH → Nat → Option (Int32 × HpN)
  | 0, _, _, _, _, _ => none
  | d + 1, v0, v2, v3, f, n => (if (600 : Int32) < v3 then mX1_find_b174 f n else ((gI f v0 1 3).bind fun x1 => ((gR f v0 1 2).bind fun x2 => ((x2).bind fun j3 => ((gL f j3).bind fun x4 => (if (nI x4) ≤ x1 then mX1_find_b174 f n else ((gR f v0 1 4).bind fun x5 => ((x5).bind fun j6 => rCk (isO f j6 6) (((mX6_next j6 f n).bind fun r8 => (if r8.1 = (0 : Int32) then mX1_find_b174 r8.2.1 r8.2.2 else ((v2).bind fun j10 => ((gI r8.2.1 j10 7 1).bind fun x11 => (if x11 = (0 : Int32) then ((gR r8.2.1 v0 1 4).bind fun x12 => rCk (isO r8.2.1 j10 7) (((mX7_isLocked j10 x12 r8.2.1 r8.2.2).bind fun r14 => (if r14.1 = (0 : Int32) then mX1_find_b82 (fun v0 v2 v3 f n => mX1_find_l35 d v0 v2 v3 f n) v0 (some j10) v3 r14.2.1 r14.2.2 else mX1_find_b168 (fun v0 v2 v3 f n => mX1_find_l35 d v0 v2 v3 f n) v0 (some j10) v3 r14.2.1 r14.2.2)))) else mX1_find_b82 (fun v0 v2 v3 f n => mX1_find_l35 d v0 v2 v3 f n) v0 (some j10) v3 r8.2.1 r8.2.2))))))))))))))
set_option maxHeartbeats 1000000 in
theorem rmX1_find_l35 {X : GX} {p : Program} {l : Launch} {e : Env} {s : State} {m : MethodId} {args : Array Value} {below : List Frame} {meth : Method} {c : Code} {r : Int32 × HpN} (C : CC X p l (RM 4 0 0) s m args meth c RX1 cX1_find 5 none) : ∀ (d : Nat) (v0 : Nat) (v2 : Option Nat) (v3 : Int32) (f : AH) (n cells slots : Nat) (_ : cells + 0 ≤ 0) (_ : slots + 0 ≤ 0) (_ : mX1_find_l35 d v0 v2 v3 f n = some r), AW X p l e (RM 4 0 0) s m args below meth c 5 (ZM X below args s 0 0 (QHv r)) f n cells slots 35 [some (.ref v0), none, some (va_rf v2), some (.int v3), none] [] := by
  intro d
  induction d with
  | zero =>
    intro v0 v2 v3 f n cells slots hc hs h
    exact nomatch (show (none : Option (Int32 × HpN)) = some r from h)
  | succ d ih =>
    intro v0 v2 v3 f n cells slots hc hs h
    have h : (if (600 : Int32) < v3 then mX1_find_b174 f n else ((gI f v0 1 3).bind fun x1 => ((gR f v0 1 2).bind fun x2 => ((x2).bind fun j3 => ((gL f j3).bind fun x4 => (if (nI x4) ≤ x1 then mX1_find_b174 f n else ((gR f v0 1 4).bind fun x5 => ((x5).bind fun j6 => rCk (isO f j6 6) (((mX6_next j6 f n).bind fun r8 => (if r8.1 = (0 : Int32) then mX1_find_b174 r8.2.1 r8.2.2 else ((v2).bind fun j10 => ((gI r8.2.1 j10 7 1).bind fun x11 => (if x11 = (0 : Int32) then ((gR r8.2.1 v0 1 4).bind fun x12 => rCk (isO r8.2.1 j10 7) (((mX7_isLocked j10 x12 r8.2.1 r8.2.2).bind fun r14 => (if r14.1 = (0 : Int32) then mX1_find_b82 (fun v0 v2 v3 f n => mX1_find_l35 d v0 v2 v3 f n) v0 (some j10) v3 r14.2.1 r14.2.2 else mX1_find_b168 (fun v0 v2 v3 f n => mX1_find_l35 d v0 v2 v3 f n) v0 (some j10) v3 r14.2.1 r14.2.2)))) else mX1_find_b82 (fun v0 v2 v3 f n => mX1_find_l35 d v0 v2 v3 f n) v0 (some j10) v3 r8.2.1 r8.2.2)))))))))))))) = some r := h
    refine aw_iload_n C dX1_find_35 rfl ?_
    refine aw_sipush C 600 dX1_find_36 ks_600 ?_
    refine aw_icmp_gt C 174 dX1_find_39 (by decide) (fun q => ?_) (fun q => ?_)
    · rw [if_pos q] at h
      refine aw_fl [none, none, none, none, none] trivial ?_
      exact rmX1_find_b174 C (by omega) (by omega) h
    · rw [if_neg q] at h
      refine aw_ald_n C dX1_find_42 rfl ?_
      obtain ⟨x1, hx1, h⟩ := Option.bind_eq_some_iff.mp h
      refine ah_getI C gf_X1_46 hx1 dX1_find_43 ?_
      refine aw_ald_n C dX1_find_46 rfl ?_
      obtain ⟨x2, hx2, h⟩ := Option.bind_eq_some_iff.mp h
      refine ah_getR C gf_X1_41 hx2 dX1_find_47 ?_
      obtain ⟨j3, hj3, h⟩ := Option.bind_eq_some_iff.mp h
      rw [hj3]
      obtain ⟨x4, hx4, h⟩ := Option.bind_eq_some_iff.mp h
      refine ah_len C hx4 dX1_find_50 ?_
      refine aw_icmp_ge C 174 dX1_find_51 (by decide) (fun q => ?_) (fun q => ?_)
      · rw [if_pos q] at h
        refine aw_fl [none, none, none, none, none] trivial ?_
        exact rmX1_find_b174 C (by omega) (by omega) h
      · rw [if_neg q] at h
        refine aw_ald_n C dX1_find_54 rfl ?_
        obtain ⟨x5, hx5, h⟩ := Option.bind_eq_some_iff.mp h
        refine ah_getR C gf_X1_32 hx5 dX1_find_55 ?_
        obtain ⟨j6, hj6, h⟩ := Option.bind_eq_some_iff.mp h
        rw [hj6]
        obtain ⟨hb7, h⟩ := ck_some h
        obtain ⟨r8, hr8, h⟩ := Option.bind_eq_some_iff.mp h
        obtain ⟨fs9, hf9⟩ := isO_ex hb7
        refine aw_callV C (ci := 6) (b := j6) [] mv_X1_62 rfl rfl hf9 (rmX6_next hr8) rfl dX1_find_58 (Nat.le_of_ble_eq_true rfl) (Nat.le_of_ble_eq_true rfl) rfl (Nat.le_of_ble_eq_true rfl) (show cells + 0 ≤ 0 by omega) (show slots + 0 ≤ 0 by omega) (fun v9 f9 n9 hh => ?_)
        obtain ⟨rfl, rfl, rfl⟩ := hh
        refine aw_if_eq C 174 dX1_find_61 (by decide) (fun q => ?_) (fun q => ?_)
        · rw [if_pos q] at h
          refine aw_fl [none, none, none, none, none] trivial ?_
          exact rmX1_find_b174 C (by omega) (by omega) h
        · rw [if_neg q] at h
          refine aw_aload_n C dX1_find_64 rfl (rf_or v2) ?_
          obtain ⟨j10, hj10, h⟩ := Option.bind_eq_some_iff.mp h
          rw [hj10]
          obtain ⟨x11, hx11, h⟩ := Option.bind_eq_some_iff.mp h
          refine ah_getI C gf_X1_53 hx11 dX1_find_65 ?_
          refine aw_if_ne C 82 dX1_find_68 (by decide) (fun q => ?_) (fun q => ?_)
          · rw [if_neg q] at h
            refine aw_fl [some (.ref v0), none, some (va_rf (some j10)), some (.int v3), none] ⟨rfl, ⟨rfl, ⟨rfl, trivial⟩⟩⟩ ?_
            exact rmX1_find_b82 C (fun v0 v2 v3 f n cells slots hc hs h => ih v0 v2 v3 f n cells slots hc hs h) (by omega) (by omega) h
          · rw [if_pos q] at h
            refine aw_ald_n C dX1_find_71 rfl ?_
            refine aw_ald_n C dX1_find_72 rfl ?_
            obtain ⟨x12, hx12, h⟩ := Option.bind_eq_some_iff.mp h
            refine ah_getR C gf_X1_32 hx12 dX1_find_73 ?_
            obtain ⟨hb13, h⟩ := ck_some h
            obtain ⟨r14, hr14, h⟩ := Option.bind_eq_some_iff.mp h
            obtain ⟨fs15, hf15⟩ := isO_ex hb13
            refine aw_callV C (ci := 7) (b := j10) [va_rf x12] mv_X1_66 rfl rfl hf15 (rmX7_isLocked hr14) rfl dX1_find_76 (Nat.le_of_ble_eq_true rfl) (Nat.le_of_ble_eq_true rfl) rfl (Nat.le_of_ble_eq_true rfl) (show (cells + 0) + 0 ≤ 0 by omega) (show (slots + 0) + 0 ≤ 0 by omega) (fun v9 f9 n9 hh => ?_)
            obtain ⟨rfl, rfl, rfl⟩ := hh
            refine aw_if_ne C 168 dX1_find_79 (by decide) (fun q => ?_) (fun q => ?_)
            · rw [if_neg q] at h
              refine aw_fl [some (.ref v0), none, some (va_rf (some j10)), some (.int v3), none] ⟨rfl, ⟨rfl, ⟨rfl, trivial⟩⟩⟩ ?_
              exact rmX1_find_b168 C (fun v0 v2 v3 f n cells slots hc hs h => ih v0 v2 v3 f n cells slots hc hs h) (by omega) (by omega) h
            · rw [if_pos q] at h
              refine aw_fl [some (.ref v0), none, some (va_rf (some j10)), some (.int v3), none] ⟨rfl, ⟨rfl, ⟨rfl, trivial⟩⟩⟩ ?_
              exact rmX1_find_b82 C (fun v0 v2 v3 f n cells slots hc hs h => ih v0 v2 v3 f n cells slots hc hs h) (by omega) (by omega) h
def mX1_find (v0 : Nat) (v1 : Option Nat) (v2 : Option Nat) (f : AH) (n : Nat) : Option (Int32 × HpN) := ((pO f v0 1 3 (.int (0 : Int32))).bind fun f1 => ((gR f1 v0 1 0).bind fun x2 => ((x2).bind fun j3 => rCk (isO f1 j3 5) (((mX5_cutTo j3 (0 : Int32) f1 n).bind fun r5 => ((gR r5.2.1 v0 1 1).bind fun x7 => ((x7).bind fun j8 => rCk (isO r5.2.1 j8 5) (((mX5_cutTo j8 (0 : Int32) r5.2.1 r5.2.2).bind fun r10 => ((gR r10.2.1 v0 1 4).bind fun x12 => ((v2).bind fun j13 => ((gI r10.2.1 j13 7 1).bind fun x14 => ((x12).bind fun j15 => rCk (isO r10.2.1 j15 6) (((mX6_start j15 v1 x14 r10.2.1 r10.2.2).bind fun r17 => mX1_find_l35 rFU v0 (some j13) (0 : Int32) r17.2.1 r17.2.2)))))))))))))))
set_option maxHeartbeats 1000000 in
theorem rmX1_find {X : GX} {l : Launch} {r : Int32 × HpN} {v0 : Nat} {v1 : Option Nat} {v2 : Option Nat} {f : AH} {n : Nat} (h : mX1_find v0 v1 v2 f n = some r) : AM X l yX1_find cX1_find 5 none 4 0 0 [.ref v0, va_rf v1, va_rf v2] f n (QHv r) := by
  have h : ((pO f v0 1 3 (.int (0 : Int32))).bind fun f1 => ((gR f1 v0 1 0).bind fun x2 => ((x2).bind fun j3 => rCk (isO f1 j3 5) (((mX5_cutTo j3 (0 : Int32) f1 n).bind fun r5 => ((gR r5.2.1 v0 1 1).bind fun x7 => ((x7).bind fun j8 => rCk (isO r5.2.1 j8 5) (((mX5_cutTo j8 (0 : Int32) r5.2.1 r5.2.2).bind fun r10 => ((gR r10.2.1 v0 1 4).bind fun x12 => ((v2).bind fun j13 => ((gI r10.2.1 j13 7 1).bind fun x14 => ((x12).bind fun j15 => rCk (isO r10.2.1 j15 6) (((mX6_start j15 v1 x14 r10.2.1 r10.2.2).bind fun r17 => mX1_find_l35 rFU v0 (some j13) (0 : Int32) r17.2.1 r17.2.2))))))))))))))) = some r := h
  refine AM.of (by decide +kernel) (all1 rfl (all1 (rf_cat _) (all1 (rf_cat _) rfl))) (Nat.le_of_ble_eq_true rfl) (fun p e s m args below meth c C hnm => ?_)
  refine aw_nl [some (.ref v0), some (va_rf v1), some (va_rf v2), none, none] rfl ?_
  refine aw_ald_n C dX1_find_0 rfl ?_
  refine aw_iconst C 0 dX1_find_1 ki_0 ?_
  obtain ⟨f1, hf1, h⟩ := Option.bind_eq_some_iff.mp h
  refine ah_put C gf_X1_46 cf1 nf1_3 rfl rfl hf1 dX1_find_2 ?_
  refine aw_ald_n C dX1_find_5 rfl ?_
  obtain ⟨x2, hx2, h⟩ := Option.bind_eq_some_iff.mp h
  refine ah_getR C gf_X1_14 hx2 dX1_find_6 ?_
  refine aw_iconst C 0 dX1_find_9 ki_0 ?_
  obtain ⟨j3, hj3, h⟩ := Option.bind_eq_some_iff.mp h
  rw [hj3]
  obtain ⟨hb4, h⟩ := ck_some h
  obtain ⟨r5, hr5, h⟩ := Option.bind_eq_some_iff.mp h
  obtain ⟨fs6, hf6⟩ := isO_ex hb4
  refine aw_callV C (ci := 5) (b := j3) [.int (0 : Int32)] mv_X1_50 rfl rfl hf6 (rmX5_cutTo hr5) rfl dX1_find_10 (Nat.le_of_ble_eq_true rfl) (Nat.le_of_ble_eq_true rfl) rfl (Nat.le_of_ble_eq_true rfl) (show 0 + 0 ≤ 0 by omega) (show 0 + 0 ≤ 0 by omega) (fun v9 f9 n9 hh => ?_)
  obtain ⟨rfl, rfl, rfl⟩ := hh
  refine aw_ald_n C dX1_find_13 rfl ?_
  obtain ⟨x7, hx7, h⟩ := Option.bind_eq_some_iff.mp h
  refine ah_getR C gf_X1_20 hx7 dX1_find_14 ?_
  refine aw_iconst C 0 dX1_find_17 ki_0 ?_
  obtain ⟨j8, hj8, h⟩ := Option.bind_eq_some_iff.mp h
  rw [hj8]
  obtain ⟨hb9, h⟩ := ck_some h
  obtain ⟨r10, hr10, h⟩ := Option.bind_eq_some_iff.mp h
  obtain ⟨fs11, hf11⟩ := isO_ex hb9
  refine aw_callV C (ci := 5) (b := j8) [.int (0 : Int32)] mv_X1_50 rfl rfl hf11 (rmX5_cutTo hr10) rfl dX1_find_18 (Nat.le_of_ble_eq_true rfl) (Nat.le_of_ble_eq_true rfl) rfl (Nat.le_of_ble_eq_true rfl) (show (0 + 0) + 0 ≤ 0 by omega) (show (0 + 0) + 0 ≤ 0 by omega) (fun v9 f9 n9 hh => ?_)
  obtain ⟨rfl, rfl, rfl⟩ := hh
  refine aw_ald_n C dX1_find_21 rfl ?_
  obtain ⟨x12, hx12, h⟩ := Option.bind_eq_some_iff.mp h
  refine ah_getR C gf_X1_32 hx12 dX1_find_22 ?_
  refine aw_aload_n C dX1_find_25 rfl (rf_or v1) ?_
  refine aw_aload_n C dX1_find_26 rfl (rf_or v2) ?_
  obtain ⟨j13, hj13, h⟩ := Option.bind_eq_some_iff.mp h
  rw [hj13]
  obtain ⟨x14, hx14, h⟩ := Option.bind_eq_some_iff.mp h
  refine ah_getI C gf_X1_53 hx14 dX1_find_27 ?_
  obtain ⟨j15, hj15, h⟩ := Option.bind_eq_some_iff.mp h
  rw [hj15]
  obtain ⟨hb16, h⟩ := ck_some h
  obtain ⟨r17, hr17, h⟩ := Option.bind_eq_some_iff.mp h
  obtain ⟨fs18, hf18⟩ := isO_ex hb16
  refine aw_callV C (ci := 6) (b := j15) [va_rf v1, .int x14] mv_X1_58 rfl rfl hf18 (rmX6_start hr17) rfl dX1_find_30 (Nat.le_of_ble_eq_true rfl) (Nat.le_of_ble_eq_true rfl) rfl (Nat.le_of_ble_eq_true rfl) (show ((0 + 0) + 0) + 0 ≤ 0 by omega) (show ((0 + 0) + 0) + 0 ≤ 0 by omega) (fun v9 f9 n9 hh => ?_)
  obtain ⟨rfl, rfl, rfl⟩ := hh
  refine aw_iconst C 0 dX1_find_33 ki_0 ?_
  refine aw_istore_n C dX1_find_34 (by decide) rfl ?_
  refine aw_nl [some (.ref v0), some (va_rf v1), some (.ref j13), some (.int (0 : Int32)), none] rfl ?_
  refine aw_fl [some (.ref v0), none, some (va_rf (some j13)), some (.int (0 : Int32)), none] ⟨rfl, ⟨rfl, ⟨rfl, trivial⟩⟩⟩ ?_
  exact rmX1_find_l35 C rFU v0 (some j13) (0 : Int32) r17.2.1 r17.2.2 _ _ (by omega) (by omega) h
def mX1_size (v0 : Nat) (f : AH) (n : Nat) : Option (Int32 × HpN) := ((gI f v0 1 3).bind fun x1 => some (x1, (f, n)))
set_option maxHeartbeats 1000000 in
theorem rmX1_size {X : GX} {l : Launch} {r : Int32 × HpN} {v0 : Nat} {f : AH} {n : Nat} (h : mX1_size v0 f n = some r) : AM X l yX1_size cX1_size 1 (some .int) 0 0 0 [.ref v0] f n (QHi r) := by
  have h : ((gI f v0 1 3).bind fun x1 => some (x1, (f, n))) = some r := h
  refine AM.of (by decide +kernel) rfl (Nat.le_of_ble_eq_true rfl) (fun p e s m args below meth c C hnm => ?_)
  refine aw_nl [some (.ref v0)] rfl ?_
  refine aw_ald_n C dX1_size_0 rfl ?_
  obtain ⟨x1, hx1, h⟩ := Option.bind_eq_some_iff.mp h
  refine ah_getI C gf_X1_46 hx1 dX1_size_1 ?_
  cases h
  exact aw_iret C rfl rfl dX1_size_4 (by omega) (by omega) ⟨rfl, rfl, rfl⟩
def mX1_get_b31 (s0 : Option Nat) (f : AH) (n : Nat) : Option (Option Nat × HpN) := some (s0, (f, n))
set_option maxHeartbeats 1000000 in
theorem rmX1_get_b31 {X : GX} {p : Program} {l : Launch} {e : Env} {s : State} {m : MethodId} {args : Array Value} {below : List Frame} {meth : Method} {c : Code} {r : Option Nat × HpN} {s0 : Option Nat} {f : AH} {n cells slots : Nat} (C : CC X p l (RM 0 0 0) s m args meth c RX1 cX1_get 2 (some (.object "PieceFiles$Piece"))) (hc : cells + 0 ≤ 0) (hs : slots + 0 ≤ 0) (h : mX1_get_b31 s0 f n = some r) : AW X p l e (RM 0 0 0) s m args below meth c 2 (ZM X below args s 0 0 (QHr r)) f n cells slots 31 [none, none] [va_rf s0] := by
  have h : some (s0, (f, n)) = some r := h
  cases h
  exact aw_aret C rfl (rf_or _) dX1_get_31 (by omega) (by omega) ⟨rfl, rfl, rfl⟩
def mX1_get_b30 (f : AH) (n : Nat) : Option (Option Nat × HpN) := mX1_get_b31 (none : Option Nat) f n
set_option maxHeartbeats 1000000 in
theorem rmX1_get_b30 {X : GX} {p : Program} {l : Launch} {e : Env} {s : State} {m : MethodId} {args : Array Value} {below : List Frame} {meth : Method} {c : Code} {r : Option Nat × HpN} {f : AH} {n cells slots : Nat} (C : CC X p l (RM 0 0 0) s m args meth c RX1 cX1_get 2 (some (.object "PieceFiles$Piece"))) (hc : cells + 0 ≤ 0) (hs : slots + 0 ≤ 0) (h : mX1_get_b30 f n = some r) : AW X p l e (RM 0 0 0) s m args below meth c 2 (ZM X below args s 0 0 (QHr r)) f n cells slots 30 [none, none] [] := by
  have h : mX1_get_b31 (none : Option Nat) f n = some r := h
  refine aw_null C dX1_get_30 ?_
  refine aw_fl [none, none] trivial ?_
  exact rmX1_get_b31 C (by omega) (by omega) h
def mX1_get (v0 : Nat) (v1 : Int32) (f : AH) (n : Nat) : Option (Option Nat × HpN) := (if v1 < (0 : Int32) then mX1_get_b30 f n else ((gI f v0 1 3).bind fun x1 => (if x1 ≤ v1 then mX1_get_b30 f n else ((gR f v0 1 2).bind fun x2 => ((x2).bind fun j3 => ((gL f j3).bind fun x4 => (if (nI x4) ≤ v1 then mX1_get_b30 f n else ((gR f v0 1 2).bind fun x5 => ((x5).bind fun j6 => ((gRA f j6 v1).bind fun x7 => mX1_get_b31 x7 f n))))))))))
set_option maxHeartbeats 1000000 in
theorem rmX1_get {X : GX} {l : Launch} {r : Option Nat × HpN} {v0 : Nat} {v1 : Int32} {f : AH} {n : Nat} (h : mX1_get v0 v1 f n = some r) : AM X l yX1_get cX1_get 2 (some (.object "PieceFiles$Piece")) 0 0 0 [.ref v0, .int v1] f n (QHr r) := by
  have h : (if v1 < (0 : Int32) then mX1_get_b30 f n else ((gI f v0 1 3).bind fun x1 => (if x1 ≤ v1 then mX1_get_b30 f n else ((gR f v0 1 2).bind fun x2 => ((x2).bind fun j3 => ((gL f j3).bind fun x4 => (if (nI x4) ≤ v1 then mX1_get_b30 f n else ((gR f v0 1 2).bind fun x5 => ((x5).bind fun j6 => ((gRA f j6 v1).bind fun x7 => mX1_get_b31 x7 f n)))))))))) = some r := h
  refine AM.of (by decide +kernel) rfl (Nat.le_of_ble_eq_true rfl) (fun p e s m args below meth c C hnm => ?_)
  refine aw_nl [some (.ref v0), some (.int v1)] rfl ?_
  refine aw_iload_n C dX1_get_0 rfl ?_
  refine aw_if_lt C 30 dX1_get_1 (by decide) (fun q => ?_) (fun q => ?_)
  · rw [if_pos q] at h
    refine aw_fl [none, none] trivial ?_
    exact rmX1_get_b30 C (by omega) (by omega) h
  · rw [if_neg q] at h
    refine aw_iload_n C dX1_get_4 rfl ?_
    refine aw_ald_n C dX1_get_5 rfl ?_
    obtain ⟨x1, hx1, h⟩ := Option.bind_eq_some_iff.mp h
    refine ah_getI C gf_X1_46 hx1 dX1_get_6 ?_
    refine aw_icmp_ge C 30 dX1_get_9 (by decide) (fun q => ?_) (fun q => ?_)
    · rw [if_pos q] at h
      refine aw_fl [none, none] trivial ?_
      exact rmX1_get_b30 C (by omega) (by omega) h
    · rw [if_neg q] at h
      refine aw_iload_n C dX1_get_12 rfl ?_
      refine aw_ald_n C dX1_get_13 rfl ?_
      obtain ⟨x2, hx2, h⟩ := Option.bind_eq_some_iff.mp h
      refine ah_getR C gf_X1_41 hx2 dX1_get_14 ?_
      obtain ⟨j3, hj3, h⟩ := Option.bind_eq_some_iff.mp h
      rw [hj3]
      obtain ⟨x4, hx4, h⟩ := Option.bind_eq_some_iff.mp h
      refine ah_len C hx4 dX1_get_17 ?_
      refine aw_icmp_ge C 30 dX1_get_18 (by decide) (fun q => ?_) (fun q => ?_)
      · rw [if_pos q] at h
        refine aw_fl [none, none] trivial ?_
        exact rmX1_get_b30 C (by omega) (by omega) h
      · rw [if_neg q] at h
        refine aw_ald_n C dX1_get_21 rfl ?_
        obtain ⟨x5, hx5, h⟩ := Option.bind_eq_some_iff.mp h
        refine ah_getR C gf_X1_41 hx5 dX1_get_22 ?_
        refine aw_iload_n C dX1_get_25 rfl ?_
        obtain ⟨j6, hj6, h⟩ := Option.bind_eq_some_iff.mp h
        rw [hj6]
        obtain ⟨x7, hx7, h⟩ := Option.bind_eq_some_iff.mp h
        refine ah_aald C hx7 dX1_get_26 ?_
        refine aw_goto C 31 dX1_get_27 (by decide) ?_
        refine aw_fl [none, none] trivial ?_
        exact rmX1_get_b31 C (by omega) (by omega) h
def mX7_toldFor_b23 (s0 : Option Nat) (f : AH) (n : Nat) : Option (Option Nat × HpN) := some (s0, (f, n))
set_option maxHeartbeats 1000000 in
theorem rmX7_toldFor_b23 {X : GX} {p : Program} {l : Launch} {e : Env} {s : State} {m : MethodId} {args : Array Value} {below : List Frame} {meth : Method} {c : Code} {r : Option Nat × HpN} {s0 : Option Nat} {f : AH} {n cells slots : Nat} (C : CC X p l (RM 0 0 0) s m args meth c RX7 cX7_toldFor 2 (some (.object "PieceFiles$Row"))) (hc : cells + 0 ≤ 0) (hs : slots + 0 ≤ 0) (h : mX7_toldFor_b23 s0 f n = some r) : AW X p l e (RM 0 0 0) s m args below meth c 2 (ZM X below args s 0 0 (QHr r)) f n cells slots 23 [none, none] [va_rf s0] := by
  have h : some (s0, (f, n)) = some r := h
  cases h
  exact aw_aret C rfl (rf_or _) dX7_toldFor_23 (by omega) (by omega) ⟨rfl, rfl, rfl⟩
def mX7_toldFor_b22 (f : AH) (n : Nat) : Option (Option Nat × HpN) := mX7_toldFor_b23 (none : Option Nat) f n
set_option maxHeartbeats 1000000 in
theorem rmX7_toldFor_b22 {X : GX} {p : Program} {l : Launch} {e : Env} {s : State} {m : MethodId} {args : Array Value} {below : List Frame} {meth : Method} {c : Code} {r : Option Nat × HpN} {f : AH} {n cells slots : Nat} (C : CC X p l (RM 0 0 0) s m args meth c RX7 cX7_toldFor 2 (some (.object "PieceFiles$Row"))) (hc : cells + 0 ≤ 0) (hs : slots + 0 ≤ 0) (h : mX7_toldFor_b22 f n = some r) : AW X p l e (RM 0 0 0) s m args below meth c 2 (ZM X below args s 0 0 (QHr r)) f n cells slots 22 [none, none] [] := by
  have h : mX7_toldFor_b23 (none : Option Nat) f n = some r := h
  refine aw_null C dX7_toldFor_22 ?_
  refine aw_fl [none, none] trivial ?_
  exact rmX7_toldFor_b23 C (by omega) (by omega) h
def mX7_toldFor (v0 : Nat) (v1 : Int32) (f : AH) (n : Nat) : Option (Option Nat × HpN) := (if v1 < (0 : Int32) then mX7_toldFor_b22 f n else ((gR f v0 7 9).bind fun x1 => ((x1).bind fun j2 => ((gL f j2).bind fun x3 => (if (nI x3) ≤ v1 then mX7_toldFor_b22 f n else ((gR f v0 7 9).bind fun x4 => ((x4).bind fun j5 => ((gRA f j5 v1).bind fun x6 => mX7_toldFor_b23 x6 f n))))))))
set_option maxHeartbeats 1000000 in
theorem rmX7_toldFor {X : GX} {l : Launch} {r : Option Nat × HpN} {v0 : Nat} {v1 : Int32} {f : AH} {n : Nat} (h : mX7_toldFor v0 v1 f n = some r) : AM X l yX7_toldFor cX7_toldFor 2 (some (.object "PieceFiles$Row")) 0 0 0 [.ref v0, .int v1] f n (QHr r) := by
  have h : (if v1 < (0 : Int32) then mX7_toldFor_b22 f n else ((gR f v0 7 9).bind fun x1 => ((x1).bind fun j2 => ((gL f j2).bind fun x3 => (if (nI x3) ≤ v1 then mX7_toldFor_b22 f n else ((gR f v0 7 9).bind fun x4 => ((x4).bind fun j5 => ((gRA f j5 v1).bind fun x6 => mX7_toldFor_b23 x6 f n)))))))) = some r := h
  refine AM.of (by decide +kernel) rfl (Nat.le_of_ble_eq_true rfl) (fun p e s m args below meth c C hnm => ?_)
  refine aw_nl [some (.ref v0), some (.int v1)] rfl ?_
  refine aw_iload_n C dX7_toldFor_0 rfl ?_
  refine aw_if_lt C 22 dX7_toldFor_1 (by decide) (fun q => ?_) (fun q => ?_)
  · rw [if_pos q] at h
    refine aw_fl [none, none] trivial ?_
    exact rmX7_toldFor_b22 C (by omega) (by omega) h
  · rw [if_neg q] at h
    refine aw_iload_n C dX7_toldFor_4 rfl ?_
    refine aw_ald_n C dX7_toldFor_5 rfl ?_
    obtain ⟨x1, hx1, h⟩ := Option.bind_eq_some_iff.mp h
    refine ah_getR C gf_X7_34 hx1 dX7_toldFor_6 ?_
    obtain ⟨j2, hj2, h⟩ := Option.bind_eq_some_iff.mp h
    rw [hj2]
    obtain ⟨x3, hx3, h⟩ := Option.bind_eq_some_iff.mp h
    refine ah_len C hx3 dX7_toldFor_9 ?_
    refine aw_icmp_ge C 22 dX7_toldFor_10 (by decide) (fun q => ?_) (fun q => ?_)
    · rw [if_pos q] at h
      refine aw_fl [none, none] trivial ?_
      exact rmX7_toldFor_b22 C (by omega) (by omega) h
    · rw [if_neg q] at h
      refine aw_ald_n C dX7_toldFor_13 rfl ?_
      obtain ⟨x4, hx4, h⟩ := Option.bind_eq_some_iff.mp h
      refine ah_getR C gf_X7_34 hx4 dX7_toldFor_14 ?_
      refine aw_iload_n C dX7_toldFor_17 rfl ?_
      obtain ⟨j5, hj5, h⟩ := Option.bind_eq_some_iff.mp h
      rw [hj5]
      obtain ⟨x6, hx6, h⟩ := Option.bind_eq_some_iff.mp h
      refine ah_aald C hx6 dX7_toldFor_18 ?_
      refine aw_goto C 23 dX7_toldFor_19 (by decide) ?_
      refine aw_fl [none, none] trivial ?_
      exact rmX7_toldFor_b23 C (by omega) (by omega) h
def mX5_breaksCell_b60 (f : AH) (n : Nat) : Option (Int32 × HpN) := rCk (rNb (0 : Int32)) (some ((0 : Int32), (f, n)))
set_option maxHeartbeats 1000000 in
theorem rmX5_breaksCell_b60 {X : GX} {p : Program} {l : Launch} {e : Env} {s : State} {m : MethodId} {args : Array Value} {below : List Frame} {meth : Method} {c : Code} {r : Int32 × HpN} {f : AH} {n cells slots : Nat} (C : CC X p l (RM 0 0 0) s m args meth c RX5 cX5_breaksCell 2 (some .boolean)) (hc : cells + 0 ≤ 0) (hs : slots + 0 ≤ 0) (h : mX5_breaksCell_b60 f n = some r) : AW X p l e (RM 0 0 0) s m args below meth c 2 (ZM X below args s 0 0 (QHi r)) f n cells slots 60 [none, none] [] := by
  have h : rCk (rNb (0 : Int32)) (some ((0 : Int32), (f, n))) = some r := h
  refine aw_iconst C 0 dX5_breaksCell_60 ki_0 ?_
  obtain ⟨hb1, h⟩ := ck_some h
  cases h
  exact aw_iret C rfl (nb_nar hb1) dX5_breaksCell_61 (by omega) (by omega) ⟨rfl, rfl, rfl⟩
def mX5_breaksCell_b52 (f : AH) (n : Nat) : Option (Int32 × HpN) := rCk (rNb (1 : Int32)) (some ((1 : Int32), (f, n)))
set_option maxHeartbeats 1000000 in
theorem rmX5_breaksCell_b52 {X : GX} {p : Program} {l : Launch} {e : Env} {s : State} {m : MethodId} {args : Array Value} {below : List Frame} {meth : Method} {c : Code} {r : Int32 × HpN} {f : AH} {n cells slots : Nat} (C : CC X p l (RM 0 0 0) s m args meth c RX5 cX5_breaksCell 2 (some .boolean)) (hc : cells + 0 ≤ 0) (hs : slots + 0 ≤ 0) (h : mX5_breaksCell_b52 f n = some r) : AW X p l e (RM 0 0 0) s m args below meth c 2 (ZM X below args s 0 0 (QHi r)) f n cells slots 52 [none, none] [] := by
  have h : rCk (rNb (1 : Int32)) (some ((1 : Int32), (f, n))) = some r := h
  refine aw_iconst C 1 dX5_breaksCell_52 ki_1 ?_
  obtain ⟨hb1, h⟩ := ck_some h
  cases h
  exact aw_iret C rfl (nb_nar hb1) dX5_breaksCell_53 (by omega) (by omega) ⟨rfl, rfl, rfl⟩
def mX5_breaksCell_l2 : Nat → Nat → Int32 → AH → Nat → Option (Int32 × HpN)
  | 0, _, _, _, _ => none
  | d + 1, v0, v1, f, n => ((gI f v0 5 1).bind fun x1 => (if x1 ≤ v1 then mX5_breaksCell_b60 f n else ((gR f v0 5 0).bind fun x2 => ((x2).bind fun j3 => ((gL f j3).bind fun x4 => (if (nI x4) ≤ v1 then mX5_breaksCell_b60 f n else ((gR f v0 5 0).bind fun x5 => ((x5).bind fun j6 => ((gIA f j6 v1).bind fun x7 => (if x7 = (44 : Int32) then mX5_breaksCell_b52 f n else ((gR f v0 5 0).bind fun x8 => ((x8).bind fun j9 => ((gIA f j9 v1).bind fun x10 => (if x10 = (34 : Int32) then mX5_breaksCell_b52 f n else ((gR f v0 5 0).bind fun x11 => ((x11).bind fun j12 => ((gIA f j12 v1).bind fun x13 => (if x13 = (10 : Int32) then mX5_breaksCell_b52 f n else mX5_breaksCell_l2 d v0 (v1 + (1 : Int32)) f n))))))))))))))))))
set_option maxHeartbeats 1000000 in
theorem rmX5_breaksCell_l2 {X : GX} {p : Program} {l : Launch} {e : Env} {s : State} {m : MethodId} {args : Array Value} {below : List Frame} {meth : Method} {c : Code} {r : Int32 × HpN} (C : CC X p l (RM 0 0 0) s m args meth c RX5 cX5_breaksCell 2 (some .boolean)) : ∀ (d : Nat) (v0 : Nat) (v1 : Int32) (f : AH) (n cells slots : Nat) (_ : cells + 0 ≤ 0) (_ : slots + 0 ≤ 0) (_ : mX5_breaksCell_l2 d v0 v1 f n = some r), AW X p l e (RM 0 0 0) s m args below meth c 2 (ZM X below args s 0 0 (QHi r)) f n cells slots 2 [some (.ref v0), some (.int v1)] [] := by
  intro d
  induction d with
  | zero =>
    intro v0 v1 f n cells slots hc hs h
    exact nomatch (show (none : Option (Int32 × HpN)) = some r from h)
  | succ d ih =>
    intro v0 v1 f n cells slots hc hs h
    have h : ((gI f v0 5 1).bind fun x1 => (if x1 ≤ v1 then mX5_breaksCell_b60 f n else ((gR f v0 5 0).bind fun x2 => ((x2).bind fun j3 => ((gL f j3).bind fun x4 => (if (nI x4) ≤ v1 then mX5_breaksCell_b60 f n else ((gR f v0 5 0).bind fun x5 => ((x5).bind fun j6 => ((gIA f j6 v1).bind fun x7 => (if x7 = (44 : Int32) then mX5_breaksCell_b52 f n else ((gR f v0 5 0).bind fun x8 => ((x8).bind fun j9 => ((gIA f j9 v1).bind fun x10 => (if x10 = (34 : Int32) then mX5_breaksCell_b52 f n else ((gR f v0 5 0).bind fun x11 => ((x11).bind fun j12 => ((gIA f j12 v1).bind fun x13 => (if x13 = (10 : Int32) then mX5_breaksCell_b52 f n else mX5_breaksCell_l2 d v0 (v1 + (1 : Int32)) f n)))))))))))))))))) = some r := h
    refine aw_iload_n C dX5_breaksCell_2 rfl ?_
    refine aw_ald_n C dX5_breaksCell_3 rfl ?_
    obtain ⟨x1, hx1, h⟩ := Option.bind_eq_some_iff.mp h
    refine ah_getI C gf_X5_15 hx1 dX5_breaksCell_4 ?_
    refine aw_icmp_ge C 60 dX5_breaksCell_7 (by decide) (fun q => ?_) (fun q => ?_)
    · rw [if_pos q] at h
      refine aw_fl [none, none] trivial ?_
      exact rmX5_breaksCell_b60 C (by omega) (by omega) h
    · rw [if_neg q] at h
      refine aw_iload_n C dX5_breaksCell_10 rfl ?_
      refine aw_ald_n C dX5_breaksCell_11 rfl ?_
      obtain ⟨x2, hx2, h⟩ := Option.bind_eq_some_iff.mp h
      refine ah_getR C gf_X5_9 hx2 dX5_breaksCell_12 ?_
      obtain ⟨j3, hj3, h⟩ := Option.bind_eq_some_iff.mp h
      rw [hj3]
      obtain ⟨x4, hx4, h⟩ := Option.bind_eq_some_iff.mp h
      refine ah_len C hx4 dX5_breaksCell_15 ?_
      refine aw_icmp_ge C 60 dX5_breaksCell_16 (by decide) (fun q => ?_) (fun q => ?_)
      · rw [if_pos q] at h
        refine aw_fl [none, none] trivial ?_
        exact rmX5_breaksCell_b60 C (by omega) (by omega) h
      · rw [if_neg q] at h
        refine aw_ald_n C dX5_breaksCell_19 rfl ?_
        obtain ⟨x5, hx5, h⟩ := Option.bind_eq_some_iff.mp h
        refine ah_getR C gf_X5_9 hx5 dX5_breaksCell_20 ?_
        refine aw_iload_n C dX5_breaksCell_23 rfl ?_
        obtain ⟨j6, hj6, h⟩ := Option.bind_eq_some_iff.mp h
        rw [hj6]
        obtain ⟨x7, hx7, h⟩ := Option.bind_eq_some_iff.mp h
        refine ah_iald C hx7 dX5_breaksCell_24 ?_
        refine aw_bipush C 44 dX5_breaksCell_25 kb_44 ?_
        refine aw_icmp_eq C 52 dX5_breaksCell_27 (by decide) (fun q => ?_) (fun q => ?_)
        · rw [if_pos q] at h
          refine aw_fl [none, none] trivial ?_
          exact rmX5_breaksCell_b52 C (by omega) (by omega) h
        · rw [if_neg q] at h
          refine aw_ald_n C dX5_breaksCell_30 rfl ?_
          obtain ⟨x8, hx8, h⟩ := Option.bind_eq_some_iff.mp h
          refine ah_getR C gf_X5_9 hx8 dX5_breaksCell_31 ?_
          refine aw_iload_n C dX5_breaksCell_34 rfl ?_
          obtain ⟨j9, hj9, h⟩ := Option.bind_eq_some_iff.mp h
          rw [hj9]
          obtain ⟨x10, hx10, h⟩ := Option.bind_eq_some_iff.mp h
          refine ah_iald C hx10 dX5_breaksCell_35 ?_
          refine aw_bipush C 34 dX5_breaksCell_36 kb_34 ?_
          refine aw_icmp_eq C 52 dX5_breaksCell_38 (by decide) (fun q => ?_) (fun q => ?_)
          · rw [if_pos q] at h
            refine aw_fl [none, none] trivial ?_
            exact rmX5_breaksCell_b52 C (by omega) (by omega) h
          · rw [if_neg q] at h
            refine aw_ald_n C dX5_breaksCell_41 rfl ?_
            obtain ⟨x11, hx11, h⟩ := Option.bind_eq_some_iff.mp h
            refine ah_getR C gf_X5_9 hx11 dX5_breaksCell_42 ?_
            refine aw_iload_n C dX5_breaksCell_45 rfl ?_
            obtain ⟨j12, hj12, h⟩ := Option.bind_eq_some_iff.mp h
            rw [hj12]
            obtain ⟨x13, hx13, h⟩ := Option.bind_eq_some_iff.mp h
            refine ah_iald C hx13 dX5_breaksCell_46 ?_
            refine aw_bipush C 10 dX5_breaksCell_47 kb_10 ?_
            refine aw_icmp_ne C 54 dX5_breaksCell_49 (by decide) (fun q => ?_) (fun q => ?_)
            · rw [if_neg q] at h
              refine aw_iinc C (v1 + (1 : Int32)) dX5_breaksCell_54 rfl (by rw [ki_1]) (by decide) rfl ?_
              refine aw_nl [some (.ref v0), some (.int (v1 + (1 : Int32)))] rfl ?_
              refine aw_goto C 2 dX5_breaksCell_57 (by decide) ?_
              refine aw_fl [some (.ref v0), some (.int (v1 + (1 : Int32)))] ⟨rfl, ⟨rfl, trivial⟩⟩ ?_
              exact ih v0 (v1 + (1 : Int32)) f n _ _ (by omega) (by omega) h
            · rw [if_pos q] at h
              refine aw_fl [none, none] trivial ?_
              exact rmX5_breaksCell_b52 C (by omega) (by omega) h
def mX5_breaksCell (v0 : Nat) (f : AH) (n : Nat) : Option (Int32 × HpN) := mX5_breaksCell_l2 rFU v0 (0 : Int32) f n
set_option maxHeartbeats 1000000 in
theorem rmX5_breaksCell {X : GX} {l : Launch} {r : Int32 × HpN} {v0 : Nat} {f : AH} {n : Nat} (h : mX5_breaksCell v0 f n = some r) : AM X l yX5_breaksCell cX5_breaksCell 2 (some .boolean) 0 0 0 [.ref v0] f n (QHi r) := by
  have h : mX5_breaksCell_l2 rFU v0 (0 : Int32) f n = some r := h
  refine AM.of (by decide +kernel) rfl (Nat.le_of_ble_eq_true rfl) (fun p e s m args below meth c C hnm => ?_)
  refine aw_nl [some (.ref v0), none] rfl ?_
  refine aw_iconst C 0 dX5_breaksCell_0 ki_0 ?_
  refine aw_istore_n C dX5_breaksCell_1 (by decide) rfl ?_
  refine aw_nl [some (.ref v0), some (.int (0 : Int32))] rfl ?_
  refine aw_fl [some (.ref v0), some (.int (0 : Int32))] ⟨rfl, ⟨rfl, trivial⟩⟩ ?_
  exact rmX5_breaksCell_l2 C rFU v0 (0 : Int32) f n _ _ (by omega) (by omega) h
def mX0_addInLine_b59 (s0 : Option Nat) (s1 : Int32) (f : AH) (n : Nat) : Option (Int32 × HpN) := ((s0).bind fun j1 => rCk (isO f j1 5) (((mX5_add j1 s1 f n).bind fun r3 => some ((0 : Int32), (r3.2.1, r3.2.2)))))
set_option maxHeartbeats 1000000 in
theorem rmX0_addInLine_b59 {X : GX} {p : Program} {l : Launch} {e : Env} {s : State} {m : MethodId} {args : Array Value} {below : List Frame} {meth : Method} {c : Code} {r : Int32 × HpN} {s0 : Option Nat} {s1 : Int32} {f : AH} {n cells slots : Nat} (C : CC X p l (RM 1 0 0) s m args meth c RX0 cX0_addInLine 3 none) (hc : cells + 0 ≤ 0) (hs : slots + 0 ≤ 0) (h : mX0_addInLine_b59 s0 s1 f n = some r) : AW X p l e (RM 1 0 0) s m args below meth c 3 (ZM X below args s 0 0 (QHv r)) f n cells slots 59 [none, none, none] [.int s1, va_rf s0] := by
  have h : ((s0).bind fun j1 => rCk (isO f j1 5) (((mX5_add j1 s1 f n).bind fun r3 => some ((0 : Int32), (r3.2.1, r3.2.2))))) = some r := h
  obtain ⟨j1, hj1, h⟩ := Option.bind_eq_some_iff.mp h
  rw [hj1]
  obtain ⟨hb2, h⟩ := ck_some h
  obtain ⟨r3, hr3, h⟩ := Option.bind_eq_some_iff.mp h
  obtain ⟨fs4, hf4⟩ := isO_ex hb2
  refine aw_callV C (ci := 5) (b := j1) [.int s1] mv_X0_93 rfl rfl hf4 (rmX5_add hr3) rfl dX0_addInLine_59 (Nat.le_of_ble_eq_true rfl) (Nat.le_of_ble_eq_true rfl) rfl (Nat.le_of_ble_eq_true rfl) (show cells + 0 ≤ 0 by omega) (show slots + 0 ≤ 0 by omega) (fun v9 f9 n9 hh => ?_)
  obtain ⟨rfl, rfl, rfl⟩ := hh
  refine aw_pop C dX0_addInLine_62 rfl ?_
  cases h
  exact aw_vret C rfl dX0_addInLine_63 (by omega) (by omega) ⟨rfl, rfl, rfl⟩
def mX0_addInLine_b35 (v0 : Int32) (v1 : Option Nat) (f : AH) (n : Nat) : Option (Int32 × HpN) := (if v0 = (10 : Int32) then mX0_addInLine_b59 v1 (110 : Int32) f n else (if v0 = (9 : Int32) then mX0_addInLine_b59 v1 (116 : Int32) f n else mX0_addInLine_b59 v1 v0 f n))
set_option maxHeartbeats 1000000 in
theorem rmX0_addInLine_b35 {X : GX} {p : Program} {l : Launch} {e : Env} {s : State} {m : MethodId} {args : Array Value} {below : List Frame} {meth : Method} {c : Code} {r : Int32 × HpN} {v0 : Int32} {v1 : Option Nat} {f : AH} {n cells slots : Nat} (C : CC X p l (RM 1 0 0) s m args meth c RX0 cX0_addInLine 3 none) (hc : cells + 0 ≤ 0) (hs : slots + 0 ≤ 0) (h : mX0_addInLine_b35 v0 v1 f n = some r) : AW X p l e (RM 1 0 0) s m args below meth c 3 (ZM X below args s 0 0 (QHv r)) f n cells slots 35 [some (.int v0), some (va_rf v1), none] [] := by
  have h : (if v0 = (10 : Int32) then mX0_addInLine_b59 v1 (110 : Int32) f n else (if v0 = (9 : Int32) then mX0_addInLine_b59 v1 (116 : Int32) f n else mX0_addInLine_b59 v1 v0 f n)) = some r := h
  refine aw_aload_n C dX0_addInLine_35 rfl (rf_or v1) ?_
  refine aw_iload_n C dX0_addInLine_36 rfl ?_
  refine aw_bipush C 10 dX0_addInLine_37 kb_10 ?_
  refine aw_icmp_ne C 47 dX0_addInLine_39 (by decide) (fun q => ?_) (fun q => ?_)
  · rw [if_neg q] at h
    refine aw_iload_n C dX0_addInLine_47 rfl ?_
    refine aw_bipush C 9 dX0_addInLine_48 kb_9 ?_
    refine aw_icmp_ne C 58 dX0_addInLine_50 (by decide) (fun q => ?_) (fun q => ?_)
    · rw [if_neg q] at h
      refine aw_iload_n C dX0_addInLine_58 rfl ?_
      refine aw_fl [none, none, none] trivial ?_
      exact rmX0_addInLine_b59 C (by omega) (by omega) h
    · rw [if_pos q] at h
      refine aw_bipush C 116 dX0_addInLine_53 kb_116 ?_
      refine aw_goto C 59 dX0_addInLine_55 (by decide) ?_
      refine aw_fl [none, none, none] trivial ?_
      exact rmX0_addInLine_b59 C (by omega) (by omega) h
  · rw [if_pos q] at h
    refine aw_bipush C 110 dX0_addInLine_42 kb_110 ?_
    refine aw_goto C 59 dX0_addInLine_44 (by decide) ?_
    refine aw_fl [none, none, none] trivial ?_
    exact rmX0_addInLine_b59 C (by omega) (by omega) h
def mX0_addInLine_b28 (v0 : Int32) (v1 : Option Nat) (f : AH) (n : Nat) : Option (Int32 × HpN) := ((v1).bind fun j1 => rCk (isO f j1 5) (((mX5_add j1 (92 : Int32) f n).bind fun r3 => mX0_addInLine_b35 v0 (some j1) r3.2.1 r3.2.2)))
set_option maxHeartbeats 1000000 in
theorem rmX0_addInLine_b28 {X : GX} {p : Program} {l : Launch} {e : Env} {s : State} {m : MethodId} {args : Array Value} {below : List Frame} {meth : Method} {c : Code} {r : Int32 × HpN} {v0 : Int32} {v1 : Option Nat} {f : AH} {n cells slots : Nat} (C : CC X p l (RM 1 0 0) s m args meth c RX0 cX0_addInLine 3 none) (hc : cells + 0 ≤ 0) (hs : slots + 0 ≤ 0) (h : mX0_addInLine_b28 v0 v1 f n = some r) : AW X p l e (RM 1 0 0) s m args below meth c 3 (ZM X below args s 0 0 (QHv r)) f n cells slots 28 [some (.int v0), some (va_rf v1), none] [] := by
  have h : ((v1).bind fun j1 => rCk (isO f j1 5) (((mX5_add j1 (92 : Int32) f n).bind fun r3 => mX0_addInLine_b35 v0 (some j1) r3.2.1 r3.2.2))) = some r := h
  refine aw_aload_n C dX0_addInLine_28 rfl (rf_or v1) ?_
  refine aw_bipush C 92 dX0_addInLine_29 kb_92 ?_
  obtain ⟨j1, hj1, h⟩ := Option.bind_eq_some_iff.mp h
  rw [hj1]
  obtain ⟨hb2, h⟩ := ck_some h
  obtain ⟨r3, hr3, h⟩ := Option.bind_eq_some_iff.mp h
  obtain ⟨fs4, hf4⟩ := isO_ex hb2
  refine aw_callV C (ci := 5) (b := j1) [.int (92 : Int32)] mv_X0_93 rfl rfl hf4 (rmX5_add hr3) rfl dX0_addInLine_31 (Nat.le_of_ble_eq_true rfl) (Nat.le_of_ble_eq_true rfl) rfl (Nat.le_of_ble_eq_true rfl) (show cells + 0 ≤ 0 by omega) (show slots + 0 ≤ 0 by omega) (fun v9 f9 n9 hh => ?_)
  obtain ⟨rfl, rfl, rfl⟩ := hh
  refine aw_pop C dX0_addInLine_34 rfl ?_
  refine aw_fl [some (.int v0), some (va_rf (some j1)), none] ⟨rfl, ⟨rfl, trivial⟩⟩ ?_
  exact rmX0_addInLine_b35 C (by omega) (by omega) h
def mX0_addInLine (v0 : Int32) (v1 : Option Nat) (v2 : Int32) (f : AH) (n : Nat) : Option (Int32 × HpN) := (if v0 = (92 : Int32) then mX0_addInLine_b28 v0 v1 f n else (if v0 = (10 : Int32) then mX0_addInLine_b28 v0 v1 f n else (if v0 = (9 : Int32) then mX0_addInLine_b28 v0 v1 f n else (if v0 = (32 : Int32) then (if v2 = (0 : Int32) then mX0_addInLine_b35 v0 v1 f n else mX0_addInLine_b28 v0 v1 f n) else mX0_addInLine_b35 v0 v1 f n))))
set_option maxHeartbeats 1000000 in
theorem rmX0_addInLine {X : GX} {l : Launch} {r : Int32 × HpN} {v0 : Int32} {v1 : Option Nat} {v2 : Int32} {f : AH} {n : Nat} (h : mX0_addInLine v0 v1 v2 f n = some r) : AM X l yX0_addInLine cX0_addInLine 3 none 1 0 0 [.int v0, va_rf v1, .int v2] f n (QHv r) := by
  have h : (if v0 = (92 : Int32) then mX0_addInLine_b28 v0 v1 f n else (if v0 = (10 : Int32) then mX0_addInLine_b28 v0 v1 f n else (if v0 = (9 : Int32) then mX0_addInLine_b28 v0 v1 f n else (if v0 = (32 : Int32) then (if v2 = (0 : Int32) then mX0_addInLine_b35 v0 v1 f n else mX0_addInLine_b28 v0 v1 f n) else mX0_addInLine_b35 v0 v1 f n)))) = some r := h
  refine AM.of (by decide +kernel) (all1 rfl (all1 (rf_cat _) (all1 rfl rfl))) (Nat.le_of_ble_eq_true rfl) (fun p e s m args below meth c C hnm => ?_)
  refine aw_nl [some (.int v0), some (va_rf v1), some (.int v2)] rfl ?_
  refine aw_iload_n C dX0_addInLine_0 rfl ?_
  refine aw_bipush C 92 dX0_addInLine_1 kb_92 ?_
  refine aw_icmp_eq C 28 dX0_addInLine_3 (by decide) (fun q => ?_) (fun q => ?_)
  · rw [if_pos q] at h
    refine aw_fl [some (.int v0), some (va_rf v1), none] ⟨rfl, ⟨rfl, trivial⟩⟩ ?_
    exact rmX0_addInLine_b28 C (by omega) (by omega) h
  · rw [if_neg q] at h
    refine aw_iload_n C dX0_addInLine_6 rfl ?_
    refine aw_bipush C 10 dX0_addInLine_7 kb_10 ?_
    refine aw_icmp_eq C 28 dX0_addInLine_9 (by decide) (fun q => ?_) (fun q => ?_)
    · rw [if_pos q] at h
      refine aw_fl [some (.int v0), some (va_rf v1), none] ⟨rfl, ⟨rfl, trivial⟩⟩ ?_
      exact rmX0_addInLine_b28 C (by omega) (by omega) h
    · rw [if_neg q] at h
      refine aw_iload_n C dX0_addInLine_12 rfl ?_
      refine aw_bipush C 9 dX0_addInLine_13 kb_9 ?_
      refine aw_icmp_eq C 28 dX0_addInLine_15 (by decide) (fun q => ?_) (fun q => ?_)
      · rw [if_pos q] at h
        refine aw_fl [some (.int v0), some (va_rf v1), none] ⟨rfl, ⟨rfl, trivial⟩⟩ ?_
        exact rmX0_addInLine_b28 C (by omega) (by omega) h
      · rw [if_neg q] at h
        refine aw_iload_n C dX0_addInLine_18 rfl ?_
        refine aw_bipush C 32 dX0_addInLine_19 kb_32 ?_
        refine aw_icmp_ne C 35 dX0_addInLine_21 (by decide) (fun q => ?_) (fun q => ?_)
        · rw [if_neg q] at h
          refine aw_fl [some (.int v0), some (va_rf v1), none] ⟨rfl, ⟨rfl, trivial⟩⟩ ?_
          exact rmX0_addInLine_b35 C (by omega) (by omega) h
        · rw [if_pos q] at h
          refine aw_iload_n C dX0_addInLine_24 rfl ?_
          refine aw_if_eq C 35 dX0_addInLine_25 (by decide) (fun q => ?_) (fun q => ?_)
          · rw [if_pos q] at h
            refine aw_fl [some (.int v0), some (va_rf v1), none] ⟨rfl, ⟨rfl, trivial⟩⟩ ?_
            exact rmX0_addInLine_b35 C (by omega) (by omega) h
          · rw [if_neg q] at h
            refine aw_fl [some (.int v0), some (va_rf v1), none] ⟨rfl, ⟨rfl, trivial⟩⟩ ?_
            exact rmX0_addInLine_b28 C (by omega) (by omega) h
def mX0_addDoubled_b13 (v0 : Int32) (v1 : Option Nat) (f : AH) (n : Nat) : Option (Int32 × HpN) := ((v1).bind fun j1 => rCk (isO f j1 5) (((mX5_add j1 v0 f n).bind fun r3 => some ((0 : Int32), (r3.2.1, r3.2.2)))))
set_option maxHeartbeats 1000000 in
theorem rmX0_addDoubled_b13 {X : GX} {p : Program} {l : Launch} {e : Env} {s : State} {m : MethodId} {args : Array Value} {below : List Frame} {meth : Method} {c : Code} {r : Int32 × HpN} {v0 : Int32} {v1 : Option Nat} {f : AH} {n cells slots : Nat} (C : CC X p l (RM 1 0 0) s m args meth c RX0 cX0_addDoubled 2 none) (hc : cells + 0 ≤ 0) (hs : slots + 0 ≤ 0) (h : mX0_addDoubled_b13 v0 v1 f n = some r) : AW X p l e (RM 1 0 0) s m args below meth c 2 (ZM X below args s 0 0 (QHv r)) f n cells slots 13 [some (.int v0), some (va_rf v1)] [] := by
  have h : ((v1).bind fun j1 => rCk (isO f j1 5) (((mX5_add j1 v0 f n).bind fun r3 => some ((0 : Int32), (r3.2.1, r3.2.2))))) = some r := h
  refine aw_aload_n C dX0_addDoubled_13 rfl (rf_or v1) ?_
  refine aw_iload_n C dX0_addDoubled_14 rfl ?_
  obtain ⟨j1, hj1, h⟩ := Option.bind_eq_some_iff.mp h
  rw [hj1]
  obtain ⟨hb2, h⟩ := ck_some h
  obtain ⟨r3, hr3, h⟩ := Option.bind_eq_some_iff.mp h
  obtain ⟨fs4, hf4⟩ := isO_ex hb2
  refine aw_callV C (ci := 5) (b := j1) [.int v0] mv_X0_93 rfl rfl hf4 (rmX5_add hr3) rfl dX0_addDoubled_15 (Nat.le_of_ble_eq_true rfl) (Nat.le_of_ble_eq_true rfl) rfl (Nat.le_of_ble_eq_true rfl) (show cells + 0 ≤ 0 by omega) (show slots + 0 ≤ 0 by omega) (fun v9 f9 n9 hh => ?_)
  obtain ⟨rfl, rfl, rfl⟩ := hh
  refine aw_pop C dX0_addDoubled_18 rfl ?_
  cases h
  exact aw_vret C rfl dX0_addDoubled_19 (by omega) (by omega) ⟨rfl, rfl, rfl⟩
def mX0_addDoubled (v0 : Int32) (v1 : Option Nat) (f : AH) (n : Nat) : Option (Int32 × HpN) := (if v0 = (34 : Int32) then ((v1).bind fun j1 => rCk (isO f j1 5) (((mX5_add j1 (34 : Int32) f n).bind fun r3 => mX0_addDoubled_b13 v0 (some j1) r3.2.1 r3.2.2))) else mX0_addDoubled_b13 v0 v1 f n)
set_option maxHeartbeats 1000000 in
theorem rmX0_addDoubled {X : GX} {l : Launch} {r : Int32 × HpN} {v0 : Int32} {v1 : Option Nat} {f : AH} {n : Nat} (h : mX0_addDoubled v0 v1 f n = some r) : AM X l yX0_addDoubled cX0_addDoubled 2 none 1 0 0 [.int v0, va_rf v1] f n (QHv r) := by
  have h : (if v0 = (34 : Int32) then ((v1).bind fun j1 => rCk (isO f j1 5) (((mX5_add j1 (34 : Int32) f n).bind fun r3 => mX0_addDoubled_b13 v0 (some j1) r3.2.1 r3.2.2))) else mX0_addDoubled_b13 v0 v1 f n) = some r := h
  refine AM.of (by decide +kernel) (all1 rfl (all1 (rf_cat _) rfl)) (Nat.le_of_ble_eq_true rfl) (fun p e s m args below meth c C hnm => ?_)
  refine aw_nl [some (.int v0), some (va_rf v1)] rfl ?_
  refine aw_iload_n C dX0_addDoubled_0 rfl ?_
  refine aw_bipush C 34 dX0_addDoubled_1 kb_34 ?_
  refine aw_icmp_ne C 13 dX0_addDoubled_3 (by decide) (fun q => ?_) (fun q => ?_)
  · rw [if_neg q] at h
    refine aw_fl [some (.int v0), some (va_rf v1)] ⟨rfl, ⟨rfl, trivial⟩⟩ ?_
    exact rmX0_addDoubled_b13 C (by omega) (by omega) h
  · rw [if_pos q] at h
    refine aw_aload_n C dX0_addDoubled_6 rfl (rf_or v1) ?_
    refine aw_bipush C 34 dX0_addDoubled_7 kb_34 ?_
    obtain ⟨j1, hj1, h⟩ := Option.bind_eq_some_iff.mp h
    rw [hj1]
    obtain ⟨hb2, h⟩ := ck_some h
    obtain ⟨r3, hr3, h⟩ := Option.bind_eq_some_iff.mp h
    obtain ⟨fs4, hf4⟩ := isO_ex hb2
    refine aw_callV C (ci := 5) (b := j1) [.int (34 : Int32)] mv_X0_93 rfl rfl hf4 (rmX5_add hr3) rfl dX0_addDoubled_9 (Nat.le_of_ble_eq_true rfl) (Nat.le_of_ble_eq_true rfl) rfl (Nat.le_of_ble_eq_true rfl) (show 0 + 0 ≤ 0 by omega) (show 0 + 0 ≤ 0 by omega) (fun v9 f9 n9 hh => ?_)
    obtain ⟨rfl, rfl, rfl⟩ := hh
    refine aw_pop C dX0_addDoubled_12 rfl ?_
    refine aw_fl [some (.int v0), some (va_rf (some j1))] ⟨rfl, ⟨rfl, trivial⟩⟩ ?_
    exact rmX0_addDoubled_b13 C (by omega) (by omega) h
def mX0_addInMarkup_b87 (v1 : Option Nat) (f : AH) (n : Nat) : Option (Int32 × HpN) := ((v1).bind fun j1 => rCk (isO f j1 5) (((mX5_add j1 (59 : Int32) f n).bind fun r3 => some ((0 : Int32), (r3.2.1, r3.2.2)))))
set_option maxHeartbeats 1000000 in
theorem rmX0_addInMarkup_b87 {X : GX} {p : Program} {l : Launch} {e : Env} {s : State} {m : MethodId} {args : Array Value} {below : List Frame} {meth : Method} {c : Code} {r : Int32 × HpN} {v1 : Option Nat} {f : AH} {n cells slots : Nat} (C : CC X p l (RM 1 0 0) s m args meth c RX0 cX0_addInMarkup 2 none) (hc : cells + 0 ≤ 0) (hs : slots + 0 ≤ 0) (h : mX0_addInMarkup_b87 v1 f n = some r) : AW X p l e (RM 1 0 0) s m args below meth c 2 (ZM X below args s 0 0 (QHv r)) f n cells slots 87 [none, some (va_rf v1)] [] := by
  have h : ((v1).bind fun j1 => rCk (isO f j1 5) (((mX5_add j1 (59 : Int32) f n).bind fun r3 => some ((0 : Int32), (r3.2.1, r3.2.2))))) = some r := h
  refine aw_aload_n C dX0_addInMarkup_87 rfl (rf_or v1) ?_
  refine aw_bipush C 59 dX0_addInMarkup_88 kb_59 ?_
  obtain ⟨j1, hj1, h⟩ := Option.bind_eq_some_iff.mp h
  rw [hj1]
  obtain ⟨hb2, h⟩ := ck_some h
  obtain ⟨r3, hr3, h⟩ := Option.bind_eq_some_iff.mp h
  obtain ⟨fs4, hf4⟩ := isO_ex hb2
  refine aw_callV C (ci := 5) (b := j1) [.int (59 : Int32)] mv_X0_93 rfl rfl hf4 (rmX5_add hr3) rfl dX0_addInMarkup_90 (Nat.le_of_ble_eq_true rfl) (Nat.le_of_ble_eq_true rfl) rfl (Nat.le_of_ble_eq_true rfl) (show cells + 0 ≤ 0 by omega) (show slots + 0 ≤ 0 by omega) (fun v9 f9 n9 hh => ?_)
  obtain ⟨rfl, rfl, rfl⟩ := hh
  refine aw_pop C dX0_addInMarkup_93 rfl ?_
  cases h
  exact aw_vret C rfl dX0_addInMarkup_94 (by omega) (by omega) ⟨rfl, rfl, rfl⟩
def mX0_addInMarkup_b76 (v1 : Option Nat) (s0 : Option Nat) (s1 : Int32) (f : AH) (n : Nat) : Option (Int32 × HpN) := ((s0).bind fun j1 => rCk (isO f j1 5) (((mX5_add j1 s1 f n).bind fun r3 => ((v1).bind fun j5 => rCk (isO r3.2.1 j5 5) (((mX5_add j5 (116 : Int32) r3.2.1 r3.2.2).bind fun r7 => mX0_addInMarkup_b87 (some j5) r7.2.1 r7.2.2))))))
set_option maxHeartbeats 1000000 in
theorem rmX0_addInMarkup_b76 {X : GX} {p : Program} {l : Launch} {e : Env} {s : State} {m : MethodId} {args : Array Value} {below : List Frame} {meth : Method} {c : Code} {r : Int32 × HpN} {v1 : Option Nat} {s0 : Option Nat} {s1 : Int32} {f : AH} {n cells slots : Nat} (C : CC X p l (RM 1 0 0) s m args meth c RX0 cX0_addInMarkup 2 none) (hc : cells + 0 ≤ 0) (hs : slots + 0 ≤ 0) (h : mX0_addInMarkup_b76 v1 s0 s1 f n = some r) : AW X p l e (RM 1 0 0) s m args below meth c 2 (ZM X below args s 0 0 (QHv r)) f n cells slots 76 [none, some (va_rf v1)] [.int s1, va_rf s0] := by
  have h : ((s0).bind fun j1 => rCk (isO f j1 5) (((mX5_add j1 s1 f n).bind fun r3 => ((v1).bind fun j5 => rCk (isO r3.2.1 j5 5) (((mX5_add j5 (116 : Int32) r3.2.1 r3.2.2).bind fun r7 => mX0_addInMarkup_b87 (some j5) r7.2.1 r7.2.2)))))) = some r := h
  obtain ⟨j1, hj1, h⟩ := Option.bind_eq_some_iff.mp h
  rw [hj1]
  obtain ⟨hb2, h⟩ := ck_some h
  obtain ⟨r3, hr3, h⟩ := Option.bind_eq_some_iff.mp h
  obtain ⟨fs4, hf4⟩ := isO_ex hb2
  refine aw_callV C (ci := 5) (b := j1) [.int s1] mv_X0_93 rfl rfl hf4 (rmX5_add hr3) rfl dX0_addInMarkup_76 (Nat.le_of_ble_eq_true rfl) (Nat.le_of_ble_eq_true rfl) rfl (Nat.le_of_ble_eq_true rfl) (show cells + 0 ≤ 0 by omega) (show slots + 0 ≤ 0 by omega) (fun v9 f9 n9 hh => ?_)
  obtain ⟨rfl, rfl, rfl⟩ := hh
  refine aw_pop C dX0_addInMarkup_79 rfl ?_
  refine aw_aload_n C dX0_addInMarkup_80 rfl (rf_or v1) ?_
  refine aw_bipush C 116 dX0_addInMarkup_81 kb_116 ?_
  obtain ⟨j5, hj5, h⟩ := Option.bind_eq_some_iff.mp h
  rw [hj5]
  obtain ⟨hb6, h⟩ := ck_some h
  obtain ⟨r7, hr7, h⟩ := Option.bind_eq_some_iff.mp h
  obtain ⟨fs8, hf8⟩ := isO_ex hb6
  refine aw_callV C (ci := 5) (b := j5) [.int (116 : Int32)] mv_X0_93 rfl rfl hf8 (rmX5_add hr7) rfl dX0_addInMarkup_83 (Nat.le_of_ble_eq_true rfl) (Nat.le_of_ble_eq_true rfl) rfl (Nat.le_of_ble_eq_true rfl) (show (cells + 0) + 0 ≤ 0 by omega) (show (slots + 0) + 0 ≤ 0 by omega) (fun v9 f9 n9 hh => ?_)
  obtain ⟨rfl, rfl, rfl⟩ := hh
  refine aw_pop C dX0_addInMarkup_86 rfl ?_
  refine aw_fl [none, some (va_rf (some j5))] ⟨rfl, trivial⟩ ?_
  exact rmX0_addInMarkup_b87 C (by omega) (by omega) h
def mX0_addInMarkup_b25 (v0 : Int32) (v1 : Option Nat) (f : AH) (n : Nat) : Option (Int32 × HpN) := ((v1).bind fun j1 => rCk (isO f j1 5) (((mX5_add j1 (38 : Int32) f n).bind fun r3 => (if v0 = (38 : Int32) then rCk (isO r3.2.1 j1 5) (((mX5_add j1 (97 : Int32) r3.2.1 r3.2.2).bind fun r6 => rCk (isO r6.2.1 j1 5) (((mX5_add j1 (109 : Int32) r6.2.1 r6.2.2).bind fun r9 => rCk (isO r9.2.1 j1 5) (((mX5_add j1 (112 : Int32) r9.2.1 r9.2.2).bind fun r12 => mX0_addInMarkup_b87 (some j1) r12.2.1 r12.2.2)))))) else (if v0 = (60 : Int32) then mX0_addInMarkup_b76 (some j1) (some j1) (108 : Int32) r3.2.1 r3.2.2 else mX0_addInMarkup_b76 (some j1) (some j1) (103 : Int32) r3.2.1 r3.2.2)))))
set_option maxHeartbeats 1000000 in
theorem rmX0_addInMarkup_b25 {X : GX} {p : Program} {l : Launch} {e : Env} {s : State} {m : MethodId} {args : Array Value} {below : List Frame} {meth : Method} {c : Code} {r : Int32 × HpN} {v0 : Int32} {v1 : Option Nat} {f : AH} {n cells slots : Nat} (C : CC X p l (RM 1 0 0) s m args meth c RX0 cX0_addInMarkup 2 none) (hc : cells + 0 ≤ 0) (hs : slots + 0 ≤ 0) (h : mX0_addInMarkup_b25 v0 v1 f n = some r) : AW X p l e (RM 1 0 0) s m args below meth c 2 (ZM X below args s 0 0 (QHv r)) f n cells slots 25 [some (.int v0), some (va_rf v1)] [] := by
  have h : ((v1).bind fun j1 => rCk (isO f j1 5) (((mX5_add j1 (38 : Int32) f n).bind fun r3 => (if v0 = (38 : Int32) then rCk (isO r3.2.1 j1 5) (((mX5_add j1 (97 : Int32) r3.2.1 r3.2.2).bind fun r6 => rCk (isO r6.2.1 j1 5) (((mX5_add j1 (109 : Int32) r6.2.1 r6.2.2).bind fun r9 => rCk (isO r9.2.1 j1 5) (((mX5_add j1 (112 : Int32) r9.2.1 r9.2.2).bind fun r12 => mX0_addInMarkup_b87 (some j1) r12.2.1 r12.2.2)))))) else (if v0 = (60 : Int32) then mX0_addInMarkup_b76 (some j1) (some j1) (108 : Int32) r3.2.1 r3.2.2 else mX0_addInMarkup_b76 (some j1) (some j1) (103 : Int32) r3.2.1 r3.2.2))))) = some r := h
  refine aw_aload_n C dX0_addInMarkup_25 rfl (rf_or v1) ?_
  refine aw_bipush C 38 dX0_addInMarkup_26 kb_38 ?_
  obtain ⟨j1, hj1, h⟩ := Option.bind_eq_some_iff.mp h
  rw [hj1]
  obtain ⟨hb2, h⟩ := ck_some h
  obtain ⟨r3, hr3, h⟩ := Option.bind_eq_some_iff.mp h
  obtain ⟨fs4, hf4⟩ := isO_ex hb2
  refine aw_callV C (ci := 5) (b := j1) [.int (38 : Int32)] mv_X0_93 rfl rfl hf4 (rmX5_add hr3) rfl dX0_addInMarkup_28 (Nat.le_of_ble_eq_true rfl) (Nat.le_of_ble_eq_true rfl) rfl (Nat.le_of_ble_eq_true rfl) (show cells + 0 ≤ 0 by omega) (show slots + 0 ≤ 0 by omega) (fun v9 f9 n9 hh => ?_)
  obtain ⟨rfl, rfl, rfl⟩ := hh
  refine aw_pop C dX0_addInMarkup_31 rfl ?_
  refine aw_iload_n C dX0_addInMarkup_32 rfl ?_
  refine aw_bipush C 38 dX0_addInMarkup_33 kb_38 ?_
  refine aw_icmp_ne C 62 dX0_addInMarkup_35 (by decide) (fun q => ?_) (fun q => ?_)
  · rw [if_neg q] at h
    refine aw_ald_n C dX0_addInMarkup_62 rfl ?_
    refine aw_iload_n C dX0_addInMarkup_63 rfl ?_
    refine aw_bipush C 60 dX0_addInMarkup_64 kb_60 ?_
    refine aw_icmp_ne C 74 dX0_addInMarkup_66 (by decide) (fun q => ?_) (fun q => ?_)
    · rw [if_neg q] at h
      refine aw_bipush C 103 dX0_addInMarkup_74 kb_103 ?_
      refine aw_fl [none, some (va_rf (some j1))] ⟨rfl, trivial⟩ ?_
      exact rmX0_addInMarkup_b76 C (by omega) (by omega) h
    · rw [if_pos q] at h
      refine aw_bipush C 108 dX0_addInMarkup_69 kb_108 ?_
      refine aw_goto C 76 dX0_addInMarkup_71 (by decide) ?_
      refine aw_fl [none, some (va_rf (some j1))] ⟨rfl, trivial⟩ ?_
      exact rmX0_addInMarkup_b76 C (by omega) (by omega) h
  · rw [if_pos q] at h
    refine aw_ald_n C dX0_addInMarkup_38 rfl ?_
    refine aw_bipush C 97 dX0_addInMarkup_39 kb_97 ?_
    obtain ⟨hb5, h⟩ := ck_some h
    obtain ⟨r6, hr6, h⟩ := Option.bind_eq_some_iff.mp h
    obtain ⟨fs7, hf7⟩ := isO_ex hb5
    refine aw_callV C (ci := 5) (b := j1) [.int (97 : Int32)] mv_X0_93 rfl rfl hf7 (rmX5_add hr6) rfl dX0_addInMarkup_41 (Nat.le_of_ble_eq_true rfl) (Nat.le_of_ble_eq_true rfl) rfl (Nat.le_of_ble_eq_true rfl) (show (cells + 0) + 0 ≤ 0 by omega) (show (slots + 0) + 0 ≤ 0 by omega) (fun v9 f9 n9 hh => ?_)
    obtain ⟨rfl, rfl, rfl⟩ := hh
    refine aw_pop C dX0_addInMarkup_44 rfl ?_
    refine aw_ald_n C dX0_addInMarkup_45 rfl ?_
    refine aw_bipush C 109 dX0_addInMarkup_46 kb_109 ?_
    obtain ⟨hb8, h⟩ := ck_some h
    obtain ⟨r9, hr9, h⟩ := Option.bind_eq_some_iff.mp h
    obtain ⟨fs10, hf10⟩ := isO_ex hb8
    refine aw_callV C (ci := 5) (b := j1) [.int (109 : Int32)] mv_X0_93 rfl rfl hf10 (rmX5_add hr9) rfl dX0_addInMarkup_48 (Nat.le_of_ble_eq_true rfl) (Nat.le_of_ble_eq_true rfl) rfl (Nat.le_of_ble_eq_true rfl) (show ((cells + 0) + 0) + 0 ≤ 0 by omega) (show ((slots + 0) + 0) + 0 ≤ 0 by omega) (fun v9 f9 n9 hh => ?_)
    obtain ⟨rfl, rfl, rfl⟩ := hh
    refine aw_pop C dX0_addInMarkup_51 rfl ?_
    refine aw_ald_n C dX0_addInMarkup_52 rfl ?_
    refine aw_bipush C 112 dX0_addInMarkup_53 kb_112 ?_
    obtain ⟨hb11, h⟩ := ck_some h
    obtain ⟨r12, hr12, h⟩ := Option.bind_eq_some_iff.mp h
    obtain ⟨fs13, hf13⟩ := isO_ex hb11
    refine aw_callV C (ci := 5) (b := j1) [.int (112 : Int32)] mv_X0_93 rfl rfl hf13 (rmX5_add hr12) rfl dX0_addInMarkup_55 (Nat.le_of_ble_eq_true rfl) (Nat.le_of_ble_eq_true rfl) rfl (Nat.le_of_ble_eq_true rfl) (show (((cells + 0) + 0) + 0) + 0 ≤ 0 by omega) (show (((slots + 0) + 0) + 0) + 0 ≤ 0 by omega) (fun v9 f9 n9 hh => ?_)
    obtain ⟨rfl, rfl, rfl⟩ := hh
    refine aw_pop C dX0_addInMarkup_58 rfl ?_
    refine aw_goto C 87 dX0_addInMarkup_59 (by decide) ?_
    refine aw_fl [none, some (va_rf (some j1))] ⟨rfl, trivial⟩ ?_
    exact rmX0_addInMarkup_b87 C (by omega) (by omega) h
def mX0_addInMarkup (v0 : Int32) (v1 : Option Nat) (f : AH) (n : Nat) : Option (Int32 × HpN) := (if v0 = (60 : Int32) then mX0_addInMarkup_b25 v0 v1 f n else (if v0 = (62 : Int32) then mX0_addInMarkup_b25 v0 v1 f n else (if v0 = (38 : Int32) then mX0_addInMarkup_b25 v0 v1 f n else ((v1).bind fun j1 => rCk (isO f j1 5) (((mX5_add j1 v0 f n).bind fun r3 => some ((0 : Int32), (r3.2.1, r3.2.2))))))))
set_option maxHeartbeats 1000000 in
theorem rmX0_addInMarkup {X : GX} {l : Launch} {r : Int32 × HpN} {v0 : Int32} {v1 : Option Nat} {f : AH} {n : Nat} (h : mX0_addInMarkup v0 v1 f n = some r) : AM X l yX0_addInMarkup cX0_addInMarkup 2 none 1 0 0 [.int v0, va_rf v1] f n (QHv r) := by
  have h : (if v0 = (60 : Int32) then mX0_addInMarkup_b25 v0 v1 f n else (if v0 = (62 : Int32) then mX0_addInMarkup_b25 v0 v1 f n else (if v0 = (38 : Int32) then mX0_addInMarkup_b25 v0 v1 f n else ((v1).bind fun j1 => rCk (isO f j1 5) (((mX5_add j1 v0 f n).bind fun r3 => some ((0 : Int32), (r3.2.1, r3.2.2)))))))) = some r := h
  refine AM.of (by decide +kernel) (all1 rfl (all1 (rf_cat _) rfl)) (Nat.le_of_ble_eq_true rfl) (fun p e s m args below meth c C hnm => ?_)
  refine aw_nl [some (.int v0), some (va_rf v1)] rfl ?_
  refine aw_iload_n C dX0_addInMarkup_0 rfl ?_
  refine aw_bipush C 60 dX0_addInMarkup_1 kb_60 ?_
  refine aw_icmp_eq C 25 dX0_addInMarkup_3 (by decide) (fun q => ?_) (fun q => ?_)
  · rw [if_pos q] at h
    refine aw_fl [some (.int v0), some (va_rf v1)] ⟨rfl, ⟨rfl, trivial⟩⟩ ?_
    exact rmX0_addInMarkup_b25 C (by omega) (by omega) h
  · rw [if_neg q] at h
    refine aw_iload_n C dX0_addInMarkup_6 rfl ?_
    refine aw_bipush C 62 dX0_addInMarkup_7 kb_62 ?_
    refine aw_icmp_eq C 25 dX0_addInMarkup_9 (by decide) (fun q => ?_) (fun q => ?_)
    · rw [if_pos q] at h
      refine aw_fl [some (.int v0), some (va_rf v1)] ⟨rfl, ⟨rfl, trivial⟩⟩ ?_
      exact rmX0_addInMarkup_b25 C (by omega) (by omega) h
    · rw [if_neg q] at h
      refine aw_iload_n C dX0_addInMarkup_12 rfl ?_
      refine aw_bipush C 38 dX0_addInMarkup_13 kb_38 ?_
      refine aw_icmp_eq C 25 dX0_addInMarkup_15 (by decide) (fun q => ?_) (fun q => ?_)
      · rw [if_pos q] at h
        refine aw_fl [some (.int v0), some (va_rf v1)] ⟨rfl, ⟨rfl, trivial⟩⟩ ?_
        exact rmX0_addInMarkup_b25 C (by omega) (by omega) h
      · rw [if_neg q] at h
        refine aw_aload_n C dX0_addInMarkup_18 rfl (rf_or v1) ?_
        refine aw_iload_n C dX0_addInMarkup_19 rfl ?_
        obtain ⟨j1, hj1, h⟩ := Option.bind_eq_some_iff.mp h
        rw [hj1]
        obtain ⟨hb2, h⟩ := ck_some h
        obtain ⟨r3, hr3, h⟩ := Option.bind_eq_some_iff.mp h
        obtain ⟨fs4, hf4⟩ := isO_ex hb2
        refine aw_callV C (ci := 5) (b := j1) [.int v0] mv_X0_93 rfl rfl hf4 (rmX5_add hr3) rfl dX0_addInMarkup_20 (Nat.le_of_ble_eq_true rfl) (Nat.le_of_ble_eq_true rfl) rfl (Nat.le_of_ble_eq_true rfl) (show 0 + 0 ≤ 0 by omega) (show 0 + 0 ≤ 0 by omega) (fun v9 f9 n9 hh => ?_)
        obtain ⟨rfl, rfl, rfl⟩ := hh
        refine aw_pop C dX0_addInMarkup_23 rfl ?_
        cases h
        exact aw_vret C rfl dX0_addInMarkup_24 (by omega) (by omega) ⟨rfl, rfl, rfl⟩
end
