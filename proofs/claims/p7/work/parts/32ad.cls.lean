def mX7_isLocked_b69 (f : AH) (n : Nat) : Option (Int32 × HpN) := rCk (rNb (0 : Int32)) (some ((0 : Int32), (f, n)))
set_option maxHeartbeats 1000000 in
theorem rmX7_isLocked_b69 {X : GX} {p : Program} {l : Launch} {e : Env} {s : State} {m : MethodId} {args : Array Value} {below : List Frame} {meth : Method} {c : Code} {r : Int32 × HpN} {f : AH} {n cells slots : Nat} (C : CC X p l (RM 2 0 0) s m args meth c RX7 cX7_isLocked 4 (some .boolean)) (hc : cells + 0 ≤ 0) (hs : slots + 0 ≤ 0) (h : mX7_isLocked_b69 f n = some r) : AW X p l e (RM 2 0 0) s m args below meth c 4 (ZM X below args s 0 0 (QHi r)) f n cells slots 69 [none, none, none, none] [] := by
  have h : rCk (rNb (0 : Int32)) (some ((0 : Int32), (f, n))) = some r := h
  refine aw_iconst C 0 dX7_isLocked_69 ki_0 ?_
  obtain ⟨hb1, h⟩ := ck_some h
  cases h
  exact aw_iret C rfl (nb_nar hb1) dX7_isLocked_70 (by omega) (by omega) ⟨rfl, rfl, rfl⟩
def mX7_isLocked_b63 (rec2 : Nat → (Option Nat) → Int32 → AH → Nat → Option (Int32 × HpN)) (v0 : Nat) (v1 : Option Nat) (v2 : Int32) (f : AH) (n : Nat) : Option (Int32 × HpN) := rec2 v0 v1 (v2 + (1 : Int32)) f n
set_option maxHeartbeats 1000000 in
theorem rmX7_isLocked_b63 {X : GX} {p : Program} {l : Launch} {e : Env} {s : State} {m : MethodId} {args : Array Value} {below : List Frame} {meth : Method} {c : Code} {r : Int32 × HpN} {rec2 : Nat → (Option Nat) → Int32 → AH → Nat → Option (Int32 × HpN)} {v0 : Nat} {v1 : Option Nat} {v2 : Int32} {f : AH} {n cells slots : Nat} (C : CC X p l (RM 2 0 0) s m args meth c RX7 cX7_isLocked 4 (some .boolean)) (Hr2 : ∀ (v0 : Nat) (v1 : Option Nat) (v2 : Int32) (f : AH) (n cells slots : Nat), cells + 0 ≤ 0 → slots + 0 ≤ 0 → rec2 v0 v1 v2 f n = some r → AW X p l e (RM 2 0 0) s m args below meth c 4 (ZM X below args s 0 0 (QHi r)) f n cells slots 2 [some (.ref v0), some (va_rf v1), some (.int v2), none] []) (hc : cells + 0 ≤ 0) (hs : slots + 0 ≤ 0) (h : mX7_isLocked_b63 rec2 v0 v1 v2 f n = some r) : AW X p l e (RM 2 0 0) s m args below meth c 4 (ZM X below args s 0 0 (QHi r)) f n cells slots 63 [some (.ref v0), some (va_rf v1), some (.int v2), none] [] := by
  have h : rec2 v0 v1 (v2 + (1 : Int32)) f n = some r := h
  refine aw_iinc C (v2 + (1 : Int32)) dX7_isLocked_63 rfl (by rw [ki_1]) (by decide) (ok_rf 1 rfl) ?_
  refine aw_nl [some (.ref v0), some (va_rf v1), some (.int (v2 + (1 : Int32))), none] rfl ?_
  refine aw_goto C 2 dX7_isLocked_66 (by decide) ?_
  refine aw_fl [some (.ref v0), some (va_rf v1), some (.int (v2 + (1 : Int32))), none] ⟨rfl, ⟨rfl, ⟨rfl, trivial⟩⟩⟩ ?_
  exact Hr2 v0 v1 (v2 + (1 : Int32)) f n _ _ (by omega) (by omega) h
def mX7_isLocked_l2 : Nat → Nat → (Option Nat) → Int32 → AH → Nat → Option (Int32 × HpN)
  | 0, _, _, _, _, _ => none
  | d + 1, v0, v1, v2, f, n => ((gI f v0 7 5).bind fun x1 => (if x1 ≤ v2 then mX7_isLocked_b69 f n else ((gR f v0 7 8).bind fun x2 => ((x2).bind fun j3 => ((gL f j3).bind fun x4 => (if (nI x4) ≤ v2 then mX7_isLocked_b69 f n else ((gR f v0 7 8).bind fun x5 => ((x5).bind fun j6 => ((gRA f j6 v2).bind fun x7 => (oN x7 (mX7_isLocked_b63 (fun v0 v1 v2 f n => mX7_isLocked_l2 d v0 v1 v2 f n) v0 v1 v2 f n) (fun j8 => rCk (isO f j8 5) (((mX5_size j8 f n).bind fun r10 => ((v1).bind fun j12 => ((gI r10.2.1 j12 6 5).bind fun x13 => (if x13 < r10.1 then mX7_isLocked_b63 (fun v0 v1 v2 f n => mX7_isLocked_l2 d v0 v1 v2 f n) v0 (some j12) v2 r10.2.1 r10.2.2 else ((gR r10.2.1 j12 6 0).bind fun x14 => ((gI r10.2.1 j12 6 4).bind fun x15 => rCk (isO r10.2.1 j8 5) (((mX5_size j8 r10.2.1 r10.2.2).bind fun r17 => rCk (isO r17.2.1 j8 5) (((mX5_isSame j8 (0 : Int32) x14 x15 r17.1 r17.2.1 r17.2.2).bind fun r20 => (if r20.1 = (0 : Int32) then mX7_isLocked_b63 (fun v0 v1 v2 f n => mX7_isLocked_l2 d v0 v1 v2 f n) v0 (some j12) v2 r20.2.1 r20.2.2 else rCk (rNb (1 : Int32)) (some ((1 : Int32), (r20.2.1, r20.2.2))))))))))))))))))))))))))
set_option maxHeartbeats 1000000 in
theorem rmX7_isLocked_l2 {X : GX} {p : Program} {l : Launch} {e : Env} {s : State} {m : MethodId} {args : Array Value} {below : List Frame} {meth : Method} {c : Code} {r : Int32 × HpN} (C : CC X p l (RM 2 0 0) s m args meth c RX7 cX7_isLocked 4 (some .boolean)) : ∀ (d : Nat) (v0 : Nat) (v1 : Option Nat) (v2 : Int32) (f : AH) (n cells slots : Nat) (_ : cells + 0 ≤ 0) (_ : slots + 0 ≤ 0) (_ : mX7_isLocked_l2 d v0 v1 v2 f n = some r), AW X p l e (RM 2 0 0) s m args below meth c 4 (ZM X below args s 0 0 (QHi r)) f n cells slots 2 [some (.ref v0), some (va_rf v1), some (.int v2), none] [] := by
  intro d
  induction d with
  | zero =>
    intro v0 v1 v2 f n cells slots hc hs h
    exact nomatch (show (none : Option (Int32 × HpN)) = some r from h)
  | succ d ih =>
    intro v0 v1 v2 f n cells slots hc hs h
    have h : ((gI f v0 7 5).bind fun x1 => (if x1 ≤ v2 then mX7_isLocked_b69 f n else ((gR f v0 7 8).bind fun x2 => ((x2).bind fun j3 => ((gL f j3).bind fun x4 => (if (nI x4) ≤ v2 then mX7_isLocked_b69 f n else ((gR f v0 7 8).bind fun x5 => ((x5).bind fun j6 => ((gRA f j6 v2).bind fun x7 => (oN x7 (mX7_isLocked_b63 (fun v0 v1 v2 f n => mX7_isLocked_l2 d v0 v1 v2 f n) v0 v1 v2 f n) (fun j8 => rCk (isO f j8 5) (((mX5_size j8 f n).bind fun r10 => ((v1).bind fun j12 => ((gI r10.2.1 j12 6 5).bind fun x13 => (if x13 < r10.1 then mX7_isLocked_b63 (fun v0 v1 v2 f n => mX7_isLocked_l2 d v0 v1 v2 f n) v0 (some j12) v2 r10.2.1 r10.2.2 else ((gR r10.2.1 j12 6 0).bind fun x14 => ((gI r10.2.1 j12 6 4).bind fun x15 => rCk (isO r10.2.1 j8 5) (((mX5_size j8 r10.2.1 r10.2.2).bind fun r17 => rCk (isO r17.2.1 j8 5) (((mX5_isSame j8 (0 : Int32) x14 x15 r17.1 r17.2.1 r17.2.2).bind fun r20 => (if r20.1 = (0 : Int32) then mX7_isLocked_b63 (fun v0 v1 v2 f n => mX7_isLocked_l2 d v0 v1 v2 f n) v0 (some j12) v2 r20.2.1 r20.2.2 else rCk (rNb (1 : Int32)) (some ((1 : Int32), (r20.2.1, r20.2.2)))))))))))))))))))))))))) = some r := h
    refine aw_iload_n C dX7_isLocked_2 rfl ?_
    refine aw_ald_n C dX7_isLocked_3 rfl ?_
    obtain ⟨x1, hx1, h⟩ := Option.bind_eq_some_iff.mp h
    refine ah_getI C gf_X7_41 hx1 dX7_isLocked_4 ?_
    refine aw_icmp_ge C 69 dX7_isLocked_7 (by decide) (fun q => ?_) (fun q => ?_)
    · rw [if_pos q] at h
      refine aw_fl [none, none, none, none] trivial ?_
      exact rmX7_isLocked_b69 C (by omega) (by omega) h
    · rw [if_neg q] at h
      refine aw_iload_n C dX7_isLocked_10 rfl ?_
      refine aw_ald_n C dX7_isLocked_11 rfl ?_
      obtain ⟨x2, hx2, h⟩ := Option.bind_eq_some_iff.mp h
      refine ah_getR C gf_X7_30 hx2 dX7_isLocked_12 ?_
      obtain ⟨j3, hj3, h⟩ := Option.bind_eq_some_iff.mp h
      rw [hj3]
      obtain ⟨x4, hx4, h⟩ := Option.bind_eq_some_iff.mp h
      refine ah_len C hx4 dX7_isLocked_15 ?_
      refine aw_icmp_ge C 69 dX7_isLocked_16 (by decide) (fun q => ?_) (fun q => ?_)
      · rw [if_pos q] at h
        refine aw_fl [none, none, none, none] trivial ?_
        exact rmX7_isLocked_b69 C (by omega) (by omega) h
      · rw [if_neg q] at h
        refine aw_ald_n C dX7_isLocked_19 rfl ?_
        obtain ⟨x5, hx5, h⟩ := Option.bind_eq_some_iff.mp h
        refine ah_getR C gf_X7_30 hx5 dX7_isLocked_20 ?_
        refine aw_iload_n C dX7_isLocked_23 rfl ?_
        obtain ⟨j6, hj6, h⟩ := Option.bind_eq_some_iff.mp h
        rw [hj6]
        obtain ⟨x7, hx7, h⟩ := Option.bind_eq_some_iff.mp h
        refine ah_aald C hx7 dX7_isLocked_24 ?_
        refine aw_astore_n C dX7_isLocked_25 (by decide) rfl (rf_or x7) ?_
        refine aw_nl [some (.ref v0), some (va_rf v1), some (.int v2), some (va_rf x7)] rfl ?_
        refine aw_aload_n C dX7_isLocked_26 rfl (rf_or x7) ?_
        cases x7 with
        | none =>
          replace h : mX7_isLocked_b63 (fun v0 v1 v2 f n => mX7_isLocked_l2 d v0 v1 v2 f n) v0 v1 v2 f n = some r := h
          refine aw_ifnull_n C 63 dX7_isLocked_27 (by decide) ?_
          refine aw_fl [some (.ref v0), some (va_rf v1), some (.int v2), none] ⟨rfl, ⟨rfl, ⟨rfl, trivial⟩⟩⟩ ?_
          exact rmX7_isLocked_b63 C (fun v0 v1 v2 f n cells slots hc hs h => ih v0 v1 v2 f n cells slots hc hs h) (by omega) (by omega) h
        | some j8 =>
          replace h : rCk (isO f j8 5) (((mX5_size j8 f n).bind fun r10 => ((v1).bind fun j12 => ((gI r10.2.1 j12 6 5).bind fun x13 => (if x13 < r10.1 then mX7_isLocked_b63 (fun v0 v1 v2 f n => mX7_isLocked_l2 d v0 v1 v2 f n) v0 (some j12) v2 r10.2.1 r10.2.2 else ((gR r10.2.1 j12 6 0).bind fun x14 => ((gI r10.2.1 j12 6 4).bind fun x15 => rCk (isO r10.2.1 j8 5) (((mX5_size j8 r10.2.1 r10.2.2).bind fun r17 => rCk (isO r17.2.1 j8 5) (((mX5_isSame j8 (0 : Int32) x14 x15 r17.1 r17.2.1 r17.2.2).bind fun r20 => (if r20.1 = (0 : Int32) then mX7_isLocked_b63 (fun v0 v1 v2 f n => mX7_isLocked_l2 d v0 v1 v2 f n) v0 (some j12) v2 r20.2.1 r20.2.2 else rCk (rNb (1 : Int32)) (some ((1 : Int32), (r20.2.1, r20.2.2))))))))))))))) = some r := h
          refine aw_ifnull_r C 63 dX7_isLocked_27 (by decide) ?_
          refine aw_ald_n C dX7_isLocked_30 rfl ?_
          obtain ⟨hb9, h⟩ := ck_some h
          obtain ⟨r10, hr10, h⟩ := Option.bind_eq_some_iff.mp h
          obtain ⟨fs11, hf11⟩ := isO_ex hb9
          refine aw_callV C (ci := 5) (b := j8) [] mv_X7_62 rfl rfl hf11 (rmX5_size hr10) rfl dX7_isLocked_31 (Nat.le_of_ble_eq_true rfl) (Nat.le_of_ble_eq_true rfl) rfl (Nat.le_of_ble_eq_true rfl) (show cells + 0 ≤ 0 by omega) (show slots + 0 ≤ 0 by omega) (fun v9 f9 n9 hh => ?_)
          obtain ⟨rfl, rfl, rfl⟩ := hh
          refine aw_aload_n C dX7_isLocked_34 rfl (rf_or v1) ?_
          obtain ⟨j12, hj12, h⟩ := Option.bind_eq_some_iff.mp h
          rw [hj12]
          obtain ⟨x13, hx13, h⟩ := Option.bind_eq_some_iff.mp h
          refine ah_getI C gf_X7_70 hx13 dX7_isLocked_35 ?_
          refine aw_icmp_gt C 63 dX7_isLocked_38 (by decide) (fun q => ?_) (fun q => ?_)
          · rw [if_pos q] at h
            refine aw_fl [some (.ref v0), some (va_rf (some j12)), some (.int v2), none] ⟨rfl, ⟨rfl, ⟨rfl, trivial⟩⟩⟩ ?_
            exact rmX7_isLocked_b63 C (fun v0 v1 v2 f n cells slots hc hs h => ih v0 v1 v2 f n cells slots hc hs h) (by omega) (by omega) h
          · rw [if_neg q] at h
            refine aw_ald_n C dX7_isLocked_41 rfl ?_
            refine aw_iconst C 0 dX7_isLocked_42 ki_0 ?_
            refine aw_ald_n C dX7_isLocked_43 rfl ?_
            obtain ⟨x14, hx14, h⟩ := Option.bind_eq_some_iff.mp h
            refine ah_getR C gf_X7_75 hx14 dX7_isLocked_44 ?_
            refine aw_ald_n C dX7_isLocked_47 rfl ?_
            obtain ⟨x15, hx15, h⟩ := Option.bind_eq_some_iff.mp h
            refine ah_getI C gf_X7_78 hx15 dX7_isLocked_48 ?_
            refine aw_ald_n C dX7_isLocked_51 rfl ?_
            obtain ⟨hb16, h⟩ := ck_some h
            obtain ⟨r17, hr17, h⟩ := Option.bind_eq_some_iff.mp h
            obtain ⟨fs18, hf18⟩ := isO_ex hb16
            refine aw_callV C (ci := 5) (b := j8) [] mv_X7_62 rfl rfl hf18 (rmX5_size hr17) rfl dX7_isLocked_52 (Nat.le_of_ble_eq_true rfl) (Nat.le_of_ble_eq_true rfl) rfl (cs_1 rfl (cs_1 (rf_cat _) (cs_1 rfl (cs_1 rfl cs_0)))) (show (cells + 0) + 0 ≤ 0 by omega) (show (slots + 0) + 0 ≤ 0 by omega) (fun v9 f9 n9 hh => ?_)
            obtain ⟨rfl, rfl, rfl⟩ := hh
            obtain ⟨hb19, h⟩ := ck_some h
            obtain ⟨r20, hr20, h⟩ := Option.bind_eq_some_iff.mp h
            obtain ⟨fs21, hf21⟩ := isO_ex hb19
            refine aw_callV C (ci := 5) (b := j8) [.int (0 : Int32), va_rf x14, .int x15, .int r17.1] mv_X7_66 rfl rfl hf21 (rmX5_isSame hr20) rfl dX7_isLocked_55 (Nat.le_of_ble_eq_true rfl) (Nat.le_of_ble_eq_true rfl) rfl (Nat.le_of_ble_eq_true rfl) (show ((cells + 0) + 0) + 0 ≤ 0 by omega) (show ((slots + 0) + 0) + 0 ≤ 0 by omega) (fun v9 f9 n9 hh => ?_)
            obtain ⟨rfl, rfl, rfl⟩ := hh
            refine aw_if_eq C 63 dX7_isLocked_58 (by decide) (fun q => ?_) (fun q => ?_)
            · rw [if_pos q] at h
              refine aw_fl [some (.ref v0), some (va_rf (some j12)), some (.int v2), none] ⟨rfl, ⟨rfl, ⟨rfl, trivial⟩⟩⟩ ?_
              exact rmX7_isLocked_b63 C (fun v0 v1 v2 f n cells slots hc hs h => ih v0 v1 v2 f n cells slots hc hs h) (by omega) (by omega) h
            · rw [if_neg q] at h
              refine aw_iconst C 1 dX7_isLocked_61 ki_1 ?_
              obtain ⟨hb22, h⟩ := ck_some h
              cases h
              exact aw_iret C rfl (nb_nar hb22) dX7_isLocked_62 (by omega) (by omega) ⟨rfl, rfl, rfl⟩
def mX7_isLocked (v0 : Nat) (v1 : Option Nat) (f : AH) (n : Nat) : Option (Int32 × HpN) := mX7_isLocked_l2 rFU v0 v1 (0 : Int32) f n
set_option maxHeartbeats 1000000 in
theorem rmX7_isLocked {X : GX} {l : Launch} {r : Int32 × HpN} {v0 : Nat} {v1 : Option Nat} {f : AH} {n : Nat} (h : mX7_isLocked v0 v1 f n = some r) : AM X l yX7_isLocked cX7_isLocked 4 (some .boolean) 2 0 0 [.ref v0, va_rf v1] f n (QHi r) := by
  have h : mX7_isLocked_l2 rFU v0 v1 (0 : Int32) f n = some r := h
  refine AM.of (by decide +kernel) (all1 rfl (all1 (rf_cat _) rfl)) (Nat.le_of_ble_eq_true rfl) (fun p e s m args below meth c C hnm => ?_)
  refine aw_nl [some (.ref v0), some (va_rf v1), none, none] rfl ?_
  refine aw_iconst C 0 dX7_isLocked_0 ki_0 ?_
  refine aw_istore_n C dX7_isLocked_1 (by decide) (ok_rf 1 rfl) ?_
  refine aw_nl [some (.ref v0), some (va_rf v1), some (.int (0 : Int32)), none] rfl ?_
  refine aw_fl [some (.ref v0), some (va_rf v1), some (.int (0 : Int32)), none] ⟨rfl, ⟨rfl, ⟨rfl, trivial⟩⟩⟩ ?_
  exact rmX7_isLocked_l2 C rFU v0 v1 (0 : Int32) f n _ _ (by omega) (by omega) h
def mX6_readMarkup_b154 (f : AH) (n : Nat) : Option (Int32 × HpN) := some ((0 : Int32), (f, n))
set_option maxHeartbeats 1000000 in
theorem rmX6_readMarkup_b154 {X : GX} {p : Program} {l : Launch} {e : Env} {s : State} {m : MethodId} {args : Array Value} {below : List Frame} {meth : Method} {c : Code} {r : Int32 × HpN} {f : AH} {n cells slots : Nat} (C : CC X p l (RM 1 0 0) s m args meth c RX6 cX6_readMarkup 3 none) (hc : cells + 0 ≤ 0) (hs : slots + 0 ≤ 0) (h : mX6_readMarkup_b154 f n = some r) : AW X p l e (RM 1 0 0) s m args below meth c 3 (ZM X below args s 0 0 (QHv r)) f n cells slots 154 [none, none, none] [] := by
  have h : some ((0 : Int32), (f, n)) = some r := h
  cases h
  exact aw_vret C rfl dX6_readMarkup_154 (by omega) (by omega) ⟨rfl, rfl, rfl⟩
def mX6_readMarkup_b146 (v0 : Nat) (s0 : Nat) (s1 : Int32) (f : AH) (n : Nat) : Option (Int32 × HpN) := ((pO f s0 6 6 (.int s1)).bind fun f1 => ((pO f1 v0 6 7 (.int (4 : Int32))).bind fun f2 => mX6_readMarkup_b154 f2 n))
set_option maxHeartbeats 1000000 in
theorem rmX6_readMarkup_b146 {X : GX} {p : Program} {l : Launch} {e : Env} {s : State} {m : MethodId} {args : Array Value} {below : List Frame} {meth : Method} {c : Code} {r : Int32 × HpN} {v0 : Nat} {s0 : Nat} {s1 : Int32} {f : AH} {n cells slots : Nat} (C : CC X p l (RM 1 0 0) s m args meth c RX6 cX6_readMarkup 3 none) (hc : cells + 0 ≤ 0) (hs : slots + 0 ≤ 0) (h : mX6_readMarkup_b146 v0 s0 s1 f n = some r) : AW X p l e (RM 1 0 0) s m args below meth c 3 (ZM X below args s 0 0 (QHv r)) f n cells slots 146 [some (.ref v0), none, none] [.int s1, .ref s0] := by
  have h : ((pO f s0 6 6 (.int s1)).bind fun f1 => ((pO f1 v0 6 7 (.int (4 : Int32))).bind fun f2 => mX6_readMarkup_b154 f2 n)) = some r := h
  obtain ⟨f1, hf1, h⟩ := Option.bind_eq_some_iff.mp h
  refine ah_put C gf_X6_83 cf6 nf6_6 rfl rfl hf1 dX6_readMarkup_146 ?_
  refine aw_ald_n C dX6_readMarkup_149 rfl ?_
  refine aw_iconst C 4 dX6_readMarkup_150 ki_4 ?_
  obtain ⟨f2, hf2, h⟩ := Option.bind_eq_some_iff.mp h
  refine ah_put C gf_X6_86 cf6 nf6_7 rfl rfl hf2 dX6_readMarkup_151 ?_
  refine aw_fl [none, none, none] trivial ?_
  exact rmX6_readMarkup_b154 C (by omega) (by omega) h
def mX6_readMarkup_b92 (v0 : Nat) (v1 : Int32) (v2 : Int32) (f : AH) (n : Nat) : Option (Int32 × HpN) := ((gI f v0 6 2).bind fun x1 => (if x1 ≤ (v1 + (3 : Int32)) then mX6_readMarkup_b154 f n else ((gR f v0 6 0).bind fun x2 => ((x2).bind fun j3 => rCk (isO f j3 5) (((mX5_get j3 (v1 + (2 : Int32)) f n).bind fun r5 => (if r5.1 = (116 : Int32) then ((gR r5.2.1 v0 6 0).bind fun x7 => ((x7).bind fun j8 => rCk (isO r5.2.1 j8 5) (((mX5_get j8 (v1 + (3 : Int32)) r5.2.1 r5.2.2).bind fun r10 => (if r10.1 = (59 : Int32) then (if v2 = (108 : Int32) then mX6_readMarkup_b146 v0 v0 (60 : Int32) r10.2.1 r10.2.2 else mX6_readMarkup_b146 v0 v0 (62 : Int32) r10.2.1 r10.2.2) else mX6_readMarkup_b154 r10.2.1 r10.2.2))))) else mX6_readMarkup_b154 r5.2.1 r5.2.2)))))))
set_option maxHeartbeats 1000000 in
theorem rmX6_readMarkup_b92 {X : GX} {p : Program} {l : Launch} {e : Env} {s : State} {m : MethodId} {args : Array Value} {below : List Frame} {meth : Method} {c : Code} {r : Int32 × HpN} {v0 : Nat} {v1 : Int32} {v2 : Int32} {f : AH} {n cells slots : Nat} (C : CC X p l (RM 1 0 0) s m args meth c RX6 cX6_readMarkup 3 none) (hc : cells + 0 ≤ 0) (hs : slots + 0 ≤ 0) (h : mX6_readMarkup_b92 v0 v1 v2 f n = some r) : AW X p l e (RM 1 0 0) s m args below meth c 3 (ZM X below args s 0 0 (QHv r)) f n cells slots 92 [some (.ref v0), some (.int v1), some (.int v2)] [] := by
  have h : ((gI f v0 6 2).bind fun x1 => (if x1 ≤ (v1 + (3 : Int32)) then mX6_readMarkup_b154 f n else ((gR f v0 6 0).bind fun x2 => ((x2).bind fun j3 => rCk (isO f j3 5) (((mX5_get j3 (v1 + (2 : Int32)) f n).bind fun r5 => (if r5.1 = (116 : Int32) then ((gR r5.2.1 v0 6 0).bind fun x7 => ((x7).bind fun j8 => rCk (isO r5.2.1 j8 5) (((mX5_get j8 (v1 + (3 : Int32)) r5.2.1 r5.2.2).bind fun r10 => (if r10.1 = (59 : Int32) then (if v2 = (108 : Int32) then mX6_readMarkup_b146 v0 v0 (60 : Int32) r10.2.1 r10.2.2 else mX6_readMarkup_b146 v0 v0 (62 : Int32) r10.2.1 r10.2.2) else mX6_readMarkup_b154 r10.2.1 r10.2.2))))) else mX6_readMarkup_b154 r5.2.1 r5.2.2))))))) = some r := h
  refine aw_iload_n C dX6_readMarkup_92 rfl ?_
  refine aw_iconst C 3 dX6_readMarkup_93 ki_3 ?_
  refine aw_iadd C dX6_readMarkup_94 ?_
  refine aw_ald_n C dX6_readMarkup_95 rfl ?_
  obtain ⟨x1, hx1, h⟩ := Option.bind_eq_some_iff.mp h
  refine ah_getI C gf_X6_56 hx1 dX6_readMarkup_96 ?_
  refine aw_icmp_ge C 154 dX6_readMarkup_99 (by decide) (fun q => ?_) (fun q => ?_)
  · rw [if_pos q] at h
    refine aw_fl [none, none, none] trivial ?_
    exact rmX6_readMarkup_b154 C (by omega) (by omega) h
  · rw [if_neg q] at h
    refine aw_ald_n C dX6_readMarkup_102 rfl ?_
    obtain ⟨x2, hx2, h⟩ := Option.bind_eq_some_iff.mp h
    refine ah_getR C gf_X6_14 hx2 dX6_readMarkup_103 ?_
    refine aw_iload_n C dX6_readMarkup_106 rfl ?_
    refine aw_iconst C 2 dX6_readMarkup_107 ki_2 ?_
    refine aw_iadd C dX6_readMarkup_108 ?_
    obtain ⟨j3, hj3, h⟩ := Option.bind_eq_some_iff.mp h
    rw [hj3]
    obtain ⟨hb4, h⟩ := ck_some h
    obtain ⟨r5, hr5, h⟩ := Option.bind_eq_some_iff.mp h
    obtain ⟨fs6, hf6⟩ := isO_ex hb4
    refine aw_callV C (ci := 5) (b := j3) [.int (v1 + (2 : Int32))] mv_X6_67 rfl rfl hf6 (rmX5_get hr5) rfl dX6_readMarkup_109 (Nat.le_of_ble_eq_true rfl) (Nat.le_of_ble_eq_true rfl) rfl (Nat.le_of_ble_eq_true rfl) (show cells + 0 ≤ 0 by omega) (show slots + 0 ≤ 0 by omega) (fun v9 f9 n9 hh => ?_)
    obtain ⟨rfl, rfl, rfl⟩ := hh
    refine aw_bipush C 116 dX6_readMarkup_112 kb_116 ?_
    refine aw_icmp_ne C 154 dX6_readMarkup_114 (by decide) (fun q => ?_) (fun q => ?_)
    · rw [if_neg q] at h
      refine aw_fl [none, none, none] trivial ?_
      exact rmX6_readMarkup_b154 C (by omega) (by omega) h
    · rw [if_pos q] at h
      refine aw_ald_n C dX6_readMarkup_117 rfl ?_
      obtain ⟨x7, hx7, h⟩ := Option.bind_eq_some_iff.mp h
      refine ah_getR C gf_X6_14 hx7 dX6_readMarkup_118 ?_
      refine aw_iload_n C dX6_readMarkup_121 rfl ?_
      refine aw_iconst C 3 dX6_readMarkup_122 ki_3 ?_
      refine aw_iadd C dX6_readMarkup_123 ?_
      obtain ⟨j8, hj8, h⟩ := Option.bind_eq_some_iff.mp h
      rw [hj8]
      obtain ⟨hb9, h⟩ := ck_some h
      obtain ⟨r10, hr10, h⟩ := Option.bind_eq_some_iff.mp h
      obtain ⟨fs11, hf11⟩ := isO_ex hb9
      refine aw_callV C (ci := 5) (b := j8) [.int (v1 + (3 : Int32))] mv_X6_67 rfl rfl hf11 (rmX5_get hr10) rfl dX6_readMarkup_124 (Nat.le_of_ble_eq_true rfl) (Nat.le_of_ble_eq_true rfl) rfl (Nat.le_of_ble_eq_true rfl) (show (cells + 0) + 0 ≤ 0 by omega) (show (slots + 0) + 0 ≤ 0 by omega) (fun v9 f9 n9 hh => ?_)
      obtain ⟨rfl, rfl, rfl⟩ := hh
      refine aw_bipush C 59 dX6_readMarkup_127 kb_59 ?_
      refine aw_icmp_ne C 154 dX6_readMarkup_129 (by decide) (fun q => ?_) (fun q => ?_)
      · rw [if_neg q] at h
        refine aw_fl [none, none, none] trivial ?_
        exact rmX6_readMarkup_b154 C (by omega) (by omega) h
      · rw [if_pos q] at h
        refine aw_ald_n C dX6_readMarkup_132 rfl ?_
        refine aw_iload_n C dX6_readMarkup_133 rfl ?_
        refine aw_bipush C 108 dX6_readMarkup_134 kb_108 ?_
        refine aw_icmp_ne C 144 dX6_readMarkup_136 (by decide) (fun q => ?_) (fun q => ?_)
        · rw [if_neg q] at h
          refine aw_bipush C 62 dX6_readMarkup_144 kb_62 ?_
          refine aw_fl [some (.ref v0), none, none] ⟨rfl, trivial⟩ ?_
          exact rmX6_readMarkup_b146 C (by omega) (by omega) h
        · rw [if_pos q] at h
          refine aw_bipush C 60 dX6_readMarkup_139 kb_60 ?_
          refine aw_goto C 146 dX6_readMarkup_141 (by decide) ?_
          refine aw_fl [some (.ref v0), none, none] ⟨rfl, trivial⟩ ?_
          exact rmX6_readMarkup_b146 C (by omega) (by omega) h
def mX6_readMarkup (v0 : Nat) (v1 : Int32) (f : AH) (n : Nat) : Option (Int32 × HpN) := ((gR f v0 6 0).bind fun x1 => ((x1).bind fun j2 => rCk (isO f j2 5) (((mX5_get j2 (v1 + (1 : Int32)) f n).bind fun r4 => (if r4.1 = (97 : Int32) then ((gI r4.2.1 v0 6 2).bind fun x6 => (if x6 ≤ (v1 + (4 : Int32)) then mX6_readMarkup_b154 r4.2.1 r4.2.2 else ((gR r4.2.1 v0 6 0).bind fun x7 => ((x7).bind fun j8 => rCk (isO r4.2.1 j8 5) (((mX5_get j8 (v1 + (2 : Int32)) r4.2.1 r4.2.2).bind fun r10 => (if r10.1 = (109 : Int32) then ((gR r10.2.1 v0 6 0).bind fun x12 => ((x12).bind fun j13 => rCk (isO r10.2.1 j13 5) (((mX5_get j13 (v1 + (3 : Int32)) r10.2.1 r10.2.2).bind fun r15 => (if r15.1 = (112 : Int32) then ((gR r15.2.1 v0 6 0).bind fun x17 => ((x17).bind fun j18 => rCk (isO r15.2.1 j18 5) (((mX5_get j18 (v1 + (4 : Int32)) r15.2.1 r15.2.2).bind fun r20 => (if r20.1 = (59 : Int32) then ((pO r20.2.1 v0 6 7 (.int (5 : Int32))).bind fun f22 => mX6_readMarkup_b154 f22 r20.2.2) else mX6_readMarkup_b154 r20.2.1 r20.2.2))))) else mX6_readMarkup_b154 r15.2.1 r15.2.2))))) else mX6_readMarkup_b154 r10.2.1 r10.2.2))))))) else (if r4.1 = (108 : Int32) then mX6_readMarkup_b92 v0 v1 r4.1 r4.2.1 r4.2.2 else (if r4.1 = (103 : Int32) then mX6_readMarkup_b92 v0 v1 r4.1 r4.2.1 r4.2.2 else mX6_readMarkup_b154 r4.2.1 r4.2.2)))))))
set_option maxHeartbeats 1000000 in
theorem rmX6_readMarkup {X : GX} {l : Launch} {r : Int32 × HpN} {v0 : Nat} {v1 : Int32} {f : AH} {n : Nat} (h : mX6_readMarkup v0 v1 f n = some r) : AM X l yX6_readMarkup cX6_readMarkup 3 none 1 0 0 [.ref v0, .int v1] f n (QHv r) := by
  have h : ((gR f v0 6 0).bind fun x1 => ((x1).bind fun j2 => rCk (isO f j2 5) (((mX5_get j2 (v1 + (1 : Int32)) f n).bind fun r4 => (if r4.1 = (97 : Int32) then ((gI r4.2.1 v0 6 2).bind fun x6 => (if x6 ≤ (v1 + (4 : Int32)) then mX6_readMarkup_b154 r4.2.1 r4.2.2 else ((gR r4.2.1 v0 6 0).bind fun x7 => ((x7).bind fun j8 => rCk (isO r4.2.1 j8 5) (((mX5_get j8 (v1 + (2 : Int32)) r4.2.1 r4.2.2).bind fun r10 => (if r10.1 = (109 : Int32) then ((gR r10.2.1 v0 6 0).bind fun x12 => ((x12).bind fun j13 => rCk (isO r10.2.1 j13 5) (((mX5_get j13 (v1 + (3 : Int32)) r10.2.1 r10.2.2).bind fun r15 => (if r15.1 = (112 : Int32) then ((gR r15.2.1 v0 6 0).bind fun x17 => ((x17).bind fun j18 => rCk (isO r15.2.1 j18 5) (((mX5_get j18 (v1 + (4 : Int32)) r15.2.1 r15.2.2).bind fun r20 => (if r20.1 = (59 : Int32) then ((pO r20.2.1 v0 6 7 (.int (5 : Int32))).bind fun f22 => mX6_readMarkup_b154 f22 r20.2.2) else mX6_readMarkup_b154 r20.2.1 r20.2.2))))) else mX6_readMarkup_b154 r15.2.1 r15.2.2))))) else mX6_readMarkup_b154 r10.2.1 r10.2.2))))))) else (if r4.1 = (108 : Int32) then mX6_readMarkup_b92 v0 v1 r4.1 r4.2.1 r4.2.2 else (if r4.1 = (103 : Int32) then mX6_readMarkup_b92 v0 v1 r4.1 r4.2.1 r4.2.2 else mX6_readMarkup_b154 r4.2.1 r4.2.2))))))) = some r := h
  refine AM.of (by decide +kernel) rfl (Nat.le_of_ble_eq_true rfl) (fun p e s m args below meth c C hnm => ?_)
  refine aw_nl [some (.ref v0), some (.int v1), none] rfl ?_
  refine aw_ald_n C dX6_readMarkup_0 rfl ?_
  obtain ⟨x1, hx1, h⟩ := Option.bind_eq_some_iff.mp h
  refine ah_getR C gf_X6_14 hx1 dX6_readMarkup_1 ?_
  refine aw_iload_n C dX6_readMarkup_4 rfl ?_
  refine aw_iconst C 1 dX6_readMarkup_5 ki_1 ?_
  refine aw_iadd C dX6_readMarkup_6 ?_
  obtain ⟨j2, hj2, h⟩ := Option.bind_eq_some_iff.mp h
  rw [hj2]
  obtain ⟨hb3, h⟩ := ck_some h
  obtain ⟨r4, hr4, h⟩ := Option.bind_eq_some_iff.mp h
  obtain ⟨fs5, hf5⟩ := isO_ex hb3
  refine aw_callV C (ci := 5) (b := j2) [.int (v1 + (1 : Int32))] mv_X6_67 rfl rfl hf5 (rmX5_get hr4) rfl dX6_readMarkup_7 (Nat.le_of_ble_eq_true rfl) (Nat.le_of_ble_eq_true rfl) rfl (Nat.le_of_ble_eq_true rfl) (show 0 + 0 ≤ 0 by omega) (show 0 + 0 ≤ 0 by omega) (fun v9 f9 n9 hh => ?_)
  obtain ⟨rfl, rfl, rfl⟩ := hh
  refine aw_istore_n C dX6_readMarkup_10 (by decide) rfl ?_
  refine aw_nl [some (.ref v0), some (.int v1), some (.int r4.1)] rfl ?_
  refine aw_iload_n C dX6_readMarkup_11 rfl ?_
  refine aw_bipush C 97 dX6_readMarkup_12 kb_97 ?_
  refine aw_icmp_ne C 80 dX6_readMarkup_14 (by decide) (fun q => ?_) (fun q => ?_)
  · rw [if_neg q] at h
    refine aw_iload_n C dX6_readMarkup_80 rfl ?_
    refine aw_bipush C 108 dX6_readMarkup_81 kb_108 ?_
    refine aw_icmp_eq C 92 dX6_readMarkup_83 (by decide) (fun q => ?_) (fun q => ?_)
    · rw [if_pos q] at h
      refine aw_fl [some (.ref v0), some (.int v1), some (.int r4.1)] ⟨rfl, ⟨rfl, ⟨rfl, trivial⟩⟩⟩ ?_
      exact rmX6_readMarkup_b92 C (by omega) (by omega) h
    · rw [if_neg q] at h
      refine aw_iload_n C dX6_readMarkup_86 rfl ?_
      refine aw_bipush C 103 dX6_readMarkup_87 kb_103 ?_
      refine aw_icmp_ne C 154 dX6_readMarkup_89 (by decide) (fun q => ?_) (fun q => ?_)
      · rw [if_neg q] at h
        refine aw_fl [none, none, none] trivial ?_
        exact rmX6_readMarkup_b154 C (by omega) (by omega) h
      · rw [if_pos q] at h
        refine aw_fl [some (.ref v0), some (.int v1), some (.int r4.1)] ⟨rfl, ⟨rfl, ⟨rfl, trivial⟩⟩⟩ ?_
        exact rmX6_readMarkup_b92 C (by omega) (by omega) h
  · rw [if_pos q] at h
    refine aw_iload_n C dX6_readMarkup_17 rfl ?_
    refine aw_iconst C 4 dX6_readMarkup_18 ki_4 ?_
    refine aw_iadd C dX6_readMarkup_19 ?_
    refine aw_ald_n C dX6_readMarkup_20 rfl ?_
    obtain ⟨x6, hx6, h⟩ := Option.bind_eq_some_iff.mp h
    refine ah_getI C gf_X6_56 hx6 dX6_readMarkup_21 ?_
    refine aw_icmp_ge C 154 dX6_readMarkup_24 (by decide) (fun q => ?_) (fun q => ?_)
    · rw [if_pos q] at h
      refine aw_fl [none, none, none] trivial ?_
      exact rmX6_readMarkup_b154 C (by omega) (by omega) h
    · rw [if_neg q] at h
      refine aw_ald_n C dX6_readMarkup_27 rfl ?_
      obtain ⟨x7, hx7, h⟩ := Option.bind_eq_some_iff.mp h
      refine ah_getR C gf_X6_14 hx7 dX6_readMarkup_28 ?_
      refine aw_iload_n C dX6_readMarkup_31 rfl ?_
      refine aw_iconst C 2 dX6_readMarkup_32 ki_2 ?_
      refine aw_iadd C dX6_readMarkup_33 ?_
      obtain ⟨j8, hj8, h⟩ := Option.bind_eq_some_iff.mp h
      rw [hj8]
      obtain ⟨hb9, h⟩ := ck_some h
      obtain ⟨r10, hr10, h⟩ := Option.bind_eq_some_iff.mp h
      obtain ⟨fs11, hf11⟩ := isO_ex hb9
      refine aw_callV C (ci := 5) (b := j8) [.int (v1 + (2 : Int32))] mv_X6_67 rfl rfl hf11 (rmX5_get hr10) rfl dX6_readMarkup_34 (Nat.le_of_ble_eq_true rfl) (Nat.le_of_ble_eq_true rfl) rfl (Nat.le_of_ble_eq_true rfl) (show (0 + 0) + 0 ≤ 0 by omega) (show (0 + 0) + 0 ≤ 0 by omega) (fun v9 f9 n9 hh => ?_)
      obtain ⟨rfl, rfl, rfl⟩ := hh
      refine aw_bipush C 109 dX6_readMarkup_37 kb_109 ?_
      refine aw_icmp_ne C 154 dX6_readMarkup_39 (by decide) (fun q => ?_) (fun q => ?_)
      · rw [if_neg q] at h
        refine aw_fl [none, none, none] trivial ?_
        exact rmX6_readMarkup_b154 C (by omega) (by omega) h
      · rw [if_pos q] at h
        refine aw_ald_n C dX6_readMarkup_42 rfl ?_
        obtain ⟨x12, hx12, h⟩ := Option.bind_eq_some_iff.mp h
        refine ah_getR C gf_X6_14 hx12 dX6_readMarkup_43 ?_
        refine aw_iload_n C dX6_readMarkup_46 rfl ?_
        refine aw_iconst C 3 dX6_readMarkup_47 ki_3 ?_
        refine aw_iadd C dX6_readMarkup_48 ?_
        obtain ⟨j13, hj13, h⟩ := Option.bind_eq_some_iff.mp h
        rw [hj13]
        obtain ⟨hb14, h⟩ := ck_some h
        obtain ⟨r15, hr15, h⟩ := Option.bind_eq_some_iff.mp h
        obtain ⟨fs16, hf16⟩ := isO_ex hb14
        refine aw_callV C (ci := 5) (b := j13) [.int (v1 + (3 : Int32))] mv_X6_67 rfl rfl hf16 (rmX5_get hr15) rfl dX6_readMarkup_49 (Nat.le_of_ble_eq_true rfl) (Nat.le_of_ble_eq_true rfl) rfl (Nat.le_of_ble_eq_true rfl) (show ((0 + 0) + 0) + 0 ≤ 0 by omega) (show ((0 + 0) + 0) + 0 ≤ 0 by omega) (fun v9 f9 n9 hh => ?_)
        obtain ⟨rfl, rfl, rfl⟩ := hh
        refine aw_bipush C 112 dX6_readMarkup_52 kb_112 ?_
        refine aw_icmp_ne C 154 dX6_readMarkup_54 (by decide) (fun q => ?_) (fun q => ?_)
        · rw [if_neg q] at h
          refine aw_fl [none, none, none] trivial ?_
          exact rmX6_readMarkup_b154 C (by omega) (by omega) h
        · rw [if_pos q] at h
          refine aw_ald_n C dX6_readMarkup_57 rfl ?_
          obtain ⟨x17, hx17, h⟩ := Option.bind_eq_some_iff.mp h
          refine ah_getR C gf_X6_14 hx17 dX6_readMarkup_58 ?_
          refine aw_iload_n C dX6_readMarkup_61 rfl ?_
          refine aw_iconst C 4 dX6_readMarkup_62 ki_4 ?_
          refine aw_iadd C dX6_readMarkup_63 ?_
          obtain ⟨j18, hj18, h⟩ := Option.bind_eq_some_iff.mp h
          rw [hj18]
          obtain ⟨hb19, h⟩ := ck_some h
          obtain ⟨r20, hr20, h⟩ := Option.bind_eq_some_iff.mp h
          obtain ⟨fs21, hf21⟩ := isO_ex hb19
          refine aw_callV C (ci := 5) (b := j18) [.int (v1 + (4 : Int32))] mv_X6_67 rfl rfl hf21 (rmX5_get hr20) rfl dX6_readMarkup_64 (Nat.le_of_ble_eq_true rfl) (Nat.le_of_ble_eq_true rfl) rfl (Nat.le_of_ble_eq_true rfl) (show (((0 + 0) + 0) + 0) + 0 ≤ 0 by omega) (show (((0 + 0) + 0) + 0) + 0 ≤ 0 by omega) (fun v9 f9 n9 hh => ?_)
          obtain ⟨rfl, rfl, rfl⟩ := hh
          refine aw_bipush C 59 dX6_readMarkup_67 kb_59 ?_
          refine aw_icmp_ne C 154 dX6_readMarkup_69 (by decide) (fun q => ?_) (fun q => ?_)
          · rw [if_neg q] at h
            refine aw_fl [none, none, none] trivial ?_
            exact rmX6_readMarkup_b154 C (by omega) (by omega) h
          · rw [if_pos q] at h
            refine aw_ald_n C dX6_readMarkup_72 rfl ?_
            refine aw_iconst C 5 dX6_readMarkup_73 ki_5 ?_
            obtain ⟨f22, hf22, h⟩ := Option.bind_eq_some_iff.mp h
            refine ah_put C gf_X6_86 cf6 nf6_7 rfl rfl hf22 dX6_readMarkup_74 ?_
            refine aw_goto C 154 dX6_readMarkup_77 (by decide) ?_
            refine aw_fl [none, none, none] trivial ?_
            exact rmX6_readMarkup_b154 C (by omega) (by omega) h
def mX6_readBack_b70 (f : AH) (n : Nat) : Option (Int32 × HpN) := some ((0 : Int32), (f, n))
set_option maxHeartbeats 1000000 in
theorem rmX6_readBack_b70 {X : GX} {p : Program} {l : Launch} {e : Env} {s : State} {m : MethodId} {args : Array Value} {below : List Frame} {meth : Method} {c : Code} {r : Int32 × HpN} {f : AH} {n cells slots : Nat} (C : CC X p l (RM 0 0 0) s m args meth c RX6 cX6_readBack 3 none) (hc : cells + 0 ≤ 0) (hs : slots + 0 ≤ 0) (h : mX6_readBack_b70 f n = some r) : AW X p l e (RM 0 0 0) s m args below meth c 3 (ZM X below args s 0 0 (QHv r)) f n cells slots 70 [none, none, none] [] := by
  have h : some ((0 : Int32), (f, n)) = some r := h
  cases h
  exact aw_vret C rfl dX6_readBack_70 (by omega) (by omega) ⟨rfl, rfl, rfl⟩
def mX6_readBack_b62 (v0 : Nat) (s0 : Nat) (s1 : Int32) (f : AH) (n : Nat) : Option (Int32 × HpN) := ((pO f s0 6 6 (.int s1)).bind fun f1 => ((pO f1 v0 6 7 (.int (2 : Int32))).bind fun f2 => mX6_readBack_b70 f2 n))
set_option maxHeartbeats 1000000 in
theorem rmX6_readBack_b62 {X : GX} {p : Program} {l : Launch} {e : Env} {s : State} {m : MethodId} {args : Array Value} {below : List Frame} {meth : Method} {c : Code} {r : Int32 × HpN} {v0 : Nat} {s0 : Nat} {s1 : Int32} {f : AH} {n cells slots : Nat} (C : CC X p l (RM 0 0 0) s m args meth c RX6 cX6_readBack 3 none) (hc : cells + 0 ≤ 0) (hs : slots + 0 ≤ 0) (h : mX6_readBack_b62 v0 s0 s1 f n = some r) : AW X p l e (RM 0 0 0) s m args below meth c 3 (ZM X below args s 0 0 (QHv r)) f n cells slots 62 [some (.ref v0), none, none] [.int s1, .ref s0] := by
  have h : ((pO f s0 6 6 (.int s1)).bind fun f1 => ((pO f1 v0 6 7 (.int (2 : Int32))).bind fun f2 => mX6_readBack_b70 f2 n)) = some r := h
  obtain ⟨f1, hf1, h⟩ := Option.bind_eq_some_iff.mp h
  refine ah_put C gf_X6_83 cf6 nf6_6 rfl rfl hf1 dX6_readBack_62 ?_
  refine aw_ald_n C dX6_readBack_65 rfl ?_
  refine aw_iconst C 2 dX6_readBack_66 ki_2 ?_
  obtain ⟨f2, hf2, h⟩ := Option.bind_eq_some_iff.mp h
  refine ah_put C gf_X6_86 cf6 nf6_7 rfl rfl hf2 dX6_readBack_67 ?_
  refine aw_fl [none, none, none] trivial ?_
  exact rmX6_readBack_b70 C (by omega) (by omega) h
def mX6_readBack_b38 (v0 : Nat) (v1 : Int32) (f : AH) (n : Nat) : Option (Int32 × HpN) := (if v1 = (110 : Int32) then mX6_readBack_b62 v0 v0 (10 : Int32) f n else (if v1 = (116 : Int32) then mX6_readBack_b62 v0 v0 (9 : Int32) f n else mX6_readBack_b62 v0 v0 v1 f n))
set_option maxHeartbeats 1000000 in
theorem rmX6_readBack_b38 {X : GX} {p : Program} {l : Launch} {e : Env} {s : State} {m : MethodId} {args : Array Value} {below : List Frame} {meth : Method} {c : Code} {r : Int32 × HpN} {v0 : Nat} {v1 : Int32} {f : AH} {n cells slots : Nat} (C : CC X p l (RM 0 0 0) s m args meth c RX6 cX6_readBack 3 none) (hc : cells + 0 ≤ 0) (hs : slots + 0 ≤ 0) (h : mX6_readBack_b38 v0 v1 f n = some r) : AW X p l e (RM 0 0 0) s m args below meth c 3 (ZM X below args s 0 0 (QHv r)) f n cells slots 38 [some (.ref v0), some (.int v1), none] [] := by
  have h : (if v1 = (110 : Int32) then mX6_readBack_b62 v0 v0 (10 : Int32) f n else (if v1 = (116 : Int32) then mX6_readBack_b62 v0 v0 (9 : Int32) f n else mX6_readBack_b62 v0 v0 v1 f n)) = some r := h
  refine aw_ald_n C dX6_readBack_38 rfl ?_
  refine aw_iload_n C dX6_readBack_39 rfl ?_
  refine aw_bipush C 110 dX6_readBack_40 kb_110 ?_
  refine aw_icmp_ne C 50 dX6_readBack_42 (by decide) (fun q => ?_) (fun q => ?_)
  · rw [if_neg q] at h
    refine aw_iload_n C dX6_readBack_50 rfl ?_
    refine aw_bipush C 116 dX6_readBack_51 kb_116 ?_
    refine aw_icmp_ne C 61 dX6_readBack_53 (by decide) (fun q => ?_) (fun q => ?_)
    · rw [if_neg q] at h
      refine aw_iload_n C dX6_readBack_61 rfl ?_
      refine aw_fl [some (.ref v0), none, none] ⟨rfl, trivial⟩ ?_
      exact rmX6_readBack_b62 C (by omega) (by omega) h
    · rw [if_pos q] at h
      refine aw_bipush C 9 dX6_readBack_56 kb_9 ?_
      refine aw_goto C 62 dX6_readBack_58 (by decide) ?_
      refine aw_fl [some (.ref v0), none, none] ⟨rfl, trivial⟩ ?_
      exact rmX6_readBack_b62 C (by omega) (by omega) h
  · rw [if_pos q] at h
    refine aw_bipush C 10 dX6_readBack_45 kb_10 ?_
    refine aw_goto C 62 dX6_readBack_47 (by decide) ?_
    refine aw_fl [some (.ref v0), none, none] ⟨rfl, trivial⟩ ?_
    exact rmX6_readBack_b62 C (by omega) (by omega) h
def mX6_readBack_b14 (v0 : Nat) (v1 : Int32) (s0 : Int32) (f : AH) (n : Nat) : Option (Int32 × HpN) := (if v1 = (110 : Int32) then mX6_readBack_b38 v0 v1 f n else (if v1 = (116 : Int32) then mX6_readBack_b38 v0 v1 f n else (if v1 = (92 : Int32) then mX6_readBack_b38 v0 v1 f n else (if v1 = s0 then mX6_readBack_b38 v0 v1 f n else mX6_readBack_b70 f n))))
set_option maxHeartbeats 1000000 in
theorem rmX6_readBack_b14 {X : GX} {p : Program} {l : Launch} {e : Env} {s : State} {m : MethodId} {args : Array Value} {below : List Frame} {meth : Method} {c : Code} {r : Int32 × HpN} {v0 : Nat} {v1 : Int32} {s0 : Int32} {f : AH} {n cells slots : Nat} (C : CC X p l (RM 0 0 0) s m args meth c RX6 cX6_readBack 3 none) (hc : cells + 0 ≤ 0) (hs : slots + 0 ≤ 0) (h : mX6_readBack_b14 v0 v1 s0 f n = some r) : AW X p l e (RM 0 0 0) s m args below meth c 3 (ZM X below args s 0 0 (QHv r)) f n cells slots 14 [some (.ref v0), some (.int v1), none] [.int s0] := by
  have h : (if v1 = (110 : Int32) then mX6_readBack_b38 v0 v1 f n else (if v1 = (116 : Int32) then mX6_readBack_b38 v0 v1 f n else (if v1 = (92 : Int32) then mX6_readBack_b38 v0 v1 f n else (if v1 = s0 then mX6_readBack_b38 v0 v1 f n else mX6_readBack_b70 f n)))) = some r := h
  refine aw_istore_n C dX6_readBack_14 (by decide) rfl ?_
  refine aw_nl [some (.ref v0), some (.int v1), some (.int s0)] rfl ?_
  refine aw_iload_n C dX6_readBack_15 rfl ?_
  refine aw_bipush C 110 dX6_readBack_16 kb_110 ?_
  refine aw_icmp_eq C 38 dX6_readBack_18 (by decide) (fun q => ?_) (fun q => ?_)
  · rw [if_pos q] at h
    refine aw_fl [some (.ref v0), some (.int v1), none] ⟨rfl, ⟨rfl, trivial⟩⟩ ?_
    exact rmX6_readBack_b38 C (by omega) (by omega) h
  · rw [if_neg q] at h
    refine aw_iload_n C dX6_readBack_21 rfl ?_
    refine aw_bipush C 116 dX6_readBack_22 kb_116 ?_
    refine aw_icmp_eq C 38 dX6_readBack_24 (by decide) (fun q => ?_) (fun q => ?_)
    · rw [if_pos q] at h
      refine aw_fl [some (.ref v0), some (.int v1), none] ⟨rfl, ⟨rfl, trivial⟩⟩ ?_
      exact rmX6_readBack_b38 C (by omega) (by omega) h
    · rw [if_neg q] at h
      refine aw_iload_n C dX6_readBack_27 rfl ?_
      refine aw_bipush C 92 dX6_readBack_28 kb_92 ?_
      refine aw_icmp_eq C 38 dX6_readBack_30 (by decide) (fun q => ?_) (fun q => ?_)
      · rw [if_pos q] at h
        refine aw_fl [some (.ref v0), some (.int v1), none] ⟨rfl, ⟨rfl, trivial⟩⟩ ?_
        exact rmX6_readBack_b38 C (by omega) (by omega) h
      · rw [if_neg q] at h
        refine aw_iload_n C dX6_readBack_33 rfl ?_
        refine aw_iload_n C dX6_readBack_34 rfl ?_
        refine aw_icmp_ne C 70 dX6_readBack_35 (by decide) (fun q => ?_) (fun q => ?_)
        · rw [if_neg q] at h
          refine aw_fl [none, none, none] trivial ?_
          exact rmX6_readBack_b70 C (by omega) (by omega) h
        · rw [if_pos q] at h
          refine aw_fl [some (.ref v0), some (.int v1), none] ⟨rfl, ⟨rfl, trivial⟩⟩ ?_
          exact rmX6_readBack_b38 C (by omega) (by omega) h
def mX6_readBack (v0 : Nat) (v1 : Int32) (f : AH) (n : Nat) : Option (Int32 × HpN) := ((gI f v0 6 8).bind fun x1 => (if x1 = (0 : Int32) then mX6_readBack_b14 v0 v1 (32 : Int32) f n else mX6_readBack_b14 v0 v1 (34 : Int32) f n))
set_option maxHeartbeats 1000000 in
theorem rmX6_readBack {X : GX} {l : Launch} {r : Int32 × HpN} {v0 : Nat} {v1 : Int32} {f : AH} {n : Nat} (h : mX6_readBack v0 v1 f n = some r) : AM X l yX6_readBack cX6_readBack 3 none 0 0 0 [.ref v0, .int v1] f n (QHv r) := by
  have h : ((gI f v0 6 8).bind fun x1 => (if x1 = (0 : Int32) then mX6_readBack_b14 v0 v1 (32 : Int32) f n else mX6_readBack_b14 v0 v1 (34 : Int32) f n)) = some r := h
  refine AM.of (by decide +kernel) rfl (Nat.le_of_ble_eq_true rfl) (fun p e s m args below meth c C hnm => ?_)
  refine aw_nl [some (.ref v0), some (.int v1), none] rfl ?_
  refine aw_ald_n C dX6_readBack_0 rfl ?_
  obtain ⟨x1, hx1, h⟩ := Option.bind_eq_some_iff.mp h
  refine ah_getI C gf_X6_20 hx1 dX6_readBack_1 ?_
  refine aw_if_ne C 12 dX6_readBack_4 (by decide) (fun q => ?_) (fun q => ?_)
  · rw [if_neg q] at h
    refine aw_bipush C 34 dX6_readBack_12 kb_34 ?_
    refine aw_fl [some (.ref v0), some (.int v1), none] ⟨rfl, ⟨rfl, trivial⟩⟩ ?_
    exact rmX6_readBack_b14 C (by omega) (by omega) h
  · rw [if_pos q] at h
    refine aw_bipush C 32 dX6_readBack_7 kb_32 ?_
    refine aw_goto C 14 dX6_readBack_9 (by decide) ?_
    refine aw_fl [some (.ref v0), some (.int v1), none] ⟨rfl, ⟨rfl, trivial⟩⟩ ?_
    exact rmX6_readBack_b14 C (by omega) (by omega) h
def mX6_read_b111 (f : AH) (n : Nat) : Option (Int32 × HpN) := some ((0 : Int32), (f, n))
set_option maxHeartbeats 1000000 in
theorem rmX6_read_b111 {X : GX} {p : Program} {l : Launch} {e : Env} {s : State} {m : MethodId} {args : Array Value} {below : List Frame} {meth : Method} {c : Code} {r : Int32 × HpN} {f : AH} {n cells slots : Nat} (C : CC X p l (RM 2 0 0) s m args meth c RX6 cX6_read 2 none) (hc : cells + 0 ≤ 0) (hs : slots + 0 ≤ 0) (h : mX6_read_b111 f n = some r) : AW X p l e (RM 2 0 0) s m args below meth c 2 (ZM X below args s 0 0 (QHv r)) f n cells slots 111 [none, none] [] := by
  have h : some ((0 : Int32), (f, n)) = some r := h
  cases h
  exact aw_vret C rfl dX6_read_111 (by omega) (by omega) ⟨rfl, rfl, rfl⟩
def mX6_read_b72 (s0 : Nat) (s1 : Int32) (f : AH) (n : Nat) : Option (Int32 × HpN) := ((pO f s0 6 7 (.int s1)).bind fun f1 => mX6_read_b111 f1 n)
set_option maxHeartbeats 1000000 in
theorem rmX6_read_b72 {X : GX} {p : Program} {l : Launch} {e : Env} {s : State} {m : MethodId} {args : Array Value} {below : List Frame} {meth : Method} {c : Code} {r : Int32 × HpN} {s0 : Nat} {s1 : Int32} {f : AH} {n cells slots : Nat} (C : CC X p l (RM 2 0 0) s m args meth c RX6 cX6_read 2 none) (hc : cells + 0 ≤ 0) (hs : slots + 0 ≤ 0) (h : mX6_read_b72 s0 s1 f n = some r) : AW X p l e (RM 2 0 0) s m args below meth c 2 (ZM X below args s 0 0 (QHv r)) f n cells slots 72 [none, none] [.int s1, .ref s0] := by
  have h : ((pO f s0 6 7 (.int s1)).bind fun f1 => mX6_read_b111 f1 n) = some r := h
  obtain ⟨f1, hf1, h⟩ := Option.bind_eq_some_iff.mp h
  refine ah_put C gf_X6_86 cf6 nf6_7 rfl rfl hf1 dX6_read_72 ?_
  refine aw_goto C 111 dX6_read_75 (by decide) ?_
  refine aw_fl [none, none] trivial ?_
  exact rmX6_read_b111 C (by omega) (by omega) h
def mX6_read_b71 (s0 : Nat) (f : AH) (n : Nat) : Option (Int32 × HpN) := mX6_read_b72 s0 (1 : Int32) f n
set_option maxHeartbeats 1000000 in
theorem rmX6_read_b71 {X : GX} {p : Program} {l : Launch} {e : Env} {s : State} {m : MethodId} {args : Array Value} {below : List Frame} {meth : Method} {c : Code} {r : Int32 × HpN} {s0 : Nat} {f : AH} {n cells slots : Nat} (C : CC X p l (RM 2 0 0) s m args meth c RX6 cX6_read 2 none) (hc : cells + 0 ≤ 0) (hs : slots + 0 ≤ 0) (h : mX6_read_b71 s0 f n = some r) : AW X p l e (RM 2 0 0) s m args below meth c 2 (ZM X below args s 0 0 (QHv r)) f n cells slots 71 [none, none] [.ref s0] := by
  have h : mX6_read_b72 s0 (1 : Int32) f n = some r := h
  refine aw_iconst C 1 dX6_read_71 ki_1 ?_
  refine aw_fl [none, none] trivial ?_
  exact rmX6_read_b72 C (by omega) (by omega) h
def mX6_read (v0 : Nat) (v1 : Int32) (f : AH) (n : Nat) : Option (Int32 × HpN) := ((gR f v0 6 0).bind fun x1 => ((x1).bind fun j2 => rCk (isO f j2 5) (((mX5_get j2 v1 f n).bind fun r4 => ((pO r4.2.1 v0 6 6 (.int r4.1)).bind fun f6 => ((pO f6 v0 6 7 (.int (1 : Int32))).bind fun f7 => ((gI f7 v0 6 8).bind fun x8 => (if x8 = (2 : Int32) then ((gI f7 v0 6 6).bind fun x22 => (if x22 = (38 : Int32) then rCk (isO f7 v0 6) (((mX6_readMarkup v0 v1 f7 r4.2.2).bind fun r24 => mX6_read_b111 r24.2.1 r24.2.2)) else mX6_read_b111 f7 r4.2.2)) else ((gI f7 v0 6 8).bind fun x9 => (if x9 = (1 : Int32) then ((gI f7 v0 6 3).bind fun x20 => (if x20 = (0 : Int32) then mX6_read_b71 v0 f7 r4.2.2 else ((gI f7 v0 6 6).bind fun x21 => (if x21 = (34 : Int32) then mX6_read_b72 v0 (2 : Int32) f7 r4.2.2 else mX6_read_b71 v0 f7 r4.2.2)))) else ((gI f7 v0 6 6).bind fun x10 => (if x10 = (92 : Int32) then ((gI f7 v0 6 2).bind fun x11 => (if x11 ≤ (v1 + (1 : Int32)) then mX6_read_b111 f7 r4.2.2 else ((gR f7 v0 6 0).bind fun x12 => ((x12).bind fun j13 => rCk (isO f7 j13 5) (((mX5_get j13 (v1 + (1 : Int32)) f7 r4.2.2).bind fun r15 => rCk (isO r15.2.1 v0 6) (((mX6_readBack v0 r15.1 r15.2.1 r15.2.2).bind fun r18 => mX6_read_b111 r18.2.1 r18.2.2)))))))) else mX6_read_b111 f7 r4.2.2))))))))))))
set_option maxHeartbeats 1000000 in
theorem rmX6_read {X : GX} {l : Launch} {r : Int32 × HpN} {v0 : Nat} {v1 : Int32} {f : AH} {n : Nat} (h : mX6_read v0 v1 f n = some r) : AM X l yX6_read cX6_read 2 none 2 0 0 [.ref v0, .int v1] f n (QHv r) := by
  have h : ((gR f v0 6 0).bind fun x1 => ((x1).bind fun j2 => rCk (isO f j2 5) (((mX5_get j2 v1 f n).bind fun r4 => ((pO r4.2.1 v0 6 6 (.int r4.1)).bind fun f6 => ((pO f6 v0 6 7 (.int (1 : Int32))).bind fun f7 => ((gI f7 v0 6 8).bind fun x8 => (if x8 = (2 : Int32) then ((gI f7 v0 6 6).bind fun x22 => (if x22 = (38 : Int32) then rCk (isO f7 v0 6) (((mX6_readMarkup v0 v1 f7 r4.2.2).bind fun r24 => mX6_read_b111 r24.2.1 r24.2.2)) else mX6_read_b111 f7 r4.2.2)) else ((gI f7 v0 6 8).bind fun x9 => (if x9 = (1 : Int32) then ((gI f7 v0 6 3).bind fun x20 => (if x20 = (0 : Int32) then mX6_read_b71 v0 f7 r4.2.2 else ((gI f7 v0 6 6).bind fun x21 => (if x21 = (34 : Int32) then mX6_read_b72 v0 (2 : Int32) f7 r4.2.2 else mX6_read_b71 v0 f7 r4.2.2)))) else ((gI f7 v0 6 6).bind fun x10 => (if x10 = (92 : Int32) then ((gI f7 v0 6 2).bind fun x11 => (if x11 ≤ (v1 + (1 : Int32)) then mX6_read_b111 f7 r4.2.2 else ((gR f7 v0 6 0).bind fun x12 => ((x12).bind fun j13 => rCk (isO f7 j13 5) (((mX5_get j13 (v1 + (1 : Int32)) f7 r4.2.2).bind fun r15 => rCk (isO r15.2.1 v0 6) (((mX6_readBack v0 r15.1 r15.2.1 r15.2.2).bind fun r18 => mX6_read_b111 r18.2.1 r18.2.2)))))))) else mX6_read_b111 f7 r4.2.2)))))))))))) = some r := h
  refine AM.of (by decide +kernel) rfl (Nat.le_of_ble_eq_true rfl) (fun p e s m args below meth c C hnm => ?_)
  refine aw_nl [some (.ref v0), some (.int v1)] rfl ?_
  refine aw_ald_n C dX6_read_0 rfl ?_
  refine aw_ald_n C dX6_read_1 rfl ?_
  obtain ⟨x1, hx1, h⟩ := Option.bind_eq_some_iff.mp h
  refine ah_getR C gf_X6_14 hx1 dX6_read_2 ?_
  refine aw_iload_n C dX6_read_5 rfl ?_
  obtain ⟨j2, hj2, h⟩ := Option.bind_eq_some_iff.mp h
  rw [hj2]
  obtain ⟨hb3, h⟩ := ck_some h
  obtain ⟨r4, hr4, h⟩ := Option.bind_eq_some_iff.mp h
  obtain ⟨fs5, hf5⟩ := isO_ex hb3
  refine aw_callV C (ci := 5) (b := j2) [.int v1] mv_X6_67 rfl rfl hf5 (rmX5_get hr4) rfl dX6_read_6 (Nat.le_of_ble_eq_true rfl) (Nat.le_of_ble_eq_true rfl) rfl (Nat.le_of_ble_eq_true rfl) (show 0 + 0 ≤ 0 by omega) (show 0 + 0 ≤ 0 by omega) (fun v9 f9 n9 hh => ?_)
  obtain ⟨rfl, rfl, rfl⟩ := hh
  obtain ⟨f6, hf6, h⟩ := Option.bind_eq_some_iff.mp h
  refine ah_put C gf_X6_83 cf6 nf6_6 rfl rfl hf6 dX6_read_9 ?_
  refine aw_ald_n C dX6_read_12 rfl ?_
  refine aw_iconst C 1 dX6_read_13 ki_1 ?_
  obtain ⟨f7, hf7, h⟩ := Option.bind_eq_some_iff.mp h
  refine ah_put C gf_X6_86 cf6 nf6_7 rfl rfl hf7 dX6_read_14 ?_
  refine aw_ald_n C dX6_read_17 rfl ?_
  obtain ⟨x8, hx8, h⟩ := Option.bind_eq_some_iff.mp h
  refine ah_getI C gf_X6_20 hx8 dX6_read_18 ?_
  refine aw_iconst C 2 dX6_read_21 ki_2 ?_
  refine aw_icmp_ne C 42 dX6_read_22 (by decide) (fun q => ?_) (fun q => ?_)
  · rw [if_neg q] at h
    refine aw_ald_n C dX6_read_42 rfl ?_
    obtain ⟨x9, hx9, h⟩ := Option.bind_eq_some_iff.mp h
    refine ah_getI C gf_X6_20 hx9 dX6_read_43 ?_
    refine aw_iconst C 1 dX6_read_46 ki_1 ?_
    refine aw_icmp_ne C 78 dX6_read_47 (by decide) (fun q => ?_) (fun q => ?_)
    · rw [if_neg q] at h
      refine aw_ald_n C dX6_read_78 rfl ?_
      obtain ⟨x10, hx10, h⟩ := Option.bind_eq_some_iff.mp h
      refine ah_getI C gf_X6_83 hx10 dX6_read_79 ?_
      refine aw_bipush C 92 dX6_read_82 kb_92 ?_
      refine aw_icmp_ne C 111 dX6_read_84 (by decide) (fun q => ?_) (fun q => ?_)
      · rw [if_neg q] at h
        refine aw_fl [none, none] trivial ?_
        exact rmX6_read_b111 C (by omega) (by omega) h
      · rw [if_pos q] at h
        refine aw_iload_n C dX6_read_87 rfl ?_
        refine aw_iconst C 1 dX6_read_88 ki_1 ?_
        refine aw_iadd C dX6_read_89 ?_
        refine aw_ald_n C dX6_read_90 rfl ?_
        obtain ⟨x11, hx11, h⟩ := Option.bind_eq_some_iff.mp h
        refine ah_getI C gf_X6_56 hx11 dX6_read_91 ?_
        refine aw_icmp_ge C 111 dX6_read_94 (by decide) (fun q => ?_) (fun q => ?_)
        · rw [if_pos q] at h
          refine aw_fl [none, none] trivial ?_
          exact rmX6_read_b111 C (by omega) (by omega) h
        · rw [if_neg q] at h
          refine aw_ald_n C dX6_read_97 rfl ?_
          refine aw_ald_n C dX6_read_98 rfl ?_
          obtain ⟨x12, hx12, h⟩ := Option.bind_eq_some_iff.mp h
          refine ah_getR C gf_X6_14 hx12 dX6_read_99 ?_
          refine aw_iload_n C dX6_read_102 rfl ?_
          refine aw_iconst C 1 dX6_read_103 ki_1 ?_
          refine aw_iadd C dX6_read_104 ?_
          obtain ⟨j13, hj13, h⟩ := Option.bind_eq_some_iff.mp h
          rw [hj13]
          obtain ⟨hb14, h⟩ := ck_some h
          obtain ⟨r15, hr15, h⟩ := Option.bind_eq_some_iff.mp h
          obtain ⟨fs16, hf16⟩ := isO_ex hb14
          refine aw_callV C (ci := 5) (b := j13) [.int (v1 + (1 : Int32))] mv_X6_67 rfl rfl hf16 (rmX5_get hr15) rfl dX6_read_105 (Nat.le_of_ble_eq_true rfl) (Nat.le_of_ble_eq_true rfl) rfl (Nat.le_of_ble_eq_true rfl) (show (0 + 0) + 0 ≤ 0 by omega) (show (0 + 0) + 0 ≤ 0 by omega) (fun v9 f9 n9 hh => ?_)
          obtain ⟨rfl, rfl, rfl⟩ := hh
          obtain ⟨hb17, h⟩ := ck_some h
          obtain ⟨r18, hr18, h⟩ := Option.bind_eq_some_iff.mp h
          obtain ⟨fs19, hf19⟩ := isO_ex hb17
          refine aw_callV C (ci := 6) (b := v0) [.int r15.1] mv_X6_92 rfl rfl hf19 (rmX6_readBack hr18) rfl dX6_read_108 (Nat.le_of_ble_eq_true rfl) (Nat.le_of_ble_eq_true rfl) rfl (Nat.le_of_ble_eq_true rfl) (show ((0 + 0) + 0) + 0 ≤ 0 by omega) (show ((0 + 0) + 0) + 0 ≤ 0 by omega) (fun v9 f9 n9 hh => ?_)
          obtain ⟨rfl, rfl, rfl⟩ := hh
          refine aw_fl [none, none] trivial ?_
          exact rmX6_read_b111 C (by omega) (by omega) h
    · rw [if_pos q] at h
      refine aw_ald_n C dX6_read_50 rfl ?_
      refine aw_ald_n C dX6_read_51 rfl ?_
      obtain ⟨x20, hx20, h⟩ := Option.bind_eq_some_iff.mp h
      refine ah_getI C gf_X6_27 hx20 dX6_read_52 ?_
      refine aw_if_eq C 71 dX6_read_55 (by decide) (fun q => ?_) (fun q => ?_)
      · rw [if_pos q] at h
        refine aw_fl [none, none] trivial ?_
        exact rmX6_read_b71 C (by omega) (by omega) h
      · rw [if_neg q] at h
        refine aw_ald_n C dX6_read_58 rfl ?_
        obtain ⟨x21, hx21, h⟩ := Option.bind_eq_some_iff.mp h
        refine ah_getI C gf_X6_83 hx21 dX6_read_59 ?_
        refine aw_bipush C 34 dX6_read_62 kb_34 ?_
        refine aw_icmp_ne C 71 dX6_read_64 (by decide) (fun q => ?_) (fun q => ?_)
        · rw [if_neg q] at h
          refine aw_fl [none, none] trivial ?_
          exact rmX6_read_b71 C (by omega) (by omega) h
        · rw [if_pos q] at h
          refine aw_iconst C 2 dX6_read_67 ki_2 ?_
          refine aw_goto C 72 dX6_read_68 (by decide) ?_
          refine aw_fl [none, none] trivial ?_
          exact rmX6_read_b72 C (by omega) (by omega) h
  · rw [if_pos q] at h
    refine aw_ald_n C dX6_read_25 rfl ?_
    obtain ⟨x22, hx22, h⟩ := Option.bind_eq_some_iff.mp h
    refine ah_getI C gf_X6_83 hx22 dX6_read_26 ?_
    refine aw_bipush C 38 dX6_read_29 kb_38 ?_
    refine aw_icmp_ne C 111 dX6_read_31 (by decide) (fun q => ?_) (fun q => ?_)
    · rw [if_neg q] at h
      refine aw_fl [none, none] trivial ?_
      exact rmX6_read_b111 C (by omega) (by omega) h
    · rw [if_pos q] at h
      refine aw_ald_n C dX6_read_34 rfl ?_
      refine aw_iload_n C dX6_read_35 rfl ?_
      obtain ⟨hb23, h⟩ := ck_some h
      obtain ⟨r24, hr24, h⟩ := Option.bind_eq_some_iff.mp h
      obtain ⟨fs25, hf25⟩ := isO_ex hb23
      refine aw_callV C (ci := 6) (b := v0) [.int v1] mv_X6_89 rfl rfl hf25 (rmX6_readMarkup hr24) rfl dX6_read_36 (Nat.le_of_ble_eq_true rfl) (Nat.le_of_ble_eq_true rfl) rfl (Nat.le_of_ble_eq_true rfl) (show (0 + 0) + 0 ≤ 0 by omega) (show (0 + 0) + 0 ≤ 0 by omega) (fun v9 f9 n9 hh => ?_)
      obtain ⟨rfl, rfl, rfl⟩ := hh
      refine aw_goto C 111 dX6_read_39 (by decide) ?_
      refine aw_fl [none, none] trivial ?_
      exact rmX6_read_b111 C (by omega) (by omega) h
def mX1_readOuter_l8 : Nat → Nat → (Option Nat) → (Option Nat) → Int32 → AH → Nat → Option (Int32 × HpN)
  | 0, _, _, _, _, _, _ => none
  | d + 1, v0, v1, v2, v3, f, n => ((gR f v0 1 4).bind fun x1 => ((x1).bind fun j2 => ((gI f j2 6 2).bind fun x3 => (if x3 ≤ v3 then some ((0 : Int32), (f, n)) else ((gR f v0 1 4).bind fun x4 => ((x4).bind fun j5 => rCk (isO f j5 6) (((mX6_read j5 v3 f n).bind fun r7 => ((gR r7.2.1 v0 1 4).bind fun x9 => ((x9).bind fun j10 => ((gI r7.2.1 j10 6 6).bind fun x11 => ((v1).bind fun j12 => rCk (isO r7.2.1 j12 5) (((mX5_add j12 x11 r7.2.1 r7.2.2).bind fun r14 => ((v2).bind fun j16 => rCk (isO r14.2.1 j16 5) (((mX5_add j16 v3 r14.2.1 r14.2.2).bind fun r18 => ((gR r18.2.1 v0 1 4).bind fun x20 => ((x20).bind fun j21 => ((gI r18.2.1 j21 6 7).bind fun x22 => mX1_readOuter_l8 d v0 (some j12) (some j16) (v3 + (jMax (1 : Int32) x22)) r18.2.1 r18.2.2))))))))))))))))))))
set_option maxHeartbeats 1000000 in
theorem rmX1_readOuter_l8 {X : GX} {p : Program} {l : Launch} {e : Env} {s : State} {m : MethodId} {args : Array Value} {below : List Frame} {meth : Method} {c : Code} {r : Int32 × HpN} (C : CC X p l (RM 3 0 0) s m args meth c RX1 cX1_readOuter 4 none) : ∀ (d : Nat) (v0 : Nat) (v1 : Option Nat) (v2 : Option Nat) (v3 : Int32) (f : AH) (n cells slots : Nat) (_ : cells + 0 ≤ 0) (_ : slots + 0 ≤ 0) (_ : mX1_readOuter_l8 d v0 v1 v2 v3 f n = some r), AW X p l e (RM 3 0 0) s m args below meth c 4 (ZM X below args s 0 0 (QHv r)) f n cells slots 8 [some (.ref v0), some (va_rf v1), some (va_rf v2), some (.int v3)] [] := by
  intro d
  induction d with
  | zero =>
    intro v0 v1 v2 v3 f n cells slots hc hs h
    exact nomatch (show (none : Option (Int32 × HpN)) = some r from h)
  | succ d ih =>
    intro v0 v1 v2 v3 f n cells slots hc hs h
    have h : ((gR f v0 1 4).bind fun x1 => ((x1).bind fun j2 => ((gI f j2 6 2).bind fun x3 => (if x3 ≤ v3 then some ((0 : Int32), (f, n)) else ((gR f v0 1 4).bind fun x4 => ((x4).bind fun j5 => rCk (isO f j5 6) (((mX6_read j5 v3 f n).bind fun r7 => ((gR r7.2.1 v0 1 4).bind fun x9 => ((x9).bind fun j10 => ((gI r7.2.1 j10 6 6).bind fun x11 => ((v1).bind fun j12 => rCk (isO r7.2.1 j12 5) (((mX5_add j12 x11 r7.2.1 r7.2.2).bind fun r14 => ((v2).bind fun j16 => rCk (isO r14.2.1 j16 5) (((mX5_add j16 v3 r14.2.1 r14.2.2).bind fun r18 => ((gR r18.2.1 v0 1 4).bind fun x20 => ((x20).bind fun j21 => ((gI r18.2.1 j21 6 7).bind fun x22 => mX1_readOuter_l8 d v0 (some j12) (some j16) (v3 + (jMax (1 : Int32) x22)) r18.2.1 r18.2.2)))))))))))))))))))) = some r := h
    refine aw_iload_n C dX1_readOuter_8 rfl ?_
    refine aw_ald_n C dX1_readOuter_9 rfl ?_
    obtain ⟨x1, hx1, h⟩ := Option.bind_eq_some_iff.mp h
    refine ah_getR C gf_X1_32 hx1 dX1_readOuter_10 ?_
    obtain ⟨j2, hj2, h⟩ := Option.bind_eq_some_iff.mp h
    rw [hj2]
    obtain ⟨x3, hx3, h⟩ := Option.bind_eq_some_iff.mp h
    refine ah_getI C gf_X1_84 hx3 dX1_readOuter_13 ?_
    refine aw_icmp_ge C 62 dX1_readOuter_16 (by decide) (fun q => ?_) (fun q => ?_)
    · rw [if_pos q] at h
      cases h
      exact aw_vret C rfl dX1_readOuter_62 (by omega) (by omega) ⟨rfl, rfl, rfl⟩
    · rw [if_neg q] at h
      refine aw_ald_n C dX1_readOuter_19 rfl ?_
      obtain ⟨x4, hx4, h⟩ := Option.bind_eq_some_iff.mp h
      refine ah_getR C gf_X1_32 hx4 dX1_readOuter_20 ?_
      refine aw_iload_n C dX1_readOuter_23 rfl ?_
      obtain ⟨j5, hj5, h⟩ := Option.bind_eq_some_iff.mp h
      rw [hj5]
      obtain ⟨hb6, h⟩ := ck_some h
      obtain ⟨r7, hr7, h⟩ := Option.bind_eq_some_iff.mp h
      obtain ⟨fs8, hf8⟩ := isO_ex hb6
      refine aw_callV C (ci := 6) (b := j5) [.int v3] mv_X1_95 rfl rfl hf8 (rmX6_read hr7) rfl dX1_readOuter_24 (Nat.le_of_ble_eq_true rfl) (Nat.le_of_ble_eq_true rfl) rfl (Nat.le_of_ble_eq_true rfl) (show cells + 0 ≤ 0 by omega) (show slots + 0 ≤ 0 by omega) (fun v9 f9 n9 hh => ?_)
      obtain ⟨rfl, rfl, rfl⟩ := hh
      refine aw_aload_n C dX1_readOuter_27 rfl (rf_or v1) ?_
      refine aw_ald_n C dX1_readOuter_28 rfl ?_
      obtain ⟨x9, hx9, h⟩ := Option.bind_eq_some_iff.mp h
      refine ah_getR C gf_X1_32 hx9 dX1_readOuter_29 ?_
      obtain ⟨j10, hj10, h⟩ := Option.bind_eq_some_iff.mp h
      rw [hj10]
      obtain ⟨x11, hx11, h⟩ := Option.bind_eq_some_iff.mp h
      refine ah_getI C gf_X1_98 hx11 dX1_readOuter_32 ?_
      obtain ⟨j12, hj12, h⟩ := Option.bind_eq_some_iff.mp h
      rw [hj12]
      obtain ⟨hb13, h⟩ := ck_some h
      obtain ⟨r14, hr14, h⟩ := Option.bind_eq_some_iff.mp h
      obtain ⟨fs15, hf15⟩ := isO_ex hb13
      refine aw_callV C (ci := 5) (b := j12) [.int x11] mv_X1_101 rfl rfl hf15 (rmX5_add hr14) rfl dX1_readOuter_35 (Nat.le_of_ble_eq_true rfl) (Nat.le_of_ble_eq_true rfl) rfl (Nat.le_of_ble_eq_true rfl) (show (cells + 0) + 0 ≤ 0 by omega) (show (slots + 0) + 0 ≤ 0 by omega) (fun v9 f9 n9 hh => ?_)
      obtain ⟨rfl, rfl, rfl⟩ := hh
      refine aw_pop C dX1_readOuter_38 rfl ?_
      refine aw_aload_n C dX1_readOuter_39 rfl (rf_or v2) ?_
      refine aw_iload_n C dX1_readOuter_40 rfl ?_
      obtain ⟨j16, hj16, h⟩ := Option.bind_eq_some_iff.mp h
      rw [hj16]
      obtain ⟨hb17, h⟩ := ck_some h
      obtain ⟨r18, hr18, h⟩ := Option.bind_eq_some_iff.mp h
      obtain ⟨fs19, hf19⟩ := isO_ex hb17
      refine aw_callV C (ci := 5) (b := j16) [.int v3] mv_X1_101 rfl rfl hf19 (rmX5_add hr18) rfl dX1_readOuter_41 (Nat.le_of_ble_eq_true rfl) (Nat.le_of_ble_eq_true rfl) rfl (Nat.le_of_ble_eq_true rfl) (show ((cells + 0) + 0) + 0 ≤ 0 by omega) (show ((slots + 0) + 0) + 0 ≤ 0 by omega) (fun v9 f9 n9 hh => ?_)
      obtain ⟨rfl, rfl, rfl⟩ := hh
      refine aw_pop C dX1_readOuter_44 rfl ?_
      refine aw_iload_n C dX1_readOuter_45 rfl ?_
      refine aw_iconst C 1 dX1_readOuter_46 ki_1 ?_
      refine aw_ald_n C dX1_readOuter_47 rfl ?_
      obtain ⟨x20, hx20, h⟩ := Option.bind_eq_some_iff.mp h
      refine ah_getR C gf_X1_32 hx20 dX1_readOuter_48 ?_
      obtain ⟨j21, hj21, h⟩ := Option.bind_eq_some_iff.mp h
      rw [hj21]
      obtain ⟨x22, hx22, h⟩ := Option.bind_eq_some_iff.mp h
      refine ah_getI C gf_X1_105 hx22 dX1_readOuter_51 ?_
      refine ah_jMax C ms_X1_108 dX1_readOuter_54 (Nat.le_of_ble_eq_true rfl) (Nat.le_of_ble_eq_true rfl) (Nat.le_of_ble_eq_true rfl) (show _ + 0 ≤ 0 by omega) (show _ + 0 ≤ 0 by omega) ?_
      refine aw_iadd C dX1_readOuter_57 ?_
      refine aw_istore_n C dX1_readOuter_58 (by decide) rfl ?_
      refine aw_nl [some (.ref v0), some (.ref j12), some (.ref j16), some (.int (v3 + (jMax (1 : Int32) x22)))] rfl ?_
      refine aw_goto C 8 dX1_readOuter_59 (by decide) ?_
      refine aw_fl [some (.ref v0), some (va_rf (some j12)), some (va_rf (some j16)), some (.int (v3 + (jMax (1 : Int32) x22)))] ⟨rfl, ⟨rfl, ⟨rfl, ⟨rfl, trivial⟩⟩⟩⟩ ?_
      exact ih v0 (some j12) (some j16) (v3 + (jMax (1 : Int32) x22)) r18.2.1 r18.2.2 _ _ (by omega) (by omega) h
def mX1_readOuter (v0 : Nat) (v1 : Option Nat) (v2 : Option Nat) (f : AH) (n : Nat) : Option (Int32 × HpN) := ((gR f v0 1 4).bind fun x1 => ((x1).bind fun j2 => ((gI f j2 6 1).bind fun x3 => mX1_readOuter_l8 rFU v0 v1 v2 x3 f n)))
set_option maxHeartbeats 1000000 in
theorem rmX1_readOuter {X : GX} {l : Launch} {r : Int32 × HpN} {v0 : Nat} {v1 : Option Nat} {v2 : Option Nat} {f : AH} {n : Nat} (h : mX1_readOuter v0 v1 v2 f n = some r) : AM X l yX1_readOuter cX1_readOuter 4 none 3 0 0 [.ref v0, va_rf v1, va_rf v2] f n (QHv r) := by
  have h : ((gR f v0 1 4).bind fun x1 => ((x1).bind fun j2 => ((gI f j2 6 1).bind fun x3 => mX1_readOuter_l8 rFU v0 v1 v2 x3 f n))) = some r := h
  refine AM.of (by decide +kernel) (all1 rfl (all1 (rf_cat _) (all1 (rf_cat _) rfl))) (Nat.le_of_ble_eq_true rfl) (fun p e s m args below meth c C hnm => ?_)
  refine aw_nl [some (.ref v0), some (va_rf v1), some (va_rf v2), none] rfl ?_
  refine aw_ald_n C dX1_readOuter_0 rfl ?_
  obtain ⟨x1, hx1, h⟩ := Option.bind_eq_some_iff.mp h
  refine ah_getR C gf_X1_32 hx1 dX1_readOuter_1 ?_
  obtain ⟨j2, hj2, h⟩ := Option.bind_eq_some_iff.mp h
  rw [hj2]
  obtain ⟨x3, hx3, h⟩ := Option.bind_eq_some_iff.mp h
  refine ah_getI C gf_X1_81 hx3 dX1_readOuter_4 ?_
  refine aw_istore_n C dX1_readOuter_7 (by decide) (ok_rf 2 rfl) ?_
  refine aw_nl [some (.ref v0), some (va_rf v1), some (va_rf v2), some (.int x3)] rfl ?_
  refine aw_fl [some (.ref v0), some (va_rf v1), some (va_rf v2), some (.int x3)] ⟨rfl, ⟨rfl, ⟨rfl, ⟨rfl, trivial⟩⟩⟩⟩ ?_
  exact rmX1_readOuter_l8 C rFU v0 v1 v2 x3 f n _ _ (by omega) (by omega) h
def mX8_isLetter_b29 (s0 : Int32) (f : AH) (n : Nat) : Option (Int32 × HpN) := rCk (rNb s0) (some (s0, (f, n)))
set_option maxHeartbeats 1000000 in
theorem rmX8_isLetter_b29 {X : GX} {p : Program} {l : Launch} {e : Env} {s : State} {m : MethodId} {args : Array Value} {below : List Frame} {meth : Method} {c : Code} {r : Int32 × HpN} {s0 : Int32} {f : AH} {n cells slots : Nat} (C : CC X p l (RM 0 0 0) s m args meth c RX8 cX8_isLetter 1 (some .boolean)) (hc : cells + 0 ≤ 0) (hs : slots + 0 ≤ 0) (h : mX8_isLetter_b29 s0 f n = some r) : AW X p l e (RM 0 0 0) s m args below meth c 1 (ZM X below args s 0 0 (QHi r)) f n cells slots 29 [none] [.int s0] := by
  have h : rCk (rNb s0) (some (s0, (f, n))) = some r := h
  obtain ⟨hb1, h⟩ := ck_some h
  cases h
  exact aw_iret C rfl (nb_nar hb1) dX8_isLetter_29 (by omega) (by omega) ⟨rfl, rfl, rfl⟩
def mX8_isLetter_b28 (f : AH) (n : Nat) : Option (Int32 × HpN) := mX8_isLetter_b29 (0 : Int32) f n
set_option maxHeartbeats 1000000 in
theorem rmX8_isLetter_b28 {X : GX} {p : Program} {l : Launch} {e : Env} {s : State} {m : MethodId} {args : Array Value} {below : List Frame} {meth : Method} {c : Code} {r : Int32 × HpN} {f : AH} {n cells slots : Nat} (C : CC X p l (RM 0 0 0) s m args meth c RX8 cX8_isLetter 1 (some .boolean)) (hc : cells + 0 ≤ 0) (hs : slots + 0 ≤ 0) (h : mX8_isLetter_b28 f n = some r) : AW X p l e (RM 0 0 0) s m args below meth c 1 (ZM X below args s 0 0 (QHi r)) f n cells slots 28 [none] [] := by
  have h : mX8_isLetter_b29 (0 : Int32) f n = some r := h
  refine aw_iconst C 0 dX8_isLetter_28 ki_0 ?_
  refine aw_fl [none] trivial ?_
  exact rmX8_isLetter_b29 C (by omega) (by omega) h
def mX8_isLetter_b24 (f : AH) (n : Nat) : Option (Int32 × HpN) := mX8_isLetter_b29 (1 : Int32) f n
set_option maxHeartbeats 1000000 in
theorem rmX8_isLetter_b24 {X : GX} {p : Program} {l : Launch} {e : Env} {s : State} {m : MethodId} {args : Array Value} {below : List Frame} {meth : Method} {c : Code} {r : Int32 × HpN} {f : AH} {n cells slots : Nat} (C : CC X p l (RM 0 0 0) s m args meth c RX8 cX8_isLetter 1 (some .boolean)) (hc : cells + 0 ≤ 0) (hs : slots + 0 ≤ 0) (h : mX8_isLetter_b24 f n = some r) : AW X p l e (RM 0 0 0) s m args below meth c 1 (ZM X below args s 0 0 (QHi r)) f n cells slots 24 [none] [] := by
  have h : mX8_isLetter_b29 (1 : Int32) f n = some r := h
  refine aw_iconst C 1 dX8_isLetter_24 ki_1 ?_
  refine aw_goto C 29 dX8_isLetter_25 (by decide) ?_
  refine aw_fl [none] trivial ?_
  exact rmX8_isLetter_b29 C (by omega) (by omega) h
def mX8_isLetter_b12 (v0 : Int32) (f : AH) (n : Nat) : Option (Int32 × HpN) := (if v0 < (65 : Int32) then mX8_isLetter_b28 f n else (if (90 : Int32) < v0 then mX8_isLetter_b28 f n else mX8_isLetter_b24 f n))
set_option maxHeartbeats 1000000 in
theorem rmX8_isLetter_b12 {X : GX} {p : Program} {l : Launch} {e : Env} {s : State} {m : MethodId} {args : Array Value} {below : List Frame} {meth : Method} {c : Code} {r : Int32 × HpN} {v0 : Int32} {f : AH} {n cells slots : Nat} (C : CC X p l (RM 0 0 0) s m args meth c RX8 cX8_isLetter 1 (some .boolean)) (hc : cells + 0 ≤ 0) (hs : slots + 0 ≤ 0) (h : mX8_isLetter_b12 v0 f n = some r) : AW X p l e (RM 0 0 0) s m args below meth c 1 (ZM X below args s 0 0 (QHi r)) f n cells slots 12 [some (.int v0)] [] := by
  have h : (if v0 < (65 : Int32) then mX8_isLetter_b28 f n else (if (90 : Int32) < v0 then mX8_isLetter_b28 f n else mX8_isLetter_b24 f n)) = some r := h
  refine aw_iload_n C dX8_isLetter_12 rfl ?_
  refine aw_bipush C 65 dX8_isLetter_13 kb_65 ?_
  refine aw_icmp_lt C 28 dX8_isLetter_15 (by decide) (fun q => ?_) (fun q => ?_)
  · rw [if_pos q] at h
    refine aw_fl [none] trivial ?_
    exact rmX8_isLetter_b28 C (by omega) (by omega) h
  · rw [if_neg q] at h
    refine aw_iload_n C dX8_isLetter_18 rfl ?_
    refine aw_bipush C 90 dX8_isLetter_19 kb_90 ?_
    refine aw_icmp_gt C 28 dX8_isLetter_21 (by decide) (fun q => ?_) (fun q => ?_)
    · rw [if_pos q] at h
      refine aw_fl [none] trivial ?_
      exact rmX8_isLetter_b28 C (by omega) (by omega) h
    · rw [if_neg q] at h
      refine aw_fl [none] trivial ?_
      exact rmX8_isLetter_b24 C (by omega) (by omega) h
def mX8_isLetter (v0 : Int32) (f : AH) (n : Nat) : Option (Int32 × HpN) := (if v0 < (97 : Int32) then mX8_isLetter_b12 v0 f n else (if v0 ≤ (122 : Int32) then mX8_isLetter_b24 f n else mX8_isLetter_b12 v0 f n))
set_option maxHeartbeats 1000000 in
theorem rmX8_isLetter {X : GX} {l : Launch} {r : Int32 × HpN} {v0 : Int32} {f : AH} {n : Nat} (h : mX8_isLetter v0 f n = some r) : AM X l yX8_isLetter cX8_isLetter 1 (some .boolean) 0 0 0 [.int v0] f n (QHi r) := by
  have h : (if v0 < (97 : Int32) then mX8_isLetter_b12 v0 f n else (if v0 ≤ (122 : Int32) then mX8_isLetter_b24 f n else mX8_isLetter_b12 v0 f n)) = some r := h
  refine AM.of (by decide +kernel) rfl (Nat.le_of_ble_eq_true rfl) (fun p e s m args below meth c C hnm => ?_)
  refine aw_nl [some (.int v0)] rfl ?_
  refine aw_iload_n C dX8_isLetter_0 rfl ?_
  refine aw_bipush C 97 dX8_isLetter_1 kb_97 ?_
  refine aw_icmp_lt C 12 dX8_isLetter_3 (by decide) (fun q => ?_) (fun q => ?_)
  · rw [if_pos q] at h
    refine aw_fl [some (.int v0)] ⟨rfl, trivial⟩ ?_
    exact rmX8_isLetter_b12 C (by omega) (by omega) h
  · rw [if_neg q] at h
    refine aw_iload_n C dX8_isLetter_6 rfl ?_
    refine aw_bipush C 122 dX8_isLetter_7 kb_122 ?_
    refine aw_icmp_le C 24 dX8_isLetter_9 (by decide) (fun q => ?_) (fun q => ?_)
    · rw [if_pos q] at h
      refine aw_fl [none] trivial ?_
      exact rmX8_isLetter_b24 C (by omega) (by omega) h
    · rw [if_neg q] at h
      refine aw_fl [some (.int v0)] ⟨rfl, trivial⟩ ?_
      exact rmX8_isLetter_b12 C (by omega) (by omega) h
