def mX8_like_b47 (rec11 : Nat → Int32 → Int32 → Int32 → Int32 → AH → Nat → Option ((Int32 ⊕ String) × HpN)) (v0 : Nat) (v1 : Int32) (v2 : Int32) (v3 : Int32) (v4 : Int32) (f : AH) (n : Nat) : Option ((Int32 ⊕ String) × HpN) := rec11 v0 v1 v2 v3 (v4 + (1 : Int32)) f n
set_option maxHeartbeats 1000000 in
theorem rmX8_like_b47 {X : GX} {p : Program} {l : Launch} {e : Env} {s : State} {m : MethodId} {args : Array Value} {below : List Frame} {meth : Method} {c : Code} {r : (Int32 ⊕ String) × HpN} {rec11 : Nat → Int32 → Int32 → Int32 → Int32 → AH → Nat → Option ((Int32 ⊕ String) × HpN)} {v0 : Nat} {v1 : Int32} {v2 : Int32} {v3 : Int32} {v4 : Int32} {f : AH} {n cells slots : Nat} (C : CC X p l (RM 7 1 6) s m args meth c RX8 cX8_like 5 (some .int)) (hl0 : l.stackTraces = false) (htab : ∀ x ∈ c.exceptionTable.toList, False) (Hr11 : ∀ (v0 : Nat) (v1 : Int32) (v2 : Int32) (v3 : Int32) (v4 : Int32) (f : AH) (n cells slots : Nat), cells + 0 ≤ 1 → slots + 0 ≤ 6 → rec11 v0 v1 v2 v3 v4 f n = some r → AW X p l e (RM 7 1 6) s m args below meth c 5 (ZX X below args s 1 6 (QTr (QHi) r) (QTx r)) f n cells slots 11 [some (.ref v0), some (.int v1), some (.int v2), some (.int v3), some (.int v4)] []) (hc : cells + 0 ≤ 1) (hs : slots + 0 ≤ 6) (h : mX8_like_b47 rec11 v0 v1 v2 v3 v4 f n = some r) : AW X p l e (RM 7 1 6) s m args below meth c 5 (ZX X below args s 1 6 (QTr (QHi) r) (QTx r)) f n cells slots 47 [some (.ref v0), some (.int v1), some (.int v2), some (.int v3), some (.int v4)] [] := by
  have h : rec11 v0 v1 v2 v3 (v4 + (1 : Int32)) f n = some r := h
  refine aw_iinc C (v4 + (1 : Int32)) dX8_like_47 rfl (by rw [ki_1]) (by decide) rfl ?_
  refine aw_nl [some (.ref v0), some (.int v1), some (.int v2), some (.int v3), some (.int (v4 + (1 : Int32)))] rfl ?_
  refine aw_goto C 11 dX8_like_50 (by decide) ?_
  refine aw_fl [some (.ref v0), some (.int v1), some (.int v2), some (.int v3), some (.int (v4 + (1 : Int32)))] ⟨rfl, ⟨rfl, ⟨rfl, ⟨rfl, ⟨rfl, trivial⟩⟩⟩⟩⟩ ?_
  exact Hr11 v0 v1 v2 v3 (v4 + (1 : Int32)) f n _ _ (by omega) (by omega) h
def mX8_like_l11 : Nat → Nat → Int32 → Int32 → Int32 → Int32 → AH → Nat → Option ((Int32 ⊕ String) × HpN)
  | 0, _, _, _, _, _, _, _ => none
  | d + 1, v0, v1, v2, v3, v4, f, n => ((gR f v0 8 5).bind fun x1 => ((x1).bind fun j2 => rCk (isO f j2 1) (((mX1_size j2 f n).bind fun r4 => (if r4.1 ≤ v4 then some (.inl (-1 : Int32), (r4.2.1, r4.2.2)) else ((gR r4.2.1 v0 8 5).bind fun x6 => ((x6).bind fun j7 => rCk (isO r4.2.1 j7 1) (((mX1_areLike j7 v1 v4 r4.2.1 r4.2.2).bind fun r9 => (if r9.1 = (0 : Int32) then mX8_like_b47 (fun v0 v1 v2 v3 v4 f n => mX8_like_l11 d v0 v1 v2 v3 v4 f n) v0 v1 v2 v3 v4 r9.2.1 r9.2.2 else (if v3 = v2 then some (.inl v4, (r9.2.1, r9.2.2)) else mX8_like_b47 (fun v0 v1 v2 v3 v4 f n => mX8_like_l11 d v0 v1 v2 v3 v4 f n) v0 v1 v2 (v3 + (1 : Int32)) v4 r9.2.1 r9.2.2)))))))))))
set_option maxHeartbeats 1000000 in
theorem rmX8_like_l11 {X : GX} {p : Program} {l : Launch} {e : Env} {s : State} {m : MethodId} {args : Array Value} {below : List Frame} {meth : Method} {c : Code} {r : (Int32 ⊕ String) × HpN} (C : CC X p l (RM 7 1 6) s m args meth c RX8 cX8_like 5 (some .int)) (hl0 : l.stackTraces = false) (htab : ∀ x ∈ c.exceptionTable.toList, False) : ∀ (d : Nat) (v0 : Nat) (v1 : Int32) (v2 : Int32) (v3 : Int32) (v4 : Int32) (f : AH) (n cells slots : Nat) (_ : cells + 0 ≤ 1) (_ : slots + 0 ≤ 6) (_ : mX8_like_l11 d v0 v1 v2 v3 v4 f n = some r), AW X p l e (RM 7 1 6) s m args below meth c 5 (ZX X below args s 1 6 (QTr (QHi) r) (QTx r)) f n cells slots 11 [some (.ref v0), some (.int v1), some (.int v2), some (.int v3), some (.int v4)] [] := by
  intro d
  induction d with
  | zero =>
    intro v0 v1 v2 v3 v4 f n cells slots hc hs h
    exact nomatch (show (none : Option ((Int32 ⊕ String) × HpN)) = some r from h)
  | succ d ih =>
    intro v0 v1 v2 v3 v4 f n cells slots hc hs h
    have h : ((gR f v0 8 5).bind fun x1 => ((x1).bind fun j2 => rCk (isO f j2 1) (((mX1_size j2 f n).bind fun r4 => (if r4.1 ≤ v4 then some (.inl (-1 : Int32), (r4.2.1, r4.2.2)) else ((gR r4.2.1 v0 8 5).bind fun x6 => ((x6).bind fun j7 => rCk (isO r4.2.1 j7 1) (((mX1_areLike j7 v1 v4 r4.2.1 r4.2.2).bind fun r9 => (if r9.1 = (0 : Int32) then mX8_like_b47 (fun v0 v1 v2 v3 v4 f n => mX8_like_l11 d v0 v1 v2 v3 v4 f n) v0 v1 v2 v3 v4 r9.2.1 r9.2.2 else (if v3 = v2 then some (.inl v4, (r9.2.1, r9.2.2)) else mX8_like_b47 (fun v0 v1 v2 v3 v4 f n => mX8_like_l11 d v0 v1 v2 v3 v4 f n) v0 v1 v2 (v3 + (1 : Int32)) v4 r9.2.1 r9.2.2))))))))))) = some r := h
    refine aw_iload C dX8_like_11 rfl ?_
    refine aw_ald_n C dX8_like_13 rfl ?_
    obtain ⟨x1, hx1, h⟩ := Option.bind_eq_some_iff.mp h
    refine ah_getR C gf_X8_38 hx1 dX8_like_14 ?_
    obtain ⟨j2, hj2, h⟩ := Option.bind_eq_some_iff.mp h
    rw [hj2]
    obtain ⟨hb3, h⟩ := ck_some h
    obtain ⟨r4, hr4, h⟩ := Option.bind_eq_some_iff.mp h
    obtain ⟨fs5, hf5⟩ := isO_ex hb3
    refine aw_callV C (ci := 1) (b := j2) [] mv_X8_136 rfl rfl hf5 (rmX1_size hr4) rfl dX8_like_17 (Nat.le_of_ble_eq_true rfl) (Nat.le_of_ble_eq_true rfl) rfl (Nat.le_of_ble_eq_true rfl) (show cells + 0 ≤ 1 by omega) (show slots + 0 ≤ 6 by omega) (fun v9 f9 n9 hh => ?_)
    obtain ⟨rfl, rfl, rfl⟩ := hh
    refine aw_icmp_ge C 53 dX8_like_20 (by decide) (fun q => ?_) (fun q => ?_)
    · rw [if_pos q] at h
      refine aw_iconst C (-1) dX8_like_53 ki_m1 ?_
      cases h
      exact ax_of (aw_iret C rfl rfl dX8_like_54 (by omega) (by omega) ⟨_, rfl, rfl, rfl, rfl⟩)
    · rw [if_neg q] at h
      refine aw_ald_n C dX8_like_23 rfl ?_
      obtain ⟨x6, hx6, h⟩ := Option.bind_eq_some_iff.mp h
      refine ah_getR C gf_X8_38 hx6 dX8_like_24 ?_
      refine aw_iload_n C dX8_like_27 rfl ?_
      refine aw_iload C dX8_like_28 rfl ?_
      obtain ⟨j7, hj7, h⟩ := Option.bind_eq_some_iff.mp h
      rw [hj7]
      obtain ⟨hb8, h⟩ := ck_some h
      obtain ⟨r9, hr9, h⟩ := Option.bind_eq_some_iff.mp h
      obtain ⟨fs10, hf10⟩ := isO_ex hb8
      refine aw_callV C (ci := 1) (b := j7) [.int v1, .int v4] mv_X8_243 rfl rfl hf10 (rmX1_areLike hr9) rfl dX8_like_30 (Nat.le_of_ble_eq_true rfl) (Nat.le_of_ble_eq_true rfl) rfl (Nat.le_of_ble_eq_true rfl) (show (cells + 0) + 0 ≤ 1 by omega) (show (slots + 0) + 0 ≤ 6 by omega) (fun v9 f9 n9 hh => ?_)
      obtain ⟨rfl, rfl, rfl⟩ := hh
      refine aw_if_eq C 47 dX8_like_33 (by decide) (fun q => ?_) (fun q => ?_)
      · rw [if_pos q] at h
        refine aw_fl [some (.ref v0), some (.int v1), some (.int v2), some (.int v3), some (.int v4)] ⟨rfl, ⟨rfl, ⟨rfl, ⟨rfl, ⟨rfl, trivial⟩⟩⟩⟩⟩ ?_
        exact rmX8_like_b47 C hl0 htab (fun v0 v1 v2 v3 v4 f n cells slots hc hs h => ih v0 v1 v2 v3 v4 f n cells slots hc hs h) (by omega) (by omega) h
      · rw [if_neg q] at h
        refine aw_iload_n C dX8_like_36 rfl ?_
        refine aw_iload_n C dX8_like_37 rfl ?_
        refine aw_icmp_ne C 44 dX8_like_38 (by decide) (fun q => ?_) (fun q => ?_)
        · rw [if_neg q] at h
          refine aw_iinc C (v3 + (1 : Int32)) dX8_like_44 rfl (by rw [ki_1]) (by decide) rfl ?_
          refine aw_nl [some (.ref v0), some (.int v1), some (.int v2), some (.int (v3 + (1 : Int32))), some (.int v4)] rfl ?_
          refine aw_fl [some (.ref v0), some (.int v1), some (.int v2), some (.int (v3 + (1 : Int32))), some (.int v4)] ⟨rfl, ⟨rfl, ⟨rfl, ⟨rfl, ⟨rfl, trivial⟩⟩⟩⟩⟩ ?_
          exact rmX8_like_b47 C hl0 htab (fun v0 v1 v2 v3 v4 f n cells slots hc hs h => ih v0 v1 v2 v3 v4 f n cells slots hc hs h) (by omega) (by omega) h
        · rw [if_pos q] at h
          refine aw_iload C dX8_like_41 rfl ?_
          cases h
          exact ax_of (aw_iret C rfl rfl dX8_like_43 (by omega) (by omega) ⟨_, rfl, rfl, rfl, rfl⟩)
def mX8_like (v0 : Nat) (v1 : Int32) (v2 : Int32) (f : AH) (n : Nat) : Option ((Int32 ⊕ String) × HpN) := rCk (isO f v0 8) (((mX8_pieceOrThrow v0 v1 f n).bind fun r2 => (tS r2.1 r2.2 (fun y2 => ((some y2).bind fun x4 => mX8_like_l11 rFU v0 v1 v2 (0 : Int32) (0 : Int32) r2.2.1 r2.2.2)))))
set_option maxHeartbeats 1000000 in
theorem rmX8_like {X : GX} {l : Launch} {r : (Int32 ⊕ String) × HpN} {v0 : Nat} {v1 : Int32} {v2 : Int32} {f : AH} {n : Nat} (hl0 : l.stackTraces = false) (h : mX8_like v0 v1 v2 f n = some r) : AX X l yX8_like cX8_like 5 (some .int) 7 1 6 [.ref v0, .int v1, .int v2] f n (QTr (QHi) r) (QTx r) := by
  have h : rCk (isO f v0 8) (((mX8_pieceOrThrow v0 v1 f n).bind fun r2 => (tS r2.1 r2.2 (fun y2 => ((some y2).bind fun x4 => mX8_like_l11 rFU v0 v1 v2 (0 : Int32) (0 : Int32) r2.2.1 r2.2.2))))) = some r := h
  refine AX.of (by decide +kernel) rfl (Nat.le_of_ble_eq_true rfl) (fun p e s m args below meth c C htab => ?_)
  refine aw_nl [some (.ref v0), some (.int v1), some (.int v2), none, none] rfl ?_
  refine aw_ald_n C dX8_like_0 rfl ?_
  refine aw_iload_n C dX8_like_1 rfl ?_
  obtain ⟨hb1, h⟩ := ck_some h
  obtain ⟨r2, hr2, h⟩ := Option.bind_eq_some_iff.mp h
  obtain ⟨fs3, hf3⟩ := isO_ex hb1
  refine ax_callV C (ci := 8) (b := v0) [.int v1] mv_X8_175 rfl rfl hf3 (rmX8_pieceOrThrow hl0 hr2) rfl dX8_like_2 (Nat.le_of_ble_eq_true rfl) (Nat.le_of_ble_eq_true rfl) rfl (Nat.le_of_ble_eq_true rfl) (show 0 + 1 ≤ 1 by omega) (show 0 + 6 ≤ 6 by omega) (fun E9 f9 n9 hq => ?_) (fun v9 f9 n9 hq => ?_)
  · obtain ⟨e1, e2, e3⟩ := hq
    rw [tS_r e1] at h
    cases h
    exact at_out C htab ⟨rfl, e2, e3⟩ (by omega) (by omega)
  obtain ⟨y2, e2, rfl, rfl, rfl⟩ := hq
  rw [tS_l e2] at h
  replace h : ((some y2).bind fun x4 => mX8_like_l11 rFU v0 v1 v2 (0 : Int32) (0 : Int32) r2.2.1 r2.2.2) = some r := h
  obtain ⟨x4, hx4, h⟩ := Option.bind_eq_some_iff.mp h
  rw [Option.some.inj hx4]
  refine aw_pop C dX8_like_5 (rf_cat _) ?_
  refine aw_iconst C 0 dX8_like_6 ki_0 ?_
  refine aw_istore_n C dX8_like_7 (by decide) rfl ?_
  refine aw_nl [some (.ref v0), some (.int v1), some (.int v2), some (.int (0 : Int32)), none] rfl ?_
  refine aw_iconst C 0 dX8_like_8 ki_0 ?_
  refine aw_istore C dX8_like_9 (by decide) rfl ?_
  refine aw_nl [some (.ref v0), some (.int v1), some (.int v2), some (.int (0 : Int32)), some (.int (0 : Int32))] rfl ?_
  refine aw_fl [some (.ref v0), some (.int v1), some (.int v2), some (.int (0 : Int32)), some (.int (0 : Int32))] ⟨rfl, ⟨rfl, ⟨rfl, ⟨rfl, ⟨rfl, trivial⟩⟩⟩⟩⟩ ?_
  exact rmX8_like_l11 C hl0 htab rFU v0 v1 v2 (0 : Int32) (0 : Int32) r2.2.1 r2.2.2 _ _ (by omega) (by omega) h
def mX8_would_b55 (s0 : Int32) (f : AH) (n : Nat) : Option ((Int32 ⊕ String) × HpN) := some (.inl s0, (f, n))
set_option maxHeartbeats 1000000 in
theorem rmX8_would_b55 {X : GX} {p : Program} {l : Launch} {e : Env} {s : State} {m : MethodId} {args : Array Value} {below : List Frame} {meth : Method} {c : Code} {r : (Int32 ⊕ String) × HpN} {s0 : Int32} {f : AH} {n cells slots : Nat} (C : CC X p l (RM 7 4 74) s m args meth c RX8 cX8_would 4 (some .int)) (hl0 : l.stackTraces = false) (htab : ∀ x ∈ c.exceptionTable.toList, False) (hc : cells + 0 ≤ 4) (hs : slots + 0 ≤ 74) (h : mX8_would_b55 s0 f n = some r) : AW X p l e (RM 7 4 74) s m args below meth c 4 (ZX X below args s 4 74 (QTr (QHi) r) (QTx r)) f n cells slots 55 [none, none, none, none] [.int s0] := by
  have h : some (.inl s0, (f, n)) = some r := h
  cases h
  exact ax_of (aw_iret C rfl rfl dX8_would_55 (by omega) (by omega) ⟨_, rfl, rfl, rfl, rfl⟩)
def mX8_would (v0 : Nat) (v1 : Int32) (f : AH) (n : Nat) : Option ((Int32 ⊕ String) × HpN) := rCk (isO f v0 8) (((mX8_takeTold v0 f n).bind fun r2 => ((some r2.1).bind fun x4 => rCk (isO r2.2.1 v0 8) (((mX8_pieceOrThrow v0 v1 r2.2.1 r2.2.2).bind fun r6 => (tS r6.1 r6.2 (fun y6 => ((some y6).bind fun x8 => (oN x4 (some (.inr eA, (r6.2.1, r6.2.2))) (fun j9 => ((gR r6.2.1 v0 8 7).bind fun x10 => ((gR r6.2.1 v0 8 1).bind fun x11 => ((x10).bind fun j12 => rCk (isO r6.2.1 j12 0) (((mX0_escape j12 (some j9) x8 x11 r6.2.1 r6.2.2).bind fun r14 => (if r14.1 = (0 : Int32) then mX8_would_b55 (-1 : Int32) r14.2.1 r14.2.2 else ((gR r14.2.1 v0 8 7).bind fun x16 => ((x16).bind fun j17 => ((gR r14.2.1 j17 0 1).bind fun x18 => ((x18).bind fun j19 => rCk (isO r14.2.1 j19 5) (((mX5_size j19 r14.2.1 r14.2.2).bind fun r21 => mX8_would_b55 r21.1 r21.2.1 r21.2.2))))))))))))))))))))))
set_option maxHeartbeats 1000000 in
theorem rmX8_would {X : GX} {l : Launch} {r : (Int32 ⊕ String) × HpN} {v0 : Nat} {v1 : Int32} {f : AH} {n : Nat} (hl0 : l.stackTraces = false) (h : mX8_would v0 v1 f n = some r) : AX X l yX8_would cX8_would 4 (some .int) 7 4 74 [.ref v0, .int v1] f n (QTr (QHi) r) (QTx r) := by
  have h : rCk (isO f v0 8) (((mX8_takeTold v0 f n).bind fun r2 => ((some r2.1).bind fun x4 => rCk (isO r2.2.1 v0 8) (((mX8_pieceOrThrow v0 v1 r2.2.1 r2.2.2).bind fun r6 => (tS r6.1 r6.2 (fun y6 => ((some y6).bind fun x8 => (oN x4 (some (.inr eA, (r6.2.1, r6.2.2))) (fun j9 => ((gR r6.2.1 v0 8 7).bind fun x10 => ((gR r6.2.1 v0 8 1).bind fun x11 => ((x10).bind fun j12 => rCk (isO r6.2.1 j12 0) (((mX0_escape j12 (some j9) x8 x11 r6.2.1 r6.2.2).bind fun r14 => (if r14.1 = (0 : Int32) then mX8_would_b55 (-1 : Int32) r14.2.1 r14.2.2 else ((gR r14.2.1 v0 8 7).bind fun x16 => ((x16).bind fun j17 => ((gR r14.2.1 j17 0 1).bind fun x18 => ((x18).bind fun j19 => rCk (isO r14.2.1 j19 5) (((mX5_size j19 r14.2.1 r14.2.2).bind fun r21 => mX8_would_b55 r21.1 r21.2.1 r21.2.2)))))))))))))))))))))) = some r := h
  refine AX.of (by decide +kernel) rfl (Nat.le_of_ble_eq_true rfl) (fun p e s m args below meth c C htab => ?_)
  refine aw_nl [some (.ref v0), some (.int v1), none, none] rfl ?_
  refine aw_ald_n C dX8_would_0 rfl ?_
  obtain ⟨hb1, h⟩ := ck_some h
  obtain ⟨r2, hr2, h⟩ := Option.bind_eq_some_iff.mp h
  obtain ⟨fs3, hf3⟩ := isO_ex hb1
  refine aw_callV C (ci := 8) (b := v0) [] mv_X8_155 rfl rfl hf3 (rmX8_takeTold hr2) rfl dX8_would_1 (Nat.le_of_ble_eq_true rfl) (Nat.le_of_ble_eq_true rfl) rfl (Nat.le_of_ble_eq_true rfl) (show 0 + 2 ≤ 4 by omega) (show 0 + 62 ≤ 74 by omega) (fun v9 f9 n9 hh => ?_)
  obtain ⟨rfl, rfl, rfl⟩ := hh
  obtain ⟨x4, hx4, h⟩ := Option.bind_eq_some_iff.mp h
  rw [Option.some.inj hx4]
  refine aw_astore_n C dX8_would_4 (by decide) rfl (rf_or x4) ?_
  refine aw_nl [some (.ref v0), some (.int v1), some (va_rf x4), none] rfl ?_
  refine aw_ald_n C dX8_would_5 rfl ?_
  refine aw_iload_n C dX8_would_6 rfl ?_
  obtain ⟨hb5, h⟩ := ck_some h
  obtain ⟨r6, hr6, h⟩ := Option.bind_eq_some_iff.mp h
  obtain ⟨fs7, hf7⟩ := isO_ex hb5
  refine ax_callV C (ci := 8) (b := v0) [.int v1] mv_X8_175 rfl rfl hf7 (rmX8_pieceOrThrow hl0 hr6) rfl dX8_would_7 (Nat.le_of_ble_eq_true rfl) (Nat.le_of_ble_eq_true rfl) rfl (Nat.le_of_ble_eq_true rfl) (show (0 + 2) + 1 ≤ 4 by omega) (show (0 + 62) + 6 ≤ 74 by omega) (fun E9 f9 n9 hq => ?_) (fun v9 f9 n9 hq => ?_)
  · obtain ⟨e1, e2, e3⟩ := hq
    rw [tS_r e1] at h
    cases h
    exact at_out C htab ⟨rfl, e2, e3⟩ (by omega) (by omega)
  obtain ⟨y6, e6, rfl, rfl, rfl⟩ := hq
  rw [tS_l e6] at h
  replace h : ((some y6).bind fun x8 => (oN x4 (some (.inr eA, (r6.2.1, r6.2.2))) (fun j9 => ((gR r6.2.1 v0 8 7).bind fun x10 => ((gR r6.2.1 v0 8 1).bind fun x11 => ((x10).bind fun j12 => rCk (isO r6.2.1 j12 0) (((mX0_escape j12 (some j9) x8 x11 r6.2.1 r6.2.2).bind fun r14 => (if r14.1 = (0 : Int32) then mX8_would_b55 (-1 : Int32) r14.2.1 r14.2.2 else ((gR r14.2.1 v0 8 7).bind fun x16 => ((x16).bind fun j17 => ((gR r14.2.1 j17 0 1).bind fun x18 => ((x18).bind fun j19 => rCk (isO r14.2.1 j19 5) (((mX5_size j19 r14.2.1 r14.2.2).bind fun r21 => mX8_would_b55 r21.1 r21.2.1 r21.2.2))))))))))))))) = some r := h
  obtain ⟨x8, hx8, h⟩ := Option.bind_eq_some_iff.mp h
  rw [Option.some.inj hx8]
  refine aw_astore_n C dX8_would_10 (by decide) (ok_rf 2 rfl) (rf_or x8) ?_
  refine aw_nl [some (.ref v0), some (.int v1), some (va_rf x4), some (va_rf x8)] rfl ?_
  refine aw_aload_n C dX8_would_11 rfl (rf_or x4) ?_
  cases x4 with
  | none =>
    replace h : some (.inr eA, (r6.2.1, r6.2.2)) = some r := h
    refine aw_ifnonnull_n C 25 dX8_would_12 (by decide) ?_
    cases h
    exact ax_throw C htab hl0 th_eA sx_158 dX8_would_15 dX8_would_18 dX8_would_19 dX8_would_21 dX8_would_24 (Nat.le_of_ble_eq_true rfl) (Nat.le_of_ble_eq_true rfl) (show ((0 + 2) + 1) + 1 ≤ 4 by omega) (show ((0 + 62) + 6) + 6 ≤ 74 by omega) (by omega) (by omega) (fun n9 h9 => ⟨rfl, rfl, h9⟩)
  | some j9 =>
    replace h : ((gR r6.2.1 v0 8 7).bind fun x10 => ((gR r6.2.1 v0 8 1).bind fun x11 => ((x10).bind fun j12 => rCk (isO r6.2.1 j12 0) (((mX0_escape j12 (some j9) x8 x11 r6.2.1 r6.2.2).bind fun r14 => (if r14.1 = (0 : Int32) then mX8_would_b55 (-1 : Int32) r14.2.1 r14.2.2 else ((gR r14.2.1 v0 8 7).bind fun x16 => ((x16).bind fun j17 => ((gR r14.2.1 j17 0 1).bind fun x18 => ((x18).bind fun j19 => rCk (isO r14.2.1 j19 5) (((mX5_size j19 r14.2.1 r14.2.2).bind fun r21 => mX8_would_b55 r21.1 r21.2.1 r21.2.2)))))))))))) = some r := h
    refine aw_ifnonnull_r C 25 dX8_would_12 (by decide) ?_
    refine aw_ald_n C dX8_would_25 rfl ?_
    obtain ⟨x10, hx10, h⟩ := Option.bind_eq_some_iff.mp h
    refine ah_getR C gf_X8_48 hx10 dX8_would_26 ?_
    refine aw_ald_n C dX8_would_29 rfl ?_
    refine aw_aload_n C dX8_would_30 rfl (rf_or x8) ?_
    refine aw_ald_n C dX8_would_31 rfl ?_
    obtain ⟨x11, hx11, h⟩ := Option.bind_eq_some_iff.mp h
    refine ah_getR C gf_X8_21 hx11 dX8_would_32 ?_
    obtain ⟨j12, hj12, h⟩ := Option.bind_eq_some_iff.mp h
    rw [hj12]
    obtain ⟨hb13, h⟩ := ck_some h
    obtain ⟨r14, hr14, h⟩ := Option.bind_eq_some_iff.mp h
    obtain ⟨fs15, hf15⟩ := isO_ex hb13
    refine aw_callV C (ci := 0) (b := j12) [.ref j9, va_rf x8, va_rf x11] mv_X8_247 rfl rfl hf15 (rmX0_escape hr14) rfl dX8_would_35 (Nat.le_of_ble_eq_true rfl) (Nat.le_of_ble_eq_true rfl) rfl (Nat.le_of_ble_eq_true rfl) (show ((0 + 2) + 1) + 0 ≤ 4 by omega) (show ((0 + 62) + 6) + 0 ≤ 74 by omega) (fun v9 f9 n9 hh => ?_)
    obtain ⟨rfl, rfl, rfl⟩ := hh
    refine aw_if_eq C 54 dX8_would_38 (by decide) (fun q => ?_) (fun q => ?_)
    · rw [if_pos q] at h
      refine aw_iconst C (-1) dX8_would_54 ki_m1 ?_
      refine aw_fl [none, none, none, none] trivial ?_
      exact rmX8_would_b55 C hl0 htab (by omega) (by omega) h
    · rw [if_neg q] at h
      refine aw_ald_n C dX8_would_41 rfl ?_
      obtain ⟨x16, hx16, h⟩ := Option.bind_eq_some_iff.mp h
      refine ah_getR C gf_X8_48 hx16 dX8_would_42 ?_
      obtain ⟨j17, hj17, h⟩ := Option.bind_eq_some_iff.mp h
      rw [hj17]
      obtain ⟨x18, hx18, h⟩ := Option.bind_eq_some_iff.mp h
      refine ah_getR C gf_X8_251 hx18 dX8_would_45 ?_
      obtain ⟨j19, hj19, h⟩ := Option.bind_eq_some_iff.mp h
      rw [hj19]
      obtain ⟨hb20, h⟩ := ck_some h
      obtain ⟨r21, hr21, h⟩ := Option.bind_eq_some_iff.mp h
      obtain ⟨fs22, hf22⟩ := isO_ex hb20
      refine aw_callV C (ci := 5) (b := j19) [] mv_X8_63 rfl rfl hf22 (rmX5_size hr21) rfl dX8_would_48 (Nat.le_of_ble_eq_true rfl) (Nat.le_of_ble_eq_true rfl) rfl (Nat.le_of_ble_eq_true rfl) (show (((0 + 2) + 1) + 0) + 0 ≤ 4 by omega) (show (((0 + 62) + 6) + 0) + 0 ≤ 74 by omega) (fun v9 f9 n9 hh => ?_)
      obtain ⟨rfl, rfl, rfl⟩ := hh
      refine aw_goto C 55 dX8_would_51 (by decide) ?_
      refine aw_fl [none, none, none, none] trivial ?_
      exact rmX8_would_b55 C hl0 htab (by omega) (by omega) h
def mX8_smallLetter_b20 (s0 : Int32) (f : AH) (n : Nat) : Option (Int32 × HpN) := some (s0, (f, n))
set_option maxHeartbeats 1000000 in
theorem rmX8_smallLetter_b20 {X : GX} {p : Program} {l : Launch} {e : Env} {s : State} {m : MethodId} {args : Array Value} {below : List Frame} {meth : Method} {c : Code} {r : Int32 × HpN} {s0 : Int32} {f : AH} {n cells slots : Nat} (C : CC X p l (RM 0 0 0) s m args meth c RX8 cX8_smallLetter 1 (some .int)) (hc : cells + 0 ≤ 0) (hs : slots + 0 ≤ 0) (h : mX8_smallLetter_b20 s0 f n = some r) : AW X p l e (RM 0 0 0) s m args below meth c 1 (ZM X below args s 0 0 (QHi r)) f n cells slots 20 [none] [.int s0] := by
  have h : some (s0, (f, n)) = some r := h
  cases h
  exact aw_iret C rfl rfl dX8_smallLetter_20 (by omega) (by omega) ⟨rfl, rfl, rfl⟩
def mX8_smallLetter_b19 (v0 : Int32) (f : AH) (n : Nat) : Option (Int32 × HpN) := mX8_smallLetter_b20 v0 f n
set_option maxHeartbeats 1000000 in
theorem rmX8_smallLetter_b19 {X : GX} {p : Program} {l : Launch} {e : Env} {s : State} {m : MethodId} {args : Array Value} {below : List Frame} {meth : Method} {c : Code} {r : Int32 × HpN} {v0 : Int32} {f : AH} {n cells slots : Nat} (C : CC X p l (RM 0 0 0) s m args meth c RX8 cX8_smallLetter 1 (some .int)) (hc : cells + 0 ≤ 0) (hs : slots + 0 ≤ 0) (h : mX8_smallLetter_b19 v0 f n = some r) : AW X p l e (RM 0 0 0) s m args below meth c 1 (ZM X below args s 0 0 (QHi r)) f n cells slots 19 [some (.int v0)] [] := by
  have h : mX8_smallLetter_b20 v0 f n = some r := h
  refine aw_iload_n C dX8_smallLetter_19 rfl ?_
  refine aw_fl [none] trivial ?_
  exact rmX8_smallLetter_b20 C (by omega) (by omega) h
def mX8_smallLetter (v0 : Int32) (f : AH) (n : Nat) : Option (Int32 × HpN) := (if v0 < (65 : Int32) then mX8_smallLetter_b19 v0 f n else (if (90 : Int32) < v0 then mX8_smallLetter_b19 v0 f n else mX8_smallLetter_b20 (v0 + (32 : Int32)) f n))
set_option maxHeartbeats 1000000 in
theorem rmX8_smallLetter {X : GX} {l : Launch} {r : Int32 × HpN} {v0 : Int32} {f : AH} {n : Nat} (h : mX8_smallLetter v0 f n = some r) : AM X l yX8_smallLetter cX8_smallLetter 1 (some .int) 0 0 0 [.int v0] f n (QHi r) := by
  have h : (if v0 < (65 : Int32) then mX8_smallLetter_b19 v0 f n else (if (90 : Int32) < v0 then mX8_smallLetter_b19 v0 f n else mX8_smallLetter_b20 (v0 + (32 : Int32)) f n)) = some r := h
  refine AM.of (by decide +kernel) rfl (Nat.le_of_ble_eq_true rfl) (fun p e s m args below meth c C hnm => ?_)
  refine aw_nl [some (.int v0)] rfl ?_
  refine aw_iload_n C dX8_smallLetter_0 rfl ?_
  refine aw_bipush C 65 dX8_smallLetter_1 kb_65 ?_
  refine aw_icmp_lt C 19 dX8_smallLetter_3 (by decide) (fun q => ?_) (fun q => ?_)
  · rw [if_pos q] at h
    refine aw_fl [some (.int v0)] ⟨rfl, trivial⟩ ?_
    exact rmX8_smallLetter_b19 C (by omega) (by omega) h
  · rw [if_neg q] at h
    refine aw_iload_n C dX8_smallLetter_6 rfl ?_
    refine aw_bipush C 90 dX8_smallLetter_7 kb_90 ?_
    refine aw_icmp_gt C 19 dX8_smallLetter_9 (by decide) (fun q => ?_) (fun q => ?_)
    · rw [if_pos q] at h
      refine aw_fl [some (.int v0)] ⟨rfl, trivial⟩ ?_
      exact rmX8_smallLetter_b19 C (by omega) (by omega) h
    · rw [if_neg q] at h
      refine aw_iload_n C dX8_smallLetter_12 rfl ?_
      refine aw_bipush C 32 dX8_smallLetter_13 kb_32 ?_
      refine aw_iadd C dX8_smallLetter_15 ?_
      refine aw_goto C 20 dX8_smallLetter_16 (by decide) ?_
      refine aw_fl [none] trivial ?_
      exact rmX8_smallLetter_b20 C (by omega) (by omega) h
def mX5_hasSmall_l2 : Nat → Nat → Int32 → (Option Nat) → Int32 → AH → Nat → Option (Int32 × HpN)
  | 0, _, _, _, _, _, _ => none
  | d + 1, v0, v1, v2, v3, f, n => ((v2).bind fun j1 => rCk (isO f j1 5) (((mX5_size j1 f n).bind fun r3 => (if r3.1 ≤ v3 then rCk (rNb (1 : Int32)) (some ((1 : Int32), (r3.2.1, r3.2.2))) else rCk (isO r3.2.1 v0 5) (((mX5_get v0 (v1 + v3) r3.2.1 r3.2.2).bind fun r7 => ((mX8_smallLetter r7.1 r7.2.1 r7.2.2).bind fun r9 => rCk (isO r9.2.1 j1 5) (((mX5_get j1 v3 r9.2.1 r9.2.2).bind fun r11 => (if r9.1 = r11.1 then mX5_hasSmall_l2 d v0 v1 (some j1) (v3 + (1 : Int32)) r11.2.1 r11.2.2 else rCk (rNb (0 : Int32)) (some ((0 : Int32), (r11.2.1, r11.2.2)))))))))))))
set_option maxHeartbeats 1000000 in
theorem rmX5_hasSmall_l2 {X : GX} {p : Program} {l : Launch} {e : Env} {s : State} {m : MethodId} {args : Array Value} {below : List Frame} {meth : Method} {c : Code} {r : Int32 × HpN} (C : CC X p l (RM 1 0 0) s m args meth c RX5 cX5_hasSmall 4 (some .boolean)) : ∀ (d : Nat) (v0 : Nat) (v1 : Int32) (v2 : Option Nat) (v3 : Int32) (f : AH) (n cells slots : Nat) (_ : cells + 0 ≤ 0) (_ : slots + 0 ≤ 0) (_ : mX5_hasSmall_l2 d v0 v1 v2 v3 f n = some r), AW X p l e (RM 1 0 0) s m args below meth c 4 (ZM X below args s 0 0 (QHi r)) f n cells slots 2 [some (.ref v0), some (.int v1), some (va_rf v2), some (.int v3)] [] := by
  intro d
  induction d with
  | zero =>
    intro v0 v1 v2 v3 f n cells slots hc hs h
    exact nomatch (show (none : Option (Int32 × HpN)) = some r from h)
  | succ d ih =>
    intro v0 v1 v2 v3 f n cells slots hc hs h
    have h : ((v2).bind fun j1 => rCk (isO f j1 5) (((mX5_size j1 f n).bind fun r3 => (if r3.1 ≤ v3 then rCk (rNb (1 : Int32)) (some ((1 : Int32), (r3.2.1, r3.2.2))) else rCk (isO r3.2.1 v0 5) (((mX5_get v0 (v1 + v3) r3.2.1 r3.2.2).bind fun r7 => ((mX8_smallLetter r7.1 r7.2.1 r7.2.2).bind fun r9 => rCk (isO r9.2.1 j1 5) (((mX5_get j1 v3 r9.2.1 r9.2.2).bind fun r11 => (if r9.1 = r11.1 then mX5_hasSmall_l2 d v0 v1 (some j1) (v3 + (1 : Int32)) r11.2.1 r11.2.2 else rCk (rNb (0 : Int32)) (some ((0 : Int32), (r11.2.1, r11.2.2))))))))))))) = some r := h
    refine aw_iload_n C dX5_hasSmall_2 rfl ?_
    refine aw_aload_n C dX5_hasSmall_3 rfl (rf_or v2) ?_
    obtain ⟨j1, hj1, h⟩ := Option.bind_eq_some_iff.mp h
    rw [hj1]
    obtain ⟨hb2, h⟩ := ck_some h
    obtain ⟨r3, hr3, h⟩ := Option.bind_eq_some_iff.mp h
    obtain ⟨fs4, hf4⟩ := isO_ex hb2
    refine aw_callV C (ci := 5) (b := j1) [] mv_X5_37 rfl rfl hf4 (rmX5_size hr3) rfl dX5_hasSmall_4 (Nat.le_of_ble_eq_true rfl) (Nat.le_of_ble_eq_true rfl) rfl (Nat.le_of_ble_eq_true rfl) (show cells + 0 ≤ 0 by omega) (show slots + 0 ≤ 0 by omega) (fun v9 f9 n9 hh => ?_)
    obtain ⟨rfl, rfl, rfl⟩ := hh
    refine aw_icmp_ge C 36 dX5_hasSmall_7 (by decide) (fun q => ?_) (fun q => ?_)
    · rw [if_pos q] at h
      refine aw_iconst C 1 dX5_hasSmall_36 ki_1 ?_
      obtain ⟨hb5, h⟩ := ck_some h
      cases h
      exact aw_iret C rfl (nb_nar hb5) dX5_hasSmall_37 (by omega) (by omega) ⟨rfl, rfl, rfl⟩
    · rw [if_neg q] at h
      refine aw_ald_n C dX5_hasSmall_10 rfl ?_
      refine aw_iload_n C dX5_hasSmall_11 rfl ?_
      refine aw_iload_n C dX5_hasSmall_12 rfl ?_
      refine aw_iadd C dX5_hasSmall_13 ?_
      obtain ⟨hb6, h⟩ := ck_some h
      obtain ⟨r7, hr7, h⟩ := Option.bind_eq_some_iff.mp h
      obtain ⟨fs8, hf8⟩ := isO_ex hb6
      refine aw_callV C (ci := 5) (b := v0) [.int (v1 + v3)] mv_X5_19 rfl rfl hf8 (rmX5_get hr7) rfl dX5_hasSmall_14 (Nat.le_of_ble_eq_true rfl) (Nat.le_of_ble_eq_true rfl) rfl (Nat.le_of_ble_eq_true rfl) (show (cells + 0) + 0 ≤ 0 by omega) (show (slots + 0) + 0 ≤ 0 by omega) (fun v9 f9 n9 hh => ?_)
      obtain ⟨rfl, rfl, rfl⟩ := hh
      obtain ⟨r9, hr9, h⟩ := Option.bind_eq_some_iff.mp h
      refine aw_callSN C [.int r7.1] mn_X5_44 mnS_X5_44 (rmX8_smallLetter hr9) rfl dX5_hasSmall_17 (Nat.le_of_ble_eq_true rfl) (Nat.le_of_ble_eq_true rfl) rfl (Nat.le_of_ble_eq_true rfl) (show ((cells + 0) + 0) + 0 ≤ 0 by omega) (show ((slots + 0) + 0) + 0 ≤ 0 by omega) (fun v9 f9 n9 hh => ?_)
      obtain ⟨rfl, rfl, rfl⟩ := hh
      refine aw_ald_n C dX5_hasSmall_20 rfl ?_
      refine aw_iload_n C dX5_hasSmall_21 rfl ?_
      obtain ⟨hb10, h⟩ := ck_some h
      obtain ⟨r11, hr11, h⟩ := Option.bind_eq_some_iff.mp h
      obtain ⟨fs12, hf12⟩ := isO_ex hb10
      refine aw_callV C (ci := 5) (b := j1) [.int v3] mv_X5_19 rfl rfl hf12 (rmX5_get hr11) rfl dX5_hasSmall_22 (Nat.le_of_ble_eq_true rfl) (Nat.le_of_ble_eq_true rfl) rfl (Nat.le_of_ble_eq_true rfl) (show (((cells + 0) + 0) + 0) + 0 ≤ 0 by omega) (show (((slots + 0) + 0) + 0) + 0 ≤ 0 by omega) (fun v9 f9 n9 hh => ?_)
      obtain ⟨rfl, rfl, rfl⟩ := hh
      refine aw_icmp_eq C 30 dX5_hasSmall_25 (by decide) (fun q => ?_) (fun q => ?_)
      · rw [if_pos q] at h
        refine aw_iinc C (v3 + (1 : Int32)) dX5_hasSmall_30 rfl (by rw [ki_1]) (by decide) rfl ?_
        refine aw_nl [some (.ref v0), some (.int v1), some (.ref j1), some (.int (v3 + (1 : Int32)))] rfl ?_
        refine aw_goto C 2 dX5_hasSmall_33 (by decide) ?_
        refine aw_fl [some (.ref v0), some (.int v1), some (va_rf (some j1)), some (.int (v3 + (1 : Int32)))] ⟨rfl, ⟨rfl, ⟨rfl, ⟨rfl, trivial⟩⟩⟩⟩ ?_
        exact ih v0 v1 (some j1) (v3 + (1 : Int32)) r11.2.1 r11.2.2 _ _ (by omega) (by omega) h
      · rw [if_neg q] at h
        refine aw_iconst C 0 dX5_hasSmall_28 ki_0 ?_
        obtain ⟨hb13, h⟩ := ck_some h
        cases h
        exact aw_iret C rfl (nb_nar hb13) dX5_hasSmall_29 (by omega) (by omega) ⟨rfl, rfl, rfl⟩
def mX5_hasSmall (v0 : Nat) (v1 : Int32) (v2 : Option Nat) (f : AH) (n : Nat) : Option (Int32 × HpN) := mX5_hasSmall_l2 rFU v0 v1 v2 (0 : Int32) f n
set_option maxHeartbeats 1000000 in
theorem rmX5_hasSmall {X : GX} {l : Launch} {r : Int32 × HpN} {v0 : Nat} {v1 : Int32} {v2 : Option Nat} {f : AH} {n : Nat} (h : mX5_hasSmall v0 v1 v2 f n = some r) : AM X l yX5_hasSmall cX5_hasSmall 4 (some .boolean) 1 0 0 [.ref v0, .int v1, va_rf v2] f n (QHi r) := by
  have h : mX5_hasSmall_l2 rFU v0 v1 v2 (0 : Int32) f n = some r := h
  refine AM.of (by decide +kernel) (all1 rfl (all1 rfl (all1 (rf_cat _) rfl))) (Nat.le_of_ble_eq_true rfl) (fun p e s m args below meth c C hnm => ?_)
  refine aw_nl [some (.ref v0), some (.int v1), some (va_rf v2), none] rfl ?_
  refine aw_iconst C 0 dX5_hasSmall_0 ki_0 ?_
  refine aw_istore_n C dX5_hasSmall_1 (by decide) (ok_rf 2 rfl) ?_
  refine aw_nl [some (.ref v0), some (.int v1), some (va_rf v2), some (.int (0 : Int32))] rfl ?_
  refine aw_fl [some (.ref v0), some (.int v1), some (va_rf v2), some (.int (0 : Int32))] ⟨rfl, ⟨rfl, ⟨rfl, ⟨rfl, trivial⟩⟩⟩⟩ ?_
  exact rmX5_hasSmall_l2 C rFU v0 v1 v2 (0 : Int32) f n _ _ (by omega) (by omega) h
def mX5_hasWord_l3 : Nat → Nat → Int32 → Int32 → (Option Nat) → Int32 → AH → Nat → Option (Int32 × HpN)
  | 0, _, _, _, _, _, _, _ => none
  | d + 1, v0, v1, v2, v3, v4, f, n => ((v3).bind fun j1 => rCk (isO f j1 5) (((mX5_size j1 f n).bind fun r3 => (if ((v1 + v2) - r3.1) < v4 then rCk (rNb (0 : Int32)) (some ((0 : Int32), (r3.2.1, r3.2.2))) else rCk (isO r3.2.1 v0 5) (((mX5_hasSmall v0 v4 (some j1) r3.2.1 r3.2.2).bind fun r7 => (if r7.1 = (0 : Int32) then mX5_hasWord_l3 d v0 v1 v2 (some j1) (v4 + (1 : Int32)) r7.2.1 r7.2.2 else rCk (rNb (1 : Int32)) (some ((1 : Int32), (r7.2.1, r7.2.2))))))))))
set_option maxHeartbeats 1000000 in
theorem rmX5_hasWord_l3 {X : GX} {p : Program} {l : Launch} {e : Env} {s : State} {m : MethodId} {args : Array Value} {below : List Frame} {meth : Method} {c : Code} {r : Int32 × HpN} (C : CC X p l (RM 2 0 0) s m args meth c RX5 cX5_hasWord 5 (some .boolean)) : ∀ (d : Nat) (v0 : Nat) (v1 : Int32) (v2 : Int32) (v3 : Option Nat) (v4 : Int32) (f : AH) (n cells slots : Nat) (_ : cells + 0 ≤ 0) (_ : slots + 0 ≤ 0) (_ : mX5_hasWord_l3 d v0 v1 v2 v3 v4 f n = some r), AW X p l e (RM 2 0 0) s m args below meth c 5 (ZM X below args s 0 0 (QHi r)) f n cells slots 3 [some (.ref v0), some (.int v1), some (.int v2), some (va_rf v3), some (.int v4)] [] := by
  intro d
  induction d with
  | zero =>
    intro v0 v1 v2 v3 v4 f n cells slots hc hs h
    exact nomatch (show (none : Option (Int32 × HpN)) = some r from h)
  | succ d ih =>
    intro v0 v1 v2 v3 v4 f n cells slots hc hs h
    have h : ((v3).bind fun j1 => rCk (isO f j1 5) (((mX5_size j1 f n).bind fun r3 => (if ((v1 + v2) - r3.1) < v4 then rCk (rNb (0 : Int32)) (some ((0 : Int32), (r3.2.1, r3.2.2))) else rCk (isO r3.2.1 v0 5) (((mX5_hasSmall v0 v4 (some j1) r3.2.1 r3.2.2).bind fun r7 => (if r7.1 = (0 : Int32) then mX5_hasWord_l3 d v0 v1 v2 (some j1) (v4 + (1 : Int32)) r7.2.1 r7.2.2 else rCk (rNb (1 : Int32)) (some ((1 : Int32), (r7.2.1, r7.2.2)))))))))) = some r := h
    refine aw_iload C dX5_hasWord_3 rfl ?_
    refine aw_iload_n C dX5_hasWord_5 rfl ?_
    refine aw_iload_n C dX5_hasWord_6 rfl ?_
    refine aw_iadd C dX5_hasWord_7 ?_
    refine aw_aload_n C dX5_hasWord_8 rfl (rf_or v3) ?_
    obtain ⟨j1, hj1, h⟩ := Option.bind_eq_some_iff.mp h
    rw [hj1]
    obtain ⟨hb2, h⟩ := ck_some h
    obtain ⟨r3, hr3, h⟩ := Option.bind_eq_some_iff.mp h
    obtain ⟨fs4, hf4⟩ := isO_ex hb2
    refine aw_callV C (ci := 5) (b := j1) [] mv_X5_37 rfl rfl hf4 (rmX5_size hr3) rfl dX5_hasWord_9 (Nat.le_of_ble_eq_true rfl) (Nat.le_of_ble_eq_true rfl) rfl (Nat.le_of_ble_eq_true rfl) (show cells + 0 ≤ 0 by omega) (show slots + 0 ≤ 0 by omega) (fun v9 f9 n9 hh => ?_)
    obtain ⟨rfl, rfl, rfl⟩ := hh
    refine aw_isub C dX5_hasWord_12 ?_
    refine aw_icmp_gt C 34 dX5_hasWord_13 (by decide) (fun q => ?_) (fun q => ?_)
    · rw [if_pos q] at h
      refine aw_iconst C 0 dX5_hasWord_34 ki_0 ?_
      obtain ⟨hb5, h⟩ := ck_some h
      cases h
      exact aw_iret C rfl (nb_nar hb5) dX5_hasWord_35 (by omega) (by omega) ⟨rfl, rfl, rfl⟩
    · rw [if_neg q] at h
      refine aw_ald_n C dX5_hasWord_16 rfl ?_
      refine aw_iload C dX5_hasWord_17 rfl ?_
      refine aw_ald_n C dX5_hasWord_19 rfl ?_
      obtain ⟨hb6, h⟩ := ck_some h
      obtain ⟨r7, hr7, h⟩ := Option.bind_eq_some_iff.mp h
      obtain ⟨fs8, hf8⟩ := isO_ex hb6
      refine aw_callV C (ci := 5) (b := v0) [.int v4, .ref j1] mv_X5_40 rfl rfl hf8 (rmX5_hasSmall hr7) rfl dX5_hasWord_20 (Nat.le_of_ble_eq_true rfl) (Nat.le_of_ble_eq_true rfl) rfl (Nat.le_of_ble_eq_true rfl) (show (cells + 0) + 0 ≤ 0 by omega) (show (slots + 0) + 0 ≤ 0 by omega) (fun v9 f9 n9 hh => ?_)
      obtain ⟨rfl, rfl, rfl⟩ := hh
      refine aw_if_eq C 28 dX5_hasWord_23 (by decide) (fun q => ?_) (fun q => ?_)
      · rw [if_pos q] at h
        refine aw_iinc C (v4 + (1 : Int32)) dX5_hasWord_28 rfl (by rw [ki_1]) (by decide) rfl ?_
        refine aw_nl [some (.ref v0), some (.int v1), some (.int v2), some (.ref j1), some (.int (v4 + (1 : Int32)))] rfl ?_
        refine aw_goto C 3 dX5_hasWord_31 (by decide) ?_
        refine aw_fl [some (.ref v0), some (.int v1), some (.int v2), some (va_rf (some j1)), some (.int (v4 + (1 : Int32)))] ⟨rfl, ⟨rfl, ⟨rfl, ⟨rfl, ⟨rfl, trivial⟩⟩⟩⟩⟩ ?_
        exact ih v0 v1 v2 (some j1) (v4 + (1 : Int32)) r7.2.1 r7.2.2 _ _ (by omega) (by omega) h
      · rw [if_neg q] at h
        refine aw_iconst C 1 dX5_hasWord_26 ki_1 ?_
        obtain ⟨hb9, h⟩ := ck_some h
        cases h
        exact aw_iret C rfl (nb_nar hb9) dX5_hasWord_27 (by omega) (by omega) ⟨rfl, rfl, rfl⟩
def mX5_hasWord (v0 : Nat) (v1 : Int32) (v2 : Int32) (v3 : Option Nat) (f : AH) (n : Nat) : Option (Int32 × HpN) := mX5_hasWord_l3 rFU v0 v1 v2 v3 v1 f n
set_option maxHeartbeats 1000000 in
theorem rmX5_hasWord {X : GX} {l : Launch} {r : Int32 × HpN} {v0 : Nat} {v1 : Int32} {v2 : Int32} {v3 : Option Nat} {f : AH} {n : Nat} (h : mX5_hasWord v0 v1 v2 v3 f n = some r) : AM X l yX5_hasWord cX5_hasWord 5 (some .boolean) 2 0 0 [.ref v0, .int v1, .int v2, va_rf v3] f n (QHi r) := by
  have h : mX5_hasWord_l3 rFU v0 v1 v2 v3 v1 f n = some r := h
  refine AM.of (by decide +kernel) (all1 rfl (all1 rfl (all1 rfl (all1 (rf_cat _) rfl)))) (Nat.le_of_ble_eq_true rfl) (fun p e s m args below meth c C hnm => ?_)
  refine aw_nl [some (.ref v0), some (.int v1), some (.int v2), some (va_rf v3), none] rfl ?_
  refine aw_iload_n C dX5_hasWord_0 rfl ?_
  refine aw_istore C dX5_hasWord_1 (by decide) (ok_rf 3 rfl) ?_
  refine aw_nl [some (.ref v0), some (.int v1), some (.int v2), some (va_rf v3), some (.int v1)] rfl ?_
  refine aw_fl [some (.ref v0), some (.int v1), some (.int v2), some (va_rf v3), some (.int v1)] ⟨rfl, ⟨rfl, ⟨rfl, ⟨rfl, ⟨rfl, trivial⟩⟩⟩⟩⟩ ?_
  exact rmX5_hasWord_l3 C rFU v0 v1 v2 v3 v1 f n _ _ (by omega) (by omega) h
def mX8_hasWord_b64 (s0 : Int32) (f : AH) (n : Nat) : Option (Int32 × HpN) := rCk (rNb s0) (some (s0, (f, n)))
set_option maxHeartbeats 1000000 in
theorem rmX8_hasWord_b64 {X : GX} {p : Program} {l : Launch} {e : Env} {s : State} {m : MethodId} {args : Array Value} {below : List Frame} {meth : Method} {c : Code} {r : Int32 × HpN} {s0 : Int32} {f : AH} {n cells slots : Nat} (C : CC X p l (RM 3 0 0) s m args meth c RX8 cX8_hasWord 5 (some .boolean)) (hc : cells + 0 ≤ 0) (hs : slots + 0 ≤ 0) (h : mX8_hasWord_b64 s0 f n = some r) : AW X p l e (RM 3 0 0) s m args below meth c 5 (ZM X below args s 0 0 (QHi r)) f n cells slots 64 [none, none, none, none, none] [.int s0] := by
  have h : rCk (rNb s0) (some (s0, (f, n))) = some r := h
  obtain ⟨hb1, h⟩ := ck_some h
  cases h
  exact aw_iret C rfl (nb_nar hb1) dX8_hasWord_64 (by omega) (by omega) ⟨rfl, rfl, rfl⟩
def mX8_hasWord (v0 : Nat) (v1 : Int32) (v2 : Option Nat) (f : AH) (n : Nat) : Option (Int32 × HpN) := ((gR f v0 8 5).bind fun x1 => ((x1).bind fun j2 => rCk (isO f j2 1) (((mX1_get j2 v1 f n).bind fun r4 => ((some r4.1).bind fun x6 => (oN x6 (rCk (rNb (0 : Int32)) (some ((0 : Int32), (r4.2.1, r4.2.2)))) (fun j7 => ((gR r4.2.1 v0 8 1).bind fun x9 => ((x9).bind fun j10 => rCk (isO r4.2.1 j10 7) (((mX7_toldFor j10 v1 r4.2.1 r4.2.2).bind fun r12 => ((some r12.1).bind fun x14 => (oN x14 (((gR r12.2.1 v0 8 5).bind fun x16 => ((x16).bind fun j17 => ((gR r12.2.1 j17 1 0).bind fun x18 => ((gI r12.2.1 j7 3 2).bind fun x19 => ((gI r12.2.1 j7 3 3).bind fun x20 => ((x18).bind fun j21 => rCk (isO r12.2.1 j21 5) (((mX5_hasWord j21 x19 x20 v2 r12.2.1 r12.2.2).bind fun r23 => mX8_hasWord_b64 r23.1 r23.2.1 r23.2.2))))))))) (fun j15 => rCk (isO r12.2.1 j15 5) (((mX5_size j15 r12.2.1 r12.2.2).bind fun r26 => rCk (isO r26.2.1 j15 5) (((mX5_hasWord j15 (0 : Int32) r26.1 v2 r26.2.1 r26.2.2).bind fun r29 => mX8_hasWord_b64 r29.1 r29.2.1 r29.2.2))))))))))))))))))
set_option maxHeartbeats 1000000 in
theorem rmX8_hasWord {X : GX} {l : Launch} {r : Int32 × HpN} {v0 : Nat} {v1 : Int32} {v2 : Option Nat} {f : AH} {n : Nat} (h : mX8_hasWord v0 v1 v2 f n = some r) : AM X l yX8_hasWord cX8_hasWord 5 (some .boolean) 3 0 0 [.ref v0, .int v1, va_rf v2] f n (QHi r) := by
  have h : ((gR f v0 8 5).bind fun x1 => ((x1).bind fun j2 => rCk (isO f j2 1) (((mX1_get j2 v1 f n).bind fun r4 => ((some r4.1).bind fun x6 => (oN x6 (rCk (rNb (0 : Int32)) (some ((0 : Int32), (r4.2.1, r4.2.2)))) (fun j7 => ((gR r4.2.1 v0 8 1).bind fun x9 => ((x9).bind fun j10 => rCk (isO r4.2.1 j10 7) (((mX7_toldFor j10 v1 r4.2.1 r4.2.2).bind fun r12 => ((some r12.1).bind fun x14 => (oN x14 (((gR r12.2.1 v0 8 5).bind fun x16 => ((x16).bind fun j17 => ((gR r12.2.1 j17 1 0).bind fun x18 => ((gI r12.2.1 j7 3 2).bind fun x19 => ((gI r12.2.1 j7 3 3).bind fun x20 => ((x18).bind fun j21 => rCk (isO r12.2.1 j21 5) (((mX5_hasWord j21 x19 x20 v2 r12.2.1 r12.2.2).bind fun r23 => mX8_hasWord_b64 r23.1 r23.2.1 r23.2.2))))))))) (fun j15 => rCk (isO r12.2.1 j15 5) (((mX5_size j15 r12.2.1 r12.2.2).bind fun r26 => rCk (isO r26.2.1 j15 5) (((mX5_hasWord j15 (0 : Int32) r26.1 v2 r26.2.1 r26.2.2).bind fun r29 => mX8_hasWord_b64 r29.1 r29.2.1 r29.2.2)))))))))))))))))) = some r := h
  refine AM.of (by decide +kernel) (all1 rfl (all1 rfl (all1 (rf_cat _) rfl))) (Nat.le_of_ble_eq_true rfl) (fun p e s m args below meth c C hnm => ?_)
  refine aw_nl [some (.ref v0), some (.int v1), some (va_rf v2), none, none] rfl ?_
  refine aw_ald_n C dX8_hasWord_0 rfl ?_
  obtain ⟨x1, hx1, h⟩ := Option.bind_eq_some_iff.mp h
  refine ah_getR C gf_X8_38 hx1 dX8_hasWord_1 ?_
  refine aw_iload_n C dX8_hasWord_4 rfl ?_
  obtain ⟨j2, hj2, h⟩ := Option.bind_eq_some_iff.mp h
  rw [hj2]
  obtain ⟨hb3, h⟩ := ck_some h
  obtain ⟨r4, hr4, h⟩ := Option.bind_eq_some_iff.mp h
  obtain ⟨fs5, hf5⟩ := isO_ex hb3
  refine aw_callV C (ci := 1) (b := j2) [.int v1] mv_X8_241 rfl rfl hf5 (rmX1_get hr4) rfl dX8_hasWord_5 (Nat.le_of_ble_eq_true rfl) (Nat.le_of_ble_eq_true rfl) rfl (Nat.le_of_ble_eq_true rfl) (show 0 + 0 ≤ 0 by omega) (show 0 + 0 ≤ 0 by omega) (fun v9 f9 n9 hh => ?_)
  obtain ⟨rfl, rfl, rfl⟩ := hh
  obtain ⟨x6, hx6, h⟩ := Option.bind_eq_some_iff.mp h
  rw [Option.some.inj hx6]
  refine aw_astore_n C dX8_hasWord_8 (by decide) (ok_rf 2 rfl) (rf_or x6) ?_
  refine aw_nl [some (.ref v0), some (.int v1), some (va_rf v2), some (va_rf x6), none] rfl ?_
  refine aw_aload_n C dX8_hasWord_9 rfl (rf_or x6) ?_
  cases x6 with
  | none =>
    replace h : rCk (rNb (0 : Int32)) (some ((0 : Int32), (r4.2.1, r4.2.2))) = some r := h
    refine aw_ifnonnull_n C 15 dX8_hasWord_10 (by decide) ?_
    refine aw_iconst C 0 dX8_hasWord_13 ki_0 ?_
    obtain ⟨hb8, h⟩ := ck_some h
    cases h
    exact aw_iret C rfl (nb_nar hb8) dX8_hasWord_14 (by omega) (by omega) ⟨rfl, rfl, rfl⟩
  | some j7 =>
    replace h : ((gR r4.2.1 v0 8 1).bind fun x9 => ((x9).bind fun j10 => rCk (isO r4.2.1 j10 7) (((mX7_toldFor j10 v1 r4.2.1 r4.2.2).bind fun r12 => ((some r12.1).bind fun x14 => (oN x14 (((gR r12.2.1 v0 8 5).bind fun x16 => ((x16).bind fun j17 => ((gR r12.2.1 j17 1 0).bind fun x18 => ((gI r12.2.1 j7 3 2).bind fun x19 => ((gI r12.2.1 j7 3 3).bind fun x20 => ((x18).bind fun j21 => rCk (isO r12.2.1 j21 5) (((mX5_hasWord j21 x19 x20 v2 r12.2.1 r12.2.2).bind fun r23 => mX8_hasWord_b64 r23.1 r23.2.1 r23.2.2))))))))) (fun j15 => rCk (isO r12.2.1 j15 5) (((mX5_size j15 r12.2.1 r12.2.2).bind fun r26 => rCk (isO r26.2.1 j15 5) (((mX5_hasWord j15 (0 : Int32) r26.1 v2 r26.2.1 r26.2.2).bind fun r29 => mX8_hasWord_b64 r29.1 r29.2.1 r29.2.2))))))))))) = some r := h
    refine aw_ifnonnull_r C 15 dX8_hasWord_10 (by decide) ?_
    refine aw_ald_n C dX8_hasWord_15 rfl ?_
    obtain ⟨x9, hx9, h⟩ := Option.bind_eq_some_iff.mp h
    refine ah_getR C gf_X8_21 hx9 dX8_hasWord_16 ?_
    refine aw_iload_n C dX8_hasWord_19 rfl ?_
    obtain ⟨j10, hj10, h⟩ := Option.bind_eq_some_iff.mp h
    rw [hj10]
    obtain ⟨hb11, h⟩ := ck_some h
    obtain ⟨r12, hr12, h⟩ := Option.bind_eq_some_iff.mp h
    obtain ⟨fs13, hf13⟩ := isO_ex hb11
    refine aw_callV C (ci := 7) (b := j10) [.int v1] mv_X8_194 rfl rfl hf13 (rmX7_toldFor hr12) rfl dX8_hasWord_20 (Nat.le_of_ble_eq_true rfl) (Nat.le_of_ble_eq_true rfl) rfl (Nat.le_of_ble_eq_true rfl) (show (0 + 0) + 0 ≤ 0 by omega) (show (0 + 0) + 0 ≤ 0 by omega) (fun v9 f9 n9 hh => ?_)
    obtain ⟨rfl, rfl, rfl⟩ := hh
    obtain ⟨x14, hx14, h⟩ := Option.bind_eq_some_iff.mp h
    rw [Option.some.inj hx14]
    refine aw_astore C dX8_hasWord_23 (by decide) rfl (rf_or x14) ?_
    refine aw_nl [some (.ref v0), some (.int v1), some (va_rf v2), some (.ref j7), some (va_rf x14)] rfl ?_
    refine aw_aload C dX8_hasWord_25 rfl (rf_or x14) ?_
    cases x14 with
    | none =>
      replace h : ((gR r12.2.1 v0 8 5).bind fun x16 => ((x16).bind fun j17 => ((gR r12.2.1 j17 1 0).bind fun x18 => ((gI r12.2.1 j7 3 2).bind fun x19 => ((gI r12.2.1 j7 3 3).bind fun x20 => ((x18).bind fun j21 => rCk (isO r12.2.1 j21 5) (((mX5_hasWord j21 x19 x20 v2 r12.2.1 r12.2.2).bind fun r23 => mX8_hasWord_b64 r23.1 r23.2.1 r23.2.2)))))))) = some r := h
      refine aw_ifnonnull_n C 52 dX8_hasWord_27 (by decide) ?_
      refine aw_ald_n C dX8_hasWord_30 rfl ?_
      obtain ⟨x16, hx16, h⟩ := Option.bind_eq_some_iff.mp h
      refine ah_getR C gf_X8_38 hx16 dX8_hasWord_31 ?_
      obtain ⟨j17, hj17, h⟩ := Option.bind_eq_some_iff.mp h
      rw [hj17]
      obtain ⟨x18, hx18, h⟩ := Option.bind_eq_some_iff.mp h
      refine ah_getR C gf_X8_373 hx18 dX8_hasWord_34 ?_
      refine aw_ald_n C dX8_hasWord_37 rfl ?_
      obtain ⟨x19, hx19, h⟩ := Option.bind_eq_some_iff.mp h
      refine ah_getI C gf_X8_224 hx19 dX8_hasWord_38 ?_
      refine aw_ald_n C dX8_hasWord_41 rfl ?_
      obtain ⟨x20, hx20, h⟩ := Option.bind_eq_some_iff.mp h
      refine ah_getI C gf_X8_187 hx20 dX8_hasWord_42 ?_
      refine aw_aload_n C dX8_hasWord_45 rfl (rf_or v2) ?_
      obtain ⟨j21, hj21, h⟩ := Option.bind_eq_some_iff.mp h
      rw [hj21]
      obtain ⟨hb22, h⟩ := ck_some h
      obtain ⟨r23, hr23, h⟩ := Option.bind_eq_some_iff.mp h
      obtain ⟨fs24, hf24⟩ := isO_ex hb22
      refine aw_callV C (ci := 5) (b := j21) [.int x19, .int x20, va_rf v2] mv_X8_388 rfl rfl hf24 (rmX5_hasWord hr23) rfl dX8_hasWord_46 (Nat.le_of_ble_eq_true rfl) (Nat.le_of_ble_eq_true rfl) rfl (Nat.le_of_ble_eq_true rfl) (show ((0 + 0) + 0) + 0 ≤ 0 by omega) (show ((0 + 0) + 0) + 0 ≤ 0 by omega) (fun v9 f9 n9 hh => ?_)
      obtain ⟨rfl, rfl, rfl⟩ := hh
      refine aw_goto C 64 dX8_hasWord_49 (by decide) ?_
      refine aw_fl [none, none, none, none, none] trivial ?_
      exact rmX8_hasWord_b64 C (by omega) (by omega) h
    | some j15 =>
      replace h : rCk (isO r12.2.1 j15 5) (((mX5_size j15 r12.2.1 r12.2.2).bind fun r26 => rCk (isO r26.2.1 j15 5) (((mX5_hasWord j15 (0 : Int32) r26.1 v2 r26.2.1 r26.2.2).bind fun r29 => mX8_hasWord_b64 r29.1 r29.2.1 r29.2.2)))) = some r := h
      refine aw_ifnonnull_r C 52 dX8_hasWord_27 (by decide) ?_
      refine aw_ald C dX8_hasWord_52 rfl ?_
      refine aw_iconst C 0 dX8_hasWord_54 ki_0 ?_
      refine aw_ald C dX8_hasWord_55 rfl ?_
      obtain ⟨hb25, h⟩ := ck_some h
      obtain ⟨r26, hr26, h⟩ := Option.bind_eq_some_iff.mp h
      obtain ⟨fs27, hf27⟩ := isO_ex hb25
      refine aw_callV C (ci := 5) (b := j15) [] mv_X8_63 rfl rfl hf27 (rmX5_size hr26) rfl dX8_hasWord_57 (Nat.le_of_ble_eq_true rfl) (Nat.le_of_ble_eq_true rfl) rfl (Nat.le_of_ble_eq_true rfl) (show ((0 + 0) + 0) + 0 ≤ 0 by omega) (show ((0 + 0) + 0) + 0 ≤ 0 by omega) (fun v9 f9 n9 hh => ?_)
      obtain ⟨rfl, rfl, rfl⟩ := hh
      refine aw_aload_n C dX8_hasWord_60 rfl (rf_or v2) ?_
      obtain ⟨hb28, h⟩ := ck_some h
      obtain ⟨r29, hr29, h⟩ := Option.bind_eq_some_iff.mp h
      obtain ⟨fs30, hf30⟩ := isO_ex hb28
      refine aw_callV C (ci := 5) (b := j15) [.int (0 : Int32), .int r26.1, va_rf v2] mv_X8_388 rfl rfl hf30 (rmX5_hasWord hr29) rfl dX8_hasWord_61 (Nat.le_of_ble_eq_true rfl) (Nat.le_of_ble_eq_true rfl) rfl (Nat.le_of_ble_eq_true rfl) (show (((0 + 0) + 0) + 0) + 0 ≤ 0 by omega) (show (((0 + 0) + 0) + 0) + 0 ≤ 0 by omega) (fun v9 f9 n9 hh => ?_)
      obtain ⟨rfl, rfl, rfl⟩ := hh
      refine aw_fl [none, none, none, none, none] trivial ?_
      exact rmX8_hasWord_b64 C (by omega) (by omega) h
def mX8_found_b53 (rec24 : Nat → (Option Nat) → Int64 → Int32 → AH → Nat → Option ((Int64 ⊕ String) × HpN)) (v0 : Nat) (v1 : Option Nat) (v2 : Int64) (v4 : Int32) (f : AH) (n : Nat) : Option ((Int64 ⊕ String) × HpN) := rec24 v0 v1 v2 (v4 + (1 : Int32)) f n
set_option maxHeartbeats 1000000 in
theorem rmX8_found_b53 {X : GX} {p : Program} {l : Launch} {e : Env} {s : State} {m : MethodId} {args : Array Value} {below : List Frame} {meth : Method} {c : Code} {r : (Int64 ⊕ String) × HpN} {rec24 : Nat → (Option Nat) → Int64 → Int32 → AH → Nat → Option ((Int64 ⊕ String) × HpN)} {v0 : Nat} {v1 : Option Nat} {v2 : Int64} {v4 : Int32} {f : AH} {n cells slots : Nat} (C : CC X p l (RM 6 3 16) s m args meth c RX8 cX8_found 5 (some .long)) (hl0 : l.stackTraces = false) (htab : ∀ x ∈ c.exceptionTable.toList, False) (Hr24 : ∀ (v0 : Nat) (v1 : Option Nat) (v2 : Int64) (v4 : Int32) (f : AH) (n cells slots : Nat), cells + 0 ≤ 3 → slots + 0 ≤ 16 → rec24 v0 v1 v2 v4 f n = some r → AW X p l e (RM 6 3 16) s m args below meth c 5 (ZX X below args s 3 16 (QTr (QHl) r) (QTx r)) f n cells slots 24 [some (.ref v0), some (va_rf v1), some (.long v2), none, some (.int v4)] []) (hc : cells + 0 ≤ 3) (hs : slots + 0 ≤ 16) (h : mX8_found_b53 rec24 v0 v1 v2 v4 f n = some r) : AW X p l e (RM 6 3 16) s m args below meth c 5 (ZX X below args s 3 16 (QTr (QHl) r) (QTx r)) f n cells slots 53 [some (.ref v0), some (va_rf v1), some (.long v2), none, some (.int v4)] [] := by
  have h : rec24 v0 v1 v2 (v4 + (1 : Int32)) f n = some r := h
  refine aw_iinc C (v4 + (1 : Int32)) dX8_found_53 rfl (by rw [ki_1]) (by decide) rfl ?_
  refine aw_nl [some (.ref v0), some (va_rf v1), some (.long v2), none, some (.int (v4 + (1 : Int32)))] rfl ?_
  refine aw_goto C 24 dX8_found_56 (by decide) ?_
  refine aw_fl [some (.ref v0), some (va_rf v1), some (.long v2), none, some (.int (v4 + (1 : Int32)))] ⟨rfl, ⟨rfl, ⟨rfl, ⟨rfl, trivial⟩⟩⟩⟩ ?_
  exact Hr24 v0 v1 v2 (v4 + (1 : Int32)) f n _ _ (by omega) (by omega) h
def mX8_found_l24 : Nat → Nat → (Option Nat) → Int64 → Int32 → AH → Nat → Option ((Int64 ⊕ String) × HpN)
  | 0, _, _, _, _, _, _ => none
  | d + 1, v0, v1, v2, v4, f, n => ((gR f v0 8 5).bind fun x1 => ((x1).bind fun j2 => rCk (isO f j2 1) (((mX1_size j2 f n).bind fun r4 => (if r4.1 ≤ v4 then some (.inl v2, (r4.2.1, r4.2.2)) else rCk (isO r4.2.1 v0 8) (((mX8_hasWord v0 v4 v1 r4.2.1 r4.2.2).bind fun r7 => (if r7.1 = (0 : Int32) then mX8_found_b53 (fun v0 v1 v2 v4 f n => mX8_found_l24 d v0 v1 v2 v4 f n) v0 v1 v2 v4 r7.2.1 r7.2.2 else mX8_found_b53 (fun v0 v1 v2 v4 f n => mX8_found_l24 d v0 v1 v2 v4 f n) v0 v1 (v2 ||| ((1 : Int64) <<< (v4.toInt64 &&& 63))) v4 r7.2.1 r7.2.2))))))))
set_option maxHeartbeats 1000000 in
theorem rmX8_found_l24 {X : GX} {p : Program} {l : Launch} {e : Env} {s : State} {m : MethodId} {args : Array Value} {below : List Frame} {meth : Method} {c : Code} {r : (Int64 ⊕ String) × HpN} (C : CC X p l (RM 6 3 16) s m args meth c RX8 cX8_found 5 (some .long)) (hl0 : l.stackTraces = false) (htab : ∀ x ∈ c.exceptionTable.toList, False) : ∀ (d : Nat) (v0 : Nat) (v1 : Option Nat) (v2 : Int64) (v4 : Int32) (f : AH) (n cells slots : Nat) (_ : cells + 0 ≤ 3) (_ : slots + 0 ≤ 16) (_ : mX8_found_l24 d v0 v1 v2 v4 f n = some r), AW X p l e (RM 6 3 16) s m args below meth c 5 (ZX X below args s 3 16 (QTr (QHl) r) (QTx r)) f n cells slots 24 [some (.ref v0), some (va_rf v1), some (.long v2), none, some (.int v4)] [] := by
  intro d
  induction d with
  | zero =>
    intro v0 v1 v2 v4 f n cells slots hc hs h
    exact nomatch (show (none : Option ((Int64 ⊕ String) × HpN)) = some r from h)
  | succ d ih =>
    intro v0 v1 v2 v4 f n cells slots hc hs h
    have h : ((gR f v0 8 5).bind fun x1 => ((x1).bind fun j2 => rCk (isO f j2 1) (((mX1_size j2 f n).bind fun r4 => (if r4.1 ≤ v4 then some (.inl v2, (r4.2.1, r4.2.2)) else rCk (isO r4.2.1 v0 8) (((mX8_hasWord v0 v4 v1 r4.2.1 r4.2.2).bind fun r7 => (if r7.1 = (0 : Int32) then mX8_found_b53 (fun v0 v1 v2 v4 f n => mX8_found_l24 d v0 v1 v2 v4 f n) v0 v1 v2 v4 r7.2.1 r7.2.2 else mX8_found_b53 (fun v0 v1 v2 v4 f n => mX8_found_l24 d v0 v1 v2 v4 f n) v0 v1 (v2 ||| ((1 : Int64) <<< (v4.toInt64 &&& 63))) v4 r7.2.1 r7.2.2)))))))) = some r := h
    refine aw_iload C dX8_found_24 rfl ?_
    refine aw_ald_n C dX8_found_26 rfl ?_
    obtain ⟨x1, hx1, h⟩ := Option.bind_eq_some_iff.mp h
    refine ah_getR C gf_X8_38 hx1 dX8_found_27 ?_
    obtain ⟨j2, hj2, h⟩ := Option.bind_eq_some_iff.mp h
    rw [hj2]
    obtain ⟨hb3, h⟩ := ck_some h
    obtain ⟨r4, hr4, h⟩ := Option.bind_eq_some_iff.mp h
    obtain ⟨fs5, hf5⟩ := isO_ex hb3
    refine aw_callV C (ci := 1) (b := j2) [] mv_X8_136 rfl rfl hf5 (rmX1_size hr4) rfl dX8_found_30 (Nat.le_of_ble_eq_true rfl) (Nat.le_of_ble_eq_true rfl) rfl (Nat.le_of_ble_eq_true rfl) (show cells + 0 ≤ 3 by omega) (show slots + 0 ≤ 16 by omega) (fun v9 f9 n9 hh => ?_)
    obtain ⟨rfl, rfl, rfl⟩ := hh
    refine aw_icmp_ge C 59 dX8_found_33 (by decide) (fun q => ?_) (fun q => ?_)
    · rw [if_pos q] at h
      refine aw_lload_n C dX8_found_59 rfl ?_
      cases h
      exact ax_of (aw_lret C rfl dX8_found_60 (by omega) (by omega) ⟨_, rfl, rfl, rfl, rfl⟩)
    · rw [if_neg q] at h
      refine aw_ald_n C dX8_found_36 rfl ?_
      refine aw_iload C dX8_found_37 rfl ?_
      refine aw_aload_n C dX8_found_39 rfl (rf_or v1) ?_
      obtain ⟨hb6, h⟩ := ck_some h
      obtain ⟨r7, hr7, h⟩ := Option.bind_eq_some_iff.mp h
      obtain ⟨fs8, hf8⟩ := isO_ex hb6
      refine aw_callV C (ci := 8) (b := v0) [.int v4, va_rf v1] mv_X8_254 rfl rfl hf8 (rmX8_hasWord hr7) rfl dX8_found_40 (Nat.le_of_ble_eq_true rfl) (Nat.le_of_ble_eq_true rfl) rfl (Nat.le_of_ble_eq_true rfl) (show (cells + 0) + 0 ≤ 3 by omega) (show (slots + 0) + 0 ≤ 16 by omega) (fun v9 f9 n9 hh => ?_)
      obtain ⟨rfl, rfl, rfl⟩ := hh
      refine aw_if_eq C 53 dX8_found_43 (by decide) (fun q => ?_) (fun q => ?_)
      · rw [if_pos q] at h
        refine aw_fl [some (.ref v0), some (va_rf v1), some (.long v2), none, some (.int v4)] ⟨rfl, ⟨rfl, ⟨rfl, ⟨rfl, trivial⟩⟩⟩⟩ ?_
        exact rmX8_found_b53 C hl0 htab (fun v0 v1 v2 v4 f n cells slots hc hs h => ih v0 v1 v2 v4 f n cells slots hc hs h) (by omega) (by omega) h
      · rw [if_neg q] at h
        refine aw_lload_n C dX8_found_46 rfl ?_
        refine aw_lconst C 1 dX8_found_47 rfl ?_
        refine aw_iload C dX8_found_48 rfl ?_
        refine aw_lshl C dX8_found_50 ?_
        refine aw_lor C dX8_found_51 ?_
        refine aw_lstore_n C dX8_found_52 (by decide) (ok_rf 1 rfl) ?_
        refine aw_nl [some (.ref v0), some (va_rf v1), some (.long (v2 ||| ((1 : Int64) <<< (v4.toInt64 &&& 63)))), none, some (.int v4)] rfl ?_
        refine aw_fl [some (.ref v0), some (va_rf v1), some (.long (v2 ||| ((1 : Int64) <<< (v4.toInt64 &&& 63)))), none, some (.int v4)] ⟨rfl, ⟨rfl, ⟨rfl, ⟨rfl, trivial⟩⟩⟩⟩ ?_
        exact rmX8_found_b53 C hl0 htab (fun v0 v1 v2 v4 f n cells slots hc hs h => ih v0 v1 v2 v4 f n cells slots hc hs h) (by omega) (by omega) h
def mX8_found (v0 : Nat) (f : AH) (n : Nat) : Option ((Int64 ⊕ String) × HpN) := rCk (isO f v0 8) (((mX8_takeWord v0 f n).bind fun r2 => ((some r2.1).bind fun x4 => (oN x4 (some (.inr eA, (r2.2.1, r2.2.2))) (fun j5 => mX8_found_l24 rFU v0 (some j5) (0 : Int64) (0 : Int32) r2.2.1 r2.2.2)))))
set_option maxHeartbeats 1000000 in
theorem rmX8_found {X : GX} {l : Launch} {r : (Int64 ⊕ String) × HpN} {v0 : Nat} {f : AH} {n : Nat} (hl0 : l.stackTraces = false) (h : mX8_found v0 f n = some r) : AX X l yX8_found cX8_found 5 (some .long) 6 3 16 [.ref v0] f n (QTr (QHl) r) (QTx r) := by
  have h : rCk (isO f v0 8) (((mX8_takeWord v0 f n).bind fun r2 => ((some r2.1).bind fun x4 => (oN x4 (some (.inr eA, (r2.2.1, r2.2.2))) (fun j5 => mX8_found_l24 rFU v0 (some j5) (0 : Int64) (0 : Int32) r2.2.1 r2.2.2))))) = some r := h
  refine AX.of (by decide +kernel) rfl (Nat.le_of_ble_eq_true rfl) (fun p e s m args below meth c C htab => ?_)
  refine aw_nl [some (.ref v0), none, none, none, none] rfl ?_
  refine aw_ald_n C dX8_found_0 rfl ?_
  obtain ⟨hb1, h⟩ := ck_some h
  obtain ⟨r2, hr2, h⟩ := Option.bind_eq_some_iff.mp h
  obtain ⟨fs3, hf3⟩ := isO_ex hb1
  refine aw_callV C (ci := 8) (b := v0) [] mv_X8_149 rfl rfl hf3 (rmX8_takeWord hr2) rfl dX8_found_1 (Nat.le_of_ble_eq_true rfl) (Nat.le_of_ble_eq_true rfl) rfl (Nat.le_of_ble_eq_true rfl) (show 0 + 2 ≤ 3 by omega) (show 0 + 10 ≤ 16 by omega) (fun v9 f9 n9 hh => ?_)
  obtain ⟨rfl, rfl, rfl⟩ := hh
  obtain ⟨x4, hx4, h⟩ := Option.bind_eq_some_iff.mp h
  rw [Option.some.inj hx4]
  refine aw_astore_n C dX8_found_4 (by decide) rfl (rf_or x4) ?_
  refine aw_nl [some (.ref v0), some (va_rf x4), none, none, none] rfl ?_
  refine aw_aload_n C dX8_found_5 rfl (rf_or x4) ?_
  cases x4 with
  | none =>
    replace h : some (.inr eA, (r2.2.1, r2.2.2)) = some r := h
    refine aw_ifnonnull_n C 19 dX8_found_6 (by decide) ?_
    cases h
    exact ax_throw C htab hl0 th_eA sx_153 dX8_found_9 dX8_found_12 dX8_found_13 dX8_found_15 dX8_found_18 (Nat.le_of_ble_eq_true rfl) (Nat.le_of_ble_eq_true rfl) (show (0 + 2) + 1 ≤ 3 by omega) (show (0 + 10) + 6 ≤ 16 by omega) (by omega) (by omega) (fun n9 h9 => ⟨rfl, rfl, h9⟩)
  | some j5 =>
    replace h : mX8_found_l24 rFU v0 (some j5) (0 : Int64) (0 : Int32) r2.2.1 r2.2.2 = some r := h
    refine aw_ifnonnull_r C 19 dX8_found_6 (by decide) ?_
    refine aw_lconst C 0 dX8_found_19 rfl ?_
    refine aw_lstore_n C dX8_found_20 (by decide) rfl ?_
    refine aw_nl [some (.ref v0), some (.ref j5), some (.long (0 : Int64)), none, none] rfl ?_
    refine aw_iconst C 0 dX8_found_21 ki_0 ?_
    refine aw_istore C dX8_found_22 (by decide) rfl ?_
    refine aw_nl [some (.ref v0), some (.ref j5), some (.long (0 : Int64)), none, some (.int (0 : Int32))] rfl ?_
    refine aw_fl [some (.ref v0), some (va_rf (some j5)), some (.long (0 : Int64)), none, some (.int (0 : Int32))] ⟨rfl, ⟨rfl, ⟨rfl, ⟨rfl, trivial⟩⟩⟩⟩ ?_
    exact rmX8_found_l24 C hl0 htab rFU v0 (some j5) (0 : Int64) (0 : Int32) r2.2.1 r2.2.2 _ _ (by omega) (by omega) h
def mX3_mayBeginInBuilt_b33 (s0 : Int32) (f : AH) (n : Nat) : Option (Int32 × HpN) := rCk (rNb s0) (some (s0, (f, n)))
set_option maxHeartbeats 1000000 in
theorem rmX3_mayBeginInBuilt_b33 {X : GX} {p : Program} {l : Launch} {e : Env} {s : State} {m : MethodId} {args : Array Value} {below : List Frame} {meth : Method} {c : Code} {r : Int32 × HpN} {s0 : Int32} {f : AH} {n cells slots : Nat} (C : CC X p l (RM 0 0 0) s m args meth c RX3 cX3_mayBeginInBuilt 2 (some .boolean)) (hc : cells + 0 ≤ 0) (hs : slots + 0 ≤ 0) (h : mX3_mayBeginInBuilt_b33 s0 f n = some r) : AW X p l e (RM 0 0 0) s m args below meth c 2 (ZM X below args s 0 0 (QHi r)) f n cells slots 33 [none, none] [.int s0] := by
  have h : rCk (rNb s0) (some (s0, (f, n))) = some r := h
  obtain ⟨hb1, h⟩ := ck_some h
  cases h
  exact aw_iret C rfl (nb_nar hb1) dX3_mayBeginInBuilt_33 (by omega) (by omega) ⟨rfl, rfl, rfl⟩
def mX3_mayBeginInBuilt_b32 (f : AH) (n : Nat) : Option (Int32 × HpN) := mX3_mayBeginInBuilt_b33 (0 : Int32) f n
set_option maxHeartbeats 1000000 in
theorem rmX3_mayBeginInBuilt_b32 {X : GX} {p : Program} {l : Launch} {e : Env} {s : State} {m : MethodId} {args : Array Value} {below : List Frame} {meth : Method} {c : Code} {r : Int32 × HpN} {f : AH} {n cells slots : Nat} (C : CC X p l (RM 0 0 0) s m args meth c RX3 cX3_mayBeginInBuilt 2 (some .boolean)) (hc : cells + 0 ≤ 0) (hs : slots + 0 ≤ 0) (h : mX3_mayBeginInBuilt_b32 f n = some r) : AW X p l e (RM 0 0 0) s m args below meth c 2 (ZM X below args s 0 0 (QHi r)) f n cells slots 32 [none, none] [] := by
  have h : mX3_mayBeginInBuilt_b33 (0 : Int32) f n = some r := h
  refine aw_iconst C 0 dX3_mayBeginInBuilt_32 ki_0 ?_
  refine aw_fl [none, none] trivial ?_
  exact rmX3_mayBeginInBuilt_b33 C (by omega) (by omega) h
def mX3_mayBeginInBuilt_b28 (f : AH) (n : Nat) : Option (Int32 × HpN) := mX3_mayBeginInBuilt_b33 (1 : Int32) f n
set_option maxHeartbeats 1000000 in
theorem rmX3_mayBeginInBuilt_b28 {X : GX} {p : Program} {l : Launch} {e : Env} {s : State} {m : MethodId} {args : Array Value} {below : List Frame} {meth : Method} {c : Code} {r : Int32 × HpN} {f : AH} {n cells slots : Nat} (C : CC X p l (RM 0 0 0) s m args meth c RX3 cX3_mayBeginInBuilt 2 (some .boolean)) (hc : cells + 0 ≤ 0) (hs : slots + 0 ≤ 0) (h : mX3_mayBeginInBuilt_b28 f n = some r) : AW X p l e (RM 0 0 0) s m args below meth c 2 (ZM X below args s 0 0 (QHi r)) f n cells slots 28 [none, none] [] := by
  have h : mX3_mayBeginInBuilt_b33 (1 : Int32) f n = some r := h
  refine aw_iconst C 1 dX3_mayBeginInBuilt_28 ki_1 ?_
  refine aw_goto C 33 dX3_mayBeginInBuilt_29 (by decide) ?_
  refine aw_fl [none, none] trivial ?_
  exact rmX3_mayBeginInBuilt_b33 C (by omega) (by omega) h
def mX3_mayBeginInBuilt (v0 : Nat) (v1 : Int32) (f : AH) (n : Nat) : Option (Int32 × HpN) := ((gI f v0 3 9).bind fun x1 => (if v1 = x1 then mX3_mayBeginInBuilt_b28 f n else ((gI f v0 3 11).bind fun x2 => (if x2 ≤ (0 : Int32) then mX3_mayBeginInBuilt_b32 f n else ((gI f v0 3 9).bind fun x3 => ((gI f v0 3 11).bind fun x4 => (if v1 = (x3 + x4) then mX3_mayBeginInBuilt_b28 f n else mX3_mayBeginInBuilt_b32 f n)))))))
set_option maxHeartbeats 1000000 in
theorem rmX3_mayBeginInBuilt {X : GX} {l : Launch} {r : Int32 × HpN} {v0 : Nat} {v1 : Int32} {f : AH} {n : Nat} (h : mX3_mayBeginInBuilt v0 v1 f n = some r) : AM X l yX3_mayBeginInBuilt cX3_mayBeginInBuilt 2 (some .boolean) 0 0 0 [.ref v0, .int v1] f n (QHi r) := by
  have h : ((gI f v0 3 9).bind fun x1 => (if v1 = x1 then mX3_mayBeginInBuilt_b28 f n else ((gI f v0 3 11).bind fun x2 => (if x2 ≤ (0 : Int32) then mX3_mayBeginInBuilt_b32 f n else ((gI f v0 3 9).bind fun x3 => ((gI f v0 3 11).bind fun x4 => (if v1 = (x3 + x4) then mX3_mayBeginInBuilt_b28 f n else mX3_mayBeginInBuilt_b32 f n))))))) = some r := h
  refine AM.of (by decide +kernel) rfl (Nat.le_of_ble_eq_true rfl) (fun p e s m args below meth c C hnm => ?_)
  refine aw_nl [some (.ref v0), some (.int v1)] rfl ?_
  refine aw_iload_n C dX3_mayBeginInBuilt_0 rfl ?_
  refine aw_ald_n C dX3_mayBeginInBuilt_1 rfl ?_
  obtain ⟨x1, hx1, h⟩ := Option.bind_eq_some_iff.mp h
  refine ah_getI C gf_X3_7 hx1 dX3_mayBeginInBuilt_2 ?_
  refine aw_icmp_eq C 28 dX3_mayBeginInBuilt_5 (by decide) (fun q => ?_) (fun q => ?_)
  · rw [if_pos q] at h
    refine aw_fl [none, none] trivial ?_
    exact rmX3_mayBeginInBuilt_b28 C (by omega) (by omega) h
  · rw [if_neg q] at h
    refine aw_ald_n C dX3_mayBeginInBuilt_8 rfl ?_
    obtain ⟨x2, hx2, h⟩ := Option.bind_eq_some_iff.mp h
    refine ah_getI C gf_X3_13 hx2 dX3_mayBeginInBuilt_9 ?_
    refine aw_if_le C 32 dX3_mayBeginInBuilt_12 (by decide) (fun q => ?_) (fun q => ?_)
    · rw [if_pos q] at h
      refine aw_fl [none, none] trivial ?_
      exact rmX3_mayBeginInBuilt_b32 C (by omega) (by omega) h
    · rw [if_neg q] at h
      refine aw_iload_n C dX3_mayBeginInBuilt_15 rfl ?_
      refine aw_ald_n C dX3_mayBeginInBuilt_16 rfl ?_
      obtain ⟨x3, hx3, h⟩ := Option.bind_eq_some_iff.mp h
      refine ah_getI C gf_X3_7 hx3 dX3_mayBeginInBuilt_17 ?_
      refine aw_ald_n C dX3_mayBeginInBuilt_20 rfl ?_
      obtain ⟨x4, hx4, h⟩ := Option.bind_eq_some_iff.mp h
      refine ah_getI C gf_X3_13 hx4 dX3_mayBeginInBuilt_21 ?_
      refine aw_iadd C dX3_mayBeginInBuilt_24 ?_
      refine aw_icmp_ne C 32 dX3_mayBeginInBuilt_25 (by decide) (fun q => ?_) (fun q => ?_)
      · rw [if_neg q] at h
        refine aw_fl [none, none] trivial ?_
        exact rmX3_mayBeginInBuilt_b32 C (by omega) (by omega) h
      · rw [if_pos q] at h
        refine aw_fl [none, none] trivial ?_
        exact rmX3_mayBeginInBuilt_b28 C (by omega) (by omega) h
