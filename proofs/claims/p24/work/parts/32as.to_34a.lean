/-! part 32as.cls -/
section
def mX8_like_b47 (rec11 : Nat → Int32 → Int32 → Int32 → Int32 → AH → Nat → Option ((Int32 ⊕ String) × HpN)) (v0 : Nat) (v1 : Int32) (v2 : Int32) (v3 : Int32) (v4 : Int32) (f : AH) (n : Nat) : Option ((Int32 ⊕ String) × HpN) := rec11 v0 v1 v2 v3 (v4 + (1 : Int32)) f n
set_option maxHeartbeats 1000000 in
theorem rmX8_like_b47 {X : GX} {p : Program} {l : Launch} {e : Env} {s : State} {m : MethodId} {args : Array Value} {below : List Frame} {meth : Method} {c : Code} {r : (Int32 ⊕ String) × HpN} {rec11 : Nat → Int32 → Int32 → Int32 → Int32 → AH → Nat → Option ((Int32 ⊕ String) × HpN)} {v0 : Nat} {v1 : Int32} {v2 : Int32} {v3 : Int32} {v4 : Int32} {f : AH} {n cells slots : Nat} (C : CC X p l (RM 7 1 6) s m args meth c RX8 cX8_like 5 (some .int)) (hl0 : l.stackTraces = false) (htab : ∀ x ∈ c.exceptionTable.toList, False) (Hr11 : ∀ (v0 : Nat) (v1 : Int32) (v2 : Int32) (v3 : Int32) (v4 : Int32) (f : AH) (n cells slots : Nat), cells + 0 ≤ 1 → slots + 0 ≤ 6 → rec11 v0 v1 v2 v3 v4 f n = some r → AW X p l e (RM 7 1 6) s m args below meth c 5 (ZX X below args s 1 6 (QTr (QHi) r) (QTx r)) f n cells slots 11 [some (.ref v0), some (.int v1), some (.int v2), some (.int v3), some (.int v4)] []) (hc : cells + 0 ≤ 1) (hs : slots + 0 ≤ 6) (h : mX8_like_b47 rec11 v0 v1 v2 v3 v4 f n = some r) : AW X p l e (RM 7 1 6) s m args below meth c 5 (ZX X below args s 1 6 (QTr (QHi) r) (QTx r)) f n cells slots 47 [some (.ref v0), some (.int v1), some (.int v2), some (.int v3), some (.int v4)] [] := by
  have h : rec11 v0 v1 v2 v3 (v4 + (1 : Int32)) f n = some r := h
  refine aw_iinc C (v4 + (1 : Int32)) dX8_like_47 rfl (by rw [ki_1]) (by decide) rfl ?_
  refine aw_nl [some (.ref v0), some (.int v1), some (.int v2), some (.int v3), some (.int (v4 + (1 : Int32)))] rfl ?_
  refine aw_goto C 11 dX8_like_50 (by decide) ?_
  refine aw_fl [some (.ref v0), some (.int v1), some (.int v2), some (.int v3), some (.int (v4 + (1 : Int32)))] ⟨rfl, ⟨rfl, ⟨rfl, ⟨rfl, ⟨rfl, trivial⟩⟩⟩⟩⟩ ?_
  exact Hr11 v0 v1 v2 v3 (v4 + (1 : Int32)) f n _ _ (by omega) (by omega) h
def mX8_like_l11 : Nat → Nat → Int32 → Int32 → Int32 → Int32 → AH → Nat → Option ((Int32 ⊕ String) × HpN)
  | 0, _, _, _, _, _, _, _ => none
  | d + 1, v0, v1, v2, v3, v4, f, n => ((gR f v0 8 5).bind fun x1 => ((x1).bind fun j2 => rCk (isO f j2 1) (((mX1_size j2 f n).bind fun r4 => (if r4.1 ≤ v4 then some (.inl (-1 : Int32), (r4.2.1, r4.2.2)) else ((gR r4.2.1 v0 8 5).bind fun x6 => ((x6).bind fun j7 => rCk (isO r4.2.1 j7 1) (((mX1_areLike j7 v1 v4 r4.2.1 r4.2.2).bind fun r9 => (if r9.1 = (0 : Int32) then mX8_like_b47 (fun v0 v1 v2 v3 v4 f n => mX8_like_l11 d v0 v1 v2 v3 v4 f n) v0 v1 v2 v3 v4 r9.2.1 r9.2.2 else (if v3 = v2 then some (.inl v4, (r9.2.1, r9.2.2)) else mX8_like_b47 (fun v0 v1 v2 v3 v4 f n => mX8_like_l11 d v0 v1 v2 v3 v4 f n) v0 v1 v2 (v3 + (1 : Int32)) v4 r9.2.1 r9.2.2)))))))))))
set_option maxHeartbeats 1000000 in
theorem rmX8_like_l11 {X : GX} {p : Program} {l : Launch} {e : Env} {s : State} {m : MethodId} {args : Array Value} {below : List Frame} {meth : Method} {c : Code} {r : (Int32 ⊕ String) × HpN} (C : CC X p l (RM 7 1 6) s m args meth c RX8 cX8_like 5 (some .int)) (hl0 : l.stackTraces = false) (htab : ∀ x ∈ c.exceptionTable.toList, False) : ∀ (d : Nat) (v0 : Nat) (v1 : Int32) (v2 : Int32) (v3 : Int32) (v4 : Int32) (f : AH) (n cells slots : Nat) (_ : cells + 0 ≤ 1) (_ : slots + 0 ≤ 6) (_ : mX8_like_l11 d v0 v1 v2 v3 v4 f n = some r), AW X p l e (RM 7 1 6) s m args below meth c 5 (ZX X below args s 1 6 (QTr (QHi) r) (QTx r)) f n cells slots 11 [some (.ref v0), some (.int v1), some (.int v2), some (.int v3), some (.int v4)] [] := by
  intro d
  induction d with
  | zero =>
    intro v0 v1 v2 v3 v4 f n cells slots hc hs h
    exact nomatch (show (none : Option ((Int32 ⊕ String) × HpN)) = some r from h)
  | succ d ih =>
    intro v0 v1 v2 v3 v4 f n cells slots hc hs h
    have h : ((gR f v0 8 5).bind fun x1 => ((x1).bind fun j2 => rCk (isO f j2 1) (((mX1_size j2 f n).bind fun r4 => (if r4.1 ≤ v4 then some (.inl (-1 : Int32), (r4.2.1, r4.2.2)) else ((gR r4.2.1 v0 8 5).bind fun x6 => ((x6).bind fun j7 => rCk (isO r4.2.1 j7 1) (((mX1_areLike j7 v1 v4 r4.2.1 r4.2.2).bind fun r9 => (if r9.1 = (0 : Int32) then mX8_like_b47 (fun v0 v1 v2 v3 v4 f n => mX8_like_l11 d v0 v1 v2 v3 v4 f n) v0 v1 v2 v3 v4 r9.2.1 r9.2.2 else (if v3 = v2 then some (.inl v4, (r9.2.1, r9.2.2)) else mX8_like_b47 (fun v0 v1 v2 v3 v4 f n => mX8_like_l11 d v0 v1 v2 v3 v4 f n) v0 v1 v2 (v3 + (1 : Int32)) v4 r9.2.1 r9.2.2))))))))))) = some r := h
    refine aw_iload C dX8_like_11 rfl ?_
    refine aw_ald_n C dX8_like_13 rfl ?_
    obtain ⟨x1, hx1, h⟩ := Option.bind_eq_some_iff.mp h
    refine ah_getR C gf_X8_38 hx1 dX8_like_14 ?_
    obtain ⟨j2, hj2, h⟩ := Option.bind_eq_some_iff.mp h
    rw [hj2]
    obtain ⟨hb3, h⟩ := ck_some h
    obtain ⟨r4, hr4, h⟩ := Option.bind_eq_some_iff.mp h
    obtain ⟨fs5, hf5⟩ := isO_ex hb3
    refine aw_callV C (ci := 1) (b := j2) [] mv_X8_136 rfl rfl hf5 (rmX1_size hr4) rfl dX8_like_17 (Nat.le_of_ble_eq_true rfl) (Nat.le_of_ble_eq_true rfl) rfl (Nat.le_of_ble_eq_true rfl) (show cells + 0 ≤ 1 by omega) (show slots + 0 ≤ 6 by omega) (fun v9 f9 n9 hh => ?_)
    obtain ⟨rfl, rfl, rfl⟩ := hh
    refine aw_icmp_ge C 53 dX8_like_20 (by decide) (fun q => ?_) (fun q => ?_)
    · rw [if_pos q] at h
      refine aw_iconst C (-1) dX8_like_53 ki_m1 ?_
      cases h
      exact ax_of (aw_iret C rfl rfl dX8_like_54 (by omega) (by omega) ⟨_, rfl, rfl, rfl, rfl⟩)
    · rw [if_neg q] at h
      refine aw_ald_n C dX8_like_23 rfl ?_
      obtain ⟨x6, hx6, h⟩ := Option.bind_eq_some_iff.mp h
      refine ah_getR C gf_X8_38 hx6 dX8_like_24 ?_
      refine aw_iload_n C dX8_like_27 rfl ?_
      refine aw_iload C dX8_like_28 rfl ?_
      obtain ⟨j7, hj7, h⟩ := Option.bind_eq_some_iff.mp h
      rw [hj7]
      obtain ⟨hb8, h⟩ := ck_some h
      obtain ⟨r9, hr9, h⟩ := Option.bind_eq_some_iff.mp h
      obtain ⟨fs10, hf10⟩ := isO_ex hb8
      refine aw_callV C (ci := 1) (b := j7) [.int v1, .int v4] mv_X8_243 rfl rfl hf10 (rmX1_areLike hr9) rfl dX8_like_30 (Nat.le_of_ble_eq_true rfl) (Nat.le_of_ble_eq_true rfl) rfl (Nat.le_of_ble_eq_true rfl) (show (cells + 0) + 0 ≤ 1 by omega) (show (slots + 0) + 0 ≤ 6 by omega) (fun v9 f9 n9 hh => ?_)
      obtain ⟨rfl, rfl, rfl⟩ := hh
      refine aw_if_eq C 47 dX8_like_33 (by decide) (fun q => ?_) (fun q => ?_)
      · rw [if_pos q] at h
        refine aw_fl [some (.ref v0), some (.int v1), some (.int v2), some (.int v3), some (.int v4)] ⟨rfl, ⟨rfl, ⟨rfl, ⟨rfl, ⟨rfl, trivial⟩⟩⟩⟩⟩ ?_
        exact rmX8_like_b47 C hl0 htab (fun v0 v1 v2 v3 v4 f n cells slots hc hs h => ih v0 v1 v2 v3 v4 f n cells slots hc hs h) (by omega) (by omega) h
      · rw [if_neg q] at h
        refine aw_iload_n C dX8_like_36 rfl ?_
        refine aw_iload_n C dX8_like_37 rfl ?_
        refine aw_icmp_ne C 44 dX8_like_38 (by decide) (fun q => ?_) (fun q => ?_)
        · rw [if_neg q] at h
          refine aw_iinc C (v3 + (1 : Int32)) dX8_like_44 rfl (by rw [ki_1]) (by decide) rfl ?_
          refine aw_nl [some (.ref v0), some (.int v1), some (.int v2), some (.int (v3 + (1 : Int32))), some (.int v4)] rfl ?_
          refine aw_fl [some (.ref v0), some (.int v1), some (.int v2), some (.int (v3 + (1 : Int32))), some (.int v4)] ⟨rfl, ⟨rfl, ⟨rfl, ⟨rfl, ⟨rfl, trivial⟩⟩⟩⟩⟩ ?_
          exact rmX8_like_b47 C hl0 htab (fun v0 v1 v2 v3 v4 f n cells slots hc hs h => ih v0 v1 v2 v3 v4 f n cells slots hc hs h) (by omega) (by omega) h
        · rw [if_pos q] at h
          refine aw_iload C dX8_like_41 rfl ?_
          cases h
          exact ax_of (aw_iret C rfl rfl dX8_like_43 (by omega) (by omega) ⟨_, rfl, rfl, rfl, rfl⟩)
def mX8_like (v0 : Nat) (v1 : Int32) (v2 : Int32) (f : AH) (n : Nat) : Option ((Int32 ⊕ String) × HpN) := rCk (isO f v0 8) (((mX8_pieceOrThrow v0 v1 f n).bind fun r2 => (tS r2.1 r2.2 (fun y2 => ((some y2).bind fun x4 => mX8_like_l11 rFU v0 v1 v2 (0 : Int32) (0 : Int32) r2.2.1 r2.2.2)))))
set_option maxHeartbeats 1000000 in
theorem rmX8_like {X : GX} {l : Launch} {r : (Int32 ⊕ String) × HpN} {v0 : Nat} {v1 : Int32} {v2 : Int32} {f : AH} {n : Nat} (hl0 : l.stackTraces = false) (h : mX8_like v0 v1 v2 f n = some r) : AX X l yX8_like cX8_like 5 (some .int) 7 1 6 [.ref v0, .int v1, .int v2] f n (QTr (QHi) r) (QTx r) := by
  have h : rCk (isO f v0 8) (((mX8_pieceOrThrow v0 v1 f n).bind fun r2 => (tS r2.1 r2.2 (fun y2 => ((some y2).bind fun x4 => mX8_like_l11 rFU v0 v1 v2 (0 : Int32) (0 : Int32) r2.2.1 r2.2.2))))) = some r := h
  refine AX.of (by decide +kernel) rfl (Nat.le_of_ble_eq_true rfl) (fun p e s m args below meth c C htab => ?_)
  refine aw_nl [some (.ref v0), some (.int v1), some (.int v2), none, none] rfl ?_
  refine aw_ald_n C dX8_like_0 rfl ?_
  refine aw_iload_n C dX8_like_1 rfl ?_
  obtain ⟨hb1, h⟩ := ck_some h
  obtain ⟨r2, hr2, h⟩ := Option.bind_eq_some_iff.mp h
  obtain ⟨fs3, hf3⟩ := isO_ex hb1
  refine ax_callV C (ci := 8) (b := v0) [.int v1] mv_X8_175 rfl rfl hf3 (rmX8_pieceOrThrow hl0 hr2) rfl dX8_like_2 (Nat.le_of_ble_eq_true rfl) (Nat.le_of_ble_eq_true rfl) rfl (Nat.le_of_ble_eq_true rfl) (show 0 + 1 ≤ 1 by omega) (show 0 + 6 ≤ 6 by omega) (fun E9 f9 n9 hq => ?_) (fun v9 f9 n9 hq => ?_)
  · obtain ⟨e1, e2, e3⟩ := hq
    rw [tS_r e1] at h
    cases h
    exact at_out C htab ⟨rfl, e2, e3⟩ (by omega) (by omega)
  obtain ⟨y2, e2, rfl, rfl, rfl⟩ := hq
  rw [tS_l e2] at h
  replace h : ((some y2).bind fun x4 => mX8_like_l11 rFU v0 v1 v2 (0 : Int32) (0 : Int32) r2.2.1 r2.2.2) = some r := h
  obtain ⟨x4, hx4, h⟩ := Option.bind_eq_some_iff.mp h
  rw [Option.some.inj hx4]
  refine aw_pop C dX8_like_5 (rf_cat _) ?_
  refine aw_iconst C 0 dX8_like_6 ki_0 ?_
  refine aw_istore_n C dX8_like_7 (by decide) rfl ?_
  refine aw_nl [some (.ref v0), some (.int v1), some (.int v2), some (.int (0 : Int32)), none] rfl ?_
  refine aw_iconst C 0 dX8_like_8 ki_0 ?_
  refine aw_istore C dX8_like_9 (by decide) rfl ?_
  refine aw_nl [some (.ref v0), some (.int v1), some (.int v2), some (.int (0 : Int32)), some (.int (0 : Int32))] rfl ?_
  refine aw_fl [some (.ref v0), some (.int v1), some (.int v2), some (.int (0 : Int32)), some (.int (0 : Int32))] ⟨rfl, ⟨rfl, ⟨rfl, ⟨rfl, ⟨rfl, trivial⟩⟩⟩⟩⟩ ?_
  exact rmX8_like_l11 C hl0 htab rFU v0 v1 v2 (0 : Int32) (0 : Int32) r2.2.1 r2.2.2 _ _ (by omega) (by omega) h
def mX8_would_b55 (s0 : Int32) (f : AH) (n : Nat) : Option ((Int32 ⊕ String) × HpN) := some (.inl s0, (f, n))
set_option maxHeartbeats 1000000 in
theorem rmX8_would_b55 {X : GX} {p : Program} {l : Launch} {e : Env} {s : State} {m : MethodId} {args : Array Value} {below : List Frame} {meth : Method} {c : Code} {r : (Int32 ⊕ String) × HpN} {s0 : Int32} {f : AH} {n cells slots : Nat} (C : CC X p l (RM 7 4 74) s m args meth c RX8 cX8_would 4 (some .int)) (hl0 : l.stackTraces = false) (htab : ∀ x ∈ c.exceptionTable.toList, False) (hc : cells + 0 ≤ 4) (hs : slots + 0 ≤ 74) (h : mX8_would_b55 s0 f n = some r) : AW X p l e (RM 7 4 74) s m args below meth c 4 (ZX X below args s 4 74 (QTr (QHi) r) (QTx r)) f n cells slots 55 [none, none, none, none] [.int s0] := by
  have h : some (.inl s0, (f, n)) = some r := h
  cases h
  exact ax_of (aw_iret C rfl rfl dX8_would_55 (by omega) (by omega) ⟨_, rfl, rfl, rfl, rfl⟩)
def mX8_would (v0 : Nat) (v1 : Int32) (f : AH) (n : Nat) : Option ((Int32 ⊕ String) × HpN) := rCk (isO f v0 8) (((mX8_takeTold v0 f n).bind fun r2 => ((some r2.1).bind fun x4 => rCk (isO r2.2.1 v0 8) (((mX8_pieceOrThrow v0 v1 r2.2.1 r2.2.2).bind fun r6 => (tS r6.1 r6.2 (fun y6 => ((some y6).bind fun x8 => (oN x4 (some (.inr eA, (r6.2.1, r6.2.2))) (fun j9 => ((gR r6.2.1 v0 8 7).bind fun x10 => ((gR r6.2.1 v0 8 1).bind fun x11 => ((x10).bind fun j12 => rCk (isO r6.2.1 j12 0) (((mX0_escape j12 (some j9) x8 x11 r6.2.1 r6.2.2).bind fun r14 => (if r14.1 = (0 : Int32) then mX8_would_b55 (-1 : Int32) r14.2.1 r14.2.2 else ((gR r14.2.1 v0 8 7).bind fun x16 => ((x16).bind fun j17 => ((gR r14.2.1 j17 0 1).bind fun x18 => ((x18).bind fun j19 => rCk (isO r14.2.1 j19 5) (((mX5_size j19 r14.2.1 r14.2.2).bind fun r21 => mX8_would_b55 r21.1 r21.2.1 r21.2.2))))))))))))))))))))))
set_option maxHeartbeats 1000000 in
theorem rmX8_would {X : GX} {l : Launch} {r : (Int32 ⊕ String) × HpN} {v0 : Nat} {v1 : Int32} {f : AH} {n : Nat} (hl0 : l.stackTraces = false) (h : mX8_would v0 v1 f n = some r) : AX X l yX8_would cX8_would 4 (some .int) 7 4 74 [.ref v0, .int v1] f n (QTr (QHi) r) (QTx r) := by
  have h : rCk (isO f v0 8) (((mX8_takeTold v0 f n).bind fun r2 => ((some r2.1).bind fun x4 => rCk (isO r2.2.1 v0 8) (((mX8_pieceOrThrow v0 v1 r2.2.1 r2.2.2).bind fun r6 => (tS r6.1 r6.2 (fun y6 => ((some y6).bind fun x8 => (oN x4 (some (.inr eA, (r6.2.1, r6.2.2))) (fun j9 => ((gR r6.2.1 v0 8 7).bind fun x10 => ((gR r6.2.1 v0 8 1).bind fun x11 => ((x10).bind fun j12 => rCk (isO r6.2.1 j12 0) (((mX0_escape j12 (some j9) x8 x11 r6.2.1 r6.2.2).bind fun r14 => (if r14.1 = (0 : Int32) then mX8_would_b55 (-1 : Int32) r14.2.1 r14.2.2 else ((gR r14.2.1 v0 8 7).bind fun x16 => ((x16).bind fun j17 => ((gR r14.2.1 j17 0 1).bind fun x18 => ((x18).bind fun j19 => rCk (isO r14.2.1 j19 5) (((mX5_size j19 r14.2.1 r14.2.2).bind fun r21 => mX8_would_b55 r21.1 r21.2.1 r21.2.2)))))))))))))))))))))) = some r := h
  refine AX.of (by decide +kernel) rfl (Nat.le_of_ble_eq_true rfl) (fun p e s m args below meth c C htab => ?_)
  refine aw_nl [some (.ref v0), some (.int v1), none, none] rfl ?_
  refine aw_ald_n C dX8_would_0 rfl ?_
  obtain ⟨hb1, h⟩ := ck_some h
  obtain ⟨r2, hr2, h⟩ := Option.bind_eq_some_iff.mp h
  obtain ⟨fs3, hf3⟩ := isO_ex hb1
  refine aw_callV C (ci := 8) (b := v0) [] mv_X8_155 rfl rfl hf3 (rmX8_takeTold hr2) rfl dX8_would_1 (Nat.le_of_ble_eq_true rfl) (Nat.le_of_ble_eq_true rfl) rfl (Nat.le_of_ble_eq_true rfl) (show 0 + 2 ≤ 4 by omega) (show 0 + 62 ≤ 74 by omega) (fun v9 f9 n9 hh => ?_)
  obtain ⟨rfl, rfl, rfl⟩ := hh
  obtain ⟨x4, hx4, h⟩ := Option.bind_eq_some_iff.mp h
  rw [Option.some.inj hx4]
  refine aw_astore_n C dX8_would_4 (by decide) rfl (rf_or x4) ?_
  refine aw_nl [some (.ref v0), some (.int v1), some (va_rf x4), none] rfl ?_
  refine aw_ald_n C dX8_would_5 rfl ?_
  refine aw_iload_n C dX8_would_6 rfl ?_
  obtain ⟨hb5, h⟩ := ck_some h
  obtain ⟨r6, hr6, h⟩ := Option.bind_eq_some_iff.mp h
  obtain ⟨fs7, hf7⟩ := isO_ex hb5
  refine ax_callV C (ci := 8) (b := v0) [.int v1] mv_X8_175 rfl rfl hf7 (rmX8_pieceOrThrow hl0 hr6) rfl dX8_would_7 (Nat.le_of_ble_eq_true rfl) (Nat.le_of_ble_eq_true rfl) rfl (Nat.le_of_ble_eq_true rfl) (show (0 + 2) + 1 ≤ 4 by omega) (show (0 + 62) + 6 ≤ 74 by omega) (fun E9 f9 n9 hq => ?_) (fun v9 f9 n9 hq => ?_)
  · obtain ⟨e1, e2, e3⟩ := hq
    rw [tS_r e1] at h
    cases h
    exact at_out C htab ⟨rfl, e2, e3⟩ (by omega) (by omega)
  obtain ⟨y6, e6, rfl, rfl, rfl⟩ := hq
  rw [tS_l e6] at h
  replace h : ((some y6).bind fun x8 => (oN x4 (some (.inr eA, (r6.2.1, r6.2.2))) (fun j9 => ((gR r6.2.1 v0 8 7).bind fun x10 => ((gR r6.2.1 v0 8 1).bind fun x11 => ((x10).bind fun j12 => rCk (isO r6.2.1 j12 0) (((mX0_escape j12 (some j9) x8 x11 r6.2.1 r6.2.2).bind fun r14 => (if r14.1 = (0 : Int32) then mX8_would_b55 (-1 : Int32) r14.2.1 r14.2.2 else ((gR r14.2.1 v0 8 7).bind fun x16 => ((x16).bind fun j17 => ((gR r14.2.1 j17 0 1).bind fun x18 => ((x18).bind fun j19 => rCk (isO r14.2.1 j19 5) (((mX5_size j19 r14.2.1 r14.2.2).bind fun r21 => mX8_would_b55 r21.1 r21.2.1 r21.2.2))))))))))))))) = some r := h
  obtain ⟨x8, hx8, h⟩ := Option.bind_eq_some_iff.mp h
  rw [Option.some.inj hx8]
  refine aw_astore_n C dX8_would_10 (by decide) (ok_rf 2 rfl) (rf_or x8) ?_
  refine aw_nl [some (.ref v0), some (.int v1), some (va_rf x4), some (va_rf x8)] rfl ?_
  refine aw_aload_n C dX8_would_11 rfl (rf_or x4) ?_
  cases x4 with
  | none =>
    replace h : some (.inr eA, (r6.2.1, r6.2.2)) = some r := h
    refine aw_ifnonnull_n C 25 dX8_would_12 (by decide) ?_
    cases h
    exact ax_throw C htab hl0 th_eA sx_158 dX8_would_15 dX8_would_18 dX8_would_19 dX8_would_21 dX8_would_24 (Nat.le_of_ble_eq_true rfl) (Nat.le_of_ble_eq_true rfl) (show ((0 + 2) + 1) + 1 ≤ 4 by omega) (show ((0 + 62) + 6) + 6 ≤ 74 by omega) (by omega) (by omega) (fun n9 h9 => ⟨rfl, rfl, h9⟩)
  | some j9 =>
    replace h : ((gR r6.2.1 v0 8 7).bind fun x10 => ((gR r6.2.1 v0 8 1).bind fun x11 => ((x10).bind fun j12 => rCk (isO r6.2.1 j12 0) (((mX0_escape j12 (some j9) x8 x11 r6.2.1 r6.2.2).bind fun r14 => (if r14.1 = (0 : Int32) then mX8_would_b55 (-1 : Int32) r14.2.1 r14.2.2 else ((gR r14.2.1 v0 8 7).bind fun x16 => ((x16).bind fun j17 => ((gR r14.2.1 j17 0 1).bind fun x18 => ((x18).bind fun j19 => rCk (isO r14.2.1 j19 5) (((mX5_size j19 r14.2.1 r14.2.2).bind fun r21 => mX8_would_b55 r21.1 r21.2.1 r21.2.2)))))))))))) = some r := h
    refine aw_ifnonnull_r C 25 dX8_would_12 (by decide) ?_
    refine aw_ald_n C dX8_would_25 rfl ?_
    obtain ⟨x10, hx10, h⟩ := Option.bind_eq_some_iff.mp h
    refine ah_getR C gf_X8_48 hx10 dX8_would_26 ?_
    refine aw_ald_n C dX8_would_29 rfl ?_
    refine aw_aload_n C dX8_would_30 rfl (rf_or x8) ?_
    refine aw_ald_n C dX8_would_31 rfl ?_
    obtain ⟨x11, hx11, h⟩ := Option.bind_eq_some_iff.mp h
    refine ah_getR C gf_X8_21 hx11 dX8_would_32 ?_
    obtain ⟨j12, hj12, h⟩ := Option.bind_eq_some_iff.mp h
    rw [hj12]
    obtain ⟨hb13, h⟩ := ck_some h
    obtain ⟨r14, hr14, h⟩ := Option.bind_eq_some_iff.mp h
    obtain ⟨fs15, hf15⟩ := isO_ex hb13
    refine aw_callV C (ci := 0) (b := j12) [.ref j9, va_rf x8, va_rf x11] mv_X8_247 rfl rfl hf15 (rmX0_escape hr14) rfl dX8_would_35 (Nat.le_of_ble_eq_true rfl) (Nat.le_of_ble_eq_true rfl) rfl (Nat.le_of_ble_eq_true rfl) (show ((0 + 2) + 1) + 0 ≤ 4 by omega) (show ((0 + 62) + 6) + 0 ≤ 74 by omega) (fun v9 f9 n9 hh => ?_)
    obtain ⟨rfl, rfl, rfl⟩ := hh
    refine aw_if_eq C 54 dX8_would_38 (by decide) (fun q => ?_) (fun q => ?_)
    · rw [if_pos q] at h
      refine aw_iconst C (-1) dX8_would_54 ki_m1 ?_
      refine aw_fl [none, none, none, none] trivial ?_
      exact rmX8_would_b55 C hl0 htab (by omega) (by omega) h
    · rw [if_neg q] at h
      refine aw_ald_n C dX8_would_41 rfl ?_
      obtain ⟨x16, hx16, h⟩ := Option.bind_eq_some_iff.mp h
      refine ah_getR C gf_X8_48 hx16 dX8_would_42 ?_
      obtain ⟨j17, hj17, h⟩ := Option.bind_eq_some_iff.mp h
      rw [hj17]
      obtain ⟨x18, hx18, h⟩ := Option.bind_eq_some_iff.mp h
      refine ah_getR C gf_X8_251 hx18 dX8_would_45 ?_
      obtain ⟨j19, hj19, h⟩ := Option.bind_eq_some_iff.mp h
      rw [hj19]
      obtain ⟨hb20, h⟩ := ck_some h
      obtain ⟨r21, hr21, h⟩ := Option.bind_eq_some_iff.mp h
      obtain ⟨fs22, hf22⟩ := isO_ex hb20
      refine aw_callV C (ci := 5) (b := j19) [] mv_X8_63 rfl rfl hf22 (rmX5_size hr21) rfl dX8_would_48 (Nat.le_of_ble_eq_true rfl) (Nat.le_of_ble_eq_true rfl) rfl (Nat.le_of_ble_eq_true rfl) (show (((0 + 2) + 1) + 0) + 0 ≤ 4 by omega) (show (((0 + 62) + 6) + 0) + 0 ≤ 74 by omega) (fun v9 f9 n9 hh => ?_)
      obtain ⟨rfl, rfl, rfl⟩ := hh
      refine aw_goto C 55 dX8_would_51 (by decide) ?_
      refine aw_fl [none, none, none, none] trivial ?_
      exact rmX8_would_b55 C hl0 htab (by omega) (by omega) h
def mX8_smallLetter_b20 (s0 : Int32) (f : AH) (n : Nat) : Option (Int32 × HpN) := some (s0, (f, n))
set_option maxHeartbeats 1000000 in
theorem rmX8_smallLetter_b20 {X : GX} {p : Program} {l : Launch} {e : Env} {s : State} {m : MethodId} {args : Array Value} {below : List Frame} {meth : Method} {c : Code} {r : Int32 × HpN} {s0 : Int32} {f : AH} {n cells slots : Nat} (C : CC X p l (RM 0 0 0) s m args meth c RX8 cX8_smallLetter 1 (some .int)) (hc : cells + 0 ≤ 0) (hs : slots + 0 ≤ 0) (h : mX8_smallLetter_b20 s0 f n = some r) : AW X p l e (RM 0 0 0) s m args below meth c 1 (ZM X below args s 0 0 (QHi r)) f n cells slots 20 [none] [.int s0] := by
  have h : some (s0, (f, n)) = some r := h
  cases h
  exact aw_iret C rfl rfl dX8_smallLetter_20 (by omega) (by omega) ⟨rfl, rfl, rfl⟩
def mX8_smallLetter_b19 (v0 : Int32) (f : AH) (n : Nat) : Option (Int32 × HpN) := mX8_smallLetter_b20 v0 f n
set_option maxHeartbeats 1000000 in
theorem rmX8_smallLetter_b19 {X : GX} {p : Program} {l : Launch} {e : Env} {s : State} {m : MethodId} {args : Array Value} {below : List Frame} {meth : Method} {c : Code} {r : Int32 × HpN} {v0 : Int32} {f : AH} {n cells slots : Nat} (C : CC X p l (RM 0 0 0) s m args meth c RX8 cX8_smallLetter 1 (some .int)) (hc : cells + 0 ≤ 0) (hs : slots + 0 ≤ 0) (h : mX8_smallLetter_b19 v0 f n = some r) : AW X p l e (RM 0 0 0) s m args below meth c 1 (ZM X below args s 0 0 (QHi r)) f n cells slots 19 [some (.int v0)] [] := by
  have h : mX8_smallLetter_b20 v0 f n = some r := h
  refine aw_iload_n C dX8_smallLetter_19 rfl ?_
  refine aw_fl [none] trivial ?_
  exact rmX8_smallLetter_b20 C (by omega) (by omega) h
def mX8_smallLetter (v0 : Int32) (f : AH) (n : Nat) : Option (Int32 × HpN) := (if v0 < (65 : Int32) then mX8_smallLetter_b19 v0 f n else (if (90 : Int32) < v0 then mX8_smallLetter_b19 v0 f n else mX8_smallLetter_b20 (v0 + (32 : Int32)) f n))
set_option maxHeartbeats 1000000 in
theorem rmX8_smallLetter {X : GX} {l : Launch} {r : Int32 × HpN} {v0 : Int32} {f : AH} {n : Nat} (h : mX8_smallLetter v0 f n = some r) : AM X l yX8_smallLetter cX8_smallLetter 1 (some .int) 0 0 0 [.int v0] f n (QHi r) := by
  have h : (if v0 < (65 : Int32) then mX8_smallLetter_b19 v0 f n else (if (90 : Int32) < v0 then mX8_smallLetter_b19 v0 f n else mX8_smallLetter_b20 (v0 + (32 : Int32)) f n)) = some r := h
  refine AM.of (by decide +kernel) rfl (Nat.le_of_ble_eq_true rfl) (fun p e s m args below meth c C hnm => ?_)
  refine aw_nl [some (.int v0)] rfl ?_
  refine aw_iload_n C dX8_smallLetter_0 rfl ?_
  refine aw_bipush C 65 dX8_smallLetter_1 kb_65 ?_
  refine aw_icmp_lt C 19 dX8_smallLetter_3 (by decide) (fun q => ?_) (fun q => ?_)
  · rw [if_pos q] at h
    refine aw_fl [some (.int v0)] ⟨rfl, trivial⟩ ?_
    exact rmX8_smallLetter_b19 C (by omega) (by omega) h
  · rw [if_neg q] at h
    refine aw_iload_n C dX8_smallLetter_6 rfl ?_
    refine aw_bipush C 90 dX8_smallLetter_7 kb_90 ?_
    refine aw_icmp_gt C 19 dX8_smallLetter_9 (by decide) (fun q => ?_) (fun q => ?_)
    · rw [if_pos q] at h
      refine aw_fl [some (.int v0)] ⟨rfl, trivial⟩ ?_
      exact rmX8_smallLetter_b19 C (by omega) (by omega) h
    · rw [if_neg q] at h
      refine aw_iload_n C dX8_smallLetter_12 rfl ?_
      refine aw_bipush C 32 dX8_smallLetter_13 kb_32 ?_
      refine aw_iadd C dX8_smallLetter_15 ?_
      refine aw_goto C 20 dX8_smallLetter_16 (by decide) ?_
      refine aw_fl [none] trivial ?_
      exact rmX8_smallLetter_b20 C (by omega) (by omega) h
def mX5_hasSmall_l2 : Nat → Nat → Int32 → (Option Nat) → Int32 → AH → Nat → Option (Int32 × HpN)
  | 0, _, _, _, _, _, _ => none
  | d + 1, v0, v1, v2, v3, f, n => ((v2).bind fun j1 => rCk (isO f j1 5) (((mX5_size j1 f n).bind fun r3 => (if r3.1 ≤ v3 then rCk (rNb (1 : Int32)) (some ((1 : Int32), (r3.2.1, r3.2.2))) else rCk (isO r3.2.1 v0 5) (((mX5_get v0 (v1 + v3) r3.2.1 r3.2.2).bind fun r7 => ((mX8_smallLetter r7.1 r7.2.1 r7.2.2).bind fun r9 => rCk (isO r9.2.1 j1 5) (((mX5_get j1 v3 r9.2.1 r9.2.2).bind fun r11 => (if r9.1 = r11.1 then mX5_hasSmall_l2 d v0 v1 (some j1) (v3 + (1 : Int32)) r11.2.1 r11.2.2 else rCk (rNb (0 : Int32)) (some ((0 : Int32), (r11.2.1, r11.2.2)))))))))))))
set_option maxHeartbeats 1000000 in
theorem rmX5_hasSmall_l2 {X : GX} {p : Program} {l : Launch} {e : Env} {s : State} {m : MethodId} {args : Array Value} {below : List Frame} {meth : Method} {c : Code} {r : Int32 × HpN} (C : CC X p l (RM 1 0 0) s m args meth c RX5 cX5_hasSmall 4 (some .boolean)) : ∀ (d : Nat) (v0 : Nat) (v1 : Int32) (v2 : Option Nat) (v3 : Int32) (f : AH) (n cells slots : Nat) (_ : cells + 0 ≤ 0) (_ : slots + 0 ≤ 0) (_ : mX5_hasSmall_l2 d v0 v1 v2 v3 f n = some r), AW X p l e (RM 1 0 0) s m args below meth c 4 (ZM X below args s 0 0 (QHi r)) f n cells slots 2 [some (.ref v0), some (.int v1), some (va_rf v2), some (.int v3)] [] := by
  intro d
  induction d with
  | zero =>
    intro v0 v1 v2 v3 f n cells slots hc hs h
    exact nomatch (show (none : Option (Int32 × HpN)) = some r from h)
  | succ d ih =>
    intro v0 v1 v2 v3 f n cells slots hc hs h
    have h : ((v2).bind fun j1 => rCk (isO f j1 5) (((mX5_size j1 f n).bind fun r3 => (if r3.1 ≤ v3 then rCk (rNb (1 : Int32)) (some ((1 : Int32), (r3.2.1, r3.2.2))) else rCk (isO r3.2.1 v0 5) (((mX5_get v0 (v1 + v3) r3.2.1 r3.2.2).bind fun r7 => ((mX8_smallLetter r7.1 r7.2.1 r7.2.2).bind fun r9 => rCk (isO r9.2.1 j1 5) (((mX5_get j1 v3 r9.2.1 r9.2.2).bind fun r11 => (if r9.1 = r11.1 then mX5_hasSmall_l2 d v0 v1 (some j1) (v3 + (1 : Int32)) r11.2.1 r11.2.2 else rCk (rNb (0 : Int32)) (some ((0 : Int32), (r11.2.1, r11.2.2))))))))))))) = some r := h
    refine aw_iload_n C dX5_hasSmall_2 rfl ?_
    refine aw_aload_n C dX5_hasSmall_3 rfl (rf_or v2) ?_
    obtain ⟨j1, hj1, h⟩ := Option.bind_eq_some_iff.mp h
    rw [hj1]
    obtain ⟨hb2, h⟩ := ck_some h
    obtain ⟨r3, hr3, h⟩ := Option.bind_eq_some_iff.mp h
    obtain ⟨fs4, hf4⟩ := isO_ex hb2
    refine aw_callV C (ci := 5) (b := j1) [] mv_X5_37 rfl rfl hf4 (rmX5_size hr3) rfl dX5_hasSmall_4 (Nat.le_of_ble_eq_true rfl) (Nat.le_of_ble_eq_true rfl) rfl (Nat.le_of_ble_eq_true rfl) (show cells + 0 ≤ 0 by omega) (show slots + 0 ≤ 0 by omega) (fun v9 f9 n9 hh => ?_)
    obtain ⟨rfl, rfl, rfl⟩ := hh
    refine aw_icmp_ge C 36 dX5_hasSmall_7 (by decide) (fun q => ?_) (fun q => ?_)
    · rw [if_pos q] at h
      refine aw_iconst C 1 dX5_hasSmall_36 ki_1 ?_
      obtain ⟨hb5, h⟩ := ck_some h
      cases h
      exact aw_iret C rfl (nb_nar hb5) dX5_hasSmall_37 (by omega) (by omega) ⟨rfl, rfl, rfl⟩
    · rw [if_neg q] at h
      refine aw_ald_n C dX5_hasSmall_10 rfl ?_
      refine aw_iload_n C dX5_hasSmall_11 rfl ?_
      refine aw_iload_n C dX5_hasSmall_12 rfl ?_
      refine aw_iadd C dX5_hasSmall_13 ?_
      obtain ⟨hb6, h⟩ := ck_some h
      obtain ⟨r7, hr7, h⟩ := Option.bind_eq_some_iff.mp h
      obtain ⟨fs8, hf8⟩ := isO_ex hb6
      refine aw_callV C (ci := 5) (b := v0) [.int (v1 + v3)] mv_X5_19 rfl rfl hf8 (rmX5_get hr7) rfl dX5_hasSmall_14 (Nat.le_of_ble_eq_true rfl) (Nat.le_of_ble_eq_true rfl) rfl (Nat.le_of_ble_eq_true rfl) (show (cells + 0) + 0 ≤ 0 by omega) (show (slots + 0) + 0 ≤ 0 by omega) (fun v9 f9 n9 hh => ?_)
      obtain ⟨rfl, rfl, rfl⟩ := hh
      obtain ⟨r9, hr9, h⟩ := Option.bind_eq_some_iff.mp h
      refine aw_callSN C [.int r7.1] mn_X5_44 mnS_X5_44 (rmX8_smallLetter hr9) rfl dX5_hasSmall_17 (Nat.le_of_ble_eq_true rfl) (Nat.le_of_ble_eq_true rfl) rfl (Nat.le_of_ble_eq_true rfl) (show ((cells + 0) + 0) + 0 ≤ 0 by omega) (show ((slots + 0) + 0) + 0 ≤ 0 by omega) (fun v9 f9 n9 hh => ?_)
      obtain ⟨rfl, rfl, rfl⟩ := hh
      refine aw_ald_n C dX5_hasSmall_20 rfl ?_
      refine aw_iload_n C dX5_hasSmall_21 rfl ?_
      obtain ⟨hb10, h⟩ := ck_some h
      obtain ⟨r11, hr11, h⟩ := Option.bind_eq_some_iff.mp h
      obtain ⟨fs12, hf12⟩ := isO_ex hb10
      refine aw_callV C (ci := 5) (b := j1) [.int v3] mv_X5_19 rfl rfl hf12 (rmX5_get hr11) rfl dX5_hasSmall_22 (Nat.le_of_ble_eq_true rfl) (Nat.le_of_ble_eq_true rfl) rfl (Nat.le_of_ble_eq_true rfl) (show (((cells + 0) + 0) + 0) + 0 ≤ 0 by omega) (show (((slots + 0) + 0) + 0) + 0 ≤ 0 by omega) (fun v9 f9 n9 hh => ?_)
      obtain ⟨rfl, rfl, rfl⟩ := hh
      refine aw_icmp_eq C 30 dX5_hasSmall_25 (by decide) (fun q => ?_) (fun q => ?_)
      · rw [if_pos q] at h
        refine aw_iinc C (v3 + (1 : Int32)) dX5_hasSmall_30 rfl (by rw [ki_1]) (by decide) rfl ?_
        refine aw_nl [some (.ref v0), some (.int v1), some (.ref j1), some (.int (v3 + (1 : Int32)))] rfl ?_
        refine aw_goto C 2 dX5_hasSmall_33 (by decide) ?_
        refine aw_fl [some (.ref v0), some (.int v1), some (va_rf (some j1)), some (.int (v3 + (1 : Int32)))] ⟨rfl, ⟨rfl, ⟨rfl, ⟨rfl, trivial⟩⟩⟩⟩ ?_
        exact ih v0 v1 (some j1) (v3 + (1 : Int32)) r11.2.1 r11.2.2 _ _ (by omega) (by omega) h
      · rw [if_neg q] at h
        refine aw_iconst C 0 dX5_hasSmall_28 ki_0 ?_
        obtain ⟨hb13, h⟩ := ck_some h
        cases h
        exact aw_iret C rfl (nb_nar hb13) dX5_hasSmall_29 (by omega) (by omega) ⟨rfl, rfl, rfl⟩
def mX5_hasSmall (v0 : Nat) (v1 : Int32) (v2 : Option Nat) (f : AH) (n : Nat) : Option (Int32 × HpN) := mX5_hasSmall_l2 rFU v0 v1 v2 (0 : Int32) f n
set_option maxHeartbeats 1000000 in
theorem rmX5_hasSmall {X : GX} {l : Launch} {r : Int32 × HpN} {v0 : Nat} {v1 : Int32} {v2 : Option Nat} {f : AH} {n : Nat} (h : mX5_hasSmall v0 v1 v2 f n = some r) : AM X l yX5_hasSmall cX5_hasSmall 4 (some .boolean) 1 0 0 [.ref v0, .int v1, va_rf v2] f n (QHi r) := by
  have h : mX5_hasSmall_l2 rFU v0 v1 v2 (0 : Int32) f n = some r := h
  refine AM.of (by decide +kernel) (all1 rfl (all1 rfl (all1 (rf_cat _) rfl))) (Nat.le_of_ble_eq_true rfl) (fun p e s m args below meth c C hnm => ?_)
  refine aw_nl [some (.ref v0), some (.int v1), some (va_rf v2), none] rfl ?_
  refine aw_iconst C 0 dX5_hasSmall_0 ki_0 ?_
  refine aw_istore_n C dX5_hasSmall_1 (by decide) (ok_rf 2 rfl) ?_
  refine aw_nl [some (.ref v0), some (.int v1), some (va_rf v2), some (.int (0 : Int32))] rfl ?_
  refine aw_fl [some (.ref v0), some (.int v1), some (va_rf v2), some (.int (0 : Int32))] ⟨rfl, ⟨rfl, ⟨rfl, ⟨rfl, trivial⟩⟩⟩⟩ ?_
  exact rmX5_hasSmall_l2 C rFU v0 v1 v2 (0 : Int32) f n _ _ (by omega) (by omega) h
def mX5_hasWord_l3 : Nat → Nat → Int32 → Int32 → (Option Nat) → Int32 → AH → Nat → Option (Int32 × HpN)
  | 0, _, _, _, _, _, _, _ => none
  | d + 1, v0, v1, v2, v3, v4, f, n => ((v3).bind fun j1 => rCk (isO f j1 5) (((mX5_size j1 f n).bind fun r3 => (if ((v1 + v2) - r3.1) < v4 then rCk (rNb (0 : Int32)) (some ((0 : Int32), (r3.2.1, r3.2.2))) else rCk (isO r3.2.1 v0 5) (((mX5_hasSmall v0 v4 (some j1) r3.2.1 r3.2.2).bind fun r7 => (if r7.1 = (0 : Int32) then mX5_hasWord_l3 d v0 v1 v2 (some j1) (v4 + (1 : Int32)) r7.2.1 r7.2.2 else rCk (rNb (1 : Int32)) (some ((1 : Int32), (r7.2.1, r7.2.2))))))))))
set_option maxHeartbeats 1000000 in
theorem rmX5_hasWord_l3 {X : GX} {p : Program} {l : Launch} {e : Env} {s : State} {m : MethodId} {args : Array Value} {below : List Frame} {meth : Method} {c : Code} {r : Int32 × HpN} (C : CC X p l (RM 2 0 0) s m args meth c RX5 cX5_hasWord 5 (some .boolean)) : ∀ (d : Nat) (v0 : Nat) (v1 : Int32) (v2 : Int32) (v3 : Option Nat) (v4 : Int32) (f : AH) (n cells slots : Nat) (_ : cells + 0 ≤ 0) (_ : slots + 0 ≤ 0) (_ : mX5_hasWord_l3 d v0 v1 v2 v3 v4 f n = some r), AW X p l e (RM 2 0 0) s m args below meth c 5 (ZM X below args s 0 0 (QHi r)) f n cells slots 3 [some (.ref v0), some (.int v1), some (.int v2), some (va_rf v3), some (.int v4)] [] := by
  intro d
  induction d with
  | zero =>
    intro v0 v1 v2 v3 v4 f n cells slots hc hs h
    exact nomatch (show (none : Option (Int32 × HpN)) = some r from h)
  | succ d ih =>
    intro v0 v1 v2 v3 v4 f n cells slots hc hs h
    have h : ((v3).bind fun j1 => rCk (isO f j1 5) (((mX5_size j1 f n).bind fun r3 => (if ((v1 + v2) - r3.1) < v4 then rCk (rNb (0 : Int32)) (some ((0 : Int32), (r3.2.1, r3.2.2))) else rCk (isO r3.2.1 v0 5) (((mX5_hasSmall v0 v4 (some j1) r3.2.1 r3.2.2).bind fun r7 => (if r7.1 = (0 : Int32) then mX5_hasWord_l3 d v0 v1 v2 (some j1) (v4 + (1 : Int32)) r7.2.1 r7.2.2 else rCk (rNb (1 : Int32)) (some ((1 : Int32), (r7.2.1, r7.2.2)))))))))) = some r := h
    refine aw_iload C dX5_hasWord_3 rfl ?_
    refine aw_iload_n C dX5_hasWord_5 rfl ?_
    refine aw_iload_n C dX5_hasWord_6 rfl ?_
    refine aw_iadd C dX5_hasWord_7 ?_
    refine aw_aload_n C dX5_hasWord_8 rfl (rf_or v3) ?_
    obtain ⟨j1, hj1, h⟩ := Option.bind_eq_some_iff.mp h
    rw [hj1]
    obtain ⟨hb2, h⟩ := ck_some h
    obtain ⟨r3, hr3, h⟩ := Option.bind_eq_some_iff.mp h
    obtain ⟨fs4, hf4⟩ := isO_ex hb2
    refine aw_callV C (ci := 5) (b := j1) [] mv_X5_37 rfl rfl hf4 (rmX5_size hr3) rfl dX5_hasWord_9 (Nat.le_of_ble_eq_true rfl) (Nat.le_of_ble_eq_true rfl) rfl (Nat.le_of_ble_eq_true rfl) (show cells + 0 ≤ 0 by omega) (show slots + 0 ≤ 0 by omega) (fun v9 f9 n9 hh => ?_)
    obtain ⟨rfl, rfl, rfl⟩ := hh
    refine aw_isub C dX5_hasWord_12 ?_
    refine aw_icmp_gt C 34 dX5_hasWord_13 (by decide) (fun q => ?_) (fun q => ?_)
    · rw [if_pos q] at h
      refine aw_iconst C 0 dX5_hasWord_34 ki_0 ?_
      obtain ⟨hb5, h⟩ := ck_some h
      cases h
      exact aw_iret C rfl (nb_nar hb5) dX5_hasWord_35 (by omega) (by omega) ⟨rfl, rfl, rfl⟩
    · rw [if_neg q] at h
      refine aw_ald_n C dX5_hasWord_16 rfl ?_
      refine aw_iload C dX5_hasWord_17 rfl ?_
      refine aw_ald_n C dX5_hasWord_19 rfl ?_
      obtain ⟨hb6, h⟩ := ck_some h
      obtain ⟨r7, hr7, h⟩ := Option.bind_eq_some_iff.mp h
      obtain ⟨fs8, hf8⟩ := isO_ex hb6
      refine aw_callV C (ci := 5) (b := v0) [.int v4, .ref j1] mv_X5_40 rfl rfl hf8 (rmX5_hasSmall hr7) rfl dX5_hasWord_20 (Nat.le_of_ble_eq_true rfl) (Nat.le_of_ble_eq_true rfl) rfl (Nat.le_of_ble_eq_true rfl) (show (cells + 0) + 0 ≤ 0 by omega) (show (slots + 0) + 0 ≤ 0 by omega) (fun v9 f9 n9 hh => ?_)
      obtain ⟨rfl, rfl, rfl⟩ := hh
      refine aw_if_eq C 28 dX5_hasWord_23 (by decide) (fun q => ?_) (fun q => ?_)
      · rw [if_pos q] at h
        refine aw_iinc C (v4 + (1 : Int32)) dX5_hasWord_28 rfl (by rw [ki_1]) (by decide) rfl ?_
        refine aw_nl [some (.ref v0), some (.int v1), some (.int v2), some (.ref j1), some (.int (v4 + (1 : Int32)))] rfl ?_
        refine aw_goto C 3 dX5_hasWord_31 (by decide) ?_
        refine aw_fl [some (.ref v0), some (.int v1), some (.int v2), some (va_rf (some j1)), some (.int (v4 + (1 : Int32)))] ⟨rfl, ⟨rfl, ⟨rfl, ⟨rfl, ⟨rfl, trivial⟩⟩⟩⟩⟩ ?_
        exact ih v0 v1 v2 (some j1) (v4 + (1 : Int32)) r7.2.1 r7.2.2 _ _ (by omega) (by omega) h
      · rw [if_neg q] at h
        refine aw_iconst C 1 dX5_hasWord_26 ki_1 ?_
        obtain ⟨hb9, h⟩ := ck_some h
        cases h
        exact aw_iret C rfl (nb_nar hb9) dX5_hasWord_27 (by omega) (by omega) ⟨rfl, rfl, rfl⟩
def mX5_hasWord (v0 : Nat) (v1 : Int32) (v2 : Int32) (v3 : Option Nat) (f : AH) (n : Nat) : Option (Int32 × HpN) := mX5_hasWord_l3 rFU v0 v1 v2 v3 v1 f n
set_option maxHeartbeats 1000000 in
theorem rmX5_hasWord {X : GX} {l : Launch} {r : Int32 × HpN} {v0 : Nat} {v1 : Int32} {v2 : Int32} {v3 : Option Nat} {f : AH} {n : Nat} (h : mX5_hasWord v0 v1 v2 v3 f n = some r) : AM X l yX5_hasWord cX5_hasWord 5 (some .boolean) 2 0 0 [.ref v0, .int v1, .int v2, va_rf v3] f n (QHi r) := by
  have h : mX5_hasWord_l3 rFU v0 v1 v2 v3 v1 f n = some r := h
  refine AM.of (by decide +kernel) (all1 rfl (all1 rfl (all1 rfl (all1 (rf_cat _) rfl)))) (Nat.le_of_ble_eq_true rfl) (fun p e s m args below meth c C hnm => ?_)
  refine aw_nl [some (.ref v0), some (.int v1), some (.int v2), some (va_rf v3), none] rfl ?_
  refine aw_iload_n C dX5_hasWord_0 rfl ?_
  refine aw_istore C dX5_hasWord_1 (by decide) (ok_rf 3 rfl) ?_
  refine aw_nl [some (.ref v0), some (.int v1), some (.int v2), some (va_rf v3), some (.int v1)] rfl ?_
  refine aw_fl [some (.ref v0), some (.int v1), some (.int v2), some (va_rf v3), some (.int v1)] ⟨rfl, ⟨rfl, ⟨rfl, ⟨rfl, ⟨rfl, trivial⟩⟩⟩⟩⟩ ?_
  exact rmX5_hasWord_l3 C rFU v0 v1 v2 v3 v1 f n _ _ (by omega) (by omega) h
def mX8_hasWord_b64 (s0 : Int32) (f : AH) (n : Nat) : Option (Int32 × HpN) := rCk (rNb s0) (some (s0, (f, n)))
set_option maxHeartbeats 1000000 in
theorem rmX8_hasWord_b64 {X : GX} {p : Program} {l : Launch} {e : Env} {s : State} {m : MethodId} {args : Array Value} {below : List Frame} {meth : Method} {c : Code} {r : Int32 × HpN} {s0 : Int32} {f : AH} {n cells slots : Nat} (C : CC X p l (RM 3 0 0) s m args meth c RX8 cX8_hasWord 5 (some .boolean)) (hc : cells + 0 ≤ 0) (hs : slots + 0 ≤ 0) (h : mX8_hasWord_b64 s0 f n = some r) : AW X p l e (RM 3 0 0) s m args below meth c 5 (ZM X below args s 0 0 (QHi r)) f n cells slots 64 [none, none, none, none, none] [.int s0] := by
  have h : rCk (rNb s0) (some (s0, (f, n))) = some r := h
  obtain ⟨hb1, h⟩ := ck_some h
  cases h
  exact aw_iret C rfl (nb_nar hb1) dX8_hasWord_64 (by omega) (by omega) ⟨rfl, rfl, rfl⟩
def mX8_hasWord (v0 : Nat) (v1 : Int32) (v2 : Option Nat) (f : AH) (n : Nat) : Option (Int32 × HpN) := ((gR f v0 8 5).bind fun x1 => ((x1).bind fun j2 => rCk (isO f j2 1) (((mX1_get j2 v1 f n).bind fun r4 => ((some r4.1).bind fun x6 => (oN x6 (rCk (rNb (0 : Int32)) (some ((0 : Int32), (r4.2.1, r4.2.2)))) (fun j7 => ((gR r4.2.1 v0 8 1).bind fun x9 => ((x9).bind fun j10 => rCk (isO r4.2.1 j10 7) (((mX7_toldFor j10 v1 r4.2.1 r4.2.2).bind fun r12 => ((some r12.1).bind fun x14 => (oN x14 (((gR r12.2.1 v0 8 5).bind fun x16 => ((x16).bind fun j17 => ((gR r12.2.1 j17 1 0).bind fun x18 => ((gI r12.2.1 j7 3 2).bind fun x19 => ((gI r12.2.1 j7 3 3).bind fun x20 => ((x18).bind fun j21 => rCk (isO r12.2.1 j21 5) (((mX5_hasWord j21 x19 x20 v2 r12.2.1 r12.2.2).bind fun r23 => mX8_hasWord_b64 r23.1 r23.2.1 r23.2.2))))))))) (fun j15 => rCk (isO r12.2.1 j15 5) (((mX5_size j15 r12.2.1 r12.2.2).bind fun r26 => rCk (isO r26.2.1 j15 5) (((mX5_hasWord j15 (0 : Int32) r26.1 v2 r26.2.1 r26.2.2).bind fun r29 => mX8_hasWord_b64 r29.1 r29.2.1 r29.2.2))))))))))))))))))
set_option maxHeartbeats 1000000 in
theorem rmX8_hasWord {X : GX} {l : Launch} {r : Int32 × HpN} {v0 : Nat} {v1 : Int32} {v2 : Option Nat} {f : AH} {n : Nat} (h : mX8_hasWord v0 v1 v2 f n = some r) : AM X l yX8_hasWord cX8_hasWord 5 (some .boolean) 3 0 0 [.ref v0, .int v1, va_rf v2] f n (QHi r) := by
  have h : ((gR f v0 8 5).bind fun x1 => ((x1).bind fun j2 => rCk (isO f j2 1) (((mX1_get j2 v1 f n).bind fun r4 => ((some r4.1).bind fun x6 => (oN x6 (rCk (rNb (0 : Int32)) (some ((0 : Int32), (r4.2.1, r4.2.2)))) (fun j7 => ((gR r4.2.1 v0 8 1).bind fun x9 => ((x9).bind fun j10 => rCk (isO r4.2.1 j10 7) (((mX7_toldFor j10 v1 r4.2.1 r4.2.2).bind fun r12 => ((some r12.1).bind fun x14 => (oN x14 (((gR r12.2.1 v0 8 5).bind fun x16 => ((x16).bind fun j17 => ((gR r12.2.1 j17 1 0).bind fun x18 => ((gI r12.2.1 j7 3 2).bind fun x19 => ((gI r12.2.1 j7 3 3).bind fun x20 => ((x18).bind fun j21 => rCk (isO r12.2.1 j21 5) (((mX5_hasWord j21 x19 x20 v2 r12.2.1 r12.2.2).bind fun r23 => mX8_hasWord_b64 r23.1 r23.2.1 r23.2.2))))))))) (fun j15 => rCk (isO r12.2.1 j15 5) (((mX5_size j15 r12.2.1 r12.2.2).bind fun r26 => rCk (isO r26.2.1 j15 5) (((mX5_hasWord j15 (0 : Int32) r26.1 v2 r26.2.1 r26.2.2).bind fun r29 => mX8_hasWord_b64 r29.1 r29.2.1 r29.2.2)))))))))))))))))) = some r := h
  refine AM.of (by decide +kernel) (all1 rfl (all1 rfl (all1 (rf_cat _) rfl))) (Nat.le_of_ble_eq_true rfl) (fun p e s m args below meth c C hnm => ?_)
  refine aw_nl [some (.ref v0), some (.int v1), some (va_rf v2), none, none] rfl ?_
  refine aw_ald_n C dX8_hasWord_0 rfl ?_
  obtain ⟨x1, hx1, h⟩ := Option.bind_eq_some_iff.mp h
  refine ah_getR C gf_X8_38 hx1 dX8_hasWord_1 ?_
  refine aw_iload_n C dX8_hasWord_4 rfl ?_
  obtain ⟨j2, hj2, h⟩ := Option.bind_eq_some_iff.mp h
  rw [hj2]
  obtain ⟨hb3, h⟩ := ck_some h
  obtain ⟨r4, hr4, h⟩ := Option.bind_eq_some_iff.mp h
  obtain ⟨fs5, hf5⟩ := isO_ex hb3
  refine aw_callV C (ci := 1) (b := j2) [.int v1] mv_X8_241 rfl rfl hf5 (rmX1_get hr4) rfl dX8_hasWord_5 (Nat.le_of_ble_eq_true rfl) (Nat.le_of_ble_eq_true rfl) rfl (Nat.le_of_ble_eq_true rfl) (show 0 + 0 ≤ 0 by omega) (show 0 + 0 ≤ 0 by omega) (fun v9 f9 n9 hh => ?_)
  obtain ⟨rfl, rfl, rfl⟩ := hh
  obtain ⟨x6, hx6, h⟩ := Option.bind_eq_some_iff.mp h
  rw [Option.some.inj hx6]
  refine aw_astore_n C dX8_hasWord_8 (by decide) (ok_rf 2 rfl) (rf_or x6) ?_
  refine aw_nl [some (.ref v0), some (.int v1), some (va_rf v2), some (va_rf x6), none] rfl ?_
  refine aw_aload_n C dX8_hasWord_9 rfl (rf_or x6) ?_
  cases x6 with
  | none =>
    replace h : rCk (rNb (0 : Int32)) (some ((0 : Int32), (r4.2.1, r4.2.2))) = some r := h
    refine aw_ifnonnull_n C 15 dX8_hasWord_10 (by decide) ?_
    refine aw_iconst C 0 dX8_hasWord_13 ki_0 ?_
    obtain ⟨hb8, h⟩ := ck_some h
    cases h
    exact aw_iret C rfl (nb_nar hb8) dX8_hasWord_14 (by omega) (by omega) ⟨rfl, rfl, rfl⟩
  | some j7 =>
    replace h : ((gR r4.2.1 v0 8 1).bind fun x9 => ((x9).bind fun j10 => rCk (isO r4.2.1 j10 7) (((mX7_toldFor j10 v1 r4.2.1 r4.2.2).bind fun r12 => ((some r12.1).bind fun x14 => (oN x14 (((gR r12.2.1 v0 8 5).bind fun x16 => ((x16).bind fun j17 => ((gR r12.2.1 j17 1 0).bind fun x18 => ((gI r12.2.1 j7 3 2).bind fun x19 => ((gI r12.2.1 j7 3 3).bind fun x20 => ((x18).bind fun j21 => rCk (isO r12.2.1 j21 5) (((mX5_hasWord j21 x19 x20 v2 r12.2.1 r12.2.2).bind fun r23 => mX8_hasWord_b64 r23.1 r23.2.1 r23.2.2))))))))) (fun j15 => rCk (isO r12.2.1 j15 5) (((mX5_size j15 r12.2.1 r12.2.2).bind fun r26 => rCk (isO r26.2.1 j15 5) (((mX5_hasWord j15 (0 : Int32) r26.1 v2 r26.2.1 r26.2.2).bind fun r29 => mX8_hasWord_b64 r29.1 r29.2.1 r29.2.2))))))))))) = some r := h
    refine aw_ifnonnull_r C 15 dX8_hasWord_10 (by decide) ?_
    refine aw_ald_n C dX8_hasWord_15 rfl ?_
    obtain ⟨x9, hx9, h⟩ := Option.bind_eq_some_iff.mp h
    refine ah_getR C gf_X8_21 hx9 dX8_hasWord_16 ?_
    refine aw_iload_n C dX8_hasWord_19 rfl ?_
    obtain ⟨j10, hj10, h⟩ := Option.bind_eq_some_iff.mp h
    rw [hj10]
    obtain ⟨hb11, h⟩ := ck_some h
    obtain ⟨r12, hr12, h⟩ := Option.bind_eq_some_iff.mp h
    obtain ⟨fs13, hf13⟩ := isO_ex hb11
    refine aw_callV C (ci := 7) (b := j10) [.int v1] mv_X8_194 rfl rfl hf13 (rmX7_toldFor hr12) rfl dX8_hasWord_20 (Nat.le_of_ble_eq_true rfl) (Nat.le_of_ble_eq_true rfl) rfl (Nat.le_of_ble_eq_true rfl) (show (0 + 0) + 0 ≤ 0 by omega) (show (0 + 0) + 0 ≤ 0 by omega) (fun v9 f9 n9 hh => ?_)
    obtain ⟨rfl, rfl, rfl⟩ := hh
    obtain ⟨x14, hx14, h⟩ := Option.bind_eq_some_iff.mp h
    rw [Option.some.inj hx14]
    refine aw_astore C dX8_hasWord_23 (by decide) rfl (rf_or x14) ?_
    refine aw_nl [some (.ref v0), some (.int v1), some (va_rf v2), some (.ref j7), some (va_rf x14)] rfl ?_
    refine aw_aload C dX8_hasWord_25 rfl (rf_or x14) ?_
    cases x14 with
    | none =>
      replace h : ((gR r12.2.1 v0 8 5).bind fun x16 => ((x16).bind fun j17 => ((gR r12.2.1 j17 1 0).bind fun x18 => ((gI r12.2.1 j7 3 2).bind fun x19 => ((gI r12.2.1 j7 3 3).bind fun x20 => ((x18).bind fun j21 => rCk (isO r12.2.1 j21 5) (((mX5_hasWord j21 x19 x20 v2 r12.2.1 r12.2.2).bind fun r23 => mX8_hasWord_b64 r23.1 r23.2.1 r23.2.2)))))))) = some r := h
      refine aw_ifnonnull_n C 52 dX8_hasWord_27 (by decide) ?_
      refine aw_ald_n C dX8_hasWord_30 rfl ?_
      obtain ⟨x16, hx16, h⟩ := Option.bind_eq_some_iff.mp h
      refine ah_getR C gf_X8_38 hx16 dX8_hasWord_31 ?_
      obtain ⟨j17, hj17, h⟩ := Option.bind_eq_some_iff.mp h
      rw [hj17]
      obtain ⟨x18, hx18, h⟩ := Option.bind_eq_some_iff.mp h
      refine ah_getR C gf_X8_373 hx18 dX8_hasWord_34 ?_
      refine aw_ald_n C dX8_hasWord_37 rfl ?_
      obtain ⟨x19, hx19, h⟩ := Option.bind_eq_some_iff.mp h
      refine ah_getI C gf_X8_224 hx19 dX8_hasWord_38 ?_
      refine aw_ald_n C dX8_hasWord_41 rfl ?_
      obtain ⟨x20, hx20, h⟩ := Option.bind_eq_some_iff.mp h
      refine ah_getI C gf_X8_187 hx20 dX8_hasWord_42 ?_
      refine aw_aload_n C dX8_hasWord_45 rfl (rf_or v2) ?_
      obtain ⟨j21, hj21, h⟩ := Option.bind_eq_some_iff.mp h
      rw [hj21]
      obtain ⟨hb22, h⟩ := ck_some h
      obtain ⟨r23, hr23, h⟩ := Option.bind_eq_some_iff.mp h
      obtain ⟨fs24, hf24⟩ := isO_ex hb22
      refine aw_callV C (ci := 5) (b := j21) [.int x19, .int x20, va_rf v2] mv_X8_388 rfl rfl hf24 (rmX5_hasWord hr23) rfl dX8_hasWord_46 (Nat.le_of_ble_eq_true rfl) (Nat.le_of_ble_eq_true rfl) rfl (Nat.le_of_ble_eq_true rfl) (show ((0 + 0) + 0) + 0 ≤ 0 by omega) (show ((0 + 0) + 0) + 0 ≤ 0 by omega) (fun v9 f9 n9 hh => ?_)
      obtain ⟨rfl, rfl, rfl⟩ := hh
      refine aw_goto C 64 dX8_hasWord_49 (by decide) ?_
      refine aw_fl [none, none, none, none, none] trivial ?_
      exact rmX8_hasWord_b64 C (by omega) (by omega) h
    | some j15 =>
      replace h : rCk (isO r12.2.1 j15 5) (((mX5_size j15 r12.2.1 r12.2.2).bind fun r26 => rCk (isO r26.2.1 j15 5) (((mX5_hasWord j15 (0 : Int32) r26.1 v2 r26.2.1 r26.2.2).bind fun r29 => mX8_hasWord_b64 r29.1 r29.2.1 r29.2.2)))) = some r := h
      refine aw_ifnonnull_r C 52 dX8_hasWord_27 (by decide) ?_
      refine aw_ald C dX8_hasWord_52 rfl ?_
      refine aw_iconst C 0 dX8_hasWord_54 ki_0 ?_
      refine aw_ald C dX8_hasWord_55 rfl ?_
      obtain ⟨hb25, h⟩ := ck_some h
      obtain ⟨r26, hr26, h⟩ := Option.bind_eq_some_iff.mp h
      obtain ⟨fs27, hf27⟩ := isO_ex hb25
      refine aw_callV C (ci := 5) (b := j15) [] mv_X8_63 rfl rfl hf27 (rmX5_size hr26) rfl dX8_hasWord_57 (Nat.le_of_ble_eq_true rfl) (Nat.le_of_ble_eq_true rfl) rfl (Nat.le_of_ble_eq_true rfl) (show ((0 + 0) + 0) + 0 ≤ 0 by omega) (show ((0 + 0) + 0) + 0 ≤ 0 by omega) (fun v9 f9 n9 hh => ?_)
      obtain ⟨rfl, rfl, rfl⟩ := hh
      refine aw_aload_n C dX8_hasWord_60 rfl (rf_or v2) ?_
      obtain ⟨hb28, h⟩ := ck_some h
      obtain ⟨r29, hr29, h⟩ := Option.bind_eq_some_iff.mp h
      obtain ⟨fs30, hf30⟩ := isO_ex hb28
      refine aw_callV C (ci := 5) (b := j15) [.int (0 : Int32), .int r26.1, va_rf v2] mv_X8_388 rfl rfl hf30 (rmX5_hasWord hr29) rfl dX8_hasWord_61 (Nat.le_of_ble_eq_true rfl) (Nat.le_of_ble_eq_true rfl) rfl (Nat.le_of_ble_eq_true rfl) (show (((0 + 0) + 0) + 0) + 0 ≤ 0 by omega) (show (((0 + 0) + 0) + 0) + 0 ≤ 0 by omega) (fun v9 f9 n9 hh => ?_)
      obtain ⟨rfl, rfl, rfl⟩ := hh
      refine aw_fl [none, none, none, none, none] trivial ?_
      exact rmX8_hasWord_b64 C (by omega) (by omega) h
def mX8_found_b53 (rec24 : Nat → (Option Nat) → Int64 → Int32 → AH → Nat → Option ((Int64 ⊕ String) × HpN)) (v0 : Nat) (v1 : Option Nat) (v2 : Int64) (v4 : Int32) (f : AH) (n : Nat) : Option ((Int64 ⊕ String) × HpN) := rec24 v0 v1 v2 (v4 + (1 : Int32)) f n
set_option maxHeartbeats 1000000 in
theorem rmX8_found_b53 {X : GX} {p : Program} {l : Launch} {e : Env} {s : State} {m : MethodId} {args : Array Value} {below : List Frame} {meth : Method} {c : Code} {r : (Int64 ⊕ String) × HpN} {rec24 : Nat → (Option Nat) → Int64 → Int32 → AH → Nat → Option ((Int64 ⊕ String) × HpN)} {v0 : Nat} {v1 : Option Nat} {v2 : Int64} {v4 : Int32} {f : AH} {n cells slots : Nat} (C : CC X p l (RM 6 3 16) s m args meth c RX8 cX8_found 5 (some .long)) (hl0 : l.stackTraces = false) (htab : ∀ x ∈ c.exceptionTable.toList, False) (Hr24 : ∀ (v0 : Nat) (v1 : Option Nat) (v2 : Int64) (v4 : Int32) (f : AH) (n cells slots : Nat), cells + 0 ≤ 3 → slots + 0 ≤ 16 → rec24 v0 v1 v2 v4 f n = some r → AW X p l e (RM 6 3 16) s m args below meth c 5 (ZX X below args s 3 16 (QTr (QHl) r) (QTx r)) f n cells slots 24 [some (.ref v0), some (va_rf v1), some (.long v2), none, some (.int v4)] []) (hc : cells + 0 ≤ 3) (hs : slots + 0 ≤ 16) (h : mX8_found_b53 rec24 v0 v1 v2 v4 f n = some r) : AW X p l e (RM 6 3 16) s m args below meth c 5 (ZX X below args s 3 16 (QTr (QHl) r) (QTx r)) f n cells slots 53 [some (.ref v0), some (va_rf v1), some (.long v2), none, some (.int v4)] [] := by
  have h : rec24 v0 v1 v2 (v4 + (1 : Int32)) f n = some r := h
  refine aw_iinc C (v4 + (1 : Int32)) dX8_found_53 rfl (by rw [ki_1]) (by decide) rfl ?_
  refine aw_nl [some (.ref v0), some (va_rf v1), some (.long v2), none, some (.int (v4 + (1 : Int32)))] rfl ?_
  refine aw_goto C 24 dX8_found_56 (by decide) ?_
  refine aw_fl [some (.ref v0), some (va_rf v1), some (.long v2), none, some (.int (v4 + (1 : Int32)))] ⟨rfl, ⟨rfl, ⟨rfl, ⟨rfl, trivial⟩⟩⟩⟩ ?_
  exact Hr24 v0 v1 v2 (v4 + (1 : Int32)) f n _ _ (by omega) (by omega) h
def mX8_found_l24 : Nat → Nat → (Option Nat) → Int64 → Int32 → AH → Nat → Option ((Int64 ⊕ String) × HpN)
  | 0, _, _, _, _, _, _ => none
  | d + 1, v0, v1, v2, v4, f, n => ((gR f v0 8 5).bind fun x1 => ((x1).bind fun j2 => rCk (isO f j2 1) (((mX1_size j2 f n).bind fun r4 => (if r4.1 ≤ v4 then some (.inl v2, (r4.2.1, r4.2.2)) else rCk (isO r4.2.1 v0 8) (((mX8_hasWord v0 v4 v1 r4.2.1 r4.2.2).bind fun r7 => (if r7.1 = (0 : Int32) then mX8_found_b53 (fun v0 v1 v2 v4 f n => mX8_found_l24 d v0 v1 v2 v4 f n) v0 v1 v2 v4 r7.2.1 r7.2.2 else mX8_found_b53 (fun v0 v1 v2 v4 f n => mX8_found_l24 d v0 v1 v2 v4 f n) v0 v1 (v2 ||| ((1 : Int64) <<< (v4.toInt64 &&& 63))) v4 r7.2.1 r7.2.2))))))))
set_option maxHeartbeats 1000000 in
theorem rmX8_found_l24 {X : GX} {p : Program} {l : Launch} {e : Env} {s : State} {m : MethodId} {args : Array Value} {below : List Frame} {meth : Method} {c : Code} {r : (Int64 ⊕ String) × HpN} (C : CC X p l (RM 6 3 16) s m args meth c RX8 cX8_found 5 (some .long)) (hl0 : l.stackTraces = false) (htab : ∀ x ∈ c.exceptionTable.toList, False) : ∀ (d : Nat) (v0 : Nat) (v1 : Option Nat) (v2 : Int64) (v4 : Int32) (f : AH) (n cells slots : Nat) (_ : cells + 0 ≤ 3) (_ : slots + 0 ≤ 16) (_ : mX8_found_l24 d v0 v1 v2 v4 f n = some r), AW X p l e (RM 6 3 16) s m args below meth c 5 (ZX X below args s 3 16 (QTr (QHl) r) (QTx r)) f n cells slots 24 [some (.ref v0), some (va_rf v1), some (.long v2), none, some (.int v4)] [] := by
  intro d
  induction d with
  | zero =>
    intro v0 v1 v2 v4 f n cells slots hc hs h
    exact nomatch (show (none : Option ((Int64 ⊕ String) × HpN)) = some r from h)
  | succ d ih =>
    intro v0 v1 v2 v4 f n cells slots hc hs h
    have h : ((gR f v0 8 5).bind fun x1 => ((x1).bind fun j2 => rCk (isO f j2 1) (((mX1_size j2 f n).bind fun r4 => (if r4.1 ≤ v4 then some (.inl v2, (r4.2.1, r4.2.2)) else rCk (isO r4.2.1 v0 8) (((mX8_hasWord v0 v4 v1 r4.2.1 r4.2.2).bind fun r7 => (if r7.1 = (0 : Int32) then mX8_found_b53 (fun v0 v1 v2 v4 f n => mX8_found_l24 d v0 v1 v2 v4 f n) v0 v1 v2 v4 r7.2.1 r7.2.2 else mX8_found_b53 (fun v0 v1 v2 v4 f n => mX8_found_l24 d v0 v1 v2 v4 f n) v0 v1 (v2 ||| ((1 : Int64) <<< (v4.toInt64 &&& 63))) v4 r7.2.1 r7.2.2)))))))) = some r := h
    refine aw_iload C dX8_found_24 rfl ?_
    refine aw_ald_n C dX8_found_26 rfl ?_
    obtain ⟨x1, hx1, h⟩ := Option.bind_eq_some_iff.mp h
    refine ah_getR C gf_X8_38 hx1 dX8_found_27 ?_
    obtain ⟨j2, hj2, h⟩ := Option.bind_eq_some_iff.mp h
    rw [hj2]
    obtain ⟨hb3, h⟩ := ck_some h
    obtain ⟨r4, hr4, h⟩ := Option.bind_eq_some_iff.mp h
    obtain ⟨fs5, hf5⟩ := isO_ex hb3
    refine aw_callV C (ci := 1) (b := j2) [] mv_X8_136 rfl rfl hf5 (rmX1_size hr4) rfl dX8_found_30 (Nat.le_of_ble_eq_true rfl) (Nat.le_of_ble_eq_true rfl) rfl (Nat.le_of_ble_eq_true rfl) (show cells + 0 ≤ 3 by omega) (show slots + 0 ≤ 16 by omega) (fun v9 f9 n9 hh => ?_)
    obtain ⟨rfl, rfl, rfl⟩ := hh
    refine aw_icmp_ge C 59 dX8_found_33 (by decide) (fun q => ?_) (fun q => ?_)
    · rw [if_pos q] at h
      refine aw_lload_n C dX8_found_59 rfl ?_
      cases h
      exact ax_of (aw_lret C rfl dX8_found_60 (by omega) (by omega) ⟨_, rfl, rfl, rfl, rfl⟩)
    · rw [if_neg q] at h
      refine aw_ald_n C dX8_found_36 rfl ?_
      refine aw_iload C dX8_found_37 rfl ?_
      refine aw_aload_n C dX8_found_39 rfl (rf_or v1) ?_
      obtain ⟨hb6, h⟩ := ck_some h
      obtain ⟨r7, hr7, h⟩ := Option.bind_eq_some_iff.mp h
      obtain ⟨fs8, hf8⟩ := isO_ex hb6
      refine aw_callV C (ci := 8) (b := v0) [.int v4, va_rf v1] mv_X8_254 rfl rfl hf8 (rmX8_hasWord hr7) rfl dX8_found_40 (Nat.le_of_ble_eq_true rfl) (Nat.le_of_ble_eq_true rfl) rfl (Nat.le_of_ble_eq_true rfl) (show (cells + 0) + 0 ≤ 3 by omega) (show (slots + 0) + 0 ≤ 16 by omega) (fun v9 f9 n9 hh => ?_)
      obtain ⟨rfl, rfl, rfl⟩ := hh
      refine aw_if_eq C 53 dX8_found_43 (by decide) (fun q => ?_) (fun q => ?_)
      · rw [if_pos q] at h
        refine aw_fl [some (.ref v0), some (va_rf v1), some (.long v2), none, some (.int v4)] ⟨rfl, ⟨rfl, ⟨rfl, ⟨rfl, trivial⟩⟩⟩⟩ ?_
        exact rmX8_found_b53 C hl0 htab (fun v0 v1 v2 v4 f n cells slots hc hs h => ih v0 v1 v2 v4 f n cells slots hc hs h) (by omega) (by omega) h
      · rw [if_neg q] at h
        refine aw_lload_n C dX8_found_46 rfl ?_
        refine aw_lconst C 1 dX8_found_47 rfl ?_
        refine aw_iload C dX8_found_48 rfl ?_
        refine aw_lshl C dX8_found_50 ?_
        refine aw_lor C dX8_found_51 ?_
        refine aw_lstore_n C dX8_found_52 (by decide) (ok_rf 1 rfl) ?_
        refine aw_nl [some (.ref v0), some (va_rf v1), some (.long (v2 ||| ((1 : Int64) <<< (v4.toInt64 &&& 63)))), none, some (.int v4)] rfl ?_
        refine aw_fl [some (.ref v0), some (va_rf v1), some (.long (v2 ||| ((1 : Int64) <<< (v4.toInt64 &&& 63)))), none, some (.int v4)] ⟨rfl, ⟨rfl, ⟨rfl, ⟨rfl, trivial⟩⟩⟩⟩ ?_
        exact rmX8_found_b53 C hl0 htab (fun v0 v1 v2 v4 f n cells slots hc hs h => ih v0 v1 v2 v4 f n cells slots hc hs h) (by omega) (by omega) h
def mX8_found (v0 : Nat) (f : AH) (n : Nat) : Option ((Int64 ⊕ String) × HpN) := rCk (isO f v0 8) (((mX8_takeWord v0 f n).bind fun r2 => ((some r2.1).bind fun x4 => (oN x4 (some (.inr eA, (r2.2.1, r2.2.2))) (fun j5 => mX8_found_l24 rFU v0 (some j5) (0 : Int64) (0 : Int32) r2.2.1 r2.2.2)))))
set_option maxHeartbeats 1000000 in
theorem rmX8_found {X : GX} {l : Launch} {r : (Int64 ⊕ String) × HpN} {v0 : Nat} {f : AH} {n : Nat} (hl0 : l.stackTraces = false) (h : mX8_found v0 f n = some r) : AX X l yX8_found cX8_found 5 (some .long) 6 3 16 [.ref v0] f n (QTr (QHl) r) (QTx r) := by
  have h : rCk (isO f v0 8) (((mX8_takeWord v0 f n).bind fun r2 => ((some r2.1).bind fun x4 => (oN x4 (some (.inr eA, (r2.2.1, r2.2.2))) (fun j5 => mX8_found_l24 rFU v0 (some j5) (0 : Int64) (0 : Int32) r2.2.1 r2.2.2))))) = some r := h
  refine AX.of (by decide +kernel) rfl (Nat.le_of_ble_eq_true rfl) (fun p e s m args below meth c C htab => ?_)
  refine aw_nl [some (.ref v0), none, none, none, none] rfl ?_
  refine aw_ald_n C dX8_found_0 rfl ?_
  obtain ⟨hb1, h⟩ := ck_some h
  obtain ⟨r2, hr2, h⟩ := Option.bind_eq_some_iff.mp h
  obtain ⟨fs3, hf3⟩ := isO_ex hb1
  refine aw_callV C (ci := 8) (b := v0) [] mv_X8_149 rfl rfl hf3 (rmX8_takeWord hr2) rfl dX8_found_1 (Nat.le_of_ble_eq_true rfl) (Nat.le_of_ble_eq_true rfl) rfl (Nat.le_of_ble_eq_true rfl) (show 0 + 2 ≤ 3 by omega) (show 0 + 10 ≤ 16 by omega) (fun v9 f9 n9 hh => ?_)
  obtain ⟨rfl, rfl, rfl⟩ := hh
  obtain ⟨x4, hx4, h⟩ := Option.bind_eq_some_iff.mp h
  rw [Option.some.inj hx4]
  refine aw_astore_n C dX8_found_4 (by decide) rfl (rf_or x4) ?_
  refine aw_nl [some (.ref v0), some (va_rf x4), none, none, none] rfl ?_
  refine aw_aload_n C dX8_found_5 rfl (rf_or x4) ?_
  cases x4 with
  | none =>
    replace h : some (.inr eA, (r2.2.1, r2.2.2)) = some r := h
    refine aw_ifnonnull_n C 19 dX8_found_6 (by decide) ?_
    cases h
    exact ax_throw C htab hl0 th_eA sx_153 dX8_found_9 dX8_found_12 dX8_found_13 dX8_found_15 dX8_found_18 (Nat.le_of_ble_eq_true rfl) (Nat.le_of_ble_eq_true rfl) (show (0 + 2) + 1 ≤ 3 by omega) (show (0 + 10) + 6 ≤ 16 by omega) (by omega) (by omega) (fun n9 h9 => ⟨rfl, rfl, h9⟩)
  | some j5 =>
    replace h : mX8_found_l24 rFU v0 (some j5) (0 : Int64) (0 : Int32) r2.2.1 r2.2.2 = some r := h
    refine aw_ifnonnull_r C 19 dX8_found_6 (by decide) ?_
    refine aw_lconst C 0 dX8_found_19 rfl ?_
    refine aw_lstore_n C dX8_found_20 (by decide) rfl ?_
    refine aw_nl [some (.ref v0), some (.ref j5), some (.long (0 : Int64)), none, none] rfl ?_
    refine aw_iconst C 0 dX8_found_21 ki_0 ?_
    refine aw_istore C dX8_found_22 (by decide) rfl ?_
    refine aw_nl [some (.ref v0), some (.ref j5), some (.long (0 : Int64)), none, some (.int (0 : Int32))] rfl ?_
    refine aw_fl [some (.ref v0), some (va_rf (some j5)), some (.long (0 : Int64)), none, some (.int (0 : Int32))] ⟨rfl, ⟨rfl, ⟨rfl, ⟨rfl, trivial⟩⟩⟩⟩ ?_
    exact rmX8_found_l24 C hl0 htab rFU v0 (some j5) (0 : Int64) (0 : Int32) r2.2.1 r2.2.2 _ _ (by omega) (by omega) h
def mX3_mayBeginInBuilt_b33 (s0 : Int32) (f : AH) (n : Nat) : Option (Int32 × HpN) := rCk (rNb s0) (some (s0, (f, n)))
set_option maxHeartbeats 1000000 in
theorem rmX3_mayBeginInBuilt_b33 {X : GX} {p : Program} {l : Launch} {e : Env} {s : State} {m : MethodId} {args : Array Value} {below : List Frame} {meth : Method} {c : Code} {r : Int32 × HpN} {s0 : Int32} {f : AH} {n cells slots : Nat} (C : CC X p l (RM 0 0 0) s m args meth c RX3 cX3_mayBeginInBuilt 2 (some .boolean)) (hc : cells + 0 ≤ 0) (hs : slots + 0 ≤ 0) (h : mX3_mayBeginInBuilt_b33 s0 f n = some r) : AW X p l e (RM 0 0 0) s m args below meth c 2 (ZM X below args s 0 0 (QHi r)) f n cells slots 33 [none, none] [.int s0] := by
  have h : rCk (rNb s0) (some (s0, (f, n))) = some r := h
  obtain ⟨hb1, h⟩ := ck_some h
  cases h
  exact aw_iret C rfl (nb_nar hb1) dX3_mayBeginInBuilt_33 (by omega) (by omega) ⟨rfl, rfl, rfl⟩
def mX3_mayBeginInBuilt_b32 (f : AH) (n : Nat) : Option (Int32 × HpN) := mX3_mayBeginInBuilt_b33 (0 : Int32) f n
set_option maxHeartbeats 1000000 in
theorem rmX3_mayBeginInBuilt_b32 {X : GX} {p : Program} {l : Launch} {e : Env} {s : State} {m : MethodId} {args : Array Value} {below : List Frame} {meth : Method} {c : Code} {r : Int32 × HpN} {f : AH} {n cells slots : Nat} (C : CC X p l (RM 0 0 0) s m args meth c RX3 cX3_mayBeginInBuilt 2 (some .boolean)) (hc : cells + 0 ≤ 0) (hs : slots + 0 ≤ 0) (h : mX3_mayBeginInBuilt_b32 f n = some r) : AW X p l e (RM 0 0 0) s m args below meth c 2 (ZM X below args s 0 0 (QHi r)) f n cells slots 32 [none, none] [] := by
  have h : mX3_mayBeginInBuilt_b33 (0 : Int32) f n = some r := h
  refine aw_iconst C 0 dX3_mayBeginInBuilt_32 ki_0 ?_
  refine aw_fl [none, none] trivial ?_
  exact rmX3_mayBeginInBuilt_b33 C (by omega) (by omega) h
def mX3_mayBeginInBuilt_b28 (f : AH) (n : Nat) : Option (Int32 × HpN) := mX3_mayBeginInBuilt_b33 (1 : Int32) f n
set_option maxHeartbeats 1000000 in
theorem rmX3_mayBeginInBuilt_b28 {X : GX} {p : Program} {l : Launch} {e : Env} {s : State} {m : MethodId} {args : Array Value} {below : List Frame} {meth : Method} {c : Code} {r : Int32 × HpN} {f : AH} {n cells slots : Nat} (C : CC X p l (RM 0 0 0) s m args meth c RX3 cX3_mayBeginInBuilt 2 (some .boolean)) (hc : cells + 0 ≤ 0) (hs : slots + 0 ≤ 0) (h : mX3_mayBeginInBuilt_b28 f n = some r) : AW X p l e (RM 0 0 0) s m args below meth c 2 (ZM X below args s 0 0 (QHi r)) f n cells slots 28 [none, none] [] := by
  have h : mX3_mayBeginInBuilt_b33 (1 : Int32) f n = some r := h
  refine aw_iconst C 1 dX3_mayBeginInBuilt_28 ki_1 ?_
  refine aw_goto C 33 dX3_mayBeginInBuilt_29 (by decide) ?_
  refine aw_fl [none, none] trivial ?_
  exact rmX3_mayBeginInBuilt_b33 C (by omega) (by omega) h
def mX3_mayBeginInBuilt (v0 : Nat) (v1 : Int32) (f : AH) (n : Nat) : Option (Int32 × HpN) := ((gI f v0 3 9).bind fun x1 => (if v1 = x1 then mX3_mayBeginInBuilt_b28 f n else ((gI f v0 3 11).bind fun x2 => (if x2 ≤ (0 : Int32) then mX3_mayBeginInBuilt_b32 f n else ((gI f v0 3 9).bind fun x3 => ((gI f v0 3 11).bind fun x4 => (if v1 = (x3 + x4) then mX3_mayBeginInBuilt_b28 f n else mX3_mayBeginInBuilt_b32 f n)))))))
set_option maxHeartbeats 1000000 in
theorem rmX3_mayBeginInBuilt {X : GX} {l : Launch} {r : Int32 × HpN} {v0 : Nat} {v1 : Int32} {f : AH} {n : Nat} (h : mX3_mayBeginInBuilt v0 v1 f n = some r) : AM X l yX3_mayBeginInBuilt cX3_mayBeginInBuilt 2 (some .boolean) 0 0 0 [.ref v0, .int v1] f n (QHi r) := by
  have h : ((gI f v0 3 9).bind fun x1 => (if v1 = x1 then mX3_mayBeginInBuilt_b28 f n else ((gI f v0 3 11).bind fun x2 => (if x2 ≤ (0 : Int32) then mX3_mayBeginInBuilt_b32 f n else ((gI f v0 3 9).bind fun x3 => ((gI f v0 3 11).bind fun x4 => (if v1 = (x3 + x4) then mX3_mayBeginInBuilt_b28 f n else mX3_mayBeginInBuilt_b32 f n))))))) = some r := h
  refine AM.of (by decide +kernel) rfl (Nat.le_of_ble_eq_true rfl) (fun p e s m args below meth c C hnm => ?_)
  refine aw_nl [some (.ref v0), some (.int v1)] rfl ?_
  refine aw_iload_n C dX3_mayBeginInBuilt_0 rfl ?_
  refine aw_ald_n C dX3_mayBeginInBuilt_1 rfl ?_
  obtain ⟨x1, hx1, h⟩ := Option.bind_eq_some_iff.mp h
  refine ah_getI C gf_X3_7 hx1 dX3_mayBeginInBuilt_2 ?_
  refine aw_icmp_eq C 28 dX3_mayBeginInBuilt_5 (by decide) (fun q => ?_) (fun q => ?_)
  · rw [if_pos q] at h
    refine aw_fl [none, none] trivial ?_
    exact rmX3_mayBeginInBuilt_b28 C (by omega) (by omega) h
  · rw [if_neg q] at h
    refine aw_ald_n C dX3_mayBeginInBuilt_8 rfl ?_
    obtain ⟨x2, hx2, h⟩ := Option.bind_eq_some_iff.mp h
    refine ah_getI C gf_X3_13 hx2 dX3_mayBeginInBuilt_9 ?_
    refine aw_if_le C 32 dX3_mayBeginInBuilt_12 (by decide) (fun q => ?_) (fun q => ?_)
    · rw [if_pos q] at h
      refine aw_fl [none, none] trivial ?_
      exact rmX3_mayBeginInBuilt_b32 C (by omega) (by omega) h
    · rw [if_neg q] at h
      refine aw_iload_n C dX3_mayBeginInBuilt_15 rfl ?_
      refine aw_ald_n C dX3_mayBeginInBuilt_16 rfl ?_
      obtain ⟨x3, hx3, h⟩ := Option.bind_eq_some_iff.mp h
      refine ah_getI C gf_X3_7 hx3 dX3_mayBeginInBuilt_17 ?_
      refine aw_ald_n C dX3_mayBeginInBuilt_20 rfl ?_
      obtain ⟨x4, hx4, h⟩ := Option.bind_eq_some_iff.mp h
      refine ah_getI C gf_X3_13 hx4 dX3_mayBeginInBuilt_21 ?_
      refine aw_iadd C dX3_mayBeginInBuilt_24 ?_
      refine aw_icmp_ne C 32 dX3_mayBeginInBuilt_25 (by decide) (fun q => ?_) (fun q => ?_)
      · rw [if_neg q] at h
        refine aw_fl [none, none] trivial ?_
        exact rmX3_mayBeginInBuilt_b32 C (by omega) (by omega) h
      · rw [if_pos q] at h
        refine aw_fl [none, none] trivial ?_
        exact rmX3_mayBeginInBuilt_b28 C (by omega) (by omega) h
end
/-! part 32at.cls -/
section
def mX8_kept_b63 (rec12 : Nat → Int32 → (Option Nat) → Int32 → AH → Nat → Option ((Int32 ⊕ String) × HpN)) (v0 : Nat) (v1 : Int32) (v2 : Option Nat) (v3 : Int32) (f : AH) (n : Nat) : Option ((Int32 ⊕ String) × HpN) := rec12 v0 v1 v2 (v3 + (1 : Int32)) f n
set_option maxHeartbeats 1000000 in
theorem rmX8_kept_b63 {X : GX} {p : Program} {l : Launch} {e : Env} {s : State} {m : MethodId} {args : Array Value} {below : List Frame} {meth : Method} {c : Code} {r : (Int32 ⊕ String) × HpN} {rec12 : Nat → Int32 → (Option Nat) → Int32 → AH → Nat → Option ((Int32 ⊕ String) × HpN)} {v0 : Nat} {v1 : Int32} {v2 : Option Nat} {v3 : Int32} {f : AH} {n cells slots : Nat} (C : CC X p l (RM 7 1 6) s m args meth c RX8 cX8_kept 5 (some .boolean)) (hl0 : l.stackTraces = false) (htab : ∀ x ∈ c.exceptionTable.toList, False) (Hr12 : ∀ (v0 : Nat) (v1 : Int32) (v2 : Option Nat) (v3 : Int32) (f : AH) (n cells slots : Nat), cells + 0 ≤ 1 → slots + 0 ≤ 6 → rec12 v0 v1 v2 v3 f n = some r → AW X p l e (RM 7 1 6) s m args below meth c 5 (ZX X below args s 1 6 (QTr (QHi) r) (QTx r)) f n cells slots 12 [some (.ref v0), some (.int v1), some (va_rf v2), some (.int v3), none] []) (hc : cells + 0 ≤ 1) (hs : slots + 0 ≤ 6) (h : mX8_kept_b63 rec12 v0 v1 v2 v3 f n = some r) : AW X p l e (RM 7 1 6) s m args below meth c 5 (ZX X below args s 1 6 (QTr (QHi) r) (QTx r)) f n cells slots 63 [some (.ref v0), some (.int v1), some (va_rf v2), some (.int v3), none] [] := by
  have h : rec12 v0 v1 v2 (v3 + (1 : Int32)) f n = some r := h
  refine aw_iinc C (v3 + (1 : Int32)) dX8_kept_63 rfl (by rw [ki_1]) (by decide) (ok_rf 2 rfl) ?_
  refine aw_nl [some (.ref v0), some (.int v1), some (va_rf v2), some (.int (v3 + (1 : Int32))), none] rfl ?_
  refine aw_goto C 12 dX8_kept_66 (by decide) ?_
  refine aw_fl [some (.ref v0), some (.int v1), some (va_rf v2), some (.int (v3 + (1 : Int32))), none] ⟨rfl, ⟨rfl, ⟨rfl, ⟨rfl, trivial⟩⟩⟩⟩ ?_
  exact Hr12 v0 v1 v2 (v3 + (1 : Int32)) f n _ _ (by omega) (by omega) h
def mX8_kept_l12 : Nat → Nat → Int32 → (Option Nat) → Int32 → AH → Nat → Option ((Int32 ⊕ String) × HpN)
  | 0, _, _, _, _, _, _ => none
  | d + 1, v0, v1, v2, v3, f, n => ((gR f v0 8 6).bind fun x1 => ((x1).bind fun j2 => rCk (isO f j2 1) (((mX1_size j2 f n).bind fun r4 => (if r4.1 ≤ v3 then rCk (rNb (0 : Int32)) (some (.inl (0 : Int32), (r4.2.1, r4.2.2))) else ((gR r4.2.1 v0 8 6).bind fun x7 => ((x7).bind fun j8 => rCk (isO r4.2.1 j8 1) (((mX1_get j8 v3 r4.2.1 r4.2.2).bind fun r10 => ((some r10.1).bind fun x12 => (oN x12 (mX8_kept_b63 (fun v0 v1 v2 v3 f n => mX8_kept_l12 d v0 v1 v2 v3 f n) v0 v1 v2 v3 r10.2.1 r10.2.2) (fun j13 => ((gI r10.2.1 j13 3 0).bind fun x14 => ((v2).bind fun j15 => rCk (isO r10.2.1 j15 3) (((mX3_mayBeginInBuilt j15 x14 r10.2.1 r10.2.2).bind fun r17 => (if r17.1 = (0 : Int32) then mX8_kept_b63 (fun v0 v1 v2 v3 f n => mX8_kept_l12 d v0 v1 v2 v3 f n) v0 v1 (some j15) v3 r17.2.1 r17.2.2 else rCk (isO r17.2.1 v0 8) (((mX8_isNow v0 v1 (some j15) (some j13) r17.2.1 r17.2.2).bind fun r20 => (if r20.1 = (0 : Int32) then mX8_kept_b63 (fun v0 v1 v2 v3 f n => mX8_kept_l12 d v0 v1 v2 v3 f n) v0 v1 (some j15) v3 r20.2.1 r20.2.2 else rCk (rNb (1 : Int32)) (some (.inl (1 : Int32), (r20.2.1, r20.2.2)))))))))))))))))))))))
set_option maxHeartbeats 1000000 in
theorem rmX8_kept_l12 {X : GX} {p : Program} {l : Launch} {e : Env} {s : State} {m : MethodId} {args : Array Value} {below : List Frame} {meth : Method} {c : Code} {r : (Int32 ⊕ String) × HpN} (C : CC X p l (RM 7 1 6) s m args meth c RX8 cX8_kept 5 (some .boolean)) (hl0 : l.stackTraces = false) (htab : ∀ x ∈ c.exceptionTable.toList, False) : ∀ (d : Nat) (v0 : Nat) (v1 : Int32) (v2 : Option Nat) (v3 : Int32) (f : AH) (n cells slots : Nat) (_ : cells + 0 ≤ 1) (_ : slots + 0 ≤ 6) (_ : mX8_kept_l12 d v0 v1 v2 v3 f n = some r), AW X p l e (RM 7 1 6) s m args below meth c 5 (ZX X below args s 1 6 (QTr (QHi) r) (QTx r)) f n cells slots 12 [some (.ref v0), some (.int v1), some (va_rf v2), some (.int v3), none] [] := by
  intro d
  induction d with
  | zero =>
    intro v0 v1 v2 v3 f n cells slots hc hs h
    exact nomatch (show (none : Option ((Int32 ⊕ String) × HpN)) = some r from h)
  | succ d ih =>
    intro v0 v1 v2 v3 f n cells slots hc hs h
    have h : ((gR f v0 8 6).bind fun x1 => ((x1).bind fun j2 => rCk (isO f j2 1) (((mX1_size j2 f n).bind fun r4 => (if r4.1 ≤ v3 then rCk (rNb (0 : Int32)) (some (.inl (0 : Int32), (r4.2.1, r4.2.2))) else ((gR r4.2.1 v0 8 6).bind fun x7 => ((x7).bind fun j8 => rCk (isO r4.2.1 j8 1) (((mX1_get j8 v3 r4.2.1 r4.2.2).bind fun r10 => ((some r10.1).bind fun x12 => (oN x12 (mX8_kept_b63 (fun v0 v1 v2 v3 f n => mX8_kept_l12 d v0 v1 v2 v3 f n) v0 v1 v2 v3 r10.2.1 r10.2.2) (fun j13 => ((gI r10.2.1 j13 3 0).bind fun x14 => ((v2).bind fun j15 => rCk (isO r10.2.1 j15 3) (((mX3_mayBeginInBuilt j15 x14 r10.2.1 r10.2.2).bind fun r17 => (if r17.1 = (0 : Int32) then mX8_kept_b63 (fun v0 v1 v2 v3 f n => mX8_kept_l12 d v0 v1 v2 v3 f n) v0 v1 (some j15) v3 r17.2.1 r17.2.2 else rCk (isO r17.2.1 v0 8) (((mX8_isNow v0 v1 (some j15) (some j13) r17.2.1 r17.2.2).bind fun r20 => (if r20.1 = (0 : Int32) then mX8_kept_b63 (fun v0 v1 v2 v3 f n => mX8_kept_l12 d v0 v1 v2 v3 f n) v0 v1 (some j15) v3 r20.2.1 r20.2.2 else rCk (rNb (1 : Int32)) (some (.inl (1 : Int32), (r20.2.1, r20.2.2))))))))))))))))))))))) = some r := h
    refine aw_iload_n C dX8_kept_12 rfl ?_
    refine aw_ald_n C dX8_kept_13 rfl ?_
    obtain ⟨x1, hx1, h⟩ := Option.bind_eq_some_iff.mp h
    refine ah_getR C gf_X8_42 hx1 dX8_kept_14 ?_
    obtain ⟨j2, hj2, h⟩ := Option.bind_eq_some_iff.mp h
    rw [hj2]
    obtain ⟨hb3, h⟩ := ck_some h
    obtain ⟨r4, hr4, h⟩ := Option.bind_eq_some_iff.mp h
    obtain ⟨fs5, hf5⟩ := isO_ex hb3
    refine aw_callV C (ci := 1) (b := j2) [] mv_X8_136 rfl rfl hf5 (rmX1_size hr4) rfl dX8_kept_17 (Nat.le_of_ble_eq_true rfl) (Nat.le_of_ble_eq_true rfl) rfl (Nat.le_of_ble_eq_true rfl) (show cells + 0 ≤ 1 by omega) (show slots + 0 ≤ 6 by omega) (fun v9 f9 n9 hh => ?_)
    obtain ⟨rfl, rfl, rfl⟩ := hh
    refine aw_icmp_ge C 69 dX8_kept_20 (by decide) (fun q => ?_) (fun q => ?_)
    · rw [if_pos q] at h
      refine aw_iconst C 0 dX8_kept_69 ki_0 ?_
      obtain ⟨hb6, h⟩ := ck_some h
      cases h
      exact ax_of (aw_iret C rfl (nb_nar hb6) dX8_kept_70 (by omega) (by omega) ⟨_, rfl, rfl, rfl, rfl⟩)
    · rw [if_neg q] at h
      refine aw_ald_n C dX8_kept_23 rfl ?_
      obtain ⟨x7, hx7, h⟩ := Option.bind_eq_some_iff.mp h
      refine ah_getR C gf_X8_42 hx7 dX8_kept_24 ?_
      refine aw_iload_n C dX8_kept_27 rfl ?_
      obtain ⟨j8, hj8, h⟩ := Option.bind_eq_some_iff.mp h
      rw [hj8]
      obtain ⟨hb9, h⟩ := ck_some h
      obtain ⟨r10, hr10, h⟩ := Option.bind_eq_some_iff.mp h
      obtain ⟨fs11, hf11⟩ := isO_ex hb9
      refine aw_callV C (ci := 1) (b := j8) [.int v3] mv_X8_241 rfl rfl hf11 (rmX1_get hr10) rfl dX8_kept_28 (Nat.le_of_ble_eq_true rfl) (Nat.le_of_ble_eq_true rfl) rfl (Nat.le_of_ble_eq_true rfl) (show (cells + 0) + 0 ≤ 1 by omega) (show (slots + 0) + 0 ≤ 6 by omega) (fun v9 f9 n9 hh => ?_)
      obtain ⟨rfl, rfl, rfl⟩ := hh
      obtain ⟨x12, hx12, h⟩ := Option.bind_eq_some_iff.mp h
      rw [Option.some.inj hx12]
      refine aw_astore C dX8_kept_31 (by decide) rfl (rf_or x12) ?_
      refine aw_nl [some (.ref v0), some (.int v1), some (va_rf v2), some (.int v3), some (va_rf x12)] rfl ?_
      refine aw_aload C dX8_kept_33 rfl (rf_or x12) ?_
      cases x12 with
      | none =>
        replace h : mX8_kept_b63 (fun v0 v1 v2 v3 f n => mX8_kept_l12 d v0 v1 v2 v3 f n) v0 v1 v2 v3 r10.2.1 r10.2.2 = some r := h
        refine aw_ifnull_n C 63 dX8_kept_35 (by decide) ?_
        refine aw_fl [some (.ref v0), some (.int v1), some (va_rf v2), some (.int v3), none] ⟨rfl, ⟨rfl, ⟨rfl, ⟨rfl, trivial⟩⟩⟩⟩ ?_
        exact rmX8_kept_b63 C hl0 htab (fun v0 v1 v2 v3 f n cells slots hc hs h => ih v0 v1 v2 v3 f n cells slots hc hs h) (by omega) (by omega) h
      | some j13 =>
        replace h : ((gI r10.2.1 j13 3 0).bind fun x14 => ((v2).bind fun j15 => rCk (isO r10.2.1 j15 3) (((mX3_mayBeginInBuilt j15 x14 r10.2.1 r10.2.2).bind fun r17 => (if r17.1 = (0 : Int32) then mX8_kept_b63 (fun v0 v1 v2 v3 f n => mX8_kept_l12 d v0 v1 v2 v3 f n) v0 v1 (some j15) v3 r17.2.1 r17.2.2 else rCk (isO r17.2.1 v0 8) (((mX8_isNow v0 v1 (some j15) (some j13) r17.2.1 r17.2.2).bind fun r20 => (if r20.1 = (0 : Int32) then mX8_kept_b63 (fun v0 v1 v2 v3 f n => mX8_kept_l12 d v0 v1 v2 v3 f n) v0 v1 (some j15) v3 r20.2.1 r20.2.2 else rCk (rNb (1 : Int32)) (some (.inl (1 : Int32), (r20.2.1, r20.2.2))))))))))) = some r := h
        refine aw_ifnull_r C 63 dX8_kept_35 (by decide) ?_
        refine aw_aload_n C dX8_kept_38 rfl (rf_or v2) ?_
        refine aw_ald C dX8_kept_39 rfl ?_
        obtain ⟨x14, hx14, h⟩ := Option.bind_eq_some_iff.mp h
        refine ah_getI C gf_X8_179 hx14 dX8_kept_41 ?_
        obtain ⟨j15, hj15, h⟩ := Option.bind_eq_some_iff.mp h
        rw [hj15]
        obtain ⟨hb16, h⟩ := ck_some h
        obtain ⟨r17, hr17, h⟩ := Option.bind_eq_some_iff.mp h
        obtain ⟨fs18, hf18⟩ := isO_ex hb16
        refine aw_callV C (ci := 3) (b := j15) [.int x14] mv_X8_279 rfl rfl hf18 (rmX3_mayBeginInBuilt hr17) rfl dX8_kept_44 (Nat.le_of_ble_eq_true rfl) (Nat.le_of_ble_eq_true rfl) rfl (Nat.le_of_ble_eq_true rfl) (show ((cells + 0) + 0) + 0 ≤ 1 by omega) (show ((slots + 0) + 0) + 0 ≤ 6 by omega) (fun v9 f9 n9 hh => ?_)
        obtain ⟨rfl, rfl, rfl⟩ := hh
        refine aw_if_eq C 63 dX8_kept_47 (by decide) (fun q => ?_) (fun q => ?_)
        · rw [if_pos q] at h
          refine aw_fl [some (.ref v0), some (.int v1), some (va_rf (some j15)), some (.int v3), none] ⟨rfl, ⟨rfl, ⟨rfl, ⟨rfl, trivial⟩⟩⟩⟩ ?_
          exact rmX8_kept_b63 C hl0 htab (fun v0 v1 v2 v3 f n cells slots hc hs h => ih v0 v1 v2 v3 f n cells slots hc hs h) (by omega) (by omega) h
        · rw [if_neg q] at h
          refine aw_ald_n C dX8_kept_50 rfl ?_
          refine aw_iload_n C dX8_kept_51 rfl ?_
          refine aw_ald_n C dX8_kept_52 rfl ?_
          refine aw_ald C dX8_kept_53 rfl ?_
          obtain ⟨hb19, h⟩ := ck_some h
          obtain ⟨r20, hr20, h⟩ := Option.bind_eq_some_iff.mp h
          obtain ⟨fs21, hf21⟩ := isO_ex hb19
          refine aw_callV C (ci := 8) (b := v0) [.int v1, .ref j15, .ref j13] mv_X8_283 rfl rfl hf21 (rmX8_isNow hr20) rfl dX8_kept_55 (Nat.le_of_ble_eq_true rfl) (Nat.le_of_ble_eq_true rfl) rfl (Nat.le_of_ble_eq_true rfl) (show (((cells + 0) + 0) + 0) + 0 ≤ 1 by omega) (show (((slots + 0) + 0) + 0) + 0 ≤ 6 by omega) (fun v9 f9 n9 hh => ?_)
          obtain ⟨rfl, rfl, rfl⟩ := hh
          refine aw_if_eq C 63 dX8_kept_58 (by decide) (fun q => ?_) (fun q => ?_)
          · rw [if_pos q] at h
            refine aw_fl [some (.ref v0), some (.int v1), some (va_rf (some j15)), some (.int v3), none] ⟨rfl, ⟨rfl, ⟨rfl, ⟨rfl, trivial⟩⟩⟩⟩ ?_
            exact rmX8_kept_b63 C hl0 htab (fun v0 v1 v2 v3 f n cells slots hc hs h => ih v0 v1 v2 v3 f n cells slots hc hs h) (by omega) (by omega) h
          · rw [if_neg q] at h
            refine aw_iconst C 1 dX8_kept_61 ki_1 ?_
            obtain ⟨hb22, h⟩ := ck_some h
            cases h
            exact ax_of (aw_iret C rfl (nb_nar hb22) dX8_kept_62 (by omega) (by omega) ⟨_, rfl, rfl, rfl, rfl⟩)
def mX8_kept (v0 : Nat) (v1 : Int32) (f : AH) (n : Nat) : Option ((Int32 ⊕ String) × HpN) := rCk (isO f v0 8) (((mX8_pieceOrThrow v0 v1 f n).bind fun r2 => (tS r2.1 r2.2 (fun y2 => ((some y2).bind fun x4 => rCk (isO r2.2.1 v0 8) (((mX8_cutAgain v0 r2.2.1 r2.2.2).bind fun r6 => mX8_kept_l12 rFU v0 v1 x4 (0 : Int32) r6.2.1 r6.2.2)))))))
set_option maxHeartbeats 1000000 in
theorem rmX8_kept {X : GX} {l : Launch} {r : (Int32 ⊕ String) × HpN} {v0 : Nat} {v1 : Int32} {f : AH} {n : Nat} (hl0 : l.stackTraces = false) (h : mX8_kept v0 v1 f n = some r) : AX X l yX8_kept cX8_kept 5 (some .boolean) 7 1 6 [.ref v0, .int v1] f n (QTr (QHi) r) (QTx r) := by
  have h : rCk (isO f v0 8) (((mX8_pieceOrThrow v0 v1 f n).bind fun r2 => (tS r2.1 r2.2 (fun y2 => ((some y2).bind fun x4 => rCk (isO r2.2.1 v0 8) (((mX8_cutAgain v0 r2.2.1 r2.2.2).bind fun r6 => mX8_kept_l12 rFU v0 v1 x4 (0 : Int32) r6.2.1 r6.2.2))))))) = some r := h
  refine AX.of (by decide +kernel) rfl (Nat.le_of_ble_eq_true rfl) (fun p e s m args below meth c C htab => ?_)
  refine aw_nl [some (.ref v0), some (.int v1), none, none, none] rfl ?_
  refine aw_ald_n C dX8_kept_0 rfl ?_
  refine aw_iload_n C dX8_kept_1 rfl ?_
  obtain ⟨hb1, h⟩ := ck_some h
  obtain ⟨r2, hr2, h⟩ := Option.bind_eq_some_iff.mp h
  obtain ⟨fs3, hf3⟩ := isO_ex hb1
  refine ax_callV C (ci := 8) (b := v0) [.int v1] mv_X8_175 rfl rfl hf3 (rmX8_pieceOrThrow hl0 hr2) rfl dX8_kept_2 (Nat.le_of_ble_eq_true rfl) (Nat.le_of_ble_eq_true rfl) rfl (Nat.le_of_ble_eq_true rfl) (show 0 + 1 ≤ 1 by omega) (show 0 + 6 ≤ 6 by omega) (fun E9 f9 n9 hq => ?_) (fun v9 f9 n9 hq => ?_)
  · obtain ⟨e1, e2, e3⟩ := hq
    rw [tS_r e1] at h
    cases h
    exact at_out C htab ⟨rfl, e2, e3⟩ (by omega) (by omega)
  obtain ⟨y2, e2, rfl, rfl, rfl⟩ := hq
  rw [tS_l e2] at h
  replace h : ((some y2).bind fun x4 => rCk (isO r2.2.1 v0 8) (((mX8_cutAgain v0 r2.2.1 r2.2.2).bind fun r6 => mX8_kept_l12 rFU v0 v1 x4 (0 : Int32) r6.2.1 r6.2.2))) = some r := h
  obtain ⟨x4, hx4, h⟩ := Option.bind_eq_some_iff.mp h
  rw [Option.some.inj hx4]
  refine aw_astore_n C dX8_kept_5 (by decide) rfl (rf_or x4) ?_
  refine aw_nl [some (.ref v0), some (.int v1), some (va_rf x4), none, none] rfl ?_
  refine aw_ald_n C dX8_kept_6 rfl ?_
  obtain ⟨hb5, h⟩ := ck_some h
  obtain ⟨r6, hr6, h⟩ := Option.bind_eq_some_iff.mp h
  obtain ⟨fs7, hf7⟩ := isO_ex hb5
  refine aw_callV C (ci := 8) (b := v0) [] mv_X8_276 rfl rfl hf7 (rmX8_cutAgain hr6) rfl dX8_kept_7 (Nat.le_of_ble_eq_true rfl) (Nat.le_of_ble_eq_true rfl) rfl (Nat.le_of_ble_eq_true rfl) (show (0 + 1) + 0 ≤ 1 by omega) (show (0 + 6) + 0 ≤ 6 by omega) (fun v9 f9 n9 hh => ?_)
  obtain ⟨rfl, rfl, rfl⟩ := hh
  refine aw_iconst C 0 dX8_kept_10 ki_0 ?_
  refine aw_istore_n C dX8_kept_11 (by decide) (ok_rf 2 rfl) ?_
  refine aw_nl [some (.ref v0), some (.int v1), some (va_rf x4), some (.int (0 : Int32)), none] rfl ?_
  refine aw_fl [some (.ref v0), some (.int v1), some (va_rf x4), some (.int (0 : Int32)), none] ⟨rfl, ⟨rfl, ⟨rfl, ⟨rfl, trivial⟩⟩⟩⟩ ?_
  exact rmX8_kept_l12 C hl0 htab rFU v0 v1 x4 (0 : Int32) r6.2.1 r6.2.2 _ _ (by omega) (by omega) h
end
/-! part 33a.wrap -/
section
theorem dL_acts_0 : decode cL_acts 0 = .ok (.aload_n 1, 1) := by decide +kernel
theorem dL_acts_1 : decode cL_acts 1 = .ok (.iconst 0, 1) := by decide +kernel
theorem dL_acts_2 : decode cL_acts 2 = .ok (.aload_n 0, 1) := by decide +kernel
theorem dL_acts_3 : decode cL_acts 3 = .ok (.invokevirtual 7, 3) := by decide +kernel
theorem dL_acts_6 : decode cL_acts 6 = .ok (.i2l, 1) := by decide +kernel
theorem dL_acts_7 : decode cL_acts 7 = .ok (.lastore, 1) := by decide +kernel
theorem dL_acts_8 : decode cL_acts 8 = .ok (.goto 6, 3) := by decide +kernel
theorem dL_acts_11 : decode cL_acts 11 = .ok (.astore_n 2, 1) := by decide +kernel
theorem dL_acts_12 : decode cL_acts 12 = .ok (.iconst 1, 1) := by decide +kernel
theorem dL_acts_13 : decode cL_acts 13 = .ok (.ireturn, 1) := by decide +kernel
theorem dL_acts_14 : decode cL_acts 14 = .ok (.iconst 0, 1) := by decide +kernel
theorem dL_acts_15 : decode cL_acts 15 = .ok (.ireturn, 1) := by decide +kernel
theorem dL_found_0 : decode cL_found 0 = .ok (.aload_n 1, 1) := by decide +kernel
theorem dL_found_1 : decode cL_found 1 = .ok (.iconst 0, 1) := by decide +kernel
theorem dL_found_2 : decode cL_found 2 = .ok (.aload_n 0, 1) := by decide +kernel
theorem dL_found_3 : decode cL_found 3 = .ok (.invokevirtual 70, 3) := by decide +kernel
theorem dL_found_6 : decode cL_found 6 = .ok (.lastore, 1) := by decide +kernel
theorem dL_found_7 : decode cL_found 7 = .ok (.goto 6, 3) := by decide +kernel
theorem dL_found_10 : decode cL_found 10 = .ok (.astore_n 2, 1) := by decide +kernel
theorem dL_found_11 : decode cL_found 11 = .ok (.iconst 1, 1) := by decide +kernel
theorem dL_found_12 : decode cL_found 12 = .ok (.ireturn, 1) := by decide +kernel
theorem dL_found_13 : decode cL_found 13 = .ok (.iconst 0, 1) := by decide +kernel
theorem dL_found_14 : decode cL_found 14 = .ok (.ireturn, 1) := by decide +kernel
theorem dL_free_0 : decode cL_free 0 = .ok (.aload_n 2, 1) := by decide +kernel
theorem dL_free_1 : decode cL_free 1 = .ok (.iconst 0, 1) := by decide +kernel
theorem dL_free_2 : decode cL_free 2 = .ok (.aload_n 0, 1) := by decide +kernel
theorem dL_free_3 : decode cL_free 3 = .ok (.iload_n 1, 1) := by decide +kernel
theorem dL_free_4 : decode cL_free 4 = .ok (.invokevirtual 34, 3) := by decide +kernel
theorem dL_free_7 : decode cL_free 7 = .ok (.i2l, 1) := by decide +kernel
theorem dL_free_8 : decode cL_free 8 = .ok (.lastore, 1) := by decide +kernel
theorem dL_free_9 : decode cL_free 9 = .ok (.goto 6, 3) := by decide +kernel
theorem dL_free_12 : decode cL_free 12 = .ok (.astore_n 3, 1) := by decide +kernel
theorem dL_free_13 : decode cL_free 13 = .ok (.iconst 1, 1) := by decide +kernel
theorem dL_free_14 : decode cL_free 14 = .ok (.ireturn, 1) := by decide +kernel
theorem dL_free_15 : decode cL_free 15 = .ok (.iconst 0, 1) := by decide +kernel
theorem dL_free_16 : decode cL_free 16 = .ok (.ireturn, 1) := by decide +kernel
theorem dL_kept_0 : decode cL_kept 0 = .ok (.aload_n 2, 1) := by decide +kernel
theorem dL_kept_1 : decode cL_kept 1 = .ok (.iconst 0, 1) := by decide +kernel
theorem dL_kept_2 : decode cL_kept 2 = .ok (.aload_n 0, 1) := by decide +kernel
theorem dL_kept_3 : decode cL_kept 3 = .ok (.iload_n 1, 1) := by decide +kernel
theorem dL_kept_4 : decode cL_kept 4 = .ok (.invokevirtual 74, 3) := by decide +kernel
theorem dL_kept_7 : decode cL_kept 7 = .ok (.ifCond .eq 7, 3) := by decide +kernel
theorem dL_kept_10 : decode cL_kept 10 = .ok (.lconst 1, 1) := by decide +kernel
theorem dL_kept_11 : decode cL_kept 11 = .ok (.goto 4, 3) := by decide +kernel
theorem dL_kept_14 : decode cL_kept 14 = .ok (.lconst 0, 1) := by decide +kernel
theorem dL_kept_15 : decode cL_kept 15 = .ok (.lastore, 1) := by decide +kernel
theorem dL_kept_16 : decode cL_kept 16 = .ok (.goto 6, 3) := by decide +kernel
theorem dL_kept_19 : decode cL_kept 19 = .ok (.astore_n 3, 1) := by decide +kernel
theorem dL_kept_20 : decode cL_kept 20 = .ok (.iconst 1, 1) := by decide +kernel
theorem dL_kept_21 : decode cL_kept 21 = .ok (.ireturn, 1) := by decide +kernel
theorem dL_kept_22 : decode cL_kept 22 = .ok (.iconst 0, 1) := by decide +kernel
theorem dL_kept_23 : decode cL_kept 23 = .ok (.ireturn, 1) := by decide +kernel
theorem dL_key_0 : decode cL_key 0 = .ok (.aload_n 3, 1) := by decide +kernel
theorem dL_key_1 : decode cL_key 1 = .ok (.iconst 0, 1) := by decide +kernel
theorem dL_key_2 : decode cL_key 2 = .ok (.aload_n 0, 1) := by decide +kernel
theorem dL_key_3 : decode cL_key 3 = .ok (.iload_n 1, 1) := by decide +kernel
theorem dL_key_4 : decode cL_key 4 = .ok (.iload_n 2, 1) := by decide +kernel
theorem dL_key_5 : decode cL_key 5 = .ok (.invokevirtual 61, 3) := by decide +kernel
theorem dL_key_8 : decode cL_key 8 = .ok (.i2l, 1) := by decide +kernel
theorem dL_key_9 : decode cL_key 9 = .ok (.lastore, 1) := by decide +kernel
theorem dL_key_10 : decode cL_key 10 = .ok (.goto 11, 3) := by decide +kernel
theorem dL_key_13 : decode cL_key 13 = .ok (.astore 4, 2) := by decide +kernel
theorem dL_key_15 : decode cL_key 15 = .ok (.iconst 1, 1) := by decide +kernel
theorem dL_key_16 : decode cL_key 16 = .ok (.ireturn, 1) := by decide +kernel
theorem dL_key_17 : decode cL_key 17 = .ok (.astore 4, 2) := by decide +kernel
theorem dL_key_19 : decode cL_key 19 = .ok (.iconst 2, 1) := by decide +kernel
theorem dL_key_20 : decode cL_key 20 = .ok (.ireturn, 1) := by decide +kernel
theorem dL_key_21 : decode cL_key 21 = .ok (.iconst 0, 1) := by decide +kernel
theorem dL_key_22 : decode cL_key 22 = .ok (.ireturn, 1) := by decide +kernel
theorem dL_kind_0 : decode cL_kind 0 = .ok (.aload_n 3, 1) := by decide +kernel
theorem dL_kind_1 : decode cL_kind 1 = .ok (.iconst 0, 1) := by decide +kernel
theorem dL_kind_2 : decode cL_kind 2 = .ok (.aload_n 0, 1) := by decide +kernel
theorem dL_kind_3 : decode cL_kind 3 = .ok (.iload_n 1, 1) := by decide +kernel
theorem dL_kind_4 : decode cL_kind 4 = .ok (.iload_n 2, 1) := by decide +kernel
theorem dL_kind_5 : decode cL_kind 5 = .ok (.invokevirtual 15, 3) := by decide +kernel
theorem dL_kind_8 : decode cL_kind 8 = .ok (.i2l, 1) := by decide +kernel
theorem dL_kind_9 : decode cL_kind 9 = .ok (.lastore, 1) := by decide +kernel
theorem dL_kind_10 : decode cL_kind 10 = .ok (.goto 7, 3) := by decide +kernel
theorem dL_kind_13 : decode cL_kind 13 = .ok (.astore 4, 2) := by decide +kernel
theorem dL_kind_15 : decode cL_kind 15 = .ok (.iconst 1, 1) := by decide +kernel
theorem dL_kind_16 : decode cL_kind 16 = .ok (.ireturn, 1) := by decide +kernel
theorem dL_kind_17 : decode cL_kind 17 = .ok (.iconst 0, 1) := by decide +kernel
theorem dL_kind_18 : decode cL_kind 18 = .ok (.ireturn, 1) := by decide +kernel
theorem dL_like_0 : decode cL_like 0 = .ok (.aload_n 3, 1) := by decide +kernel
theorem dL_like_1 : decode cL_like 1 = .ok (.iconst 0, 1) := by decide +kernel
theorem dL_like_2 : decode cL_like 2 = .ok (.aload_n 0, 1) := by decide +kernel
theorem dL_like_3 : decode cL_like 3 = .ok (.iload_n 1, 1) := by decide +kernel
theorem dL_like_4 : decode cL_like 4 = .ok (.iload_n 2, 1) := by decide +kernel
theorem dL_like_5 : decode cL_like 5 = .ok (.invokevirtual 64, 3) := by decide +kernel
theorem dL_like_8 : decode cL_like 8 = .ok (.i2l, 1) := by decide +kernel
theorem dL_like_9 : decode cL_like 9 = .ok (.lastore, 1) := by decide +kernel
theorem dL_like_10 : decode cL_like 10 = .ok (.goto 7, 3) := by decide +kernel
theorem dL_like_13 : decode cL_like 13 = .ok (.astore 4, 2) := by decide +kernel
theorem dL_like_15 : decode cL_like 15 = .ok (.iconst 1, 1) := by decide +kernel
theorem dL_like_16 : decode cL_like 16 = .ok (.ireturn, 1) := by decide +kernel
theorem dL_like_17 : decode cL_like 17 = .ok (.iconst 0, 1) := by decide +kernel
theorem dL_like_18 : decode cL_like 18 = .ok (.ireturn, 1) := by decide +kernel
theorem dL_lock_0 : decode cL_lock 0 = .ok (.aload_n 1, 1) := by decide +kernel
theorem dL_lock_1 : decode cL_lock 1 = .ok (.iconst 0, 1) := by decide +kernel
theorem dL_lock_2 : decode cL_lock 2 = .ok (.aload_n 0, 1) := by decide +kernel
theorem dL_lock_3 : decode cL_lock 3 = .ok (.invokevirtual 25, 3) := by decide +kernel
theorem dL_lock_6 : decode cL_lock 6 = .ok (.i2l, 1) := by decide +kernel
theorem dL_lock_7 : decode cL_lock 7 = .ok (.lastore, 1) := by decide +kernel
theorem dL_lock_8 : decode cL_lock 8 = .ok (.goto 9, 3) := by decide +kernel
theorem dL_lock_11 : decode cL_lock 11 = .ok (.astore_n 2, 1) := by decide +kernel
theorem dL_lock_12 : decode cL_lock 12 = .ok (.iconst 1, 1) := by decide +kernel
theorem dL_lock_13 : decode cL_lock 13 = .ok (.ireturn, 1) := by decide +kernel
theorem dL_lock_14 : decode cL_lock 14 = .ok (.astore_n 2, 1) := by decide +kernel
theorem dL_lock_15 : decode cL_lock 15 = .ok (.iconst 2, 1) := by decide +kernel
theorem dL_lock_16 : decode cL_lock 16 = .ok (.ireturn, 1) := by decide +kernel
theorem dL_lock_17 : decode cL_lock 17 = .ok (.iconst 0, 1) := by decide +kernel
theorem dL_lock_18 : decode cL_lock 18 = .ok (.ireturn, 1) := by decide +kernel
theorem dL_octet_0 : decode cL_octet 0 = .ok (.aload 4, 2) := by decide +kernel
theorem dL_octet_2 : decode cL_octet 2 = .ok (.iconst 0, 1) := by decide +kernel
theorem dL_octet_3 : decode cL_octet 3 = .ok (.aload_n 0, 1) := by decide +kernel
theorem dL_octet_4 : decode cL_octet 4 = .ok (.iload_n 1, 1) := by decide +kernel
theorem dL_octet_5 : decode cL_octet 5 = .ok (.iload_n 2, 1) := by decide +kernel
theorem dL_octet_6 : decode cL_octet 6 = .ok (.iload_n 3, 1) := by decide +kernel
theorem dL_octet_7 : decode cL_octet 7 = .ok (.invokevirtual 54, 3) := by decide +kernel
theorem dL_octet_10 : decode cL_octet 10 = .ok (.i2l, 1) := by decide +kernel
theorem dL_octet_11 : decode cL_octet 11 = .ok (.lastore, 1) := by decide +kernel
theorem dL_octet_12 : decode cL_octet 12 = .ok (.goto 7, 3) := by decide +kernel
theorem dL_octet_15 : decode cL_octet 15 = .ok (.astore 5, 2) := by decide +kernel
theorem dL_octet_17 : decode cL_octet 17 = .ok (.iconst 1, 1) := by decide +kernel
theorem dL_octet_18 : decode cL_octet 18 = .ok (.ireturn, 1) := by decide +kernel
theorem dL_octet_19 : decode cL_octet 19 = .ok (.iconst 0, 1) := by decide +kernel
theorem dL_octet_20 : decode cL_octet 20 = .ok (.ireturn, 1) := by decide +kernel
theorem dL_origin_0 : decode cL_origin 0 = .ok (.aload_n 3, 1) := by decide +kernel
theorem dL_origin_1 : decode cL_origin 1 = .ok (.iconst 0, 1) := by decide +kernel
theorem dL_origin_2 : decode cL_origin 2 = .ok (.aload_n 0, 1) := by decide +kernel
theorem dL_origin_3 : decode cL_origin 3 = .ok (.iload_n 1, 1) := by decide +kernel
theorem dL_origin_4 : decode cL_origin 4 = .ok (.iload_n 2, 1) := by decide +kernel
theorem dL_origin_5 : decode cL_origin 5 = .ok (.invokevirtual 58, 3) := by decide +kernel
theorem dL_origin_8 : decode cL_origin 8 = .ok (.i2l, 1) := by decide +kernel
theorem dL_origin_9 : decode cL_origin 9 = .ok (.lastore, 1) := by decide +kernel
theorem dL_origin_10 : decode cL_origin 10 = .ok (.goto 7, 3) := by decide +kernel
theorem dL_origin_13 : decode cL_origin 13 = .ok (.astore 4, 2) := by decide +kernel
theorem dL_origin_15 : decode cL_origin 15 = .ok (.iconst 1, 1) := by decide +kernel
theorem dL_origin_16 : decode cL_origin 16 = .ok (.ireturn, 1) := by decide +kernel
theorem dL_origin_17 : decode cL_origin 17 = .ok (.iconst 0, 1) := by decide +kernel
theorem dL_origin_18 : decode cL_origin 18 = .ok (.ireturn, 1) := by decide +kernel
theorem dL_piece_0 : decode cL_piece 0 = .ok (.aload_n 3, 1) := by decide +kernel
theorem dL_piece_1 : decode cL_piece 1 = .ok (.iconst 0, 1) := by decide +kernel
theorem dL_piece_2 : decode cL_piece 2 = .ok (.aload_n 0, 1) := by decide +kernel
theorem dL_piece_3 : decode cL_piece 3 = .ok (.iload_n 1, 1) := by decide +kernel
theorem dL_piece_4 : decode cL_piece 4 = .ok (.iload_n 2, 1) := by decide +kernel
theorem dL_piece_5 : decode cL_piece 5 = .ok (.invokevirtual 49, 3) := by decide +kernel
theorem dL_piece_8 : decode cL_piece 8 = .ok (.i2l, 1) := by decide +kernel
theorem dL_piece_9 : decode cL_piece 9 = .ok (.lastore, 1) := by decide +kernel
theorem dL_piece_10 : decode cL_piece 10 = .ok (.goto 11, 3) := by decide +kernel
theorem dL_piece_13 : decode cL_piece 13 = .ok (.astore 4, 2) := by decide +kernel
theorem dL_piece_15 : decode cL_piece 15 = .ok (.iconst 1, 1) := by decide +kernel
theorem dL_piece_16 : decode cL_piece 16 = .ok (.ireturn, 1) := by decide +kernel
theorem dL_piece_17 : decode cL_piece 17 = .ok (.astore 4, 2) := by decide +kernel
theorem dL_piece_19 : decode cL_piece 19 = .ok (.iconst 2, 1) := by decide +kernel
theorem dL_piece_20 : decode cL_piece 20 = .ok (.ireturn, 1) := by decide +kernel
theorem dL_piece_21 : decode cL_piece 21 = .ok (.iconst 0, 1) := by decide +kernel
theorem dL_piece_22 : decode cL_piece 22 = .ok (.ireturn, 1) := by decide +kernel
theorem dL_rule_0 : decode cL_rule 0 = .ok (.aload_n 3, 1) := by decide +kernel
theorem dL_rule_1 : decode cL_rule 1 = .ok (.iconst 0, 1) := by decide +kernel
theorem dL_rule_2 : decode cL_rule 2 = .ok (.aload_n 0, 1) := by decide +kernel
theorem dL_rule_3 : decode cL_rule 3 = .ok (.iload_n 1, 1) := by decide +kernel
theorem dL_rule_4 : decode cL_rule 4 = .ok (.iload_n 2, 1) := by decide +kernel
theorem dL_rule_5 : decode cL_rule 5 = .ok (.invokevirtual 19, 3) := by decide +kernel
theorem dL_rule_8 : decode cL_rule 8 = .ok (.i2l, 1) := by decide +kernel
theorem dL_rule_9 : decode cL_rule 9 = .ok (.lastore, 1) := by decide +kernel
theorem dL_rule_10 : decode cL_rule 10 = .ok (.goto 11, 3) := by decide +kernel
theorem dL_rule_13 : decode cL_rule 13 = .ok (.astore 4, 2) := by decide +kernel
theorem dL_rule_15 : decode cL_rule 15 = .ok (.iconst 1, 1) := by decide +kernel
theorem dL_rule_16 : decode cL_rule 16 = .ok (.ireturn, 1) := by decide +kernel
theorem dL_rule_17 : decode cL_rule 17 = .ok (.astore 4, 2) := by decide +kernel
theorem dL_rule_19 : decode cL_rule 19 = .ok (.iconst 2, 1) := by decide +kernel
theorem dL_rule_20 : decode cL_rule 20 = .ok (.ireturn, 1) := by decide +kernel
theorem dL_rule_21 : decode cL_rule 21 = .ok (.iconst 0, 1) := by decide +kernel
theorem dL_rule_22 : decode cL_rule 22 = .ok (.ireturn, 1) := by decide +kernel
theorem dL_spread_0 : decode cL_spread 0 = .ok (.aload_n 2, 1) := by decide +kernel
theorem dL_spread_1 : decode cL_spread 1 = .ok (.iconst 0, 1) := by decide +kernel
theorem dL_spread_2 : decode cL_spread 2 = .ok (.aload_n 0, 1) := by decide +kernel
theorem dL_spread_3 : decode cL_spread 3 = .ok (.iload_n 1, 1) := by decide +kernel
theorem dL_spread_4 : decode cL_spread 4 = .ok (.invokevirtual 37, 3) := by decide +kernel
theorem dL_spread_7 : decode cL_spread 7 = .ok (.i2l, 1) := by decide +kernel
theorem dL_spread_8 : decode cL_spread 8 = .ok (.lastore, 1) := by decide +kernel
theorem dL_spread_9 : decode cL_spread 9 = .ok (.goto 6, 3) := by decide +kernel
theorem dL_spread_12 : decode cL_spread 12 = .ok (.astore_n 3, 1) := by decide +kernel
theorem dL_spread_13 : decode cL_spread 13 = .ok (.iconst 1, 1) := by decide +kernel
theorem dL_spread_14 : decode cL_spread 14 = .ok (.ireturn, 1) := by decide +kernel
theorem dL_spread_15 : decode cL_spread 15 = .ok (.iconst 0, 1) := by decide +kernel
theorem dL_spread_16 : decode cL_spread 16 = .ok (.ireturn, 1) := by decide +kernel
theorem dL_swap_0 : decode cL_swap 0 = .ok (.aload_n 3, 1) := by decide +kernel
theorem dL_swap_1 : decode cL_swap 1 = .ok (.iconst 0, 1) := by decide +kernel
theorem dL_swap_2 : decode cL_swap 2 = .ok (.aload_n 0, 1) := by decide +kernel
theorem dL_swap_3 : decode cL_swap 3 = .ok (.iload_n 1, 1) := by decide +kernel
theorem dL_swap_4 : decode cL_swap 4 = .ok (.iload_n 2, 1) := by decide +kernel
theorem dL_swap_5 : decode cL_swap 5 = .ok (.invokevirtual 40, 3) := by decide +kernel
theorem dL_swap_8 : decode cL_swap 8 = .ok (.i2l, 1) := by decide +kernel
theorem dL_swap_9 : decode cL_swap 9 = .ok (.lastore, 1) := by decide +kernel
theorem dL_swap_10 : decode cL_swap 10 = .ok (.goto 7, 3) := by decide +kernel
theorem dL_swap_13 : decode cL_swap 13 = .ok (.astore 4, 2) := by decide +kernel
theorem dL_swap_15 : decode cL_swap 15 = .ok (.iconst 1, 1) := by decide +kernel
theorem dL_swap_16 : decode cL_swap 16 = .ok (.ireturn, 1) := by decide +kernel
theorem dL_swap_17 : decode cL_swap 17 = .ok (.iconst 0, 1) := by decide +kernel
theorem dL_swap_18 : decode cL_swap 18 = .ok (.ireturn, 1) := by decide +kernel
theorem dL_tell_0 : decode cL_tell 0 = .ok (.aload_n 2, 1) := by decide +kernel
theorem dL_tell_1 : decode cL_tell 1 = .ok (.iconst 0, 1) := by decide +kernel
theorem dL_tell_2 : decode cL_tell 2 = .ok (.aload_n 0, 1) := by decide +kernel
theorem dL_tell_3 : decode cL_tell 3 = .ok (.iload_n 1, 1) := by decide +kernel
theorem dL_tell_4 : decode cL_tell 4 = .ok (.invokevirtual 30, 3) := by decide +kernel
theorem dL_tell_7 : decode cL_tell 7 = .ok (.i2l, 1) := by decide +kernel
theorem dL_tell_8 : decode cL_tell 8 = .ok (.lastore, 1) := by decide +kernel
theorem dL_tell_9 : decode cL_tell 9 = .ok (.goto 9, 3) := by decide +kernel
theorem dL_tell_12 : decode cL_tell 12 = .ok (.astore_n 3, 1) := by decide +kernel
theorem dL_tell_13 : decode cL_tell 13 = .ok (.iconst 1, 1) := by decide +kernel
theorem dL_tell_14 : decode cL_tell 14 = .ok (.ireturn, 1) := by decide +kernel
theorem dL_tell_15 : decode cL_tell 15 = .ok (.astore_n 3, 1) := by decide +kernel
theorem dL_tell_16 : decode cL_tell 16 = .ok (.iconst 2, 1) := by decide +kernel
theorem dL_tell_17 : decode cL_tell 17 = .ok (.ireturn, 1) := by decide +kernel
theorem dL_tell_18 : decode cL_tell 18 = .ok (.iconst 0, 1) := by decide +kernel
theorem dL_tell_19 : decode cL_tell 19 = .ok (.ireturn, 1) := by decide +kernel
theorem dL_undo_0 : decode cL_undo 0 = .ok (.aload_n 1, 1) := by decide +kernel
theorem dL_undo_1 : decode cL_undo 1 = .ok (.iconst 0, 1) := by decide +kernel
theorem dL_undo_2 : decode cL_undo 2 = .ok (.aload_n 0, 1) := by decide +kernel
theorem dL_undo_3 : decode cL_undo 3 = .ok (.invokevirtual 46, 3) := by decide +kernel
theorem dL_undo_6 : decode cL_undo 6 = .ok (.i2l, 1) := by decide +kernel
theorem dL_undo_7 : decode cL_undo 7 = .ok (.lastore, 1) := by decide +kernel
theorem dL_undo_8 : decode cL_undo 8 = .ok (.goto 6, 3) := by decide +kernel
theorem dL_undo_11 : decode cL_undo 11 = .ok (.astore_n 2, 1) := by decide +kernel
theorem dL_undo_12 : decode cL_undo 12 = .ok (.iconst 1, 1) := by decide +kernel
theorem dL_undo_13 : decode cL_undo 13 = .ok (.ireturn, 1) := by decide +kernel
theorem dL_undo_14 : decode cL_undo 14 = .ok (.iconst 0, 1) := by decide +kernel
theorem dL_undo_15 : decode cL_undo 15 = .ok (.ireturn, 1) := by decide +kernel
theorem dL_wipe_0 : decode cL_wipe 0 = .ok (.aload_n 1, 1) := by decide +kernel
theorem dL_wipe_1 : decode cL_wipe 1 = .ok (.iconst 0, 1) := by decide +kernel
theorem dL_wipe_2 : decode cL_wipe 2 = .ok (.aload_n 0, 1) := by decide +kernel
theorem dL_wipe_3 : decode cL_wipe 3 = .ok (.invokevirtual 43, 3) := by decide +kernel
theorem dL_wipe_6 : decode cL_wipe 6 = .ok (.i2l, 1) := by decide +kernel
theorem dL_wipe_7 : decode cL_wipe 7 = .ok (.lastore, 1) := by decide +kernel
theorem dL_wipe_8 : decode cL_wipe 8 = .ok (.goto 6, 3) := by decide +kernel
theorem dL_wipe_11 : decode cL_wipe 11 = .ok (.astore_n 2, 1) := by decide +kernel
theorem dL_wipe_12 : decode cL_wipe 12 = .ok (.iconst 1, 1) := by decide +kernel
theorem dL_wipe_13 : decode cL_wipe 13 = .ok (.ireturn, 1) := by decide +kernel
theorem dL_wipe_14 : decode cL_wipe 14 = .ok (.iconst 0, 1) := by decide +kernel
theorem dL_wipe_15 : decode cL_wipe 15 = .ok (.ireturn, 1) := by decide +kernel
theorem dL_would_0 : decode cL_would 0 = .ok (.aload_n 2, 1) := by decide +kernel
theorem dL_would_1 : decode cL_would 1 = .ok (.iconst 0, 1) := by decide +kernel
theorem dL_would_2 : decode cL_would 2 = .ok (.aload_n 0, 1) := by decide +kernel
theorem dL_would_3 : decode cL_would 3 = .ok (.iload_n 1, 1) := by decide +kernel
theorem dL_would_4 : decode cL_would 4 = .ok (.invokevirtual 67, 3) := by decide +kernel
theorem dL_would_7 : decode cL_would 7 = .ok (.i2l, 1) := by decide +kernel
theorem dL_would_8 : decode cL_would 8 = .ok (.lastore, 1) := by decide +kernel
theorem dL_would_9 : decode cL_would 9 = .ok (.goto 9, 3) := by decide +kernel
theorem dL_would_12 : decode cL_would 12 = .ok (.astore_n 3, 1) := by decide +kernel
theorem dL_would_13 : decode cL_would 13 = .ok (.iconst 1, 1) := by decide +kernel
theorem dL_would_14 : decode cL_would 14 = .ok (.ireturn, 1) := by decide +kernel
theorem dL_would_15 : decode cL_would 15 = .ok (.astore_n 3, 1) := by decide +kernel
theorem dL_would_16 : decode cL_would 16 = .ok (.iconst 2, 1) := by decide +kernel
theorem dL_would_17 : decode cL_would 17 = .ok (.ireturn, 1) := by decide +kernel
theorem dL_would_18 : decode cL_would 18 = .ok (.iconst 0, 1) := by decide +kernel
theorem dL_would_19 : decode cL_would 19 = .ok (.ireturn, 1) := by decide +kernel
/-! the law's wrappers: what is answered goes into the long row out (id u), a throw becomes a number -/
def QW {α : Type} (cv : α → Int64) (code : String → Int32) (u : Nat) (g0 : Nat → Int64) (r : (α ⊕ String) × HpN) : Option Value → AH → Nat → Prop := fun v' f' n' =>
  (∃ v : α, r.1 = .inl v ∧ v' = some (.int 0) ∧ f' = va_up r.2.1 u (some (.inl (4, 1, .inr (.inl (vp_updL g0 0 (cv v)))))) ∧ n' = r.2.2) ∨ (∃ E : String, r.1 = .inr E ∧ v' = some (.int (code E)) ∧ f' = r.2.1 ∧ r.2.2 ≤ n')
def cvZ (x : Int32) : Int64 := if x = 0 then 0 else 1
theorem cvZ_0 {x : Int32} (h : x = 0) : cvZ x = 0 := if_pos h
theorem cvZ_1 {x : Int32} (h : ¬ x = 0) : cvZ x = 1 := if_neg h
theorem v1_in : vp_in (0 : Int32) 1 := by unfold vp_in; decide
def wc_L_acts (E : String) : Int32 := if E = eA then 1 else 0
set_option maxHeartbeats 1000000 in
theorem wr_L_acts {X : GX} {l : Launch} {f : AH} {n v0 u : Nat} {r : (Int32 ⊕ String) × HpN} {fs : List Value} {g0 : Nat → Int64} (hl0 : l.stackTraces = false) (hx : f v0 = some (.inr (8, fs))) (h : mX8_acts v0 f n = some r) (hE : ∀ E : String, r.1 = .inr E → E = eA) (hu : ∀ v, r.1 = .inl v → r.2.1 u = some (.inl (4, 1, .inr (.inl g0)))) : AMW X l yL_acts cL_acts 3 (some .int) [(0, 8, 11, 13)] 8 108 2412 [.ref v0, .ref u] f n (QW Int32.toInt64 wc_L_acts u g0 r) := by
  refine AMW.of (by decide +kernel) rfl (Nat.le_of_ble_eq_true rfl) (fun p e s m args below meth c C htab => ?_)
  refine aw_nl [some (.ref v0), some (.ref u), none] rfl ?_
  refine aw_ald_n C dL_acts_0 rfl ?_
  refine aw_iconst C 0 dL_acts_1 ki_0 ?_
  refine aw_ald_n C dL_acts_2 rfl ?_
  refine ax_callV C (ci := 8) (b := v0) [] mv_L_7 rfl rfl hx (rmX8_acts hl0 h) rfl dL_acts_3 (Nat.le_of_ble_eq_true rfl) (Nat.le_of_ble_eq_true rfl) rfl (Nat.le_of_ble_eq_true rfl) (Nat.le_of_ble_eq_true rfl) (Nat.le_of_ble_eq_true rfl) (fun E9 f9 n9 hq => ?_) (fun v9 f9 n9 hq => ?_)
  · obtain ⟨e1, rfl, e3⟩ := hq
    rcases hE E9 e1 with rfl
    refine at_catch C htab [] ⟨0, 8, 11, 13⟩ [] rfl (fun z hz => nomatch hz) (by decide) (by decide) cl_L_13 (by decide) (ah_astore_n C dL_acts_11 (by decide) rfl ?_)
    refine aw_iconst C 1 dL_acts_12 ki_1 ?_
    exact aw_iret C rfl rfl dL_acts_13 (Nat.le_of_ble_eq_true rfl) (Nat.le_of_ble_eq_true rfl) (Or.inr ⟨_, e1, by decide, rfl, e3⟩)
  · obtain ⟨y1, e1, rfl, rfl, rfl⟩ := hq
    refine aw_i2l C dL_acts_6 ?_
    refine aw_last C (hu _ e1) v1_in dL_acts_7 ?_
    refine aw_goto C 14 dL_acts_8 (by decide) ?_
    refine aw_iconst C 0 dL_acts_14 ki_0 ?_
    exact aw_iret C rfl rfl dL_acts_15 (Nat.le_of_ble_eq_true rfl) (Nat.le_of_ble_eq_true rfl) (Or.inl ⟨_, e1, rfl, rfl, rfl⟩)
def wc_L_kind (E : String) : Int32 := if E = eA then 1 else 0
set_option maxHeartbeats 1000000 in
theorem wr_L_kind {X : GX} {l : Launch} {f : AH} {n v0 u : Nat} {v1 : Int32} {v2 : Int32} {r : (Int32 ⊕ String) × HpN} {fs : List Value} {g0 : Nat → Int64} (hl0 : l.stackTraces = false) (hx : f v0 = some (.inr (8, fs))) (h : mX8_kind v0 v1 v2 f n = some r) (hE : ∀ E : String, r.1 = .inr E → E = eA) (hu : ∀ v, r.1 = .inl v → r.2.1 u = some (.inl (4, 1, .inr (.inl g0)))) : AMW X l yL_kind cL_kind 5 (some .int) [(0, 10, 13, 13)] 8 5 130 [.ref v0, .int v1, .int v2, .ref u] f n (QW Int32.toInt64 wc_L_kind u g0 r) := by
  refine AMW.of (by decide +kernel) rfl (Nat.le_of_ble_eq_true rfl) (fun p e s m args below meth c C htab => ?_)
  refine aw_nl [some (.ref v0), some (.int v1), some (.int v2), some (.ref u), none] rfl ?_
  refine aw_ald_n C dL_kind_0 rfl ?_
  refine aw_iconst C 0 dL_kind_1 ki_0 ?_
  refine aw_ald_n C dL_kind_2 rfl ?_
  refine aw_iload_n C dL_kind_3 rfl ?_
  refine aw_iload_n C dL_kind_4 rfl ?_
  refine ax_callV C (ci := 8) (b := v0) [.int v1, .int v2] mv_L_15 rfl rfl hx (rmX8_kind hl0 h) rfl dL_kind_5 (Nat.le_of_ble_eq_true rfl) (Nat.le_of_ble_eq_true rfl) rfl (Nat.le_of_ble_eq_true rfl) (Nat.le_of_ble_eq_true rfl) (Nat.le_of_ble_eq_true rfl) (fun E9 f9 n9 hq => ?_) (fun v9 f9 n9 hq => ?_)
  · obtain ⟨e1, rfl, e3⟩ := hq
    rcases hE E9 e1 with rfl
    refine at_catch C htab [] ⟨0, 10, 13, 13⟩ [] rfl (fun z hz => nomatch hz) (by decide) (by decide) cl_L_13 (by decide) (ah_astore C dL_kind_13 (by decide) rfl ?_)
    refine aw_iconst C 1 dL_kind_15 ki_1 ?_
    exact aw_iret C rfl rfl dL_kind_16 (Nat.le_of_ble_eq_true rfl) (Nat.le_of_ble_eq_true rfl) (Or.inr ⟨_, e1, by decide, rfl, e3⟩)
  · obtain ⟨y1, e1, rfl, rfl, rfl⟩ := hq
    refine aw_i2l C dL_kind_8 ?_
    refine aw_last C (hu _ e1) v1_in dL_kind_9 ?_
    refine aw_goto C 17 dL_kind_10 (by decide) ?_
    refine aw_iconst C 0 dL_kind_17 ki_0 ?_
    exact aw_iret C rfl rfl dL_kind_18 (Nat.le_of_ble_eq_true rfl) (Nat.le_of_ble_eq_true rfl) (Or.inl ⟨_, e1, rfl, rfl, rfl⟩)
def wc_L_rule (E : String) : Int32 := if E = eN then 1 else if E = eA then 2 else 0
set_option maxHeartbeats 1000000 in
theorem wr_L_rule {X : GX} {l : Launch} {f : AH} {n v0 u : Nat} {v1 : Int32} {v2 : Int32} {r : (Int32 ⊕ String) × HpN} {fs : List Value} {g0 : Nat → Int64} (hl0 : l.stackTraces = false) (hx : f v0 = some (.inr (8, fs))) (h : mX8_rule v0 v1 v2 f n = some r) (hE : ∀ E : String, r.1 = .inr E → E = eN ∨ E = eA) (hu : ∀ v, r.1 = .inl v → r.2.1 u = some (.inl (4, 1, .inr (.inl g0)))) : AMW X l yL_rule cL_rule 5 (some .int) [(0, 10, 13, 23), (0, 10, 17, 13)] 8 5 130 [.ref v0, .int v1, .int v2, .ref u] f n (QW Int32.toInt64 wc_L_rule u g0 r) := by
  refine AMW.of (by decide +kernel) rfl (Nat.le_of_ble_eq_true rfl) (fun p e s m args below meth c C htab => ?_)
  refine aw_nl [some (.ref v0), some (.int v1), some (.int v2), some (.ref u), none] rfl ?_
  refine aw_ald_n C dL_rule_0 rfl ?_
  refine aw_iconst C 0 dL_rule_1 ki_0 ?_
  refine aw_ald_n C dL_rule_2 rfl ?_
  refine aw_iload_n C dL_rule_3 rfl ?_
  refine aw_iload_n C dL_rule_4 rfl ?_
  refine ax_callV C (ci := 8) (b := v0) [.int v1, .int v2] mv_L_19 rfl rfl hx (rmX8_rule hl0 h) rfl dL_rule_5 (Nat.le_of_ble_eq_true rfl) (Nat.le_of_ble_eq_true rfl) rfl (Nat.le_of_ble_eq_true rfl) (Nat.le_of_ble_eq_true rfl) (Nat.le_of_ble_eq_true rfl) (fun E9 f9 n9 hq => ?_) (fun v9 f9 n9 hq => ?_)
  · obtain ⟨e1, rfl, e3⟩ := hq
    rcases hE E9 e1 with rfl | rfl
    · refine at_catch C htab [] ⟨0, 10, 13, 23⟩ [⟨0, 10, 17, 13⟩] rfl (fun z hz => nomatch hz) (by decide) (by decide) cl_L_23 (by decide) (ah_astore C dL_rule_13 (by decide) rfl ?_)
      refine aw_iconst C 1 dL_rule_15 ki_1 ?_
      exact aw_iret C rfl rfl dL_rule_16 (Nat.le_of_ble_eq_true rfl) (Nat.le_of_ble_eq_true rfl) (Or.inr ⟨_, e1, by decide, rfl, e3⟩)
    · refine at_catch C htab [⟨0, 10, 13, 23⟩] ⟨0, 10, 17, 13⟩ [] rfl (fun z hz => by rw [List.mem_singleton.mp hz]; exact Or.inr ⟨by decide, _, cl_L_23, by decide⟩) (by decide) (by decide) cl_L_13 (by decide) (ah_astore C dL_rule_17 (by decide) rfl ?_)
      refine aw_iconst C 2 dL_rule_19 ki_2 ?_
      exact aw_iret C rfl rfl dL_rule_20 (Nat.le_of_ble_eq_true rfl) (Nat.le_of_ble_eq_true rfl) (Or.inr ⟨_, e1, by decide, rfl, e3⟩)
  · obtain ⟨y1, e1, rfl, rfl, rfl⟩ := hq
    refine aw_i2l C dL_rule_8 ?_
    refine aw_last C (hu _ e1) v1_in dL_rule_9 ?_
    refine aw_goto C 21 dL_rule_10 (by decide) ?_
    refine aw_iconst C 0 dL_rule_21 ki_0 ?_
    exact aw_iret C rfl rfl dL_rule_22 (Nat.le_of_ble_eq_true rfl) (Nat.le_of_ble_eq_true rfl) (Or.inl ⟨_, e1, rfl, rfl, rfl⟩)
def wc_L_lock (E : String) : Int32 := if E = eA then 1 else if E = eS then 2 else 0
set_option maxHeartbeats 1000000 in
theorem wr_L_lock {X : GX} {l : Launch} {f : AH} {n v0 u : Nat} {r : (Int32 ⊕ String) × HpN} {fs : List Value} {g0 : Nat → Int64} (hl0 : l.stackTraces = false) (hx : f v0 = some (.inr (8, fs))) (h : mX8_lock v0 f n = some r) (hE : ∀ E : String, r.1 = .inr E → E = eA ∨ E = eS) (hu : ∀ v, r.1 = .inl v → r.2.1 u = some (.inl (4, 1, .inr (.inl g0)))) : AMW X l yL_lock cL_lock 3 (some .int) [(0, 8, 11, 13), (0, 8, 14, 28)] 8 7 140 [.ref v0, .ref u] f n (QW Int32.toInt64 wc_L_lock u g0 r) := by
  refine AMW.of (by decide +kernel) rfl (Nat.le_of_ble_eq_true rfl) (fun p e s m args below meth c C htab => ?_)
  refine aw_nl [some (.ref v0), some (.ref u), none] rfl ?_
  refine aw_ald_n C dL_lock_0 rfl ?_
  refine aw_iconst C 0 dL_lock_1 ki_0 ?_
  refine aw_ald_n C dL_lock_2 rfl ?_
  refine ax_callV C (ci := 8) (b := v0) [] mv_L_25 rfl rfl hx (rmX8_lock hl0 h) rfl dL_lock_3 (Nat.le_of_ble_eq_true rfl) (Nat.le_of_ble_eq_true rfl) rfl (Nat.le_of_ble_eq_true rfl) (Nat.le_of_ble_eq_true rfl) (Nat.le_of_ble_eq_true rfl) (fun E9 f9 n9 hq => ?_) (fun v9 f9 n9 hq => ?_)
  · obtain ⟨e1, rfl, e3⟩ := hq
    rcases hE E9 e1 with rfl | rfl
    · refine at_catch C htab [] ⟨0, 8, 11, 13⟩ [⟨0, 8, 14, 28⟩] rfl (fun z hz => nomatch hz) (by decide) (by decide) cl_L_13 (by decide) (ah_astore_n C dL_lock_11 (by decide) rfl ?_)
      refine aw_iconst C 1 dL_lock_12 ki_1 ?_
      exact aw_iret C rfl rfl dL_lock_13 (Nat.le_of_ble_eq_true rfl) (Nat.le_of_ble_eq_true rfl) (Or.inr ⟨_, e1, by decide, rfl, e3⟩)
    · refine at_catch C htab [⟨0, 8, 11, 13⟩] ⟨0, 8, 14, 28⟩ [] rfl (fun z hz => by rw [List.mem_singleton.mp hz]; exact Or.inr ⟨by decide, _, cl_L_13, by decide⟩) (by decide) (by decide) cl_L_28 (by decide) (ah_astore_n C dL_lock_14 (by decide) rfl ?_)
      refine aw_iconst C 2 dL_lock_15 ki_2 ?_
      exact aw_iret C rfl rfl dL_lock_16 (Nat.le_of_ble_eq_true rfl) (Nat.le_of_ble_eq_true rfl) (Or.inr ⟨_, e1, by decide, rfl, e3⟩)
  · obtain ⟨y1, e1, rfl, rfl, rfl⟩ := hq
    refine aw_i2l C dL_lock_6 ?_
    refine aw_last C (hu _ e1) v1_in dL_lock_7 ?_
    refine aw_goto C 17 dL_lock_8 (by decide) ?_
    refine aw_iconst C 0 dL_lock_17 ki_0 ?_
    exact aw_iret C rfl rfl dL_lock_18 (Nat.le_of_ble_eq_true rfl) (Nat.le_of_ble_eq_true rfl) (Or.inl ⟨_, e1, rfl, rfl, rfl⟩)
def wc_L_tell (E : String) : Int32 := if E = eA then 1 else if E = eS then 2 else 0
set_option maxHeartbeats 1000000 in
theorem wr_L_tell {X : GX} {l : Launch} {f : AH} {n v0 u : Nat} {v1 : Int32} {r : (Int32 ⊕ String) × HpN} {fs : List Value} {g0 : Nat → Int64} (hl0 : l.stackTraces = false) (hx : f v0 = some (.inr (8, fs))) (h : mX8_tell v0 v1 f n = some r) (hE : ∀ E : String, r.1 = .inr E → E = eA ∨ E = eS) (hu : ∀ v, r.1 = .inl v → r.2.1 u = some (.inl (4, 1, .inr (.inl g0)))) : AMW X l yL_tell cL_tell 4 (some .int) [(0, 9, 12, 13), (0, 9, 15, 28)] 8 7 192 [.ref v0, .int v1, .ref u] f n (QW Int32.toInt64 wc_L_tell u g0 r) := by
  refine AMW.of (by decide +kernel) rfl (Nat.le_of_ble_eq_true rfl) (fun p e s m args below meth c C htab => ?_)
  refine aw_nl [some (.ref v0), some (.int v1), some (.ref u), none] rfl ?_
  refine aw_ald_n C dL_tell_0 rfl ?_
  refine aw_iconst C 0 dL_tell_1 ki_0 ?_
  refine aw_ald_n C dL_tell_2 rfl ?_
  refine aw_iload_n C dL_tell_3 rfl ?_
  refine ax_callV C (ci := 8) (b := v0) [.int v1] mv_L_30 rfl rfl hx (rmX8_tell hl0 h) rfl dL_tell_4 (Nat.le_of_ble_eq_true rfl) (Nat.le_of_ble_eq_true rfl) rfl (Nat.le_of_ble_eq_true rfl) (Nat.le_of_ble_eq_true rfl) (Nat.le_of_ble_eq_true rfl) (fun E9 f9 n9 hq => ?_) (fun v9 f9 n9 hq => ?_)
  · obtain ⟨e1, rfl, e3⟩ := hq
    rcases hE E9 e1 with rfl | rfl
    · refine at_catch C htab [] ⟨0, 9, 12, 13⟩ [⟨0, 9, 15, 28⟩] rfl (fun z hz => nomatch hz) (by decide) (by decide) cl_L_13 (by decide) (ah_astore_n C dL_tell_12 (by decide) rfl ?_)
      refine aw_iconst C 1 dL_tell_13 ki_1 ?_
      exact aw_iret C rfl rfl dL_tell_14 (Nat.le_of_ble_eq_true rfl) (Nat.le_of_ble_eq_true rfl) (Or.inr ⟨_, e1, by decide, rfl, e3⟩)
    · refine at_catch C htab [⟨0, 9, 12, 13⟩] ⟨0, 9, 15, 28⟩ [] rfl (fun z hz => by rw [List.mem_singleton.mp hz]; exact Or.inr ⟨by decide, _, cl_L_13, by decide⟩) (by decide) (by decide) cl_L_28 (by decide) (ah_astore_n C dL_tell_15 (by decide) rfl ?_)
      refine aw_iconst C 2 dL_tell_16 ki_2 ?_
      exact aw_iret C rfl rfl dL_tell_17 (Nat.le_of_ble_eq_true rfl) (Nat.le_of_ble_eq_true rfl) (Or.inr ⟨_, e1, by decide, rfl, e3⟩)
  · obtain ⟨y1, e1, rfl, rfl, rfl⟩ := hq
    refine aw_i2l C dL_tell_7 ?_
    refine aw_last C (hu _ e1) v1_in dL_tell_8 ?_
    refine aw_goto C 18 dL_tell_9 (by decide) ?_
    refine aw_iconst C 0 dL_tell_18 ki_0 ?_
    exact aw_iret C rfl rfl dL_tell_19 (Nat.le_of_ble_eq_true rfl) (Nat.le_of_ble_eq_true rfl) (Or.inl ⟨_, e1, rfl, rfl, rfl⟩)
def wc_L_free (E : String) : Int32 := if E = eS then 1 else 0
set_option maxHeartbeats 1000000 in
theorem wr_L_free {X : GX} {l : Launch} {f : AH} {n v0 u : Nat} {v1 : Int32} {r : (Int32 ⊕ String) × HpN} {fs : List Value} {g0 : Nat → Int64} (hl0 : l.stackTraces = false) (hx : f v0 = some (.inr (8, fs))) (h : mX8_free v0 v1 f n = some r) (hE : ∀ E : String, r.1 = .inr E → E = eS) (hu : ∀ v, r.1 = .inl v → r.2.1 u = some (.inl (4, 1, .inr (.inl g0)))) : AMW X l yL_free cL_free 4 (some .int) [(0, 9, 12, 28)] 8 5 130 [.ref v0, .int v1, .ref u] f n (QW Int32.toInt64 wc_L_free u g0 r) := by
  refine AMW.of (by decide +kernel) rfl (Nat.le_of_ble_eq_true rfl) (fun p e s m args below meth c C htab => ?_)
  refine aw_nl [some (.ref v0), some (.int v1), some (.ref u), none] rfl ?_
  refine aw_ald_n C dL_free_0 rfl ?_
  refine aw_iconst C 0 dL_free_1 ki_0 ?_
  refine aw_ald_n C dL_free_2 rfl ?_
  refine aw_iload_n C dL_free_3 rfl ?_
  refine ax_callV C (ci := 8) (b := v0) [.int v1] mv_L_34 rfl rfl hx (rmX8_free hl0 h) rfl dL_free_4 (Nat.le_of_ble_eq_true rfl) (Nat.le_of_ble_eq_true rfl) rfl (Nat.le_of_ble_eq_true rfl) (Nat.le_of_ble_eq_true rfl) (Nat.le_of_ble_eq_true rfl) (fun E9 f9 n9 hq => ?_) (fun v9 f9 n9 hq => ?_)
  · obtain ⟨e1, rfl, e3⟩ := hq
    rcases hE E9 e1 with rfl
    refine at_catch C htab [] ⟨0, 9, 12, 28⟩ [] rfl (fun z hz => nomatch hz) (by decide) (by decide) cl_L_28 (by decide) (ah_astore_n C dL_free_12 (by decide) rfl ?_)
    refine aw_iconst C 1 dL_free_13 ki_1 ?_
    exact aw_iret C rfl rfl dL_free_14 (Nat.le_of_ble_eq_true rfl) (Nat.le_of_ble_eq_true rfl) (Or.inr ⟨_, e1, by decide, rfl, e3⟩)
  · obtain ⟨y1, e1, rfl, rfl, rfl⟩ := hq
    refine aw_i2l C dL_free_7 ?_
    refine aw_last C (hu _ e1) v1_in dL_free_8 ?_
    refine aw_goto C 15 dL_free_9 (by decide) ?_
    refine aw_iconst C 0 dL_free_15 ki_0 ?_
    exact aw_iret C rfl rfl dL_free_16 (Nat.le_of_ble_eq_true rfl) (Nat.le_of_ble_eq_true rfl) (Or.inl ⟨_, e1, rfl, rfl, rfl⟩)
def wc_L_spread (E : String) : Int32 := if E = eS then 1 else 0
set_option maxHeartbeats 1000000 in
theorem wr_L_spread {X : GX} {l : Launch} {f : AH} {n v0 u : Nat} {v1 : Int32} {r : (Int32 ⊕ String) × HpN} {fs : List Value} {g0 : Nat → Int64} (hl0 : l.stackTraces = false) (hx : f v0 = some (.inr (8, fs))) (h : mX8_spread v0 v1 f n = some r) (hE : ∀ E : String, r.1 = .inr E → E = eS) (hu : ∀ v, r.1 = .inl v → r.2.1 u = some (.inl (4, 1, .inr (.inl g0)))) : AMW X l yL_spread cL_spread 4 (some .int) [(0, 9, 12, 28)] 8 5 130 [.ref v0, .int v1, .ref u] f n (QW Int32.toInt64 wc_L_spread u g0 r) := by
  refine AMW.of (by decide +kernel) rfl (Nat.le_of_ble_eq_true rfl) (fun p e s m args below meth c C htab => ?_)
  refine aw_nl [some (.ref v0), some (.int v1), some (.ref u), none] rfl ?_
  refine aw_ald_n C dL_spread_0 rfl ?_
  refine aw_iconst C 0 dL_spread_1 ki_0 ?_
  refine aw_ald_n C dL_spread_2 rfl ?_
  refine aw_iload_n C dL_spread_3 rfl ?_
  refine ax_callV C (ci := 8) (b := v0) [.int v1] mv_L_37 rfl rfl hx (rmX8_spread hl0 h) rfl dL_spread_4 (Nat.le_of_ble_eq_true rfl) (Nat.le_of_ble_eq_true rfl) rfl (Nat.le_of_ble_eq_true rfl) (Nat.le_of_ble_eq_true rfl) (Nat.le_of_ble_eq_true rfl) (fun E9 f9 n9 hq => ?_) (fun v9 f9 n9 hq => ?_)
  · obtain ⟨e1, rfl, e3⟩ := hq
    rcases hE E9 e1 with rfl
    refine at_catch C htab [] ⟨0, 9, 12, 28⟩ [] rfl (fun z hz => nomatch hz) (by decide) (by decide) cl_L_28 (by decide) (ah_astore_n C dL_spread_12 (by decide) rfl ?_)
    refine aw_iconst C 1 dL_spread_13 ki_1 ?_
    exact aw_iret C rfl rfl dL_spread_14 (Nat.le_of_ble_eq_true rfl) (Nat.le_of_ble_eq_true rfl) (Or.inr ⟨_, e1, by decide, rfl, e3⟩)
  · obtain ⟨y1, e1, rfl, rfl, rfl⟩ := hq
    refine aw_i2l C dL_spread_7 ?_
    refine aw_last C (hu _ e1) v1_in dL_spread_8 ?_
    refine aw_goto C 15 dL_spread_9 (by decide) ?_
    refine aw_iconst C 0 dL_spread_15 ki_0 ?_
    exact aw_iret C rfl rfl dL_spread_16 (Nat.le_of_ble_eq_true rfl) (Nat.le_of_ble_eq_true rfl) (Or.inl ⟨_, e1, rfl, rfl, rfl⟩)
def wc_L_swap (E : String) : Int32 := if E = eS then 1 else 0
set_option maxHeartbeats 1000000 in
theorem wr_L_swap {X : GX} {l : Launch} {f : AH} {n v0 u : Nat} {v1 : Int32} {v2 : Int32} {r : (Int32 ⊕ String) × HpN} {fs : List Value} {g0 : Nat → Int64} (hl0 : l.stackTraces = false) (hx : f v0 = some (.inr (8, fs))) (h : mX8_swap v0 v1 v2 f n = some r) (hE : ∀ E : String, r.1 = .inr E → E = eS) (hu : ∀ v, r.1 = .inl v → r.2.1 u = some (.inl (4, 1, .inr (.inl g0)))) : AMW X l yL_swap cL_swap 5 (some .int) [(0, 10, 13, 28)] 8 5 130 [.ref v0, .int v1, .int v2, .ref u] f n (QW Int32.toInt64 wc_L_swap u g0 r) := by
  refine AMW.of (by decide +kernel) rfl (Nat.le_of_ble_eq_true rfl) (fun p e s m args below meth c C htab => ?_)
  refine aw_nl [some (.ref v0), some (.int v1), some (.int v2), some (.ref u), none] rfl ?_
  refine aw_ald_n C dL_swap_0 rfl ?_
  refine aw_iconst C 0 dL_swap_1 ki_0 ?_
  refine aw_ald_n C dL_swap_2 rfl ?_
  refine aw_iload_n C dL_swap_3 rfl ?_
  refine aw_iload_n C dL_swap_4 rfl ?_
  refine ax_callV C (ci := 8) (b := v0) [.int v1, .int v2] mv_L_40 rfl rfl hx (rmX8_swap hl0 h) rfl dL_swap_5 (Nat.le_of_ble_eq_true rfl) (Nat.le_of_ble_eq_true rfl) rfl (Nat.le_of_ble_eq_true rfl) (Nat.le_of_ble_eq_true rfl) (Nat.le_of_ble_eq_true rfl) (fun E9 f9 n9 hq => ?_) (fun v9 f9 n9 hq => ?_)
  · obtain ⟨e1, rfl, e3⟩ := hq
    rcases hE E9 e1 with rfl
    refine at_catch C htab [] ⟨0, 10, 13, 28⟩ [] rfl (fun z hz => nomatch hz) (by decide) (by decide) cl_L_28 (by decide) (ah_astore C dL_swap_13 (by decide) rfl ?_)
    refine aw_iconst C 1 dL_swap_15 ki_1 ?_
    exact aw_iret C rfl rfl dL_swap_16 (Nat.le_of_ble_eq_true rfl) (Nat.le_of_ble_eq_true rfl) (Or.inr ⟨_, e1, by decide, rfl, e3⟩)
  · obtain ⟨y1, e1, rfl, rfl, rfl⟩ := hq
    refine aw_i2l C dL_swap_8 ?_
    refine aw_last C (hu _ e1) v1_in dL_swap_9 ?_
    refine aw_goto C 17 dL_swap_10 (by decide) ?_
    refine aw_iconst C 0 dL_swap_17 ki_0 ?_
    exact aw_iret C rfl rfl dL_swap_18 (Nat.le_of_ble_eq_true rfl) (Nat.le_of_ble_eq_true rfl) (Or.inl ⟨_, e1, rfl, rfl, rfl⟩)
def wc_L_wipe (E : String) : Int32 := if E = eS then 1 else 0
set_option maxHeartbeats 1000000 in
theorem wr_L_wipe {X : GX} {l : Launch} {f : AH} {n v0 u : Nat} {r : (Int32 ⊕ String) × HpN} {fs : List Value} {g0 : Nat → Int64} (hl0 : l.stackTraces = false) (hx : f v0 = some (.inr (8, fs))) (h : mX8_wipe v0 f n = some r) (hE : ∀ E : String, r.1 = .inr E → E = eS) (hu : ∀ v, r.1 = .inl v → r.2.1 u = some (.inl (4, 1, .inr (.inl g0)))) : AMW X l yL_wipe cL_wipe 3 (some .int) [(0, 8, 11, 28)] 8 5 130 [.ref v0, .ref u] f n (QW Int32.toInt64 wc_L_wipe u g0 r) := by
  refine AMW.of (by decide +kernel) rfl (Nat.le_of_ble_eq_true rfl) (fun p e s m args below meth c C htab => ?_)
  refine aw_nl [some (.ref v0), some (.ref u), none] rfl ?_
  refine aw_ald_n C dL_wipe_0 rfl ?_
  refine aw_iconst C 0 dL_wipe_1 ki_0 ?_
  refine aw_ald_n C dL_wipe_2 rfl ?_
  refine ax_callV C (ci := 8) (b := v0) [] mv_L_43 rfl rfl hx (rmX8_wipe hl0 h) rfl dL_wipe_3 (Nat.le_of_ble_eq_true rfl) (Nat.le_of_ble_eq_true rfl) rfl (Nat.le_of_ble_eq_true rfl) (Nat.le_of_ble_eq_true rfl) (Nat.le_of_ble_eq_true rfl) (fun E9 f9 n9 hq => ?_) (fun v9 f9 n9 hq => ?_)
  · obtain ⟨e1, rfl, e3⟩ := hq
    rcases hE E9 e1 with rfl
    refine at_catch C htab [] ⟨0, 8, 11, 28⟩ [] rfl (fun z hz => nomatch hz) (by decide) (by decide) cl_L_28 (by decide) (ah_astore_n C dL_wipe_11 (by decide) rfl ?_)
    refine aw_iconst C 1 dL_wipe_12 ki_1 ?_
    exact aw_iret C rfl rfl dL_wipe_13 (Nat.le_of_ble_eq_true rfl) (Nat.le_of_ble_eq_true rfl) (Or.inr ⟨_, e1, by decide, rfl, e3⟩)
  · obtain ⟨y1, e1, rfl, rfl, rfl⟩ := hq
    refine aw_i2l C dL_wipe_6 ?_
    refine aw_last C (hu _ e1) v1_in dL_wipe_7 ?_
    refine aw_goto C 14 dL_wipe_8 (by decide) ?_
    refine aw_iconst C 0 dL_wipe_14 ki_0 ?_
    exact aw_iret C rfl rfl dL_wipe_15 (Nat.le_of_ble_eq_true rfl) (Nat.le_of_ble_eq_true rfl) (Or.inl ⟨_, e1, rfl, rfl, rfl⟩)
def wc_L_undo (E : String) : Int32 := if E = eS then 1 else 0
set_option maxHeartbeats 1000000 in
theorem wr_L_undo {X : GX} {l : Launch} {f : AH} {n v0 u : Nat} {r : (Int32 ⊕ String) × HpN} {fs : List Value} {g0 : Nat → Int64} (hl0 : l.stackTraces = false) (hx : f v0 = some (.inr (8, fs))) (h : mX8_undo v0 f n = some r) (hE : ∀ E : String, r.1 = .inr E → E = eS) (hu : ∀ v, r.1 = .inl v → r.2.1 u = some (.inl (4, 1, .inr (.inl g0)))) : AMW X l yL_undo cL_undo 3 (some .int) [(0, 8, 11, 28)] 7 1 6 [.ref v0, .ref u] f n (QW Int32.toInt64 wc_L_undo u g0 r) := by
  refine AMW.of (by decide +kernel) rfl (Nat.le_of_ble_eq_true rfl) (fun p e s m args below meth c C htab => ?_)
  refine aw_nl [some (.ref v0), some (.ref u), none] rfl ?_
  refine aw_ald_n C dL_undo_0 rfl ?_
  refine aw_iconst C 0 dL_undo_1 ki_0 ?_
  refine aw_ald_n C dL_undo_2 rfl ?_
  refine ax_callV C (ci := 8) (b := v0) [] mv_L_46 rfl rfl hx (rmX8_undo hl0 h) rfl dL_undo_3 (Nat.le_of_ble_eq_true rfl) (Nat.le_of_ble_eq_true rfl) rfl (Nat.le_of_ble_eq_true rfl) (Nat.le_of_ble_eq_true rfl) (Nat.le_of_ble_eq_true rfl) (fun E9 f9 n9 hq => ?_) (fun v9 f9 n9 hq => ?_)
  · obtain ⟨e1, rfl, e3⟩ := hq
    rcases hE E9 e1 with rfl
    refine at_catch C htab [] ⟨0, 8, 11, 28⟩ [] rfl (fun z hz => nomatch hz) (by decide) (by decide) cl_L_28 (by decide) (ah_astore_n C dL_undo_11 (by decide) rfl ?_)
    refine aw_iconst C 1 dL_undo_12 ki_1 ?_
    exact aw_iret C rfl rfl dL_undo_13 (Nat.le_of_ble_eq_true rfl) (Nat.le_of_ble_eq_true rfl) (Or.inr ⟨_, e1, by decide, rfl, e3⟩)
  · obtain ⟨y1, e1, rfl, rfl, rfl⟩ := hq
    refine aw_i2l C dL_undo_6 ?_
    refine aw_last C (hu _ e1) v1_in dL_undo_7 ?_
    refine aw_goto C 14 dL_undo_8 (by decide) ?_
    refine aw_iconst C 0 dL_undo_14 ki_0 ?_
    exact aw_iret C rfl rfl dL_undo_15 (Nat.le_of_ble_eq_true rfl) (Nat.le_of_ble_eq_true rfl) (Or.inl ⟨_, e1, rfl, rfl, rfl⟩)
def wc_L_piece (E : String) : Int32 := if E = eI then 1 else if E = eN then 2 else 0
set_option maxHeartbeats 1000000 in
theorem wr_L_piece {X : GX} {l : Launch} {f : AH} {n v0 u : Nat} {v1 : Int32} {v2 : Int32} {r : (Int32 ⊕ String) × HpN} {fs : List Value} {g0 : Nat → Int64} (hl0 : l.stackTraces = false) (hx : f v0 = some (.inr (8, fs))) (h : mX8_piece v0 v1 v2 f n = some r) (hE : ∀ E : String, r.1 = .inr E → E = eI ∨ E = eN) (hu : ∀ v, r.1 = .inl v → r.2.1 u = some (.inl (4, 1, .inr (.inl g0)))) : AMW X l yL_piece cL_piece 5 (some .int) [(0, 10, 13, 52), (0, 10, 17, 23)] 8 2 12 [.ref v0, .int v1, .int v2, .ref u] f n (QW Int32.toInt64 wc_L_piece u g0 r) := by
  refine AMW.of (by decide +kernel) rfl (Nat.le_of_ble_eq_true rfl) (fun p e s m args below meth c C htab => ?_)
  refine aw_nl [some (.ref v0), some (.int v1), some (.int v2), some (.ref u), none] rfl ?_
  refine aw_ald_n C dL_piece_0 rfl ?_
  refine aw_iconst C 0 dL_piece_1 ki_0 ?_
  refine aw_ald_n C dL_piece_2 rfl ?_
  refine aw_iload_n C dL_piece_3 rfl ?_
  refine aw_iload_n C dL_piece_4 rfl ?_
  refine ax_callV C (ci := 8) (b := v0) [.int v1, .int v2] mv_L_49 rfl rfl hx (rmX8_piece hl0 h) rfl dL_piece_5 (Nat.le_of_ble_eq_true rfl) (Nat.le_of_ble_eq_true rfl) rfl (Nat.le_of_ble_eq_true rfl) (Nat.le_of_ble_eq_true rfl) (Nat.le_of_ble_eq_true rfl) (fun E9 f9 n9 hq => ?_) (fun v9 f9 n9 hq => ?_)
  · obtain ⟨e1, rfl, e3⟩ := hq
    rcases hE E9 e1 with rfl | rfl
    · refine at_catch C htab [] ⟨0, 10, 13, 52⟩ [⟨0, 10, 17, 23⟩] rfl (fun z hz => nomatch hz) (by decide) (by decide) cl_L_52 (by decide) (ah_astore C dL_piece_13 (by decide) rfl ?_)
      refine aw_iconst C 1 dL_piece_15 ki_1 ?_
      exact aw_iret C rfl rfl dL_piece_16 (Nat.le_of_ble_eq_true rfl) (Nat.le_of_ble_eq_true rfl) (Or.inr ⟨_, e1, by decide, rfl, e3⟩)
    · refine at_catch C htab [⟨0, 10, 13, 52⟩] ⟨0, 10, 17, 23⟩ [] rfl (fun z hz => by rw [List.mem_singleton.mp hz]; exact Or.inr ⟨by decide, _, cl_L_52, by decide⟩) (by decide) (by decide) cl_L_23 (by decide) (ah_astore C dL_piece_17 (by decide) rfl ?_)
      refine aw_iconst C 2 dL_piece_19 ki_2 ?_
      exact aw_iret C rfl rfl dL_piece_20 (Nat.le_of_ble_eq_true rfl) (Nat.le_of_ble_eq_true rfl) (Or.inr ⟨_, e1, by decide, rfl, e3⟩)
  · obtain ⟨y1, e1, rfl, rfl, rfl⟩ := hq
    refine aw_i2l C dL_piece_8 ?_
    refine aw_last C (hu _ e1) v1_in dL_piece_9 ?_
    refine aw_goto C 21 dL_piece_10 (by decide) ?_
    refine aw_iconst C 0 dL_piece_21 ki_0 ?_
    exact aw_iret C rfl rfl dL_piece_22 (Nat.le_of_ble_eq_true rfl) (Nat.le_of_ble_eq_true rfl) (Or.inl ⟨_, e1, rfl, rfl, rfl⟩)
def wc_L_octet (E : String) : Int32 := if E = eI then 1 else 0
set_option maxHeartbeats 1000000 in
theorem wr_L_octet {X : GX} {l : Launch} {f : AH} {n v0 u : Nat} {v1 : Int32} {v2 : Int32} {v3 : Int32} {r : (Int32 ⊕ String) × HpN} {fs : List Value} {g0 : Nat → Int64} (hl0 : l.stackTraces = false) (hx : f v0 = some (.inr (8, fs))) (h : mX8_octet v0 v1 v2 v3 f n = some r) (hE : ∀ E : String, r.1 = .inr E → E = eI) (hu : ∀ v, r.1 = .inl v → r.2.1 u = some (.inl (4, 1, .inr (.inl g0)))) : AMW X l yL_octet cL_octet 6 (some .int) [(0, 12, 15, 52)] 8 1 6 [.ref v0, .int v1, .int v2, .int v3, .ref u] f n (QW Int32.toInt64 wc_L_octet u g0 r) := by
  refine AMW.of (by decide +kernel) rfl (Nat.le_of_ble_eq_true rfl) (fun p e s m args below meth c C htab => ?_)
  refine aw_nl [some (.ref v0), some (.int v1), some (.int v2), some (.int v3), some (.ref u), none] rfl ?_
  refine aw_ald C dL_octet_0 rfl ?_
  refine aw_iconst C 0 dL_octet_2 ki_0 ?_
  refine aw_ald_n C dL_octet_3 rfl ?_
  refine aw_iload_n C dL_octet_4 rfl ?_
  refine aw_iload_n C dL_octet_5 rfl ?_
  refine aw_iload_n C dL_octet_6 rfl ?_
  refine ax_callV C (ci := 8) (b := v0) [.int v1, .int v2, .int v3] mv_L_54 rfl rfl hx (rmX8_octet hl0 h) rfl dL_octet_7 (Nat.le_of_ble_eq_true rfl) (Nat.le_of_ble_eq_true rfl) rfl (Nat.le_of_ble_eq_true rfl) (Nat.le_of_ble_eq_true rfl) (Nat.le_of_ble_eq_true rfl) (fun E9 f9 n9 hq => ?_) (fun v9 f9 n9 hq => ?_)
  · obtain ⟨e1, rfl, e3⟩ := hq
    rcases hE E9 e1 with rfl
    refine at_catch C htab [] ⟨0, 12, 15, 52⟩ [] rfl (fun z hz => nomatch hz) (by decide) (by decide) cl_L_52 (by decide) (ah_astore C dL_octet_15 (by decide) rfl ?_)
    refine aw_iconst C 1 dL_octet_17 ki_1 ?_
    exact aw_iret C rfl rfl dL_octet_18 (Nat.le_of_ble_eq_true rfl) (Nat.le_of_ble_eq_true rfl) (Or.inr ⟨_, e1, by decide, rfl, e3⟩)
  · obtain ⟨y1, e1, rfl, rfl, rfl⟩ := hq
    refine aw_i2l C dL_octet_10 ?_
    refine aw_last C (hu _ e1) v1_in dL_octet_11 ?_
    refine aw_goto C 19 dL_octet_12 (by decide) ?_
    refine aw_iconst C 0 dL_octet_19 ki_0 ?_
    exact aw_iret C rfl rfl dL_octet_20 (Nat.le_of_ble_eq_true rfl) (Nat.le_of_ble_eq_true rfl) (Or.inl ⟨_, e1, rfl, rfl, rfl⟩)
def wc_L_origin (E : String) : Int32 := if E = eI then 1 else 0
set_option maxHeartbeats 1000000 in
theorem wr_L_origin {X : GX} {l : Launch} {f : AH} {n v0 u : Nat} {v1 : Int32} {v2 : Int32} {r : (Int32 ⊕ String) × HpN} {fs : List Value} {g0 : Nat → Int64} (hl0 : l.stackTraces = false) (hx : f v0 = some (.inr (8, fs))) (h : mX8_origin v0 v1 v2 f n = some r) (hE : ∀ E : String, r.1 = .inr E → E = eI) (hu : ∀ v, r.1 = .inl v → r.2.1 u = some (.inl (4, 1, .inr (.inl g0)))) : AMW X l yL_origin cL_origin 5 (some .int) [(0, 10, 13, 52)] 8 1 6 [.ref v0, .int v1, .int v2, .ref u] f n (QW Int32.toInt64 wc_L_origin u g0 r) := by
  refine AMW.of (by decide +kernel) rfl (Nat.le_of_ble_eq_true rfl) (fun p e s m args below meth c C htab => ?_)
  refine aw_nl [some (.ref v0), some (.int v1), some (.int v2), some (.ref u), none] rfl ?_
  refine aw_ald_n C dL_origin_0 rfl ?_
  refine aw_iconst C 0 dL_origin_1 ki_0 ?_
  refine aw_ald_n C dL_origin_2 rfl ?_
  refine aw_iload_n C dL_origin_3 rfl ?_
  refine aw_iload_n C dL_origin_4 rfl ?_
  refine ax_callV C (ci := 8) (b := v0) [.int v1, .int v2] mv_L_58 rfl rfl hx (rmX8_origin hl0 h) rfl dL_origin_5 (Nat.le_of_ble_eq_true rfl) (Nat.le_of_ble_eq_true rfl) rfl (Nat.le_of_ble_eq_true rfl) (Nat.le_of_ble_eq_true rfl) (Nat.le_of_ble_eq_true rfl) (fun E9 f9 n9 hq => ?_) (fun v9 f9 n9 hq => ?_)
  · obtain ⟨e1, rfl, e3⟩ := hq
    rcases hE E9 e1 with rfl
    refine at_catch C htab [] ⟨0, 10, 13, 52⟩ [] rfl (fun z hz => nomatch hz) (by decide) (by decide) cl_L_52 (by decide) (ah_astore C dL_origin_13 (by decide) rfl ?_)
    refine aw_iconst C 1 dL_origin_15 ki_1 ?_
    exact aw_iret C rfl rfl dL_origin_16 (Nat.le_of_ble_eq_true rfl) (Nat.le_of_ble_eq_true rfl) (Or.inr ⟨_, e1, by decide, rfl, e3⟩)
  · obtain ⟨y1, e1, rfl, rfl, rfl⟩ := hq
    refine aw_i2l C dL_origin_8 ?_
    refine aw_last C (hu _ e1) v1_in dL_origin_9 ?_
    refine aw_goto C 17 dL_origin_10 (by decide) ?_
    refine aw_iconst C 0 dL_origin_17 ki_0 ?_
    exact aw_iret C rfl rfl dL_origin_18 (Nat.le_of_ble_eq_true rfl) (Nat.le_of_ble_eq_true rfl) (Or.inl ⟨_, e1, rfl, rfl, rfl⟩)
def wc_L_key (E : String) : Int32 := if E = eI then 1 else if E = eN then 2 else 0
set_option maxHeartbeats 1000000 in
theorem wr_L_key {X : GX} {l : Launch} {f : AH} {n v0 u : Nat} {v1 : Int32} {v2 : Int32} {r : (Int32 ⊕ String) × HpN} {fs : List Value} {g0 : Nat → Int64} (hl0 : l.stackTraces = false) (hx : f v0 = some (.inr (8, fs))) (h : mX8_key v0 v1 v2 f n = some r) (hE : ∀ E : String, r.1 = .inr E → E = eI ∨ E = eN) (hu : ∀ v, r.1 = .inl v → r.2.1 u = some (.inl (4, 1, .inr (.inl g0)))) : AMW X l yL_key cL_key 5 (some .int) [(0, 10, 13, 52), (0, 10, 17, 23)] 8 2 12 [.ref v0, .int v1, .int v2, .ref u] f n (QW Int32.toInt64 wc_L_key u g0 r) := by
  refine AMW.of (by decide +kernel) rfl (Nat.le_of_ble_eq_true rfl) (fun p e s m args below meth c C htab => ?_)
  refine aw_nl [some (.ref v0), some (.int v1), some (.int v2), some (.ref u), none] rfl ?_
  refine aw_ald_n C dL_key_0 rfl ?_
  refine aw_iconst C 0 dL_key_1 ki_0 ?_
  refine aw_ald_n C dL_key_2 rfl ?_
  refine aw_iload_n C dL_key_3 rfl ?_
  refine aw_iload_n C dL_key_4 rfl ?_
  refine ax_callV C (ci := 8) (b := v0) [.int v1, .int v2] mv_L_61 rfl rfl hx (rmX8_key hl0 h) rfl dL_key_5 (Nat.le_of_ble_eq_true rfl) (Nat.le_of_ble_eq_true rfl) rfl (Nat.le_of_ble_eq_true rfl) (Nat.le_of_ble_eq_true rfl) (Nat.le_of_ble_eq_true rfl) (fun E9 f9 n9 hq => ?_) (fun v9 f9 n9 hq => ?_)
  · obtain ⟨e1, rfl, e3⟩ := hq
    rcases hE E9 e1 with rfl | rfl
    · refine at_catch C htab [] ⟨0, 10, 13, 52⟩ [⟨0, 10, 17, 23⟩] rfl (fun z hz => nomatch hz) (by decide) (by decide) cl_L_52 (by decide) (ah_astore C dL_key_13 (by decide) rfl ?_)
      refine aw_iconst C 1 dL_key_15 ki_1 ?_
      exact aw_iret C rfl rfl dL_key_16 (Nat.le_of_ble_eq_true rfl) (Nat.le_of_ble_eq_true rfl) (Or.inr ⟨_, e1, by decide, rfl, e3⟩)
    · refine at_catch C htab [⟨0, 10, 13, 52⟩] ⟨0, 10, 17, 23⟩ [] rfl (fun z hz => by rw [List.mem_singleton.mp hz]; exact Or.inr ⟨by decide, _, cl_L_52, by decide⟩) (by decide) (by decide) cl_L_23 (by decide) (ah_astore C dL_key_17 (by decide) rfl ?_)
      refine aw_iconst C 2 dL_key_19 ki_2 ?_
      exact aw_iret C rfl rfl dL_key_20 (Nat.le_of_ble_eq_true rfl) (Nat.le_of_ble_eq_true rfl) (Or.inr ⟨_, e1, by decide, rfl, e3⟩)
  · obtain ⟨y1, e1, rfl, rfl, rfl⟩ := hq
    refine aw_i2l C dL_key_8 ?_
    refine aw_last C (hu _ e1) v1_in dL_key_9 ?_
    refine aw_goto C 21 dL_key_10 (by decide) ?_
    refine aw_iconst C 0 dL_key_21 ki_0 ?_
    exact aw_iret C rfl rfl dL_key_22 (Nat.le_of_ble_eq_true rfl) (Nat.le_of_ble_eq_true rfl) (Or.inl ⟨_, e1, rfl, rfl, rfl⟩)
def wc_L_like (E : String) : Int32 := if E = eI then 1 else 0
set_option maxHeartbeats 1000000 in
theorem wr_L_like {X : GX} {l : Launch} {f : AH} {n v0 u : Nat} {v1 : Int32} {v2 : Int32} {r : (Int32 ⊕ String) × HpN} {fs : List Value} {g0 : Nat → Int64} (hl0 : l.stackTraces = false) (hx : f v0 = some (.inr (8, fs))) (h : mX8_like v0 v1 v2 f n = some r) (hE : ∀ E : String, r.1 = .inr E → E = eI) (hu : ∀ v, r.1 = .inl v → r.2.1 u = some (.inl (4, 1, .inr (.inl g0)))) : AMW X l yL_like cL_like 5 (some .int) [(0, 10, 13, 52)] 8 1 6 [.ref v0, .int v1, .int v2, .ref u] f n (QW Int32.toInt64 wc_L_like u g0 r) := by
  refine AMW.of (by decide +kernel) rfl (Nat.le_of_ble_eq_true rfl) (fun p e s m args below meth c C htab => ?_)
  refine aw_nl [some (.ref v0), some (.int v1), some (.int v2), some (.ref u), none] rfl ?_
  refine aw_ald_n C dL_like_0 rfl ?_
  refine aw_iconst C 0 dL_like_1 ki_0 ?_
  refine aw_ald_n C dL_like_2 rfl ?_
  refine aw_iload_n C dL_like_3 rfl ?_
  refine aw_iload_n C dL_like_4 rfl ?_
  refine ax_callV C (ci := 8) (b := v0) [.int v1, .int v2] mv_L_64 rfl rfl hx (rmX8_like hl0 h) rfl dL_like_5 (Nat.le_of_ble_eq_true rfl) (Nat.le_of_ble_eq_true rfl) rfl (Nat.le_of_ble_eq_true rfl) (Nat.le_of_ble_eq_true rfl) (Nat.le_of_ble_eq_true rfl) (fun E9 f9 n9 hq => ?_) (fun v9 f9 n9 hq => ?_)
  · obtain ⟨e1, rfl, e3⟩ := hq
    rcases hE E9 e1 with rfl
    refine at_catch C htab [] ⟨0, 10, 13, 52⟩ [] rfl (fun z hz => nomatch hz) (by decide) (by decide) cl_L_52 (by decide) (ah_astore C dL_like_13 (by decide) rfl ?_)
    refine aw_iconst C 1 dL_like_15 ki_1 ?_
    exact aw_iret C rfl rfl dL_like_16 (Nat.le_of_ble_eq_true rfl) (Nat.le_of_ble_eq_true rfl) (Or.inr ⟨_, e1, by decide, rfl, e3⟩)
  · obtain ⟨y1, e1, rfl, rfl, rfl⟩ := hq
    refine aw_i2l C dL_like_8 ?_
    refine aw_last C (hu _ e1) v1_in dL_like_9 ?_
    refine aw_goto C 17 dL_like_10 (by decide) ?_
    refine aw_iconst C 0 dL_like_17 ki_0 ?_
    exact aw_iret C rfl rfl dL_like_18 (Nat.le_of_ble_eq_true rfl) (Nat.le_of_ble_eq_true rfl) (Or.inl ⟨_, e1, rfl, rfl, rfl⟩)
def wc_L_would (E : String) : Int32 := if E = eI then 1 else if E = eA then 2 else 0
set_option maxHeartbeats 1000000 in
theorem wr_L_would {X : GX} {l : Launch} {f : AH} {n v0 u : Nat} {v1 : Int32} {r : (Int32 ⊕ String) × HpN} {fs : List Value} {g0 : Nat → Int64} (hl0 : l.stackTraces = false) (hx : f v0 = some (.inr (8, fs))) (h : mX8_would v0 v1 f n = some r) (hE : ∀ E : String, r.1 = .inr E → E = eI ∨ E = eA) (hu : ∀ v, r.1 = .inl v → r.2.1 u = some (.inl (4, 1, .inr (.inl g0)))) : AMW X l yL_would cL_would 4 (some .int) [(0, 9, 12, 52), (0, 9, 15, 13)] 8 4 74 [.ref v0, .int v1, .ref u] f n (QW Int32.toInt64 wc_L_would u g0 r) := by
  refine AMW.of (by decide +kernel) rfl (Nat.le_of_ble_eq_true rfl) (fun p e s m args below meth c C htab => ?_)
  refine aw_nl [some (.ref v0), some (.int v1), some (.ref u), none] rfl ?_
  refine aw_ald_n C dL_would_0 rfl ?_
  refine aw_iconst C 0 dL_would_1 ki_0 ?_
  refine aw_ald_n C dL_would_2 rfl ?_
  refine aw_iload_n C dL_would_3 rfl ?_
  refine ax_callV C (ci := 8) (b := v0) [.int v1] mv_L_67 rfl rfl hx (rmX8_would hl0 h) rfl dL_would_4 (Nat.le_of_ble_eq_true rfl) (Nat.le_of_ble_eq_true rfl) rfl (Nat.le_of_ble_eq_true rfl) (Nat.le_of_ble_eq_true rfl) (Nat.le_of_ble_eq_true rfl) (fun E9 f9 n9 hq => ?_) (fun v9 f9 n9 hq => ?_)
  · obtain ⟨e1, rfl, e3⟩ := hq
    rcases hE E9 e1 with rfl | rfl
    · refine at_catch C htab [] ⟨0, 9, 12, 52⟩ [⟨0, 9, 15, 13⟩] rfl (fun z hz => nomatch hz) (by decide) (by decide) cl_L_52 (by decide) (ah_astore_n C dL_would_12 (by decide) rfl ?_)
      refine aw_iconst C 1 dL_would_13 ki_1 ?_
      exact aw_iret C rfl rfl dL_would_14 (Nat.le_of_ble_eq_true rfl) (Nat.le_of_ble_eq_true rfl) (Or.inr ⟨_, e1, by decide, rfl, e3⟩)
    · refine at_catch C htab [⟨0, 9, 12, 52⟩] ⟨0, 9, 15, 13⟩ [] rfl (fun z hz => by rw [List.mem_singleton.mp hz]; exact Or.inr ⟨by decide, _, cl_L_52, by decide⟩) (by decide) (by decide) cl_L_13 (by decide) (ah_astore_n C dL_would_15 (by decide) rfl ?_)
      refine aw_iconst C 2 dL_would_16 ki_2 ?_
      exact aw_iret C rfl rfl dL_would_17 (Nat.le_of_ble_eq_true rfl) (Nat.le_of_ble_eq_true rfl) (Or.inr ⟨_, e1, by decide, rfl, e3⟩)
  · obtain ⟨y1, e1, rfl, rfl, rfl⟩ := hq
    refine aw_i2l C dL_would_7 ?_
    refine aw_last C (hu _ e1) v1_in dL_would_8 ?_
    refine aw_goto C 18 dL_would_9 (by decide) ?_
    refine aw_iconst C 0 dL_would_18 ki_0 ?_
    exact aw_iret C rfl rfl dL_would_19 (Nat.le_of_ble_eq_true rfl) (Nat.le_of_ble_eq_true rfl) (Or.inl ⟨_, e1, rfl, rfl, rfl⟩)
def wc_L_found (E : String) : Int32 := if E = eA then 1 else 0
set_option maxHeartbeats 1000000 in
theorem wr_L_found {X : GX} {l : Launch} {f : AH} {n v0 u : Nat} {r : (Int64 ⊕ String) × HpN} {fs : List Value} {g0 : Nat → Int64} (hl0 : l.stackTraces = false) (hx : f v0 = some (.inr (8, fs))) (h : mX8_found v0 f n = some r) (hE : ∀ E : String, r.1 = .inr E → E = eA) (hu : ∀ v, r.1 = .inl v → r.2.1 u = some (.inl (4, 1, .inr (.inl g0)))) : AMW X l yL_found cL_found 3 (some .int) [(0, 7, 10, 13)] 7 3 16 [.ref v0, .ref u] f n (QW id wc_L_found u g0 r) := by
  refine AMW.of (by decide +kernel) rfl (Nat.le_of_ble_eq_true rfl) (fun p e s m args below meth c C htab => ?_)
  refine aw_nl [some (.ref v0), some (.ref u), none] rfl ?_
  refine aw_ald_n C dL_found_0 rfl ?_
  refine aw_iconst C 0 dL_found_1 ki_0 ?_
  refine aw_ald_n C dL_found_2 rfl ?_
  refine ax_callV C (ci := 8) (b := v0) [] mv_L_70 rfl rfl hx (rmX8_found hl0 h) rfl dL_found_3 (Nat.le_of_ble_eq_true rfl) (Nat.le_of_ble_eq_true rfl) rfl (Nat.le_of_ble_eq_true rfl) (Nat.le_of_ble_eq_true rfl) (Nat.le_of_ble_eq_true rfl) (fun E9 f9 n9 hq => ?_) (fun v9 f9 n9 hq => ?_)
  · obtain ⟨e1, rfl, e3⟩ := hq
    rcases hE E9 e1 with rfl
    refine at_catch C htab [] ⟨0, 7, 10, 13⟩ [] rfl (fun z hz => nomatch hz) (by decide) (by decide) cl_L_13 (by decide) (ah_astore_n C dL_found_10 (by decide) rfl ?_)
    refine aw_iconst C 1 dL_found_11 ki_1 ?_
    exact aw_iret C rfl rfl dL_found_12 (Nat.le_of_ble_eq_true rfl) (Nat.le_of_ble_eq_true rfl) (Or.inr ⟨_, e1, by decide, rfl, e3⟩)
  · obtain ⟨y1, e1, rfl, rfl, rfl⟩ := hq
    refine aw_last C (hu _ e1) v1_in dL_found_6 ?_
    refine aw_goto C 13 dL_found_7 (by decide) ?_
    refine aw_iconst C 0 dL_found_13 ki_0 ?_
    exact aw_iret C rfl rfl dL_found_14 (Nat.le_of_ble_eq_true rfl) (Nat.le_of_ble_eq_true rfl) (Or.inl ⟨_, e1, rfl, rfl, rfl⟩)
def wc_L_kept (E : String) : Int32 := if E = eI then 1 else 0
set_option maxHeartbeats 1000000 in
theorem wr_L_kept {X : GX} {l : Launch} {f : AH} {n v0 u : Nat} {v1 : Int32} {r : (Int32 ⊕ String) × HpN} {fs : List Value} {g0 : Nat → Int64} (hl0 : l.stackTraces = false) (hx : f v0 = some (.inr (8, fs))) (h : mX8_kept v0 v1 f n = some r) (hE : ∀ E : String, r.1 = .inr E → E = eI) (hu : ∀ v, r.1 = .inl v → r.2.1 u = some (.inl (4, 1, .inr (.inl g0)))) : AMW X l yL_kept cL_kept 4 (some .int) [(0, 16, 19, 52)] 8 1 6 [.ref v0, .int v1, .ref u] f n (QW cvZ wc_L_kept u g0 r) := by
  refine AMW.of (by decide +kernel) rfl (Nat.le_of_ble_eq_true rfl) (fun p e s m args below meth c C htab => ?_)
  refine aw_nl [some (.ref v0), some (.int v1), some (.ref u), none] rfl ?_
  refine aw_ald_n C dL_kept_0 rfl ?_
  refine aw_iconst C 0 dL_kept_1 ki_0 ?_
  refine aw_ald_n C dL_kept_2 rfl ?_
  refine aw_iload_n C dL_kept_3 rfl ?_
  refine ax_callV C (ci := 8) (b := v0) [.int v1] mv_L_74 rfl rfl hx (rmX8_kept hl0 h) rfl dL_kept_4 (Nat.le_of_ble_eq_true rfl) (Nat.le_of_ble_eq_true rfl) rfl (Nat.le_of_ble_eq_true rfl) (Nat.le_of_ble_eq_true rfl) (Nat.le_of_ble_eq_true rfl) (fun E9 f9 n9 hq => ?_) (fun v9 f9 n9 hq => ?_)
  · obtain ⟨e1, rfl, e3⟩ := hq
    rcases hE E9 e1 with rfl
    refine at_catch C htab [] ⟨0, 16, 19, 52⟩ [] rfl (fun z hz => nomatch hz) (by decide) (by decide) cl_L_52 (by decide) (ah_astore_n C dL_kept_19 (by decide) rfl ?_)
    refine aw_iconst C 1 dL_kept_20 ki_1 ?_
    exact aw_iret C rfl rfl dL_kept_21 (Nat.le_of_ble_eq_true rfl) (Nat.le_of_ble_eq_true rfl) (Or.inr ⟨_, e1, by decide, rfl, e3⟩)
  · obtain ⟨y1, e1, rfl, rfl, rfl⟩ := hq
    refine aw_if_eq C 14 dL_kept_7 (by decide) (fun q => ?_) (fun q => ?_)
    · refine aw_lconst C 0 dL_kept_14 rfl ?_
      refine aw_last C (hu _ e1) v1_in dL_kept_15 ?_
      refine aw_goto C 22 dL_kept_16 (by decide) ?_
      refine aw_iconst C 0 dL_kept_22 ki_0 ?_
      exact aw_iret C rfl rfl dL_kept_23 (Nat.le_of_ble_eq_true rfl) (Nat.le_of_ble_eq_true rfl) (Or.inl ⟨_, e1, rfl, (by rw [cvZ_0 q]; rfl), rfl⟩)
    · refine aw_lconst C 1 dL_kept_10 rfl ?_
      refine aw_goto C 15 dL_kept_11 (by decide) ?_
      refine aw_last C (hu _ e1) v1_in dL_kept_15 ?_
      refine aw_goto C 22 dL_kept_16 (by decide) ?_
      refine aw_iconst C 0 dL_kept_22 ki_0 ?_
      exact aw_iret C rfl rfl dL_kept_23 (Nat.le_of_ble_eq_true rfl) (Nat.le_of_ble_eq_true rfl) (Or.inl ⟨_, e1, rfl, (by rw [cvZ_1 q]; rfl), rfl⟩)
end
/-! part 34a.dec -/
section
theorem kb_31 : (Int8.ofInt 31).toInt32 = 31 := by decide
theorem ki_6 : Int32.ofInt 6 = 6 := by decide
theorem dL_law_23 : decode cL_law 23 = .ok (.iload 4, 2) := by decide +kernel
theorem dL_law_25 : decode cL_law 25 = .ok (.aload_n 0, 1) := by decide +kernel
theorem dL_law_26 : decode cL_law 26 = .ok (.arraylength, 1) := by decide +kernel
theorem dL_law_27 : decode cL_law 27 = .ok (.bipush 6, 2) := by decide +kernel
theorem dL_law_29 : decode cL_law 29 = .ok (.isub, 1) := by decide +kernel
theorem dL_law_30 : decode cL_law 30 = .ok (.if_icmp .gt 1123, 3) := by decide +kernel
theorem dL_law_33 : decode cL_law 33 = .ok (.aload_n 0, 1) := by decide +kernel
theorem dL_law_34 : decode cL_law 34 = .ok (.iload 4, 2) := by decide +kernel
theorem dL_law_36 : decode cL_law 36 = .ok (.iaload, 1) := by decide +kernel
theorem dL_law_37 : decode cL_law 37 = .ok (.bipush 31, 2) := by decide +kernel
theorem dL_law_39 : decode cL_law 39 = .ok (.iand, 1) := by decide +kernel
theorem dL_law_40 : decode cL_law 40 = .ok (.tableswitch 1107 0 30 #[140, 213, 238, 254, 267, 280, 293, 349, 389, 405, 418, 446, 474, 502, 542, 558, 574, 614, 682, 722, 762, 787, 840, 908, 936, 952, 1017, 1045, 1058, 1069, 1082], 140) := by decide +kernel
theorem dL_law_180 : decode cL_law 180 = .ok (.aload_n 1, 1) := by decide +kernel
theorem dL_law_181 : decode cL_law 181 = .ok (.aload_n 0, 1) := by decide +kernel
theorem dL_law_182 : decode cL_law 182 = .ok (.iload 4, 2) := by decide +kernel
theorem dL_law_184 : decode cL_law 184 = .ok (.iconst 1, 1) := by decide +kernel
theorem dL_law_185 : decode cL_law 185 = .ok (.iadd, 1) := by decide +kernel
theorem dL_law_186 : decode cL_law 186 = .ok (.iaload, 1) := by decide +kernel
theorem dL_law_187 : decode cL_law 187 = .ok (.aload_n 0, 1) := by decide +kernel
theorem dL_law_188 : decode cL_law 188 = .ok (.iload 4, 2) := by decide +kernel
theorem dL_law_190 : decode cL_law 190 = .ok (.iconst 2, 1) := by decide +kernel
theorem dL_law_191 : decode cL_law 191 = .ok (.iadd, 1) := by decide +kernel
theorem dL_law_192 : decode cL_law 192 = .ok (.iaload, 1) := by decide +kernel
theorem dL_law_193 : decode cL_law 193 = .ok (.aload_n 0, 1) := by decide +kernel
theorem dL_law_194 : decode cL_law 194 = .ok (.iload 4, 2) := by decide +kernel
theorem dL_law_196 : decode cL_law 196 = .ok (.iconst 3, 1) := by decide +kernel
theorem dL_law_197 : decode cL_law 197 = .ok (.iadd, 1) := by decide +kernel
theorem dL_law_198 : decode cL_law 198 = .ok (.iaload, 1) := by decide +kernel
theorem dL_law_199 : decode cL_law 199 = .ok (.aload_n 0, 1) := by decide +kernel
theorem dL_law_200 : decode cL_law 200 = .ok (.iload 4, 2) := by decide +kernel
theorem dL_law_202 : decode cL_law 202 = .ok (.iconst 4, 1) := by decide +kernel
theorem dL_law_203 : decode cL_law 203 = .ok (.iadd, 1) := by decide +kernel
theorem dL_law_204 : decode cL_law 204 = .ok (.iaload, 1) := by decide +kernel
theorem dL_law_205 : decode cL_law 205 = .ok (.aload_n 0, 1) := by decide +kernel
theorem dL_law_206 : decode cL_law 206 = .ok (.iload 4, 2) := by decide +kernel
theorem dL_law_208 : decode cL_law 208 = .ok (.iconst 5, 1) := by decide +kernel
theorem dL_law_209 : decode cL_law 209 = .ok (.iadd, 1) := by decide +kernel
theorem dL_law_210 : decode cL_law 210 = .ok (.iaload, 1) := by decide +kernel
theorem dL_law_211 : decode cL_law 211 = .ok (.invokevirtual 82, 3) := by decide +kernel
theorem dL_law_214 : decode cL_law 214 = .ok (.pop, 1) := by decide +kernel
theorem dL_law_215 : decode cL_law 215 = .ok (.aload_n 2, 1) := by decide +kernel
theorem dL_law_216 : decode cL_law 216 = .ok (.aload_n 0, 1) := by decide +kernel
theorem dL_law_217 : decode cL_law 217 = .ok (.iload 4, 2) := by decide +kernel
theorem dL_law_219 : decode cL_law 219 = .ok (.iconst 1, 1) := by decide +kernel
theorem dL_law_220 : decode cL_law 220 = .ok (.iadd, 1) := by decide +kernel
theorem dL_law_221 : decode cL_law 221 = .ok (.iaload, 1) := by decide +kernel
theorem dL_law_222 : decode cL_law 222 = .ok (.aload_n 0, 1) := by decide +kernel
theorem dL_law_223 : decode cL_law 223 = .ok (.iload 4, 2) := by decide +kernel
theorem dL_law_225 : decode cL_law 225 = .ok (.iconst 2, 1) := by decide +kernel
theorem dL_law_226 : decode cL_law 226 = .ok (.iadd, 1) := by decide +kernel
theorem dL_law_227 : decode cL_law 227 = .ok (.iaload, 1) := by decide +kernel
theorem dL_law_228 : decode cL_law 228 = .ok (.aload_n 0, 1) := by decide +kernel
theorem dL_law_229 : decode cL_law 229 = .ok (.iload 4, 2) := by decide +kernel
theorem dL_law_231 : decode cL_law 231 = .ok (.iconst 3, 1) := by decide +kernel
theorem dL_law_232 : decode cL_law 232 = .ok (.iadd, 1) := by decide +kernel
theorem dL_law_233 : decode cL_law 233 = .ok (.iaload, 1) := by decide +kernel
theorem dL_law_234 : decode cL_law 234 = .ok (.aload_n 0, 1) := by decide +kernel
theorem dL_law_235 : decode cL_law 235 = .ok (.iload 4, 2) := by decide +kernel
theorem dL_law_237 : decode cL_law 237 = .ok (.iconst 4, 1) := by decide +kernel
theorem dL_law_238 : decode cL_law 238 = .ok (.iadd, 1) := by decide +kernel
theorem dL_law_239 : decode cL_law 239 = .ok (.iaload, 1) := by decide +kernel
theorem dL_law_240 : decode cL_law 240 = .ok (.aload_n 0, 1) := by decide +kernel
theorem dL_law_241 : decode cL_law 241 = .ok (.iload 4, 2) := by decide +kernel
theorem dL_law_243 : decode cL_law 243 = .ok (.iconst 5, 1) := by decide +kernel
theorem dL_law_244 : decode cL_law 244 = .ok (.iadd, 1) := by decide +kernel
theorem dL_law_245 : decode cL_law 245 = .ok (.iaload, 1) := by decide +kernel
theorem dL_law_246 : decode cL_law 246 = .ok (.invokevirtual 86, 3) := by decide +kernel
theorem dL_law_249 : decode cL_law 249 = .ok (.pop, 1) := by decide +kernel
theorem dL_law_250 : decode cL_law 250 = .ok (.goto 897, 3) := by decide +kernel
theorem dL_law_253 : decode cL_law 253 = .ok (.aload_n 1, 1) := by decide +kernel
theorem dL_law_254 : decode cL_law 254 = .ok (.aload_n 0, 1) := by decide +kernel
theorem dL_law_255 : decode cL_law 255 = .ok (.iload 4, 2) := by decide +kernel
theorem dL_law_257 : decode cL_law 257 = .ok (.iconst 1, 1) := by decide +kernel
theorem dL_law_258 : decode cL_law 258 = .ok (.iadd, 1) := by decide +kernel
theorem dL_law_259 : decode cL_law 259 = .ok (.iaload, 1) := by decide +kernel
theorem dL_law_260 : decode cL_law 260 = .ok (.invokevirtual 87, 3) := by decide +kernel
theorem dL_law_263 : decode cL_law 263 = .ok (.pop, 1) := by decide +kernel
theorem dL_law_264 : decode cL_law 264 = .ok (.aload_n 2, 1) := by decide +kernel
theorem dL_law_265 : decode cL_law 265 = .ok (.aload_n 0, 1) := by decide +kernel
theorem dL_law_266 : decode cL_law 266 = .ok (.iload 4, 2) := by decide +kernel
theorem dL_law_268 : decode cL_law 268 = .ok (.iconst 1, 1) := by decide +kernel
theorem dL_law_269 : decode cL_law 269 = .ok (.iadd, 1) := by decide +kernel
theorem dL_law_270 : decode cL_law 270 = .ok (.iaload, 1) := by decide +kernel
theorem dL_law_271 : decode cL_law 271 = .ok (.invokevirtual 90, 3) := by decide +kernel
theorem dL_law_274 : decode cL_law 274 = .ok (.pop, 1) := by decide +kernel
theorem dL_law_275 : decode cL_law 275 = .ok (.goto 872, 3) := by decide +kernel
theorem dL_law_278 : decode cL_law 278 = .ok (.aload_n 1, 1) := by decide +kernel
theorem dL_law_279 : decode cL_law 279 = .ok (.aload_n 3, 1) := by decide +kernel
theorem dL_law_280 : decode cL_law 280 = .ok (.invokestatic 91, 3) := by decide +kernel
theorem dL_law_283 : decode cL_law 283 = .ok (.istore 5, 2) := by decide +kernel
theorem dL_law_285 : decode cL_law 285 = .ok (.aload_n 2, 1) := by decide +kernel
theorem dL_law_286 : decode cL_law 286 = .ok (.invokevirtual 96, 3) := by decide +kernel
theorem dL_law_289 : decode cL_law 289 = .ok (.istore 6, 2) := by decide +kernel
theorem dL_law_291 : decode cL_law 291 = .ok (.goto 856, 3) := by decide +kernel
theorem dL_law_294 : decode cL_law 294 = .ok (.aload_n 1, 1) := by decide +kernel
theorem dL_law_295 : decode cL_law 295 = .ok (.invokevirtual 97, 3) := by decide +kernel
theorem dL_law_298 : decode cL_law 298 = .ok (.pop, 1) := by decide +kernel
theorem dL_law_299 : decode cL_law 299 = .ok (.aload_n 2, 1) := by decide +kernel
theorem dL_law_300 : decode cL_law 300 = .ok (.invokevirtual 100, 3) := by decide +kernel
theorem dL_law_303 : decode cL_law 303 = .ok (.pop, 1) := by decide +kernel
theorem dL_law_304 : decode cL_law 304 = .ok (.goto 843, 3) := by decide +kernel
theorem dL_law_307 : decode cL_law 307 = .ok (.aload_n 1, 1) := by decide +kernel
theorem dL_law_308 : decode cL_law 308 = .ok (.invokevirtual 101, 3) := by decide +kernel
theorem dL_law_311 : decode cL_law 311 = .ok (.pop, 1) := by decide +kernel
theorem dL_law_312 : decode cL_law 312 = .ok (.aload_n 2, 1) := by decide +kernel
theorem dL_law_313 : decode cL_law 313 = .ok (.invokevirtual 104, 3) := by decide +kernel
theorem dL_law_316 : decode cL_law 316 = .ok (.pop, 1) := by decide +kernel
theorem dL_law_317 : decode cL_law 317 = .ok (.goto 830, 3) := by decide +kernel
theorem dL_law_320 : decode cL_law 320 = .ok (.aload_n 1, 1) := by decide +kernel
theorem dL_law_321 : decode cL_law 321 = .ok (.invokevirtual 105, 3) := by decide +kernel
theorem dL_law_324 : decode cL_law 324 = .ok (.pop, 1) := by decide +kernel
theorem dL_law_325 : decode cL_law 325 = .ok (.aload_n 2, 1) := by decide +kernel
theorem dL_law_326 : decode cL_law 326 = .ok (.invokevirtual 108, 3) := by decide +kernel
theorem dL_law_329 : decode cL_law 329 = .ok (.pop, 1) := by decide +kernel
theorem dL_law_330 : decode cL_law 330 = .ok (.goto 817, 3) := by decide +kernel
theorem dL_law_333 : decode cL_law 333 = .ok (.aload_n 1, 1) := by decide +kernel
theorem dL_law_334 : decode cL_law 334 = .ok (.aload_n 0, 1) := by decide +kernel
theorem dL_law_335 : decode cL_law 335 = .ok (.iload 4, 2) := by decide +kernel
theorem dL_law_337 : decode cL_law 337 = .ok (.iconst 1, 1) := by decide +kernel
theorem dL_law_338 : decode cL_law 338 = .ok (.iadd, 1) := by decide +kernel
theorem dL_law_339 : decode cL_law 339 = .ok (.iaload, 1) := by decide +kernel
theorem dL_law_340 : decode cL_law 340 = .ok (.aload_n 0, 1) := by decide +kernel
theorem dL_law_341 : decode cL_law 341 = .ok (.iload 4, 2) := by decide +kernel
theorem dL_law_343 : decode cL_law 343 = .ok (.iconst 2, 1) := by decide +kernel
theorem dL_law_344 : decode cL_law 344 = .ok (.iadd, 1) := by decide +kernel
theorem dL_law_345 : decode cL_law 345 = .ok (.iaload, 1) := by decide +kernel
theorem dL_law_346 : decode cL_law 346 = .ok (.ifCond .eq 7, 3) := by decide +kernel
theorem dL_law_349 : decode cL_law 349 = .ok (.iconst 1, 1) := by decide +kernel
theorem dL_law_350 : decode cL_law 350 = .ok (.goto 4, 3) := by decide +kernel
theorem dL_law_353 : decode cL_law 353 = .ok (.iconst 0, 1) := by decide +kernel
theorem dL_law_354 : decode cL_law 354 = .ok (.aload_n 3, 1) := by decide +kernel
theorem dL_law_355 : decode cL_law 355 = .ok (.invokestatic 109, 3) := by decide +kernel
theorem dL_law_358 : decode cL_law 358 = .ok (.istore 5, 2) := by decide +kernel
theorem dL_law_360 : decode cL_law 360 = .ok (.aload_n 2, 1) := by decide +kernel
theorem dL_law_361 : decode cL_law 361 = .ok (.aload_n 0, 1) := by decide +kernel
theorem dL_law_362 : decode cL_law 362 = .ok (.iload 4, 2) := by decide +kernel
theorem dL_law_364 : decode cL_law 364 = .ok (.iconst 1, 1) := by decide +kernel
theorem dL_law_365 : decode cL_law 365 = .ok (.iadd, 1) := by decide +kernel
theorem dL_law_366 : decode cL_law 366 = .ok (.iaload, 1) := by decide +kernel
theorem dL_law_367 : decode cL_law 367 = .ok (.aload_n 0, 1) := by decide +kernel
theorem dL_law_368 : decode cL_law 368 = .ok (.iload 4, 2) := by decide +kernel
theorem dL_law_370 : decode cL_law 370 = .ok (.iconst 2, 1) := by decide +kernel
theorem dL_law_371 : decode cL_law 371 = .ok (.iadd, 1) := by decide +kernel
theorem dL_law_372 : decode cL_law 372 = .ok (.iaload, 1) := by decide +kernel
theorem dL_law_373 : decode cL_law 373 = .ok (.ifCond .eq 7, 3) := by decide +kernel
theorem dL_law_376 : decode cL_law 376 = .ok (.iconst 1, 1) := by decide +kernel
theorem dL_law_377 : decode cL_law 377 = .ok (.goto 4, 3) := by decide +kernel
theorem dL_law_380 : decode cL_law 380 = .ok (.iconst 0, 1) := by decide +kernel
theorem dL_law_381 : decode cL_law 381 = .ok (.invokevirtual 112, 3) := by decide +kernel
theorem dL_law_384 : decode cL_law 384 = .ok (.istore 6, 2) := by decide +kernel
theorem dL_law_386 : decode cL_law 386 = .ok (.goto 761, 3) := by decide +kernel
theorem dL_law_389 : decode cL_law 389 = .ok (.aload_n 1, 1) := by decide +kernel
theorem dL_law_390 : decode cL_law 390 = .ok (.aload_n 0, 1) := by decide +kernel
theorem dL_law_391 : decode cL_law 391 = .ok (.iload 4, 2) := by decide +kernel
theorem dL_law_393 : decode cL_law 393 = .ok (.iconst 1, 1) := by decide +kernel
theorem dL_law_394 : decode cL_law 394 = .ok (.iadd, 1) := by decide +kernel
theorem dL_law_395 : decode cL_law 395 = .ok (.iaload, 1) := by decide +kernel
theorem dL_law_396 : decode cL_law 396 = .ok (.aload_n 0, 1) := by decide +kernel
theorem dL_law_397 : decode cL_law 397 = .ok (.iload 4, 2) := by decide +kernel
theorem dL_law_399 : decode cL_law 399 = .ok (.iconst 2, 1) := by decide +kernel
theorem dL_law_400 : decode cL_law 400 = .ok (.iadd, 1) := by decide +kernel
theorem dL_law_401 : decode cL_law 401 = .ok (.iaload, 1) := by decide +kernel
theorem dL_law_402 : decode cL_law 402 = .ok (.aload_n 3, 1) := by decide +kernel
theorem dL_law_403 : decode cL_law 403 = .ok (.invokestatic 113, 3) := by decide +kernel
theorem dL_law_406 : decode cL_law 406 = .ok (.istore 5, 2) := by decide +kernel
theorem dL_law_408 : decode cL_law 408 = .ok (.aload_n 2, 1) := by decide +kernel
theorem dL_law_409 : decode cL_law 409 = .ok (.aload_n 0, 1) := by decide +kernel
theorem dL_law_410 : decode cL_law 410 = .ok (.iload 4, 2) := by decide +kernel
theorem dL_law_412 : decode cL_law 412 = .ok (.iconst 1, 1) := by decide +kernel
theorem dL_law_413 : decode cL_law 413 = .ok (.iadd, 1) := by decide +kernel
theorem dL_law_414 : decode cL_law 414 = .ok (.iaload, 1) := by decide +kernel
theorem dL_law_415 : decode cL_law 415 = .ok (.aload_n 0, 1) := by decide +kernel
theorem dL_law_416 : decode cL_law 416 = .ok (.iload 4, 2) := by decide +kernel
theorem dL_law_418 : decode cL_law 418 = .ok (.iconst 2, 1) := by decide +kernel
theorem dL_law_419 : decode cL_law 419 = .ok (.iadd, 1) := by decide +kernel
theorem dL_law_420 : decode cL_law 420 = .ok (.iaload, 1) := by decide +kernel
theorem dL_law_421 : decode cL_law 421 = .ok (.invokevirtual 116, 3) := by decide +kernel
theorem dL_law_424 : decode cL_law 424 = .ok (.istore 6, 2) := by decide +kernel
theorem dL_law_426 : decode cL_law 426 = .ok (.goto 721, 3) := by decide +kernel
theorem dL_law_429 : decode cL_law 429 = .ok (.aload_n 1, 1) := by decide +kernel
theorem dL_law_430 : decode cL_law 430 = .ok (.aload_n 3, 1) := by decide +kernel
theorem dL_law_431 : decode cL_law 431 = .ok (.invokestatic 117, 3) := by decide +kernel
theorem dL_law_434 : decode cL_law 434 = .ok (.istore 5, 2) := by decide +kernel
theorem dL_law_436 : decode cL_law 436 = .ok (.aload_n 2, 1) := by decide +kernel
theorem dL_law_437 : decode cL_law 437 = .ok (.invokevirtual 119, 3) := by decide +kernel
theorem dL_law_440 : decode cL_law 440 = .ok (.istore 6, 2) := by decide +kernel
theorem dL_law_442 : decode cL_law 442 = .ok (.goto 705, 3) := by decide +kernel
theorem dL_law_445 : decode cL_law 445 = .ok (.aload_n 1, 1) := by decide +kernel
theorem dL_law_446 : decode cL_law 446 = .ok (.invokevirtual 120, 3) := by decide +kernel
theorem dL_law_449 : decode cL_law 449 = .ok (.pop, 1) := by decide +kernel
theorem dL_law_450 : decode cL_law 450 = .ok (.aload_n 2, 1) := by decide +kernel
theorem dL_law_451 : decode cL_law 451 = .ok (.invokevirtual 123, 3) := by decide +kernel
theorem dL_law_454 : decode cL_law 454 = .ok (.pop, 1) := by decide +kernel
theorem dL_law_455 : decode cL_law 455 = .ok (.goto 692, 3) := by decide +kernel
theorem dL_law_458 : decode cL_law 458 = .ok (.aload_n 1, 1) := by decide +kernel
theorem dL_law_459 : decode cL_law 459 = .ok (.aload_n 0, 1) := by decide +kernel
theorem dL_law_460 : decode cL_law 460 = .ok (.iload 4, 2) := by decide +kernel
theorem dL_law_462 : decode cL_law 462 = .ok (.iconst 1, 1) := by decide +kernel
theorem dL_law_463 : decode cL_law 463 = .ok (.iadd, 1) := by decide +kernel
theorem dL_law_464 : decode cL_law 464 = .ok (.iaload, 1) := by decide +kernel
theorem dL_law_465 : decode cL_law 465 = .ok (.aload_n 3, 1) := by decide +kernel
theorem dL_law_466 : decode cL_law 466 = .ok (.invokestatic 124, 3) := by decide +kernel
theorem dL_law_469 : decode cL_law 469 = .ok (.istore 5, 2) := by decide +kernel
theorem dL_law_471 : decode cL_law 471 = .ok (.aload_n 2, 1) := by decide +kernel
theorem dL_law_472 : decode cL_law 472 = .ok (.aload_n 0, 1) := by decide +kernel
theorem dL_law_473 : decode cL_law 473 = .ok (.iload 4, 2) := by decide +kernel
theorem dL_law_475 : decode cL_law 475 = .ok (.iconst 1, 1) := by decide +kernel
theorem dL_law_476 : decode cL_law 476 = .ok (.iadd, 1) := by decide +kernel
theorem dL_law_477 : decode cL_law 477 = .ok (.iaload, 1) := by decide +kernel
theorem dL_law_478 : decode cL_law 478 = .ok (.invokevirtual 127, 3) := by decide +kernel
theorem dL_law_481 : decode cL_law 481 = .ok (.istore 6, 2) := by decide +kernel
theorem dL_law_483 : decode cL_law 483 = .ok (.goto 664, 3) := by decide +kernel
theorem dL_law_486 : decode cL_law 486 = .ok (.aload_n 1, 1) := by decide +kernel
theorem dL_law_487 : decode cL_law 487 = .ok (.aload_n 0, 1) := by decide +kernel
theorem dL_law_488 : decode cL_law 488 = .ok (.iload 4, 2) := by decide +kernel
theorem dL_law_490 : decode cL_law 490 = .ok (.iconst 1, 1) := by decide +kernel
theorem dL_law_491 : decode cL_law 491 = .ok (.iadd, 1) := by decide +kernel
theorem dL_law_492 : decode cL_law 492 = .ok (.iaload, 1) := by decide +kernel
theorem dL_law_493 : decode cL_law 493 = .ok (.aload_n 3, 1) := by decide +kernel
theorem dL_law_494 : decode cL_law 494 = .ok (.invokestatic 128, 3) := by decide +kernel
theorem dL_law_497 : decode cL_law 497 = .ok (.istore 5, 2) := by decide +kernel
theorem dL_law_499 : decode cL_law 499 = .ok (.aload_n 2, 1) := by decide +kernel
theorem dL_law_500 : decode cL_law 500 = .ok (.aload_n 0, 1) := by decide +kernel
theorem dL_law_501 : decode cL_law 501 = .ok (.iload 4, 2) := by decide +kernel
theorem dL_law_503 : decode cL_law 503 = .ok (.iconst 1, 1) := by decide +kernel
theorem dL_law_504 : decode cL_law 504 = .ok (.iadd, 1) := by decide +kernel
theorem dL_law_505 : decode cL_law 505 = .ok (.iaload, 1) := by decide +kernel
theorem dL_law_506 : decode cL_law 506 = .ok (.invokevirtual 130, 3) := by decide +kernel
theorem dL_law_509 : decode cL_law 509 = .ok (.istore 6, 2) := by decide +kernel
theorem dL_law_511 : decode cL_law 511 = .ok (.goto 636, 3) := by decide +kernel
theorem dL_law_514 : decode cL_law 514 = .ok (.aload_n 1, 1) := by decide +kernel
theorem dL_law_515 : decode cL_law 515 = .ok (.aload_n 0, 1) := by decide +kernel
theorem dL_law_516 : decode cL_law 516 = .ok (.iload 4, 2) := by decide +kernel
theorem dL_law_518 : decode cL_law 518 = .ok (.iconst 1, 1) := by decide +kernel
theorem dL_law_519 : decode cL_law 519 = .ok (.iadd, 1) := by decide +kernel
theorem dL_law_520 : decode cL_law 520 = .ok (.iaload, 1) := by decide +kernel
theorem dL_law_521 : decode cL_law 521 = .ok (.aload_n 3, 1) := by decide +kernel
theorem dL_law_522 : decode cL_law 522 = .ok (.invokestatic 131, 3) := by decide +kernel
theorem dL_law_525 : decode cL_law 525 = .ok (.istore 5, 2) := by decide +kernel
theorem dL_law_527 : decode cL_law 527 = .ok (.aload_n 2, 1) := by decide +kernel
theorem dL_law_528 : decode cL_law 528 = .ok (.aload_n 0, 1) := by decide +kernel
theorem dL_law_529 : decode cL_law 529 = .ok (.iload 4, 2) := by decide +kernel
theorem dL_law_531 : decode cL_law 531 = .ok (.iconst 1, 1) := by decide +kernel
theorem dL_law_532 : decode cL_law 532 = .ok (.iadd, 1) := by decide +kernel
theorem dL_law_533 : decode cL_law 533 = .ok (.iaload, 1) := by decide +kernel
theorem dL_law_534 : decode cL_law 534 = .ok (.invokevirtual 133, 3) := by decide +kernel
theorem dL_law_537 : decode cL_law 537 = .ok (.istore 6, 2) := by decide +kernel
theorem dL_law_539 : decode cL_law 539 = .ok (.goto 608, 3) := by decide +kernel
theorem dL_law_542 : decode cL_law 542 = .ok (.aload_n 1, 1) := by decide +kernel
theorem dL_law_543 : decode cL_law 543 = .ok (.aload_n 0, 1) := by decide +kernel
theorem dL_law_544 : decode cL_law 544 = .ok (.iload 4, 2) := by decide +kernel
theorem dL_law_546 : decode cL_law 546 = .ok (.iconst 1, 1) := by decide +kernel
theorem dL_law_547 : decode cL_law 547 = .ok (.iadd, 1) := by decide +kernel
theorem dL_law_548 : decode cL_law 548 = .ok (.iaload, 1) := by decide +kernel
theorem dL_law_549 : decode cL_law 549 = .ok (.aload_n 0, 1) := by decide +kernel
theorem dL_law_550 : decode cL_law 550 = .ok (.iload 4, 2) := by decide +kernel
theorem dL_law_552 : decode cL_law 552 = .ok (.iconst 2, 1) := by decide +kernel
theorem dL_law_553 : decode cL_law 553 = .ok (.iadd, 1) := by decide +kernel
theorem dL_law_554 : decode cL_law 554 = .ok (.iaload, 1) := by decide +kernel
theorem dL_law_555 : decode cL_law 555 = .ok (.aload_n 3, 1) := by decide +kernel
theorem dL_law_556 : decode cL_law 556 = .ok (.invokestatic 134, 3) := by decide +kernel
theorem dL_law_559 : decode cL_law 559 = .ok (.istore 5, 2) := by decide +kernel
theorem dL_law_561 : decode cL_law 561 = .ok (.aload_n 2, 1) := by decide +kernel
theorem dL_law_562 : decode cL_law 562 = .ok (.aload_n 0, 1) := by decide +kernel
theorem dL_law_563 : decode cL_law 563 = .ok (.iload 4, 2) := by decide +kernel
theorem dL_law_565 : decode cL_law 565 = .ok (.iconst 1, 1) := by decide +kernel
theorem dL_law_566 : decode cL_law 566 = .ok (.iadd, 1) := by decide +kernel
theorem dL_law_567 : decode cL_law 567 = .ok (.iaload, 1) := by decide +kernel
theorem dL_law_568 : decode cL_law 568 = .ok (.aload_n 0, 1) := by decide +kernel
theorem dL_law_569 : decode cL_law 569 = .ok (.iload 4, 2) := by decide +kernel
theorem dL_law_571 : decode cL_law 571 = .ok (.iconst 2, 1) := by decide +kernel
theorem dL_law_572 : decode cL_law 572 = .ok (.iadd, 1) := by decide +kernel
theorem dL_law_573 : decode cL_law 573 = .ok (.iaload, 1) := by decide +kernel
theorem dL_law_574 : decode cL_law 574 = .ok (.invokevirtual 136, 3) := by decide +kernel
theorem dL_law_577 : decode cL_law 577 = .ok (.istore 6, 2) := by decide +kernel
theorem dL_law_579 : decode cL_law 579 = .ok (.goto 568, 3) := by decide +kernel
theorem dL_law_582 : decode cL_law 582 = .ok (.aload_n 1, 1) := by decide +kernel
theorem dL_law_583 : decode cL_law 583 = .ok (.aload_n 3, 1) := by decide +kernel
theorem dL_law_584 : decode cL_law 584 = .ok (.invokestatic 137, 3) := by decide +kernel
theorem dL_law_587 : decode cL_law 587 = .ok (.istore 5, 2) := by decide +kernel
theorem dL_law_589 : decode cL_law 589 = .ok (.aload_n 2, 1) := by decide +kernel
theorem dL_law_590 : decode cL_law 590 = .ok (.invokevirtual 139, 3) := by decide +kernel
theorem dL_law_593 : decode cL_law 593 = .ok (.istore 6, 2) := by decide +kernel
theorem dL_law_595 : decode cL_law 595 = .ok (.goto 552, 3) := by decide +kernel
theorem dL_law_598 : decode cL_law 598 = .ok (.aload_n 1, 1) := by decide +kernel
theorem dL_law_599 : decode cL_law 599 = .ok (.aload_n 3, 1) := by decide +kernel
theorem dL_law_600 : decode cL_law 600 = .ok (.invokestatic 140, 3) := by decide +kernel
theorem dL_law_603 : decode cL_law 603 = .ok (.istore 5, 2) := by decide +kernel
theorem dL_law_605 : decode cL_law 605 = .ok (.aload_n 2, 1) := by decide +kernel
theorem dL_law_606 : decode cL_law 606 = .ok (.invokevirtual 142, 3) := by decide +kernel
theorem dL_law_609 : decode cL_law 609 = .ok (.istore 6, 2) := by decide +kernel
theorem dL_law_611 : decode cL_law 611 = .ok (.goto 536, 3) := by decide +kernel
theorem dL_law_614 : decode cL_law 614 = .ok (.aload_n 1, 1) := by decide +kernel
theorem dL_law_615 : decode cL_law 615 = .ok (.aload_n 0, 1) := by decide +kernel
theorem dL_law_616 : decode cL_law 616 = .ok (.iload 4, 2) := by decide +kernel
theorem dL_law_618 : decode cL_law 618 = .ok (.iconst 1, 1) := by decide +kernel
theorem dL_law_619 : decode cL_law 619 = .ok (.iadd, 1) := by decide +kernel
theorem dL_law_620 : decode cL_law 620 = .ok (.iaload, 1) := by decide +kernel
theorem dL_law_621 : decode cL_law 621 = .ok (.aload_n 0, 1) := by decide +kernel
theorem dL_law_622 : decode cL_law 622 = .ok (.iload 4, 2) := by decide +kernel
theorem dL_law_624 : decode cL_law 624 = .ok (.iconst 2, 1) := by decide +kernel
theorem dL_law_625 : decode cL_law 625 = .ok (.iadd, 1) := by decide +kernel
theorem dL_law_626 : decode cL_law 626 = .ok (.iaload, 1) := by decide +kernel
theorem dL_law_627 : decode cL_law 627 = .ok (.aload_n 3, 1) := by decide +kernel
theorem dL_law_628 : decode cL_law 628 = .ok (.invokestatic 143, 3) := by decide +kernel
theorem dL_law_631 : decode cL_law 631 = .ok (.istore 5, 2) := by decide +kernel
theorem dL_law_633 : decode cL_law 633 = .ok (.aload_n 2, 1) := by decide +kernel
theorem dL_law_634 : decode cL_law 634 = .ok (.aload_n 0, 1) := by decide +kernel
theorem dL_law_635 : decode cL_law 635 = .ok (.iload 4, 2) := by decide +kernel
theorem dL_law_637 : decode cL_law 637 = .ok (.iconst 1, 1) := by decide +kernel
theorem dL_law_638 : decode cL_law 638 = .ok (.iadd, 1) := by decide +kernel
theorem dL_law_639 : decode cL_law 639 = .ok (.iaload, 1) := by decide +kernel
theorem dL_law_640 : decode cL_law 640 = .ok (.aload_n 0, 1) := by decide +kernel
theorem dL_law_641 : decode cL_law 641 = .ok (.iload 4, 2) := by decide +kernel
theorem dL_law_643 : decode cL_law 643 = .ok (.iconst 2, 1) := by decide +kernel
theorem dL_law_644 : decode cL_law 644 = .ok (.iadd, 1) := by decide +kernel
theorem dL_law_645 : decode cL_law 645 = .ok (.iaload, 1) := by decide +kernel
theorem dL_law_646 : decode cL_law 646 = .ok (.invokevirtual 145, 3) := by decide +kernel
theorem dL_law_649 : decode cL_law 649 = .ok (.istore 6, 2) := by decide +kernel
theorem dL_law_651 : decode cL_law 651 = .ok (.goto 496, 3) := by decide +kernel
theorem dL_law_654 : decode cL_law 654 = .ok (.aload_n 1, 1) := by decide +kernel
theorem dL_law_655 : decode cL_law 655 = .ok (.aload_n 0, 1) := by decide +kernel
theorem dL_law_656 : decode cL_law 656 = .ok (.iload 4, 2) := by decide +kernel
theorem dL_law_658 : decode cL_law 658 = .ok (.iconst 1, 1) := by decide +kernel
theorem dL_law_659 : decode cL_law 659 = .ok (.iadd, 1) := by decide +kernel
theorem dL_law_660 : decode cL_law 660 = .ok (.iaload, 1) := by decide +kernel
theorem dL_law_661 : decode cL_law 661 = .ok (.aload_n 0, 1) := by decide +kernel
theorem dL_law_662 : decode cL_law 662 = .ok (.iload 4, 2) := by decide +kernel
theorem dL_law_664 : decode cL_law 664 = .ok (.iconst 2, 1) := by decide +kernel
theorem dL_law_665 : decode cL_law 665 = .ok (.iadd, 1) := by decide +kernel
theorem dL_law_666 : decode cL_law 666 = .ok (.iaload, 1) := by decide +kernel
theorem dL_law_667 : decode cL_law 667 = .ok (.aload_n 0, 1) := by decide +kernel
theorem dL_law_668 : decode cL_law 668 = .ok (.iload 4, 2) := by decide +kernel
theorem dL_law_670 : decode cL_law 670 = .ok (.iconst 3, 1) := by decide +kernel
theorem dL_law_671 : decode cL_law 671 = .ok (.iadd, 1) := by decide +kernel
theorem dL_law_672 : decode cL_law 672 = .ok (.iaload, 1) := by decide +kernel
theorem dL_law_673 : decode cL_law 673 = .ok (.ifCond .eq 7, 3) := by decide +kernel
theorem dL_law_676 : decode cL_law 676 = .ok (.iconst 1, 1) := by decide +kernel
theorem dL_law_677 : decode cL_law 677 = .ok (.goto 4, 3) := by decide +kernel
theorem dL_law_680 : decode cL_law 680 = .ok (.iconst 0, 1) := by decide +kernel
theorem dL_law_681 : decode cL_law 681 = .ok (.aload_n 3, 1) := by decide +kernel
theorem dL_law_682 : decode cL_law 682 = .ok (.invokestatic 146, 3) := by decide +kernel
theorem dL_law_685 : decode cL_law 685 = .ok (.istore 5, 2) := by decide +kernel
theorem dL_law_687 : decode cL_law 687 = .ok (.aload_n 2, 1) := by decide +kernel
theorem dL_law_688 : decode cL_law 688 = .ok (.aload_n 0, 1) := by decide +kernel
theorem dL_law_689 : decode cL_law 689 = .ok (.iload 4, 2) := by decide +kernel
theorem dL_law_691 : decode cL_law 691 = .ok (.iconst 1, 1) := by decide +kernel
theorem dL_law_692 : decode cL_law 692 = .ok (.iadd, 1) := by decide +kernel
theorem dL_law_693 : decode cL_law 693 = .ok (.iaload, 1) := by decide +kernel
theorem dL_law_694 : decode cL_law 694 = .ok (.aload_n 0, 1) := by decide +kernel
theorem dL_law_695 : decode cL_law 695 = .ok (.iload 4, 2) := by decide +kernel
theorem dL_law_697 : decode cL_law 697 = .ok (.iconst 2, 1) := by decide +kernel
theorem dL_law_698 : decode cL_law 698 = .ok (.iadd, 1) := by decide +kernel
theorem dL_law_699 : decode cL_law 699 = .ok (.iaload, 1) := by decide +kernel
theorem dL_law_700 : decode cL_law 700 = .ok (.aload_n 0, 1) := by decide +kernel
theorem dL_law_701 : decode cL_law 701 = .ok (.iload 4, 2) := by decide +kernel
theorem dL_law_703 : decode cL_law 703 = .ok (.iconst 3, 1) := by decide +kernel
theorem dL_law_704 : decode cL_law 704 = .ok (.iadd, 1) := by decide +kernel
theorem dL_law_705 : decode cL_law 705 = .ok (.iaload, 1) := by decide +kernel
theorem dL_law_706 : decode cL_law 706 = .ok (.ifCond .eq 7, 3) := by decide +kernel
theorem dL_law_709 : decode cL_law 709 = .ok (.iconst 1, 1) := by decide +kernel
theorem dL_law_710 : decode cL_law 710 = .ok (.goto 4, 3) := by decide +kernel
theorem dL_law_713 : decode cL_law 713 = .ok (.iconst 0, 1) := by decide +kernel
theorem dL_law_714 : decode cL_law 714 = .ok (.invokevirtual 149, 3) := by decide +kernel
theorem dL_law_717 : decode cL_law 717 = .ok (.istore 6, 2) := by decide +kernel
theorem dL_law_719 : decode cL_law 719 = .ok (.goto 428, 3) := by decide +kernel
theorem dL_law_722 : decode cL_law 722 = .ok (.aload_n 1, 1) := by decide +kernel
theorem dL_law_723 : decode cL_law 723 = .ok (.aload_n 0, 1) := by decide +kernel
theorem dL_law_724 : decode cL_law 724 = .ok (.iload 4, 2) := by decide +kernel
theorem dL_law_726 : decode cL_law 726 = .ok (.iconst 1, 1) := by decide +kernel
theorem dL_law_727 : decode cL_law 727 = .ok (.iadd, 1) := by decide +kernel
theorem dL_law_728 : decode cL_law 728 = .ok (.iaload, 1) := by decide +kernel
theorem dL_law_729 : decode cL_law 729 = .ok (.aload_n 0, 1) := by decide +kernel
theorem dL_law_730 : decode cL_law 730 = .ok (.iload 4, 2) := by decide +kernel
theorem dL_law_732 : decode cL_law 732 = .ok (.iconst 2, 1) := by decide +kernel
theorem dL_law_733 : decode cL_law 733 = .ok (.iadd, 1) := by decide +kernel
theorem dL_law_734 : decode cL_law 734 = .ok (.iaload, 1) := by decide +kernel
theorem dL_law_735 : decode cL_law 735 = .ok (.aload_n 3, 1) := by decide +kernel
theorem dL_law_736 : decode cL_law 736 = .ok (.invokestatic 150, 3) := by decide +kernel
theorem dL_law_739 : decode cL_law 739 = .ok (.istore 5, 2) := by decide +kernel
theorem dL_law_741 : decode cL_law 741 = .ok (.aload_n 2, 1) := by decide +kernel
theorem dL_law_742 : decode cL_law 742 = .ok (.aload_n 0, 1) := by decide +kernel
theorem dL_law_743 : decode cL_law 743 = .ok (.iload 4, 2) := by decide +kernel
theorem dL_law_745 : decode cL_law 745 = .ok (.iconst 1, 1) := by decide +kernel
theorem dL_law_746 : decode cL_law 746 = .ok (.iadd, 1) := by decide +kernel
theorem dL_law_747 : decode cL_law 747 = .ok (.iaload, 1) := by decide +kernel
theorem dL_law_748 : decode cL_law 748 = .ok (.aload_n 0, 1) := by decide +kernel
theorem dL_law_749 : decode cL_law 749 = .ok (.iload 4, 2) := by decide +kernel
theorem dL_law_751 : decode cL_law 751 = .ok (.iconst 2, 1) := by decide +kernel
theorem dL_law_752 : decode cL_law 752 = .ok (.iadd, 1) := by decide +kernel
theorem dL_law_753 : decode cL_law 753 = .ok (.iaload, 1) := by decide +kernel
theorem dL_law_754 : decode cL_law 754 = .ok (.invokevirtual 152, 3) := by decide +kernel
theorem dL_law_757 : decode cL_law 757 = .ok (.istore 6, 2) := by decide +kernel
theorem dL_law_759 : decode cL_law 759 = .ok (.goto 388, 3) := by decide +kernel
theorem dL_law_762 : decode cL_law 762 = .ok (.aload_n 1, 1) := by decide +kernel
theorem dL_law_763 : decode cL_law 763 = .ok (.aload_n 0, 1) := by decide +kernel
theorem dL_law_764 : decode cL_law 764 = .ok (.iload 4, 2) := by decide +kernel
theorem dL_law_766 : decode cL_law 766 = .ok (.iconst 1, 1) := by decide +kernel
theorem dL_law_767 : decode cL_law 767 = .ok (.iadd, 1) := by decide +kernel
theorem dL_law_768 : decode cL_law 768 = .ok (.iaload, 1) := by decide +kernel
theorem dL_law_769 : decode cL_law 769 = .ok (.aload_n 0, 1) := by decide +kernel
theorem dL_law_770 : decode cL_law 770 = .ok (.iload 4, 2) := by decide +kernel
theorem dL_law_772 : decode cL_law 772 = .ok (.iconst 2, 1) := by decide +kernel
theorem dL_law_773 : decode cL_law 773 = .ok (.iadd, 1) := by decide +kernel
theorem dL_law_774 : decode cL_law 774 = .ok (.iaload, 1) := by decide +kernel
theorem dL_law_775 : decode cL_law 775 = .ok (.aload_n 3, 1) := by decide +kernel
theorem dL_law_776 : decode cL_law 776 = .ok (.invokestatic 153, 3) := by decide +kernel
theorem dL_law_779 : decode cL_law 779 = .ok (.istore 5, 2) := by decide +kernel
theorem dL_law_781 : decode cL_law 781 = .ok (.aload_n 2, 1) := by decide +kernel
theorem dL_law_782 : decode cL_law 782 = .ok (.aload_n 0, 1) := by decide +kernel
theorem dL_law_783 : decode cL_law 783 = .ok (.iload 4, 2) := by decide +kernel
theorem dL_law_785 : decode cL_law 785 = .ok (.iconst 1, 1) := by decide +kernel
theorem dL_law_786 : decode cL_law 786 = .ok (.iadd, 1) := by decide +kernel
theorem dL_law_787 : decode cL_law 787 = .ok (.iaload, 1) := by decide +kernel
theorem dL_law_788 : decode cL_law 788 = .ok (.aload_n 0, 1) := by decide +kernel
theorem dL_law_789 : decode cL_law 789 = .ok (.iload 4, 2) := by decide +kernel
theorem dL_law_791 : decode cL_law 791 = .ok (.iconst 2, 1) := by decide +kernel
theorem dL_law_792 : decode cL_law 792 = .ok (.iadd, 1) := by decide +kernel
theorem dL_law_793 : decode cL_law 793 = .ok (.iaload, 1) := by decide +kernel
theorem dL_law_794 : decode cL_law 794 = .ok (.invokevirtual 155, 3) := by decide +kernel
theorem dL_law_797 : decode cL_law 797 = .ok (.istore 6, 2) := by decide +kernel
theorem dL_law_799 : decode cL_law 799 = .ok (.goto 348, 3) := by decide +kernel
theorem dL_law_802 : decode cL_law 802 = .ok (.aload_n 1, 1) := by decide +kernel
theorem dL_law_803 : decode cL_law 803 = .ok (.aload_n 0, 1) := by decide +kernel
theorem dL_law_804 : decode cL_law 804 = .ok (.iload 4, 2) := by decide +kernel
theorem dL_law_806 : decode cL_law 806 = .ok (.iconst 1, 1) := by decide +kernel
theorem dL_law_807 : decode cL_law 807 = .ok (.iadd, 1) := by decide +kernel
theorem dL_law_808 : decode cL_law 808 = .ok (.iaload, 1) := by decide +kernel
theorem dL_law_809 : decode cL_law 809 = .ok (.invokevirtual 156, 3) := by decide +kernel
theorem dL_law_812 : decode cL_law 812 = .ok (.pop, 1) := by decide +kernel
theorem dL_law_813 : decode cL_law 813 = .ok (.aload_n 2, 1) := by decide +kernel
theorem dL_law_814 : decode cL_law 814 = .ok (.aload_n 0, 1) := by decide +kernel
theorem dL_law_815 : decode cL_law 815 = .ok (.iload 4, 2) := by decide +kernel
theorem dL_law_817 : decode cL_law 817 = .ok (.iconst 1, 1) := by decide +kernel
theorem dL_law_818 : decode cL_law 818 = .ok (.iadd, 1) := by decide +kernel
theorem dL_law_819 : decode cL_law 819 = .ok (.iaload, 1) := by decide +kernel
theorem dL_law_820 : decode cL_law 820 = .ok (.invokevirtual 159, 3) := by decide +kernel
theorem dL_law_823 : decode cL_law 823 = .ok (.pop, 1) := by decide +kernel
theorem dL_law_824 : decode cL_law 824 = .ok (.goto 323, 3) := by decide +kernel
theorem dL_law_827 : decode cL_law 827 = .ok (.aload_n 1, 1) := by decide +kernel
theorem dL_law_828 : decode cL_law 828 = .ok (.aload_n 0, 1) := by decide +kernel
theorem dL_law_829 : decode cL_law 829 = .ok (.iload 4, 2) := by decide +kernel
theorem dL_law_831 : decode cL_law 831 = .ok (.iconst 1, 1) := by decide +kernel
theorem dL_law_832 : decode cL_law 832 = .ok (.iadd, 1) := by decide +kernel
theorem dL_law_833 : decode cL_law 833 = .ok (.iaload, 1) := by decide +kernel
theorem dL_law_834 : decode cL_law 834 = .ok (.aload_n 0, 1) := by decide +kernel
theorem dL_law_835 : decode cL_law 835 = .ok (.iload 4, 2) := by decide +kernel
theorem dL_law_837 : decode cL_law 837 = .ok (.iconst 2, 1) := by decide +kernel
theorem dL_law_838 : decode cL_law 838 = .ok (.iadd, 1) := by decide +kernel
theorem dL_law_839 : decode cL_law 839 = .ok (.iaload, 1) := by decide +kernel
theorem dL_law_840 : decode cL_law 840 = .ok (.ifCond .eq 7, 3) := by decide +kernel
theorem dL_law_843 : decode cL_law 843 = .ok (.iconst 1, 1) := by decide +kernel
theorem dL_law_844 : decode cL_law 844 = .ok (.goto 4, 3) := by decide +kernel
theorem dL_law_847 : decode cL_law 847 = .ok (.iconst 0, 1) := by decide +kernel
theorem dL_law_848 : decode cL_law 848 = .ok (.invokevirtual 160, 3) := by decide +kernel
theorem dL_law_851 : decode cL_law 851 = .ok (.pop, 1) := by decide +kernel
theorem dL_law_852 : decode cL_law 852 = .ok (.aload_n 2, 1) := by decide +kernel
theorem dL_law_853 : decode cL_law 853 = .ok (.aload_n 0, 1) := by decide +kernel
theorem dL_law_854 : decode cL_law 854 = .ok (.iload 4, 2) := by decide +kernel
theorem dL_law_856 : decode cL_law 856 = .ok (.iconst 1, 1) := by decide +kernel
theorem dL_law_857 : decode cL_law 857 = .ok (.iadd, 1) := by decide +kernel
theorem dL_law_858 : decode cL_law 858 = .ok (.iaload, 1) := by decide +kernel
theorem dL_law_859 : decode cL_law 859 = .ok (.aload_n 0, 1) := by decide +kernel
theorem dL_law_860 : decode cL_law 860 = .ok (.iload 4, 2) := by decide +kernel
theorem dL_law_862 : decode cL_law 862 = .ok (.iconst 2, 1) := by decide +kernel
theorem dL_law_863 : decode cL_law 863 = .ok (.iadd, 1) := by decide +kernel
theorem dL_law_864 : decode cL_law 864 = .ok (.iaload, 1) := by decide +kernel
theorem dL_law_865 : decode cL_law 865 = .ok (.ifCond .eq 7, 3) := by decide +kernel
theorem dL_law_868 : decode cL_law 868 = .ok (.iconst 1, 1) := by decide +kernel
theorem dL_law_869 : decode cL_law 869 = .ok (.goto 4, 3) := by decide +kernel
theorem dL_law_872 : decode cL_law 872 = .ok (.iconst 0, 1) := by decide +kernel
theorem dL_law_873 : decode cL_law 873 = .ok (.invokevirtual 163, 3) := by decide +kernel
theorem dL_law_876 : decode cL_law 876 = .ok (.pop, 1) := by decide +kernel
theorem dL_law_877 : decode cL_law 877 = .ok (.goto 270, 3) := by decide +kernel
theorem dL_law_880 : decode cL_law 880 = .ok (.aload_n 1, 1) := by decide +kernel
theorem dL_law_881 : decode cL_law 881 = .ok (.aload_n 0, 1) := by decide +kernel
theorem dL_law_882 : decode cL_law 882 = .ok (.iload 4, 2) := by decide +kernel
theorem dL_law_884 : decode cL_law 884 = .ok (.iconst 1, 1) := by decide +kernel
theorem dL_law_885 : decode cL_law 885 = .ok (.iadd, 1) := by decide +kernel
theorem dL_law_886 : decode cL_law 886 = .ok (.iaload, 1) := by decide +kernel
theorem dL_law_887 : decode cL_law 887 = .ok (.aload_n 0, 1) := by decide +kernel
theorem dL_law_888 : decode cL_law 888 = .ok (.iload 4, 2) := by decide +kernel
theorem dL_law_890 : decode cL_law 890 = .ok (.iconst 2, 1) := by decide +kernel
theorem dL_law_891 : decode cL_law 891 = .ok (.iadd, 1) := by decide +kernel
theorem dL_law_892 : decode cL_law 892 = .ok (.iaload, 1) := by decide +kernel
theorem dL_law_893 : decode cL_law 893 = .ok (.aload_n 3, 1) := by decide +kernel
theorem dL_law_894 : decode cL_law 894 = .ok (.invokestatic 164, 3) := by decide +kernel
theorem dL_law_897 : decode cL_law 897 = .ok (.istore 5, 2) := by decide +kernel
theorem dL_law_899 : decode cL_law 899 = .ok (.aload_n 2, 1) := by decide +kernel
theorem dL_law_900 : decode cL_law 900 = .ok (.aload_n 0, 1) := by decide +kernel
theorem dL_law_901 : decode cL_law 901 = .ok (.iload 4, 2) := by decide +kernel
theorem dL_law_903 : decode cL_law 903 = .ok (.iconst 1, 1) := by decide +kernel
theorem dL_law_904 : decode cL_law 904 = .ok (.iadd, 1) := by decide +kernel
theorem dL_law_905 : decode cL_law 905 = .ok (.iaload, 1) := by decide +kernel
theorem dL_law_906 : decode cL_law 906 = .ok (.aload_n 0, 1) := by decide +kernel
theorem dL_law_907 : decode cL_law 907 = .ok (.iload 4, 2) := by decide +kernel
theorem dL_law_909 : decode cL_law 909 = .ok (.iconst 2, 1) := by decide +kernel
theorem dL_law_910 : decode cL_law 910 = .ok (.iadd, 1) := by decide +kernel
theorem dL_law_911 : decode cL_law 911 = .ok (.iaload, 1) := by decide +kernel
theorem dL_law_912 : decode cL_law 912 = .ok (.invokevirtual 166, 3) := by decide +kernel
theorem dL_law_915 : decode cL_law 915 = .ok (.istore 6, 2) := by decide +kernel
theorem dL_law_917 : decode cL_law 917 = .ok (.aload_n 2, 1) := by decide +kernel
theorem dL_law_918 : decode cL_law 918 = .ok (.invokevirtual 167, 3) := by decide +kernel
theorem dL_law_921 : decode cL_law 921 = .ok (.iload 5, 2) := by decide +kernel
theorem dL_law_923 : decode cL_law 923 = .ok (.if_icmp .eq 5, 3) := by decide +kernel
theorem dL_law_928 : decode cL_law 928 = .ok (.iload 5, 2) := by decide +kernel
theorem dL_law_930 : decode cL_law 930 = .ok (.ifCond .ne 15, 3) := by decide +kernel
theorem dL_law_933 : decode cL_law 933 = .ok (.aload_n 3, 1) := by decide +kernel
theorem dL_law_934 : decode cL_law 934 = .ok (.iconst 0, 1) := by decide +kernel
theorem dL_law_935 : decode cL_law 935 = .ok (.laload, 1) := by decide +kernel
theorem dL_law_936 : decode cL_law 936 = .ok (.iload 6, 2) := by decide +kernel
theorem dL_law_938 : decode cL_law 938 = .ok (.i2l, 1) := by decide +kernel
theorem dL_law_939 : decode cL_law 939 = .ok (.lcmp, 1) := by decide +kernel
theorem dL_law_940 : decode cL_law 940 = .ok (.ifCond .eq 5, 3) := by decide +kernel
theorem dL_law_945 : decode cL_law 945 = .ok (.goto 202, 3) := by decide +kernel
theorem dL_law_948 : decode cL_law 948 = .ok (.aload_n 1, 1) := by decide +kernel
theorem dL_law_949 : decode cL_law 949 = .ok (.aload_n 0, 1) := by decide +kernel
theorem dL_law_950 : decode cL_law 950 = .ok (.iload 4, 2) := by decide +kernel
theorem dL_law_952 : decode cL_law 952 = .ok (.iconst 1, 1) := by decide +kernel
theorem dL_law_953 : decode cL_law 953 = .ok (.iadd, 1) := by decide +kernel
theorem dL_law_954 : decode cL_law 954 = .ok (.iaload, 1) := by decide +kernel
theorem dL_law_955 : decode cL_law 955 = .ok (.aload_n 3, 1) := by decide +kernel
theorem dL_law_956 : decode cL_law 956 = .ok (.invokestatic 170, 3) := by decide +kernel
theorem dL_law_959 : decode cL_law 959 = .ok (.istore 5, 2) := by decide +kernel
theorem dL_law_961 : decode cL_law 961 = .ok (.aload_n 2, 1) := by decide +kernel
theorem dL_law_962 : decode cL_law 962 = .ok (.aload_n 0, 1) := by decide +kernel
theorem dL_law_963 : decode cL_law 963 = .ok (.iload 4, 2) := by decide +kernel
theorem dL_law_965 : decode cL_law 965 = .ok (.iconst 1, 1) := by decide +kernel
theorem dL_law_966 : decode cL_law 966 = .ok (.iadd, 1) := by decide +kernel
theorem dL_law_967 : decode cL_law 967 = .ok (.iaload, 1) := by decide +kernel
theorem dL_law_968 : decode cL_law 968 = .ok (.invokevirtual 172, 3) := by decide +kernel
theorem dL_law_971 : decode cL_law 971 = .ok (.istore 6, 2) := by decide +kernel
theorem dL_law_973 : decode cL_law 973 = .ok (.goto 174, 3) := by decide +kernel
theorem dL_law_976 : decode cL_law 976 = .ok (.aload_n 1, 1) := by decide +kernel
theorem dL_law_977 : decode cL_law 977 = .ok (.aload_n 3, 1) := by decide +kernel
theorem dL_law_978 : decode cL_law 978 = .ok (.invokestatic 173, 3) := by decide +kernel
theorem dL_law_981 : decode cL_law 981 = .ok (.istore 5, 2) := by decide +kernel
theorem dL_law_983 : decode cL_law 983 = .ok (.aload_n 2, 1) := by decide +kernel
theorem dL_law_984 : decode cL_law 984 = .ok (.invokevirtual 175, 3) := by decide +kernel
theorem dL_law_987 : decode cL_law 987 = .ok (.lstore 6, 2) := by decide +kernel
theorem dL_law_989 : decode cL_law 989 = .ok (.goto 158, 3) := by decide +kernel
theorem dL_law_992 : decode cL_law 992 = .ok (.aload_n 1, 1) := by decide +kernel
theorem dL_law_993 : decode cL_law 993 = .ok (.aload_n 0, 1) := by decide +kernel
theorem dL_law_994 : decode cL_law 994 = .ok (.iload 4, 2) := by decide +kernel
theorem dL_law_996 : decode cL_law 996 = .ok (.iconst 1, 1) := by decide +kernel
theorem dL_law_997 : decode cL_law 997 = .ok (.iadd, 1) := by decide +kernel
theorem dL_law_998 : decode cL_law 998 = .ok (.iaload, 1) := by decide +kernel
theorem dL_law_999 : decode cL_law 999 = .ok (.aload_n 0, 1) := by decide +kernel
theorem dL_law_1000 : decode cL_law 1000 = .ok (.iload 4, 2) := by decide +kernel
theorem dL_law_1002 : decode cL_law 1002 = .ok (.iconst 2, 1) := by decide +kernel
theorem dL_law_1003 : decode cL_law 1003 = .ok (.iadd, 1) := by decide +kernel
theorem dL_law_1004 : decode cL_law 1004 = .ok (.iaload, 1) := by decide +kernel
theorem dL_law_1005 : decode cL_law 1005 = .ok (.ifCond .eq 7, 3) := by decide +kernel
theorem dL_law_1008 : decode cL_law 1008 = .ok (.iconst 1, 1) := by decide +kernel
theorem dL_law_1009 : decode cL_law 1009 = .ok (.goto 4, 3) := by decide +kernel
theorem dL_law_1012 : decode cL_law 1012 = .ok (.iconst 0, 1) := by decide +kernel
theorem dL_law_1013 : decode cL_law 1013 = .ok (.aload_n 0, 1) := by decide +kernel
theorem dL_law_1014 : decode cL_law 1014 = .ok (.iload 4, 2) := by decide +kernel
theorem dL_law_1016 : decode cL_law 1016 = .ok (.iconst 3, 1) := by decide +kernel
theorem dL_law_1017 : decode cL_law 1017 = .ok (.iadd, 1) := by decide +kernel
theorem dL_law_1018 : decode cL_law 1018 = .ok (.iaload, 1) := by decide +kernel
theorem dL_law_1019 : decode cL_law 1019 = .ok (.invokevirtual 176, 3) := by decide +kernel
theorem dL_law_1022 : decode cL_law 1022 = .ok (.pop, 1) := by decide +kernel
theorem dL_law_1023 : decode cL_law 1023 = .ok (.aload_n 2, 1) := by decide +kernel
theorem dL_law_1024 : decode cL_law 1024 = .ok (.aload_n 0, 1) := by decide +kernel
theorem dL_law_1025 : decode cL_law 1025 = .ok (.iload 4, 2) := by decide +kernel
theorem dL_law_1027 : decode cL_law 1027 = .ok (.iconst 1, 1) := by decide +kernel
theorem dL_law_1028 : decode cL_law 1028 = .ok (.iadd, 1) := by decide +kernel
theorem dL_law_1029 : decode cL_law 1029 = .ok (.iaload, 1) := by decide +kernel
theorem dL_law_1030 : decode cL_law 1030 = .ok (.aload_n 0, 1) := by decide +kernel
theorem dL_law_1031 : decode cL_law 1031 = .ok (.iload 4, 2) := by decide +kernel
theorem dL_law_1033 : decode cL_law 1033 = .ok (.iconst 2, 1) := by decide +kernel
theorem dL_law_1034 : decode cL_law 1034 = .ok (.iadd, 1) := by decide +kernel
theorem dL_law_1035 : decode cL_law 1035 = .ok (.iaload, 1) := by decide +kernel
theorem dL_law_1036 : decode cL_law 1036 = .ok (.ifCond .eq 7, 3) := by decide +kernel
theorem dL_law_1039 : decode cL_law 1039 = .ok (.iconst 1, 1) := by decide +kernel
theorem dL_law_1040 : decode cL_law 1040 = .ok (.goto 4, 3) := by decide +kernel
theorem dL_law_1043 : decode cL_law 1043 = .ok (.iconst 0, 1) := by decide +kernel
theorem dL_law_1044 : decode cL_law 1044 = .ok (.aload_n 0, 1) := by decide +kernel
theorem dL_law_1045 : decode cL_law 1045 = .ok (.iload 4, 2) := by decide +kernel
theorem dL_law_1047 : decode cL_law 1047 = .ok (.iconst 3, 1) := by decide +kernel
theorem dL_law_1048 : decode cL_law 1048 = .ok (.iadd, 1) := by decide +kernel
theorem dL_law_1049 : decode cL_law 1049 = .ok (.iaload, 1) := by decide +kernel
theorem dL_law_1050 : decode cL_law 1050 = .ok (.invokevirtual 180, 3) := by decide +kernel
theorem dL_law_1053 : decode cL_law 1053 = .ok (.pop, 1) := by decide +kernel
theorem dL_law_1054 : decode cL_law 1054 = .ok (.goto 93, 3) := by decide +kernel
theorem dL_law_1057 : decode cL_law 1057 = .ok (.aload_n 1, 1) := by decide +kernel
theorem dL_law_1058 : decode cL_law 1058 = .ok (.aload_n 0, 1) := by decide +kernel
theorem dL_law_1059 : decode cL_law 1059 = .ok (.iload 4, 2) := by decide +kernel
theorem dL_law_1061 : decode cL_law 1061 = .ok (.iconst 1, 1) := by decide +kernel
theorem dL_law_1062 : decode cL_law 1062 = .ok (.iadd, 1) := by decide +kernel
theorem dL_law_1063 : decode cL_law 1063 = .ok (.iaload, 1) := by decide +kernel
theorem dL_law_1064 : decode cL_law 1064 = .ok (.aload_n 3, 1) := by decide +kernel
theorem dL_law_1065 : decode cL_law 1065 = .ok (.invokestatic 181, 3) := by decide +kernel
theorem dL_law_1068 : decode cL_law 1068 = .ok (.istore 5, 2) := by decide +kernel
theorem dL_law_1070 : decode cL_law 1070 = .ok (.aload_n 2, 1) := by decide +kernel
theorem dL_law_1071 : decode cL_law 1071 = .ok (.aload_n 0, 1) := by decide +kernel
theorem dL_law_1072 : decode cL_law 1072 = .ok (.iload 4, 2) := by decide +kernel
theorem dL_law_1074 : decode cL_law 1074 = .ok (.iconst 1, 1) := by decide +kernel
theorem dL_law_1075 : decode cL_law 1075 = .ok (.iadd, 1) := by decide +kernel
theorem dL_law_1076 : decode cL_law 1076 = .ok (.iaload, 1) := by decide +kernel
theorem dL_law_1077 : decode cL_law 1077 = .ok (.invokevirtual 183, 3) := by decide +kernel
theorem dL_law_1080 : decode cL_law 1080 = .ok (.istore 6, 2) := by decide +kernel
theorem dL_law_1082 : decode cL_law 1082 = .ok (.goto 65, 3) := by decide +kernel
theorem dL_law_1085 : decode cL_law 1085 = .ok (.aload_n 1, 1) := by decide +kernel
theorem dL_law_1086 : decode cL_law 1086 = .ok (.invokevirtual 184, 3) := by decide +kernel
theorem dL_law_1089 : decode cL_law 1089 = .ok (.pop, 1) := by decide +kernel
theorem dL_law_1090 : decode cL_law 1090 = .ok (.aload_n 2, 1) := by decide +kernel
theorem dL_law_1091 : decode cL_law 1091 = .ok (.invokevirtual 188, 3) := by decide +kernel
theorem dL_law_1094 : decode cL_law 1094 = .ok (.pop, 1) := by decide +kernel
theorem dL_law_1095 : decode cL_law 1095 = .ok (.goto 52, 3) := by decide +kernel
theorem dL_law_1098 : decode cL_law 1098 = .ok (.aload_n 1, 1) := by decide +kernel
theorem dL_law_1099 : decode cL_law 1099 = .ok (.invokevirtual 189, 3) := by decide +kernel
theorem dL_law_1102 : decode cL_law 1102 = .ok (.aload_n 2, 1) := by decide +kernel
theorem dL_law_1103 : decode cL_law 1103 = .ok (.invokevirtual 192, 3) := by decide +kernel
theorem dL_law_1106 : decode cL_law 1106 = .ok (.goto 41, 3) := by decide +kernel
theorem dL_law_1109 : decode cL_law 1109 = .ok (.aload_n 1, 1) := by decide +kernel
theorem dL_law_1110 : decode cL_law 1110 = .ok (.invokevirtual 193, 3) := by decide +kernel
theorem dL_law_1113 : decode cL_law 1113 = .ok (.pop, 1) := by decide +kernel
theorem dL_law_1114 : decode cL_law 1114 = .ok (.aload_n 2, 1) := by decide +kernel
theorem dL_law_1115 : decode cL_law 1115 = .ok (.invokevirtual 196, 3) := by decide +kernel
theorem dL_law_1118 : decode cL_law 1118 = .ok (.pop, 1) := by decide +kernel
theorem dL_law_1119 : decode cL_law 1119 = .ok (.goto 28, 3) := by decide +kernel
theorem dL_law_1122 : decode cL_law 1122 = .ok (.aload_n 1, 1) := by decide +kernel
theorem dL_law_1123 : decode cL_law 1123 = .ok (.aload_n 0, 1) := by decide +kernel
theorem dL_law_1124 : decode cL_law 1124 = .ok (.iload 4, 2) := by decide +kernel
theorem dL_law_1126 : decode cL_law 1126 = .ok (.iconst 1, 1) := by decide +kernel
theorem dL_law_1127 : decode cL_law 1127 = .ok (.iadd, 1) := by decide +kernel
theorem dL_law_1128 : decode cL_law 1128 = .ok (.iaload, 1) := by decide +kernel
theorem dL_law_1129 : decode cL_law 1129 = .ok (.invokevirtual 197, 3) := by decide +kernel
theorem dL_law_1132 : decode cL_law 1132 = .ok (.pop, 1) := by decide +kernel
theorem dL_law_1133 : decode cL_law 1133 = .ok (.aload_n 2, 1) := by decide +kernel
theorem dL_law_1134 : decode cL_law 1134 = .ok (.aload_n 0, 1) := by decide +kernel
theorem dL_law_1135 : decode cL_law 1135 = .ok (.iload 4, 2) := by decide +kernel
theorem dL_law_1137 : decode cL_law 1137 = .ok (.iconst 1, 1) := by decide +kernel
theorem dL_law_1138 : decode cL_law 1138 = .ok (.iadd, 1) := by decide +kernel
theorem dL_law_1139 : decode cL_law 1139 = .ok (.iaload, 1) := by decide +kernel
theorem dL_law_1140 : decode cL_law 1140 = .ok (.invokevirtual 200, 3) := by decide +kernel
theorem dL_law_1143 : decode cL_law 1143 = .ok (.pop, 1) := by decide +kernel
theorem dL_law_1144 : decode cL_law 1144 = .ok (.goto 3, 3) := by decide +kernel
theorem dL_law_1147 : decode cL_law 1147 = .ok (.iinc 4 6, 3) := by decide +kernel
theorem dL_law_1150 : decode cL_law 1150 = .ok (.goto (-1127), 3) := by decide +kernel
theorem dL_law_1153 : decode cL_law 1153 = .ok (.iconst 1, 1) := by decide +kernel
theorem dL_law_1154 : decode cL_law 1154 = .ok (.ireturn, 1) := by decide +kernel
end
