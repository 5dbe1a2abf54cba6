def mX6_tryMarkup_b150 (v0 : Nat) (v1 : Int32) (f : AH) (n : Nat) : Option (Int32 × HpN) := ((pO f v0 6 9 (.int v1)).bind fun f1 => some ((0 : Int32), (f1, n)))
set_option maxHeartbeats 1000000 in
theorem rmX6_tryMarkup_b150 {X : GX} {p : Program} {l : Launch} {e : Env} {s : State} {m : MethodId} {args : Array Value} {below : List Frame} {meth : Method} {c : Code} {r : Int32 × HpN} {v0 : Nat} {v1 : Int32} {f : AH} {n cells slots : Nat} (C : CC X p l (RM 1 0 0) s m args meth c RX6 cX6_tryMarkup 3 none) (hc : cells + 0 ≤ 0) (hs : slots + 0 ≤ 0) (h : mX6_tryMarkup_b150 v0 v1 f n = some r) : AW X p l e (RM 1 0 0) s m args below meth c 3 (ZM X below args s 0 0 (QHv r)) f n cells slots 150 [some (.ref v0), some (.int v1), none] [] := by
  have h : ((pO f v0 6 9 (.int v1)).bind fun f1 => some ((0 : Int32), (f1, n))) = some r := h
  refine aw_ald_n C dX6_tryMarkup_150 rfl ?_
  refine aw_iload_n C dX6_tryMarkup_151 rfl ?_
  obtain ⟨f1, hf1, h⟩ := Option.bind_eq_some_iff.mp h
  refine ah_put C gf_X6_24 cf6 nf6_9 rfl rfl hf1 dX6_tryMarkup_152 ?_
  cases h
  exact aw_vret C rfl dX6_tryMarkup_155 (by omega) (by omega) ⟨rfl, rfl, rfl⟩
def mX6_tryMarkup_b139 (rec105 : Nat → Int32 → Int32 → AH → Nat → Option (Int32 × HpN)) (v0 : Nat) (v1 : Int32) (v2 : Int32) (f : AH) (n : Nat) : Option (Int32 × HpN) := ((pO f v0 6 2 (.int v2)).bind fun f1 => rec105 v0 v1 (v2 + (-1 : Int32)) f1 n)
set_option maxHeartbeats 1000000 in
theorem rmX6_tryMarkup_b139 {X : GX} {p : Program} {l : Launch} {e : Env} {s : State} {m : MethodId} {args : Array Value} {below : List Frame} {meth : Method} {c : Code} {r : Int32 × HpN} {rec105 : Nat → Int32 → Int32 → AH → Nat → Option (Int32 × HpN)} {v0 : Nat} {v1 : Int32} {v2 : Int32} {f : AH} {n cells slots : Nat} (C : CC X p l (RM 1 0 0) s m args meth c RX6 cX6_tryMarkup 3 none) (Hr105 : ∀ (v0 : Nat) (v1 : Int32) (v2 : Int32) (f : AH) (n cells slots : Nat), cells + 0 ≤ 0 → slots + 0 ≤ 0 → rec105 v0 v1 v2 f n = some r → AW X p l e (RM 1 0 0) s m args below meth c 3 (ZM X below args s 0 0 (QHv r)) f n cells slots 105 [some (.ref v0), some (.int v1), some (.int v2)] []) (hc : cells + 0 ≤ 0) (hs : slots + 0 ≤ 0) (h : mX6_tryMarkup_b139 rec105 v0 v1 v2 f n = some r) : AW X p l e (RM 1 0 0) s m args below meth c 3 (ZM X below args s 0 0 (QHv r)) f n cells slots 139 [some (.ref v0), some (.int v1), some (.int v2)] [] := by
  have h : ((pO f v0 6 2 (.int v2)).bind fun f1 => rec105 v0 v1 (v2 + (-1 : Int32)) f1 n) = some r := h
  refine aw_ald_n C dX6_tryMarkup_139 rfl ?_
  refine aw_iload_n C dX6_tryMarkup_140 rfl ?_
  obtain ⟨f1, hf1, h⟩ := Option.bind_eq_some_iff.mp h
  refine ah_put C gf_X6_56 cf6 nf6_2 rfl rfl hf1 dX6_tryMarkup_141 ?_
  refine aw_iinc C (v2 + (-1 : Int32)) dX6_tryMarkup_144 rfl (by rw [ki_m1]) (by decide) rfl ?_
  refine aw_nl [some (.ref v0), some (.int v1), some (.int (v2 + (-1 : Int32)))] rfl ?_
  refine aw_goto C 105 dX6_tryMarkup_147 (by decide) ?_
  refine aw_fl [some (.ref v0), some (.int v1), some (.int (v2 + (-1 : Int32)))] ⟨rfl, ⟨rfl, ⟨rfl, trivial⟩⟩⟩ ?_
  exact Hr105 v0 v1 (v2 + (-1 : Int32)) f1 n _ _ (by omega) (by omega) h
def mX6_tryMarkup_l105 : Nat → Nat → Int32 → Int32 → AH → Nat → Option (Int32 × HpN)
  | 0, _, _, _, _, _ => none
  | d + 1, v0, v1, v2, f, n => ((gI f v0 6 1).bind fun x1 => (if v2 ≤ x1 then mX6_tryMarkup_b150 v0 v1 f n else ((gR f v0 6 0).bind fun x2 => ((x2).bind fun j3 => rCk (isO f j3 5) (((mX5_get j3 v2 f n).bind fun r5 => (if r5.1 = (32 : Int32) then mX6_tryMarkup_b139 (fun v0 v1 v2 f n => mX6_tryMarkup_l105 d v0 v1 v2 f n) v0 v1 v2 r5.2.1 r5.2.2 else ((gR r5.2.1 v0 6 0).bind fun x7 => ((x7).bind fun j8 => rCk (isO r5.2.1 j8 5) (((mX5_get j8 v2 r5.2.1 r5.2.2).bind fun r10 => (if r10.1 = (10 : Int32) then mX6_tryMarkup_b139 (fun v0 v1 v2 f n => mX6_tryMarkup_l105 d v0 v1 v2 f n) v0 v1 v2 r10.2.1 r10.2.2 else mX6_tryMarkup_b150 v0 v1 r10.2.1 r10.2.2))))))))))))
set_option maxHeartbeats 1000000 in
theorem rmX6_tryMarkup_l105 {X : GX} {p : Program} {l : Launch} {e : Env} {s : State} {m : MethodId} {args : Array Value} {below : List Frame} {meth : Method} {c : Code} {r : Int32 × HpN} (C : CC X p l (RM 1 0 0) s m args meth c RX6 cX6_tryMarkup 3 none) : ∀ (d : Nat) (v0 : Nat) (v1 : Int32) (v2 : Int32) (f : AH) (n cells slots : Nat) (_ : cells + 0 ≤ 0) (_ : slots + 0 ≤ 0) (_ : mX6_tryMarkup_l105 d v0 v1 v2 f n = some r), AW X p l e (RM 1 0 0) s m args below meth c 3 (ZM X below args s 0 0 (QHv r)) f n cells slots 105 [some (.ref v0), some (.int v1), some (.int v2)] [] := by
  intro d
  induction d with
  | zero =>
    intro v0 v1 v2 f n cells slots hc hs h
    exact nomatch (show (none : Option (Int32 × HpN)) = some r from h)
  | succ d ih =>
    intro v0 v1 v2 f n cells slots hc hs h
    have h : ((gI f v0 6 1).bind fun x1 => (if v2 ≤ x1 then mX6_tryMarkup_b150 v0 v1 f n else ((gR f v0 6 0).bind fun x2 => ((x2).bind fun j3 => rCk (isO f j3 5) (((mX5_get j3 v2 f n).bind fun r5 => (if r5.1 = (32 : Int32) then mX6_tryMarkup_b139 (fun v0 v1 v2 f n => mX6_tryMarkup_l105 d v0 v1 v2 f n) v0 v1 v2 r5.2.1 r5.2.2 else ((gR r5.2.1 v0 6 0).bind fun x7 => ((x7).bind fun j8 => rCk (isO r5.2.1 j8 5) (((mX5_get j8 v2 r5.2.1 r5.2.2).bind fun r10 => (if r10.1 = (10 : Int32) then mX6_tryMarkup_b139 (fun v0 v1 v2 f n => mX6_tryMarkup_l105 d v0 v1 v2 f n) v0 v1 v2 r10.2.1 r10.2.2 else mX6_tryMarkup_b150 v0 v1 r10.2.1 r10.2.2)))))))))))) = some r := h
    refine aw_iload_n C dX6_tryMarkup_105 rfl ?_
    refine aw_ald_n C dX6_tryMarkup_106 rfl ?_
    obtain ⟨x1, hx1, h⟩ := Option.bind_eq_some_iff.mp h
    refine ah_getI C gf_X6_53 hx1 dX6_tryMarkup_107 ?_
    refine aw_icmp_le C 150 dX6_tryMarkup_110 (by decide) (fun q => ?_) (fun q => ?_)
    · rw [if_pos q] at h
      refine aw_fl [some (.ref v0), some (.int v1), none] ⟨rfl, ⟨rfl, trivial⟩⟩ ?_
      exact rmX6_tryMarkup_b150 C (by omega) (by omega) h
    · rw [if_neg q] at h
      refine aw_ald_n C dX6_tryMarkup_113 rfl ?_
      obtain ⟨x2, hx2, h⟩ := Option.bind_eq_some_iff.mp h
      refine ah_getR C gf_X6_14 hx2 dX6_tryMarkup_114 ?_
      refine aw_iload_n C dX6_tryMarkup_117 rfl ?_
      obtain ⟨j3, hj3, h⟩ := Option.bind_eq_some_iff.mp h
      rw [hj3]
      obtain ⟨hb4, h⟩ := ck_some h
      obtain ⟨r5, hr5, h⟩ := Option.bind_eq_some_iff.mp h
      obtain ⟨fs6, hf6⟩ := isO_ex hb4
      refine aw_callV C (ci := 5) (b := j3) [.int v2] mv_X6_67 rfl rfl hf6 (rmX5_get hr5) rfl dX6_tryMarkup_118 (Nat.le_of_ble_eq_true rfl) (Nat.le_of_ble_eq_true rfl) rfl (Nat.le_of_ble_eq_true rfl) (show cells + 0 ≤ 0 by omega) (show slots + 0 ≤ 0 by omega) (fun v9 f9 n9 hh => ?_)
      obtain ⟨rfl, rfl, rfl⟩ := hh
      refine aw_bipush C 32 dX6_tryMarkup_121 kb_32 ?_
      refine aw_icmp_eq C 139 dX6_tryMarkup_123 (by decide) (fun q => ?_) (fun q => ?_)
      · rw [if_pos q] at h
        refine aw_fl [some (.ref v0), some (.int v1), some (.int v2)] ⟨rfl, ⟨rfl, ⟨rfl, trivial⟩⟩⟩ ?_
        exact rmX6_tryMarkup_b139 C (fun v0 v1 v2 f n cells slots hc hs h => ih v0 v1 v2 f n cells slots hc hs h) (by omega) (by omega) h
      · rw [if_neg q] at h
        refine aw_ald_n C dX6_tryMarkup_126 rfl ?_
        obtain ⟨x7, hx7, h⟩ := Option.bind_eq_some_iff.mp h
        refine ah_getR C gf_X6_14 hx7 dX6_tryMarkup_127 ?_
        refine aw_iload_n C dX6_tryMarkup_130 rfl ?_
        obtain ⟨j8, hj8, h⟩ := Option.bind_eq_some_iff.mp h
        rw [hj8]
        obtain ⟨hb9, h⟩ := ck_some h
        obtain ⟨r10, hr10, h⟩ := Option.bind_eq_some_iff.mp h
        obtain ⟨fs11, hf11⟩ := isO_ex hb9
        refine aw_callV C (ci := 5) (b := j8) [.int v2] mv_X6_67 rfl rfl hf11 (rmX5_get hr10) rfl dX6_tryMarkup_131 (Nat.le_of_ble_eq_true rfl) (Nat.le_of_ble_eq_true rfl) rfl (Nat.le_of_ble_eq_true rfl) (show (cells + 0) + 0 ≤ 0 by omega) (show (slots + 0) + 0 ≤ 0 by omega) (fun v9 f9 n9 hh => ?_)
        obtain ⟨rfl, rfl, rfl⟩ := hh
        refine aw_bipush C 10 dX6_tryMarkup_134 kb_10 ?_
        refine aw_icmp_ne C 150 dX6_tryMarkup_136 (by decide) (fun q => ?_) (fun q => ?_)
        · rw [if_neg q] at h
          refine aw_fl [some (.ref v0), some (.int v1), none] ⟨rfl, ⟨rfl, trivial⟩⟩ ?_
          exact rmX6_tryMarkup_b150 C (by omega) (by omega) h
        · rw [if_pos q] at h
          refine aw_fl [some (.ref v0), some (.int v1), some (.int v2)] ⟨rfl, ⟨rfl, ⟨rfl, trivial⟩⟩⟩ ?_
          exact rmX6_tryMarkup_b139 C (fun v0 v1 v2 f n cells slots hc hs h => ih v0 v1 v2 f n cells slots hc hs h) (by omega) (by omega) h
def mX6_tryMarkup (v0 : Nat) (f : AH) (n : Nat) : Option (Int32 × HpN) := ((gI f v0 6 9).bind fun x1 => ((pO f v0 6 1 (.int x1)).bind fun f2 => ((gI f2 v0 6 9).bind fun x3 => ((pO f2 v0 6 2 (.int x3)).bind fun f4 => ((gR f4 v0 6 0).bind fun x5 => ((gI f4 v0 6 9).bind fun x6 => ((x5).bind fun j7 => rCk (isO f4 j7 5) (((mX5_get j7 x6 f4 n).bind fun r9 => (if r9.1 = (60 : Int32) then ((gR r9.2.1 v0 6 0).bind fun x30 => ((gI r9.2.1 v0 6 9).bind fun x31 => ((gR r9.2.1 v0 6 0).bind fun x32 => ((x32).bind fun j33 => rCk (isO r9.2.1 j33 5) (((mX5_size j33 r9.2.1 r9.2.2).bind fun r35 => ((x30).bind fun j37 => rCk (isO r35.2.1 j37 5) (((mX5_next j37 (62 : Int32) x31 r35.1 r35.2.1 r35.2.2).bind fun r39 => ((pO r39.2.1 v0 6 9 (.int (r39.1 + (1 : Int32)))).bind fun f41 => some ((0 : Int32), (f41, r39.2.2)))))))))))) else ((gR r9.2.1 v0 6 0).bind fun x11 => ((gI r9.2.1 v0 6 9).bind fun x12 => ((gR r9.2.1 v0 6 0).bind fun x13 => ((x13).bind fun j14 => rCk (isO r9.2.1 j14 5) (((mX5_size j14 r9.2.1 r9.2.2).bind fun r16 => ((x11).bind fun j18 => rCk (isO r16.2.1 j18 5) (((mX5_next j18 (60 : Int32) x12 r16.1 r16.2.1 r16.2.2).bind fun r20 => ((gR r20.2.1 v0 6 0).bind fun x22 => ((gI r20.2.1 v0 6 9).bind fun x23 => ((x22).bind fun j24 => rCk (isO r20.2.1 j24 5) (((mX5_behindSpace j24 x23 r20.1 r20.2.1 r20.2.2).bind fun r26 => ((pO r26.2.1 v0 6 1 (.int r26.1)).bind fun f28 => ((pO f28 v0 6 2 (.int r20.1)).bind fun f29 => mX6_tryMarkup_l105 rFU v0 r20.1 (r20.1 - (1 : Int32)) f29 r26.2.2))))))))))))))))))))))))))
set_option maxHeartbeats 1000000 in
theorem rmX6_tryMarkup {X : GX} {l : Launch} {r : Int32 × HpN} {v0 : Nat} {f : AH} {n : Nat} (h : mX6_tryMarkup v0 f n = some r) : AM X l yX6_tryMarkup cX6_tryMarkup 3 none 1 0 0 [.ref v0] f n (QHv r) := by
  have h : ((gI f v0 6 9).bind fun x1 => ((pO f v0 6 1 (.int x1)).bind fun f2 => ((gI f2 v0 6 9).bind fun x3 => ((pO f2 v0 6 2 (.int x3)).bind fun f4 => ((gR f4 v0 6 0).bind fun x5 => ((gI f4 v0 6 9).bind fun x6 => ((x5).bind fun j7 => rCk (isO f4 j7 5) (((mX5_get j7 x6 f4 n).bind fun r9 => (if r9.1 = (60 : Int32) then ((gR r9.2.1 v0 6 0).bind fun x30 => ((gI r9.2.1 v0 6 9).bind fun x31 => ((gR r9.2.1 v0 6 0).bind fun x32 => ((x32).bind fun j33 => rCk (isO r9.2.1 j33 5) (((mX5_size j33 r9.2.1 r9.2.2).bind fun r35 => ((x30).bind fun j37 => rCk (isO r35.2.1 j37 5) (((mX5_next j37 (62 : Int32) x31 r35.1 r35.2.1 r35.2.2).bind fun r39 => ((pO r39.2.1 v0 6 9 (.int (r39.1 + (1 : Int32)))).bind fun f41 => some ((0 : Int32), (f41, r39.2.2)))))))))))) else ((gR r9.2.1 v0 6 0).bind fun x11 => ((gI r9.2.1 v0 6 9).bind fun x12 => ((gR r9.2.1 v0 6 0).bind fun x13 => ((x13).bind fun j14 => rCk (isO r9.2.1 j14 5) (((mX5_size j14 r9.2.1 r9.2.2).bind fun r16 => ((x11).bind fun j18 => rCk (isO r16.2.1 j18 5) (((mX5_next j18 (60 : Int32) x12 r16.1 r16.2.1 r16.2.2).bind fun r20 => ((gR r20.2.1 v0 6 0).bind fun x22 => ((gI r20.2.1 v0 6 9).bind fun x23 => ((x22).bind fun j24 => rCk (isO r20.2.1 j24 5) (((mX5_behindSpace j24 x23 r20.1 r20.2.1 r20.2.2).bind fun r26 => ((pO r26.2.1 v0 6 1 (.int r26.1)).bind fun f28 => ((pO f28 v0 6 2 (.int r20.1)).bind fun f29 => mX6_tryMarkup_l105 rFU v0 r20.1 (r20.1 - (1 : Int32)) f29 r26.2.2)))))))))))))))))))))))))) = some r := h
  refine AM.of (by decide +kernel) rfl (Nat.le_of_ble_eq_true rfl) (fun p e s m args below meth c C hnm => ?_)
  refine aw_nl [some (.ref v0), none, none] rfl ?_
  refine aw_ald_n C dX6_tryMarkup_0 rfl ?_
  refine aw_ald_n C dX6_tryMarkup_1 rfl ?_
  obtain ⟨x1, hx1, h⟩ := Option.bind_eq_some_iff.mp h
  refine ah_getI C gf_X6_24 hx1 dX6_tryMarkup_2 ?_
  obtain ⟨f2, hf2, h⟩ := Option.bind_eq_some_iff.mp h
  refine ah_put C gf_X6_53 cf6 nf6_1 rfl rfl hf2 dX6_tryMarkup_5 ?_
  refine aw_ald_n C dX6_tryMarkup_8 rfl ?_
  refine aw_ald_n C dX6_tryMarkup_9 rfl ?_
  obtain ⟨x3, hx3, h⟩ := Option.bind_eq_some_iff.mp h
  refine ah_getI C gf_X6_24 hx3 dX6_tryMarkup_10 ?_
  obtain ⟨f4, hf4, h⟩ := Option.bind_eq_some_iff.mp h
  refine ah_put C gf_X6_56 cf6 nf6_2 rfl rfl hf4 dX6_tryMarkup_13 ?_
  refine aw_ald_n C dX6_tryMarkup_16 rfl ?_
  obtain ⟨x5, hx5, h⟩ := Option.bind_eq_some_iff.mp h
  refine ah_getR C gf_X6_14 hx5 dX6_tryMarkup_17 ?_
  refine aw_ald_n C dX6_tryMarkup_20 rfl ?_
  obtain ⟨x6, hx6, h⟩ := Option.bind_eq_some_iff.mp h
  refine ah_getI C gf_X6_24 hx6 dX6_tryMarkup_21 ?_
  obtain ⟨j7, hj7, h⟩ := Option.bind_eq_some_iff.mp h
  rw [hj7]
  obtain ⟨hb8, h⟩ := ck_some h
  obtain ⟨r9, hr9, h⟩ := Option.bind_eq_some_iff.mp h
  obtain ⟨fs10, hf10⟩ := isO_ex hb8
  refine aw_callV C (ci := 5) (b := j7) [.int x6] mv_X6_67 rfl rfl hf10 (rmX5_get hr9) rfl dX6_tryMarkup_24 (Nat.le_of_ble_eq_true rfl) (Nat.le_of_ble_eq_true rfl) rfl (Nat.le_of_ble_eq_true rfl) (show 0 + 0 ≤ 0 by omega) (show 0 + 0 ≤ 0 by omega) (fun v9 f9 n9 hh => ?_)
  obtain ⟨rfl, rfl, rfl⟩ := hh
  refine aw_bipush C 60 dX6_tryMarkup_27 kb_60 ?_
  refine aw_icmp_ne C 59 dX6_tryMarkup_29 (by decide) (fun q => ?_) (fun q => ?_)
  · rw [if_neg q] at h
    refine aw_ald_n C dX6_tryMarkup_59 rfl ?_
    obtain ⟨x11, hx11, h⟩ := Option.bind_eq_some_iff.mp h
    refine ah_getR C gf_X6_14 hx11 dX6_tryMarkup_60 ?_
    refine aw_bipush C 60 dX6_tryMarkup_63 kb_60 ?_
    refine aw_ald_n C dX6_tryMarkup_65 rfl ?_
    obtain ⟨x12, hx12, h⟩ := Option.bind_eq_some_iff.mp h
    refine ah_getI C gf_X6_24 hx12 dX6_tryMarkup_66 ?_
    refine aw_ald_n C dX6_tryMarkup_69 rfl ?_
    obtain ⟨x13, hx13, h⟩ := Option.bind_eq_some_iff.mp h
    refine ah_getR C gf_X6_14 hx13 dX6_tryMarkup_70 ?_
    obtain ⟨j14, hj14, h⟩ := Option.bind_eq_some_iff.mp h
    rw [hj14]
    obtain ⟨hb15, h⟩ := ck_some h
    obtain ⟨r16, hr16, h⟩ := Option.bind_eq_some_iff.mp h
    obtain ⟨fs17, hf17⟩ := isO_ex hb15
    refine aw_callV C (ci := 5) (b := j14) [] mv_X6_37 rfl rfl hf17 (rmX5_size hr16) rfl dX6_tryMarkup_73 (Nat.le_of_ble_eq_true rfl) (Nat.le_of_ble_eq_true rfl) rfl (cs_1 rfl (cs_1 rfl (cs_1 (rf_cat _) cs_0))) (show (0 + 0) + 0 ≤ 0 by omega) (show (0 + 0) + 0 ≤ 0 by omega) (fun v9 f9 n9 hh => ?_)
    obtain ⟨rfl, rfl, rfl⟩ := hh
    obtain ⟨j18, hj18, h⟩ := Option.bind_eq_some_iff.mp h
    rw [hj18]
    obtain ⟨hb19, h⟩ := ck_some h
    obtain ⟨r20, hr20, h⟩ := Option.bind_eq_some_iff.mp h
    obtain ⟨fs21, hf21⟩ := isO_ex hb19
    refine aw_callV C (ci := 5) (b := j18) [.int (60 : Int32), .int x12, .int r16.1] mv_X6_59 rfl rfl hf21 (rmX5_next hr20) rfl dX6_tryMarkup_76 (Nat.le_of_ble_eq_true rfl) (Nat.le_of_ble_eq_true rfl) rfl (Nat.le_of_ble_eq_true rfl) (show ((0 + 0) + 0) + 0 ≤ 0 by omega) (show ((0 + 0) + 0) + 0 ≤ 0 by omega) (fun v9 f9 n9 hh => ?_)
    obtain ⟨rfl, rfl, rfl⟩ := hh
    refine aw_istore_n C dX6_tryMarkup_79 (by decide) rfl ?_
    refine aw_nl [some (.ref v0), some (.int r20.1), none] rfl ?_
    refine aw_ald_n C dX6_tryMarkup_80 rfl ?_
    refine aw_ald_n C dX6_tryMarkup_81 rfl ?_
    obtain ⟨x22, hx22, h⟩ := Option.bind_eq_some_iff.mp h
    refine ah_getR C gf_X6_14 hx22 dX6_tryMarkup_82 ?_
    refine aw_ald_n C dX6_tryMarkup_85 rfl ?_
    obtain ⟨x23, hx23, h⟩ := Option.bind_eq_some_iff.mp h
    refine ah_getI C gf_X6_24 hx23 dX6_tryMarkup_86 ?_
    refine aw_iload_n C dX6_tryMarkup_89 rfl ?_
    obtain ⟨j24, hj24, h⟩ := Option.bind_eq_some_iff.mp h
    rw [hj24]
    obtain ⟨hb25, h⟩ := ck_some h
    obtain ⟨r26, hr26, h⟩ := Option.bind_eq_some_iff.mp h
    obtain ⟨fs27, hf27⟩ := isO_ex hb25
    refine aw_callV C (ci := 5) (b := j24) [.int x23, .int r20.1] mv_X6_77 rfl rfl hf27 (rmX5_behindSpace hr26) rfl dX6_tryMarkup_90 (Nat.le_of_ble_eq_true rfl) (Nat.le_of_ble_eq_true rfl) rfl (Nat.le_of_ble_eq_true rfl) (show (((0 + 0) + 0) + 0) + 0 ≤ 0 by omega) (show (((0 + 0) + 0) + 0) + 0 ≤ 0 by omega) (fun v9 f9 n9 hh => ?_)
    obtain ⟨rfl, rfl, rfl⟩ := hh
    obtain ⟨f28, hf28, h⟩ := Option.bind_eq_some_iff.mp h
    refine ah_put C gf_X6_53 cf6 nf6_1 rfl rfl hf28 dX6_tryMarkup_93 ?_
    refine aw_ald_n C dX6_tryMarkup_96 rfl ?_
    refine aw_iload_n C dX6_tryMarkup_97 rfl ?_
    obtain ⟨f29, hf29, h⟩ := Option.bind_eq_some_iff.mp h
    refine ah_put C gf_X6_56 cf6 nf6_2 rfl rfl hf29 dX6_tryMarkup_98 ?_
    refine aw_iload_n C dX6_tryMarkup_101 rfl ?_
    refine aw_iconst C 1 dX6_tryMarkup_102 ki_1 ?_
    refine aw_isub C dX6_tryMarkup_103 ?_
    refine aw_istore_n C dX6_tryMarkup_104 (by decide) rfl ?_
    refine aw_nl [some (.ref v0), some (.int r20.1), some (.int (r20.1 - (1 : Int32)))] rfl ?_
    refine aw_fl [some (.ref v0), some (.int r20.1), some (.int (r20.1 - (1 : Int32)))] ⟨rfl, ⟨rfl, ⟨rfl, trivial⟩⟩⟩ ?_
    exact rmX6_tryMarkup_l105 C rFU v0 r20.1 (r20.1 - (1 : Int32)) f29 r26.2.2 _ _ (by omega) (by omega) h
  · rw [if_pos q] at h
    refine aw_ald_n C dX6_tryMarkup_32 rfl ?_
    refine aw_ald_n C dX6_tryMarkup_33 rfl ?_
    obtain ⟨x30, hx30, h⟩ := Option.bind_eq_some_iff.mp h
    refine ah_getR C gf_X6_14 hx30 dX6_tryMarkup_34 ?_
    refine aw_bipush C 62 dX6_tryMarkup_37 kb_62 ?_
    refine aw_ald_n C dX6_tryMarkup_39 rfl ?_
    obtain ⟨x31, hx31, h⟩ := Option.bind_eq_some_iff.mp h
    refine ah_getI C gf_X6_24 hx31 dX6_tryMarkup_40 ?_
    refine aw_ald_n C dX6_tryMarkup_43 rfl ?_
    obtain ⟨x32, hx32, h⟩ := Option.bind_eq_some_iff.mp h
    refine ah_getR C gf_X6_14 hx32 dX6_tryMarkup_44 ?_
    obtain ⟨j33, hj33, h⟩ := Option.bind_eq_some_iff.mp h
    rw [hj33]
    obtain ⟨hb34, h⟩ := ck_some h
    obtain ⟨r35, hr35, h⟩ := Option.bind_eq_some_iff.mp h
    obtain ⟨fs36, hf36⟩ := isO_ex hb34
    refine aw_callV C (ci := 5) (b := j33) [] mv_X6_37 rfl rfl hf36 (rmX5_size hr35) rfl dX6_tryMarkup_47 (Nat.le_of_ble_eq_true rfl) (Nat.le_of_ble_eq_true rfl) rfl (cs_1 rfl (cs_1 rfl (cs_1 (rf_cat _) (cs_1 rfl cs_0)))) (show (0 + 0) + 0 ≤ 0 by omega) (show (0 + 0) + 0 ≤ 0 by omega) (fun v9 f9 n9 hh => ?_)
    obtain ⟨rfl, rfl, rfl⟩ := hh
    obtain ⟨j37, hj37, h⟩ := Option.bind_eq_some_iff.mp h
    rw [hj37]
    obtain ⟨hb38, h⟩ := ck_some h
    obtain ⟨r39, hr39, h⟩ := Option.bind_eq_some_iff.mp h
    obtain ⟨fs40, hf40⟩ := isO_ex hb38
    refine aw_callV C (ci := 5) (b := j37) [.int (62 : Int32), .int x31, .int r35.1] mv_X6_59 rfl rfl hf40 (rmX5_next hr39) rfl dX6_tryMarkup_50 (Nat.le_of_ble_eq_true rfl) (Nat.le_of_ble_eq_true rfl) rfl (Nat.le_of_ble_eq_true rfl) (show ((0 + 0) + 0) + 0 ≤ 0 by omega) (show ((0 + 0) + 0) + 0 ≤ 0 by omega) (fun v9 f9 n9 hh => ?_)
    obtain ⟨rfl, rfl, rfl⟩ := hh
    refine aw_iconst C 1 dX6_tryMarkup_53 ki_1 ?_
    refine aw_iadd C dX6_tryMarkup_54 ?_
    obtain ⟨f41, hf41, h⟩ := Option.bind_eq_some_iff.mp h
    refine ah_put C gf_X6_24 cf6 nf6_9 rfl rfl hf41 dX6_tryMarkup_55 ?_
    cases h
    exact aw_vret C rfl dX6_tryMarkup_58 (by omega) (by omega) ⟨rfl, rfl, rfl⟩
def mX5_quoteEnd_b69 (v0 : Nat) (f : AH) (n : Nat) : Option (Int32 × HpN) := ((gI f v0 5 1).bind fun x1 => some (x1, (f, n)))
set_option maxHeartbeats 1000000 in
theorem rmX5_quoteEnd_b69 {X : GX} {p : Program} {l : Launch} {e : Env} {s : State} {m : MethodId} {args : Array Value} {below : List Frame} {meth : Method} {c : Code} {r : Int32 × HpN} {v0 : Nat} {f : AH} {n cells slots : Nat} (C : CC X p l (RM 0 0 0) s m args meth c RX5 cX5_quoteEnd 4 (some .int)) (hc : cells + 0 ≤ 0) (hs : slots + 0 ≤ 0) (h : mX5_quoteEnd_b69 v0 f n = some r) : AW X p l e (RM 0 0 0) s m args below meth c 4 (ZM X below args s 0 0 (QHi r)) f n cells slots 69 [some (.ref v0), none, none, none] [] := by
  have h : ((gI f v0 5 1).bind fun x1 => some (x1, (f, n))) = some r := h
  refine aw_ald_n C dX5_quoteEnd_69 rfl ?_
  obtain ⟨x1, hx1, h⟩ := Option.bind_eq_some_iff.mp h
  refine ah_getI C gf_X5_15 hx1 dX5_quoteEnd_70 ?_
  cases h
  exact aw_iret C rfl rfl dX5_quoteEnd_73 (by omega) (by omega) ⟨rfl, rfl, rfl⟩
def mX5_quoteEnd_b62 (rec4 : Nat → Int32 → Int32 → AH → Nat → Option (Int32 × HpN)) (v0 : Nat) (v3 : Int32) (s0 : Int32) (f : AH) (n : Nat) : Option (Int32 × HpN) := rec4 v0 s0 (v3 + (1 : Int32)) f n
set_option maxHeartbeats 1000000 in
theorem rmX5_quoteEnd_b62 {X : GX} {p : Program} {l : Launch} {e : Env} {s : State} {m : MethodId} {args : Array Value} {below : List Frame} {meth : Method} {c : Code} {r : Int32 × HpN} {rec4 : Nat → Int32 → Int32 → AH → Nat → Option (Int32 × HpN)} {v0 : Nat} {v3 : Int32} {s0 : Int32} {f : AH} {n cells slots : Nat} (C : CC X p l (RM 0 0 0) s m args meth c RX5 cX5_quoteEnd 4 (some .int)) (Hr4 : ∀ (v0 : Nat) (v2 : Int32) (v3 : Int32) (f : AH) (n cells slots : Nat), cells + 0 ≤ 0 → slots + 0 ≤ 0 → rec4 v0 v2 v3 f n = some r → AW X p l e (RM 0 0 0) s m args below meth c 4 (ZM X below args s 0 0 (QHi r)) f n cells slots 4 [some (.ref v0), none, some (.int v2), some (.int v3)] []) (hc : cells + 0 ≤ 0) (hs : slots + 0 ≤ 0) (h : mX5_quoteEnd_b62 rec4 v0 v3 s0 f n = some r) : AW X p l e (RM 0 0 0) s m args below meth c 4 (ZM X below args s 0 0 (QHi r)) f n cells slots 62 [some (.ref v0), none, none, some (.int v3)] [.int s0] := by
  have h : rec4 v0 s0 (v3 + (1 : Int32)) f n = some r := h
  refine aw_istore_n C dX5_quoteEnd_62 (by decide) rfl ?_
  refine aw_nl [some (.ref v0), none, some (.int s0), some (.int v3)] rfl ?_
  refine aw_iinc C (v3 + (1 : Int32)) dX5_quoteEnd_63 rfl (by rw [ki_1]) (by decide) rfl ?_
  refine aw_nl [some (.ref v0), none, some (.int s0), some (.int (v3 + (1 : Int32)))] rfl ?_
  refine aw_goto C 4 dX5_quoteEnd_66 (by decide) ?_
  refine aw_fl [some (.ref v0), none, some (.int s0), some (.int (v3 + (1 : Int32)))] ⟨rfl, ⟨rfl, ⟨rfl, trivial⟩⟩⟩ ?_
  exact Hr4 v0 s0 (v3 + (1 : Int32)) f n _ _ (by omega) (by omega) h
def mX5_quoteEnd_b61 (rec4 : Nat → Int32 → Int32 → AH → Nat → Option (Int32 × HpN)) (v0 : Nat) (v3 : Int32) (f : AH) (n : Nat) : Option (Int32 × HpN) := mX5_quoteEnd_b62 rec4 v0 v3 (0 : Int32) f n
set_option maxHeartbeats 1000000 in
theorem rmX5_quoteEnd_b61 {X : GX} {p : Program} {l : Launch} {e : Env} {s : State} {m : MethodId} {args : Array Value} {below : List Frame} {meth : Method} {c : Code} {r : Int32 × HpN} {rec4 : Nat → Int32 → Int32 → AH → Nat → Option (Int32 × HpN)} {v0 : Nat} {v3 : Int32} {f : AH} {n cells slots : Nat} (C : CC X p l (RM 0 0 0) s m args meth c RX5 cX5_quoteEnd 4 (some .int)) (Hr4 : ∀ (v0 : Nat) (v2 : Int32) (v3 : Int32) (f : AH) (n cells slots : Nat), cells + 0 ≤ 0 → slots + 0 ≤ 0 → rec4 v0 v2 v3 f n = some r → AW X p l e (RM 0 0 0) s m args below meth c 4 (ZM X below args s 0 0 (QHi r)) f n cells slots 4 [some (.ref v0), none, some (.int v2), some (.int v3)] []) (hc : cells + 0 ≤ 0) (hs : slots + 0 ≤ 0) (h : mX5_quoteEnd_b61 rec4 v0 v3 f n = some r) : AW X p l e (RM 0 0 0) s m args below meth c 4 (ZM X below args s 0 0 (QHi r)) f n cells slots 61 [some (.ref v0), none, none, some (.int v3)] [] := by
  have h : mX5_quoteEnd_b62 rec4 v0 v3 (0 : Int32) f n = some r := h
  refine aw_iconst C 0 dX5_quoteEnd_61 ki_0 ?_
  refine aw_fl [some (.ref v0), none, none, some (.int v3)] ⟨rfl, ⟨rfl, trivial⟩⟩ ?_
  exact rmX5_quoteEnd_b62 C Hr4 (by omega) (by omega) h
def mX5_quoteEnd_b42 (rec4 : Nat → Int32 → Int32 → AH → Nat → Option (Int32 × HpN)) (v0 : Nat) (v2 : Int32) (v3 : Int32) (f : AH) (n : Nat) : Option (Int32 × HpN) := ((gR f v0 5 0).bind fun x1 => ((x1).bind fun j2 => ((gIA f j2 v3).bind fun x3 => (if x3 = (92 : Int32) then (if v2 = (0 : Int32) then mX5_quoteEnd_b62 rec4 v0 v3 (1 : Int32) f n else mX5_quoteEnd_b61 rec4 v0 v3 f n) else mX5_quoteEnd_b61 rec4 v0 v3 f n))))
set_option maxHeartbeats 1000000 in
theorem rmX5_quoteEnd_b42 {X : GX} {p : Program} {l : Launch} {e : Env} {s : State} {m : MethodId} {args : Array Value} {below : List Frame} {meth : Method} {c : Code} {r : Int32 × HpN} {rec4 : Nat → Int32 → Int32 → AH → Nat → Option (Int32 × HpN)} {v0 : Nat} {v2 : Int32} {v3 : Int32} {f : AH} {n cells slots : Nat} (C : CC X p l (RM 0 0 0) s m args meth c RX5 cX5_quoteEnd 4 (some .int)) (Hr4 : ∀ (v0 : Nat) (v2 : Int32) (v3 : Int32) (f : AH) (n cells slots : Nat), cells + 0 ≤ 0 → slots + 0 ≤ 0 → rec4 v0 v2 v3 f n = some r → AW X p l e (RM 0 0 0) s m args below meth c 4 (ZM X below args s 0 0 (QHi r)) f n cells slots 4 [some (.ref v0), none, some (.int v2), some (.int v3)] []) (hc : cells + 0 ≤ 0) (hs : slots + 0 ≤ 0) (h : mX5_quoteEnd_b42 rec4 v0 v2 v3 f n = some r) : AW X p l e (RM 0 0 0) s m args below meth c 4 (ZM X below args s 0 0 (QHi r)) f n cells slots 42 [some (.ref v0), none, some (.int v2), some (.int v3)] [] := by
  have h : ((gR f v0 5 0).bind fun x1 => ((x1).bind fun j2 => ((gIA f j2 v3).bind fun x3 => (if x3 = (92 : Int32) then (if v2 = (0 : Int32) then mX5_quoteEnd_b62 rec4 v0 v3 (1 : Int32) f n else mX5_quoteEnd_b61 rec4 v0 v3 f n) else mX5_quoteEnd_b61 rec4 v0 v3 f n)))) = some r := h
  refine aw_ald_n C dX5_quoteEnd_42 rfl ?_
  obtain ⟨x1, hx1, h⟩ := Option.bind_eq_some_iff.mp h
  refine ah_getR C gf_X5_9 hx1 dX5_quoteEnd_43 ?_
  refine aw_iload_n C dX5_quoteEnd_46 rfl ?_
  obtain ⟨j2, hj2, h⟩ := Option.bind_eq_some_iff.mp h
  rw [hj2]
  obtain ⟨x3, hx3, h⟩ := Option.bind_eq_some_iff.mp h
  refine ah_iald C hx3 dX5_quoteEnd_47 ?_
  refine aw_bipush C 92 dX5_quoteEnd_48 kb_92 ?_
  refine aw_icmp_ne C 61 dX5_quoteEnd_50 (by decide) (fun q => ?_) (fun q => ?_)
  · rw [if_neg q] at h
    refine aw_fl [some (.ref v0), none, none, some (.int v3)] ⟨rfl, ⟨rfl, trivial⟩⟩ ?_
    exact rmX5_quoteEnd_b61 C Hr4 (by omega) (by omega) h
  · rw [if_pos q] at h
    refine aw_iload_n C dX5_quoteEnd_53 rfl ?_
    refine aw_if_ne C 61 dX5_quoteEnd_54 (by decide) (fun q => ?_) (fun q => ?_)
    · rw [if_neg q] at h
      refine aw_fl [some (.ref v0), none, none, some (.int v3)] ⟨rfl, ⟨rfl, trivial⟩⟩ ?_
      exact rmX5_quoteEnd_b61 C Hr4 (by omega) (by omega) h
    · rw [if_pos q] at h
      refine aw_iconst C 1 dX5_quoteEnd_57 ki_1 ?_
      refine aw_goto C 62 dX5_quoteEnd_58 (by decide) ?_
      refine aw_fl [some (.ref v0), none, none, some (.int v3)] ⟨rfl, ⟨rfl, trivial⟩⟩ ?_
      exact rmX5_quoteEnd_b62 C Hr4 (by omega) (by omega) h
def mX5_quoteEnd_l4 : Nat → Nat → Int32 → Int32 → AH → Nat → Option (Int32 × HpN)
  | 0, _, _, _, _, _ => none
  | d + 1, v0, v2, v3, f, n => (if v3 < (0 : Int32) then mX5_quoteEnd_b69 v0 f n else ((gI f v0 5 1).bind fun x1 => (if x1 ≤ v3 then mX5_quoteEnd_b69 v0 f n else ((gR f v0 5 0).bind fun x2 => ((x2).bind fun j3 => ((gL f j3).bind fun x4 => (if (nI x4) ≤ v3 then mX5_quoteEnd_b69 v0 f n else ((gR f v0 5 0).bind fun x5 => ((x5).bind fun j6 => ((gIA f j6 v3).bind fun x7 => (if x7 = (34 : Int32) then (if v2 = (0 : Int32) then some (v3, (f, n)) else mX5_quoteEnd_b42 (fun v0 v2 v3 f n => mX5_quoteEnd_l4 d v0 v2 v3 f n) v0 v2 v3 f n) else mX5_quoteEnd_b42 (fun v0 v2 v3 f n => mX5_quoteEnd_l4 d v0 v2 v3 f n) v0 v2 v3 f n)))))))))))
set_option maxHeartbeats 1000000 in
theorem rmX5_quoteEnd_l4 {X : GX} {p : Program} {l : Launch} {e : Env} {s : State} {m : MethodId} {args : Array Value} {below : List Frame} {meth : Method} {c : Code} {r : Int32 × HpN} (C : CC X p l (RM 0 0 0) s m args meth c RX5 cX5_quoteEnd 4 (some .int)) : ∀ (d : Nat) (v0 : Nat) (v2 : Int32) (v3 : Int32) (f : AH) (n cells slots : Nat) (_ : cells + 0 ≤ 0) (_ : slots + 0 ≤ 0) (_ : mX5_quoteEnd_l4 d v0 v2 v3 f n = some r), AW X p l e (RM 0 0 0) s m args below meth c 4 (ZM X below args s 0 0 (QHi r)) f n cells slots 4 [some (.ref v0), none, some (.int v2), some (.int v3)] [] := by
  intro d
  induction d with
  | zero =>
    intro v0 v2 v3 f n cells slots hc hs h
    exact nomatch (show (none : Option (Int32 × HpN)) = some r from h)
  | succ d ih =>
    intro v0 v2 v3 f n cells slots hc hs h
    have h : (if v3 < (0 : Int32) then mX5_quoteEnd_b69 v0 f n else ((gI f v0 5 1).bind fun x1 => (if x1 ≤ v3 then mX5_quoteEnd_b69 v0 f n else ((gR f v0 5 0).bind fun x2 => ((x2).bind fun j3 => ((gL f j3).bind fun x4 => (if (nI x4) ≤ v3 then mX5_quoteEnd_b69 v0 f n else ((gR f v0 5 0).bind fun x5 => ((x5).bind fun j6 => ((gIA f j6 v3).bind fun x7 => (if x7 = (34 : Int32) then (if v2 = (0 : Int32) then some (v3, (f, n)) else mX5_quoteEnd_b42 (fun v0 v2 v3 f n => mX5_quoteEnd_l4 d v0 v2 v3 f n) v0 v2 v3 f n) else mX5_quoteEnd_b42 (fun v0 v2 v3 f n => mX5_quoteEnd_l4 d v0 v2 v3 f n) v0 v2 v3 f n))))))))))) = some r := h
    refine aw_iload_n C dX5_quoteEnd_4 rfl ?_
    refine aw_if_lt C 69 dX5_quoteEnd_5 (by decide) (fun q => ?_) (fun q => ?_)
    · rw [if_pos q] at h
      refine aw_fl [some (.ref v0), none, none, none] ⟨rfl, trivial⟩ ?_
      exact rmX5_quoteEnd_b69 C (by omega) (by omega) h
    · rw [if_neg q] at h
      refine aw_iload_n C dX5_quoteEnd_8 rfl ?_
      refine aw_ald_n C dX5_quoteEnd_9 rfl ?_
      obtain ⟨x1, hx1, h⟩ := Option.bind_eq_some_iff.mp h
      refine ah_getI C gf_X5_15 hx1 dX5_quoteEnd_10 ?_
      refine aw_icmp_ge C 69 dX5_quoteEnd_13 (by decide) (fun q => ?_) (fun q => ?_)
      · rw [if_pos q] at h
        refine aw_fl [some (.ref v0), none, none, none] ⟨rfl, trivial⟩ ?_
        exact rmX5_quoteEnd_b69 C (by omega) (by omega) h
      · rw [if_neg q] at h
        refine aw_iload_n C dX5_quoteEnd_16 rfl ?_
        refine aw_ald_n C dX5_quoteEnd_17 rfl ?_
        obtain ⟨x2, hx2, h⟩ := Option.bind_eq_some_iff.mp h
        refine ah_getR C gf_X5_9 hx2 dX5_quoteEnd_18 ?_
        obtain ⟨j3, hj3, h⟩ := Option.bind_eq_some_iff.mp h
        rw [hj3]
        obtain ⟨x4, hx4, h⟩ := Option.bind_eq_some_iff.mp h
        refine ah_len C hx4 dX5_quoteEnd_21 ?_
        refine aw_icmp_ge C 69 dX5_quoteEnd_22 (by decide) (fun q => ?_) (fun q => ?_)
        · rw [if_pos q] at h
          refine aw_fl [some (.ref v0), none, none, none] ⟨rfl, trivial⟩ ?_
          exact rmX5_quoteEnd_b69 C (by omega) (by omega) h
        · rw [if_neg q] at h
          refine aw_ald_n C dX5_quoteEnd_25 rfl ?_
          obtain ⟨x5, hx5, h⟩ := Option.bind_eq_some_iff.mp h
          refine ah_getR C gf_X5_9 hx5 dX5_quoteEnd_26 ?_
          refine aw_iload_n C dX5_quoteEnd_29 rfl ?_
          obtain ⟨j6, hj6, h⟩ := Option.bind_eq_some_iff.mp h
          rw [hj6]
          obtain ⟨x7, hx7, h⟩ := Option.bind_eq_some_iff.mp h
          refine ah_iald C hx7 dX5_quoteEnd_30 ?_
          refine aw_bipush C 34 dX5_quoteEnd_31 kb_34 ?_
          refine aw_icmp_ne C 42 dX5_quoteEnd_33 (by decide) (fun q => ?_) (fun q => ?_)
          · rw [if_neg q] at h
            refine aw_fl [some (.ref v0), none, some (.int v2), some (.int v3)] ⟨rfl, ⟨rfl, ⟨rfl, trivial⟩⟩⟩ ?_
            exact rmX5_quoteEnd_b42 C (fun v0 v2 v3 f n cells slots hc hs h => ih v0 v2 v3 f n cells slots hc hs h) (by omega) (by omega) h
          · rw [if_pos q] at h
            refine aw_iload_n C dX5_quoteEnd_36 rfl ?_
            refine aw_if_ne C 42 dX5_quoteEnd_37 (by decide) (fun q => ?_) (fun q => ?_)
            · rw [if_neg q] at h
              refine aw_fl [some (.ref v0), none, some (.int v2), some (.int v3)] ⟨rfl, ⟨rfl, ⟨rfl, trivial⟩⟩⟩ ?_
              exact rmX5_quoteEnd_b42 C (fun v0 v2 v3 f n cells slots hc hs h => ih v0 v2 v3 f n cells slots hc hs h) (by omega) (by omega) h
            · rw [if_pos q] at h
              refine aw_iload_n C dX5_quoteEnd_40 rfl ?_
              cases h
              exact aw_iret C rfl rfl dX5_quoteEnd_41 (by omega) (by omega) ⟨rfl, rfl, rfl⟩
def mX5_quoteEnd (v0 : Nat) (v1 : Int32) (f : AH) (n : Nat) : Option (Int32 × HpN) := mX5_quoteEnd_l4 rFU v0 (0 : Int32) v1 f n
set_option maxHeartbeats 1000000 in
theorem rmX5_quoteEnd {X : GX} {l : Launch} {r : Int32 × HpN} {v0 : Nat} {v1 : Int32} {f : AH} {n : Nat} (h : mX5_quoteEnd v0 v1 f n = some r) : AM X l yX5_quoteEnd cX5_quoteEnd 4 (some .int) 0 0 0 [.ref v0, .int v1] f n (QHi r) := by
  have h : mX5_quoteEnd_l4 rFU v0 (0 : Int32) v1 f n = some r := h
  refine AM.of (by decide +kernel) rfl (Nat.le_of_ble_eq_true rfl) (fun p e s m args below meth c C hnm => ?_)
  refine aw_nl [some (.ref v0), some (.int v1), none, none] rfl ?_
  refine aw_iconst C 0 dX5_quoteEnd_0 ki_0 ?_
  refine aw_istore_n C dX5_quoteEnd_1 (by decide) rfl ?_
  refine aw_nl [some (.ref v0), some (.int v1), some (.int (0 : Int32)), none] rfl ?_
  refine aw_iload_n C dX5_quoteEnd_2 rfl ?_
  refine aw_istore_n C dX5_quoteEnd_3 (by decide) rfl ?_
  refine aw_nl [some (.ref v0), some (.int v1), some (.int (0 : Int32)), some (.int v1)] rfl ?_
  refine aw_fl [some (.ref v0), none, some (.int (0 : Int32)), some (.int v1)] ⟨rfl, ⟨rfl, ⟨rfl, trivial⟩⟩⟩ ?_
  exact rmX5_quoteEnd_l4 C rFU v0 (0 : Int32) v1 f n _ _ (by omega) (by omega) h
def mX6_tryQuotes_b89 (f : AH) (n : Nat) : Option (Int32 × HpN) := some ((0 : Int32), (f, n))
set_option maxHeartbeats 1000000 in
theorem rmX6_tryQuotes_b89 {X : GX} {p : Program} {l : Launch} {e : Env} {s : State} {m : MethodId} {args : Array Value} {below : List Frame} {meth : Method} {c : Code} {r : Int32 × HpN} {f : AH} {n cells slots : Nat} (C : CC X p l (RM 1 0 0) s m args meth c RX6 cX6_tryQuotes 1 none) (hc : cells + 0 ≤ 0) (hs : slots + 0 ≤ 0) (h : mX6_tryQuotes_b89 f n = some r) : AW X p l e (RM 1 0 0) s m args below meth c 1 (ZM X below args s 0 0 (QHv r)) f n cells slots 89 [none] [] := by
  have h : some ((0 : Int32), (f, n)) = some r := h
  cases h
  exact aw_vret C rfl dX6_tryQuotes_89 (by omega) (by omega) ⟨rfl, rfl, rfl⟩
def mX6_tryQuotes (v0 : Nat) (f : AH) (n : Nat) : Option (Int32 × HpN) := ((gR f v0 6 0).bind fun x1 => ((gI f v0 6 9).bind fun x2 => ((gR f v0 6 0).bind fun x3 => ((x3).bind fun j4 => rCk (isO f j4 5) (((mX5_size j4 f n).bind fun r6 => ((x1).bind fun j8 => rCk (isO r6.2.1 j8 5) (((mX5_next j8 (34 : Int32) x2 r6.1 r6.2.1 r6.2.2).bind fun r10 => ((pO r10.2.1 v0 6 1 (.int (r10.1 + (1 : Int32)))).bind fun f12 => ((gR f12 v0 6 0).bind fun x13 => ((gI f12 v0 6 1).bind fun x14 => ((x13).bind fun j15 => rCk (isO f12 j15 5) (((mX5_quoteEnd j15 x14 f12 r10.2.2).bind fun r17 => ((pO r17.2.1 v0 6 2 (.int r17.1)).bind fun f19 => ((gI f19 v0 6 2).bind fun x20 => ((pO f19 v0 6 9 (.int (x20 + (1 : Int32)))).bind fun f21 => ((gR f21 v0 6 0).bind fun x22 => ((gR f21 v0 6 0).bind fun x23 => ((gI f21 v0 6 9).bind fun x24 => ((gR f21 v0 6 0).bind fun x25 => ((x25).bind fun j26 => rCk (isO f21 j26 5) (((mX5_size j26 f21 r17.2.2).bind fun r28 => ((x23).bind fun j30 => rCk (isO r28.2.1 j30 5) (((mX5_behindSpace j30 x24 r28.1 r28.2.1 r28.2.2).bind fun r32 => ((x22).bind fun j34 => rCk (isO r32.2.1 j34 5) (((mX5_get j34 r32.1 r32.2.1 r32.2.2).bind fun r36 => (if r36.1 = (58 : Int32) then ((gI r36.2.1 v0 6 1).bind fun x38 => ((pO r36.2.1 v0 6 2 (.int x38)).bind fun f39 => mX6_tryQuotes_b89 f39 r36.2.2)) else mX6_tryQuotes_b89 r36.2.1 r36.2.2))))))))))))))))))))))))))))))))
set_option maxHeartbeats 1000000 in
theorem rmX6_tryQuotes {X : GX} {l : Launch} {r : Int32 × HpN} {v0 : Nat} {f : AH} {n : Nat} (h : mX6_tryQuotes v0 f n = some r) : AM X l yX6_tryQuotes cX6_tryQuotes 1 none 1 0 0 [.ref v0] f n (QHv r) := by
  have h : ((gR f v0 6 0).bind fun x1 => ((gI f v0 6 9).bind fun x2 => ((gR f v0 6 0).bind fun x3 => ((x3).bind fun j4 => rCk (isO f j4 5) (((mX5_size j4 f n).bind fun r6 => ((x1).bind fun j8 => rCk (isO r6.2.1 j8 5) (((mX5_next j8 (34 : Int32) x2 r6.1 r6.2.1 r6.2.2).bind fun r10 => ((pO r10.2.1 v0 6 1 (.int (r10.1 + (1 : Int32)))).bind fun f12 => ((gR f12 v0 6 0).bind fun x13 => ((gI f12 v0 6 1).bind fun x14 => ((x13).bind fun j15 => rCk (isO f12 j15 5) (((mX5_quoteEnd j15 x14 f12 r10.2.2).bind fun r17 => ((pO r17.2.1 v0 6 2 (.int r17.1)).bind fun f19 => ((gI f19 v0 6 2).bind fun x20 => ((pO f19 v0 6 9 (.int (x20 + (1 : Int32)))).bind fun f21 => ((gR f21 v0 6 0).bind fun x22 => ((gR f21 v0 6 0).bind fun x23 => ((gI f21 v0 6 9).bind fun x24 => ((gR f21 v0 6 0).bind fun x25 => ((x25).bind fun j26 => rCk (isO f21 j26 5) (((mX5_size j26 f21 r17.2.2).bind fun r28 => ((x23).bind fun j30 => rCk (isO r28.2.1 j30 5) (((mX5_behindSpace j30 x24 r28.1 r28.2.1 r28.2.2).bind fun r32 => ((x22).bind fun j34 => rCk (isO r32.2.1 j34 5) (((mX5_get j34 r32.1 r32.2.1 r32.2.2).bind fun r36 => (if r36.1 = (58 : Int32) then ((gI r36.2.1 v0 6 1).bind fun x38 => ((pO r36.2.1 v0 6 2 (.int x38)).bind fun f39 => mX6_tryQuotes_b89 f39 r36.2.2)) else mX6_tryQuotes_b89 r36.2.1 r36.2.2)))))))))))))))))))))))))))))))) = some r := h
  refine AM.of (by decide +kernel) rfl (Nat.le_of_ble_eq_true rfl) (fun p e s m args below meth c C hnm => ?_)
  refine aw_nl [some (.ref v0)] rfl ?_
  refine aw_ald_n C dX6_tryQuotes_0 rfl ?_
  refine aw_ald_n C dX6_tryQuotes_1 rfl ?_
  obtain ⟨x1, hx1, h⟩ := Option.bind_eq_some_iff.mp h
  refine ah_getR C gf_X6_14 hx1 dX6_tryQuotes_2 ?_
  refine aw_bipush C 34 dX6_tryQuotes_5 kb_34 ?_
  refine aw_ald_n C dX6_tryQuotes_7 rfl ?_
  obtain ⟨x2, hx2, h⟩ := Option.bind_eq_some_iff.mp h
  refine ah_getI C gf_X6_24 hx2 dX6_tryQuotes_8 ?_
  refine aw_ald_n C dX6_tryQuotes_11 rfl ?_
  obtain ⟨x3, hx3, h⟩ := Option.bind_eq_some_iff.mp h
  refine ah_getR C gf_X6_14 hx3 dX6_tryQuotes_12 ?_
  obtain ⟨j4, hj4, h⟩ := Option.bind_eq_some_iff.mp h
  rw [hj4]
  obtain ⟨hb5, h⟩ := ck_some h
  obtain ⟨r6, hr6, h⟩ := Option.bind_eq_some_iff.mp h
  obtain ⟨fs7, hf7⟩ := isO_ex hb5
  refine aw_callV C (ci := 5) (b := j4) [] mv_X6_37 rfl rfl hf7 (rmX5_size hr6) rfl dX6_tryQuotes_15 (Nat.le_of_ble_eq_true rfl) (Nat.le_of_ble_eq_true rfl) rfl (cs_1 rfl (cs_1 rfl (cs_1 (rf_cat _) (cs_1 rfl cs_0)))) (show 0 + 0 ≤ 0 by omega) (show 0 + 0 ≤ 0 by omega) (fun v9 f9 n9 hh => ?_)
  obtain ⟨rfl, rfl, rfl⟩ := hh
  obtain ⟨j8, hj8, h⟩ := Option.bind_eq_some_iff.mp h
  rw [hj8]
  obtain ⟨hb9, h⟩ := ck_some h
  obtain ⟨r10, hr10, h⟩ := Option.bind_eq_some_iff.mp h
  obtain ⟨fs11, hf11⟩ := isO_ex hb9
  refine aw_callV C (ci := 5) (b := j8) [.int (34 : Int32), .int x2, .int r6.1] mv_X6_59 rfl rfl hf11 (rmX5_next hr10) rfl dX6_tryQuotes_18 (Nat.le_of_ble_eq_true rfl) (Nat.le_of_ble_eq_true rfl) rfl (Nat.le_of_ble_eq_true rfl) (show (0 + 0) + 0 ≤ 0 by omega) (show (0 + 0) + 0 ≤ 0 by omega) (fun v9 f9 n9 hh => ?_)
  obtain ⟨rfl, rfl, rfl⟩ := hh
  refine aw_iconst C 1 dX6_tryQuotes_21 ki_1 ?_
  refine aw_iadd C dX6_tryQuotes_22 ?_
  obtain ⟨f12, hf12, h⟩ := Option.bind_eq_some_iff.mp h
  refine ah_put C gf_X6_53 cf6 nf6_1 rfl rfl hf12 dX6_tryQuotes_23 ?_
  refine aw_ald_n C dX6_tryQuotes_26 rfl ?_
  refine aw_ald_n C dX6_tryQuotes_27 rfl ?_
  obtain ⟨x13, hx13, h⟩ := Option.bind_eq_some_iff.mp h
  refine ah_getR C gf_X6_14 hx13 dX6_tryQuotes_28 ?_
  refine aw_ald_n C dX6_tryQuotes_31 rfl ?_
  obtain ⟨x14, hx14, h⟩ := Option.bind_eq_some_iff.mp h
  refine ah_getI C gf_X6_53 hx14 dX6_tryQuotes_32 ?_
  obtain ⟨j15, hj15, h⟩ := Option.bind_eq_some_iff.mp h
  rw [hj15]
  obtain ⟨hb16, h⟩ := ck_some h
  obtain ⟨r17, hr17, h⟩ := Option.bind_eq_some_iff.mp h
  obtain ⟨fs18, hf18⟩ := isO_ex hb16
  refine aw_callV C (ci := 5) (b := j15) [.int x14] mv_X6_80 rfl rfl hf18 (rmX5_quoteEnd hr17) rfl dX6_tryQuotes_35 (Nat.le_of_ble_eq_true rfl) (Nat.le_of_ble_eq_true rfl) rfl (Nat.le_of_ble_eq_true rfl) (show ((0 + 0) + 0) + 0 ≤ 0 by omega) (show ((0 + 0) + 0) + 0 ≤ 0 by omega) (fun v9 f9 n9 hh => ?_)
  obtain ⟨rfl, rfl, rfl⟩ := hh
  obtain ⟨f19, hf19, h⟩ := Option.bind_eq_some_iff.mp h
  refine ah_put C gf_X6_56 cf6 nf6_2 rfl rfl hf19 dX6_tryQuotes_38 ?_
  refine aw_ald_n C dX6_tryQuotes_41 rfl ?_
  refine aw_ald_n C dX6_tryQuotes_42 rfl ?_
  obtain ⟨x20, hx20, h⟩ := Option.bind_eq_some_iff.mp h
  refine ah_getI C gf_X6_56 hx20 dX6_tryQuotes_43 ?_
  refine aw_iconst C 1 dX6_tryQuotes_46 ki_1 ?_
  refine aw_iadd C dX6_tryQuotes_47 ?_
  obtain ⟨f21, hf21, h⟩ := Option.bind_eq_some_iff.mp h
  refine ah_put C gf_X6_24 cf6 nf6_9 rfl rfl hf21 dX6_tryQuotes_48 ?_
  refine aw_ald_n C dX6_tryQuotes_51 rfl ?_
  obtain ⟨x22, hx22, h⟩ := Option.bind_eq_some_iff.mp h
  refine ah_getR C gf_X6_14 hx22 dX6_tryQuotes_52 ?_
  refine aw_ald_n C dX6_tryQuotes_55 rfl ?_
  obtain ⟨x23, hx23, h⟩ := Option.bind_eq_some_iff.mp h
  refine ah_getR C gf_X6_14 hx23 dX6_tryQuotes_56 ?_
  refine aw_ald_n C dX6_tryQuotes_59 rfl ?_
  obtain ⟨x24, hx24, h⟩ := Option.bind_eq_some_iff.mp h
  refine ah_getI C gf_X6_24 hx24 dX6_tryQuotes_60 ?_
  refine aw_ald_n C dX6_tryQuotes_63 rfl ?_
  obtain ⟨x25, hx25, h⟩ := Option.bind_eq_some_iff.mp h
  refine ah_getR C gf_X6_14 hx25 dX6_tryQuotes_64 ?_
  obtain ⟨j26, hj26, h⟩ := Option.bind_eq_some_iff.mp h
  rw [hj26]
  obtain ⟨hb27, h⟩ := ck_some h
  obtain ⟨r28, hr28, h⟩ := Option.bind_eq_some_iff.mp h
  obtain ⟨fs29, hf29⟩ := isO_ex hb27
  refine aw_callV C (ci := 5) (b := j26) [] mv_X6_37 rfl rfl hf29 (rmX5_size hr28) rfl dX6_tryQuotes_67 (Nat.le_of_ble_eq_true rfl) (Nat.le_of_ble_eq_true rfl) rfl (cs_1 rfl (cs_1 (rf_cat _) (cs_1 (rf_cat _) cs_0))) (show (((0 + 0) + 0) + 0) + 0 ≤ 0 by omega) (show (((0 + 0) + 0) + 0) + 0 ≤ 0 by omega) (fun v9 f9 n9 hh => ?_)
  obtain ⟨rfl, rfl, rfl⟩ := hh
  obtain ⟨j30, hj30, h⟩ := Option.bind_eq_some_iff.mp h
  rw [hj30]
  obtain ⟨hb31, h⟩ := ck_some h
  obtain ⟨r32, hr32, h⟩ := Option.bind_eq_some_iff.mp h
  obtain ⟨fs33, hf33⟩ := isO_ex hb31
  refine aw_callV C (ci := 5) (b := j30) [.int x24, .int r28.1] mv_X6_77 rfl rfl hf33 (rmX5_behindSpace hr32) rfl dX6_tryQuotes_70 (Nat.le_of_ble_eq_true rfl) (Nat.le_of_ble_eq_true rfl) rfl (cs_1 (rf_cat _) cs_0) (show ((((0 + 0) + 0) + 0) + 0) + 0 ≤ 0 by omega) (show ((((0 + 0) + 0) + 0) + 0) + 0 ≤ 0 by omega) (fun v9 f9 n9 hh => ?_)
  obtain ⟨rfl, rfl, rfl⟩ := hh
  obtain ⟨j34, hj34, h⟩ := Option.bind_eq_some_iff.mp h
  rw [hj34]
  obtain ⟨hb35, h⟩ := ck_some h
  obtain ⟨r36, hr36, h⟩ := Option.bind_eq_some_iff.mp h
  obtain ⟨fs37, hf37⟩ := isO_ex hb35
  refine aw_callV C (ci := 5) (b := j34) [.int r32.1] mv_X6_67 rfl rfl hf37 (rmX5_get hr36) rfl dX6_tryQuotes_73 (Nat.le_of_ble_eq_true rfl) (Nat.le_of_ble_eq_true rfl) rfl (Nat.le_of_ble_eq_true rfl) (show (((((0 + 0) + 0) + 0) + 0) + 0) + 0 ≤ 0 by omega) (show (((((0 + 0) + 0) + 0) + 0) + 0) + 0 ≤ 0 by omega) (fun v9 f9 n9 hh => ?_)
  obtain ⟨rfl, rfl, rfl⟩ := hh
  refine aw_bipush C 58 dX6_tryQuotes_76 kb_58 ?_
  refine aw_icmp_ne C 89 dX6_tryQuotes_78 (by decide) (fun q => ?_) (fun q => ?_)
  · rw [if_neg q] at h
    refine aw_fl [none] trivial ?_
    exact rmX6_tryQuotes_b89 C (by omega) (by omega) h
  · rw [if_pos q] at h
    refine aw_ald_n C dX6_tryQuotes_81 rfl ?_
    refine aw_ald_n C dX6_tryQuotes_82 rfl ?_
    obtain ⟨x38, hx38, h⟩ := Option.bind_eq_some_iff.mp h
    refine ah_getI C gf_X6_53 hx38 dX6_tryQuotes_83 ?_
    obtain ⟨f39, hf39, h⟩ := Option.bind_eq_some_iff.mp h
    refine ah_put C gf_X6_56 cf6 nf6_2 rfl rfl hf39 dX6_tryQuotes_86 ?_
    refine aw_fl [none] trivial ?_
    exact rmX6_tryQuotes_b89 C (by omega) (by omega) h
def mX6_next_b96 (f : AH) (n : Nat) : Option (Int32 × HpN) := rCk (rNb (0 : Int32)) (some ((0 : Int32), (f, n)))
set_option maxHeartbeats 1000000 in
theorem rmX6_next_b96 {X : GX} {p : Program} {l : Launch} {e : Env} {s : State} {m : MethodId} {args : Array Value} {below : List Frame} {meth : Method} {c : Code} {r : Int32 × HpN} {f : AH} {n cells slots : Nat} (C : CC X p l (RM 2 0 0) s m args meth c RX6 cX6_next 2 (some .boolean)) (hc : cells + 0 ≤ 0) (hs : slots + 0 ≤ 0) (h : mX6_next_b96 f n = some r) : AW X p l e (RM 2 0 0) s m args below meth c 2 (ZM X below args s 0 0 (QHi r)) f n cells slots 96 [none, none] [] := by
  have h : rCk (rNb (0 : Int32)) (some ((0 : Int32), (f, n))) = some r := h
  refine aw_iconst C 0 dX6_next_96 ki_0 ?_
  obtain ⟨hb1, h⟩ := ck_some h
  cases h
  exact aw_iret C rfl (nb_nar hb1) dX6_next_97 (by omega) (by omega) ⟨rfl, rfl, rfl⟩
def mX6_next_b77 (rec2 : Nat → Int32 → AH → Nat → Option (Int32 × HpN)) (v0 : Nat) (v1 : Int32) (f : AH) (n : Nat) : Option (Int32 × HpN) := ((gI f v0 6 1).bind fun x1 => ((gI f v0 6 2).bind fun x2 => (if x2 ≤ x1 then rec2 v0 (v1 + (1 : Int32)) f n else rCk (rNb (1 : Int32)) (some ((1 : Int32), (f, n))))))
set_option maxHeartbeats 1000000 in
theorem rmX6_next_b77 {X : GX} {p : Program} {l : Launch} {e : Env} {s : State} {m : MethodId} {args : Array Value} {below : List Frame} {meth : Method} {c : Code} {r : Int32 × HpN} {rec2 : Nat → Int32 → AH → Nat → Option (Int32 × HpN)} {v0 : Nat} {v1 : Int32} {f : AH} {n cells slots : Nat} (C : CC X p l (RM 2 0 0) s m args meth c RX6 cX6_next 2 (some .boolean)) (Hr2 : ∀ (v0 : Nat) (v1 : Int32) (f : AH) (n cells slots : Nat), cells + 0 ≤ 0 → slots + 0 ≤ 0 → rec2 v0 v1 f n = some r → AW X p l e (RM 2 0 0) s m args below meth c 2 (ZM X below args s 0 0 (QHi r)) f n cells slots 2 [some (.ref v0), some (.int v1)] []) (hc : cells + 0 ≤ 0) (hs : slots + 0 ≤ 0) (h : mX6_next_b77 rec2 v0 v1 f n = some r) : AW X p l e (RM 2 0 0) s m args below meth c 2 (ZM X below args s 0 0 (QHi r)) f n cells slots 77 [some (.ref v0), some (.int v1)] [] := by
  have h : ((gI f v0 6 1).bind fun x1 => ((gI f v0 6 2).bind fun x2 => (if x2 ≤ x1 then rec2 v0 (v1 + (1 : Int32)) f n else rCk (rNb (1 : Int32)) (some ((1 : Int32), (f, n)))))) = some r := h
  refine aw_ald_n C dX6_next_77 rfl ?_
  obtain ⟨x1, hx1, h⟩ := Option.bind_eq_some_iff.mp h
  refine ah_getI C gf_X6_53 hx1 dX6_next_78 ?_
  refine aw_ald_n C dX6_next_81 rfl ?_
  obtain ⟨x2, hx2, h⟩ := Option.bind_eq_some_iff.mp h
  refine ah_getI C gf_X6_56 hx2 dX6_next_82 ?_
  refine aw_icmp_ge C 90 dX6_next_85 (by decide) (fun q => ?_) (fun q => ?_)
  · rw [if_pos q] at h
    refine aw_iinc C (v1 + (1 : Int32)) dX6_next_90 rfl (by rw [ki_1]) (by decide) rfl ?_
    refine aw_nl [some (.ref v0), some (.int (v1 + (1 : Int32)))] rfl ?_
    refine aw_goto C 2 dX6_next_93 (by decide) ?_
    refine aw_fl [some (.ref v0), some (.int (v1 + (1 : Int32)))] ⟨rfl, ⟨rfl, trivial⟩⟩ ?_
    exact Hr2 v0 (v1 + (1 : Int32)) f n _ _ (by omega) (by omega) h
  · rw [if_neg q] at h
    refine aw_iconst C 1 dX6_next_88 ki_1 ?_
    obtain ⟨hb3, h⟩ := ck_some h
    cases h
    exact aw_iret C rfl (nb_nar hb3) dX6_next_89 (by omega) (by omega) ⟨rfl, rfl, rfl⟩
def mX6_next_l2 : Nat → Nat → Int32 → AH → Nat → Option (Int32 × HpN)
  | 0, _, _, _, _ => none
  | d + 1, v0, v1, f, n => (if (600 : Int32) < v1 then mX6_next_b96 f n else ((gI f v0 6 9).bind fun x1 => ((gR f v0 6 0).bind fun x2 => ((x2).bind fun j3 => rCk (isO f j3 5) (((mX5_size j3 f n).bind fun r5 => (if r5.1 ≤ x1 then mX6_next_b96 r5.2.1 r5.2.2 else ((gI r5.2.1 v0 6 8).bind fun x7 => (if x7 = (0 : Int32) then rCk (isO r5.2.1 v0 6) (((mX6_tryLine v0 r5.2.1 r5.2.2).bind fun r9 => mX6_next_b77 (fun v0 v1 f n => mX6_next_l2 d v0 v1 f n) v0 v1 r9.2.1 r9.2.2)) else if x7 = (1 : Int32) then rCk (isO r5.2.1 v0 6) (((mX6_tryCell v0 r5.2.1 r5.2.2).bind fun r12 => mX6_next_b77 (fun v0 v1 f n => mX6_next_l2 d v0 v1 f n) v0 v1 r12.2.1 r12.2.2)) else if x7 = (2 : Int32) then rCk (isO r5.2.1 v0 6) (((mX6_tryMarkup v0 r5.2.1 r5.2.2).bind fun r15 => mX6_next_b77 (fun v0 v1 f n => mX6_next_l2 d v0 v1 f n) v0 v1 r15.2.1 r15.2.2)) else rCk (isO r5.2.1 v0 6) (((mX6_tryQuotes v0 r5.2.1 r5.2.2).bind fun r18 => mX6_next_b77 (fun v0 v1 f n => mX6_next_l2 d v0 v1 f n) v0 v1 r18.2.1 r18.2.2)))))))))))
set_option maxHeartbeats 1000000 in
theorem rmX6_next_l2 {X : GX} {p : Program} {l : Launch} {e : Env} {s : State} {m : MethodId} {args : Array Value} {below : List Frame} {meth : Method} {c : Code} {r : Int32 × HpN} (C : CC X p l (RM 2 0 0) s m args meth c RX6 cX6_next 2 (some .boolean)) : ∀ (d : Nat) (v0 : Nat) (v1 : Int32) (f : AH) (n cells slots : Nat) (_ : cells + 0 ≤ 0) (_ : slots + 0 ≤ 0) (_ : mX6_next_l2 d v0 v1 f n = some r), AW X p l e (RM 2 0 0) s m args below meth c 2 (ZM X below args s 0 0 (QHi r)) f n cells slots 2 [some (.ref v0), some (.int v1)] [] := by
  intro d
  induction d with
  | zero =>
    intro v0 v1 f n cells slots hc hs h
    exact nomatch (show (none : Option (Int32 × HpN)) = some r from h)
  | succ d ih =>
    intro v0 v1 f n cells slots hc hs h
    have h : (if (600 : Int32) < v1 then mX6_next_b96 f n else ((gI f v0 6 9).bind fun x1 => ((gR f v0 6 0).bind fun x2 => ((x2).bind fun j3 => rCk (isO f j3 5) (((mX5_size j3 f n).bind fun r5 => (if r5.1 ≤ x1 then mX6_next_b96 r5.2.1 r5.2.2 else ((gI r5.2.1 v0 6 8).bind fun x7 => (if x7 = (0 : Int32) then rCk (isO r5.2.1 v0 6) (((mX6_tryLine v0 r5.2.1 r5.2.2).bind fun r9 => mX6_next_b77 (fun v0 v1 f n => mX6_next_l2 d v0 v1 f n) v0 v1 r9.2.1 r9.2.2)) else if x7 = (1 : Int32) then rCk (isO r5.2.1 v0 6) (((mX6_tryCell v0 r5.2.1 r5.2.2).bind fun r12 => mX6_next_b77 (fun v0 v1 f n => mX6_next_l2 d v0 v1 f n) v0 v1 r12.2.1 r12.2.2)) else if x7 = (2 : Int32) then rCk (isO r5.2.1 v0 6) (((mX6_tryMarkup v0 r5.2.1 r5.2.2).bind fun r15 => mX6_next_b77 (fun v0 v1 f n => mX6_next_l2 d v0 v1 f n) v0 v1 r15.2.1 r15.2.2)) else rCk (isO r5.2.1 v0 6) (((mX6_tryQuotes v0 r5.2.1 r5.2.2).bind fun r18 => mX6_next_b77 (fun v0 v1 f n => mX6_next_l2 d v0 v1 f n) v0 v1 r18.2.1 r18.2.2))))))))))) = some r := h
    refine aw_iload_n C dX6_next_2 rfl ?_
    refine aw_sipush C 600 dX6_next_3 ks_600 ?_
    refine aw_icmp_gt C 96 dX6_next_6 (by decide) (fun q => ?_) (fun q => ?_)
    · rw [if_pos q] at h
      refine aw_fl [none, none] trivial ?_
      exact rmX6_next_b96 C (by omega) (by omega) h
    · rw [if_neg q] at h
      refine aw_ald_n C dX6_next_9 rfl ?_
      obtain ⟨x1, hx1, h⟩ := Option.bind_eq_some_iff.mp h
      refine ah_getI C gf_X6_24 hx1 dX6_next_10 ?_
      refine aw_ald_n C dX6_next_13 rfl ?_
      obtain ⟨x2, hx2, h⟩ := Option.bind_eq_some_iff.mp h
      refine ah_getR C gf_X6_14 hx2 dX6_next_14 ?_
      obtain ⟨j3, hj3, h⟩ := Option.bind_eq_some_iff.mp h
      rw [hj3]
      obtain ⟨hb4, h⟩ := ck_some h
      obtain ⟨r5, hr5, h⟩ := Option.bind_eq_some_iff.mp h
      obtain ⟨fs6, hf6⟩ := isO_ex hb4
      refine aw_callV C (ci := 5) (b := j3) [] mv_X6_37 rfl rfl hf6 (rmX5_size hr5) rfl dX6_next_17 (Nat.le_of_ble_eq_true rfl) (Nat.le_of_ble_eq_true rfl) rfl (Nat.le_of_ble_eq_true rfl) (show cells + 0 ≤ 0 by omega) (show slots + 0 ≤ 0 by omega) (fun v9 f9 n9 hh => ?_)
      obtain ⟨rfl, rfl, rfl⟩ := hh
      refine aw_icmp_ge C 96 dX6_next_20 (by decide) (fun q => ?_) (fun q => ?_)
      · rw [if_pos q] at h
        refine aw_fl [none, none] trivial ?_
        exact rmX6_next_b96 C (by omega) (by omega) h
      · rw [if_neg q] at h
        refine aw_ald_n C dX6_next_23 rfl ?_
        obtain ⟨x7, hx7, h⟩ := Option.bind_eq_some_iff.mp h
        refine ah_getI C gf_X6_20 hx7 dX6_next_24 ?_
        by_cases q : x7 = (0 : Int32)
        · rw [if_pos q] at h
          refine aw_top (0 : Int32) q ?_
          refine aw_tabIn C (off := 25) 52 dX6_next_27 (by decide) (by decide) (by decide) (by decide) ?_
          refine aw_ald_n C dX6_next_52 rfl ?_
          obtain ⟨hb8, h⟩ := ck_some h
          obtain ⟨r9, hr9, h⟩ := Option.bind_eq_some_iff.mp h
          obtain ⟨fs10, hf10⟩ := isO_ex hb8
          refine aw_callV C (ci := 6) (b := v0) [] mv_X6_41 rfl rfl hf10 (rmX6_tryLine hr9) rfl dX6_next_53 (Nat.le_of_ble_eq_true rfl) (Nat.le_of_ble_eq_true rfl) rfl (Nat.le_of_ble_eq_true rfl) (show (cells + 0) + 0 ≤ 0 by omega) (show (slots + 0) + 0 ≤ 0 by omega) (fun v9 f9 n9 hh => ?_)
          obtain ⟨rfl, rfl, rfl⟩ := hh
          refine aw_goto C 77 dX6_next_56 (by decide) ?_
          refine aw_fl [some (.ref v0), some (.int v1)] ⟨rfl, ⟨rfl, trivial⟩⟩ ?_
          exact rmX6_next_b77 C (fun v0 v1 f n cells slots hc hs h => ih v0 v1 f n cells slots hc hs h) (by omega) (by omega) h
        · rw [if_neg q] at h
          have q0 := q
          by_cases q : x7 = (1 : Int32)
          · rw [if_pos q] at h
            refine aw_top (1 : Int32) q ?_
            refine aw_tabIn C (off := 32) 59 dX6_next_27 (by decide) (by decide) (by decide) (by decide) ?_
            refine aw_ald_n C dX6_next_59 rfl ?_
            obtain ⟨hb11, h⟩ := ck_some h
            obtain ⟨r12, hr12, h⟩ := Option.bind_eq_some_iff.mp h
            obtain ⟨fs13, hf13⟩ := isO_ex hb11
            refine aw_callV C (ci := 6) (b := v0) [] mv_X6_44 rfl rfl hf13 (rmX6_tryCell hr12) rfl dX6_next_60 (Nat.le_of_ble_eq_true rfl) (Nat.le_of_ble_eq_true rfl) rfl (Nat.le_of_ble_eq_true rfl) (show (cells + 0) + 0 ≤ 0 by omega) (show (slots + 0) + 0 ≤ 0 by omega) (fun v9 f9 n9 hh => ?_)
            obtain ⟨rfl, rfl, rfl⟩ := hh
            refine aw_goto C 77 dX6_next_63 (by decide) ?_
            refine aw_fl [some (.ref v0), some (.int v1)] ⟨rfl, ⟨rfl, trivial⟩⟩ ?_
            exact rmX6_next_b77 C (fun v0 v1 f n cells slots hc hs h => ih v0 v1 f n cells slots hc hs h) (by omega) (by omega) h
          · rw [if_neg q] at h
            have q1 := q
            by_cases q : x7 = (2 : Int32)
            · rw [if_pos q] at h
              refine aw_top (2 : Int32) q ?_
              refine aw_tabIn C (off := 39) 66 dX6_next_27 (by decide) (by decide) (by decide) (by decide) ?_
              refine aw_ald_n C dX6_next_66 rfl ?_
              obtain ⟨hb14, h⟩ := ck_some h
              obtain ⟨r15, hr15, h⟩ := Option.bind_eq_some_iff.mp h
              obtain ⟨fs16, hf16⟩ := isO_ex hb14
              refine aw_callV C (ci := 6) (b := v0) [] mv_X6_47 rfl rfl hf16 (rmX6_tryMarkup hr15) rfl dX6_next_67 (Nat.le_of_ble_eq_true rfl) (Nat.le_of_ble_eq_true rfl) rfl (Nat.le_of_ble_eq_true rfl) (show (cells + 0) + 0 ≤ 0 by omega) (show (slots + 0) + 0 ≤ 0 by omega) (fun v9 f9 n9 hh => ?_)
              obtain ⟨rfl, rfl, rfl⟩ := hh
              refine aw_goto C 77 dX6_next_70 (by decide) ?_
              refine aw_fl [some (.ref v0), some (.int v1)] ⟨rfl, ⟨rfl, trivial⟩⟩ ?_
              exact rmX6_next_b77 C (fun v0 v1 f n cells slots hc hs h => ih v0 v1 f n cells slots hc hs h) (by omega) (by omega) h
            · rw [if_neg q] at h
              have q2 := q
              refine aw_tabOut C 73 dX6_next_27 (sx_out0_3 q0 q1 q2) (by decide) ?_
              refine aw_ald_n C dX6_next_73 rfl ?_
              obtain ⟨hb17, h⟩ := ck_some h
              obtain ⟨r18, hr18, h⟩ := Option.bind_eq_some_iff.mp h
              obtain ⟨fs19, hf19⟩ := isO_ex hb17
              refine aw_callV C (ci := 6) (b := v0) [] mv_X6_50 rfl rfl hf19 (rmX6_tryQuotes hr18) rfl dX6_next_74 (Nat.le_of_ble_eq_true rfl) (Nat.le_of_ble_eq_true rfl) rfl (Nat.le_of_ble_eq_true rfl) (show (cells + 0) + 0 ≤ 0 by omega) (show (slots + 0) + 0 ≤ 0 by omega) (fun v9 f9 n9 hh => ?_)
              obtain ⟨rfl, rfl, rfl⟩ := hh
              refine aw_fl [some (.ref v0), some (.int v1)] ⟨rfl, ⟨rfl, trivial⟩⟩ ?_
              exact rmX6_next_b77 C (fun v0 v1 f n cells slots hc hs h => ih v0 v1 f n cells slots hc hs h) (by omega) (by omega) h
def mX6_next (v0 : Nat) (f : AH) (n : Nat) : Option (Int32 × HpN) := mX6_next_l2 rFU v0 (0 : Int32) f n
set_option maxHeartbeats 1000000 in
theorem rmX6_next {X : GX} {l : Launch} {r : Int32 × HpN} {v0 : Nat} {f : AH} {n : Nat} (h : mX6_next v0 f n = some r) : AM X l yX6_next cX6_next 2 (some .boolean) 2 0 0 [.ref v0] f n (QHi r) := by
  have h : mX6_next_l2 rFU v0 (0 : Int32) f n = some r := h
  refine AM.of (by decide +kernel) rfl (Nat.le_of_ble_eq_true rfl) (fun p e s m args below meth c C hnm => ?_)
  refine aw_nl [some (.ref v0), none] rfl ?_
  refine aw_iconst C 0 dX6_next_0 ki_0 ?_
  refine aw_istore_n C dX6_next_1 (by decide) rfl ?_
  refine aw_nl [some (.ref v0), some (.int (0 : Int32))] rfl ?_
  refine aw_fl [some (.ref v0), some (.int (0 : Int32))] ⟨rfl, ⟨rfl, trivial⟩⟩ ?_
  exact rmX6_next_l2 C rFU v0 (0 : Int32) f n _ _ (by omega) (by omega) h
def mX5_isSame_l3 : Nat → Nat → Int32 → (Option Nat) → Int32 → Int32 → Int32 → AH → Nat → Option (Int32 × HpN)
  | 0, _, _, _, _, _, _, _, _ => none
  | d + 1, v0, v1, v2, v3, v4, v5, f, n => (if v4 ≤ v5 then rCk (rNb (1 : Int32)) (some ((1 : Int32), (f, n))) else rCk (isO f v0 5) (((mX5_get v0 (v1 + v5) f n).bind fun r3 => ((v2).bind fun j5 => rCk (isO r3.2.1 j5 5) (((mX5_get j5 (v3 + v5) r3.2.1 r3.2.2).bind fun r7 => (if r3.1 = r7.1 then mX5_isSame_l3 d v0 v1 (some j5) v3 v4 (v5 + (1 : Int32)) r7.2.1 r7.2.2 else rCk (rNb (0 : Int32)) (some ((0 : Int32), (r7.2.1, r7.2.2))))))))))
set_option maxHeartbeats 1000000 in
theorem rmX5_isSame_l3 {X : GX} {p : Program} {l : Launch} {e : Env} {s : State} {m : MethodId} {args : Array Value} {below : List Frame} {meth : Method} {c : Code} {r : Int32 × HpN} (C : CC X p l (RM 1 0 0) s m args meth c RX5 cX5_isSame 6 (some .boolean)) : ∀ (d : Nat) (v0 : Nat) (v1 : Int32) (v2 : Option Nat) (v3 : Int32) (v4 : Int32) (v5 : Int32) (f : AH) (n cells slots : Nat) (_ : cells + 0 ≤ 0) (_ : slots + 0 ≤ 0) (_ : mX5_isSame_l3 d v0 v1 v2 v3 v4 v5 f n = some r), AW X p l e (RM 1 0 0) s m args below meth c 6 (ZM X below args s 0 0 (QHi r)) f n cells slots 3 [some (.ref v0), some (.int v1), some (va_rf v2), some (.int v3), some (.int v4), some (.int v5)] [] := by
  intro d
  induction d with
  | zero =>
    intro v0 v1 v2 v3 v4 v5 f n cells slots hc hs h
    exact nomatch (show (none : Option (Int32 × HpN)) = some r from h)
  | succ d ih =>
    intro v0 v1 v2 v3 v4 v5 f n cells slots hc hs h
    have h : (if v4 ≤ v5 then rCk (rNb (1 : Int32)) (some ((1 : Int32), (f, n))) else rCk (isO f v0 5) (((mX5_get v0 (v1 + v5) f n).bind fun r3 => ((v2).bind fun j5 => rCk (isO r3.2.1 j5 5) (((mX5_get j5 (v3 + v5) r3.2.1 r3.2.2).bind fun r7 => (if r3.1 = r7.1 then mX5_isSame_l3 d v0 v1 (some j5) v3 v4 (v5 + (1 : Int32)) r7.2.1 r7.2.2 else rCk (rNb (0 : Int32)) (some ((0 : Int32), (r7.2.1, r7.2.2)))))))))) = some r := h
    refine aw_iload C dX5_isSame_3 rfl ?_
    refine aw_iload C dX5_isSame_5 rfl ?_
    refine aw_icmp_ge C 37 dX5_isSame_7 (by decide) (fun q => ?_) (fun q => ?_)
    · rw [if_pos q] at h
      refine aw_iconst C 1 dX5_isSame_37 ki_1 ?_
      obtain ⟨hb1, h⟩ := ck_some h
      cases h
      exact aw_iret C rfl (nb_nar hb1) dX5_isSame_38 (by omega) (by omega) ⟨rfl, rfl, rfl⟩
    · rw [if_neg q] at h
      refine aw_ald_n C dX5_isSame_10 rfl ?_
      refine aw_iload_n C dX5_isSame_11 rfl ?_
      refine aw_iload C dX5_isSame_12 rfl ?_
      refine aw_iadd C dX5_isSame_14 ?_
      obtain ⟨hb2, h⟩ := ck_some h
      obtain ⟨r3, hr3, h⟩ := Option.bind_eq_some_iff.mp h
      obtain ⟨fs4, hf4⟩ := isO_ex hb2
      refine aw_callV C (ci := 5) (b := v0) [.int (v1 + v5)] mv_X5_19 rfl rfl hf4 (rmX5_get hr3) rfl dX5_isSame_15 (Nat.le_of_ble_eq_true rfl) (Nat.le_of_ble_eq_true rfl) rfl (Nat.le_of_ble_eq_true rfl) (show cells + 0 ≤ 0 by omega) (show slots + 0 ≤ 0 by omega) (fun v9 f9 n9 hh => ?_)
      obtain ⟨rfl, rfl, rfl⟩ := hh
      refine aw_aload_n C dX5_isSame_18 rfl (rf_or v2) ?_
      refine aw_iload_n C dX5_isSame_19 rfl ?_
      refine aw_iload C dX5_isSame_20 rfl ?_
      refine aw_iadd C dX5_isSame_22 ?_
      obtain ⟨j5, hj5, h⟩ := Option.bind_eq_some_iff.mp h
      rw [hj5]
      obtain ⟨hb6, h⟩ := ck_some h
      obtain ⟨r7, hr7, h⟩ := Option.bind_eq_some_iff.mp h
      obtain ⟨fs8, hf8⟩ := isO_ex hb6
      refine aw_callV C (ci := 5) (b := j5) [.int (v3 + v5)] mv_X5_19 rfl rfl hf8 (rmX5_get hr7) rfl dX5_isSame_23 (Nat.le_of_ble_eq_true rfl) (Nat.le_of_ble_eq_true rfl) rfl (Nat.le_of_ble_eq_true rfl) (show (cells + 0) + 0 ≤ 0 by omega) (show (slots + 0) + 0 ≤ 0 by omega) (fun v9 f9 n9 hh => ?_)
      obtain ⟨rfl, rfl, rfl⟩ := hh
      refine aw_icmp_eq C 31 dX5_isSame_26 (by decide) (fun q => ?_) (fun q => ?_)
      · rw [if_pos q] at h
        refine aw_iinc C (v5 + (1 : Int32)) dX5_isSame_31 rfl (by rw [ki_1]) (by decide) rfl ?_
        refine aw_nl [some (.ref v0), some (.int v1), some (.ref j5), some (.int v3), some (.int v4), some (.int (v5 + (1 : Int32)))] rfl ?_
        refine aw_goto C 3 dX5_isSame_34 (by decide) ?_
        refine aw_fl [some (.ref v0), some (.int v1), some (va_rf (some j5)), some (.int v3), some (.int v4), some (.int (v5 + (1 : Int32)))] ⟨rfl, ⟨rfl, ⟨rfl, ⟨rfl, ⟨rfl, ⟨rfl, trivial⟩⟩⟩⟩⟩⟩ ?_
        exact ih v0 v1 (some j5) v3 v4 (v5 + (1 : Int32)) r7.2.1 r7.2.2 _ _ (by omega) (by omega) h
      · rw [if_neg q] at h
        refine aw_iconst C 0 dX5_isSame_29 ki_0 ?_
        obtain ⟨hb9, h⟩ := ck_some h
        cases h
        exact aw_iret C rfl (nb_nar hb9) dX5_isSame_30 (by omega) (by omega) ⟨rfl, rfl, rfl⟩
def mX5_isSame (v0 : Nat) (v1 : Int32) (v2 : Option Nat) (v3 : Int32) (v4 : Int32) (f : AH) (n : Nat) : Option (Int32 × HpN) := mX5_isSame_l3 rFU v0 v1 v2 v3 v4 (0 : Int32) f n
set_option maxHeartbeats 1000000 in
theorem rmX5_isSame {X : GX} {l : Launch} {r : Int32 × HpN} {v0 : Nat} {v1 : Int32} {v2 : Option Nat} {v3 : Int32} {v4 : Int32} {f : AH} {n : Nat} (h : mX5_isSame v0 v1 v2 v3 v4 f n = some r) : AM X l yX5_isSame cX5_isSame 6 (some .boolean) 1 0 0 [.ref v0, .int v1, va_rf v2, .int v3, .int v4] f n (QHi r) := by
  have h : mX5_isSame_l3 rFU v0 v1 v2 v3 v4 (0 : Int32) f n = some r := h
  refine AM.of (by decide +kernel) (all1 rfl (all1 rfl (all1 (rf_cat _) (all1 rfl (all1 rfl rfl))))) (Nat.le_of_ble_eq_true rfl) (fun p e s m args below meth c C hnm => ?_)
  refine aw_nl [some (.ref v0), some (.int v1), some (va_rf v2), some (.int v3), some (.int v4), none] rfl ?_
  refine aw_iconst C 0 dX5_isSame_0 ki_0 ?_
  refine aw_istore C dX5_isSame_1 (by decide) rfl ?_
  refine aw_nl [some (.ref v0), some (.int v1), some (va_rf v2), some (.int v3), some (.int v4), some (.int (0 : Int32))] rfl ?_
  refine aw_fl [some (.ref v0), some (.int v1), some (va_rf v2), some (.int v3), some (.int v4), some (.int (0 : Int32))] ⟨rfl, ⟨rfl, ⟨rfl, ⟨rfl, ⟨rfl, ⟨rfl, trivial⟩⟩⟩⟩⟩⟩ ?_
  exact rmX5_isSame_l3 C rFU v0 v1 v2 v3 v4 (0 : Int32) f n _ _ (by omega) (by omega) h
