def mX4_readAct_b148 (f : AH) (n : Nat) : Option (Int32 × HpN) := some ((-1 : Int32), (f, n))
set_option maxHeartbeats 1000000 in
theorem rmX4_readAct_b148 {X : GX} {p : Program} {l : Launch} {e : Env} {s : State} {m : MethodId} {args : Array Value} {below : List Frame} {meth : Method} {c : Code} {r : Int32 × HpN} {f : AH} {n cells slots : Nat} (C : CC X p l (RM 6 2 10) s m args meth c RX4 cX4_readAct 3 (some .int)) (hc : cells + 0 ≤ 2) (hs : slots + 0 ≤ 10) (h : mX4_readAct_b148 f n = some r) : AW X p l e (RM 6 2 10) s m args below meth c 3 (ZM X below args s 2 10 (QHi r)) f n cells slots 148 [none, none, none] [] := by
  have h : some ((-1 : Int32), (f, n)) = some r := h
  refine aw_iconst C (-1) dX4_readAct_148 ki_m1 ?_
  cases h
  exact aw_iret C rfl rfl dX4_readAct_149 (by omega) (by omega) ⟨rfl, rfl, rfl⟩
def mX4_readAct_b142 (s0 : Int32) (f : AH) (n : Nat) : Option (Int32 × HpN) := some (s0, (f, n))
set_option maxHeartbeats 1000000 in
theorem rmX4_readAct_b142 {X : GX} {p : Program} {l : Launch} {e : Env} {s : State} {m : MethodId} {args : Array Value} {below : List Frame} {meth : Method} {c : Code} {r : Int32 × HpN} {s0 : Int32} {f : AH} {n cells slots : Nat} (C : CC X p l (RM 6 2 10) s m args meth c RX4 cX4_readAct 3 (some .int)) (hc : cells + 0 ≤ 2) (hs : slots + 0 ≤ 10) (h : mX4_readAct_b142 s0 f n = some r) : AW X p l e (RM 6 2 10) s m args below meth c 3 (ZM X below args s 2 10 (QHi r)) f n cells slots 142 [none, none, none] [.int s0] := by
  have h : some (s0, (f, n)) = some r := h
  cases h
  exact aw_iret C rfl rfl dX4_readAct_142 (by omega) (by omega) ⟨rfl, rfl, rfl⟩
def mX4_readAct_b113 (v0 : Nat) (f : AH) (n : Nat) : Option (Int32 × HpN) := rCk (isO f v0 4) (((mX4_readFirst v0 (0 : Int32) (39 : Int32) f n).bind fun r2 => some (r2.1, (r2.2.1, r2.2.2))))
set_option maxHeartbeats 1000000 in
theorem rmX4_readAct_b113 {X : GX} {p : Program} {l : Launch} {e : Env} {s : State} {m : MethodId} {args : Array Value} {below : List Frame} {meth : Method} {c : Code} {r : Int32 × HpN} {v0 : Nat} {f : AH} {n cells slots : Nat} (C : CC X p l (RM 6 2 10) s m args meth c RX4 cX4_readAct 3 (some .int)) (hc : cells + 0 ≤ 2) (hs : slots + 0 ≤ 10) (h : mX4_readAct_b113 v0 f n = some r) : AW X p l e (RM 6 2 10) s m args below meth c 3 (ZM X below args s 2 10 (QHi r)) f n cells slots 113 [some (.ref v0), none, none] [] := by
  have h : rCk (isO f v0 4) (((mX4_readFirst v0 (0 : Int32) (39 : Int32) f n).bind fun r2 => some (r2.1, (r2.2.1, r2.2.2)))) = some r := h
  refine aw_ald_n C dX4_readAct_113 rfl ?_
  refine aw_iconst C 0 dX4_readAct_114 ki_0 ?_
  refine aw_bipush C 39 dX4_readAct_115 kb_39 ?_
  obtain ⟨hb1, h⟩ := ck_some h
  obtain ⟨r2, hr2, h⟩ := Option.bind_eq_some_iff.mp h
  obtain ⟨fs3, hf3⟩ := isO_ex hb1
  refine aw_callV C (ci := 4) (b := v0) [.int (0 : Int32), .int (39 : Int32)] mv_X4_49 rfl rfl hf3 (rmX4_readFirst hr2) rfl dX4_readAct_117 (Nat.le_of_ble_eq_true rfl) (Nat.le_of_ble_eq_true rfl) rfl (Nat.le_of_ble_eq_true rfl) (show cells + 0 ≤ 2 by omega) (show slots + 0 ≤ 10 by omega) (fun v9 f9 n9 hh => ?_)
  obtain ⟨rfl, rfl, rfl⟩ := hh
  cases h
  exact aw_iret C rfl rfl dX4_readAct_120 (by omega) (by omega) ⟨rfl, rfl, rfl⟩
def mX4_readAct_b98 (v0 : Nat) (f : AH) (n : Nat) : Option (Int32 × HpN) := rCk (isO f v0 4) (((mX4_readFirst v0 (0 : Int32) (3 : Int32) f n).bind fun r2 => some (r2.1, (r2.2.1, r2.2.2))))
set_option maxHeartbeats 1000000 in
theorem rmX4_readAct_b98 {X : GX} {p : Program} {l : Launch} {e : Env} {s : State} {m : MethodId} {args : Array Value} {below : List Frame} {meth : Method} {c : Code} {r : Int32 × HpN} {v0 : Nat} {f : AH} {n cells slots : Nat} (C : CC X p l (RM 6 2 10) s m args meth c RX4 cX4_readAct 3 (some .int)) (hc : cells + 0 ≤ 2) (hs : slots + 0 ≤ 10) (h : mX4_readAct_b98 v0 f n = some r) : AW X p l e (RM 6 2 10) s m args below meth c 3 (ZM X below args s 2 10 (QHi r)) f n cells slots 98 [some (.ref v0), none, none] [] := by
  have h : rCk (isO f v0 4) (((mX4_readFirst v0 (0 : Int32) (3 : Int32) f n).bind fun r2 => some (r2.1, (r2.2.1, r2.2.2)))) = some r := h
  refine aw_ald_n C dX4_readAct_98 rfl ?_
  refine aw_iconst C 0 dX4_readAct_99 ki_0 ?_
  refine aw_iconst C 3 dX4_readAct_100 ki_3 ?_
  obtain ⟨hb1, h⟩ := ck_some h
  obtain ⟨r2, hr2, h⟩ := Option.bind_eq_some_iff.mp h
  obtain ⟨fs3, hf3⟩ := isO_ex hb1
  refine aw_callV C (ci := 4) (b := v0) [.int (0 : Int32), .int (3 : Int32)] mv_X4_49 rfl rfl hf3 (rmX4_readFirst hr2) rfl dX4_readAct_101 (Nat.le_of_ble_eq_true rfl) (Nat.le_of_ble_eq_true rfl) rfl (Nat.le_of_ble_eq_true rfl) (show cells + 0 ≤ 2 by omega) (show slots + 0 ≤ 10 by omega) (fun v9 f9 n9 hh => ?_)
  obtain ⟨rfl, rfl, rfl⟩ := hh
  cases h
  exact aw_iret C rfl rfl dX4_readAct_104 (by omega) (by omega) ⟨rfl, rfl, rfl⟩
def mX4_readAct (v0 : Nat) (f : AH) (n : Nat) : Option (Int32 × HpN) := ((gI f v0 4 1).bind fun x1 => rCk (isO f v0 4) (((mX4_lettersEnd v0 f n).bind fun r3 => ((pO r3.2.1 v0 4 1 (.int r3.1)).bind fun f5 => ((gI f5 v0 4 1).bind fun x6 => rCk (isO f5 v0 4) (((mX4_actNamed v0 x1 (x6 - x1) f5 r3.2.2).bind fun r8 => ((pO r8.2.1 v0 4 2 (.int r8.1)).bind fun f10 => ((gI f10 v0 4 2).bind fun x11 => (if x11 = (-1 : Int32) then some (x1, (f10, r8.2.2)) else if x11 = (0 : Int32) then mX4_readAct_b98 v0 f10 r8.2.2 else if x11 = (1 : Int32) then mX4_readAct_b98 v0 f10 r8.2.2 else if x11 = (2 : Int32) then mX4_readAct_b148 f10 r8.2.2 else if x11 = (3 : Int32) then mX4_readAct_b148 f10 r8.2.2 else if x11 = (4 : Int32) then mX4_readAct_b148 f10 r8.2.2 else if x11 = (5 : Int32) then rCk (isO f10 v0 4) (((mX4_readFirst v0 (1 : Int32) (40 : Int32) f10 r8.2.2).bind fun r13 => some (r13.1, (r13.2.1, r13.2.2)))) else if x11 = (6 : Int32) then rCk (isO f10 v0 4) (((mX4_readWord v0 f10 r8.2.2).bind fun r16 => some (r16.1, (r16.2.1, r16.2.2)))) else if x11 = (7 : Int32) then mX4_readAct_b148 f10 r8.2.2 else if x11 = (8 : Int32) then mX4_readAct_b113 v0 f10 r8.2.2 else if x11 = (9 : Int32) then mX4_readAct_b113 v0 f10 r8.2.2 else if x11 = (10 : Int32) then rCk (isO f10 v0 4) (((mX4_readFirst v0 (0 : Int32) (39 : Int32) f10 r8.2.2).bind fun r19 => (if r19.1 = (-1 : Int32) then rCk (isO r19.2.1 v0 4) (((mX4_readSecond v0 r19.2.1 r19.2.2).bind fun r22 => mX4_readAct_b142 r22.1 r22.2.1 r22.2.2)) else mX4_readAct_b142 r19.1 r19.2.1 r19.2.2))) else mX4_readAct_b148 f10 r8.2.2))))))))))
set_option maxHeartbeats 1000000 in
theorem rmX4_readAct {X : GX} {l : Launch} {r : Int32 × HpN} {v0 : Nat} {f : AH} {n : Nat} (h : mX4_readAct v0 f n = some r) : AM X l yX4_readAct cX4_readAct 3 (some .int) 6 2 10 [.ref v0] f n (QHi r) := by
  have h : ((gI f v0 4 1).bind fun x1 => rCk (isO f v0 4) (((mX4_lettersEnd v0 f n).bind fun r3 => ((pO r3.2.1 v0 4 1 (.int r3.1)).bind fun f5 => ((gI f5 v0 4 1).bind fun x6 => rCk (isO f5 v0 4) (((mX4_actNamed v0 x1 (x6 - x1) f5 r3.2.2).bind fun r8 => ((pO r8.2.1 v0 4 2 (.int r8.1)).bind fun f10 => ((gI f10 v0 4 2).bind fun x11 => (if x11 = (-1 : Int32) then some (x1, (f10, r8.2.2)) else if x11 = (0 : Int32) then mX4_readAct_b98 v0 f10 r8.2.2 else if x11 = (1 : Int32) then mX4_readAct_b98 v0 f10 r8.2.2 else if x11 = (2 : Int32) then mX4_readAct_b148 f10 r8.2.2 else if x11 = (3 : Int32) then mX4_readAct_b148 f10 r8.2.2 else if x11 = (4 : Int32) then mX4_readAct_b148 f10 r8.2.2 else if x11 = (5 : Int32) then rCk (isO f10 v0 4) (((mX4_readFirst v0 (1 : Int32) (40 : Int32) f10 r8.2.2).bind fun r13 => some (r13.1, (r13.2.1, r13.2.2)))) else if x11 = (6 : Int32) then rCk (isO f10 v0 4) (((mX4_readWord v0 f10 r8.2.2).bind fun r16 => some (r16.1, (r16.2.1, r16.2.2)))) else if x11 = (7 : Int32) then mX4_readAct_b148 f10 r8.2.2 else if x11 = (8 : Int32) then mX4_readAct_b113 v0 f10 r8.2.2 else if x11 = (9 : Int32) then mX4_readAct_b113 v0 f10 r8.2.2 else if x11 = (10 : Int32) then rCk (isO f10 v0 4) (((mX4_readFirst v0 (0 : Int32) (39 : Int32) f10 r8.2.2).bind fun r19 => (if r19.1 = (-1 : Int32) then rCk (isO r19.2.1 v0 4) (((mX4_readSecond v0 r19.2.1 r19.2.2).bind fun r22 => mX4_readAct_b142 r22.1 r22.2.1 r22.2.2)) else mX4_readAct_b142 r19.1 r19.2.1 r19.2.2))) else mX4_readAct_b148 f10 r8.2.2)))))))))) = some r := h
  refine AM.of (by decide +kernel) rfl (Nat.le_of_ble_eq_true rfl) (fun p e s m args below meth c C hnm => ?_)
  refine aw_nl [some (.ref v0), none, none] rfl ?_
  refine aw_ald_n C dX4_readAct_0 rfl ?_
  obtain ⟨x1, hx1, h⟩ := Option.bind_eq_some_iff.mp h
  refine ah_getI C gf_X4_28 hx1 dX4_readAct_1 ?_
  refine aw_istore_n C dX4_readAct_4 (by decide) rfl ?_
  refine aw_nl [some (.ref v0), some (.int x1), none] rfl ?_
  refine aw_ald_n C dX4_readAct_5 rfl ?_
  refine aw_ald_n C dX4_readAct_6 rfl ?_
  obtain ⟨hb2, h⟩ := ck_some h
  obtain ⟨r3, hr3, h⟩ := Option.bind_eq_some_iff.mp h
  obtain ⟨fs4, hf4⟩ := isO_ex hb2
  refine aw_callV C (ci := 4) (b := v0) [] mv_X4_40 rfl rfl hf4 (rmX4_lettersEnd hr3) rfl dX4_readAct_7 (Nat.le_of_ble_eq_true rfl) (Nat.le_of_ble_eq_true rfl) rfl (Nat.le_of_ble_eq_true rfl) (show 0 + 0 ≤ 2 by omega) (show 0 + 0 ≤ 10 by omega) (fun v9 f9 n9 hh => ?_)
  obtain ⟨rfl, rfl, rfl⟩ := hh
  obtain ⟨f5, hf5, h⟩ := Option.bind_eq_some_iff.mp h
  refine ah_put C gf_X4_28 cf4 nf4_1 rfl rfl hf5 dX4_readAct_10 ?_
  refine aw_ald_n C dX4_readAct_13 rfl ?_
  refine aw_ald_n C dX4_readAct_14 rfl ?_
  refine aw_iload_n C dX4_readAct_15 rfl ?_
  refine aw_ald_n C dX4_readAct_16 rfl ?_
  obtain ⟨x6, hx6, h⟩ := Option.bind_eq_some_iff.mp h
  refine ah_getI C gf_X4_28 hx6 dX4_readAct_17 ?_
  refine aw_iload_n C dX4_readAct_20 rfl ?_
  refine aw_isub C dX4_readAct_21 ?_
  obtain ⟨hb7, h⟩ := ck_some h
  obtain ⟨r8, hr8, h⟩ := Option.bind_eq_some_iff.mp h
  obtain ⟨fs9, hf9⟩ := isO_ex hb7
  refine aw_callV C (ci := 4) (b := v0) [.int x1, .int (x6 - x1)] mv_X4_43 rfl rfl hf9 (rmX4_actNamed hr8) rfl dX4_readAct_22 (Nat.le_of_ble_eq_true rfl) (Nat.le_of_ble_eq_true rfl) rfl (Nat.le_of_ble_eq_true rfl) (show (0 + 0) + 0 ≤ 2 by omega) (show (0 + 0) + 0 ≤ 10 by omega) (fun v9 f9 n9 hh => ?_)
  obtain ⟨rfl, rfl, rfl⟩ := hh
  obtain ⟨f10, hf10, h⟩ := Option.bind_eq_some_iff.mp h
  refine ah_put C gf_X4_46 cf4 nf4_2 rfl rfl hf10 dX4_readAct_25 ?_
  refine aw_ald_n C dX4_readAct_28 rfl ?_
  obtain ⟨x11, hx11, h⟩ := Option.bind_eq_some_iff.mp h
  refine ah_getI C gf_X4_46 hx11 dX4_readAct_29 ?_
  by_cases q : x11 = (-1 : Int32)
  · rw [if_pos q] at h
    rw [q]
    refine aw_tabIn C (off := 64) 96 dX4_readAct_32 (by decide) (by decide) (by decide) (by decide) ?_
    refine aw_iload_n C dX4_readAct_96 rfl ?_
    cases h
    exact aw_iret C rfl rfl dX4_readAct_97 (by omega) (by omega) ⟨rfl, rfl, rfl⟩
  · rw [if_neg q] at h
    have q0 := q
    by_cases q : x11 = (0 : Int32)
    · rw [if_pos q] at h
      rw [q]
      refine aw_tabIn C (off := 66) 98 dX4_readAct_32 (by decide) (by decide) (by decide) (by decide) ?_
      refine aw_fl [some (.ref v0), none, none] ⟨rfl, trivial⟩ ?_
      exact rmX4_readAct_b98 C (by omega) (by omega) h
    · rw [if_neg q] at h
      have q1 := q
      by_cases q : x11 = (1 : Int32)
      · rw [if_pos q] at h
        rw [q]
        refine aw_tabIn C (off := 66) 98 dX4_readAct_32 (by decide) (by decide) (by decide) (by decide) ?_
        refine aw_fl [some (.ref v0), none, none] ⟨rfl, trivial⟩ ?_
        exact rmX4_readAct_b98 C (by omega) (by omega) h
      · rw [if_neg q] at h
        have q2 := q
        by_cases q : x11 = (2 : Int32)
        · rw [if_pos q] at h
          rw [q]
          refine aw_tabIn C (off := 116) 148 dX4_readAct_32 (by decide) (by decide) (by decide) (by decide) ?_
          refine aw_fl [none, none, none] trivial ?_
          exact rmX4_readAct_b148 C (by omega) (by omega) h
        · rw [if_neg q] at h
          have q3 := q
          by_cases q : x11 = (3 : Int32)
          · rw [if_pos q] at h
            rw [q]
            refine aw_tabIn C (off := 116) 148 dX4_readAct_32 (by decide) (by decide) (by decide) (by decide) ?_
            refine aw_fl [none, none, none] trivial ?_
            exact rmX4_readAct_b148 C (by omega) (by omega) h
          · rw [if_neg q] at h
            have q4 := q
            by_cases q : x11 = (4 : Int32)
            · rw [if_pos q] at h
              rw [q]
              refine aw_tabIn C (off := 116) 148 dX4_readAct_32 (by decide) (by decide) (by decide) (by decide) ?_
              refine aw_fl [none, none, none] trivial ?_
              exact rmX4_readAct_b148 C (by omega) (by omega) h
            · rw [if_neg q] at h
              have q5 := q
              by_cases q : x11 = (5 : Int32)
              · rw [if_pos q] at h
                rw [q]
                refine aw_tabIn C (off := 73) 105 dX4_readAct_32 (by decide) (by decide) (by decide) (by decide) ?_
                refine aw_ald_n C dX4_readAct_105 rfl ?_
                refine aw_iconst C 1 dX4_readAct_106 ki_1 ?_
                refine aw_bipush C 40 dX4_readAct_107 kb_40 ?_
                obtain ⟨hb12, h⟩ := ck_some h
                obtain ⟨r13, hr13, h⟩ := Option.bind_eq_some_iff.mp h
                obtain ⟨fs14, hf14⟩ := isO_ex hb12
                refine aw_callV C (ci := 4) (b := v0) [.int (1 : Int32), .int (40 : Int32)] mv_X4_49 rfl rfl hf14 (rmX4_readFirst hr13) rfl dX4_readAct_109 (Nat.le_of_ble_eq_true rfl) (Nat.le_of_ble_eq_true rfl) rfl (Nat.le_of_ble_eq_true rfl) (show ((0 + 0) + 0) + 0 ≤ 2 by omega) (show ((0 + 0) + 0) + 0 ≤ 10 by omega) (fun v9 f9 n9 hh => ?_)
                obtain ⟨rfl, rfl, rfl⟩ := hh
                cases h
                exact aw_iret C rfl rfl dX4_readAct_112 (by omega) (by omega) ⟨rfl, rfl, rfl⟩
              · rw [if_neg q] at h
                have q6 := q
                by_cases q : x11 = (6 : Int32)
                · rw [if_pos q] at h
                  rw [q]
                  refine aw_tabIn C (off := 111) 143 dX4_readAct_32 (by decide) (by decide) (by decide) (by decide) ?_
                  refine aw_ald_n C dX4_readAct_143 rfl ?_
                  obtain ⟨hb15, h⟩ := ck_some h
                  obtain ⟨r16, hr16, h⟩ := Option.bind_eq_some_iff.mp h
                  obtain ⟨fs17, hf17⟩ := isO_ex hb15
                  refine aw_callV C (ci := 4) (b := v0) [] mv_X4_55 rfl rfl hf17 (rmX4_readWord hr16) rfl dX4_readAct_144 (Nat.le_of_ble_eq_true rfl) (Nat.le_of_ble_eq_true rfl) rfl (Nat.le_of_ble_eq_true rfl) (show ((0 + 0) + 0) + 2 ≤ 2 by omega) (show ((0 + 0) + 0) + 10 ≤ 10 by omega) (fun v9 f9 n9 hh => ?_)
                  obtain ⟨rfl, rfl, rfl⟩ := hh
                  cases h
                  exact aw_iret C rfl rfl dX4_readAct_147 (by omega) (by omega) ⟨rfl, rfl, rfl⟩
                · rw [if_neg q] at h
                  have q7 := q
                  by_cases q : x11 = (7 : Int32)
                  · rw [if_pos q] at h
                    rw [q]
                    refine aw_tabIn C (off := 116) 148 dX4_readAct_32 (by decide) (by decide) (by decide) (by decide) ?_
                    refine aw_fl [none, none, none] trivial ?_
                    exact rmX4_readAct_b148 C (by omega) (by omega) h
                  · rw [if_neg q] at h
                    have q8 := q
                    by_cases q : x11 = (8 : Int32)
                    · rw [if_pos q] at h
                      rw [q]
                      refine aw_tabIn C (off := 81) 113 dX4_readAct_32 (by decide) (by decide) (by decide) (by decide) ?_
                      refine aw_fl [some (.ref v0), none, none] ⟨rfl, trivial⟩ ?_
                      exact rmX4_readAct_b113 C (by omega) (by omega) h
                    · rw [if_neg q] at h
                      have q9 := q
                      by_cases q : x11 = (9 : Int32)
                      · rw [if_pos q] at h
                        rw [q]
                        refine aw_tabIn C (off := 81) 113 dX4_readAct_32 (by decide) (by decide) (by decide) (by decide) ?_
                        refine aw_fl [some (.ref v0), none, none] ⟨rfl, trivial⟩ ?_
                        exact rmX4_readAct_b113 C (by omega) (by omega) h
                      · rw [if_neg q] at h
                        have q10 := q
                        by_cases q : x11 = (10 : Int32)
                        · rw [if_pos q] at h
                          rw [q]
                          refine aw_tabIn C (off := 89) 121 dX4_readAct_32 (by decide) (by decide) (by decide) (by decide) ?_
                          refine aw_ald_n C dX4_readAct_121 rfl ?_
                          refine aw_iconst C 0 dX4_readAct_122 ki_0 ?_
                          refine aw_bipush C 39 dX4_readAct_123 kb_39 ?_
                          obtain ⟨hb18, h⟩ := ck_some h
                          obtain ⟨r19, hr19, h⟩ := Option.bind_eq_some_iff.mp h
                          obtain ⟨fs20, hf20⟩ := isO_ex hb18
                          refine aw_callV C (ci := 4) (b := v0) [.int (0 : Int32), .int (39 : Int32)] mv_X4_49 rfl rfl hf20 (rmX4_readFirst hr19) rfl dX4_readAct_125 (Nat.le_of_ble_eq_true rfl) (Nat.le_of_ble_eq_true rfl) rfl (Nat.le_of_ble_eq_true rfl) (show ((0 + 0) + 0) + 0 ≤ 2 by omega) (show ((0 + 0) + 0) + 0 ≤ 10 by omega) (fun v9 f9 n9 hh => ?_)
                          obtain ⟨rfl, rfl, rfl⟩ := hh
                          refine aw_istore_n C dX4_readAct_128 (by decide) rfl ?_
                          refine aw_nl [some (.ref v0), some (.int x1), some (.int r19.1)] rfl ?_
                          refine aw_iload_n C dX4_readAct_129 rfl ?_
                          refine aw_iconst C (-1) dX4_readAct_130 ki_m1 ?_
                          refine aw_icmp_ne C 141 dX4_readAct_131 (by decide) (fun q => ?_) (fun q => ?_)
                          · rw [if_neg q] at h
                            refine aw_iload_n C dX4_readAct_141 rfl ?_
                            refine aw_fl [none, none, none] trivial ?_
                            exact rmX4_readAct_b142 C (by omega) (by omega) h
                          · rw [if_pos q] at h
                            refine aw_ald_n C dX4_readAct_134 rfl ?_
                            obtain ⟨hb21, h⟩ := ck_some h
                            obtain ⟨r22, hr22, h⟩ := Option.bind_eq_some_iff.mp h
                            obtain ⟨fs23, hf23⟩ := isO_ex hb21
                            refine aw_callV C (ci := 4) (b := v0) [] mv_X4_52 rfl rfl hf23 (rmX4_readSecond hr22) rfl dX4_readAct_135 (Nat.le_of_ble_eq_true rfl) (Nat.le_of_ble_eq_true rfl) rfl (Nat.le_of_ble_eq_true rfl) (show (((0 + 0) + 0) + 0) + 0 ≤ 2 by omega) (show (((0 + 0) + 0) + 0) + 0 ≤ 10 by omega) (fun v9 f9 n9 hh => ?_)
                            obtain ⟨rfl, rfl, rfl⟩ := hh
                            refine aw_goto C 142 dX4_readAct_138 (by decide) ?_
                            refine aw_fl [none, none, none] trivial ?_
                            exact rmX4_readAct_b142 C (by omega) (by omega) h
                        · rw [if_neg q] at h
                          have q11 := q
                          refine aw_tabOut C 148 dX4_readAct_32 (sx_outm1_12 q0 q1 q2 q3 q4 q5 q6 q7 q8 q9 q10 q11) (by decide) ?_
                          refine aw_fl [none, none, none] trivial ?_
                          exact rmX4_readAct_b148 C (by omega) (by omega) h
def mX4_readBehindAct_b73 (v0 : Nat) (f : AH) (n : Nat) : Option (Int32 × HpN) := ((gR f v0 4 7).bind fun x1 => ((gI f v0 4 1).bind fun x2 => ((gR f v0 4 7).bind fun x3 => ((x3).bind fun j4 => rCk (isO f j4 5) (((mX5_size j4 f n).bind fun r6 => ((x1).bind fun j8 => rCk (isO r6.2.1 j8 5) (((mX5_behindBlanks j8 (x2 + (1 : Int32)) r6.1 r6.2.1 r6.2.2).bind fun r10 => ((pO r10.2.1 v0 4 1 (.int r10.1)).bind fun f12 => some ((-1 : Int32), (f12, r10.2.2))))))))))))
set_option maxHeartbeats 1000000 in
theorem rmX4_readBehindAct_b73 {X : GX} {p : Program} {l : Launch} {e : Env} {s : State} {m : MethodId} {args : Array Value} {below : List Frame} {meth : Method} {c : Code} {r : Int32 × HpN} {v0 : Nat} {f : AH} {n cells slots : Nat} (C : CC X p l (RM 1 0 0) s m args meth c RX4 cX4_readBehindAct 1 (some .int)) (hc : cells + 0 ≤ 0) (hs : slots + 0 ≤ 0) (h : mX4_readBehindAct_b73 v0 f n = some r) : AW X p l e (RM 1 0 0) s m args below meth c 1 (ZM X below args s 0 0 (QHi r)) f n cells slots 73 [some (.ref v0)] [] := by
  have h : ((gR f v0 4 7).bind fun x1 => ((gI f v0 4 1).bind fun x2 => ((gR f v0 4 7).bind fun x3 => ((x3).bind fun j4 => rCk (isO f j4 5) (((mX5_size j4 f n).bind fun r6 => ((x1).bind fun j8 => rCk (isO r6.2.1 j8 5) (((mX5_behindBlanks j8 (x2 + (1 : Int32)) r6.1 r6.2.1 r6.2.2).bind fun r10 => ((pO r10.2.1 v0 4 1 (.int r10.1)).bind fun f12 => some ((-1 : Int32), (f12, r10.2.2)))))))))))) = some r := h
  refine aw_ald_n C dX4_readBehindAct_73 rfl ?_
  refine aw_ald_n C dX4_readBehindAct_74 rfl ?_
  obtain ⟨x1, hx1, h⟩ := Option.bind_eq_some_iff.mp h
  refine ah_getR C gf_X4_14 hx1 dX4_readBehindAct_75 ?_
  refine aw_ald_n C dX4_readBehindAct_78 rfl ?_
  obtain ⟨x2, hx2, h⟩ := Option.bind_eq_some_iff.mp h
  refine ah_getI C gf_X4_28 hx2 dX4_readBehindAct_79 ?_
  refine aw_iconst C 1 dX4_readBehindAct_82 ki_1 ?_
  refine aw_iadd C dX4_readBehindAct_83 ?_
  refine aw_ald_n C dX4_readBehindAct_84 rfl ?_
  obtain ⟨x3, hx3, h⟩ := Option.bind_eq_some_iff.mp h
  refine ah_getR C gf_X4_14 hx3 dX4_readBehindAct_85 ?_
  obtain ⟨j4, hj4, h⟩ := Option.bind_eq_some_iff.mp h
  subst hj4
  obtain ⟨hb5, h⟩ := ck_some h
  obtain ⟨r6, hr6, h⟩ := Option.bind_eq_some_iff.mp h
  obtain ⟨fs7, hf7⟩ := isO_ex hb5
  refine aw_callV C (ci := 5) (b := j4) [] mv_X4_20 rfl rfl hf7 (rmX5_size hr6) rfl dX4_readBehindAct_88 (Nat.le_of_ble_eq_true rfl) (Nat.le_of_ble_eq_true rfl) rfl (Nat.le_of_ble_eq_true rfl) (show cells + 0 ≤ 0 by omega) (show slots + 0 ≤ 0 by omega) (fun v9 f9 n9 hh => ?_)
  obtain ⟨rfl, rfl, rfl⟩ := hh
  obtain ⟨j8, hj8, h⟩ := Option.bind_eq_some_iff.mp h
  subst hj8
  obtain ⟨hb9, h⟩ := ck_some h
  obtain ⟨r10, hr10, h⟩ := Option.bind_eq_some_iff.mp h
  obtain ⟨fs11, hf11⟩ := isO_ex hb9
  refine aw_callV C (ci := 5) (b := j8) [.int (x2 + (1 : Int32)), .int r6.1] mv_X4_24 rfl rfl hf11 (rmX5_behindBlanks hr10) rfl dX4_readBehindAct_91 (Nat.le_of_ble_eq_true rfl) (Nat.le_of_ble_eq_true rfl) rfl (Nat.le_of_ble_eq_true rfl) (show (cells + 0) + 0 ≤ 0 by omega) (show (slots + 0) + 0 ≤ 0 by omega) (fun v9 f9 n9 hh => ?_)
  obtain ⟨rfl, rfl, rfl⟩ := hh
  obtain ⟨f12, hf12, h⟩ := Option.bind_eq_some_iff.mp h
  refine ah_put C gf_X4_28 cf4 nf4_1 rfl rfl hf12 dX4_readBehindAct_94 ?_
  refine aw_iconst C (-1) dX4_readBehindAct_97 ki_m1 ?_
  cases h
  exact aw_iret C rfl rfl dX4_readBehindAct_98 (by omega) (by omega) ⟨rfl, rfl, rfl⟩
def mX4_readBehindAct_b42 (v0 : Nat) (s0 : Nat) (s1 : Int32) (f : AH) (n : Nat) : Option (Int32 × HpN) := rCk (rNb s1) (((pO f s0 4 0 (.int s1)).bind fun f2 => ((gI f2 v0 4 0).bind fun x3 => (if x3 = (0 : Int32) then mX4_readBehindAct_b73 v0 f2 n else ((gR f2 v0 4 7).bind fun x4 => ((gI f2 v0 4 1).bind fun x5 => ((x4).bind fun j6 => rCk (isO f2 j6 5) (((mX5_get j6 x5 f2 n).bind fun r8 => (if r8.1 = (59 : Int32) then mX4_readBehindAct_b73 v0 r8.2.1 r8.2.2 else ((gI r8.2.1 v0 4 1).bind fun x10 => some (x10, (r8.2.1, r8.2.2)))))))))))))
set_option maxHeartbeats 1000000 in
theorem rmX4_readBehindAct_b42 {X : GX} {p : Program} {l : Launch} {e : Env} {s : State} {m : MethodId} {args : Array Value} {below : List Frame} {meth : Method} {c : Code} {r : Int32 × HpN} {v0 : Nat} {s0 : Nat} {s1 : Int32} {f : AH} {n cells slots : Nat} (C : CC X p l (RM 1 0 0) s m args meth c RX4 cX4_readBehindAct 1 (some .int)) (hc : cells + 0 ≤ 0) (hs : slots + 0 ≤ 0) (h : mX4_readBehindAct_b42 v0 s0 s1 f n = some r) : AW X p l e (RM 1 0 0) s m args below meth c 1 (ZM X below args s 0 0 (QHi r)) f n cells slots 42 [some (.ref v0)] [.int s1, .ref s0] := by
  have h : rCk (rNb s1) (((pO f s0 4 0 (.int s1)).bind fun f2 => ((gI f2 v0 4 0).bind fun x3 => (if x3 = (0 : Int32) then mX4_readBehindAct_b73 v0 f2 n else ((gR f2 v0 4 7).bind fun x4 => ((gI f2 v0 4 1).bind fun x5 => ((x4).bind fun j6 => rCk (isO f2 j6 5) (((mX5_get j6 x5 f2 n).bind fun r8 => (if r8.1 = (59 : Int32) then mX4_readBehindAct_b73 v0 r8.2.1 r8.2.2 else ((gI r8.2.1 v0 4 1).bind fun x10 => some (x10, (r8.2.1, r8.2.2))))))))))))) = some r := h
  obtain ⟨hb1, h⟩ := ck_some h
  obtain ⟨f2, hf2, h⟩ := Option.bind_eq_some_iff.mp h
  refine ah_put C gf_X4_32 cf4 nf4_0 (nb_nar hb1) (nb_fit hb1) hf2 dX4_readBehindAct_42 ?_
  refine aw_ald_n C dX4_readBehindAct_45 rfl ?_
  obtain ⟨x3, hx3, h⟩ := Option.bind_eq_some_iff.mp h
  refine ah_getI C gf_X4_32 hx3 dX4_readBehindAct_46 ?_
  refine aw_if_eq C 73 dX4_readBehindAct_49 (by decide) (fun q => ?_) (fun q => ?_)
  · rw [if_pos q] at h
    refine aw_fl [some (.ref v0)] ⟨rfl, trivial⟩ ?_
    exact rmX4_readBehindAct_b73 C (by omega) (by omega) h
  · rw [if_neg q] at h
    refine aw_ald_n C dX4_readBehindAct_52 rfl ?_
    obtain ⟨x4, hx4, h⟩ := Option.bind_eq_some_iff.mp h
    refine ah_getR C gf_X4_14 hx4 dX4_readBehindAct_53 ?_
    refine aw_ald_n C dX4_readBehindAct_56 rfl ?_
    obtain ⟨x5, hx5, h⟩ := Option.bind_eq_some_iff.mp h
    refine ah_getI C gf_X4_28 hx5 dX4_readBehindAct_57 ?_
    obtain ⟨j6, hj6, h⟩ := Option.bind_eq_some_iff.mp h
    subst hj6
    obtain ⟨hb7, h⟩ := ck_some h
    obtain ⟨r8, hr8, h⟩ := Option.bind_eq_some_iff.mp h
    obtain ⟨fs9, hf9⟩ := isO_ex hb7
    refine aw_callV C (ci := 5) (b := j6) [.int x5] mv_X4_36 rfl rfl hf9 (rmX5_get hr8) rfl dX4_readBehindAct_60 (Nat.le_of_ble_eq_true rfl) (Nat.le_of_ble_eq_true rfl) rfl (Nat.le_of_ble_eq_true rfl) (show cells + 0 ≤ 0 by omega) (show slots + 0 ≤ 0 by omega) (fun v9 f9 n9 hh => ?_)
    obtain ⟨rfl, rfl, rfl⟩ := hh
    refine aw_bipush C 59 dX4_readBehindAct_63 kb_59 ?_
    refine aw_icmp_eq C 73 dX4_readBehindAct_65 (by decide) (fun q => ?_) (fun q => ?_)
    · rw [if_pos q] at h
      refine aw_fl [some (.ref v0)] ⟨rfl, trivial⟩ ?_
      exact rmX4_readBehindAct_b73 C (by omega) (by omega) h
    · rw [if_neg q] at h
      refine aw_ald_n C dX4_readBehindAct_68 rfl ?_
      obtain ⟨x10, hx10, h⟩ := Option.bind_eq_some_iff.mp h
      refine ah_getI C gf_X4_28 hx10 dX4_readBehindAct_69 ?_
      cases h
      exact aw_iret C rfl rfl dX4_readBehindAct_72 (by omega) (by omega) ⟨rfl, rfl, rfl⟩
def mX4_readBehindAct (v0 : Nat) (f : AH) (n : Nat) : Option (Int32 × HpN) := ((gR f v0 4 7).bind fun x1 => ((gI f v0 4 1).bind fun x2 => ((gR f v0 4 7).bind fun x3 => ((x3).bind fun j4 => rCk (isO f j4 5) (((mX5_size j4 f n).bind fun r6 => ((x1).bind fun j8 => rCk (isO r6.2.1 j8 5) (((mX5_behindBlanks j8 x2 r6.1 r6.2.1 r6.2.2).bind fun r10 => ((pO r10.2.1 v0 4 1 (.int r10.1)).bind fun f12 => ((gI f12 v0 4 1).bind fun x13 => ((gR f12 v0 4 7).bind fun x14 => ((x14).bind fun j15 => rCk (isO f12 j15 5) (((mX5_size j15 f12 r10.2.2).bind fun r17 => (if r17.1 ≤ x13 then mX4_readBehindAct_b42 v0 v0 (0 : Int32) r17.2.1 r17.2.2 else mX4_readBehindAct_b42 v0 v0 (1 : Int32) r17.2.1 r17.2.2))))))))))))))))
set_option maxHeartbeats 1000000 in
theorem rmX4_readBehindAct {X : GX} {l : Launch} {r : Int32 × HpN} {v0 : Nat} {f : AH} {n : Nat} (h : mX4_readBehindAct v0 f n = some r) : AM X l yX4_readBehindAct cX4_readBehindAct 1 (some .int) 1 0 0 [.ref v0] f n (QHi r) := by
  have h : ((gR f v0 4 7).bind fun x1 => ((gI f v0 4 1).bind fun x2 => ((gR f v0 4 7).bind fun x3 => ((x3).bind fun j4 => rCk (isO f j4 5) (((mX5_size j4 f n).bind fun r6 => ((x1).bind fun j8 => rCk (isO r6.2.1 j8 5) (((mX5_behindBlanks j8 x2 r6.1 r6.2.1 r6.2.2).bind fun r10 => ((pO r10.2.1 v0 4 1 (.int r10.1)).bind fun f12 => ((gI f12 v0 4 1).bind fun x13 => ((gR f12 v0 4 7).bind fun x14 => ((x14).bind fun j15 => rCk (isO f12 j15 5) (((mX5_size j15 f12 r10.2.2).bind fun r17 => (if r17.1 ≤ x13 then mX4_readBehindAct_b42 v0 v0 (0 : Int32) r17.2.1 r17.2.2 else mX4_readBehindAct_b42 v0 v0 (1 : Int32) r17.2.1 r17.2.2)))))))))))))))) = some r := h
  refine AM.of (by decide +kernel) rfl (Nat.le_of_ble_eq_true rfl) (fun p e s m args below meth c C hnm => ?_)
  refine aw_nl [some (.ref v0)] rfl ?_
  refine aw_ald_n C dX4_readBehindAct_0 rfl ?_
  refine aw_ald_n C dX4_readBehindAct_1 rfl ?_
  obtain ⟨x1, hx1, h⟩ := Option.bind_eq_some_iff.mp h
  refine ah_getR C gf_X4_14 hx1 dX4_readBehindAct_2 ?_
  refine aw_ald_n C dX4_readBehindAct_5 rfl ?_
  obtain ⟨x2, hx2, h⟩ := Option.bind_eq_some_iff.mp h
  refine ah_getI C gf_X4_28 hx2 dX4_readBehindAct_6 ?_
  refine aw_ald_n C dX4_readBehindAct_9 rfl ?_
  obtain ⟨x3, hx3, h⟩ := Option.bind_eq_some_iff.mp h
  refine ah_getR C gf_X4_14 hx3 dX4_readBehindAct_10 ?_
  obtain ⟨j4, hj4, h⟩ := Option.bind_eq_some_iff.mp h
  subst hj4
  obtain ⟨hb5, h⟩ := ck_some h
  obtain ⟨r6, hr6, h⟩ := Option.bind_eq_some_iff.mp h
  obtain ⟨fs7, hf7⟩ := isO_ex hb5
  refine aw_callV C (ci := 5) (b := j4) [] mv_X4_20 rfl rfl hf7 (rmX5_size hr6) rfl dX4_readBehindAct_13 (Nat.le_of_ble_eq_true rfl) (Nat.le_of_ble_eq_true rfl) rfl (Nat.le_of_ble_eq_true rfl) (show 0 + 0 ≤ 0 by omega) (show 0 + 0 ≤ 0 by omega) (fun v9 f9 n9 hh => ?_)
  obtain ⟨rfl, rfl, rfl⟩ := hh
  obtain ⟨j8, hj8, h⟩ := Option.bind_eq_some_iff.mp h
  subst hj8
  obtain ⟨hb9, h⟩ := ck_some h
  obtain ⟨r10, hr10, h⟩ := Option.bind_eq_some_iff.mp h
  obtain ⟨fs11, hf11⟩ := isO_ex hb9
  refine aw_callV C (ci := 5) (b := j8) [.int x2, .int r6.1] mv_X4_24 rfl rfl hf11 (rmX5_behindBlanks hr10) rfl dX4_readBehindAct_16 (Nat.le_of_ble_eq_true rfl) (Nat.le_of_ble_eq_true rfl) rfl (Nat.le_of_ble_eq_true rfl) (show (0 + 0) + 0 ≤ 0 by omega) (show (0 + 0) + 0 ≤ 0 by omega) (fun v9 f9 n9 hh => ?_)
  obtain ⟨rfl, rfl, rfl⟩ := hh
  obtain ⟨f12, hf12, h⟩ := Option.bind_eq_some_iff.mp h
  refine ah_put C gf_X4_28 cf4 nf4_1 rfl rfl hf12 dX4_readBehindAct_19 ?_
  refine aw_ald_n C dX4_readBehindAct_22 rfl ?_
  refine aw_ald_n C dX4_readBehindAct_23 rfl ?_
  obtain ⟨x13, hx13, h⟩ := Option.bind_eq_some_iff.mp h
  refine ah_getI C gf_X4_28 hx13 dX4_readBehindAct_24 ?_
  refine aw_ald_n C dX4_readBehindAct_27 rfl ?_
  obtain ⟨x14, hx14, h⟩ := Option.bind_eq_some_iff.mp h
  refine ah_getR C gf_X4_14 hx14 dX4_readBehindAct_28 ?_
  obtain ⟨j15, hj15, h⟩ := Option.bind_eq_some_iff.mp h
  subst hj15
  obtain ⟨hb16, h⟩ := ck_some h
  obtain ⟨r17, hr17, h⟩ := Option.bind_eq_some_iff.mp h
  obtain ⟨fs18, hf18⟩ := isO_ex hb16
  refine aw_callV C (ci := 5) (b := j15) [] mv_X4_20 rfl rfl hf18 (rmX5_size hr17) rfl dX4_readBehindAct_31 (Nat.le_of_ble_eq_true rfl) (Nat.le_of_ble_eq_true rfl) rfl (Nat.le_of_ble_eq_true rfl) (show ((0 + 0) + 0) + 0 ≤ 0 by omega) (show ((0 + 0) + 0) + 0 ≤ 0 by omega) (fun v9 f9 n9 hh => ?_)
  obtain ⟨rfl, rfl, rfl⟩ := hh
  refine aw_icmp_ge C 41 dX4_readBehindAct_34 (by decide) (fun q => ?_) (fun q => ?_)
  · rw [if_pos q] at h
    refine aw_iconst C 0 dX4_readBehindAct_41 ki_0 ?_
    refine aw_fl [some (.ref v0)] ⟨rfl, trivial⟩ ?_
    exact rmX4_readBehindAct_b42 C (by omega) (by omega) h
  · rw [if_neg q] at h
    refine aw_iconst C 1 dX4_readBehindAct_37 ki_1 ?_
    refine aw_goto C 42 dX4_readBehindAct_38 (by decide) ?_
    refine aw_fl [some (.ref v0)] ⟨rfl, trivial⟩ ?_
    exact rmX4_readBehindAct_b42 C (by omega) (by omega) h
def mX8_acts_b199 (v0 : Nat) (v1 : Int32) (s0 : Nat) (s1 : Int32) (f : AH) (n : Nat) : Option ((Int32 ⊕ String) × HpN) := ((pO f s0 8 12 (.int s1)).bind fun f1 => ((pO f1 v0 8 11 (.int (0 : Int32))).bind fun f2 => some (.inl v1, (f2, n))))
set_option maxHeartbeats 1000000 in
theorem rmX8_acts_b199 {X : GX} {p : Program} {l : Launch} {e : Env} {s : State} {m : MethodId} {args : Array Value} {below : List Frame} {meth : Method} {c : Code} {r : (Int32 ⊕ String) × HpN} {v0 : Nat} {v1 : Int32} {s0 : Nat} {s1 : Int32} {f : AH} {n cells slots : Nat} (C : CC X p l (RM 7 108 2412) s m args meth c RX8 cX8_acts 6 (some .int)) (hl0 : l.stackTraces = false) (htab : ∀ x ∈ c.exceptionTable.toList, False) (hc : cells + 0 ≤ 108) (hs : slots + 0 ≤ 2412) (h : mX8_acts_b199 v0 v1 s0 s1 f n = some r) : AW X p l e (RM 7 108 2412) s m args below meth c 6 (ZX X below args s 108 2412 (QTr (QHi) r) (QTx r)) f n cells slots 199 [some (.ref v0), some (.int v1), none, none, none, none] [.int s1, .ref s0] := by
  have h : ((pO f s0 8 12 (.int s1)).bind fun f1 => ((pO f1 v0 8 11 (.int (0 : Int32))).bind fun f2 => some (.inl v1, (f2, n)))) = some r := h
  obtain ⟨f1, hf1, h⟩ := Option.bind_eq_some_iff.mp h
  refine ah_put C gf_X8_110 cf8 nf8_12 rfl rfl hf1 dX8_acts_199 ?_
  refine aw_ald_n C dX8_acts_202 rfl ?_
  refine aw_iconst C 0 dX8_acts_203 ki_0 ?_
  obtain ⟨f2, hf2, h⟩ := Option.bind_eq_some_iff.mp h
  refine ah_put C gf_X8_123 cf8 nf8_11 rfl rfl hf2 dX8_acts_204 ?_
  refine aw_iload_n C dX8_acts_207 rfl ?_
  cases h
  exact ax_of (aw_iret C rfl rfl dX8_acts_208 (by omega) (by omega) ⟨_, rfl, rfl, rfl, rfl⟩)
def mX8_acts_b150 (v0 : Nat) (v1 : Int32) (v2 : Int32) (f : AH) (n : Nat) : Option ((Int32 ⊕ String) × HpN) := ((gR f v0 8 0).bind fun x1 => ((x1).bind fun j2 => rCk (isO f j2 5) (((mX5_cutTo j2 (0 : Int32) f n).bind fun r4 => ((pO r4.2.1 v0 8 13 (.int v2)).bind fun f6 => (if v2 = (-1 : Int32) then (if v1 ≤ (0 : Int32) then ((gI f6 v0 8 12).bind fun x7 => mX8_acts_b199 v0 v1 v0 x7 f6 r4.2.2) else mX8_acts_b199 v0 v1 v0 (0 : Int32) f6 r4.2.2) else ((gR f6 v0 8 2).bind fun x8 => rCk (isO f6 v0 8) (((mX8_restore v0 x8 f6 r4.2.2).bind fun r10 => some (.inr eA, (r10.2.1, r10.2.2)))))))))))
set_option maxHeartbeats 1000000 in
theorem rmX8_acts_b150 {X : GX} {p : Program} {l : Launch} {e : Env} {s : State} {m : MethodId} {args : Array Value} {below : List Frame} {meth : Method} {c : Code} {r : (Int32 ⊕ String) × HpN} {v0 : Nat} {v1 : Int32} {v2 : Int32} {f : AH} {n cells slots : Nat} (C : CC X p l (RM 7 108 2412) s m args meth c RX8 cX8_acts 6 (some .int)) (hl0 : l.stackTraces = false) (htab : ∀ x ∈ c.exceptionTable.toList, False) (hc : cells + 1 ≤ 108) (hs : slots + 6 ≤ 2412) (h : mX8_acts_b150 v0 v1 v2 f n = some r) : AW X p l e (RM 7 108 2412) s m args below meth c 6 (ZX X below args s 108 2412 (QTr (QHi) r) (QTx r)) f n cells slots 150 [some (.ref v0), some (.int v1), some (.int v2), none, none, none] [] := by
  have h : ((gR f v0 8 0).bind fun x1 => ((x1).bind fun j2 => rCk (isO f j2 5) (((mX5_cutTo j2 (0 : Int32) f n).bind fun r4 => ((pO r4.2.1 v0 8 13 (.int v2)).bind fun f6 => (if v2 = (-1 : Int32) then (if v1 ≤ (0 : Int32) then ((gI f6 v0 8 12).bind fun x7 => mX8_acts_b199 v0 v1 v0 x7 f6 r4.2.2) else mX8_acts_b199 v0 v1 v0 (0 : Int32) f6 r4.2.2) else ((gR f6 v0 8 2).bind fun x8 => rCk (isO f6 v0 8) (((mX8_restore v0 x8 f6 r4.2.2).bind fun r10 => some (.inr eA, (r10.2.1, r10.2.2))))))))))) = some r := h
  refine aw_ald_n C dX8_acts_150 rfl ?_
  obtain ⟨x1, hx1, h⟩ := Option.bind_eq_some_iff.mp h
  refine ah_getR C gf_X8_14 hx1 dX8_acts_151 ?_
  refine aw_iconst C 0 dX8_acts_154 ki_0 ?_
  obtain ⟨j2, hj2, h⟩ := Option.bind_eq_some_iff.mp h
  subst hj2
  obtain ⟨hb3, h⟩ := ck_some h
  obtain ⟨r4, hr4, h⟩ := Option.bind_eq_some_iff.mp h
  obtain ⟨fs5, hf5⟩ := isO_ex hb3
  refine aw_callV C (ci := 5) (b := j2) [.int (0 : Int32)] mv_X8_70 rfl rfl hf5 (rmX5_cutTo hr4) rfl dX8_acts_155 (Nat.le_of_ble_eq_true rfl) (Nat.le_of_ble_eq_true rfl) rfl (Nat.le_of_ble_eq_true rfl) (show cells + 0 ≤ 108 by omega) (show slots + 0 ≤ 2412 by omega) (fun v9 f9 n9 hh => ?_)
  obtain ⟨rfl, rfl, rfl⟩ := hh
  refine aw_ald_n C dX8_acts_158 rfl ?_
  refine aw_iload_n C dX8_acts_159 rfl ?_
  obtain ⟨f6, hf6, h⟩ := Option.bind_eq_some_iff.mp h
  refine ah_put C gf_X8_59 cf8 nf8_13 rfl rfl hf6 dX8_acts_160 ?_
  refine aw_iload_n C dX8_acts_163 rfl ?_
  refine aw_iconst C (-1) dX8_acts_164 ki_m1 ?_
  refine aw_icmp_eq C 186 dX8_acts_165 (by decide) (fun q => ?_) (fun q => ?_)
  · rw [if_pos q] at h
    refine aw_ald_n C dX8_acts_186 rfl ?_
    refine aw_iload_n C dX8_acts_187 rfl ?_
    refine aw_if_le C 195 dX8_acts_188 (by decide) (fun q => ?_) (fun q => ?_)
    · rw [if_pos q] at h
      refine aw_ald_n C dX8_acts_195 rfl ?_
      obtain ⟨x7, hx7, h⟩ := Option.bind_eq_some_iff.mp h
      refine ah_getI C gf_X8_110 hx7 dX8_acts_196 ?_
      refine aw_fl [some (.ref v0), some (.int v1), none, none, none, none] ⟨rfl, ⟨rfl, trivial⟩⟩ ?_
      exact rmX8_acts_b199 C hl0 htab (by omega) (by omega) h
    · rw [if_neg q] at h
      refine aw_iconst C 0 dX8_acts_191 ki_0 ?_
      refine aw_goto C 199 dX8_acts_192 (by decide) ?_
      refine aw_fl [some (.ref v0), some (.int v1), none, none, none, none] ⟨rfl, ⟨rfl, trivial⟩⟩ ?_
      exact rmX8_acts_b199 C hl0 htab (by omega) (by omega) h
  · rw [if_neg q] at h
    refine aw_ald_n C dX8_acts_168 rfl ?_
    refine aw_ald_n C dX8_acts_169 rfl ?_
    obtain ⟨x8, hx8, h⟩ := Option.bind_eq_some_iff.mp h
    refine ah_getR C gf_X8_25 hx8 dX8_acts_170 ?_
    obtain ⟨hb9, h⟩ := ck_some h
    obtain ⟨r10, hr10, h⟩ := Option.bind_eq_some_iff.mp h
    obtain ⟨fs11, hf11⟩ := isO_ex hb9
    refine aw_callV C (ci := 8) (b := v0) [va_rf x8] mv_X8_113 rfl rfl hf11 (rmX8_restore hr10) rfl dX8_acts_173 (Nat.le_of_ble_eq_true rfl) (Nat.le_of_ble_eq_true rfl) rfl (Nat.le_of_ble_eq_true rfl) (show (cells + 0) + 0 ≤ 108 by omega) (show (slots + 0) + 0 ≤ 2412 by omega) (fun v9 f9 n9 hh => ?_)
    obtain ⟨rfl, rfl, rfl⟩ := hh
    cases h
    exact ax_throw C htab hl0 th_eA sx_118 dX8_acts_176 dX8_acts_179 dX8_acts_180 dX8_acts_182 dX8_acts_185 (Nat.le_of_ble_eq_true rfl) (Nat.le_of_ble_eq_true rfl) (show ((cells + 0) + 0) + 1 ≤ 108 by omega) (show ((slots + 0) + 0) + 6 ≤ 2412 by omega) (by omega) (by omega) (fun n9 h9 => ⟨rfl, rfl, h9⟩)
def mX8_acts_b144 (rec28 : Nat → Int32 → Int32 → Int32 → AH → Nat → Option ((Int32 ⊕ String) × HpN)) (v0 : Nat) (v1 : Int32) (v2 : Int32) (v3 : Int32) (f : AH) (n : Nat) : Option ((Int32 ⊕ String) × HpN) := rec28 v0 v1 v2 (v3 + (1 : Int32)) f n
set_option maxHeartbeats 1000000 in
theorem rmX8_acts_b144 {X : GX} {p : Program} {l : Launch} {e : Env} {s : State} {m : MethodId} {args : Array Value} {below : List Frame} {meth : Method} {c : Code} {r : (Int32 ⊕ String) × HpN} {rec28 : Nat → Int32 → Int32 → Int32 → AH → Nat → Option ((Int32 ⊕ String) × HpN)} {v0 : Nat} {v1 : Int32} {v2 : Int32} {v3 : Int32} {f : AH} {n cells slots : Nat} {Dc Ds : Nat} (C : CC X p l (RM 7 108 2412) s m args meth c RX8 cX8_acts 6 (some .int)) (hl0 : l.stackTraces = false) (htab : ∀ x ∈ c.exceptionTable.toList, False) (Hr28 : ∀ (v0 : Nat) (v1 : Int32) (v2 : Int32) (v3 : Int32) (f : AH) (n cells slots : Nat), cells + Dc ≤ 108 → slots + Ds ≤ 2412 → rec28 v0 v1 v2 v3 f n = some r → AW X p l e (RM 7 108 2412) s m args below meth c 6 (ZX X below args s 108 2412 (QTr (QHi) r) (QTx r)) f n cells slots 28 [some (.ref v0), some (.int v1), some (.int v2), some (.int v3), none, none] []) (hc : cells + 0 + Dc ≤ 108) (hs : slots + 0 + Ds ≤ 2412) (h : mX8_acts_b144 rec28 v0 v1 v2 v3 f n = some r) : AW X p l e (RM 7 108 2412) s m args below meth c 6 (ZX X below args s 108 2412 (QTr (QHi) r) (QTx r)) f n cells slots 144 [some (.ref v0), some (.int v1), some (.int v2), some (.int v3), none, none] [] := by
  have h : rec28 v0 v1 v2 (v3 + (1 : Int32)) f n = some r := h
  refine aw_iinc C (v3 + (1 : Int32)) dX8_acts_144 rfl (by rw [ki_1]) (by decide) rfl ?_
  refine aw_nl [some (.ref v0), some (.int v1), some (.int v2), some (.int (v3 + (1 : Int32))), none, none] rfl ?_
  refine aw_goto C 28 dX8_acts_147 (by decide) ?_
  refine aw_fl [some (.ref v0), some (.int v1), some (.int v2), some (.int (v3 + (1 : Int32))), none, none] ⟨rfl, ⟨rfl, ⟨rfl, ⟨rfl, trivial⟩⟩⟩⟩ ?_
  exact Hr28 v0 v1 v2 (v3 + (1 : Int32)) f n _ _ (by omega) (by omega) h
def mX8_acts_b76 (rec28 : Nat → Int32 → Int32 → Int32 → AH → Nat → Option ((Int32 ⊕ String) × HpN)) (v0 : Nat) (v1 : Int32) (v3 : Int32) (v4 : Int32) (s0 : Int32) (f : AH) (n : Nat) : Option ((Int32 ⊕ String) × HpN) := (if s0 = (-1 : Int32) then ((gR f v0 8 8).bind fun x1 => ((x1).bind fun j2 => ((gI f j2 4 2).bind fun x3 => ((gR f v0 8 8).bind fun x4 => ((x4).bind fun j5 => ((gI f j5 4 3).bind fun x6 => ((gR f v0 8 8).bind fun x7 => ((x7).bind fun j8 => ((gI f j8 4 4).bind fun x9 => ((gR f v0 8 8).bind fun x10 => ((x10).bind fun j11 => ((gR f j11 4 5).bind fun x12 => rCk (isO f v0 8) (((mX8_doAct v0 x3 x6 x9 x12 f n).bind fun r14 => (if r14.1 = (0 : Int32) then ((gR r14.2.1 v0 8 8).bind fun x17 => ((x17).bind fun j18 => rCk (isO r14.2.1 j18 4) (((mX4_readBehindAct j18 r14.2.1 r14.2.2).bind fun r20 => mX8_acts_b144 rec28 v0 (v1 + (1 : Int32)) r20.1 v3 r20.2.1 r20.2.2)))) else ((pO r14.2.1 v0 8 12 (.int r14.1)).bind fun f16 => mX8_acts_b144 rec28 v0 v1 v4 v3 f16 r14.2.2)))))))))))))))) else mX8_acts_b144 rec28 v0 v1 s0 v3 f n)
set_option maxHeartbeats 1000000 in
theorem rmX8_acts_b76 {X : GX} {p : Program} {l : Launch} {e : Env} {s : State} {m : MethodId} {args : Array Value} {below : List Frame} {meth : Method} {c : Code} {r : (Int32 ⊕ String) × HpN} {rec28 : Nat → Int32 → Int32 → Int32 → AH → Nat → Option ((Int32 ⊕ String) × HpN)} {v0 : Nat} {v1 : Int32} {v3 : Int32} {v4 : Int32} {s0 : Int32} {f : AH} {n cells slots : Nat} {Dc Ds : Nat} (C : CC X p l (RM 7 108 2412) s m args meth c RX8 cX8_acts 6 (some .int)) (hl0 : l.stackTraces = false) (htab : ∀ x ∈ c.exceptionTable.toList, False) (Hr28 : ∀ (v0 : Nat) (v1 : Int32) (v2 : Int32) (v3 : Int32) (f : AH) (n cells slots : Nat), cells + Dc ≤ 108 → slots + Ds ≤ 2412 → rec28 v0 v1 v2 v3 f n = some r → AW X p l e (RM 7 108 2412) s m args below meth c 6 (ZX X below args s 108 2412 (QTr (QHi) r) (QTx r)) f n cells slots 28 [some (.ref v0), some (.int v1), some (.int v2), some (.int v3), none, none] []) (hc : cells + 4 + Dc ≤ 108) (hs : slots + 124 + Ds ≤ 2412) (h : mX8_acts_b76 rec28 v0 v1 v3 v4 s0 f n = some r) : AW X p l e (RM 7 108 2412) s m args below meth c 6 (ZX X below args s 108 2412 (QTr (QHi) r) (QTx r)) f n cells slots 76 [some (.ref v0), some (.int v1), none, some (.int v3), some (.int v4), none] [.int s0] := by
  have h : (if s0 = (-1 : Int32) then ((gR f v0 8 8).bind fun x1 => ((x1).bind fun j2 => ((gI f j2 4 2).bind fun x3 => ((gR f v0 8 8).bind fun x4 => ((x4).bind fun j5 => ((gI f j5 4 3).bind fun x6 => ((gR f v0 8 8).bind fun x7 => ((x7).bind fun j8 => ((gI f j8 4 4).bind fun x9 => ((gR f v0 8 8).bind fun x10 => ((x10).bind fun j11 => ((gR f j11 4 5).bind fun x12 => rCk (isO f v0 8) (((mX8_doAct v0 x3 x6 x9 x12 f n).bind fun r14 => (if r14.1 = (0 : Int32) then ((gR r14.2.1 v0 8 8).bind fun x17 => ((x17).bind fun j18 => rCk (isO r14.2.1 j18 4) (((mX4_readBehindAct j18 r14.2.1 r14.2.2).bind fun r20 => mX8_acts_b144 rec28 v0 (v1 + (1 : Int32)) r20.1 v3 r20.2.1 r20.2.2)))) else ((pO r14.2.1 v0 8 12 (.int r14.1)).bind fun f16 => mX8_acts_b144 rec28 v0 v1 v4 v3 f16 r14.2.2)))))))))))))))) else mX8_acts_b144 rec28 v0 v1 s0 v3 f n) = some r := h
  refine aw_istore_n C dX8_acts_76 (by decide) rfl ?_
  refine aw_nl [some (.ref v0), some (.int v1), some (.int s0), some (.int v3), some (.int v4), none] rfl ?_
  refine aw_iload_n C dX8_acts_77 rfl ?_
  refine aw_iconst C (-1) dX8_acts_78 ki_m1 ?_
  refine aw_icmp_ne C 144 dX8_acts_79 (by decide) (fun q => ?_) (fun q => ?_)
  · rw [if_neg q] at h
    refine aw_fl [some (.ref v0), some (.int v1), some (.int s0), some (.int v3), none, none] ⟨rfl, ⟨rfl, ⟨rfl, ⟨rfl, trivial⟩⟩⟩⟩ ?_
    exact rmX8_acts_b144 C hl0 htab Hr28 (by omega) (by omega) h
  · rw [if_pos q] at h
    refine aw_ald_n C dX8_acts_82 rfl ?_
    refine aw_ald_n C dX8_acts_83 rfl ?_
    obtain ⟨x1, hx1, h⟩ := Option.bind_eq_some_iff.mp h
    refine ah_getR C gf_X8_55 hx1 dX8_acts_84 ?_
    obtain ⟨j2, hj2, h⟩ := Option.bind_eq_some_iff.mp h
    subst hj2
    obtain ⟨x3, hx3, h⟩ := Option.bind_eq_some_iff.mp h
    refine ah_getI C gf_X8_91 hx3 dX8_acts_87 ?_
    refine aw_ald_n C dX8_acts_90 rfl ?_
    obtain ⟨x4, hx4, h⟩ := Option.bind_eq_some_iff.mp h
    refine ah_getR C gf_X8_55 hx4 dX8_acts_91 ?_
    obtain ⟨j5, hj5, h⟩ := Option.bind_eq_some_iff.mp h
    subst hj5
    obtain ⟨x6, hx6, h⟩ := Option.bind_eq_some_iff.mp h
    refine ah_getI C gf_X8_94 hx6 dX8_acts_94 ?_
    refine aw_ald_n C dX8_acts_97 rfl ?_
    obtain ⟨x7, hx7, h⟩ := Option.bind_eq_some_iff.mp h
    refine ah_getR C gf_X8_55 hx7 dX8_acts_98 ?_
    obtain ⟨j8, hj8, h⟩ := Option.bind_eq_some_iff.mp h
    subst hj8
    obtain ⟨x9, hx9, h⟩ := Option.bind_eq_some_iff.mp h
    refine ah_getI C gf_X8_97 hx9 dX8_acts_101 ?_
    refine aw_ald_n C dX8_acts_104 rfl ?_
    obtain ⟨x10, hx10, h⟩ := Option.bind_eq_some_iff.mp h
    refine ah_getR C gf_X8_55 hx10 dX8_acts_105 ?_
    obtain ⟨j11, hj11, h⟩ := Option.bind_eq_some_iff.mp h
    subst hj11
    obtain ⟨x12, hx12, h⟩ := Option.bind_eq_some_iff.mp h
    refine ah_getR C gf_X8_100 hx12 dX8_acts_108 ?_
    obtain ⟨hb13, h⟩ := ck_some h
    obtain ⟨r14, hr14, h⟩ := Option.bind_eq_some_iff.mp h
    obtain ⟨fs15, hf15⟩ := isO_ex hb13
    refine aw_callV C (ci := 8) (b := v0) [.int x3, .int x6, .int x9, va_rf x12] mv_X8_103 rfl rfl hf15 (rmX8_doAct hr14) rfl dX8_acts_111 (Nat.le_of_ble_eq_true rfl) (Nat.le_of_ble_eq_true rfl) rfl (Nat.le_of_ble_eq_true rfl) (show cells + 4 ≤ 108 by omega) (show slots + 124 ≤ 2412 by omega) (fun v9 f9 n9 hh => ?_)
    obtain ⟨rfl, rfl, rfl⟩ := hh
    refine aw_istore C dX8_acts_114 (by decide) rfl ?_
    refine aw_nl [some (.ref v0), some (.int v1), some (.int s0), some (.int v3), some (.int v4), some (.int r14.1)] rfl ?_
    refine aw_iload C dX8_acts_116 rfl ?_
    refine aw_if_ne C 135 dX8_acts_118 (by decide) (fun q => ?_) (fun q => ?_)
    · rw [if_neg q] at h
      refine aw_ald_n C dX8_acts_135 rfl ?_
      refine aw_iload C dX8_acts_136 rfl ?_
      obtain ⟨f16, hf16, h⟩ := Option.bind_eq_some_iff.mp h
      refine ah_put C gf_X8_110 cf8 nf8_12 rfl rfl hf16 dX8_acts_138 ?_
      refine aw_iload C dX8_acts_141 rfl ?_
      refine aw_istore_n C dX8_acts_143 (by decide) rfl ?_
      refine aw_nl [some (.ref v0), some (.int v1), some (.int v4), some (.int v3), some (.int v4), some (.int r14.1)] rfl ?_
      refine aw_fl [some (.ref v0), some (.int v1), some (.int v4), some (.int v3), none, none] ⟨rfl, ⟨rfl, ⟨rfl, ⟨rfl, trivial⟩⟩⟩⟩ ?_
      exact rmX8_acts_b144 C hl0 htab Hr28 (by omega) (by omega) h
    · rw [if_pos q] at h
      refine aw_iinc C (v1 + (1 : Int32)) dX8_acts_121 rfl (by rw [ki_1]) (by decide) rfl ?_
      refine aw_nl [some (.ref v0), some (.int (v1 + (1 : Int32))), some (.int s0), some (.int v3), some (.int v4), some (.int r14.1)] rfl ?_
      refine aw_ald_n C dX8_acts_124 rfl ?_
      obtain ⟨x17, hx17, h⟩ := Option.bind_eq_some_iff.mp h
      refine ah_getR C gf_X8_55 hx17 dX8_acts_125 ?_
      obtain ⟨j18, hj18, h⟩ := Option.bind_eq_some_iff.mp h
      subst hj18
      obtain ⟨hb19, h⟩ := ck_some h
      obtain ⟨r20, hr20, h⟩ := Option.bind_eq_some_iff.mp h
      obtain ⟨fs21, hf21⟩ := isO_ex hb19
      refine aw_callV C (ci := 4) (b := j18) [] mv_X8_107 rfl rfl hf21 (rmX4_readBehindAct hr20) rfl dX8_acts_128 (Nat.le_of_ble_eq_true rfl) (Nat.le_of_ble_eq_true rfl) rfl (Nat.le_of_ble_eq_true rfl) (show (cells + 4) + 0 ≤ 108 by omega) (show (slots + 124) + 0 ≤ 2412 by omega) (fun v9 f9 n9 hh => ?_)
      obtain ⟨rfl, rfl, rfl⟩ := hh
      refine aw_istore_n C dX8_acts_131 (by decide) rfl ?_
      refine aw_nl [some (.ref v0), some (.int (v1 + (1 : Int32))), some (.int r20.1), some (.int v3), some (.int v4), some (.int r14.1)] rfl ?_
      refine aw_goto C 144 dX8_acts_132 (by decide) ?_
      refine aw_fl [some (.ref v0), some (.int (v1 + (1 : Int32))), some (.int r20.1), some (.int v3), none, none] ⟨rfl, ⟨rfl, ⟨rfl, ⟨rfl, trivial⟩⟩⟩⟩ ?_
      exact rmX8_acts_b144 C hl0 htab Hr28 (by omega) (by omega) h
def mX8_acts_l28 : Nat → Nat → Int32 → Int32 → Int32 → AH → Nat → Option ((Int32 ⊕ String) × HpN)
  | 0, _, _, _, _, _, _ => none
  | d + 1, v0, v1, v2, v3, f, n => (if (14 : Int32) < v3 then mX8_acts_b150 v0 v1 v2 f n else ((gR f v0 8 8).bind fun x1 => ((x1).bind fun j2 => ((gI f j2 4 0).bind fun x3 => (if x3 = (0 : Int32) then mX8_acts_b150 v0 v1 v2 f n else (if v2 = (-1 : Int32) then ((gR f v0 8 8).bind fun x4 => ((x4).bind fun j5 => ((gI f j5 4 1).bind fun x6 => (if (14 : Int32) ≤ v3 then mX8_acts_b76 (fun v0 v1 v2 v3 f n => mX8_acts_l28 d v0 v1 v2 v3 f n) v0 v1 v3 x6 x6 f n else ((gR f v0 8 8).bind fun x7 => ((x7).bind fun j8 => rCk (isO f j8 4) (((mX4_readAct j8 f n).bind fun r10 => mX8_acts_b76 (fun v0 v1 v2 v3 f n => mX8_acts_l28 d v0 v1 v2 v3 f n) v0 v1 v3 x6 r10.1 r10.2.1 r10.2.2)))))))) else mX8_acts_b150 v0 v1 v2 f n))))))
set_option maxHeartbeats 1000000 in
theorem rmX8_acts_l28 {X : GX} {p : Program} {l : Launch} {e : Env} {s : State} {m : MethodId} {args : Array Value} {below : List Frame} {meth : Method} {c : Code} {r : (Int32 ⊕ String) × HpN} (C : CC X p l (RM 7 108 2412) s m args meth c RX8 cX8_acts 6 (some .int)) (hl0 : l.stackTraces = false) (htab : ∀ x ∈ c.exceptionTable.toList, False) : ∀ (d : Nat) (v0 : Nat) (v1 : Int32) (v2 : Int32) (v3 : Int32) (f : AH) (n cells slots : Nat) (_ : cells + (6 + d * 6) ≤ 108) (_ : slots + (134 + d * 134) ≤ 2412) (_ : mX8_acts_l28 d v0 v1 v2 v3 f n = some r), AW X p l e (RM 7 108 2412) s m args below meth c 6 (ZX X below args s 108 2412 (QTr (QHi) r) (QTx r)) f n cells slots 28 [some (.ref v0), some (.int v1), some (.int v2), some (.int v3), none, none] [] := by
  intro d
  induction d with
  | zero =>
    intro v0 v1 v2 v3 f n cells slots hc hs h
    exact nomatch (show (none : Option ((Int32 ⊕ String) × HpN)) = some r from h)
  | succ d ih =>
    intro v0 v1 v2 v3 f n cells slots hc hs h
    have h : (if (14 : Int32) < v3 then mX8_acts_b150 v0 v1 v2 f n else ((gR f v0 8 8).bind fun x1 => ((x1).bind fun j2 => ((gI f j2 4 0).bind fun x3 => (if x3 = (0 : Int32) then mX8_acts_b150 v0 v1 v2 f n else (if v2 = (-1 : Int32) then ((gR f v0 8 8).bind fun x4 => ((x4).bind fun j5 => ((gI f j5 4 1).bind fun x6 => (if (14 : Int32) ≤ v3 then mX8_acts_b76 (fun v0 v1 v2 v3 f n => mX8_acts_l28 d v0 v1 v2 v3 f n) v0 v1 v3 x6 x6 f n else ((gR f v0 8 8).bind fun x7 => ((x7).bind fun j8 => rCk (isO f j8 4) (((mX4_readAct j8 f n).bind fun r10 => mX8_acts_b76 (fun v0 v1 v2 v3 f n => mX8_acts_l28 d v0 v1 v2 v3 f n) v0 v1 v3 x6 r10.1 r10.2.1 r10.2.2)))))))) else mX8_acts_b150 v0 v1 v2 f n)))))) = some r := h
    refine aw_iload_n C dX8_acts_28 rfl ?_
    refine aw_bipush C 14 dX8_acts_29 kb_14 ?_
    refine aw_icmp_gt C 150 dX8_acts_31 (by decide) (fun q => ?_) (fun q => ?_)
    · rw [if_pos q] at h
      refine aw_fl [some (.ref v0), some (.int v1), some (.int v2), none, none, none] ⟨rfl, ⟨rfl, ⟨rfl, trivial⟩⟩⟩ ?_
      exact rmX8_acts_b150 C hl0 htab (by omega) (by omega) h
    · rw [if_neg q] at h
      refine aw_ald_n C dX8_acts_34 rfl ?_
      obtain ⟨x1, hx1, h⟩ := Option.bind_eq_some_iff.mp h
      refine ah_getR C gf_X8_55 hx1 dX8_acts_35 ?_
      obtain ⟨j2, hj2, h⟩ := Option.bind_eq_some_iff.mp h
      subst hj2
      obtain ⟨x3, hx3, h⟩ := Option.bind_eq_some_iff.mp h
      refine ah_getI C gf_X8_81 hx3 dX8_acts_38 ?_
      refine aw_if_eq C 150 dX8_acts_41 (by decide) (fun q => ?_) (fun q => ?_)
      · rw [if_pos q] at h
        refine aw_fl [some (.ref v0), some (.int v1), some (.int v2), none, none, none] ⟨rfl, ⟨rfl, ⟨rfl, trivial⟩⟩⟩ ?_
        exact rmX8_acts_b150 C hl0 htab (by omega) (by omega) h
      · rw [if_neg q] at h
        refine aw_iload_n C dX8_acts_44 rfl ?_
        refine aw_iconst C (-1) dX8_acts_45 ki_m1 ?_
        refine aw_icmp_ne C 150 dX8_acts_46 (by decide) (fun q => ?_) (fun q => ?_)
        · rw [if_neg q] at h
          refine aw_fl [some (.ref v0), some (.int v1), some (.int v2), none, none, none] ⟨rfl, ⟨rfl, ⟨rfl, trivial⟩⟩⟩ ?_
          exact rmX8_acts_b150 C hl0 htab (by omega) (by omega) h
        · rw [if_pos q] at h
          refine aw_ald_n C dX8_acts_49 rfl ?_
          obtain ⟨x4, hx4, h⟩ := Option.bind_eq_some_iff.mp h
          refine ah_getR C gf_X8_55 hx4 dX8_acts_50 ?_
          obtain ⟨j5, hj5, h⟩ := Option.bind_eq_some_iff.mp h
          subst hj5
          obtain ⟨x6, hx6, h⟩ := Option.bind_eq_some_iff.mp h
          refine ah_getI C gf_X8_85 hx6 dX8_acts_53 ?_
          refine aw_istore C dX8_acts_56 (by decide) rfl ?_
          refine aw_nl [some (.ref v0), some (.int v1), some (.int v2), some (.int v3), some (.int x6), none] rfl ?_
          refine aw_iload_n C dX8_acts_58 rfl ?_
          refine aw_bipush C 14 dX8_acts_59 kb_14 ?_
          refine aw_icmp_ge C 74 dX8_acts_61 (by decide) (fun q => ?_) (fun q => ?_)
          · rw [if_pos q] at h
            refine aw_iload C dX8_acts_74 rfl ?_
            refine aw_fl [some (.ref v0), some (.int v1), none, some (.int v3), some (.int x6), none] ⟨rfl, ⟨rfl, ⟨rfl, ⟨rfl, trivial⟩⟩⟩⟩ ?_
            exact rmX8_acts_b76 C hl0 htab (fun v0 v1 v2 v3 f n cells slots hc hs h => ih v0 v1 v2 v3 f n cells slots hc hs h) (by omega) (by omega) h
          · rw [if_neg q] at h
            refine aw_ald_n C dX8_acts_64 rfl ?_
            obtain ⟨x7, hx7, h⟩ := Option.bind_eq_some_iff.mp h
            refine ah_getR C gf_X8_55 hx7 dX8_acts_65 ?_
            obtain ⟨j8, hj8, h⟩ := Option.bind_eq_some_iff.mp h
            subst hj8
            obtain ⟨hb9, h⟩ := ck_some h
            obtain ⟨r10, hr10, h⟩ := Option.bind_eq_some_iff.mp h
            obtain ⟨fs11, hf11⟩ := isO_ex hb9
            refine aw_callV C (ci := 4) (b := j8) [] mv_X8_88 rfl rfl hf11 (rmX4_readAct hr10) rfl dX8_acts_68 (Nat.le_of_ble_eq_true rfl) (Nat.le_of_ble_eq_true rfl) rfl (Nat.le_of_ble_eq_true rfl) (show cells + 2 ≤ 108 by omega) (show slots + 10 ≤ 2412 by omega) (fun v9 f9 n9 hh => ?_)
            obtain ⟨rfl, rfl, rfl⟩ := hh
            refine aw_goto C 76 dX8_acts_71 (by decide) ?_
            refine aw_fl [some (.ref v0), some (.int v1), none, some (.int v3), some (.int x6), none] ⟨rfl, ⟨rfl, ⟨rfl, ⟨rfl, trivial⟩⟩⟩⟩ ?_
            exact rmX8_acts_b76 C hl0 htab (fun v0 v1 v2 v3 f n cells slots hc hs h => ih v0 v1 v2 v3 f n cells slots hc hs h) (by omega) (by omega) h
def mX8_acts (v0 : Nat) (f : AH) (n : Nat) : Option ((Int32 ⊕ String) × HpN) := ((gR f v0 8 2).bind fun x1 => ((gR f v0 8 1).bind fun x2 => ((x1).bind fun j3 => rCk (isO f j3 7) (((mX7_copyFrom j3 x2 f n).bind fun r5 => ((gR r5.2.1 v0 8 8).bind fun x7 => ((gR r5.2.1 v0 8 0).bind fun x8 => ((x7).bind fun j9 => rCk (isO r5.2.1 j9 4) (((mX4_start j9 x8 r5.2.1 r5.2.2).bind fun r11 => mX8_acts_l28 17 v0 (0 : Int32) (-1 : Int32) (0 : Int32) r11.2.1 r11.2.2))))))))))
set_option maxHeartbeats 1000000 in
theorem rmX8_acts {X : GX} {l : Launch} {r : (Int32 ⊕ String) × HpN} {v0 : Nat} {f : AH} {n : Nat} (hl0 : l.stackTraces = false) (h : mX8_acts v0 f n = some r) : AX X l yX8_acts cX8_acts 6 (some .int) 7 108 2412 [.ref v0] f n (QTr (QHi) r) (QTx r) := by
  have h : ((gR f v0 8 2).bind fun x1 => ((gR f v0 8 1).bind fun x2 => ((x1).bind fun j3 => rCk (isO f j3 7) (((mX7_copyFrom j3 x2 f n).bind fun r5 => ((gR r5.2.1 v0 8 8).bind fun x7 => ((gR r5.2.1 v0 8 0).bind fun x8 => ((x7).bind fun j9 => rCk (isO r5.2.1 j9 4) (((mX4_start j9 x8 r5.2.1 r5.2.2).bind fun r11 => mX8_acts_l28 17 v0 (0 : Int32) (-1 : Int32) (0 : Int32) r11.2.1 r11.2.2)))))))))) = some r := h
  refine AX.of (by decide +kernel) rfl (Nat.le_of_ble_eq_true rfl) (fun p e s m args below meth c C htab => ?_)
  refine aw_nl [some (.ref v0), none, none, none, none, none] rfl ?_
  refine aw_ald_n C dX8_acts_0 rfl ?_
  obtain ⟨x1, hx1, h⟩ := Option.bind_eq_some_iff.mp h
  refine ah_getR C gf_X8_25 hx1 dX8_acts_1 ?_
  refine aw_ald_n C dX8_acts_4 rfl ?_
  obtain ⟨x2, hx2, h⟩ := Option.bind_eq_some_iff.mp h
  refine ah_getR C gf_X8_21 hx2 dX8_acts_5 ?_
  obtain ⟨j3, hj3, h⟩ := Option.bind_eq_some_iff.mp h
  subst hj3
  obtain ⟨hb4, h⟩ := ck_some h
  obtain ⟨r5, hr5, h⟩ := Option.bind_eq_some_iff.mp h
  obtain ⟨fs6, hf6⟩ := isO_ex hb4
  refine aw_callV C (ci := 7) (b := j3) [va_rf x2] mv_X8_73 rfl rfl hf6 (rmX7_copyFrom hr5) rfl dX8_acts_8 (Nat.le_of_ble_eq_true rfl) (Nat.le_of_ble_eq_true rfl) rfl (Nat.le_of_ble_eq_true rfl) (show 0 + 0 ≤ 108 by omega) (show 0 + 0 ≤ 2412 by omega) (fun v9 f9 n9 hh => ?_)
  obtain ⟨rfl, rfl, rfl⟩ := hh
  refine aw_ald_n C dX8_acts_11 rfl ?_
  obtain ⟨x7, hx7, h⟩ := Option.bind_eq_some_iff.mp h
  refine ah_getR C gf_X8_55 hx7 dX8_acts_12 ?_
  refine aw_ald_n C dX8_acts_15 rfl ?_
  obtain ⟨x8, hx8, h⟩ := Option.bind_eq_some_iff.mp h
  refine ah_getR C gf_X8_14 hx8 dX8_acts_16 ?_
  obtain ⟨j9, hj9, h⟩ := Option.bind_eq_some_iff.mp h
  subst hj9
  obtain ⟨hb10, h⟩ := ck_some h
  obtain ⟨r11, hr11, h⟩ := Option.bind_eq_some_iff.mp h
  obtain ⟨fs12, hf12⟩ := isO_ex hb10
  refine aw_callV C (ci := 4) (b := j9) [va_rf x8] mv_X8_77 rfl rfl hf12 (rmX4_start hr11) rfl dX8_acts_19 (Nat.le_of_ble_eq_true rfl) (Nat.le_of_ble_eq_true rfl) rfl (Nat.le_of_ble_eq_true rfl) (show (0 + 0) + 0 ≤ 108 by omega) (show (0 + 0) + 0 ≤ 2412 by omega) (fun v9 f9 n9 hh => ?_)
  obtain ⟨rfl, rfl, rfl⟩ := hh
  refine aw_iconst C 0 dX8_acts_22 ki_0 ?_
  refine aw_istore_n C dX8_acts_23 (by decide) rfl ?_
  refine aw_nl [some (.ref v0), some (.int (0 : Int32)), none, none, none, none] rfl ?_
  refine aw_iconst C (-1) dX8_acts_24 ki_m1 ?_
  refine aw_istore_n C dX8_acts_25 (by decide) rfl ?_
  refine aw_nl [some (.ref v0), some (.int (0 : Int32)), some (.int (-1 : Int32)), none, none, none] rfl ?_
  refine aw_iconst C 0 dX8_acts_26 ki_0 ?_
  refine aw_istore_n C dX8_acts_27 (by decide) rfl ?_
  refine aw_nl [some (.ref v0), some (.int (0 : Int32)), some (.int (-1 : Int32)), some (.int (0 : Int32)), none, none] rfl ?_
  refine aw_fl [some (.ref v0), some (.int (0 : Int32)), some (.int (-1 : Int32)), some (.int (0 : Int32)), none, none] ⟨rfl, ⟨rfl, ⟨rfl, ⟨rfl, trivial⟩⟩⟩⟩ ?_
  exact rmX8_acts_l28 C hl0 htab 17 v0 (0 : Int32) (-1 : Int32) (0 : Int32) r11.2.1 r11.2.2 _ _ (by omega) (by omega) h
def mX8_kind_b50 (v0 : Nat) (v1 : Int32) (s0 : Nat) (s1 : Nat) (s2 : Int32) (f : AH) (n : Nat) : Option ((Int32 ⊕ String) × HpN) := rCk (isO f s1 8) (((mX8_doAct s1 s2 v1 (0 : Int32) (none : Option Nat) f n).bind fun r2 => rCk (isO r2.2.1 s0 8) (((mX8_finishCall s0 r2.1 r2.2.1 r2.2.2).bind fun r5 => (tS r5.1 r5.2 (fun y5 => ((gR r5.2.1 v0 8 5).bind fun x7 => ((x7).bind fun j8 => rCk (isO r5.2.1 j8 1) (((mX1_size j8 r5.2.1 r5.2.2).bind fun r10 => some (.inl r10.1, (r10.2.1, r10.2.2))))))))))))
set_option maxHeartbeats 1000000 in
theorem rmX8_kind_b50 {X : GX} {p : Program} {l : Launch} {e : Env} {s : State} {m : MethodId} {args : Array Value} {below : List Frame} {meth : Method} {c : Code} {r : (Int32 ⊕ String) × HpN} {v0 : Nat} {v1 : Int32} {s0 : Nat} {s1 : Nat} {s2 : Int32} {f : AH} {n cells slots : Nat} (C : CC X p l (RM 7 5 130) s m args meth c RX8 cX8_kind 3 (some .int)) (hl0 : l.stackTraces = false) (htab : ∀ x ∈ c.exceptionTable.toList, False) (hc : cells + 5 ≤ 5) (hs : slots + 130 ≤ 130) (h : mX8_kind_b50 v0 v1 s0 s1 s2 f n = some r) : AW X p l e (RM 7 5 130) s m args below meth c 3 (ZX X below args s 5 130 (QTr (QHi) r) (QTx r)) f n cells slots 50 [some (.ref v0), some (.int v1), none] [.int s2, .ref s1, .ref s0] := by
  have h : rCk (isO f s1 8) (((mX8_doAct s1 s2 v1 (0 : Int32) (none : Option Nat) f n).bind fun r2 => rCk (isO r2.2.1 s0 8) (((mX8_finishCall s0 r2.1 r2.2.1 r2.2.2).bind fun r5 => (tS r5.1 r5.2 (fun y5 => ((gR r5.2.1 v0 8 5).bind fun x7 => ((x7).bind fun j8 => rCk (isO r5.2.1 j8 1) (((mX1_size j8 r5.2.1 r5.2.2).bind fun r10 => some (.inl r10.1, (r10.2.1, r10.2.2)))))))))))) = some r := h
  refine aw_iload_n C dX8_kind_50 rfl ?_
  refine aw_iconst C 0 dX8_kind_51 ki_0 ?_
  refine aw_null C dX8_kind_52 ?_
  obtain ⟨hb1, h⟩ := ck_some h
  obtain ⟨r2, hr2, h⟩ := Option.bind_eq_some_iff.mp h
  obtain ⟨fs3, hf3⟩ := isO_ex hb1
  refine aw_callV C (ci := 8) (b := s1) [.int s2, .int v1, .int (0 : Int32), .null] mv_X8_103 rfl rfl hf3 (rmX8_doAct hr2) rfl dX8_kind_53 (Nat.le_of_ble_eq_true rfl) (Nat.le_of_ble_eq_true rfl) rfl (Nat.le_of_ble_eq_true rfl) (show cells + 4 ≤ 5 by omega) (show slots + 124 ≤ 130 by omega) (fun v9 f9 n9 hh => ?_)
  obtain ⟨rfl, rfl, rfl⟩ := hh
  obtain ⟨hb4, h⟩ := ck_some h
  obtain ⟨r5, hr5, h⟩ := Option.bind_eq_some_iff.mp h
  obtain ⟨fs6, hf6⟩ := isO_ex hb4
  refine ax_callV C (ci := 8) (b := s0) [.int r2.1] mv_X8_139 rfl rfl hf6 (rmX8_finishCall hl0 hr5) rfl dX8_kind_56 (Nat.le_of_ble_eq_true rfl) (Nat.le_of_ble_eq_true rfl) rfl (Nat.le_of_ble_eq_true rfl) (show (cells + 4) + 1 ≤ 5 by omega) (show (slots + 124) + 6 ≤ 130 by omega) (fun E9 f9 n9 hq => ?_) (fun v9 f9 n9 hq => ?_)
  · obtain ⟨e1, e2, e3⟩ := hq
    rw [tS_r e1] at h
    cases h
    exact at_out C htab ⟨rfl, e2, e3⟩ (by omega) (by omega)
  obtain ⟨y5, e5, rfl, rfl, rfl⟩ := hq
  rw [tS_l e5] at h
  replace h : ((gR r5.2.1 v0 8 5).bind fun x7 => ((x7).bind fun j8 => rCk (isO r5.2.1 j8 1) (((mX1_size j8 r5.2.1 r5.2.2).bind fun r10 => some (.inl r10.1, (r10.2.1, r10.2.2)))))) = some r := h
  refine aw_ald_n C dX8_kind_59 rfl ?_
  obtain ⟨x7, hx7, h⟩ := Option.bind_eq_some_iff.mp h
  refine ah_getR C gf_X8_38 hx7 dX8_kind_60 ?_
  obtain ⟨j8, hj8, h⟩ := Option.bind_eq_some_iff.mp h
  subst hj8
  obtain ⟨hb9, h⟩ := ck_some h
  obtain ⟨r10, hr10, h⟩ := Option.bind_eq_some_iff.mp h
  obtain ⟨fs11, hf11⟩ := isO_ex hb9
  refine aw_callV C (ci := 1) (b := j8) [] mv_X8_136 rfl rfl hf11 (rmX1_size hr10) rfl dX8_kind_63 (Nat.le_of_ble_eq_true rfl) (Nat.le_of_ble_eq_true rfl) rfl (Nat.le_of_ble_eq_true rfl) (show ((cells + 4) + 1) + 0 ≤ 5 by omega) (show ((slots + 124) + 6) + 0 ≤ 130 by omega) (fun v9 f9 n9 hh => ?_)
  obtain ⟨rfl, rfl, rfl⟩ := hh
  cases h
  exact ax_of (aw_iret C rfl rfl dX8_kind_66 (by omega) (by omega) ⟨_, rfl, rfl, rfl, rfl⟩)
def mX8_kind_b18 (f : AH) (n : Nat) : Option ((Int32 ⊕ String) × HpN) := some (.inr eA, (f, n))
set_option maxHeartbeats 1000000 in
theorem rmX8_kind_b18 {X : GX} {p : Program} {l : Launch} {e : Env} {s : State} {m : MethodId} {args : Array Value} {below : List Frame} {meth : Method} {c : Code} {r : (Int32 ⊕ String) × HpN} {f : AH} {n cells slots : Nat} (C : CC X p l (RM 7 5 130) s m args meth c RX8 cX8_kind 3 (some .int)) (hl0 : l.stackTraces = false) (htab : ∀ x ∈ c.exceptionTable.toList, False) (hc : cells + 1 ≤ 5) (hs : slots + 6 ≤ 130) (h : mX8_kind_b18 f n = some r) : AW X p l e (RM 7 5 130) s m args below meth c 3 (ZX X below args s 5 130 (QTr (QHi) r) (QTx r)) f n cells slots 18 [none, none, none] [] := by
  have h : some (.inr eA, (f, n)) = some r := h
  cases h
  exact ax_throw C htab hl0 th_eA sx_137 dX8_kind_18 dX8_kind_21 dX8_kind_22 dX8_kind_24 dX8_kind_27 (Nat.le_of_ble_eq_true rfl) (Nat.le_of_ble_eq_true rfl) (show cells + 1 ≤ 5 by omega) (show slots + 6 ≤ 130 by omega) (by omega) (by omega) (fun n9 h9 => ⟨rfl, rfl, h9⟩)
def mX8_kind_b15 (v0 : Nat) (v1 : Int32) (v2 : Int32) (s0 : Int32) (s1 : Int32) (f : AH) (n : Nat) : Option ((Int32 ⊕ String) × HpN) := (if s1 ≤ s0 then ((gR f v0 8 2).bind fun x1 => ((gR f v0 8 1).bind fun x2 => ((x1).bind fun j3 => rCk (isO f j3 7) (((mX7_copyFrom j3 x2 f n).bind fun r5 => (if v2 = (0 : Int32) then mX8_kind_b50 v0 v1 v0 v0 (0 : Int32) r5.2.1 r5.2.2 else mX8_kind_b50 v0 v1 v0 v0 (1 : Int32) r5.2.1 r5.2.2)))))) else mX8_kind_b18 f n)
set_option maxHeartbeats 1000000 in
theorem rmX8_kind_b15 {X : GX} {p : Program} {l : Launch} {e : Env} {s : State} {m : MethodId} {args : Array Value} {below : List Frame} {meth : Method} {c : Code} {r : (Int32 ⊕ String) × HpN} {v0 : Nat} {v1 : Int32} {v2 : Int32} {s0 : Int32} {s1 : Int32} {f : AH} {n cells slots : Nat} (C : CC X p l (RM 7 5 130) s m args meth c RX8 cX8_kind 3 (some .int)) (hl0 : l.stackTraces = false) (htab : ∀ x ∈ c.exceptionTable.toList, False) (hc : cells + 5 ≤ 5) (hs : slots + 130 ≤ 130) (h : mX8_kind_b15 v0 v1 v2 s0 s1 f n = some r) : AW X p l e (RM 7 5 130) s m args below meth c 3 (ZX X below args s 5 130 (QTr (QHi) r) (QTx r)) f n cells slots 15 [some (.ref v0), some (.int v1), some (.int v2)] [.int s1, .int s0] := by
  have h : (if s1 ≤ s0 then ((gR f v0 8 2).bind fun x1 => ((gR f v0 8 1).bind fun x2 => ((x1).bind fun j3 => rCk (isO f j3 7) (((mX7_copyFrom j3 x2 f n).bind fun r5 => (if v2 = (0 : Int32) then mX8_kind_b50 v0 v1 v0 v0 (0 : Int32) r5.2.1 r5.2.2 else mX8_kind_b50 v0 v1 v0 v0 (1 : Int32) r5.2.1 r5.2.2)))))) else mX8_kind_b18 f n) = some r := h
  refine aw_icmp_ge C 28 dX8_kind_15 (by decide) (fun q => ?_) (fun q => ?_)
  · rw [if_pos q] at h
    refine aw_ald_n C dX8_kind_28 rfl ?_
    obtain ⟨x1, hx1, h⟩ := Option.bind_eq_some_iff.mp h
    refine ah_getR C gf_X8_25 hx1 dX8_kind_29 ?_
    refine aw_ald_n C dX8_kind_32 rfl ?_
    obtain ⟨x2, hx2, h⟩ := Option.bind_eq_some_iff.mp h
    refine ah_getR C gf_X8_21 hx2 dX8_kind_33 ?_
    obtain ⟨j3, hj3, h⟩ := Option.bind_eq_some_iff.mp h
    subst hj3
    obtain ⟨hb4, h⟩ := ck_some h
    obtain ⟨r5, hr5, h⟩ := Option.bind_eq_some_iff.mp h
    obtain ⟨fs6, hf6⟩ := isO_ex hb4
    refine aw_callV C (ci := 7) (b := j3) [va_rf x2] mv_X8_73 rfl rfl hf6 (rmX7_copyFrom hr5) rfl dX8_kind_36 (Nat.le_of_ble_eq_true rfl) (Nat.le_of_ble_eq_true rfl) rfl (Nat.le_of_ble_eq_true rfl) (show cells + 0 ≤ 5 by omega) (show slots + 0 ≤ 130 by omega) (fun v9 f9 n9 hh => ?_)
    obtain ⟨rfl, rfl, rfl⟩ := hh
    refine aw_ald_n C dX8_kind_39 rfl ?_
    refine aw_ald_n C dX8_kind_40 rfl ?_
    refine aw_iload_n C dX8_kind_41 rfl ?_
    refine aw_if_eq C 49 dX8_kind_42 (by decide) (fun q => ?_) (fun q => ?_)
    · rw [if_pos q] at h
      refine aw_iconst C 0 dX8_kind_49 ki_0 ?_
      refine aw_fl [some (.ref v0), some (.int v1), none] ⟨rfl, ⟨rfl, trivial⟩⟩ ?_
      exact rmX8_kind_b50 C hl0 htab (by omega) (by omega) h
    · rw [if_neg q] at h
      refine aw_iconst C 1 dX8_kind_45 ki_1 ?_
      refine aw_goto C 50 dX8_kind_46 (by decide) ?_
      refine aw_fl [some (.ref v0), some (.int v1), none] ⟨rfl, ⟨rfl, trivial⟩⟩ ?_
      exact rmX8_kind_b50 C hl0 htab (by omega) (by omega) h
  · rw [if_neg q] at h
    refine aw_fl [none, none, none] trivial ?_
    exact rmX8_kind_b18 C hl0 htab (by omega) (by omega) h
def mX8_kind (v0 : Nat) (v1 : Int32) (v2 : Int32) (f : AH) (n : Nat) : Option ((Int32 ⊕ String) × HpN) := (if (3 : Int32) < v1 then mX8_kind_b18 f n else (if v2 = (0 : Int32) then mX8_kind_b15 v0 v1 v2 v1 (0 : Int32) f n else mX8_kind_b15 v0 v1 v2 v1 (-1 : Int32) f n))
set_option maxHeartbeats 1000000 in
theorem rmX8_kind {X : GX} {l : Launch} {r : (Int32 ⊕ String) × HpN} {v0 : Nat} {v1 : Int32} {v2 : Int32} {f : AH} {n : Nat} (hl0 : l.stackTraces = false) (h : mX8_kind v0 v1 v2 f n = some r) : AX X l yX8_kind cX8_kind 3 (some .int) 7 5 130 [.ref v0, .int v1, .int v2] f n (QTr (QHi) r) (QTx r) := by
  have h : (if (3 : Int32) < v1 then mX8_kind_b18 f n else (if v2 = (0 : Int32) then mX8_kind_b15 v0 v1 v2 v1 (0 : Int32) f n else mX8_kind_b15 v0 v1 v2 v1 (-1 : Int32) f n)) = some r := h
  refine AX.of (by decide +kernel) rfl (Nat.le_of_ble_eq_true rfl) (fun p e s m args below meth c C htab => ?_)
  refine aw_nl [some (.ref v0), some (.int v1), some (.int v2)] rfl ?_
  refine aw_iload_n C dX8_kind_0 rfl ?_
  refine aw_iconst C 3 dX8_kind_1 ki_3 ?_
  refine aw_icmp_gt C 18 dX8_kind_2 (by decide) (fun q => ?_) (fun q => ?_)
  · rw [if_pos q] at h
    refine aw_fl [none, none, none] trivial ?_
    exact rmX8_kind_b18 C hl0 htab (by omega) (by omega) h
  · rw [if_neg q] at h
    refine aw_iload_n C dX8_kind_5 rfl ?_
    refine aw_iload_n C dX8_kind_6 rfl ?_
    refine aw_if_eq C 14 dX8_kind_7 (by decide) (fun q => ?_) (fun q => ?_)
    · rw [if_pos q] at h
      refine aw_iconst C 0 dX8_kind_14 ki_0 ?_
      refine aw_fl [some (.ref v0), some (.int v1), some (.int v2)] ⟨rfl, ⟨rfl, ⟨rfl, trivial⟩⟩⟩ ?_
      exact rmX8_kind_b15 C hl0 htab (by omega) (by omega) h
    · rw [if_neg q] at h
      refine aw_iconst C (-1) dX8_kind_10 ki_m1 ?_
      refine aw_goto C 15 dX8_kind_11 (by decide) ?_
      refine aw_fl [some (.ref v0), some (.int v1), some (.int v2)] ⟨rfl, ⟨rfl, ⟨rfl, trivial⟩⟩⟩ ?_
      exact rmX8_kind_b15 C hl0 htab (by omega) (by omega) h
