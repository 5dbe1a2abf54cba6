/-! part 22cf.ref -/
section
def mX9_act_b265 (v2 : Int32) (σ : RS9) : Option (Int32 × RS9) := some (v2, σ)
set_option maxHeartbeats 1000000 in
theorem rmX9_act_b265 {X : GX} {p : Program} {l : Launch} {e : Env} {s : State} {m : MethodId} {args : Array Value} {below : List Frame} {meth : Method} {c : Code} {f : AH} {n : Nat} {r : Int32 × RS9} {v2 : Int32} {σ : RS9} (C : CC X p l (RM 12 0 0) s m args meth c RX9 cX9_act 3 (some .int)) (h : mX9_act_b265 v2 σ = some r) : AW X p l e (RM 12 0 0) s m args below meth c 3 (ZM X below args s 0 0 (QMi f n r)) (rHm f σ) n 0 0 265 [none, none, some (.int v2)] [] := by
  have h : some (v2, σ) = some r := h
  refine aw_iload_n C dX9_act_265 rfl ?_
  cases h
  exact aw_iret C rfl rfl dX9_act_266 (Nat.le_refl _) (Nat.le_refl _) ⟨rfl, rfl, rfl⟩
def mX9_act_b246 (v1 : Int32) (v2 : Int32) (σ : RS9) : Option (Int32 × RS9) := (if (σ.1 12) = (-1 : Int32) then (if v2 ≤ (0 : Int32) then mX9_act_b265 v2 σ else ((mX9_wrong v1 σ).bind fun r1 => mX9_act_b265 v2 r1.2)) else some ((0 : Int32), σ))
set_option maxHeartbeats 1000000 in
theorem rmX9_act_b246 {X : GX} {p : Program} {l : Launch} {e : Env} {s : State} {m : MethodId} {args : Array Value} {below : List Frame} {meth : Method} {c : Code} {f : AH} {n : Nat} {r : Int32 × RS9} {v1 : Int32} {v2 : Int32} {σ : RS9} (C : CC X p l (RM 12 0 0) s m args meth c RX9 cX9_act 3 (some .int)) (h : mX9_act_b246 v1 v2 σ = some r) : AW X p l e (RM 12 0 0) s m args below meth c 3 (ZM X below args s 0 0 (QMi f n r)) (rHm f σ) n 0 0 246 [some (.ref 181), some (.int v1), some (.int v2)] [] := by
  have h : (if (σ.1 12) = (-1 : Int32) then (if v2 ≤ (0 : Int32) then mX9_act_b265 v2 σ else ((mX9_wrong v1 σ).bind fun r1 => mX9_act_b265 v2 r1.2)) else some ((0 : Int32), σ)) = some r := h
  refine aw_ald_n C dX9_act_246 rfl ?_
  refine aw_get C (v := .int (σ.1 12)) gf_X9_26 (hm_M f σ) rfl dX9_act_247 ?_
  refine aw_iconst C (-1) dX9_act_250 ki_m1 ?_
  refine aw_icmp_eq C 256 dX9_act_251 (by decide) (fun q => ?_) (fun q => ?_)
  · rw [if_pos q] at h
    refine aw_iload_n C dX9_act_256 rfl ?_
    refine aw_if_le C 265 dX9_act_257 (by decide) (fun q => ?_) (fun q => ?_)
    · rw [if_pos q] at h
      refine aw_fl [none, none, some (.int v2)] ⟨rfl, trivial⟩ ?_
      exact rmX9_act_b265 C h
    · rw [if_neg q] at h
      refine aw_ald_n C dX9_act_260 rfl ?_
      refine aw_iload_n C dX9_act_261 rfl ?_
      obtain ⟨r1, h1, h⟩ := Option.bind_eq_some_iff.mp h
      refine aw_callV C (ci := 9) (b := 181) [.int v1] mv_X9_352 rfl rfl (hm_M f σ) (rmX9_wrong h1) rfl dX9_act_262 (Nat.le_of_ble_eq_true rfl) (Nat.le_of_ble_eq_true rfl) rfl (Nat.le_of_ble_eq_true rfl) (Nat.le_of_ble_eq_true rfl) (Nat.le_of_ble_eq_true rfl) (fun v9 f9 n9 hh => ?_)
      obtain ⟨rfl, rfl, rfl⟩ := hh
      refine aw_fl [none, none, some (.int v2)] ⟨rfl, trivial⟩ ?_
      exact rmX9_act_b265 C h
  · rw [if_neg q] at h
    refine aw_iconst C 0 dX9_act_254 ki_0 ?_
    cases h
    exact aw_iret C rfl rfl dX9_act_255 (Nat.le_refl _) (Nat.le_refl _) ⟨rfl, rfl, rfl⟩
def mX9_act (σ : RS9) : Option (Int32 × RS9) := ((mX9_here σ).bind fun r1 => ((mX9_has 3 r1.2).bind fun r2 => (if r2.1 = (0 : Int32) then ((mX9_has 4 r2.2).bind fun r3 => (if r3.1 = (0 : Int32) then ((mX9_has 5 r3.2).bind fun r4 => (if r4.1 = (0 : Int32) then ((mX9_has 6 r4.2).bind fun r5 => (if r5.1 = (0 : Int32) then ((mX9_has 7 r5.2).bind fun r6 => (if r6.1 = (0 : Int32) then ((mX9_has 8 r6.2).bind fun r7 => (if r7.1 = (0 : Int32) then ((mX9_has 9 r7.2).bind fun r8 => (if r8.1 = (0 : Int32) then ((mX9_has 10 r8.2).bind fun r9 => (if r9.1 = (0 : Int32) then ((mX9_has 11 r9.2).bind fun r10 => (if r10.1 = (0 : Int32) then ((mX9_has 12 r10.2).bind fun r11 => (if r11.1 = (0 : Int32) then ((mX9_has 13 r11.2).bind fun r12 => (if r12.1 = (0 : Int32) then ((mX9_has 14 r12.2).bind fun r13 => (if r13.1 = (0 : Int32) then ((mX9_wrong r1.1 r13.2).bind fun r14 => mX9_act_b246 r1.1 (0 : Int32) r14.2) else ((mX9_wipe0 r13.2).bind fun r15 => mX9_act_b246 r1.1 r15.1 r15.2))) else ((mX9_swapText r12.2).bind fun r16 => mX9_act_b246 r1.1 r16.1 r16.2))) else ((mX9_pieceText (0 : Int32) r11.2).bind fun r17 => mX9_act_b246 r1.1 r17.1 r17.2))) else ((mX9_pieceText (1 : Int32) r10.2).bind fun r18 => mX9_act_b246 r1.1 r18.1 r18.2))) else ((mX9_unlocks r9.2).bind fun r19 => mX9_act_b246 r1.1 r19.1 r19.2))) else ((mX9_lockText r8.2).bind fun r20 => mX9_act_b246 r1.1 r20.1 r20.2))) else ((mX9_ruleText (4 : Int32) (1 : Int32) (40 : Int32) r7.2).bind fun r21 => mX9_act_b246 r1.1 r21.1 r21.2))) else ((mX9_rules (3 : Int32) (0 : Int32) r6.2).bind fun r22 => mX9_act_b246 r1.1 r22.1 r22.2))) else ((mX9_rules (3 : Int32) (1 : Int32) r5.2).bind fun r23 => mX9_act_b246 r1.1 r23.1 r23.2))) else ((mX9_rules (2 : Int32) (-1 : Int32) r4.2).bind fun r24 => mX9_act_b246 r1.1 r24.1 r24.2))) else ((mX9_ruleText (2 : Int32) (0 : Int32) (3 : Int32) r3.2).bind fun r25 => mX9_act_b246 r1.1 r25.1 r25.2))) else ((mX9_ruleText (1 : Int32) (0 : Int32) (3 : Int32) r2.2).bind fun r26 => mX9_act_b246 r1.1 r26.1 r26.2))))
set_option maxHeartbeats 1000000 in
theorem rmX9_act {X : GX} {l : Launch} {f : AH} {n : Nat} {r : Int32 × RS9} {σ : RS9} (h : mX9_act σ = some r) : AM X l yX9_act cX9_act 3 (some .int) 12 0 0 [.ref 181] (rHm f σ) n (QMi f n r) := by
  have h : ((mX9_here σ).bind fun r1 => ((mX9_has 3 r1.2).bind fun r2 => (if r2.1 = (0 : Int32) then ((mX9_has 4 r2.2).bind fun r3 => (if r3.1 = (0 : Int32) then ((mX9_has 5 r3.2).bind fun r4 => (if r4.1 = (0 : Int32) then ((mX9_has 6 r4.2).bind fun r5 => (if r5.1 = (0 : Int32) then ((mX9_has 7 r5.2).bind fun r6 => (if r6.1 = (0 : Int32) then ((mX9_has 8 r6.2).bind fun r7 => (if r7.1 = (0 : Int32) then ((mX9_has 9 r7.2).bind fun r8 => (if r8.1 = (0 : Int32) then ((mX9_has 10 r8.2).bind fun r9 => (if r9.1 = (0 : Int32) then ((mX9_has 11 r9.2).bind fun r10 => (if r10.1 = (0 : Int32) then ((mX9_has 12 r10.2).bind fun r11 => (if r11.1 = (0 : Int32) then ((mX9_has 13 r11.2).bind fun r12 => (if r12.1 = (0 : Int32) then ((mX9_has 14 r12.2).bind fun r13 => (if r13.1 = (0 : Int32) then ((mX9_wrong r1.1 r13.2).bind fun r14 => mX9_act_b246 r1.1 (0 : Int32) r14.2) else ((mX9_wipe0 r13.2).bind fun r15 => mX9_act_b246 r1.1 r15.1 r15.2))) else ((mX9_swapText r12.2).bind fun r16 => mX9_act_b246 r1.1 r16.1 r16.2))) else ((mX9_pieceText (0 : Int32) r11.2).bind fun r17 => mX9_act_b246 r1.1 r17.1 r17.2))) else ((mX9_pieceText (1 : Int32) r10.2).bind fun r18 => mX9_act_b246 r1.1 r18.1 r18.2))) else ((mX9_unlocks r9.2).bind fun r19 => mX9_act_b246 r1.1 r19.1 r19.2))) else ((mX9_lockText r8.2).bind fun r20 => mX9_act_b246 r1.1 r20.1 r20.2))) else ((mX9_ruleText (4 : Int32) (1 : Int32) (40 : Int32) r7.2).bind fun r21 => mX9_act_b246 r1.1 r21.1 r21.2))) else ((mX9_rules (3 : Int32) (0 : Int32) r6.2).bind fun r22 => mX9_act_b246 r1.1 r22.1 r22.2))) else ((mX9_rules (3 : Int32) (1 : Int32) r5.2).bind fun r23 => mX9_act_b246 r1.1 r23.1 r23.2))) else ((mX9_rules (2 : Int32) (-1 : Int32) r4.2).bind fun r24 => mX9_act_b246 r1.1 r24.1 r24.2))) else ((mX9_ruleText (2 : Int32) (0 : Int32) (3 : Int32) r3.2).bind fun r25 => mX9_act_b246 r1.1 r25.1 r25.2))) else ((mX9_ruleText (1 : Int32) (0 : Int32) (3 : Int32) r2.2).bind fun r26 => mX9_act_b246 r1.1 r26.1 r26.2)))) = some r := h
  refine AM.of (by decide +kernel) rfl (Nat.le_of_ble_eq_true rfl) (fun p e s m args below meth c C _ => ?_)
  refine aw_nl [some (.ref 181), none, none] rfl ?_
  refine aw_ald_n C dX9_act_0 rfl ?_
  obtain ⟨r1, h1, h⟩ := Option.bind_eq_some_iff.mp h
  refine aw_callV C (ci := 9) (b := 181) [] mv_X9_346 rfl rfl (hm_M f σ) (rmX9_here h1) rfl dX9_act_1 (Nat.le_of_ble_eq_true rfl) (Nat.le_of_ble_eq_true rfl) rfl (Nat.le_of_ble_eq_true rfl) (Nat.le_of_ble_eq_true rfl) (Nat.le_of_ble_eq_true rfl) (fun v9 f9 n9 hh => ?_)
  obtain ⟨rfl, rfl, rfl⟩ := hh
  refine aw_istore_n C dX9_act_4 (by decide) rfl ?_
  refine aw_nl [some (.ref 181), some (.int r1.1), none] rfl ?_
  refine aw_iconst C 0 dX9_act_5 ki_0 ?_
  refine aw_istore_n C dX9_act_6 (by decide) rfl ?_
  refine aw_nl [some (.ref 181), some (.int r1.1), some (.int (0 : Int32))] rfl ?_
  refine aw_ald_n C dX9_act_7 rfl ?_
  refine aw_ldcwK C (C.2.2.2.2.2.2.1.2.2.2.2.2.2.2.2.1.2 3 (by decide)) dX9_act_8 ?_
  obtain ⟨r2, h2, h⟩ := Option.bind_eq_some_iff.mp h
  refine aw_callV C (ci := 9) (b := 181) [.retAddr (X.2.2 (1000 + 3))] mv_X9_375 rfl rfl (hm_M f r1.2) (rmX9_has (by decide) h2) rfl dX9_act_11 (Nat.le_of_ble_eq_true rfl) (Nat.le_of_ble_eq_true rfl) rfl (Nat.le_of_ble_eq_true rfl) (Nat.le_of_ble_eq_true rfl) (Nat.le_of_ble_eq_true rfl) (fun v9 f9 n9 hh => ?_)
  obtain ⟨rfl, rfl, rfl⟩ := hh
  refine aw_if_eq C 28 dX9_act_14 (by decide) (fun q => ?_) (fun q => ?_)
  · rw [if_pos q] at h
    refine aw_ald_n C dX9_act_28 rfl ?_
    refine aw_ldcwK C (C.2.2.2.2.2.2.1.2.2.2.2.2.2.2.2.1.2 4 (by decide)) dX9_act_29 ?_
    obtain ⟨r3, h3, h⟩ := Option.bind_eq_some_iff.mp h
    refine aw_callV C (ci := 9) (b := 181) [.retAddr (X.2.2 (1000 + 4))] mv_X9_375 rfl rfl (hm_M f r2.2) (rmX9_has (by decide) h3) rfl dX9_act_32 (Nat.le_of_ble_eq_true rfl) (Nat.le_of_ble_eq_true rfl) rfl (Nat.le_of_ble_eq_true rfl) (Nat.le_of_ble_eq_true rfl) (Nat.le_of_ble_eq_true rfl) (fun v9 f9 n9 hh => ?_)
    obtain ⟨rfl, rfl, rfl⟩ := hh
    refine aw_if_eq C 49 dX9_act_35 (by decide) (fun q => ?_) (fun q => ?_)
    · rw [if_pos q] at h
      refine aw_ald_n C dX9_act_49 rfl ?_
      refine aw_ldcwK C (C.2.2.2.2.2.2.1.2.2.2.2.2.2.2.2.1.2 5 (by decide)) dX9_act_50 ?_
      obtain ⟨r4, h4, h⟩ := Option.bind_eq_some_iff.mp h
      refine aw_callV C (ci := 9) (b := 181) [.retAddr (X.2.2 (1000 + 5))] mv_X9_375 rfl rfl (hm_M f r3.2) (rmX9_has (by decide) h4) rfl dX9_act_53 (Nat.le_of_ble_eq_true rfl) (Nat.le_of_ble_eq_true rfl) rfl (Nat.le_of_ble_eq_true rfl) (Nat.le_of_ble_eq_true rfl) (Nat.le_of_ble_eq_true rfl) (fun v9 f9 n9 hh => ?_)
      obtain ⟨rfl, rfl, rfl⟩ := hh
      refine aw_if_eq C 69 dX9_act_56 (by decide) (fun q => ?_) (fun q => ?_)
      · rw [if_pos q] at h
        refine aw_ald_n C dX9_act_69 rfl ?_
        refine aw_ldcwK C (C.2.2.2.2.2.2.1.2.2.2.2.2.2.2.2.1.2 6 (by decide)) dX9_act_70 ?_
        obtain ⟨r5, h5, h⟩ := Option.bind_eq_some_iff.mp h
        refine aw_callV C (ci := 9) (b := 181) [.retAddr (X.2.2 (1000 + 6))] mv_X9_375 rfl rfl (hm_M f r4.2) (rmX9_has (by decide) h5) rfl dX9_act_73 (Nat.le_of_ble_eq_true rfl) (Nat.le_of_ble_eq_true rfl) rfl (Nat.le_of_ble_eq_true rfl) (Nat.le_of_ble_eq_true rfl) (Nat.le_of_ble_eq_true rfl) (fun v9 f9 n9 hh => ?_)
        obtain ⟨rfl, rfl, rfl⟩ := hh
        refine aw_if_eq C 89 dX9_act_76 (by decide) (fun q => ?_) (fun q => ?_)
        · rw [if_pos q] at h
          refine aw_ald_n C dX9_act_89 rfl ?_
          refine aw_ldcwK C (C.2.2.2.2.2.2.1.2.2.2.2.2.2.2.2.1.2 7 (by decide)) dX9_act_90 ?_
          obtain ⟨r6, h6, h⟩ := Option.bind_eq_some_iff.mp h
          refine aw_callV C (ci := 9) (b := 181) [.retAddr (X.2.2 (1000 + 7))] mv_X9_375 rfl rfl (hm_M f r5.2) (rmX9_has (by decide) h6) rfl dX9_act_93 (Nat.le_of_ble_eq_true rfl) (Nat.le_of_ble_eq_true rfl) rfl (Nat.le_of_ble_eq_true rfl) (Nat.le_of_ble_eq_true rfl) (Nat.le_of_ble_eq_true rfl) (fun v9 f9 n9 hh => ?_)
          obtain ⟨rfl, rfl, rfl⟩ := hh
          refine aw_if_eq C 109 dX9_act_96 (by decide) (fun q => ?_) (fun q => ?_)
          · rw [if_pos q] at h
            refine aw_ald_n C dX9_act_109 rfl ?_
            refine aw_ldcwK C (C.2.2.2.2.2.2.1.2.2.2.2.2.2.2.2.1.2 8 (by decide)) dX9_act_110 ?_
            obtain ⟨r7, h7, h⟩ := Option.bind_eq_some_iff.mp h
            refine aw_callV C (ci := 9) (b := 181) [.retAddr (X.2.2 (1000 + 8))] mv_X9_375 rfl rfl (hm_M f r6.2) (rmX9_has (by decide) h7) rfl dX9_act_113 (Nat.le_of_ble_eq_true rfl) (Nat.le_of_ble_eq_true rfl) rfl (Nat.le_of_ble_eq_true rfl) (Nat.le_of_ble_eq_true rfl) (Nat.le_of_ble_eq_true rfl) (fun v9 f9 n9 hh => ?_)
            obtain ⟨rfl, rfl, rfl⟩ := hh
            refine aw_if_eq C 131 dX9_act_116 (by decide) (fun q => ?_) (fun q => ?_)
            · rw [if_pos q] at h
              refine aw_ald_n C dX9_act_131 rfl ?_
              refine aw_ldcwK C (C.2.2.2.2.2.2.1.2.2.2.2.2.2.2.2.1.2 9 (by decide)) dX9_act_132 ?_
              obtain ⟨r8, h8, h⟩ := Option.bind_eq_some_iff.mp h
              refine aw_callV C (ci := 9) (b := 181) [.retAddr (X.2.2 (1000 + 9))] mv_X9_375 rfl rfl (hm_M f r7.2) (rmX9_has (by decide) h8) rfl dX9_act_135 (Nat.le_of_ble_eq_true rfl) (Nat.le_of_ble_eq_true rfl) rfl (Nat.le_of_ble_eq_true rfl) (Nat.le_of_ble_eq_true rfl) (Nat.le_of_ble_eq_true rfl) (fun v9 f9 n9 hh => ?_)
              obtain ⟨rfl, rfl, rfl⟩ := hh
              refine aw_if_eq C 149 dX9_act_138 (by decide) (fun q => ?_) (fun q => ?_)
              · rw [if_pos q] at h
                refine aw_ald_n C dX9_act_149 rfl ?_
                refine aw_ldcwK C (C.2.2.2.2.2.2.1.2.2.2.2.2.2.2.2.1.2 10 (by decide)) dX9_act_150 ?_
                obtain ⟨r9, h9, h⟩ := Option.bind_eq_some_iff.mp h
                refine aw_callV C (ci := 9) (b := 181) [.retAddr (X.2.2 (1000 + 10))] mv_X9_375 rfl rfl (hm_M f r8.2) (rmX9_has (by decide) h9) rfl dX9_act_153 (Nat.le_of_ble_eq_true rfl) (Nat.le_of_ble_eq_true rfl) rfl (Nat.le_of_ble_eq_true rfl) (Nat.le_of_ble_eq_true rfl) (Nat.le_of_ble_eq_true rfl) (fun v9 f9 n9 hh => ?_)
                obtain ⟨rfl, rfl, rfl⟩ := hh
                refine aw_if_eq C 167 dX9_act_156 (by decide) (fun q => ?_) (fun q => ?_)
                · rw [if_pos q] at h
                  refine aw_ald_n C dX9_act_167 rfl ?_
                  refine aw_ldcwK C (C.2.2.2.2.2.2.1.2.2.2.2.2.2.2.2.1.2 11 (by decide)) dX9_act_168 ?_
                  obtain ⟨r10, h10, h⟩ := Option.bind_eq_some_iff.mp h
                  refine aw_callV C (ci := 9) (b := 181) [.retAddr (X.2.2 (1000 + 11))] mv_X9_375 rfl rfl (hm_M f r9.2) (rmX9_has (by decide) h10) rfl dX9_act_171 (Nat.le_of_ble_eq_true rfl) (Nat.le_of_ble_eq_true rfl) rfl (Nat.le_of_ble_eq_true rfl) (Nat.le_of_ble_eq_true rfl) (Nat.le_of_ble_eq_true rfl) (fun v9 f9 n9 hh => ?_)
                  obtain ⟨rfl, rfl, rfl⟩ := hh
                  refine aw_if_eq C 186 dX9_act_174 (by decide) (fun q => ?_) (fun q => ?_)
                  · rw [if_pos q] at h
                    refine aw_ald_n C dX9_act_186 rfl ?_
                    refine aw_ldcwK C (C.2.2.2.2.2.2.1.2.2.2.2.2.2.2.2.1.2 12 (by decide)) dX9_act_187 ?_
                    obtain ⟨r11, h11, h⟩ := Option.bind_eq_some_iff.mp h
                    refine aw_callV C (ci := 9) (b := 181) [.retAddr (X.2.2 (1000 + 12))] mv_X9_375 rfl rfl (hm_M f r10.2) (rmX9_has (by decide) h11) rfl dX9_act_190 (Nat.le_of_ble_eq_true rfl) (Nat.le_of_ble_eq_true rfl) rfl (Nat.le_of_ble_eq_true rfl) (Nat.le_of_ble_eq_true rfl) (Nat.le_of_ble_eq_true rfl) (fun v9 f9 n9 hh => ?_)
                    obtain ⟨rfl, rfl, rfl⟩ := hh
                    refine aw_if_eq C 205 dX9_act_193 (by decide) (fun q => ?_) (fun q => ?_)
                    · rw [if_pos q] at h
                      refine aw_ald_n C dX9_act_205 rfl ?_
                      refine aw_ldcwK C (C.2.2.2.2.2.2.1.2.2.2.2.2.2.2.2.1.2 13 (by decide)) dX9_act_206 ?_
                      obtain ⟨r12, h12, h⟩ := Option.bind_eq_some_iff.mp h
                      refine aw_callV C (ci := 9) (b := 181) [.retAddr (X.2.2 (1000 + 13))] mv_X9_375 rfl rfl (hm_M f r11.2) (rmX9_has (by decide) h12) rfl dX9_act_209 (Nat.le_of_ble_eq_true rfl) (Nat.le_of_ble_eq_true rfl) rfl (Nat.le_of_ble_eq_true rfl) (Nat.le_of_ble_eq_true rfl) (Nat.le_of_ble_eq_true rfl) (fun v9 f9 n9 hh => ?_)
                      obtain ⟨rfl, rfl, rfl⟩ := hh
                      refine aw_if_eq C 223 dX9_act_212 (by decide) (fun q => ?_) (fun q => ?_)
                      · rw [if_pos q] at h
                        refine aw_ald_n C dX9_act_223 rfl ?_
                        refine aw_ldcwK C (C.2.2.2.2.2.2.1.2.2.2.2.2.2.2.2.1.2 14 (by decide)) dX9_act_224 ?_
                        obtain ⟨r13, h13, h⟩ := Option.bind_eq_some_iff.mp h
                        refine aw_callV C (ci := 9) (b := 181) [.retAddr (X.2.2 (1000 + 14))] mv_X9_375 rfl rfl (hm_M f r12.2) (rmX9_has (by decide) h13) rfl dX9_act_227 (Nat.le_of_ble_eq_true rfl) (Nat.le_of_ble_eq_true rfl) rfl (Nat.le_of_ble_eq_true rfl) (Nat.le_of_ble_eq_true rfl) (Nat.le_of_ble_eq_true rfl) (fun v9 f9 n9 hh => ?_)
                        obtain ⟨rfl, rfl, rfl⟩ := hh
                        refine aw_if_eq C 241 dX9_act_230 (by decide) (fun q => ?_) (fun q => ?_)
                        · rw [if_pos q] at h
                          refine aw_ald_n C dX9_act_241 rfl ?_
                          refine aw_iload_n C dX9_act_242 rfl ?_
                          obtain ⟨r14, h14, h⟩ := Option.bind_eq_some_iff.mp h
                          refine aw_callV C (ci := 9) (b := 181) [.int r1.1] mv_X9_352 rfl rfl (hm_M f r13.2) (rmX9_wrong h14) rfl dX9_act_243 (Nat.le_of_ble_eq_true rfl) (Nat.le_of_ble_eq_true rfl) rfl (Nat.le_of_ble_eq_true rfl) (Nat.le_of_ble_eq_true rfl) (Nat.le_of_ble_eq_true rfl) (fun v9 f9 n9 hh => ?_)
                          obtain ⟨rfl, rfl, rfl⟩ := hh
                          refine aw_fl [some (.ref 181), some (.int r1.1), some (.int (0 : Int32))] ⟨rfl, ⟨rfl, ⟨rfl, trivial⟩⟩⟩ ?_
                          exact rmX9_act_b246 C h
                        · rw [if_neg q] at h
                          refine aw_ald_n C dX9_act_233 rfl ?_
                          obtain ⟨r15, h15, h⟩ := Option.bind_eq_some_iff.mp h
                          refine aw_callV C (ci := 9) (b := 181) [] mv_X9_417 rfl rfl (hm_M f r13.2) (rmX9_wipe0 h15) rfl dX9_act_234 (Nat.le_of_ble_eq_true rfl) (Nat.le_of_ble_eq_true rfl) rfl (Nat.le_of_ble_eq_true rfl) (Nat.le_of_ble_eq_true rfl) (Nat.le_of_ble_eq_true rfl) (fun v9 f9 n9 hh => ?_)
                          obtain ⟨rfl, rfl, rfl⟩ := hh
                          refine aw_istore_n C dX9_act_237 (by decide) rfl ?_
                          refine aw_nl [some (.ref 181), some (.int r1.1), some (.int r15.1)] rfl ?_
                          refine aw_goto C 246 dX9_act_238 (by decide) ?_
                          refine aw_fl [some (.ref 181), some (.int r1.1), some (.int r15.1)] ⟨rfl, ⟨rfl, ⟨rfl, trivial⟩⟩⟩ ?_
                          exact rmX9_act_b246 C h
                      · rw [if_neg q] at h
                        refine aw_ald_n C dX9_act_215 rfl ?_
                        obtain ⟨r16, h16, h⟩ := Option.bind_eq_some_iff.mp h
                        refine aw_callV C (ci := 9) (b := 181) [] mv_X9_412 rfl rfl (hm_M f r12.2) (rmX9_swapText h16) rfl dX9_act_216 (Nat.le_of_ble_eq_true rfl) (Nat.le_of_ble_eq_true rfl) rfl (Nat.le_of_ble_eq_true rfl) (Nat.le_of_ble_eq_true rfl) (Nat.le_of_ble_eq_true rfl) (fun v9 f9 n9 hh => ?_)
                        obtain ⟨rfl, rfl, rfl⟩ := hh
                        refine aw_istore_n C dX9_act_219 (by decide) rfl ?_
                        refine aw_nl [some (.ref 181), some (.int r1.1), some (.int r16.1)] rfl ?_
                        refine aw_goto C 246 dX9_act_220 (by decide) ?_
                        refine aw_fl [some (.ref 181), some (.int r1.1), some (.int r16.1)] ⟨rfl, ⟨rfl, ⟨rfl, trivial⟩⟩⟩ ?_
                        exact rmX9_act_b246 C h
                    · rw [if_neg q] at h
                      refine aw_ald_n C dX9_act_196 rfl ?_
                      refine aw_iconst C 0 dX9_act_197 ki_0 ?_
                      obtain ⟨r17, h17, h⟩ := Option.bind_eq_some_iff.mp h
                      refine aw_callV C (ci := 9) (b := 181) [.int (0 : Int32)] mv_X9_404 rfl rfl (hm_M f r11.2) (rmX9_pieceText h17) rfl dX9_act_198 (Nat.le_of_ble_eq_true rfl) (Nat.le_of_ble_eq_true rfl) rfl (Nat.le_of_ble_eq_true rfl) (Nat.le_of_ble_eq_true rfl) (Nat.le_of_ble_eq_true rfl) (fun v9 f9 n9 hh => ?_)
                      obtain ⟨rfl, rfl, rfl⟩ := hh
                      refine aw_istore_n C dX9_act_201 (by decide) rfl ?_
                      refine aw_nl [some (.ref 181), some (.int r1.1), some (.int r17.1)] rfl ?_
                      refine aw_goto C 246 dX9_act_202 (by decide) ?_
                      refine aw_fl [some (.ref 181), some (.int r1.1), some (.int r17.1)] ⟨rfl, ⟨rfl, ⟨rfl, trivial⟩⟩⟩ ?_
                      exact rmX9_act_b246 C h
                  · rw [if_neg q] at h
                    refine aw_ald_n C dX9_act_177 rfl ?_
                    refine aw_iconst C 1 dX9_act_178 ki_1 ?_
                    obtain ⟨r18, h18, h⟩ := Option.bind_eq_some_iff.mp h
                    refine aw_callV C (ci := 9) (b := 181) [.int (1 : Int32)] mv_X9_404 rfl rfl (hm_M f r10.2) (rmX9_pieceText h18) rfl dX9_act_179 (Nat.le_of_ble_eq_true rfl) (Nat.le_of_ble_eq_true rfl) rfl (Nat.le_of_ble_eq_true rfl) (Nat.le_of_ble_eq_true rfl) (Nat.le_of_ble_eq_true rfl) (fun v9 f9 n9 hh => ?_)
                    obtain ⟨rfl, rfl, rfl⟩ := hh
                    refine aw_istore_n C dX9_act_182 (by decide) rfl ?_
                    refine aw_nl [some (.ref 181), some (.int r1.1), some (.int r18.1)] rfl ?_
                    refine aw_goto C 246 dX9_act_183 (by decide) ?_
                    refine aw_fl [some (.ref 181), some (.int r1.1), some (.int r18.1)] ⟨rfl, ⟨rfl, ⟨rfl, trivial⟩⟩⟩ ?_
                    exact rmX9_act_b246 C h
                · rw [if_neg q] at h
                  refine aw_ald_n C dX9_act_159 rfl ?_
                  obtain ⟨r19, h19, h⟩ := Option.bind_eq_some_iff.mp h
                  refine aw_callV C (ci := 9) (b := 181) [] mv_X9_399 rfl rfl (hm_M f r9.2) (rmX9_unlocks h19) rfl dX9_act_160 (Nat.le_of_ble_eq_true rfl) (Nat.le_of_ble_eq_true rfl) rfl (Nat.le_of_ble_eq_true rfl) (Nat.le_of_ble_eq_true rfl) (Nat.le_of_ble_eq_true rfl) (fun v9 f9 n9 hh => ?_)
                  obtain ⟨rfl, rfl, rfl⟩ := hh
                  refine aw_istore_n C dX9_act_163 (by decide) rfl ?_
                  refine aw_nl [some (.ref 181), some (.int r1.1), some (.int r19.1)] rfl ?_
                  refine aw_goto C 246 dX9_act_164 (by decide) ?_
                  refine aw_fl [some (.ref 181), some (.int r1.1), some (.int r19.1)] ⟨rfl, ⟨rfl, ⟨rfl, trivial⟩⟩⟩ ?_
                  exact rmX9_act_b246 C h
              · rw [if_neg q] at h
                refine aw_ald_n C dX9_act_141 rfl ?_
                obtain ⟨r20, h20, h⟩ := Option.bind_eq_some_iff.mp h
                refine aw_callV C (ci := 9) (b := 181) [] mv_X9_394 rfl rfl (hm_M f r8.2) (rmX9_lockText h20) rfl dX9_act_142 (Nat.le_of_ble_eq_true rfl) (Nat.le_of_ble_eq_true rfl) rfl (Nat.le_of_ble_eq_true rfl) (Nat.le_of_ble_eq_true rfl) (Nat.le_of_ble_eq_true rfl) (fun v9 f9 n9 hh => ?_)
                obtain ⟨rfl, rfl, rfl⟩ := hh
                refine aw_istore_n C dX9_act_145 (by decide) rfl ?_
                refine aw_nl [some (.ref 181), some (.int r1.1), some (.int r20.1)] rfl ?_
                refine aw_goto C 246 dX9_act_146 (by decide) ?_
                refine aw_fl [some (.ref 181), some (.int r1.1), some (.int r20.1)] ⟨rfl, ⟨rfl, ⟨rfl, trivial⟩⟩⟩ ?_
                exact rmX9_act_b246 C h
            · rw [if_neg q] at h
              refine aw_ald_n C dX9_act_119 rfl ?_
              refine aw_iconst C 4 dX9_act_120 ki_4 ?_
              refine aw_iconst C 1 dX9_act_121 ki_1 ?_
              refine aw_bipush C 40 dX9_act_122 kb_40 ?_
              obtain ⟨r21, h21, h⟩ := Option.bind_eq_some_iff.mp h
              refine aw_callV C (ci := 9) (b := 181) [.int (4 : Int32), .int (1 : Int32), .int (40 : Int32)] mv_X9_379 rfl rfl (hm_M f r7.2) (rmX9_ruleText h21) rfl dX9_act_124 (Nat.le_of_ble_eq_true rfl) (Nat.le_of_ble_eq_true rfl) rfl (Nat.le_of_ble_eq_true rfl) (Nat.le_of_ble_eq_true rfl) (Nat.le_of_ble_eq_true rfl) (fun v9 f9 n9 hh => ?_)
              obtain ⟨rfl, rfl, rfl⟩ := hh
              refine aw_istore_n C dX9_act_127 (by decide) rfl ?_
              refine aw_nl [some (.ref 181), some (.int r1.1), some (.int r21.1)] rfl ?_
              refine aw_goto C 246 dX9_act_128 (by decide) ?_
              refine aw_fl [some (.ref 181), some (.int r1.1), some (.int r21.1)] ⟨rfl, ⟨rfl, ⟨rfl, trivial⟩⟩⟩ ?_
              exact rmX9_act_b246 C h
          · rw [if_neg q] at h
            refine aw_ald_n C dX9_act_99 rfl ?_
            refine aw_iconst C 3 dX9_act_100 ki_3 ?_
            refine aw_iconst C 0 dX9_act_101 ki_0 ?_
            obtain ⟨r22, h22, h⟩ := Option.bind_eq_some_iff.mp h
            refine aw_callV C (ci := 9) (b := 181) [.int (3 : Int32), .int (0 : Int32)] mv_X9_361 rfl rfl (hm_M f r6.2) (rmX9_rules h22) rfl dX9_act_102 (Nat.le_of_ble_eq_true rfl) (Nat.le_of_ble_eq_true rfl) rfl (Nat.le_of_ble_eq_true rfl) (Nat.le_of_ble_eq_true rfl) (Nat.le_of_ble_eq_true rfl) (fun v9 f9 n9 hh => ?_)
            obtain ⟨rfl, rfl, rfl⟩ := hh
            refine aw_istore_n C dX9_act_105 (by decide) rfl ?_
            refine aw_nl [some (.ref 181), some (.int r1.1), some (.int r22.1)] rfl ?_
            refine aw_goto C 246 dX9_act_106 (by decide) ?_
            refine aw_fl [some (.ref 181), some (.int r1.1), some (.int r22.1)] ⟨rfl, ⟨rfl, ⟨rfl, trivial⟩⟩⟩ ?_
            exact rmX9_act_b246 C h
        · rw [if_neg q] at h
          refine aw_ald_n C dX9_act_79 rfl ?_
          refine aw_iconst C 3 dX9_act_80 ki_3 ?_
          refine aw_iconst C 1 dX9_act_81 ki_1 ?_
          obtain ⟨r23, h23, h⟩ := Option.bind_eq_some_iff.mp h
          refine aw_callV C (ci := 9) (b := 181) [.int (3 : Int32), .int (1 : Int32)] mv_X9_361 rfl rfl (hm_M f r5.2) (rmX9_rules h23) rfl dX9_act_82 (Nat.le_of_ble_eq_true rfl) (Nat.le_of_ble_eq_true rfl) rfl (Nat.le_of_ble_eq_true rfl) (Nat.le_of_ble_eq_true rfl) (Nat.le_of_ble_eq_true rfl) (fun v9 f9 n9 hh => ?_)
          obtain ⟨rfl, rfl, rfl⟩ := hh
          refine aw_istore_n C dX9_act_85 (by decide) rfl ?_
          refine aw_nl [some (.ref 181), some (.int r1.1), some (.int r23.1)] rfl ?_
          refine aw_goto C 246 dX9_act_86 (by decide) ?_
          refine aw_fl [some (.ref 181), some (.int r1.1), some (.int r23.1)] ⟨rfl, ⟨rfl, ⟨rfl, trivial⟩⟩⟩ ?_
          exact rmX9_act_b246 C h
      · rw [if_neg q] at h
        refine aw_ald_n C dX9_act_59 rfl ?_
        refine aw_iconst C 2 dX9_act_60 ki_2 ?_
        refine aw_iconst C (-1) dX9_act_61 ki_m1 ?_
        obtain ⟨r24, h24, h⟩ := Option.bind_eq_some_iff.mp h
        refine aw_callV C (ci := 9) (b := 181) [.int (2 : Int32), .int (-1 : Int32)] mv_X9_361 rfl rfl (hm_M f r4.2) (rmX9_rules h24) rfl dX9_act_62 (Nat.le_of_ble_eq_true rfl) (Nat.le_of_ble_eq_true rfl) rfl (Nat.le_of_ble_eq_true rfl) (Nat.le_of_ble_eq_true rfl) (Nat.le_of_ble_eq_true rfl) (fun v9 f9 n9 hh => ?_)
        obtain ⟨rfl, rfl, rfl⟩ := hh
        refine aw_istore_n C dX9_act_65 (by decide) rfl ?_
        refine aw_nl [some (.ref 181), some (.int r1.1), some (.int r24.1)] rfl ?_
        refine aw_goto C 246 dX9_act_66 (by decide) ?_
        refine aw_fl [some (.ref 181), some (.int r1.1), some (.int r24.1)] ⟨rfl, ⟨rfl, ⟨rfl, trivial⟩⟩⟩ ?_
        exact rmX9_act_b246 C h
    · rw [if_neg q] at h
      refine aw_ald_n C dX9_act_38 rfl ?_
      refine aw_iconst C 2 dX9_act_39 ki_2 ?_
      refine aw_iconst C 0 dX9_act_40 ki_0 ?_
      refine aw_iconst C 3 dX9_act_41 ki_3 ?_
      obtain ⟨r25, h25, h⟩ := Option.bind_eq_some_iff.mp h
      refine aw_callV C (ci := 9) (b := 181) [.int (2 : Int32), .int (0 : Int32), .int (3 : Int32)] mv_X9_379 rfl rfl (hm_M f r3.2) (rmX9_ruleText h25) rfl dX9_act_42 (Nat.le_of_ble_eq_true rfl) (Nat.le_of_ble_eq_true rfl) rfl (Nat.le_of_ble_eq_true rfl) (Nat.le_of_ble_eq_true rfl) (Nat.le_of_ble_eq_true rfl) (fun v9 f9 n9 hh => ?_)
      obtain ⟨rfl, rfl, rfl⟩ := hh
      refine aw_istore_n C dX9_act_45 (by decide) rfl ?_
      refine aw_nl [some (.ref 181), some (.int r1.1), some (.int r25.1)] rfl ?_
      refine aw_goto C 246 dX9_act_46 (by decide) ?_
      refine aw_fl [some (.ref 181), some (.int r1.1), some (.int r25.1)] ⟨rfl, ⟨rfl, ⟨rfl, trivial⟩⟩⟩ ?_
      exact rmX9_act_b246 C h
  · rw [if_neg q] at h
    refine aw_ald_n C dX9_act_17 rfl ?_
    refine aw_iconst C 1 dX9_act_18 ki_1 ?_
    refine aw_iconst C 0 dX9_act_19 ki_0 ?_
    refine aw_iconst C 3 dX9_act_20 ki_3 ?_
    obtain ⟨r26, h26, h⟩ := Option.bind_eq_some_iff.mp h
    refine aw_callV C (ci := 9) (b := 181) [.int (1 : Int32), .int (0 : Int32), .int (3 : Int32)] mv_X9_379 rfl rfl (hm_M f r2.2) (rmX9_ruleText h26) rfl dX9_act_21 (Nat.le_of_ble_eq_true rfl) (Nat.le_of_ble_eq_true rfl) rfl (Nat.le_of_ble_eq_true rfl) (Nat.le_of_ble_eq_true rfl) (Nat.le_of_ble_eq_true rfl) (fun v9 f9 n9 hh => ?_)
    obtain ⟨rfl, rfl, rfl⟩ := hh
    refine aw_istore_n C dX9_act_24 (by decide) rfl ?_
    refine aw_nl [some (.ref 181), some (.int r1.1), some (.int r26.1)] rfl ?_
    refine aw_goto C 246 dX9_act_25 (by decide) ?_
    refine aw_fl [some (.ref 181), some (.int r1.1), some (.int r26.1)] ⟨rfl, ⟨rfl, ⟨rfl, trivial⟩⟩⟩ ?_
    exact rmX9_act_b246 C h
def mX9_putsBack_l2 : Nat → Int32 → RS9 → Option (Int32 × RS9)
  | 0, _, _ => none
  | d + 1, v1, σ => (if (4347 : Int32) ≤ v1 then ((mX9_cutsFile σ).bind fun r1 => some ((0 : Int32), r1.2)) else rCk (rIn v1 (rLen 2)) (rCk (rIn v1 (rLen 1)) (mX9_putsBack_l2 d (v1 + (1 : Int32)) (rSa σ 1 v1 (rGa σ 2 v1)))))
set_option maxHeartbeats 1000000 in
theorem rmX9_putsBack_l2 {X : GX} {p : Program} {l : Launch} {e : Env} {s : State} {m : MethodId} {args : Array Value} {below : List Frame} {meth : Method} {c : Code} {f : AH} {n : Nat} {r : Int32 × RS9} (C : CC X p l (RM 9 0 0) s m args meth c RX9 cX9_putsBack 2 none) : ∀ (d : Nat) (v1 : Int32) (σ : RS9) (_ : mX9_putsBack_l2 d v1 σ = some r), AW X p l e (RM 9 0 0) s m args below meth c 2 (ZM X below args s 0 0 (QMv f n r)) (rHm f σ) n 0 0 2 [some (.ref 181), some (.int v1)] [] := by
  intro d
  induction d with
  | zero =>
    intro v1 σ h
    exact nomatch (show (none : Option (Int32 × RS9)) = some r from h)
  | succ d ih =>
    intro v1 σ h
    have h : (if (4347 : Int32) ≤ v1 then ((mX9_cutsFile σ).bind fun r1 => some ((0 : Int32), r1.2)) else rCk (rIn v1 (rLen 2)) (rCk (rIn v1 (rLen 1)) (mX9_putsBack_l2 d (v1 + (1 : Int32)) (rSa σ 1 v1 (rGa σ 2 v1))))) = some r := h
    refine aw_iload_n C dX9_putsBack_2 rfl ?_
    refine aw_sipush C 4347 dX9_putsBack_3 ks_4347 ?_
    refine aw_icmp_ge C 27 dX9_putsBack_6 (by decide) (fun q => ?_) (fun q => ?_)
    · rw [if_pos q] at h
      refine aw_ald_n C dX9_putsBack_27 rfl ?_
      obtain ⟨r1, h1, h⟩ := Option.bind_eq_some_iff.mp h
      refine aw_callV C (ci := 9) (b := 181) [] mv_X9_244 rfl rfl (hm_M f σ) (rmX9_cutsFile h1) rfl dX9_putsBack_28 (Nat.le_of_ble_eq_true rfl) (Nat.le_of_ble_eq_true rfl) rfl (Nat.le_of_ble_eq_true rfl) (Nat.le_of_ble_eq_true rfl) (Nat.le_of_ble_eq_true rfl) (fun v9 f9 n9 hh => ?_)
      obtain ⟨rfl, rfl, rfl⟩ := hh
      cases h
      exact aw_vret C rfl dX9_putsBack_31 (Nat.le_refl _) (Nat.le_refl _) ⟨rfl, rfl, rfl⟩
    · rw [if_neg q] at h
      refine aw_ald_n C dX9_putsBack_9 rfl ?_
      refine aw_get C (v := .ref (rAid 1)) gf_X9_7 (hm_M f σ) rfl dX9_putsBack_10 ?_
      refine aw_iload_n C dX9_putsBack_13 rfl ?_
      refine aw_ald_n C dX9_putsBack_14 rfl ?_
      refine aw_get C (v := .ref (rAid 2)) gf_X9_13 (hm_M f σ) rfl dX9_putsBack_15 ?_
      refine aw_iload_n C dX9_putsBack_18 rfl ?_
      obtain ⟨hb2, h⟩ := ck_some h
      refine am_iald C (rGa σ 2 v1) rfl (inb_vp hb2) rfl dX9_putsBack_19 ?_
      obtain ⟨hb3, h⟩ := ck_some h
      refine am_iast C rfl (inb_vp hb3) dX9_putsBack_20 ?_
      refine aw_iinc C (v1 + (1 : Int32)) dX9_putsBack_21 rfl (by rw [ki_1]) (by decide) rfl ?_
      refine aw_nl [some (.ref 181), some (.int (v1 + (1 : Int32)))] rfl ?_
      refine aw_goto C 2 dX9_putsBack_24 (by decide) ?_
      refine aw_fl [some (.ref 181), some (.int (v1 + (1 : Int32)))] ⟨rfl, ⟨rfl, trivial⟩⟩ ?_
      exact ih (v1 + (1 : Int32)) (rSa σ 1 v1 (rGa σ 2 v1)) h
def mX9_putsBack (σ : RS9) : Option (Int32 × RS9) := mX9_putsBack_l2 rFU (0 : Int32) σ
set_option maxHeartbeats 1000000 in
theorem rmX9_putsBack {X : GX} {l : Launch} {f : AH} {n : Nat} {r : Int32 × RS9} {σ : RS9} (h : mX9_putsBack σ = some r) : AM X l yX9_putsBack cX9_putsBack 2 none 9 0 0 [.ref 181] (rHm f σ) n (QMv f n r) := by
  have h : mX9_putsBack_l2 rFU (0 : Int32) σ = some r := h
  refine AM.of (by decide +kernel) rfl (Nat.le_of_ble_eq_true rfl) (fun p e s m args below meth c C _ => ?_)
  refine aw_nl [some (.ref 181), none] rfl ?_
  refine aw_iconst C 0 dX9_putsBack_0 ki_0 ?_
  refine aw_istore_n C dX9_putsBack_1 (by decide) rfl ?_
  refine aw_nl [some (.ref 181), some (.int (0 : Int32))] rfl ?_
  refine aw_fl [some (.ref 181), some (.int (0 : Int32))] ⟨rfl, ⟨rfl, trivial⟩⟩ ?_
  exact rmX9_putsBack_l2 C rFU (0 : Int32) σ h
def mX9_acts_b214 (s1 : Int32) (σ : RS9) : Option (Int32 × RS9) := ((mX9_putsBack (rSf σ 7 s1)).bind fun r1 => some ((0 : Int32), r1.2))
set_option maxHeartbeats 1000000 in
theorem rmX9_acts_b214 {X : GX} {p : Program} {l : Launch} {e : Env} {s : State} {m : MethodId} {args : Array Value} {below : List Frame} {meth : Method} {c : Code} {f : AH} {n : Nat} {r : Int32 × RS9} {s1 : Int32} {σ : RS9} (C : CC X p l (RM 13 0 0) s m args meth c RX9 cX9_acts 4 (some .int)) (h : mX9_acts_b214 s1 σ = some r) : AW X p l e (RM 13 0 0) s m args below meth c 4 (ZM X below args s 0 0 (QMi f n r)) (rHm f σ) n 0 0 214 [some (.ref 181), none, none, none] [.int s1, .ref 181] := by
  have h : ((mX9_putsBack (rSf σ 7 s1)).bind fun r1 => some ((0 : Int32), r1.2)) = some r := h
  refine am_put C gf_X9_328 nf9_7 rfl rfl dX9_acts_214 ?_
  refine aw_ald_n C dX9_acts_217 rfl ?_
  obtain ⟨r1, h1, h⟩ := Option.bind_eq_some_iff.mp h
  refine aw_callV C (ci := 9) (b := 181) [] mv_X9_334 rfl rfl (hm_M f (rSf σ 7 s1)) (rmX9_putsBack h1) rfl dX9_acts_218 (Nat.le_of_ble_eq_true rfl) (Nat.le_of_ble_eq_true rfl) rfl (Nat.le_of_ble_eq_true rfl) (Nat.le_of_ble_eq_true rfl) (Nat.le_of_ble_eq_true rfl) (fun v9 f9 n9 hh => ?_)
  obtain ⟨rfl, rfl, rfl⟩ := hh
  refine aw_iconst C 0 dX9_acts_221 ki_0 ?_
  cases h
  exact aw_iret C rfl rfl dX9_acts_222 (Nat.le_refl _) (Nat.le_refl _) ⟨rfl, rfl, rfl⟩
def mX9_acts_b191 (v1 : Int32) (s1 : Int32) (σ : RS9) : Option (Int32 × RS9) := some (v1, (rSf (rSf σ 7 s1) 5 (0 : Int32)))
set_option maxHeartbeats 1000000 in
theorem rmX9_acts_b191 {X : GX} {p : Program} {l : Launch} {e : Env} {s : State} {m : MethodId} {args : Array Value} {below : List Frame} {meth : Method} {c : Code} {f : AH} {n : Nat} {r : Int32 × RS9} {v1 : Int32} {s1 : Int32} {σ : RS9} (C : CC X p l (RM 13 0 0) s m args meth c RX9 cX9_acts 4 (some .int)) (h : mX9_acts_b191 v1 s1 σ = some r) : AW X p l e (RM 13 0 0) s m args below meth c 4 (ZM X below args s 0 0 (QMi f n r)) (rHm f σ) n 0 0 191 [some (.ref 181), some (.int v1), none, none] [.int s1, .ref 181] := by
  have h : some (v1, (rSf (rSf σ 7 s1) 5 (0 : Int32))) = some r := h
  refine am_put C gf_X9_328 nf9_7 rfl rfl dX9_acts_191 ?_
  refine aw_ald_n C dX9_acts_194 rfl ?_
  refine aw_iconst C 0 dX9_acts_195 ki_0 ?_
  refine am_put C gf_X9_325 nf9_5 rfl rfl dX9_acts_196 ?_
  refine aw_iload_n C dX9_acts_199 rfl ?_
  cases h
  exact aw_iret C rfl rfl dX9_acts_200 (Nat.le_refl _) (Nat.le_refl _) ⟨rfl, rfl, rfl⟩
def mX9_acts_b168 (v1 : Int32) (v2 : Int32) (s1 : Int32) (σ : RS9) : Option (Int32 × RS9) := (if s1 = (0 : Int32) then (if v1 ≤ (0 : Int32) then mX9_acts_b191 v1 (σ.1 7) (rSf σ 0 s1) else mX9_acts_b191 v1 (0 : Int32) (rSf σ 0 s1)) else (if v2 ≤ (0 : Int32) then mX9_acts_b214 (σ.1 7) (rSf σ 0 s1) else mX9_acts_b214 v2 (rSf σ 0 s1)))
set_option maxHeartbeats 1000000 in
theorem rmX9_acts_b168 {X : GX} {p : Program} {l : Launch} {e : Env} {s : State} {m : MethodId} {args : Array Value} {below : List Frame} {meth : Method} {c : Code} {f : AH} {n : Nat} {r : Int32 × RS9} {v1 : Int32} {v2 : Int32} {s1 : Int32} {σ : RS9} (C : CC X p l (RM 13 0 0) s m args meth c RX9 cX9_acts 4 (some .int)) (h : mX9_acts_b168 v1 v2 s1 σ = some r) : AW X p l e (RM 13 0 0) s m args below meth c 4 (ZM X below args s 0 0 (QMi f n r)) (rHm f σ) n 0 0 168 [some (.ref 181), some (.int v1), some (.int v2), none] [.int s1, .ref 181] := by
  have h : (if s1 = (0 : Int32) then (if v1 ≤ (0 : Int32) then mX9_acts_b191 v1 (σ.1 7) (rSf σ 0 s1) else mX9_acts_b191 v1 (0 : Int32) (rSf σ 0 s1)) else (if v2 ≤ (0 : Int32) then mX9_acts_b214 (σ.1 7) (rSf σ 0 s1) else mX9_acts_b214 v2 (rSf σ 0 s1))) = some r := h
  refine am_put C gf_X9_138 nf9_0 rfl rfl dX9_acts_168 ?_
  refine aw_ald_n C dX9_acts_171 rfl ?_
  refine aw_get C (v := .int s1) gf_X9_138 (hm_M f (rSf σ 0 s1)) rfl dX9_acts_172 ?_
  refine aw_if_ne C 201 dX9_acts_175 (by decide) (fun q => ?_) (fun q => ?_)
  · rw [if_neg q] at h
    refine aw_ald_n C dX9_acts_201 rfl ?_
    refine aw_iload_n C dX9_acts_202 rfl ?_
    refine aw_if_le C 210 dX9_acts_203 (by decide) (fun q => ?_) (fun q => ?_)
    · rw [if_pos q] at h
      refine aw_ald_n C dX9_acts_210 rfl ?_
      refine aw_get C (v := .int (σ.1 7)) gf_X9_328 (hm_M f (rSf σ 0 s1)) rfl dX9_acts_211 ?_
      refine aw_fl [some (.ref 181), none, none, none] ⟨rfl, trivial⟩ ?_
      exact rmX9_acts_b214 C h
    · rw [if_neg q] at h
      refine aw_iload_n C dX9_acts_206 rfl ?_
      refine aw_goto C 214 dX9_acts_207 (by decide) ?_
      refine aw_fl [some (.ref 181), none, none, none] ⟨rfl, trivial⟩ ?_
      exact rmX9_acts_b214 C h
  · rw [if_pos q] at h
    refine aw_ald_n C dX9_acts_178 rfl ?_
    refine aw_iload_n C dX9_acts_179 rfl ?_
    refine aw_if_le C 187 dX9_acts_180 (by decide) (fun q => ?_) (fun q => ?_)
    · rw [if_pos q] at h
      refine aw_ald_n C dX9_acts_187 rfl ?_
      refine aw_get C (v := .int (σ.1 7)) gf_X9_328 (hm_M f (rSf σ 0 s1)) rfl dX9_acts_188 ?_
      refine aw_fl [some (.ref 181), some (.int v1), none, none] ⟨rfl, ⟨rfl, trivial⟩⟩ ?_
      exact rmX9_acts_b191 C h
    · rw [if_neg q] at h
      refine aw_iconst C 0 dX9_acts_183 ki_0 ?_
      refine aw_goto C 191 dX9_acts_184 (by decide) ?_
      refine aw_fl [some (.ref 181), some (.int v1), none, none] ⟨rfl, ⟨rfl, trivial⟩⟩ ?_
      exact rmX9_acts_b191 C h
def mX9_acts_b154 (v1 : Int32) (v2 : Int32) (σ : RS9) : Option (Int32 × RS9) := (if (σ.1 12) = (-1 : Int32) then mX9_acts_b168 v1 v2 (0 : Int32) σ else mX9_acts_b168 v1 v2 (1 : Int32) σ)
set_option maxHeartbeats 1000000 in
theorem rmX9_acts_b154 {X : GX} {p : Program} {l : Launch} {e : Env} {s : State} {m : MethodId} {args : Array Value} {below : List Frame} {meth : Method} {c : Code} {f : AH} {n : Nat} {r : Int32 × RS9} {v1 : Int32} {v2 : Int32} {σ : RS9} (C : CC X p l (RM 13 0 0) s m args meth c RX9 cX9_acts 4 (some .int)) (h : mX9_acts_b154 v1 v2 σ = some r) : AW X p l e (RM 13 0 0) s m args below meth c 4 (ZM X below args s 0 0 (QMi f n r)) (rHm f σ) n 0 0 154 [some (.ref 181), some (.int v1), some (.int v2), none] [] := by
  have h : (if (σ.1 12) = (-1 : Int32) then mX9_acts_b168 v1 v2 (0 : Int32) σ else mX9_acts_b168 v1 v2 (1 : Int32) σ) = some r := h
  refine aw_ald_n C dX9_acts_154 rfl ?_
  refine aw_ald_n C dX9_acts_155 rfl ?_
  refine aw_get C (v := .int (σ.1 12)) gf_X9_26 (hm_M f σ) rfl dX9_acts_156 ?_
  refine aw_iconst C (-1) dX9_acts_159 ki_m1 ?_
  refine aw_icmp_ne C 167 dX9_acts_160 (by decide) (fun q => ?_) (fun q => ?_)
  · rw [if_neg q] at h
    refine aw_iconst C 1 dX9_acts_167 ki_1 ?_
    refine aw_fl [some (.ref 181), some (.int v1), some (.int v2), none] ⟨rfl, ⟨rfl, ⟨rfl, trivial⟩⟩⟩ ?_
    exact rmX9_acts_b168 C h
  · rw [if_pos q] at h
    refine aw_iconst C 0 dX9_acts_163 ki_0 ?_
    refine aw_goto C 168 dX9_acts_164 (by decide) ?_
    refine aw_fl [some (.ref 181), some (.int v1), some (.int v2), none] ⟨rfl, ⟨rfl, ⟨rfl, trivial⟩⟩⟩ ?_
    exact rmX9_acts_b168 C h
def mX9_acts_b141 (rec48 : Int32 → Int32 → Int32 → RS9 → Option (Int32 × RS9)) (v1 : Int32) (v2 : Int32) (v3 : Int32) (σ : RS9) : Option (Int32 × RS9) := rec48 v1 v2 v3 (rSf σ 11 ((σ.1 11) + (1 : Int32)))
set_option maxHeartbeats 1000000 in
theorem rmX9_acts_b141 {X : GX} {p : Program} {l : Launch} {e : Env} {s : State} {m : MethodId} {args : Array Value} {below : List Frame} {meth : Method} {c : Code} {f : AH} {n : Nat} {r : Int32 × RS9} {rec48 : Int32 → Int32 → Int32 → RS9 → Option (Int32 × RS9)} {v1 : Int32} {v2 : Int32} {v3 : Int32} {σ : RS9} (C : CC X p l (RM 13 0 0) s m args meth c RX9 cX9_acts 4 (some .int)) (Hr48 : ∀ (v1 : Int32) (v2 : Int32) (v3 : Int32) (σ : RS9), rec48 v1 v2 v3 σ = some r → AW X p l e (RM 13 0 0) s m args below meth c 4 (ZM X below args s 0 0 (QMi f n r)) (rHm f σ) n 0 0 48 [some (.ref 181), some (.int v1), some (.int v2), some (.int v3)] []) (h : mX9_acts_b141 rec48 v1 v2 v3 σ = some r) : AW X p l e (RM 13 0 0) s m args below meth c 4 (ZM X below args s 0 0 (QMi f n r)) (rHm f σ) n 0 0 141 [some (.ref 181), some (.int v1), some (.int v2), some (.int v3)] [] := by
  have h : rec48 v1 v2 v3 (rSf σ 11 ((σ.1 11) + (1 : Int32))) = some r := h
  refine aw_ald_n C dX9_acts_141 rfl ?_
  refine aw_dup C dX9_acts_142 rfl ?_
  refine aw_get C (v := .int (σ.1 11)) gf_X9_340 (hm_M f σ) rfl dX9_acts_143 ?_
  refine aw_iconst C 1 dX9_acts_146 ki_1 ?_
  refine aw_iadd C dX9_acts_147 ?_
  refine am_put C gf_X9_340 nf9_11 rfl rfl dX9_acts_148 ?_
  refine aw_goto C 48 dX9_acts_151 (by decide) ?_
  refine aw_fl [some (.ref 181), some (.int v1), some (.int v2), some (.int v3)] ⟨rfl, ⟨rfl, ⟨rfl, ⟨rfl, trivial⟩⟩⟩⟩ ?_
  exact Hr48 v1 v2 v3 (rSf σ 11 ((σ.1 11) + (1 : Int32))) h
def mX9_acts_b106 (rec48 : Int32 → Int32 → Int32 → RS9 → Option (Int32 × RS9)) (v1 : Int32) (v2 : Int32) (s0 : Int32) (σ : RS9) : Option (Int32 × RS9) := (if s0 = (0 : Int32) then rec48 v1 v2 s0 σ else (if (σ.1 12) = (-1 : Int32) then rCk (rIn (σ.1 11) (rLen 8)) ((if (rGa σ 8 (σ.1 11)) = (59 : Int32) then mX9_acts_b141 rec48 v1 v2 s0 σ else ((mX9_wrong (σ.1 11) σ).bind fun r2 => mX9_acts_b141 rec48 v1 v2 s0 r2.2))) else rec48 v1 v2 s0 σ))
set_option maxHeartbeats 1000000 in
theorem rmX9_acts_b106 {X : GX} {p : Program} {l : Launch} {e : Env} {s : State} {m : MethodId} {args : Array Value} {below : List Frame} {meth : Method} {c : Code} {f : AH} {n : Nat} {r : Int32 × RS9} {rec48 : Int32 → Int32 → Int32 → RS9 → Option (Int32 × RS9)} {v1 : Int32} {v2 : Int32} {s0 : Int32} {σ : RS9} (C : CC X p l (RM 13 0 0) s m args meth c RX9 cX9_acts 4 (some .int)) (Hr48 : ∀ (v1 : Int32) (v2 : Int32) (v3 : Int32) (σ : RS9), rec48 v1 v2 v3 σ = some r → AW X p l e (RM 13 0 0) s m args below meth c 4 (ZM X below args s 0 0 (QMi f n r)) (rHm f σ) n 0 0 48 [some (.ref 181), some (.int v1), some (.int v2), some (.int v3)] []) (h : mX9_acts_b106 rec48 v1 v2 s0 σ = some r) : AW X p l e (RM 13 0 0) s m args below meth c 4 (ZM X below args s 0 0 (QMi f n r)) (rHm f σ) n 0 0 106 [some (.ref 181), some (.int v1), some (.int v2), none] [.int s0] := by
  have h : (if s0 = (0 : Int32) then rec48 v1 v2 s0 σ else (if (σ.1 12) = (-1 : Int32) then rCk (rIn (σ.1 11) (rLen 8)) ((if (rGa σ 8 (σ.1 11)) = (59 : Int32) then mX9_acts_b141 rec48 v1 v2 s0 σ else ((mX9_wrong (σ.1 11) σ).bind fun r2 => mX9_acts_b141 rec48 v1 v2 s0 r2.2))) else rec48 v1 v2 s0 σ)) = some r := h
  refine aw_istore_n C dX9_acts_106 (by decide) rfl ?_
  refine aw_nl [some (.ref 181), some (.int v1), some (.int v2), some (.int s0)] rfl ?_
  refine aw_iload_n C dX9_acts_107 rfl ?_
  refine aw_if_eq C 48 dX9_acts_108 (by decide) (fun q => ?_) (fun q => ?_)
  · rw [if_pos q] at h
    refine aw_fl [some (.ref 181), some (.int v1), some (.int v2), some (.int s0)] ⟨rfl, ⟨rfl, ⟨rfl, ⟨rfl, trivial⟩⟩⟩⟩ ?_
    exact Hr48 v1 v2 s0 σ h
  · rw [if_neg q] at h
    refine aw_ald_n C dX9_acts_111 rfl ?_
    refine aw_get C (v := .int (σ.1 12)) gf_X9_26 (hm_M f σ) rfl dX9_acts_112 ?_
    refine aw_iconst C (-1) dX9_acts_115 ki_m1 ?_
    refine aw_icmp_ne C 48 dX9_acts_116 (by decide) (fun q => ?_) (fun q => ?_)
    · rw [if_neg q] at h
      refine aw_fl [some (.ref 181), some (.int v1), some (.int v2), some (.int s0)] ⟨rfl, ⟨rfl, ⟨rfl, ⟨rfl, trivial⟩⟩⟩⟩ ?_
      exact Hr48 v1 v2 s0 σ h
    · rw [if_pos q] at h
      refine aw_ald_n C dX9_acts_119 rfl ?_
      refine aw_get C (v := .ref (rAid 8)) gf_X9_23 (hm_M f σ) rfl dX9_acts_120 ?_
      refine aw_ald_n C dX9_acts_123 rfl ?_
      refine aw_get C (v := .int (σ.1 11)) gf_X9_340 (hm_M f σ) rfl dX9_acts_124 ?_
      obtain ⟨hb1, h⟩ := ck_some h
      refine am_iald C (rGa σ 8 (σ.1 11)) rfl (inb_vp hb1) rfl dX9_acts_127 ?_
      refine aw_bipush C 59 dX9_acts_128 kb_59 ?_
      refine aw_icmp_eq C 141 dX9_acts_130 (by decide) (fun q => ?_) (fun q => ?_)
      · rw [if_pos q] at h
        refine aw_fl [some (.ref 181), some (.int v1), some (.int v2), some (.int s0)] ⟨rfl, ⟨rfl, ⟨rfl, ⟨rfl, trivial⟩⟩⟩⟩ ?_
        exact rmX9_acts_b141 C Hr48 h
      · rw [if_neg q] at h
        refine aw_ald_n C dX9_acts_133 rfl ?_
        refine aw_ald_n C dX9_acts_134 rfl ?_
        refine aw_get C (v := .int (σ.1 11)) gf_X9_340 (hm_M f σ) rfl dX9_acts_135 ?_
        obtain ⟨r2, h2, h⟩ := Option.bind_eq_some_iff.mp h
        refine aw_callV C (ci := 9) (b := 181) [.int (σ.1 11)] mv_X9_352 rfl rfl (hm_M f σ) (rmX9_wrong h2) rfl dX9_acts_138 (Nat.le_of_ble_eq_true rfl) (Nat.le_of_ble_eq_true rfl) rfl (Nat.le_of_ble_eq_true rfl) (Nat.le_of_ble_eq_true rfl) (Nat.le_of_ble_eq_true rfl) (fun v9 f9 n9 hh => ?_)
        obtain ⟨rfl, rfl, rfl⟩ := hh
        refine aw_fl [some (.ref 181), some (.int v1), some (.int v2), some (.int s0)] ⟨rfl, ⟨rfl, ⟨rfl, ⟨rfl, trivial⟩⟩⟩⟩ ?_
        exact rmX9_acts_b141 C Hr48 h
def mX9_acts_b87 (rec48 : Int32 → Int32 → Int32 → RS9 → Option (Int32 × RS9)) (v1 : Int32) (v2 : Int32) (σ : RS9) : Option (Int32 × RS9) := ((mX9_here σ).bind fun r1 => (if (r1.2.1 10) ≤ r1.1 then mX9_acts_b106 rec48 (v1 + (1 : Int32)) v2 (0 : Int32) r1.2 else mX9_acts_b106 rec48 (v1 + (1 : Int32)) v2 (1 : Int32) r1.2))
set_option maxHeartbeats 1000000 in
theorem rmX9_acts_b87 {X : GX} {p : Program} {l : Launch} {e : Env} {s : State} {m : MethodId} {args : Array Value} {below : List Frame} {meth : Method} {c : Code} {f : AH} {n : Nat} {r : Int32 × RS9} {rec48 : Int32 → Int32 → Int32 → RS9 → Option (Int32 × RS9)} {v1 : Int32} {v2 : Int32} {σ : RS9} (C : CC X p l (RM 13 0 0) s m args meth c RX9 cX9_acts 4 (some .int)) (Hr48 : ∀ (v1 : Int32) (v2 : Int32) (v3 : Int32) (σ : RS9), rec48 v1 v2 v3 σ = some r → AW X p l e (RM 13 0 0) s m args below meth c 4 (ZM X below args s 0 0 (QMi f n r)) (rHm f σ) n 0 0 48 [some (.ref 181), some (.int v1), some (.int v2), some (.int v3)] []) (h : mX9_acts_b87 rec48 v1 v2 σ = some r) : AW X p l e (RM 13 0 0) s m args below meth c 4 (ZM X below args s 0 0 (QMi f n r)) (rHm f σ) n 0 0 87 [some (.ref 181), some (.int v1), some (.int v2), none] [] := by
  have h : ((mX9_here σ).bind fun r1 => (if (r1.2.1 10) ≤ r1.1 then mX9_acts_b106 rec48 (v1 + (1 : Int32)) v2 (0 : Int32) r1.2 else mX9_acts_b106 rec48 (v1 + (1 : Int32)) v2 (1 : Int32) r1.2)) = some r := h
  refine aw_iinc C (v1 + (1 : Int32)) dX9_acts_87 rfl (by rw [ki_1]) (by decide) rfl ?_
  refine aw_nl [some (.ref 181), some (.int (v1 + (1 : Int32))), some (.int v2), none] rfl ?_
  refine aw_ald_n C dX9_acts_90 rfl ?_
  obtain ⟨r1, h1, h⟩ := Option.bind_eq_some_iff.mp h
  refine aw_callV C (ci := 9) (b := 181) [] mv_X9_346 rfl rfl (hm_M f σ) (rmX9_here h1) rfl dX9_acts_91 (Nat.le_of_ble_eq_true rfl) (Nat.le_of_ble_eq_true rfl) rfl (Nat.le_of_ble_eq_true rfl) (Nat.le_of_ble_eq_true rfl) (Nat.le_of_ble_eq_true rfl) (fun v9 f9 n9 hh => ?_)
  obtain ⟨rfl, rfl, rfl⟩ := hh
  refine aw_ald_n C dX9_acts_94 rfl ?_
  refine aw_get C (v := .int (r1.2.1 10)) gf_X9_343 (hm_M f r1.2) rfl dX9_acts_95 ?_
  refine aw_icmp_ge C 105 dX9_acts_98 (by decide) (fun q => ?_) (fun q => ?_)
  · rw [if_pos q] at h
    refine aw_iconst C 0 dX9_acts_105 ki_0 ?_
    refine aw_fl [some (.ref 181), some (.int (v1 + (1 : Int32))), some (.int v2), none] ⟨rfl, ⟨rfl, ⟨rfl, trivial⟩⟩⟩ ?_
    exact rmX9_acts_b106 C Hr48 h
  · rw [if_neg q] at h
    refine aw_iconst C 1 dX9_acts_101 ki_1 ?_
    refine aw_goto C 106 dX9_acts_102 (by decide) ?_
    refine aw_fl [some (.ref 181), some (.int (v1 + (1 : Int32))), some (.int v2), none] ⟨rfl, ⟨rfl, ⟨rfl, trivial⟩⟩⟩ ?_
    exact rmX9_acts_b106 C Hr48 h
def mX9_acts_b74 (rec48 : Int32 → Int32 → Int32 → RS9 → Option (Int32 × RS9)) (v1 : Int32) (v2 : Int32) (σ : RS9) : Option (Int32 × RS9) := (if (σ.1 12) = (-1 : Int32) then ((mX9_act σ).bind fun r1 => mX9_acts_b87 rec48 v1 r1.1 r1.2) else mX9_acts_b87 rec48 v1 v2 σ)
set_option maxHeartbeats 1000000 in
theorem rmX9_acts_b74 {X : GX} {p : Program} {l : Launch} {e : Env} {s : State} {m : MethodId} {args : Array Value} {below : List Frame} {meth : Method} {c : Code} {f : AH} {n : Nat} {r : Int32 × RS9} {rec48 : Int32 → Int32 → Int32 → RS9 → Option (Int32 × RS9)} {v1 : Int32} {v2 : Int32} {σ : RS9} (C : CC X p l (RM 13 0 0) s m args meth c RX9 cX9_acts 4 (some .int)) (Hr48 : ∀ (v1 : Int32) (v2 : Int32) (v3 : Int32) (σ : RS9), rec48 v1 v2 v3 σ = some r → AW X p l e (RM 13 0 0) s m args below meth c 4 (ZM X below args s 0 0 (QMi f n r)) (rHm f σ) n 0 0 48 [some (.ref 181), some (.int v1), some (.int v2), some (.int v3)] []) (h : mX9_acts_b74 rec48 v1 v2 σ = some r) : AW X p l e (RM 13 0 0) s m args below meth c 4 (ZM X below args s 0 0 (QMi f n r)) (rHm f σ) n 0 0 74 [some (.ref 181), some (.int v1), some (.int v2), none] [] := by
  have h : (if (σ.1 12) = (-1 : Int32) then ((mX9_act σ).bind fun r1 => mX9_acts_b87 rec48 v1 r1.1 r1.2) else mX9_acts_b87 rec48 v1 v2 σ) = some r := h
  refine aw_ald_n C dX9_acts_74 rfl ?_
  refine aw_get C (v := .int (σ.1 12)) gf_X9_26 (hm_M f σ) rfl dX9_acts_75 ?_
  refine aw_iconst C (-1) dX9_acts_78 ki_m1 ?_
  refine aw_icmp_ne C 87 dX9_acts_79 (by decide) (fun q => ?_) (fun q => ?_)
  · rw [if_neg q] at h
    refine aw_fl [some (.ref 181), some (.int v1), some (.int v2), none] ⟨rfl, ⟨rfl, ⟨rfl, trivial⟩⟩⟩ ?_
    exact rmX9_acts_b87 C Hr48 h
  · rw [if_pos q] at h
    refine aw_ald_n C dX9_acts_82 rfl ?_
    obtain ⟨r1, h1, h⟩ := Option.bind_eq_some_iff.mp h
    refine aw_callV C (ci := 9) (b := 181) [] mv_X9_423 rfl rfl (hm_M f σ) (rmX9_act h1) rfl dX9_acts_83 (Nat.le_of_ble_eq_true rfl) (Nat.le_of_ble_eq_true rfl) rfl (Nat.le_of_ble_eq_true rfl) (Nat.le_of_ble_eq_true rfl) (Nat.le_of_ble_eq_true rfl) (fun v9 f9 n9 hh => ?_)
    obtain ⟨rfl, rfl, rfl⟩ := hh
    refine aw_istore_n C dX9_acts_86 (by decide) rfl ?_
    refine aw_nl [some (.ref 181), some (.int v1), some (.int r1.1), none] rfl ?_
    refine aw_fl [some (.ref 181), some (.int v1), some (.int r1.1), none] ⟨rfl, ⟨rfl, ⟨rfl, trivial⟩⟩⟩ ?_
    exact rmX9_acts_b87 C Hr48 h
def mX9_acts_l48 : Nat → Int32 → Int32 → Int32 → RS9 → Option (Int32 × RS9)
  | 0, _, _, _, _ => none
  | d + 1, v1, v2, v3, σ => (if v3 = (0 : Int32) then mX9_acts_b154 v1 v2 σ else (if (σ.1 12) = (-1 : Int32) then (if v1 = (14 : Int32) then ((mX9_here σ).bind fun r1 => ((mX9_wrong r1.1 r1.2).bind fun r2 => mX9_acts_b74 (fun v1 v2 v3 σ => mX9_acts_l48 d v1 v2 v3 σ) v1 v2 r2.2)) else mX9_acts_b74 (fun v1 v2 v3 σ => mX9_acts_l48 d v1 v2 v3 σ) v1 v2 σ) else mX9_acts_b154 v1 v2 σ))
set_option maxHeartbeats 1000000 in
theorem rmX9_acts_l48 {X : GX} {p : Program} {l : Launch} {e : Env} {s : State} {m : MethodId} {args : Array Value} {below : List Frame} {meth : Method} {c : Code} {f : AH} {n : Nat} {r : Int32 × RS9} (C : CC X p l (RM 13 0 0) s m args meth c RX9 cX9_acts 4 (some .int)) : ∀ (d : Nat) (v1 : Int32) (v2 : Int32) (v3 : Int32) (σ : RS9) (_ : mX9_acts_l48 d v1 v2 v3 σ = some r), AW X p l e (RM 13 0 0) s m args below meth c 4 (ZM X below args s 0 0 (QMi f n r)) (rHm f σ) n 0 0 48 [some (.ref 181), some (.int v1), some (.int v2), some (.int v3)] [] := by
  intro d
  induction d with
  | zero =>
    intro v1 v2 v3 σ h
    exact nomatch (show (none : Option (Int32 × RS9)) = some r from h)
  | succ d ih =>
    intro v1 v2 v3 σ h
    have h : (if v3 = (0 : Int32) then mX9_acts_b154 v1 v2 σ else (if (σ.1 12) = (-1 : Int32) then (if v1 = (14 : Int32) then ((mX9_here σ).bind fun r1 => ((mX9_wrong r1.1 r1.2).bind fun r2 => mX9_acts_b74 (fun v1 v2 v3 σ => mX9_acts_l48 d v1 v2 v3 σ) v1 v2 r2.2)) else mX9_acts_b74 (fun v1 v2 v3 σ => mX9_acts_l48 d v1 v2 v3 σ) v1 v2 σ) else mX9_acts_b154 v1 v2 σ)) = some r := h
    refine aw_iload_n C dX9_acts_48 rfl ?_
    refine aw_if_eq C 154 dX9_acts_49 (by decide) (fun q => ?_) (fun q => ?_)
    · rw [if_pos q] at h
      refine aw_fl [some (.ref 181), some (.int v1), some (.int v2), none] ⟨rfl, ⟨rfl, ⟨rfl, trivial⟩⟩⟩ ?_
      exact rmX9_acts_b154 C h
    · rw [if_neg q] at h
      refine aw_ald_n C dX9_acts_52 rfl ?_
      refine aw_get C (v := .int (σ.1 12)) gf_X9_26 (hm_M f σ) rfl dX9_acts_53 ?_
      refine aw_iconst C (-1) dX9_acts_56 ki_m1 ?_
      refine aw_icmp_ne C 154 dX9_acts_57 (by decide) (fun q => ?_) (fun q => ?_)
      · rw [if_neg q] at h
        refine aw_fl [some (.ref 181), some (.int v1), some (.int v2), none] ⟨rfl, ⟨rfl, ⟨rfl, trivial⟩⟩⟩ ?_
        exact rmX9_acts_b154 C h
      · rw [if_pos q] at h
        refine aw_iload_n C dX9_acts_60 rfl ?_
        refine aw_bipush C 14 dX9_acts_61 kb_14 ?_
        refine aw_icmp_ne C 74 dX9_acts_63 (by decide) (fun q => ?_) (fun q => ?_)
        · rw [if_neg q] at h
          refine aw_fl [some (.ref 181), some (.int v1), some (.int v2), none] ⟨rfl, ⟨rfl, ⟨rfl, trivial⟩⟩⟩ ?_
          exact rmX9_acts_b74 C (fun v1 v2 v3 σ h => ih v1 v2 v3 σ h) h
        · rw [if_pos q] at h
          refine aw_ald_n C dX9_acts_66 rfl ?_
          refine aw_ald_n C dX9_acts_67 rfl ?_
          obtain ⟨r1, h1, h⟩ := Option.bind_eq_some_iff.mp h
          refine aw_callV C (ci := 9) (b := 181) [] mv_X9_346 rfl rfl (hm_M f σ) (rmX9_here h1) rfl dX9_acts_68 (Nat.le_of_ble_eq_true rfl) (Nat.le_of_ble_eq_true rfl) rfl (Nat.le_of_ble_eq_true rfl) (Nat.le_of_ble_eq_true rfl) (Nat.le_of_ble_eq_true rfl) (fun v9 f9 n9 hh => ?_)
          obtain ⟨rfl, rfl, rfl⟩ := hh
          obtain ⟨r2, h2, h⟩ := Option.bind_eq_some_iff.mp h
          refine aw_callV C (ci := 9) (b := 181) [.int r1.1] mv_X9_352 rfl rfl (hm_M f r1.2) (rmX9_wrong h2) rfl dX9_acts_71 (Nat.le_of_ble_eq_true rfl) (Nat.le_of_ble_eq_true rfl) rfl (Nat.le_of_ble_eq_true rfl) (Nat.le_of_ble_eq_true rfl) (Nat.le_of_ble_eq_true rfl) (fun v9 f9 n9 hh => ?_)
          obtain ⟨rfl, rfl, rfl⟩ := hh
          refine aw_fl [some (.ref 181), some (.int v1), some (.int v2), none] ⟨rfl, ⟨rfl, ⟨rfl, trivial⟩⟩⟩ ?_
          exact rmX9_acts_b74 C (fun v1 v2 v3 σ h => ih v1 v2 v3 σ h) h
def mX9_acts_b47 (v1 : Int32) (v2 : Int32) (s0 : Int32) (σ : RS9) : Option (Int32 × RS9) := mX9_acts_l48 rFU v1 v2 s0 σ
set_option maxHeartbeats 1000000 in
theorem rmX9_acts_b47 {X : GX} {p : Program} {l : Launch} {e : Env} {s : State} {m : MethodId} {args : Array Value} {below : List Frame} {meth : Method} {c : Code} {f : AH} {n : Nat} {r : Int32 × RS9} {v1 : Int32} {v2 : Int32} {s0 : Int32} {σ : RS9} (C : CC X p l (RM 13 0 0) s m args meth c RX9 cX9_acts 4 (some .int)) (h : mX9_acts_b47 v1 v2 s0 σ = some r) : AW X p l e (RM 13 0 0) s m args below meth c 4 (ZM X below args s 0 0 (QMi f n r)) (rHm f σ) n 0 0 47 [some (.ref 181), some (.int v1), some (.int v2), none] [.int s0] := by
  have h : mX9_acts_l48 rFU v1 v2 s0 σ = some r := h
  refine aw_istore_n C dX9_acts_47 (by decide) rfl ?_
  refine aw_nl [some (.ref 181), some (.int v1), some (.int v2), some (.int s0)] rfl ?_
  refine aw_fl [some (.ref 181), some (.int v1), some (.int v2), some (.int s0)] ⟨rfl, ⟨rfl, ⟨rfl, ⟨rfl, trivial⟩⟩⟩⟩ ?_
  exact rmX9_acts_l48 C rFU v1 v2 s0 σ h
def mX9_acts (σ : RS9) : Option (Int32 × RS9) := ((mX9_putsAside (rSf (rSf (rSf (rSf σ 12 (-1 : Int32)) 10 (σ.1 9)) 9 (0 : Int32)) 11 (0 : Int32))).bind fun r1 => ((mX9_here r1.2).bind fun r2 => (if (r2.2.1 10) ≤ r2.1 then mX9_acts_b47 (0 : Int32) (0 : Int32) (0 : Int32) r2.2 else mX9_acts_b47 (0 : Int32) (0 : Int32) (1 : Int32) r2.2)))
set_option maxHeartbeats 1000000 in
theorem rmX9_acts {X : GX} {l : Launch} {f : AH} {n : Nat} {r : Int32 × RS9} {σ : RS9} (h : mX9_acts σ = some r) : AM X l yX9_acts cX9_acts 4 (some .int) 13 0 0 [.ref 181] (rHm f σ) n (QMi f n r) := by
  have h : ((mX9_putsAside (rSf (rSf (rSf (rSf σ 12 (-1 : Int32)) 10 (σ.1 9)) 9 (0 : Int32)) 11 (0 : Int32))).bind fun r1 => ((mX9_here r1.2).bind fun r2 => (if (r2.2.1 10) ≤ r2.1 then mX9_acts_b47 (0 : Int32) (0 : Int32) (0 : Int32) r2.2 else mX9_acts_b47 (0 : Int32) (0 : Int32) (1 : Int32) r2.2))) = some r := h
  refine AM.of (by decide +kernel) rfl (Nat.le_of_ble_eq_true rfl) (fun p e s m args below meth c C _ => ?_)
  refine aw_nl [some (.ref 181), none, none, none] rfl ?_
  refine aw_ald_n C dX9_acts_0 rfl ?_
  refine aw_iconst C (-1) dX9_acts_1 ki_m1 ?_
  refine am_put C gf_X9_26 nf9_12 rfl rfl dX9_acts_2 ?_
  refine aw_ald_n C dX9_acts_5 rfl ?_
  refine aw_ald_n C dX9_acts_6 rfl ?_
  refine aw_get C (v := .int (σ.1 9)) gf_X9_337 (hm_M f (rSf σ 12 (-1 : Int32))) rfl dX9_acts_7 ?_
  refine am_put C gf_X9_343 nf9_10 rfl rfl dX9_acts_10 ?_
  refine aw_ald_n C dX9_acts_13 rfl ?_
  refine aw_iconst C 0 dX9_acts_14 ki_0 ?_
  refine am_put C gf_X9_337 nf9_9 rfl rfl dX9_acts_15 ?_
  refine aw_ald_n C dX9_acts_18 rfl ?_
  refine aw_iconst C 0 dX9_acts_19 ki_0 ?_
  refine am_put C gf_X9_340 nf9_11 rfl rfl dX9_acts_20 ?_
  refine aw_ald_n C dX9_acts_23 rfl ?_
  obtain ⟨r1, h1, h⟩ := Option.bind_eq_some_iff.mp h
  refine aw_callV C (ci := 9) (b := 181) [] mv_X9_420 rfl rfl (hm_M f (rSf (rSf (rSf (rSf σ 12 (-1 : Int32)) 10 (σ.1 9)) 9 (0 : Int32)) 11 (0 : Int32))) (rmX9_putsAside h1) rfl dX9_acts_24 (Nat.le_of_ble_eq_true rfl) (Nat.le_of_ble_eq_true rfl) rfl (Nat.le_of_ble_eq_true rfl) (Nat.le_of_ble_eq_true rfl) (Nat.le_of_ble_eq_true rfl) (fun v9 f9 n9 hh => ?_)
  obtain ⟨rfl, rfl, rfl⟩ := hh
  refine aw_iconst C 0 dX9_acts_27 ki_0 ?_
  refine aw_istore_n C dX9_acts_28 (by decide) rfl ?_
  refine aw_nl [some (.ref 181), some (.int (0 : Int32)), none, none] rfl ?_
  refine aw_iconst C 0 dX9_acts_29 ki_0 ?_
  refine aw_istore_n C dX9_acts_30 (by decide) rfl ?_
  refine aw_nl [some (.ref 181), some (.int (0 : Int32)), some (.int (0 : Int32)), none] rfl ?_
  refine aw_ald_n C dX9_acts_31 rfl ?_
  obtain ⟨r2, h2, h⟩ := Option.bind_eq_some_iff.mp h
  refine aw_callV C (ci := 9) (b := 181) [] mv_X9_346 rfl rfl (hm_M f r1.2) (rmX9_here h2) rfl dX9_acts_32 (Nat.le_of_ble_eq_true rfl) (Nat.le_of_ble_eq_true rfl) rfl (Nat.le_of_ble_eq_true rfl) (Nat.le_of_ble_eq_true rfl) (Nat.le_of_ble_eq_true rfl) (fun v9 f9 n9 hh => ?_)
  obtain ⟨rfl, rfl, rfl⟩ := hh
  refine aw_ald_n C dX9_acts_35 rfl ?_
  refine aw_get C (v := .int (r2.2.1 10)) gf_X9_343 (hm_M f r2.2) rfl dX9_acts_36 ?_
  refine aw_icmp_ge C 46 dX9_acts_39 (by decide) (fun q => ?_) (fun q => ?_)
  · rw [if_pos q] at h
    refine aw_iconst C 0 dX9_acts_46 ki_0 ?_
    refine aw_fl [some (.ref 181), some (.int (0 : Int32)), some (.int (0 : Int32)), none] ⟨rfl, ⟨rfl, ⟨rfl, trivial⟩⟩⟩ ?_
    exact rmX9_acts_b47 C h
  · rw [if_neg q] at h
    refine aw_iconst C 1 dX9_acts_42 ki_1 ?_
    refine aw_goto C 47 dX9_acts_43 (by decide) ?_
    refine aw_fl [some (.ref 181), some (.int (0 : Int32)), some (.int (0 : Int32)), none] ⟨rfl, ⟨rfl, ⟨rfl, trivial⟩⟩⟩ ?_
    exact rmX9_acts_b47 C h
end
/-! part 22cg.ref -/
section
def mX9_file_l19 : Nat → Int32 → Int32 → RS9 → Option (Int32 × RS9)
  | 0, _, _, _ => none
  | d + 1, v1, v2, σ => (if v1 ≤ v2 then ((mX9_cutsAnew σ).bind fun r1 => some ((r1.2.1 33), (rSf r1.2 5 (0 : Int32)))) else rCk (rIn v2 (rLen 8)) (rCk (rIn ((43 : Int32) + v2) (rLen 1)) (mX9_file_l19 d v1 (v2 + (1 : Int32)) (rSa σ 1 ((43 : Int32) + v2) (rGa σ 8 v2)))))
set_option maxHeartbeats 1000000 in
theorem rmX9_file_l19 {X : GX} {p : Program} {l : Launch} {e : Env} {s : State} {m : MethodId} {args : Array Value} {below : List Frame} {meth : Method} {c : Code} {f : AH} {n : Nat} {r : Int32 × RS9} (C : CC X p l (RM 10 0 0) s m args meth c RX9 cX9_file 3 (some .int)) : ∀ (d : Nat) (v1 : Int32) (v2 : Int32) (σ : RS9) (_ : mX9_file_l19 d v1 v2 σ = some r), AW X p l e (RM 10 0 0) s m args below meth c 3 (ZM X below args s 0 0 (QMi f n r)) (rHm f σ) n 0 0 19 [some (.ref 181), some (.int v1), some (.int v2)] [] := by
  intro d
  induction d with
  | zero =>
    intro v1 v2 σ h
    exact nomatch (show (none : Option (Int32 × RS9)) = some r from h)
  | succ d ih =>
    intro v1 v2 σ h
    have h : (if v1 ≤ v2 then ((mX9_cutsAnew σ).bind fun r1 => some ((r1.2.1 33), (rSf r1.2 5 (0 : Int32)))) else rCk (rIn v2 (rLen 8)) (rCk (rIn ((43 : Int32) + v2) (rLen 1)) (mX9_file_l19 d v1 (v2 + (1 : Int32)) (rSa σ 1 ((43 : Int32) + v2) (rGa σ 8 v2))))) = some r := h
    refine aw_iload_n C dX9_file_19 rfl ?_
    refine aw_iload_n C dX9_file_20 rfl ?_
    refine aw_icmp_ge C 45 dX9_file_21 (by decide) (fun q => ?_) (fun q => ?_)
    · rw [if_pos q] at h
      refine aw_ald_n C dX9_file_45 rfl ?_
      obtain ⟨r1, h1, h⟩ := Option.bind_eq_some_iff.mp h
      refine aw_callV C (ci := 9) (b := 181) [] mv_X9_322 rfl rfl (hm_M f σ) (rmX9_cutsAnew h1) rfl dX9_file_46 (Nat.le_of_ble_eq_true rfl) (Nat.le_of_ble_eq_true rfl) rfl (Nat.le_of_ble_eq_true rfl) (Nat.le_of_ble_eq_true rfl) (Nat.le_of_ble_eq_true rfl) (fun v9 f9 n9 hh => ?_)
      obtain ⟨rfl, rfl, rfl⟩ := hh
      refine aw_ald_n C dX9_file_49 rfl ?_
      refine aw_iconst C 0 dX9_file_50 ki_0 ?_
      refine am_put C gf_X9_325 nf9_5 rfl rfl dX9_file_51 ?_
      refine aw_ald_n C dX9_file_54 rfl ?_
      refine aw_get C (v := .int (r1.2.1 33)) gf_X9_204 (hm_M f (rSf r1.2 5 (0 : Int32))) rfl dX9_file_55 ?_
      cases h
      exact aw_iret C rfl rfl dX9_file_58 (Nat.le_refl _) (Nat.le_refl _) ⟨rfl, rfl, rfl⟩
    · rw [if_neg q] at h
      refine aw_ald_n C dX9_file_24 rfl ?_
      refine aw_get C (v := .ref (rAid 1)) gf_X9_7 (hm_M f σ) rfl dX9_file_25 ?_
      refine aw_bipush C 43 dX9_file_28 kb_43 ?_
      refine aw_iload_n C dX9_file_30 rfl ?_
      refine aw_iadd C dX9_file_31 ?_
      refine aw_ald_n C dX9_file_32 rfl ?_
      refine aw_get C (v := .ref (rAid 8)) gf_X9_23 (hm_M f σ) rfl dX9_file_33 ?_
      refine aw_iload_n C dX9_file_36 rfl ?_
      obtain ⟨hb2, h⟩ := ck_some h
      refine am_iald C (rGa σ 8 v2) rfl (inb_vp hb2) rfl dX9_file_37 ?_
      obtain ⟨hb3, h⟩ := ck_some h
      refine am_iast C rfl (inb_vp hb3) dX9_file_38 ?_
      refine aw_iinc C (v2 + (1 : Int32)) dX9_file_39 rfl (by rw [ki_1]) (by decide) rfl ?_
      refine aw_nl [some (.ref 181), some (.int v1), some (.int (v2 + (1 : Int32)))] rfl ?_
      refine aw_goto C 19 dX9_file_42 (by decide) ?_
      refine aw_fl [some (.ref 181), some (.int v1), some (.int (v2 + (1 : Int32)))] ⟨rfl, ⟨rfl, ⟨rfl, trivial⟩⟩⟩ ?_
      exact ih v1 (v2 + (1 : Int32)) (rSa σ 1 ((43 : Int32) + v2) (rGa σ 8 v2)) h
def mX9_file (σ : RS9) : Option (Int32 × RS9) := ((mX9_took (rSf σ 0 (0 : Int32))).bind fun r1 => rCk (rIn (0 : Int32) (rLen 1)) (mX9_file_l19 rFU r1.1 (0 : Int32) (rSa r1.2 1 (0 : Int32) r1.1)))
set_option maxHeartbeats 1000000 in
theorem rmX9_file {X : GX} {l : Launch} {f : AH} {n : Nat} {r : Int32 × RS9} {σ : RS9} (h : mX9_file σ = some r) : AM X l yX9_file cX9_file 3 (some .int) 10 0 0 [.ref 181] (rHm f σ) n (QMi f n r) := by
  have h : ((mX9_took (rSf σ 0 (0 : Int32))).bind fun r1 => rCk (rIn (0 : Int32) (rLen 1)) (mX9_file_l19 rFU r1.1 (0 : Int32) (rSa r1.2 1 (0 : Int32) r1.1))) = some r := h
  refine AM.of (by decide +kernel) rfl (Nat.le_of_ble_eq_true rfl) (fun p e s m args below meth c C _ => ?_)
  refine aw_nl [some (.ref 181), none, none] rfl ?_
  refine aw_ald_n C dX9_file_0 rfl ?_
  refine aw_iconst C 0 dX9_file_1 ki_0 ?_
  refine am_put C gf_X9_138 nf9_0 rfl rfl dX9_file_2 ?_
  refine aw_ald_n C dX9_file_5 rfl ?_
  obtain ⟨r1, h1, h⟩ := Option.bind_eq_some_iff.mp h
  refine aw_callV C (ci := 9) (b := 181) [] mv_X9_426 rfl rfl (hm_M f (rSf σ 0 (0 : Int32))) (rmX9_took h1) rfl dX9_file_6 (Nat.le_of_ble_eq_true rfl) (Nat.le_of_ble_eq_true rfl) rfl (Nat.le_of_ble_eq_true rfl) (Nat.le_of_ble_eq_true rfl) (Nat.le_of_ble_eq_true rfl) (fun v9 f9 n9 hh => ?_)
  obtain ⟨rfl, rfl, rfl⟩ := hh
  refine aw_istore_n C dX9_file_9 (by decide) rfl ?_
  refine aw_nl [some (.ref 181), some (.int r1.1), none] rfl ?_
  refine aw_ald_n C dX9_file_10 rfl ?_
  refine aw_get C (v := .ref (rAid 1)) gf_X9_7 (hm_M f r1.2) rfl dX9_file_11 ?_
  refine aw_iconst C 0 dX9_file_14 ki_0 ?_
  refine aw_iload_n C dX9_file_15 rfl ?_
  obtain ⟨hb2, h⟩ := ck_some h
  refine am_iast C rfl (inb_vp hb2) dX9_file_16 ?_
  refine aw_iconst C 0 dX9_file_17 ki_0 ?_
  refine aw_istore_n C dX9_file_18 (by decide) rfl ?_
  refine aw_nl [some (.ref 181), some (.int r1.1), some (.int (0 : Int32))] rfl ?_
  refine aw_fl [some (.ref 181), some (.int r1.1), some (.int (0 : Int32))] ⟨rfl, ⟨rfl, ⟨rfl, trivial⟩⟩⟩ ?_
  exact rmX9_file_l19 C rFU r1.1 (0 : Int32) (rSa r1.2 1 (0 : Int32) r1.1) h
def mX9_isDone_b42 (s0 : Int32) (σ : RS9) : Option (Int32 × RS9) := rCk (rNb s0) (some (s0, σ))
set_option maxHeartbeats 1000000 in
theorem rmX9_isDone_b42 {X : GX} {p : Program} {l : Launch} {e : Env} {s : State} {m : MethodId} {args : Array Value} {below : List Frame} {meth : Method} {c : Code} {f : AH} {n : Nat} {r : Int32 × RS9} {s0 : Int32} {σ : RS9} (C : CC X p l (RM 10 0 0) s m args meth c RX9 cX9_isDone 3 (some .boolean)) (h : mX9_isDone_b42 s0 σ = some r) : AW X p l e (RM 10 0 0) s m args below meth c 3 (ZM X below args s 0 0 (QMi f n r)) (rHm f σ) n 0 0 42 [none, none, none] [.int s0] := by
  have h : rCk (rNb s0) (some (s0, σ)) = some r := h
  obtain ⟨hb1, h⟩ := ck_some h
  cases h
  exact aw_iret C rfl (nb_nar hb1) dX9_isDone_42 (Nat.le_refl _) (Nat.le_refl _) ⟨rfl, rfl, rfl⟩
def mX9_isDone_b33 (v1 : Int32) (σ : RS9) : Option (Int32 × RS9) := (if v1 = (0 : Int32) then mX9_isDone_b42 (1 : Int32) σ else mX9_isDone_b42 (0 : Int32) σ)
set_option maxHeartbeats 1000000 in
theorem rmX9_isDone_b33 {X : GX} {p : Program} {l : Launch} {e : Env} {s : State} {m : MethodId} {args : Array Value} {below : List Frame} {meth : Method} {c : Code} {f : AH} {n : Nat} {r : Int32 × RS9} {v1 : Int32} {σ : RS9} (C : CC X p l (RM 10 0 0) s m args meth c RX9 cX9_isDone 3 (some .boolean)) (h : mX9_isDone_b33 v1 σ = some r) : AW X p l e (RM 10 0 0) s m args below meth c 3 (ZM X below args s 0 0 (QMi f n r)) (rHm f σ) n 0 0 33 [none, some (.int v1), none] [] := by
  have h : (if v1 = (0 : Int32) then mX9_isDone_b42 (1 : Int32) σ else mX9_isDone_b42 (0 : Int32) σ) = some r := h
  refine aw_iload_n C dX9_isDone_33 rfl ?_
  refine aw_if_ne C 41 dX9_isDone_34 (by decide) (fun q => ?_) (fun q => ?_)
  · rw [if_neg q] at h
    refine aw_iconst C 0 dX9_isDone_41 ki_0 ?_
    refine aw_fl [none, none, none] trivial ?_
    exact rmX9_isDone_b42 C h
  · rw [if_pos q] at h
    refine aw_iconst C 1 dX9_isDone_37 ki_1 ?_
    refine aw_goto C 42 dX9_isDone_38 (by decide) ?_
    refine aw_fl [none, none, none] trivial ?_
    exact rmX9_isDone_b42 C h
def mX9_isDone_b15 (v1 : Int32) (s1 : Int32) (σ : RS9) : Option (Int32 × RS9) := (if v1 = (0 : Int32) then ((mX9_remembers (rSf σ 0 s1)).bind fun r2 => mX9_isDone_b33 v1 r2.2) else ((mX9_putsBack (rSf σ 0 s1)).bind fun r1 => mX9_isDone_b33 v1 r1.2))
set_option maxHeartbeats 1000000 in
theorem rmX9_isDone_b15 {X : GX} {p : Program} {l : Launch} {e : Env} {s : State} {m : MethodId} {args : Array Value} {below : List Frame} {meth : Method} {c : Code} {f : AH} {n : Nat} {r : Int32 × RS9} {v1 : Int32} {s1 : Int32} {σ : RS9} (C : CC X p l (RM 10 0 0) s m args meth c RX9 cX9_isDone 3 (some .boolean)) (h : mX9_isDone_b15 v1 s1 σ = some r) : AW X p l e (RM 10 0 0) s m args below meth c 3 (ZM X below args s 0 0 (QMi f n r)) (rHm f σ) n 0 0 15 [some (.ref 181), some (.int v1), none] [.int s1, .ref 181] := by
  have h : (if v1 = (0 : Int32) then ((mX9_remembers (rSf σ 0 s1)).bind fun r2 => mX9_isDone_b33 v1 r2.2) else ((mX9_putsBack (rSf σ 0 s1)).bind fun r1 => mX9_isDone_b33 v1 r1.2)) = some r := h
  refine am_put C gf_X9_138 nf9_0 rfl rfl dX9_isDone_15 ?_
  refine aw_iload_n C dX9_isDone_18 rfl ?_
  refine aw_if_ne C 29 dX9_isDone_19 (by decide) (fun q => ?_) (fun q => ?_)
  · rw [if_neg q] at h
    refine aw_ald_n C dX9_isDone_29 rfl ?_
    obtain ⟨r1, h1, h⟩ := Option.bind_eq_some_iff.mp h
    refine aw_callV C (ci := 9) (b := 181) [] mv_X9_334 rfl rfl (hm_M f (rSf σ 0 s1)) (rmX9_putsBack h1) rfl dX9_isDone_30 (Nat.le_of_ble_eq_true rfl) (Nat.le_of_ble_eq_true rfl) rfl (Nat.le_of_ble_eq_true rfl) (Nat.le_of_ble_eq_true rfl) (Nat.le_of_ble_eq_true rfl) (fun v9 f9 n9 hh => ?_)
    obtain ⟨rfl, rfl, rfl⟩ := hh
    refine aw_fl [none, some (.int v1), none] ⟨rfl, trivial⟩ ?_
    exact rmX9_isDone_b33 C h
  · rw [if_pos q] at h
    refine aw_ald_n C dX9_isDone_22 rfl ?_
    obtain ⟨r2, h2, h⟩ := Option.bind_eq_some_iff.mp h
    refine aw_callV C (ci := 9) (b := 181) [] mv_X9_331 rfl rfl (hm_M f (rSf σ 0 s1)) (rmX9_remembers h2) rfl dX9_isDone_23 (Nat.le_of_ble_eq_true rfl) (Nat.le_of_ble_eq_true rfl) rfl (Nat.le_of_ble_eq_true rfl) (Nat.le_of_ble_eq_true rfl) (Nat.le_of_ble_eq_true rfl) (fun v9 f9 n9 hh => ?_)
    obtain ⟨rfl, rfl, rfl⟩ := hh
    refine aw_goto C 33 dX9_isDone_26 (by decide) ?_
    refine aw_fl [none, some (.int v1), none] ⟨rfl, trivial⟩ ?_
    exact rmX9_isDone_b33 C h
def mX9_isDone (v1 : Int32) (v2 : Int32) (σ : RS9) : Option (Int32 × RS9) := (if v1 ≤ (0 : Int32) then mX9_isDone_b15 v1 (0 : Int32) (rSf σ 7 v1) else mX9_isDone_b15 v1 v2 (rSf σ 7 v1))
set_option maxHeartbeats 1000000 in
theorem rmX9_isDone {X : GX} {l : Launch} {f : AH} {n : Nat} {r : Int32 × RS9} {v1 : Int32} {v2 : Int32} {σ : RS9} (h : mX9_isDone v1 v2 σ = some r) : AM X l yX9_isDone cX9_isDone 3 (some .boolean) 10 0 0 [.ref 181, .int v1, .int v2] (rHm f σ) n (QMi f n r) := by
  have h : (if v1 ≤ (0 : Int32) then mX9_isDone_b15 v1 (0 : Int32) (rSf σ 7 v1) else mX9_isDone_b15 v1 v2 (rSf σ 7 v1)) = some r := h
  refine AM.of (by decide +kernel) rfl (Nat.le_of_ble_eq_true rfl) (fun p e s m args below meth c C _ => ?_)
  refine aw_nl [some (.ref 181), some (.int v1), some (.int v2)] rfl ?_
  refine aw_ald_n C dX9_isDone_0 rfl ?_
  refine aw_iload_n C dX9_isDone_1 rfl ?_
  refine am_put C gf_X9_328 nf9_7 rfl rfl dX9_isDone_2 ?_
  refine aw_ald_n C dX9_isDone_5 rfl ?_
  refine aw_iload_n C dX9_isDone_6 rfl ?_
  refine aw_if_le C 14 dX9_isDone_7 (by decide) (fun q => ?_) (fun q => ?_)
  · rw [if_pos q] at h
    refine aw_iconst C 0 dX9_isDone_14 ki_0 ?_
    refine aw_fl [some (.ref 181), some (.int v1), none] ⟨rfl, ⟨rfl, trivial⟩⟩ ?_
    exact rmX9_isDone_b15 C h
  · rw [if_neg q] at h
    refine aw_iload_n C dX9_isDone_10 rfl ?_
    refine aw_goto C 15 dX9_isDone_11 (by decide) ?_
    refine aw_fl [some (.ref 181), some (.int v1), none] ⟨rfl, ⟨rfl, trivial⟩⟩ ?_
    exact rmX9_isDone_b15 C h
def mX9_kind_b69 (s0 : Int32) (σ : RS9) : Option (Int32 × RS9) := some (s0, σ)
set_option maxHeartbeats 1000000 in
theorem rmX9_kind_b69 {X : GX} {p : Program} {l : Launch} {e : Env} {s : State} {m : MethodId} {args : Array Value} {below : List Frame} {meth : Method} {c : Code} {f : AH} {n : Nat} {r : Int32 × RS9} {s0 : Int32} {σ : RS9} (C : CC X p l (RM 11 0 0) s m args meth c RX9 cX9_kind 3 (some .int)) (h : mX9_kind_b69 s0 σ = some r) : AW X p l e (RM 11 0 0) s m args below meth c 3 (ZM X below args s 0 0 (QMi f n r)) (rHm f σ) n 0 0 69 [none, none, none] [.int s0] := by
  have h : some (s0, σ) = some r := h
  cases h
  exact aw_iret C rfl rfl dX9_kind_69 (Nat.le_refl _) (Nat.le_refl _) ⟨rfl, rfl, rfl⟩
def mX9_kind_b50 (v1 : Int32) (s2 : Int32) (σ : RS9) : Option (Int32 × RS9) := ((mX9_rules s2 v1 σ).bind fun r1 => ((mX9_isDone r1.1 (0 : Int32) r1.2).bind fun r2 => (if r2.1 = (0 : Int32) then mX9_kind_b69 (0 : Int32) r2.2 else mX9_kind_b69 (r2.2.1 33) r2.2)))
set_option maxHeartbeats 1000000 in
theorem rmX9_kind_b50 {X : GX} {p : Program} {l : Launch} {e : Env} {s : State} {m : MethodId} {args : Array Value} {below : List Frame} {meth : Method} {c : Code} {f : AH} {n : Nat} {r : Int32 × RS9} {v1 : Int32} {s2 : Int32} {σ : RS9} (C : CC X p l (RM 11 0 0) s m args meth c RX9 cX9_kind 3 (some .int)) (h : mX9_kind_b50 v1 s2 σ = some r) : AW X p l e (RM 11 0 0) s m args below meth c 3 (ZM X below args s 0 0 (QMi f n r)) (rHm f σ) n 0 0 50 [some (.ref 181), some (.int v1), none] [.int s2, .ref 181, .ref 181] := by
  have h : ((mX9_rules s2 v1 σ).bind fun r1 => ((mX9_isDone r1.1 (0 : Int32) r1.2).bind fun r2 => (if r2.1 = (0 : Int32) then mX9_kind_b69 (0 : Int32) r2.2 else mX9_kind_b69 (r2.2.1 33) r2.2))) = some r := h
  refine aw_iload_n C dX9_kind_50 rfl ?_
  obtain ⟨r1, h1, h⟩ := Option.bind_eq_some_iff.mp h
  refine aw_callV C (ci := 9) (b := 181) [.int s2, .int v1] mv_X9_361 rfl rfl (hm_M f σ) (rmX9_rules h1) rfl dX9_kind_51 (Nat.le_of_ble_eq_true rfl) (Nat.le_of_ble_eq_true rfl) rfl (Nat.le_of_ble_eq_true rfl) (Nat.le_of_ble_eq_true rfl) (Nat.le_of_ble_eq_true rfl) (fun v9 f9 n9 hh => ?_)
  obtain ⟨rfl, rfl, rfl⟩ := hh
  refine aw_iconst C 0 dX9_kind_54 ki_0 ?_
  obtain ⟨r2, h2, h⟩ := Option.bind_eq_some_iff.mp h
  refine aw_callV C (ci := 9) (b := 181) [.int r1.1, .int (0 : Int32)] mv_X9_429 rfl rfl (hm_M f r1.2) (rmX9_isDone h2) rfl dX9_kind_55 (Nat.le_of_ble_eq_true rfl) (Nat.le_of_ble_eq_true rfl) rfl (Nat.le_of_ble_eq_true rfl) (Nat.le_of_ble_eq_true rfl) (Nat.le_of_ble_eq_true rfl) (fun v9 f9 n9 hh => ?_)
  obtain ⟨rfl, rfl, rfl⟩ := hh
  refine aw_if_eq C 68 dX9_kind_58 (by decide) (fun q => ?_) (fun q => ?_)
  · rw [if_pos q] at h
    refine aw_iconst C 0 dX9_kind_68 ki_0 ?_
    refine aw_fl [none, none, none] trivial ?_
    exact rmX9_kind_b69 C h
  · rw [if_neg q] at h
    refine aw_ald_n C dX9_kind_61 rfl ?_
    refine aw_get C (v := .int (r2.2.1 33)) gf_X9_204 (hm_M f r2.2) rfl dX9_kind_62 ?_
    refine aw_goto C 69 dX9_kind_65 (by decide) ?_
    refine aw_fl [none, none, none] trivial ?_
    exact rmX9_kind_b69 C h
def mX9_kind_b23 (v1 : Int32) (v2 : Int32) (s1 : Int32) (σ : RS9) : Option (Int32 × RS9) := (if s1 ≤ (0 : Int32) then ((mX9_putsAside (rSf σ 0 s1)).bind fun r1 => (if v2 = (0 : Int32) then mX9_kind_b50 v1 (1 : Int32) r1.2 else mX9_kind_b50 v1 (2 : Int32) r1.2)) else some ((0 : Int32), (rSf σ 0 s1)))
set_option maxHeartbeats 1000000 in
theorem rmX9_kind_b23 {X : GX} {p : Program} {l : Launch} {e : Env} {s : State} {m : MethodId} {args : Array Value} {below : List Frame} {meth : Method} {c : Code} {f : AH} {n : Nat} {r : Int32 × RS9} {v1 : Int32} {v2 : Int32} {s1 : Int32} {σ : RS9} (C : CC X p l (RM 11 0 0) s m args meth c RX9 cX9_kind 3 (some .int)) (h : mX9_kind_b23 v1 v2 s1 σ = some r) : AW X p l e (RM 11 0 0) s m args below meth c 3 (ZM X below args s 0 0 (QMi f n r)) (rHm f σ) n 0 0 23 [some (.ref 181), some (.int v1), some (.int v2)] [.int s1, .ref 181] := by
  have h : (if s1 ≤ (0 : Int32) then ((mX9_putsAside (rSf σ 0 s1)).bind fun r1 => (if v2 = (0 : Int32) then mX9_kind_b50 v1 (1 : Int32) r1.2 else mX9_kind_b50 v1 (2 : Int32) r1.2)) else some ((0 : Int32), (rSf σ 0 s1))) = some r := h
  refine am_put C gf_X9_138 nf9_0 rfl rfl dX9_kind_23 ?_
  refine aw_ald_n C dX9_kind_26 rfl ?_
  refine aw_get C (v := .int s1) gf_X9_138 (hm_M f (rSf σ 0 s1)) rfl dX9_kind_27 ?_
  refine aw_if_le C 35 dX9_kind_30 (by decide) (fun q => ?_) (fun q => ?_)
  · rw [if_pos q] at h
    refine aw_ald_n C dX9_kind_35 rfl ?_
    obtain ⟨r1, h1, h⟩ := Option.bind_eq_some_iff.mp h
    refine aw_callV C (ci := 9) (b := 181) [] mv_X9_420 rfl rfl (hm_M f (rSf σ 0 s1)) (rmX9_putsAside h1) rfl dX9_kind_36 (Nat.le_of_ble_eq_true rfl) (Nat.le_of_ble_eq_true rfl) rfl (Nat.le_of_ble_eq_true rfl) (Nat.le_of_ble_eq_true rfl) (Nat.le_of_ble_eq_true rfl) (fun v9 f9 n9 hh => ?_)
    obtain ⟨rfl, rfl, rfl⟩ := hh
    refine aw_ald_n C dX9_kind_39 rfl ?_
    refine aw_ald_n C dX9_kind_40 rfl ?_
    refine aw_iload_n C dX9_kind_41 rfl ?_
    refine aw_if_eq C 49 dX9_kind_42 (by decide) (fun q => ?_) (fun q => ?_)
    · rw [if_pos q] at h
      refine aw_iconst C 1 dX9_kind_49 ki_1 ?_
      refine aw_fl [some (.ref 181), some (.int v1), none] ⟨rfl, ⟨rfl, trivial⟩⟩ ?_
      exact rmX9_kind_b50 C h
    · rw [if_neg q] at h
      refine aw_iconst C 2 dX9_kind_45 ki_2 ?_
      refine aw_goto C 50 dX9_kind_46 (by decide) ?_
      refine aw_fl [some (.ref 181), some (.int v1), none] ⟨rfl, ⟨rfl, trivial⟩⟩ ?_
      exact rmX9_kind_b50 C h
  · rw [if_neg q] at h
    refine aw_iconst C 0 dX9_kind_33 ki_0 ?_
    cases h
    exact aw_iret C rfl rfl dX9_kind_34 (Nat.le_refl _) (Nat.le_refl _) ⟨rfl, rfl, rfl⟩
def mX9_kind_b11 (v1 : Int32) (v2 : Int32) (s1 : Int32) (s2 : Int32) (σ : RS9) : Option (Int32 × RS9) := ((mX9_isIn s1 s2 (3 : Int32) σ).bind fun r1 => (if r1.1 = (0 : Int32) then mX9_kind_b23 v1 v2 (1 : Int32) r1.2 else mX9_kind_b23 v1 v2 (0 : Int32) r1.2))
set_option maxHeartbeats 1000000 in
theorem rmX9_kind_b11 {X : GX} {p : Program} {l : Launch} {e : Env} {s : State} {m : MethodId} {args : Array Value} {below : List Frame} {meth : Method} {c : Code} {f : AH} {n : Nat} {r : Int32 × RS9} {v1 : Int32} {v2 : Int32} {s1 : Int32} {s2 : Int32} {σ : RS9} (C : CC X p l (RM 11 0 0) s m args meth c RX9 cX9_kind 3 (some .int)) (h : mX9_kind_b11 v1 v2 s1 s2 σ = some r) : AW X p l e (RM 11 0 0) s m args below meth c 3 (ZM X below args s 0 0 (QMi f n r)) (rHm f σ) n 0 0 11 [some (.ref 181), some (.int v1), some (.int v2)] [.int s2, .int s1, .ref 181] := by
  have h : ((mX9_isIn s1 s2 (3 : Int32) σ).bind fun r1 => (if r1.1 = (0 : Int32) then mX9_kind_b23 v1 v2 (1 : Int32) r1.2 else mX9_kind_b23 v1 v2 (0 : Int32) r1.2)) = some r := h
  refine aw_iconst C 3 dX9_kind_11 ki_3 ?_
  obtain ⟨r1, h1, h⟩ := Option.bind_eq_some_iff.mp h
  refine aw_callS C [.int s1, .int s2, .int (3 : Int32)] ms_X9_141 (rmX9_isIn h1) rfl dX9_kind_12 (Nat.le_of_ble_eq_true rfl) (Nat.le_of_ble_eq_true rfl) rfl (Nat.le_of_ble_eq_true rfl) (Nat.le_of_ble_eq_true rfl) (Nat.le_of_ble_eq_true rfl) (fun v9 f9 n9 hh => ?_)
  obtain ⟨rfl, rfl, rfl⟩ := hh
  refine aw_if_eq C 22 dX9_kind_15 (by decide) (fun q => ?_) (fun q => ?_)
  · rw [if_pos q] at h
    refine aw_iconst C 1 dX9_kind_22 ki_1 ?_
    refine aw_fl [some (.ref 181), some (.int v1), some (.int v2)] ⟨rfl, ⟨rfl, ⟨rfl, trivial⟩⟩⟩ ?_
    exact rmX9_kind_b23 C h
  · rw [if_neg q] at h
    refine aw_iconst C 0 dX9_kind_18 ki_0 ?_
    refine aw_goto C 23 dX9_kind_19 (by decide) ?_
    refine aw_fl [some (.ref 181), some (.int v1), some (.int v2)] ⟨rfl, ⟨rfl, ⟨rfl, trivial⟩⟩⟩ ?_
    exact rmX9_kind_b23 C h
def mX9_kind (v1 : Int32) (v2 : Int32) (σ : RS9) : Option (Int32 × RS9) := (if v2 = (0 : Int32) then mX9_kind_b11 v1 v2 v1 (0 : Int32) σ else mX9_kind_b11 v1 v2 v1 (-1 : Int32) σ)
set_option maxHeartbeats 1000000 in
theorem rmX9_kind {X : GX} {l : Launch} {f : AH} {n : Nat} {r : Int32 × RS9} {v1 : Int32} {v2 : Int32} {σ : RS9} (h : mX9_kind v1 v2 σ = some r) : AM X l yX9_kind cX9_kind 3 (some .int) 11 0 0 [.ref 181, .int v1, .int v2] (rHm f σ) n (QMi f n r) := by
  have h : (if v2 = (0 : Int32) then mX9_kind_b11 v1 v2 v1 (0 : Int32) σ else mX9_kind_b11 v1 v2 v1 (-1 : Int32) σ) = some r := h
  refine AM.of (by decide +kernel) rfl (Nat.le_of_ble_eq_true rfl) (fun p e s m args below meth c C _ => ?_)
  refine aw_nl [some (.ref 181), some (.int v1), some (.int v2)] rfl ?_
  refine aw_ald_n C dX9_kind_0 rfl ?_
  refine aw_iload_n C dX9_kind_1 rfl ?_
  refine aw_iload_n C dX9_kind_2 rfl ?_
  refine aw_if_eq C 10 dX9_kind_3 (by decide) (fun q => ?_) (fun q => ?_)
  · rw [if_pos q] at h
    refine aw_iconst C 0 dX9_kind_10 ki_0 ?_
    refine aw_fl [some (.ref 181), some (.int v1), some (.int v2)] ⟨rfl, ⟨rfl, ⟨rfl, trivial⟩⟩⟩ ?_
    exact rmX9_kind_b11 C h
  · rw [if_neg q] at h
    refine aw_iconst C (-1) dX9_kind_6 ki_m1 ?_
    refine aw_goto C 11 dX9_kind_7 (by decide) ?_
    refine aw_fl [some (.ref 181), some (.int v1), some (.int v2)] ⟨rfl, ⟨rfl, ⟨rfl, trivial⟩⟩⟩ ?_
    exact rmX9_kind_b11 C h
def mX9_rule_b83 (s0 : Int32) (σ : RS9) : Option (Int32 × RS9) := some (s0, σ)
set_option maxHeartbeats 1000000 in
theorem rmX9_rule_b83 {X : GX} {p : Program} {l : Launch} {e : Env} {s : State} {m : MethodId} {args : Array Value} {below : List Frame} {meth : Method} {c : Code} {f : AH} {n : Nat} {r : Int32 × RS9} {s0 : Int32} {σ : RS9} (C : CC X p l (RM 11 0 0) s m args meth c RX9 cX9_rule 3 (some .int)) (h : mX9_rule_b83 s0 σ = some r) : AW X p l e (RM 11 0 0) s m args below meth c 3 (ZM X below args s 0 0 (QMi f n r)) (rHm f σ) n 0 0 83 [none, none, none] [.int s0] := by
  have h : some (s0, σ) = some r := h
  cases h
  exact aw_iret C rfl rfl dX9_rule_83 (Nat.le_refl _) (Nat.le_refl _) ⟨rfl, rfl, rfl⟩
def mX9_rule_b64 (v2 : Int32) (s2 : Int32) (σ : RS9) : Option (Int32 × RS9) := ((mX9_rules s2 v2 σ).bind fun r1 => ((mX9_isDone r1.1 (0 : Int32) r1.2).bind fun r2 => (if r2.1 = (0 : Int32) then mX9_rule_b83 (0 : Int32) r2.2 else mX9_rule_b83 (r2.2.1 33) r2.2)))
set_option maxHeartbeats 1000000 in
theorem rmX9_rule_b64 {X : GX} {p : Program} {l : Launch} {e : Env} {s : State} {m : MethodId} {args : Array Value} {below : List Frame} {meth : Method} {c : Code} {f : AH} {n : Nat} {r : Int32 × RS9} {v2 : Int32} {s2 : Int32} {σ : RS9} (C : CC X p l (RM 11 0 0) s m args meth c RX9 cX9_rule 3 (some .int)) (h : mX9_rule_b64 v2 s2 σ = some r) : AW X p l e (RM 11 0 0) s m args below meth c 3 (ZM X below args s 0 0 (QMi f n r)) (rHm f σ) n 0 0 64 [some (.ref 181), none, some (.int v2)] [.int s2, .ref 181, .ref 181] := by
  have h : ((mX9_rules s2 v2 σ).bind fun r1 => ((mX9_isDone r1.1 (0 : Int32) r1.2).bind fun r2 => (if r2.1 = (0 : Int32) then mX9_rule_b83 (0 : Int32) r2.2 else mX9_rule_b83 (r2.2.1 33) r2.2))) = some r := h
  refine aw_iload_n C dX9_rule_64 rfl ?_
  obtain ⟨r1, h1, h⟩ := Option.bind_eq_some_iff.mp h
  refine aw_callV C (ci := 9) (b := 181) [.int s2, .int v2] mv_X9_361 rfl rfl (hm_M f σ) (rmX9_rules h1) rfl dX9_rule_65 (Nat.le_of_ble_eq_true rfl) (Nat.le_of_ble_eq_true rfl) rfl (Nat.le_of_ble_eq_true rfl) (Nat.le_of_ble_eq_true rfl) (Nat.le_of_ble_eq_true rfl) (fun v9 f9 n9 hh => ?_)
  obtain ⟨rfl, rfl, rfl⟩ := hh
  refine aw_iconst C 0 dX9_rule_68 ki_0 ?_
  obtain ⟨r2, h2, h⟩ := Option.bind_eq_some_iff.mp h
  refine aw_callV C (ci := 9) (b := 181) [.int r1.1, .int (0 : Int32)] mv_X9_429 rfl rfl (hm_M f r1.2) (rmX9_isDone h2) rfl dX9_rule_69 (Nat.le_of_ble_eq_true rfl) (Nat.le_of_ble_eq_true rfl) rfl (Nat.le_of_ble_eq_true rfl) (Nat.le_of_ble_eq_true rfl) (Nat.le_of_ble_eq_true rfl) (fun v9 f9 n9 hh => ?_)
  obtain ⟨rfl, rfl, rfl⟩ := hh
  refine aw_if_eq C 82 dX9_rule_72 (by decide) (fun q => ?_) (fun q => ?_)
  · rw [if_pos q] at h
    refine aw_iconst C 0 dX9_rule_82 ki_0 ?_
    refine aw_fl [none, none, none] trivial ?_
    exact rmX9_rule_b83 C h
  · rw [if_neg q] at h
    refine aw_ald_n C dX9_rule_75 rfl ?_
    refine aw_get C (v := .int (r2.2.1 33)) gf_X9_204 (hm_M f r2.2) rfl dX9_rule_76 ?_
    refine aw_goto C 83 dX9_rule_79 (by decide) ?_
    refine aw_fl [none, none, none] trivial ?_
    exact rmX9_rule_b83 C h
def mX9_rule_b37 (v1 : Int32) (v2 : Int32) (s1 : Int32) (σ : RS9) : Option (Int32 × RS9) := (if s1 ≤ (0 : Int32) then ((mX9_putsAside (rSf σ 0 s1)).bind fun r1 => (if v1 = (0 : Int32) then mX9_rule_b64 v2 (3 : Int32) r1.2 else mX9_rule_b64 v2 (4 : Int32) r1.2)) else some ((0 : Int32), (rSf σ 0 s1)))
set_option maxHeartbeats 1000000 in
theorem rmX9_rule_b37 {X : GX} {p : Program} {l : Launch} {e : Env} {s : State} {m : MethodId} {args : Array Value} {below : List Frame} {meth : Method} {c : Code} {f : AH} {n : Nat} {r : Int32 × RS9} {v1 : Int32} {v2 : Int32} {s1 : Int32} {σ : RS9} (C : CC X p l (RM 11 0 0) s m args meth c RX9 cX9_rule 3 (some .int)) (h : mX9_rule_b37 v1 v2 s1 σ = some r) : AW X p l e (RM 11 0 0) s m args below meth c 3 (ZM X below args s 0 0 (QMi f n r)) (rHm f σ) n 0 0 37 [some (.ref 181), some (.int v1), some (.int v2)] [.int s1, .ref 181] := by
  have h : (if s1 ≤ (0 : Int32) then ((mX9_putsAside (rSf σ 0 s1)).bind fun r1 => (if v1 = (0 : Int32) then mX9_rule_b64 v2 (3 : Int32) r1.2 else mX9_rule_b64 v2 (4 : Int32) r1.2)) else some ((0 : Int32), (rSf σ 0 s1))) = some r := h
  refine am_put C gf_X9_138 nf9_0 rfl rfl dX9_rule_37 ?_
  refine aw_ald_n C dX9_rule_40 rfl ?_
  refine aw_get C (v := .int s1) gf_X9_138 (hm_M f (rSf σ 0 s1)) rfl dX9_rule_41 ?_
  refine aw_if_le C 49 dX9_rule_44 (by decide) (fun q => ?_) (fun q => ?_)
  · rw [if_pos q] at h
    refine aw_ald_n C dX9_rule_49 rfl ?_
    obtain ⟨r1, h1, h⟩ := Option.bind_eq_some_iff.mp h
    refine aw_callV C (ci := 9) (b := 181) [] mv_X9_420 rfl rfl (hm_M f (rSf σ 0 s1)) (rmX9_putsAside h1) rfl dX9_rule_50 (Nat.le_of_ble_eq_true rfl) (Nat.le_of_ble_eq_true rfl) rfl (Nat.le_of_ble_eq_true rfl) (Nat.le_of_ble_eq_true rfl) (Nat.le_of_ble_eq_true rfl) (fun v9 f9 n9 hh => ?_)
    obtain ⟨rfl, rfl, rfl⟩ := hh
    refine aw_ald_n C dX9_rule_53 rfl ?_
    refine aw_ald_n C dX9_rule_54 rfl ?_
    refine aw_iload_n C dX9_rule_55 rfl ?_
    refine aw_if_ne C 63 dX9_rule_56 (by decide) (fun q => ?_) (fun q => ?_)
    · rw [if_neg q] at h
      refine aw_iconst C 4 dX9_rule_63 ki_4 ?_
      refine aw_fl [some (.ref 181), none, some (.int v2)] ⟨rfl, ⟨rfl, trivial⟩⟩ ?_
      exact rmX9_rule_b64 C h
    · rw [if_pos q] at h
      refine aw_iconst C 3 dX9_rule_59 ki_3 ?_
      refine aw_goto C 64 dX9_rule_60 (by decide) ?_
      refine aw_fl [some (.ref 181), none, some (.int v2)] ⟨rfl, ⟨rfl, trivial⟩⟩ ?_
      exact rmX9_rule_b64 C h
  · rw [if_neg q] at h
    refine aw_iconst C 0 dX9_rule_47 ki_0 ?_
    cases h
    exact aw_iret C rfl rfl dX9_rule_48 (Nat.le_refl _) (Nat.le_refl _) ⟨rfl, rfl, rfl⟩
def mX9_rule_b26 (v1 : Int32) (v2 : Int32) (s1 : Int32) (s2 : Int32) (s3 : Int32) (σ : RS9) : Option (Int32 × RS9) := ((mX9_isIn s1 s2 s3 σ).bind fun r1 => (if r1.1 = (0 : Int32) then mX9_rule_b37 v1 v2 (2 : Int32) r1.2 else mX9_rule_b37 v1 v2 (0 : Int32) r1.2))
set_option maxHeartbeats 1000000 in
theorem rmX9_rule_b26 {X : GX} {p : Program} {l : Launch} {e : Env} {s : State} {m : MethodId} {args : Array Value} {below : List Frame} {meth : Method} {c : Code} {f : AH} {n : Nat} {r : Int32 × RS9} {v1 : Int32} {v2 : Int32} {s1 : Int32} {s2 : Int32} {s3 : Int32} {σ : RS9} (C : CC X p l (RM 11 0 0) s m args meth c RX9 cX9_rule 3 (some .int)) (h : mX9_rule_b26 v1 v2 s1 s2 s3 σ = some r) : AW X p l e (RM 11 0 0) s m args below meth c 3 (ZM X below args s 0 0 (QMi f n r)) (rHm f σ) n 0 0 26 [some (.ref 181), some (.int v1), some (.int v2)] [.int s3, .int s2, .int s1, .ref 181] := by
  have h : ((mX9_isIn s1 s2 s3 σ).bind fun r1 => (if r1.1 = (0 : Int32) then mX9_rule_b37 v1 v2 (2 : Int32) r1.2 else mX9_rule_b37 v1 v2 (0 : Int32) r1.2)) = some r := h
  obtain ⟨r1, h1, h⟩ := Option.bind_eq_some_iff.mp h
  refine aw_callS C [.int s1, .int s2, .int s3] ms_X9_141 (rmX9_isIn h1) rfl dX9_rule_26 (Nat.le_of_ble_eq_true rfl) (Nat.le_of_ble_eq_true rfl) rfl (Nat.le_of_ble_eq_true rfl) (Nat.le_of_ble_eq_true rfl) (Nat.le_of_ble_eq_true rfl) (fun v9 f9 n9 hh => ?_)
  obtain ⟨rfl, rfl, rfl⟩ := hh
  refine aw_if_ne C 36 dX9_rule_29 (by decide) (fun q => ?_) (fun q => ?_)
  · rw [if_neg q] at h
    refine aw_iconst C 0 dX9_rule_36 ki_0 ?_
    refine aw_fl [some (.ref 181), some (.int v1), some (.int v2)] ⟨rfl, ⟨rfl, ⟨rfl, trivial⟩⟩⟩ ?_
    exact rmX9_rule_b37 C h
  · rw [if_pos q] at h
    refine aw_iconst C 2 dX9_rule_32 ki_2 ?_
    refine aw_goto C 37 dX9_rule_33 (by decide) ?_
    refine aw_fl [some (.ref 181), some (.int v1), some (.int v2)] ⟨rfl, ⟨rfl, ⟨rfl, trivial⟩⟩⟩ ?_
    exact rmX9_rule_b37 C h
def mX9_rule (v1 : Int32) (v2 : Int32) (σ : RS9) : Option (Int32 × RS9) := ((mX9_isIn v1 (0 : Int32) (1 : Int32) σ).bind fun r1 => (if r1.1 = (0 : Int32) then mX9_rule_b37 v1 v2 (1 : Int32) r1.2 else (if v1 = (0 : Int32) then mX9_rule_b26 v1 v2 v2 v1 (1 : Int32) r1.2 else mX9_rule_b26 v1 v2 v2 v1 (40 : Int32) r1.2)))
set_option maxHeartbeats 1000000 in
theorem rmX9_rule {X : GX} {l : Launch} {f : AH} {n : Nat} {r : Int32 × RS9} {v1 : Int32} {v2 : Int32} {σ : RS9} (h : mX9_rule v1 v2 σ = some r) : AM X l yX9_rule cX9_rule 3 (some .int) 11 0 0 [.ref 181, .int v1, .int v2] (rHm f σ) n (QMi f n r) := by
  have h : ((mX9_isIn v1 (0 : Int32) (1 : Int32) σ).bind fun r1 => (if r1.1 = (0 : Int32) then mX9_rule_b37 v1 v2 (1 : Int32) r1.2 else (if v1 = (0 : Int32) then mX9_rule_b26 v1 v2 v2 v1 (1 : Int32) r1.2 else mX9_rule_b26 v1 v2 v2 v1 (40 : Int32) r1.2))) = some r := h
  refine AM.of (by decide +kernel) rfl (Nat.le_of_ble_eq_true rfl) (fun p e s m args below meth c C _ => ?_)
  refine aw_nl [some (.ref 181), some (.int v1), some (.int v2)] rfl ?_
  refine aw_ald_n C dX9_rule_0 rfl ?_
  refine aw_iload_n C dX9_rule_1 rfl ?_
  refine aw_iconst C 0 dX9_rule_2 ki_0 ?_
  refine aw_iconst C 1 dX9_rule_3 ki_1 ?_
  obtain ⟨r1, h1, h⟩ := Option.bind_eq_some_iff.mp h
  refine aw_callS C [.int v1, .int (0 : Int32), .int (1 : Int32)] ms_X9_141 (rmX9_isIn h1) rfl dX9_rule_4 (Nat.le_of_ble_eq_true rfl) (Nat.le_of_ble_eq_true rfl) rfl (Nat.le_of_ble_eq_true rfl) (Nat.le_of_ble_eq_true rfl) (Nat.le_of_ble_eq_true rfl) (fun v9 f9 n9 hh => ?_)
  obtain ⟨rfl, rfl, rfl⟩ := hh
  refine aw_if_ne C 14 dX9_rule_7 (by decide) (fun q => ?_) (fun q => ?_)
  · rw [if_neg q] at h
    refine aw_iload_n C dX9_rule_14 rfl ?_
    refine aw_iload_n C dX9_rule_15 rfl ?_
    refine aw_iload_n C dX9_rule_16 rfl ?_
    refine aw_if_ne C 24 dX9_rule_17 (by decide) (fun q => ?_) (fun q => ?_)
    · rw [if_neg q] at h
      refine aw_bipush C 40 dX9_rule_24 kb_40 ?_
      refine aw_fl [some (.ref 181), some (.int v1), some (.int v2)] ⟨rfl, ⟨rfl, ⟨rfl, trivial⟩⟩⟩ ?_
      exact rmX9_rule_b26 C h
    · rw [if_pos q] at h
      refine aw_iconst C 1 dX9_rule_20 ki_1 ?_
      refine aw_goto C 26 dX9_rule_21 (by decide) ?_
      refine aw_fl [some (.ref 181), some (.int v1), some (.int v2)] ⟨rfl, ⟨rfl, ⟨rfl, trivial⟩⟩⟩ ?_
      exact rmX9_rule_b26 C h
  · rw [if_pos q] at h
    refine aw_iconst C 1 dX9_rule_10 ki_1 ?_
    refine aw_goto C 37 dX9_rule_11 (by decide) ?_
    refine aw_fl [some (.ref 181), some (.int v1), some (.int v2)] ⟨rfl, ⟨rfl, ⟨rfl, trivial⟩⟩⟩ ?_
    exact rmX9_rule_b37 C h
def mX9_lock_b57 (s0 : Int32) (σ : RS9) : Option (Int32 × RS9) := some (s0, σ)
set_option maxHeartbeats 1000000 in
theorem rmX9_lock_b57 {X : GX} {p : Program} {l : Launch} {e : Env} {s : State} {m : MethodId} {args : Array Value} {below : List Frame} {meth : Method} {c : Code} {f : AH} {n : Nat} {r : Int32 × RS9} {s0 : Int32} {σ : RS9} (C : CC X p l (RM 11 0 0) s m args meth c RX9 cX9_lock 2 (some .int)) (h : mX9_lock_b57 s0 σ = some r) : AW X p l e (RM 11 0 0) s m args below meth c 2 (ZM X below args s 0 0 (QMi f n r)) (rHm f σ) n 0 0 57 [none, none] [.int s0] := by
  have h : some (s0, σ) = some r := h
  cases h
  exact aw_iret C rfl rfl dX9_lock_57 (Nat.le_refl _) (Nat.le_refl _) ⟨rfl, rfl, rfl⟩
def mX9_lock_b19 (v1 : Int32) (s1 : Int32) (σ : RS9) : Option (Int32 × RS9) := (if s1 ≤ (0 : Int32) then ((mX9_putsAside (rSf σ 0 s1)).bind fun r1 => ((mX9_lock0 (0 : Int32) v1 r1.2).bind fun r2 => ((mX9_isDone r2.1 (2 : Int32) r2.2).bind fun r3 => (if r3.1 = (0 : Int32) then mX9_lock_b57 (0 : Int32) r3.2 else mX9_lock_b57 (r3.2.1 33) r3.2)))) else some ((0 : Int32), (rSf σ 0 s1)))
set_option maxHeartbeats 1000000 in
theorem rmX9_lock_b19 {X : GX} {p : Program} {l : Launch} {e : Env} {s : State} {m : MethodId} {args : Array Value} {below : List Frame} {meth : Method} {c : Code} {f : AH} {n : Nat} {r : Int32 × RS9} {v1 : Int32} {s1 : Int32} {σ : RS9} (C : CC X p l (RM 11 0 0) s m args meth c RX9 cX9_lock 2 (some .int)) (h : mX9_lock_b19 v1 s1 σ = some r) : AW X p l e (RM 11 0 0) s m args below meth c 2 (ZM X below args s 0 0 (QMi f n r)) (rHm f σ) n 0 0 19 [some (.ref 181), some (.int v1)] [.int s1, .ref 181] := by
  have h : (if s1 ≤ (0 : Int32) then ((mX9_putsAside (rSf σ 0 s1)).bind fun r1 => ((mX9_lock0 (0 : Int32) v1 r1.2).bind fun r2 => ((mX9_isDone r2.1 (2 : Int32) r2.2).bind fun r3 => (if r3.1 = (0 : Int32) then mX9_lock_b57 (0 : Int32) r3.2 else mX9_lock_b57 (r3.2.1 33) r3.2)))) else some ((0 : Int32), (rSf σ 0 s1))) = some r := h
  refine am_put C gf_X9_138 nf9_0 rfl rfl dX9_lock_19 ?_
  refine aw_ald_n C dX9_lock_22 rfl ?_
  refine aw_get C (v := .int s1) gf_X9_138 (hm_M f (rSf σ 0 s1)) rfl dX9_lock_23 ?_
  refine aw_if_le C 31 dX9_lock_26 (by decide) (fun q => ?_) (fun q => ?_)
  · rw [if_pos q] at h
    refine aw_ald_n C dX9_lock_31 rfl ?_
    obtain ⟨r1, h1, h⟩ := Option.bind_eq_some_iff.mp h
    refine aw_callV C (ci := 9) (b := 181) [] mv_X9_420 rfl rfl (hm_M f (rSf σ 0 s1)) (rmX9_putsAside h1) rfl dX9_lock_32 (Nat.le_of_ble_eq_true rfl) (Nat.le_of_ble_eq_true rfl) rfl (Nat.le_of_ble_eq_true rfl) (Nat.le_of_ble_eq_true rfl) (Nat.le_of_ble_eq_true rfl) (fun v9 f9 n9 hh => ?_)
    obtain ⟨rfl, rfl, rfl⟩ := hh
    refine aw_ald_n C dX9_lock_35 rfl ?_
    refine aw_ald_n C dX9_lock_36 rfl ?_
    refine aw_iconst C 0 dX9_lock_37 ki_0 ?_
    refine aw_iload_n C dX9_lock_38 rfl ?_
    obtain ⟨r2, h2, h⟩ := Option.bind_eq_some_iff.mp h
    refine aw_callV C (ci := 9) (b := 181) [.int (0 : Int32), .int v1] mv_X9_355 rfl rfl (hm_M f r1.2) (rmX9_lock0 h2) rfl dX9_lock_39 (Nat.le_of_ble_eq_true rfl) (Nat.le_of_ble_eq_true rfl) rfl (Nat.le_of_ble_eq_true rfl) (Nat.le_of_ble_eq_true rfl) (Nat.le_of_ble_eq_true rfl) (fun v9 f9 n9 hh => ?_)
    obtain ⟨rfl, rfl, rfl⟩ := hh
    refine aw_iconst C 2 dX9_lock_42 ki_2 ?_
    obtain ⟨r3, h3, h⟩ := Option.bind_eq_some_iff.mp h
    refine aw_callV C (ci := 9) (b := 181) [.int r2.1, .int (2 : Int32)] mv_X9_429 rfl rfl (hm_M f r2.2) (rmX9_isDone h3) rfl dX9_lock_43 (Nat.le_of_ble_eq_true rfl) (Nat.le_of_ble_eq_true rfl) rfl (Nat.le_of_ble_eq_true rfl) (Nat.le_of_ble_eq_true rfl) (Nat.le_of_ble_eq_true rfl) (fun v9 f9 n9 hh => ?_)
    obtain ⟨rfl, rfl, rfl⟩ := hh
    refine aw_if_eq C 56 dX9_lock_46 (by decide) (fun q => ?_) (fun q => ?_)
    · rw [if_pos q] at h
      refine aw_iconst C 0 dX9_lock_56 ki_0 ?_
      refine aw_fl [none, none] trivial ?_
      exact rmX9_lock_b57 C h
    · rw [if_neg q] at h
      refine aw_ald_n C dX9_lock_49 rfl ?_
      refine aw_get C (v := .int (r3.2.1 33)) gf_X9_204 (hm_M f r3.2) rfl dX9_lock_50 ?_
      refine aw_goto C 57 dX9_lock_53 (by decide) ?_
      refine aw_fl [none, none] trivial ?_
      exact rmX9_lock_b57 C h
  · rw [if_neg q] at h
    refine aw_iconst C 0 dX9_lock_29 ki_0 ?_
    cases h
    exact aw_iret C rfl rfl dX9_lock_30 (Nat.le_refl _) (Nat.le_refl _) ⟨rfl, rfl, rfl⟩
def mX9_lock (σ : RS9) : Option (Int32 × RS9) := ((mX9_took σ).bind fun r1 => ((mX9_isWord r1.1 r1.2).bind fun r2 => (if r2.1 = (0 : Int32) then mX9_lock_b19 r1.1 (1 : Int32) r2.2 else mX9_lock_b19 r1.1 (0 : Int32) r2.2)))
set_option maxHeartbeats 1000000 in
theorem rmX9_lock {X : GX} {l : Launch} {f : AH} {n : Nat} {r : Int32 × RS9} {σ : RS9} (h : mX9_lock σ = some r) : AM X l yX9_lock cX9_lock 2 (some .int) 11 0 0 [.ref 181] (rHm f σ) n (QMi f n r) := by
  have h : ((mX9_took σ).bind fun r1 => ((mX9_isWord r1.1 r1.2).bind fun r2 => (if r2.1 = (0 : Int32) then mX9_lock_b19 r1.1 (1 : Int32) r2.2 else mX9_lock_b19 r1.1 (0 : Int32) r2.2))) = some r := h
  refine AM.of (by decide +kernel) rfl (Nat.le_of_ble_eq_true rfl) (fun p e s m args below meth c C _ => ?_)
  refine aw_nl [some (.ref 181), none] rfl ?_
  refine aw_ald_n C dX9_lock_0 rfl ?_
  obtain ⟨r1, h1, h⟩ := Option.bind_eq_some_iff.mp h
  refine aw_callV C (ci := 9) (b := 181) [] mv_X9_426 rfl rfl (hm_M f σ) (rmX9_took h1) rfl dX9_lock_1 (Nat.le_of_ble_eq_true rfl) (Nat.le_of_ble_eq_true rfl) rfl (Nat.le_of_ble_eq_true rfl) (Nat.le_of_ble_eq_true rfl) (Nat.le_of_ble_eq_true rfl) (fun v9 f9 n9 hh => ?_)
  obtain ⟨rfl, rfl, rfl⟩ := hh
  refine aw_istore_n C dX9_lock_4 (by decide) rfl ?_
  refine aw_nl [some (.ref 181), some (.int r1.1)] rfl ?_
  refine aw_ald_n C dX9_lock_5 rfl ?_
  refine aw_ald_n C dX9_lock_6 rfl ?_
  refine aw_iload_n C dX9_lock_7 rfl ?_
  obtain ⟨r2, h2, h⟩ := Option.bind_eq_some_iff.mp h
  refine aw_callV C (ci := 9) (b := 181) [.int r1.1] mv_X9_432 rfl rfl (hm_M f r1.2) (rmX9_isWord h2) rfl dX9_lock_8 (Nat.le_of_ble_eq_true rfl) (Nat.le_of_ble_eq_true rfl) rfl (Nat.le_of_ble_eq_true rfl) (Nat.le_of_ble_eq_true rfl) (Nat.le_of_ble_eq_true rfl) (fun v9 f9 n9 hh => ?_)
  obtain ⟨rfl, rfl, rfl⟩ := hh
  refine aw_if_eq C 18 dX9_lock_11 (by decide) (fun q => ?_) (fun q => ?_)
  · rw [if_pos q] at h
    refine aw_iconst C 1 dX9_lock_18 ki_1 ?_
    refine aw_fl [some (.ref 181), some (.int r1.1)] ⟨rfl, ⟨rfl, trivial⟩⟩ ?_
    exact rmX9_lock_b19 C h
  · rw [if_neg q] at h
    refine aw_iconst C 0 dX9_lock_14 ki_0 ?_
    refine aw_goto C 19 dX9_lock_15 (by decide) ?_
    refine aw_fl [some (.ref 181), some (.int r1.1)] ⟨rfl, ⟨rfl, trivial⟩⟩ ?_
    exact rmX9_lock_b19 C h
def mX9_unlock_b24 (s0 : Int32) (σ : RS9) : Option (Int32 × RS9) := some (s0, σ)
set_option maxHeartbeats 1000000 in
theorem rmX9_unlock_b24 {X : GX} {p : Program} {l : Launch} {e : Env} {s : State} {m : MethodId} {args : Array Value} {below : List Frame} {meth : Method} {c : Code} {f : AH} {n : Nat} {r : Int32 × RS9} {s0 : Int32} {σ : RS9} (C : CC X p l (RM 11 0 0) s m args meth c RX9 cX9_unlock 1 (some .int)) (h : mX9_unlock_b24 s0 σ = some r) : AW X p l e (RM 11 0 0) s m args below meth c 1 (ZM X below args s 0 0 (QMi f n r)) (rHm f σ) n 0 0 24 [none] [.int s0] := by
  have h : some (s0, σ) = some r := h
  cases h
  exact aw_iret C rfl rfl dX9_unlock_24 (Nat.le_refl _) (Nat.le_refl _) ⟨rfl, rfl, rfl⟩
def mX9_unlock (σ : RS9) : Option (Int32 × RS9) := ((mX9_putsAside σ).bind fun r1 => ((mX9_unlocks r1.2).bind fun r2 => ((mX9_isDone r2.1 (0 : Int32) r2.2).bind fun r3 => (if r3.1 = (0 : Int32) then mX9_unlock_b24 (0 : Int32) r3.2 else mX9_unlock_b24 (r3.2.1 33) r3.2))))
set_option maxHeartbeats 1000000 in
theorem rmX9_unlock {X : GX} {l : Launch} {f : AH} {n : Nat} {r : Int32 × RS9} {σ : RS9} (h : mX9_unlock σ = some r) : AM X l yX9_unlock cX9_unlock 1 (some .int) 11 0 0 [.ref 181] (rHm f σ) n (QMi f n r) := by
  have h : ((mX9_putsAside σ).bind fun r1 => ((mX9_unlocks r1.2).bind fun r2 => ((mX9_isDone r2.1 (0 : Int32) r2.2).bind fun r3 => (if r3.1 = (0 : Int32) then mX9_unlock_b24 (0 : Int32) r3.2 else mX9_unlock_b24 (r3.2.1 33) r3.2)))) = some r := h
  refine AM.of (by decide +kernel) rfl (Nat.le_of_ble_eq_true rfl) (fun p e s m args below meth c C _ => ?_)
  refine aw_nl [some (.ref 181)] rfl ?_
  refine aw_ald_n C dX9_unlock_0 rfl ?_
  obtain ⟨r1, h1, h⟩ := Option.bind_eq_some_iff.mp h
  refine aw_callV C (ci := 9) (b := 181) [] mv_X9_420 rfl rfl (hm_M f σ) (rmX9_putsAside h1) rfl dX9_unlock_1 (Nat.le_of_ble_eq_true rfl) (Nat.le_of_ble_eq_true rfl) rfl (Nat.le_of_ble_eq_true rfl) (Nat.le_of_ble_eq_true rfl) (Nat.le_of_ble_eq_true rfl) (fun v9 f9 n9 hh => ?_)
  obtain ⟨rfl, rfl, rfl⟩ := hh
  refine aw_ald_n C dX9_unlock_4 rfl ?_
  refine aw_ald_n C dX9_unlock_5 rfl ?_
  obtain ⟨r2, h2, h⟩ := Option.bind_eq_some_iff.mp h
  refine aw_callV C (ci := 9) (b := 181) [] mv_X9_399 rfl rfl (hm_M f r1.2) (rmX9_unlocks h2) rfl dX9_unlock_6 (Nat.le_of_ble_eq_true rfl) (Nat.le_of_ble_eq_true rfl) rfl (Nat.le_of_ble_eq_true rfl) (Nat.le_of_ble_eq_true rfl) (Nat.le_of_ble_eq_true rfl) (fun v9 f9 n9 hh => ?_)
  obtain ⟨rfl, rfl, rfl⟩ := hh
  refine aw_iconst C 0 dX9_unlock_9 ki_0 ?_
  obtain ⟨r3, h3, h⟩ := Option.bind_eq_some_iff.mp h
  refine aw_callV C (ci := 9) (b := 181) [.int r2.1, .int (0 : Int32)] mv_X9_429 rfl rfl (hm_M f r2.2) (rmX9_isDone h3) rfl dX9_unlock_10 (Nat.le_of_ble_eq_true rfl) (Nat.le_of_ble_eq_true rfl) rfl (Nat.le_of_ble_eq_true rfl) (Nat.le_of_ble_eq_true rfl) (Nat.le_of_ble_eq_true rfl) (fun v9 f9 n9 hh => ?_)
  obtain ⟨rfl, rfl, rfl⟩ := hh
  refine aw_if_eq C 23 dX9_unlock_13 (by decide) (fun q => ?_) (fun q => ?_)
  · rw [if_pos q] at h
    refine aw_iconst C 0 dX9_unlock_23 ki_0 ?_
    refine aw_fl [none] trivial ?_
    exact rmX9_unlock_b24 C h
  · rw [if_neg q] at h
    refine aw_ald_n C dX9_unlock_16 rfl ?_
    refine aw_get C (v := .int (r3.2.1 33)) gf_X9_204 (hm_M f r3.2) rfl dX9_unlock_17 ?_
    refine aw_goto C 24 dX9_unlock_20 (by decide) ?_
    refine aw_fl [none] trivial ?_
    exact rmX9_unlock_b24 C h
def mX9_tell0 (v1 : Int32) (v2 : Int32) (σ : RS9) : Option (Int32 × RS9) := ((mX9_isPieceThere v1 σ).bind fun r1 => (if r1.1 = (0 : Int32) then some ((1 : Int32), r1.2) else ((mX9_escapedFor v1 v2 r1.2).bind fun r2 => (if r2.1 = (-1 : Int32) then some ((2 : Int32), r2.2) else ((mX9_tells v1 v2 r2.2).bind fun r3 => ((mX9_builtMany r3.2).bind fun r4 => (if r4.1 ≤ (600 : Int32) then ((mX9_holdsTold v1 r4.2).bind fun r5 => ((mX9_remembersPair v1 v2 r5.2).bind fun r6 => some ((0 : Int32), r6.2))) else some ((3 : Int32), r4.2))))))))
set_option maxHeartbeats 1000000 in
theorem rmX9_tell0 {X : GX} {l : Launch} {f : AH} {n : Nat} {r : Int32 × RS9} {v1 : Int32} {v2 : Int32} {σ : RS9} (h : mX9_tell0 v1 v2 σ = some r) : AM X l yX9_tell0 cX9_tell0 3 (some .int) 10 0 0 [.ref 181, .int v1, .int v2] (rHm f σ) n (QMi f n r) := by
  have h : ((mX9_isPieceThere v1 σ).bind fun r1 => (if r1.1 = (0 : Int32) then some ((1 : Int32), r1.2) else ((mX9_escapedFor v1 v2 r1.2).bind fun r2 => (if r2.1 = (-1 : Int32) then some ((2 : Int32), r2.2) else ((mX9_tells v1 v2 r2.2).bind fun r3 => ((mX9_builtMany r3.2).bind fun r4 => (if r4.1 ≤ (600 : Int32) then ((mX9_holdsTold v1 r4.2).bind fun r5 => ((mX9_remembersPair v1 v2 r5.2).bind fun r6 => some ((0 : Int32), r6.2))) else some ((3 : Int32), r4.2)))))))) = some r := h
  refine AM.of (by decide +kernel) rfl (Nat.le_of_ble_eq_true rfl) (fun p e s m args below meth c C _ => ?_)
  refine aw_nl [some (.ref 181), some (.int v1), some (.int v2)] rfl ?_
  refine aw_ald_n C dX9_tell0_0 rfl ?_
  refine aw_iload_n C dX9_tell0_1 rfl ?_
  obtain ⟨r1, h1, h⟩ := Option.bind_eq_some_iff.mp h
  refine aw_callV C (ci := 9) (b := 181) [.int v1] mv_X9_293 rfl rfl (hm_M f σ) (rmX9_isPieceThere h1) rfl dX9_tell0_2 (Nat.le_of_ble_eq_true rfl) (Nat.le_of_ble_eq_true rfl) rfl (Nat.le_of_ble_eq_true rfl) (Nat.le_of_ble_eq_true rfl) (Nat.le_of_ble_eq_true rfl) (fun v9 f9 n9 hh => ?_)
  obtain ⟨rfl, rfl, rfl⟩ := hh
  refine aw_if_ne C 10 dX9_tell0_5 (by decide) (fun q => ?_) (fun q => ?_)
  · rw [if_neg q] at h
    refine aw_ald_n C dX9_tell0_10 rfl ?_
    refine aw_iload_n C dX9_tell0_11 rfl ?_
    refine aw_iload_n C dX9_tell0_12 rfl ?_
    obtain ⟨r2, h2, h⟩ := Option.bind_eq_some_iff.mp h
    refine aw_callV C (ci := 9) (b := 181) [.int v1, .int v2] mv_X9_287 rfl rfl (hm_M f r1.2) (rmX9_escapedFor h2) rfl dX9_tell0_13 (Nat.le_of_ble_eq_true rfl) (Nat.le_of_ble_eq_true rfl) rfl (Nat.le_of_ble_eq_true rfl) (Nat.le_of_ble_eq_true rfl) (Nat.le_of_ble_eq_true rfl) (fun v9 f9 n9 hh => ?_)
    obtain ⟨rfl, rfl, rfl⟩ := hh
    refine aw_iconst C (-1) dX9_tell0_16 ki_m1 ?_
    refine aw_icmp_ne C 22 dX9_tell0_17 (by decide) (fun q => ?_) (fun q => ?_)
    · rw [if_neg q] at h
      refine aw_ald_n C dX9_tell0_22 rfl ?_
      refine aw_iload_n C dX9_tell0_23 rfl ?_
      refine aw_iload_n C dX9_tell0_24 rfl ?_
      obtain ⟨r3, h3, h⟩ := Option.bind_eq_some_iff.mp h
      refine aw_callV C (ci := 9) (b := 181) [.int v1, .int v2] mv_X9_296 rfl rfl (hm_M f r2.2) (rmX9_tells h3) rfl dX9_tell0_25 (Nat.le_of_ble_eq_true rfl) (Nat.le_of_ble_eq_true rfl) rfl (Nat.le_of_ble_eq_true rfl) (Nat.le_of_ble_eq_true rfl) (Nat.le_of_ble_eq_true rfl) (fun v9 f9 n9 hh => ?_)
      obtain ⟨rfl, rfl, rfl⟩ := hh
      refine aw_ald_n C dX9_tell0_28 rfl ?_
      obtain ⟨r4, h4, h⟩ := Option.bind_eq_some_iff.mp h
      refine aw_callV C (ci := 9) (b := 181) [] mv_X9_300 rfl rfl (hm_M f r3.2) (rmX9_builtMany h4) rfl dX9_tell0_29 (Nat.le_of_ble_eq_true rfl) (Nat.le_of_ble_eq_true rfl) rfl (Nat.le_of_ble_eq_true rfl) (Nat.le_of_ble_eq_true rfl) (Nat.le_of_ble_eq_true rfl) (fun v9 f9 n9 hh => ?_)
      obtain ⟨rfl, rfl, rfl⟩ := hh
      refine aw_sipush C 600 dX9_tell0_32 ks_600 ?_
      refine aw_icmp_le C 40 dX9_tell0_35 (by decide) (fun q => ?_) (fun q => ?_)
      · rw [if_pos q] at h
        refine aw_ald_n C dX9_tell0_40 rfl ?_
        refine aw_iload_n C dX9_tell0_41 rfl ?_
        obtain ⟨r5, h5, h⟩ := Option.bind_eq_some_iff.mp h
        refine aw_callV C (ci := 9) (b := 181) [.int v1] mv_X9_283 rfl rfl (hm_M f r4.2) (rmX9_holdsTold h5) rfl dX9_tell0_42 (Nat.le_of_ble_eq_true rfl) (Nat.le_of_ble_eq_true rfl) rfl (Nat.le_of_ble_eq_true rfl) (Nat.le_of_ble_eq_true rfl) (Nat.le_of_ble_eq_true rfl) (fun v9 f9 n9 hh => ?_)
        obtain ⟨rfl, rfl, rfl⟩ := hh
        refine aw_ald_n C dX9_tell0_45 rfl ?_
        refine aw_iload_n C dX9_tell0_46 rfl ?_
        refine aw_iload_n C dX9_tell0_47 rfl ?_
        obtain ⟨r6, h6, h⟩ := Option.bind_eq_some_iff.mp h
        refine aw_callV C (ci := 9) (b := 181) [.int v1, .int v2] mv_X9_303 rfl rfl (hm_M f r5.2) (rmX9_remembersPair h6) rfl dX9_tell0_48 (Nat.le_of_ble_eq_true rfl) (Nat.le_of_ble_eq_true rfl) rfl (Nat.le_of_ble_eq_true rfl) (Nat.le_of_ble_eq_true rfl) (Nat.le_of_ble_eq_true rfl) (fun v9 f9 n9 hh => ?_)
        obtain ⟨rfl, rfl, rfl⟩ := hh
        refine aw_iconst C 0 dX9_tell0_51 ki_0 ?_
        cases h
        exact aw_iret C rfl rfl dX9_tell0_52 (Nat.le_refl _) (Nat.le_refl _) ⟨rfl, rfl, rfl⟩
      · rw [if_neg q] at h
        refine aw_iconst C 3 dX9_tell0_38 ki_3 ?_
        cases h
        exact aw_iret C rfl rfl dX9_tell0_39 (Nat.le_refl _) (Nat.le_refl _) ⟨rfl, rfl, rfl⟩
    · rw [if_pos q] at h
      refine aw_iconst C 2 dX9_tell0_20 ki_2 ?_
      cases h
      exact aw_iret C rfl rfl dX9_tell0_21 (Nat.le_refl _) (Nat.le_refl _) ⟨rfl, rfl, rfl⟩
  · rw [if_pos q] at h
    refine aw_iconst C 1 dX9_tell0_8 ki_1 ?_
    cases h
    exact aw_iret C rfl rfl dX9_tell0_9 (Nat.le_refl _) (Nat.le_refl _) ⟨rfl, rfl, rfl⟩
def mX9_tell_b55 (s0 : Int32) (σ : RS9) : Option (Int32 × RS9) := some (s0, σ)
set_option maxHeartbeats 1000000 in
theorem rmX9_tell_b55 {X : GX} {p : Program} {l : Launch} {e : Env} {s : State} {m : MethodId} {args : Array Value} {below : List Frame} {meth : Method} {c : Code} {f : AH} {n : Nat} {r : Int32 × RS9} {s0 : Int32} {σ : RS9} (C : CC X p l (RM 11 0 0) s m args meth c RX9 cX9_tell 3 (some .int)) (h : mX9_tell_b55 s0 σ = some r) : AW X p l e (RM 11 0 0) s m args below meth c 3 (ZM X below args s 0 0 (QMi f n r)) (rHm f σ) n 0 0 55 [none, none, none] [.int s0] := by
  have h : some (s0, σ) = some r := h
  cases h
  exact aw_iret C rfl rfl dX9_tell_55 (Nat.le_refl _) (Nat.le_refl _) ⟨rfl, rfl, rfl⟩
def mX9_tell_b17 (v1 : Int32) (v2 : Int32) (s1 : Int32) (σ : RS9) : Option (Int32 × RS9) := (if s1 ≤ (0 : Int32) then ((mX9_putsAside (rSf σ 0 s1)).bind fun r1 => ((mX9_tell0 v1 v2 r1.2).bind fun r2 => ((mX9_isDone r2.1 (2 : Int32) r2.2).bind fun r3 => (if r3.1 = (0 : Int32) then mX9_tell_b55 (0 : Int32) r3.2 else ((mX9_builtMany r3.2).bind fun r4 => mX9_tell_b55 r4.1 r4.2))))) else some ((0 : Int32), (rSf σ 0 s1)))
set_option maxHeartbeats 1000000 in
theorem rmX9_tell_b17 {X : GX} {p : Program} {l : Launch} {e : Env} {s : State} {m : MethodId} {args : Array Value} {below : List Frame} {meth : Method} {c : Code} {f : AH} {n : Nat} {r : Int32 × RS9} {v1 : Int32} {v2 : Int32} {s1 : Int32} {σ : RS9} (C : CC X p l (RM 11 0 0) s m args meth c RX9 cX9_tell 3 (some .int)) (h : mX9_tell_b17 v1 v2 s1 σ = some r) : AW X p l e (RM 11 0 0) s m args below meth c 3 (ZM X below args s 0 0 (QMi f n r)) (rHm f σ) n 0 0 17 [some (.ref 181), some (.int v1), some (.int v2)] [.int s1, .ref 181] := by
  have h : (if s1 ≤ (0 : Int32) then ((mX9_putsAside (rSf σ 0 s1)).bind fun r1 => ((mX9_tell0 v1 v2 r1.2).bind fun r2 => ((mX9_isDone r2.1 (2 : Int32) r2.2).bind fun r3 => (if r3.1 = (0 : Int32) then mX9_tell_b55 (0 : Int32) r3.2 else ((mX9_builtMany r3.2).bind fun r4 => mX9_tell_b55 r4.1 r4.2))))) else some ((0 : Int32), (rSf σ 0 s1))) = some r := h
  refine am_put C gf_X9_138 nf9_0 rfl rfl dX9_tell_17 ?_
  refine aw_ald_n C dX9_tell_20 rfl ?_
  refine aw_get C (v := .int s1) gf_X9_138 (hm_M f (rSf σ 0 s1)) rfl dX9_tell_21 ?_
  refine aw_if_le C 29 dX9_tell_24 (by decide) (fun q => ?_) (fun q => ?_)
  · rw [if_pos q] at h
    refine aw_ald_n C dX9_tell_29 rfl ?_
    obtain ⟨r1, h1, h⟩ := Option.bind_eq_some_iff.mp h
    refine aw_callV C (ci := 9) (b := 181) [] mv_X9_420 rfl rfl (hm_M f (rSf σ 0 s1)) (rmX9_putsAside h1) rfl dX9_tell_30 (Nat.le_of_ble_eq_true rfl) (Nat.le_of_ble_eq_true rfl) rfl (Nat.le_of_ble_eq_true rfl) (Nat.le_of_ble_eq_true rfl) (Nat.le_of_ble_eq_true rfl) (fun v9 f9 n9 hh => ?_)
    obtain ⟨rfl, rfl, rfl⟩ := hh
    refine aw_ald_n C dX9_tell_33 rfl ?_
    refine aw_ald_n C dX9_tell_34 rfl ?_
    refine aw_iload_n C dX9_tell_35 rfl ?_
    refine aw_iload_n C dX9_tell_36 rfl ?_
    obtain ⟨r2, h2, h⟩ := Option.bind_eq_some_iff.mp h
    refine aw_callV C (ci := 9) (b := 181) [.int v1, .int v2] mv_X9_438 rfl rfl (hm_M f r1.2) (rmX9_tell0 h2) rfl dX9_tell_37 (Nat.le_of_ble_eq_true rfl) (Nat.le_of_ble_eq_true rfl) rfl (Nat.le_of_ble_eq_true rfl) (Nat.le_of_ble_eq_true rfl) (Nat.le_of_ble_eq_true rfl) (fun v9 f9 n9 hh => ?_)
    obtain ⟨rfl, rfl, rfl⟩ := hh
    refine aw_iconst C 2 dX9_tell_40 ki_2 ?_
    obtain ⟨r3, h3, h⟩ := Option.bind_eq_some_iff.mp h
    refine aw_callV C (ci := 9) (b := 181) [.int r2.1, .int (2 : Int32)] mv_X9_429 rfl rfl (hm_M f r2.2) (rmX9_isDone h3) rfl dX9_tell_41 (Nat.le_of_ble_eq_true rfl) (Nat.le_of_ble_eq_true rfl) rfl (Nat.le_of_ble_eq_true rfl) (Nat.le_of_ble_eq_true rfl) (Nat.le_of_ble_eq_true rfl) (fun v9 f9 n9 hh => ?_)
    obtain ⟨rfl, rfl, rfl⟩ := hh
    refine aw_if_eq C 54 dX9_tell_44 (by decide) (fun q => ?_) (fun q => ?_)
    · rw [if_pos q] at h
      refine aw_iconst C 0 dX9_tell_54 ki_0 ?_
      refine aw_fl [none, none, none] trivial ?_
      exact rmX9_tell_b55 C h
    · rw [if_neg q] at h
      refine aw_ald_n C dX9_tell_47 rfl ?_
      obtain ⟨r4, h4, h⟩ := Option.bind_eq_some_iff.mp h
      refine aw_callV C (ci := 9) (b := 181) [] mv_X9_300 rfl rfl (hm_M f r3.2) (rmX9_builtMany h4) rfl dX9_tell_48 (Nat.le_of_ble_eq_true rfl) (Nat.le_of_ble_eq_true rfl) rfl (Nat.le_of_ble_eq_true rfl) (Nat.le_of_ble_eq_true rfl) (Nat.le_of_ble_eq_true rfl) (fun v9 f9 n9 hh => ?_)
      obtain ⟨rfl, rfl, rfl⟩ := hh
      refine aw_goto C 55 dX9_tell_51 (by decide) ?_
      refine aw_fl [none, none, none] trivial ?_
      exact rmX9_tell_b55 C h
  · rw [if_neg q] at h
    refine aw_iconst C 0 dX9_tell_27 ki_0 ?_
    cases h
    exact aw_iret C rfl rfl dX9_tell_28 (Nat.le_refl _) (Nat.le_refl _) ⟨rfl, rfl, rfl⟩
def mX9_tell (v1 : Int32) (σ : RS9) : Option (Int32 × RS9) := ((mX9_tookTold σ).bind fun r1 => (if r1.1 ≤ (60 : Int32) then mX9_tell_b17 v1 r1.1 (0 : Int32) r1.2 else mX9_tell_b17 v1 r1.1 (1 : Int32) r1.2))
set_option maxHeartbeats 1000000 in
theorem rmX9_tell {X : GX} {l : Launch} {f : AH} {n : Nat} {r : Int32 × RS9} {v1 : Int32} {σ : RS9} (h : mX9_tell v1 σ = some r) : AM X l yX9_tell cX9_tell 3 (some .int) 11 0 0 [.ref 181, .int v1] (rHm f σ) n (QMi f n r) := by
  have h : ((mX9_tookTold σ).bind fun r1 => (if r1.1 ≤ (60 : Int32) then mX9_tell_b17 v1 r1.1 (0 : Int32) r1.2 else mX9_tell_b17 v1 r1.1 (1 : Int32) r1.2)) = some r := h
  refine AM.of (by decide +kernel) rfl (Nat.le_of_ble_eq_true rfl) (fun p e s m args below meth c C _ => ?_)
  refine aw_nl [some (.ref 181), some (.int v1), none] rfl ?_
  refine aw_ald_n C dX9_tell_0 rfl ?_
  obtain ⟨r1, h1, h⟩ := Option.bind_eq_some_iff.mp h
  refine aw_callV C (ci := 9) (b := 181) [] mv_X9_435 rfl rfl (hm_M f σ) (rmX9_tookTold h1) rfl dX9_tell_1 (Nat.le_of_ble_eq_true rfl) (Nat.le_of_ble_eq_true rfl) rfl (Nat.le_of_ble_eq_true rfl) (Nat.le_of_ble_eq_true rfl) (Nat.le_of_ble_eq_true rfl) (fun v9 f9 n9 hh => ?_)
  obtain ⟨rfl, rfl, rfl⟩ := hh
  refine aw_istore_n C dX9_tell_4 (by decide) rfl ?_
  refine aw_nl [some (.ref 181), some (.int v1), some (.int r1.1)] rfl ?_
  refine aw_ald_n C dX9_tell_5 rfl ?_
  refine aw_iload_n C dX9_tell_6 rfl ?_
  refine aw_bipush C 60 dX9_tell_7 kb_60 ?_
  refine aw_icmp_le C 16 dX9_tell_9 (by decide) (fun q => ?_) (fun q => ?_)
  · rw [if_pos q] at h
    refine aw_iconst C 0 dX9_tell_16 ki_0 ?_
    refine aw_fl [some (.ref 181), some (.int v1), some (.int r1.1)] ⟨rfl, ⟨rfl, ⟨rfl, trivial⟩⟩⟩ ?_
    exact rmX9_tell_b17 C h
  · rw [if_neg q] at h
    refine aw_iconst C 1 dX9_tell_12 ki_1 ?_
    refine aw_goto C 17 dX9_tell_13 (by decide) ?_
    refine aw_fl [some (.ref 181), some (.int v1), some (.int r1.1)] ⟨rfl, ⟨rfl, ⟨rfl, trivial⟩⟩⟩ ?_
    exact rmX9_tell_b17 C h
def mX9_free_b25 (s0 : Int32) (σ : RS9) : Option (Int32 × RS9) := some (s0, σ)
set_option maxHeartbeats 1000000 in
theorem rmX9_free_b25 {X : GX} {p : Program} {l : Launch} {e : Env} {s : State} {m : MethodId} {args : Array Value} {below : List Frame} {meth : Method} {c : Code} {f : AH} {n : Nat} {r : Int32 × RS9} {s0 : Int32} {σ : RS9} (C : CC X p l (RM 11 0 0) s m args meth c RX9 cX9_free 2 (some .int)) (h : mX9_free_b25 s0 σ = some r) : AW X p l e (RM 11 0 0) s m args below meth c 2 (ZM X below args s 0 0 (QMi f n r)) (rHm f σ) n 0 0 25 [none, none] [.int s0] := by
  have h : some (s0, σ) = some r := h
  cases h
  exact aw_iret C rfl rfl dX9_free_25 (Nat.le_refl _) (Nat.le_refl _) ⟨rfl, rfl, rfl⟩
def mX9_free (v1 : Int32) (σ : RS9) : Option (Int32 × RS9) := ((mX9_putsAside σ).bind fun r1 => ((mX9_free0 v1 r1.2).bind fun r2 => ((mX9_isDone r2.1 (1 : Int32) r2.2).bind fun r3 => (if r3.1 = (0 : Int32) then mX9_free_b25 (0 : Int32) r3.2 else ((mX9_builtMany r3.2).bind fun r4 => mX9_free_b25 r4.1 r4.2)))))
set_option maxHeartbeats 1000000 in
theorem rmX9_free {X : GX} {l : Launch} {f : AH} {n : Nat} {r : Int32 × RS9} {v1 : Int32} {σ : RS9} (h : mX9_free v1 σ = some r) : AM X l yX9_free cX9_free 2 (some .int) 11 0 0 [.ref 181, .int v1] (rHm f σ) n (QMi f n r) := by
  have h : ((mX9_putsAside σ).bind fun r1 => ((mX9_free0 v1 r1.2).bind fun r2 => ((mX9_isDone r2.1 (1 : Int32) r2.2).bind fun r3 => (if r3.1 = (0 : Int32) then mX9_free_b25 (0 : Int32) r3.2 else ((mX9_builtMany r3.2).bind fun r4 => mX9_free_b25 r4.1 r4.2))))) = some r := h
  refine AM.of (by decide +kernel) rfl (Nat.le_of_ble_eq_true rfl) (fun p e s m args below meth c C _ => ?_)
  refine aw_nl [some (.ref 181), some (.int v1)] rfl ?_
  refine aw_ald_n C dX9_free_0 rfl ?_
  obtain ⟨r1, h1, h⟩ := Option.bind_eq_some_iff.mp h
  refine aw_callV C (ci := 9) (b := 181) [] mv_X9_420 rfl rfl (hm_M f σ) (rmX9_putsAside h1) rfl dX9_free_1 (Nat.le_of_ble_eq_true rfl) (Nat.le_of_ble_eq_true rfl) rfl (Nat.le_of_ble_eq_true rfl) (Nat.le_of_ble_eq_true rfl) (Nat.le_of_ble_eq_true rfl) (fun v9 f9 n9 hh => ?_)
  obtain ⟨rfl, rfl, rfl⟩ := hh
  refine aw_ald_n C dX9_free_4 rfl ?_
  refine aw_ald_n C dX9_free_5 rfl ?_
  refine aw_iload_n C dX9_free_6 rfl ?_
  obtain ⟨r2, h2, h⟩ := Option.bind_eq_some_iff.mp h
  refine aw_callV C (ci := 9) (b := 181) [.int v1] mv_X9_367 rfl rfl (hm_M f r1.2) (rmX9_free0 h2) rfl dX9_free_7 (Nat.le_of_ble_eq_true rfl) (Nat.le_of_ble_eq_true rfl) rfl (Nat.le_of_ble_eq_true rfl) (Nat.le_of_ble_eq_true rfl) (Nat.le_of_ble_eq_true rfl) (fun v9 f9 n9 hh => ?_)
  obtain ⟨rfl, rfl, rfl⟩ := hh
  refine aw_iconst C 1 dX9_free_10 ki_1 ?_
  obtain ⟨r3, h3, h⟩ := Option.bind_eq_some_iff.mp h
  refine aw_callV C (ci := 9) (b := 181) [.int r2.1, .int (1 : Int32)] mv_X9_429 rfl rfl (hm_M f r2.2) (rmX9_isDone h3) rfl dX9_free_11 (Nat.le_of_ble_eq_true rfl) (Nat.le_of_ble_eq_true rfl) rfl (Nat.le_of_ble_eq_true rfl) (Nat.le_of_ble_eq_true rfl) (Nat.le_of_ble_eq_true rfl) (fun v9 f9 n9 hh => ?_)
  obtain ⟨rfl, rfl, rfl⟩ := hh
  refine aw_if_eq C 24 dX9_free_14 (by decide) (fun q => ?_) (fun q => ?_)
  · rw [if_pos q] at h
    refine aw_iconst C 0 dX9_free_24 ki_0 ?_
    refine aw_fl [none, none] trivial ?_
    exact rmX9_free_b25 C h
  · rw [if_neg q] at h
    refine aw_ald_n C dX9_free_17 rfl ?_
    obtain ⟨r4, h4, h⟩ := Option.bind_eq_some_iff.mp h
    refine aw_callV C (ci := 9) (b := 181) [] mv_X9_300 rfl rfl (hm_M f r3.2) (rmX9_builtMany h4) rfl dX9_free_18 (Nat.le_of_ble_eq_true rfl) (Nat.le_of_ble_eq_true rfl) rfl (Nat.le_of_ble_eq_true rfl) (Nat.le_of_ble_eq_true rfl) (Nat.le_of_ble_eq_true rfl) (fun v9 f9 n9 hh => ?_)
    obtain ⟨rfl, rfl, rfl⟩ := hh
    refine aw_goto C 25 dX9_free_21 (by decide) ?_
    refine aw_fl [none, none] trivial ?_
    exact rmX9_free_b25 C h
end
/-! part 22ch.ref -/
section
def mX9_spread_b25 (s0 : Int32) (σ : RS9) : Option (Int32 × RS9) := some (s0, σ)
set_option maxHeartbeats 1000000 in
theorem rmX9_spread_b25 {X : GX} {p : Program} {l : Launch} {e : Env} {s : State} {m : MethodId} {args : Array Value} {below : List Frame} {meth : Method} {c : Code} {f : AH} {n : Nat} {r : Int32 × RS9} {s0 : Int32} {σ : RS9} (C : CC X p l (RM 11 0 0) s m args meth c RX9 cX9_spread 2 (some .int)) (h : mX9_spread_b25 s0 σ = some r) : AW X p l e (RM 11 0 0) s m args below meth c 2 (ZM X below args s 0 0 (QMi f n r)) (rHm f σ) n 0 0 25 [none, none] [.int s0] := by
  have h : some (s0, σ) = some r := h
  cases h
  exact aw_iret C rfl rfl dX9_spread_25 (Nat.le_refl _) (Nat.le_refl _) ⟨rfl, rfl, rfl⟩
def mX9_spread (v1 : Int32) (σ : RS9) : Option (Int32 × RS9) := ((mX9_putsAside σ).bind fun r1 => ((mX9_spread0 v1 r1.2).bind fun r2 => ((mX9_isDone r2.1 (1 : Int32) r2.2).bind fun r3 => (if r3.1 = (0 : Int32) then mX9_spread_b25 (0 : Int32) r3.2 else mX9_spread_b25 (r3.2.1 57) r3.2))))
set_option maxHeartbeats 1000000 in
theorem rmX9_spread {X : GX} {l : Launch} {f : AH} {n : Nat} {r : Int32 × RS9} {v1 : Int32} {σ : RS9} (h : mX9_spread v1 σ = some r) : AM X l yX9_spread cX9_spread 2 (some .int) 11 0 0 [.ref 181, .int v1] (rHm f σ) n (QMi f n r) := by
  have h : ((mX9_putsAside σ).bind fun r1 => ((mX9_spread0 v1 r1.2).bind fun r2 => ((mX9_isDone r2.1 (1 : Int32) r2.2).bind fun r3 => (if r3.1 = (0 : Int32) then mX9_spread_b25 (0 : Int32) r3.2 else mX9_spread_b25 (r3.2.1 57) r3.2)))) = some r := h
  refine AM.of (by decide +kernel) rfl (Nat.le_of_ble_eq_true rfl) (fun p e s m args below meth c C _ => ?_)
  refine aw_nl [some (.ref 181), some (.int v1)] rfl ?_
  refine aw_ald_n C dX9_spread_0 rfl ?_
  obtain ⟨r1, h1, h⟩ := Option.bind_eq_some_iff.mp h
  refine aw_callV C (ci := 9) (b := 181) [] mv_X9_420 rfl rfl (hm_M f σ) (rmX9_putsAside h1) rfl dX9_spread_1 (Nat.le_of_ble_eq_true rfl) (Nat.le_of_ble_eq_true rfl) rfl (Nat.le_of_ble_eq_true rfl) (Nat.le_of_ble_eq_true rfl) (Nat.le_of_ble_eq_true rfl) (fun v9 f9 n9 hh => ?_)
  obtain ⟨rfl, rfl, rfl⟩ := hh
  refine aw_ald_n C dX9_spread_4 rfl ?_
  refine aw_ald_n C dX9_spread_5 rfl ?_
  refine aw_iload_n C dX9_spread_6 rfl ?_
  obtain ⟨r2, h2, h⟩ := Option.bind_eq_some_iff.mp h
  refine aw_callV C (ci := 9) (b := 181) [.int v1] mv_X9_370 rfl rfl (hm_M f r1.2) (rmX9_spread0 h2) rfl dX9_spread_7 (Nat.le_of_ble_eq_true rfl) (Nat.le_of_ble_eq_true rfl) rfl (Nat.le_of_ble_eq_true rfl) (Nat.le_of_ble_eq_true rfl) (Nat.le_of_ble_eq_true rfl) (fun v9 f9 n9 hh => ?_)
  obtain ⟨rfl, rfl, rfl⟩ := hh
  refine aw_iconst C 1 dX9_spread_10 ki_1 ?_
  obtain ⟨r3, h3, h⟩ := Option.bind_eq_some_iff.mp h
  refine aw_callV C (ci := 9) (b := 181) [.int r2.1, .int (1 : Int32)] mv_X9_429 rfl rfl (hm_M f r2.2) (rmX9_isDone h3) rfl dX9_spread_11 (Nat.le_of_ble_eq_true rfl) (Nat.le_of_ble_eq_true rfl) rfl (Nat.le_of_ble_eq_true rfl) (Nat.le_of_ble_eq_true rfl) (Nat.le_of_ble_eq_true rfl) (fun v9 f9 n9 hh => ?_)
  obtain ⟨rfl, rfl, rfl⟩ := hh
  refine aw_if_eq C 24 dX9_spread_14 (by decide) (fun q => ?_) (fun q => ?_)
  · rw [if_pos q] at h
    refine aw_iconst C 0 dX9_spread_24 ki_0 ?_
    refine aw_fl [none, none] trivial ?_
    exact rmX9_spread_b25 C h
  · rw [if_neg q] at h
    refine aw_ald_n C dX9_spread_17 rfl ?_
    refine aw_get C (v := .int (r3.2.1 57)) gf_X9_306 (hm_M f r3.2) rfl dX9_spread_18 ?_
    refine aw_goto C 25 dX9_spread_21 (by decide) ?_
    refine aw_fl [none, none] trivial ?_
    exact rmX9_spread_b25 C h
def mX9_swap_b26 (s0 : Int32) (σ : RS9) : Option (Int32 × RS9) := some (s0, σ)
set_option maxHeartbeats 1000000 in
theorem rmX9_swap_b26 {X : GX} {p : Program} {l : Launch} {e : Env} {s : State} {m : MethodId} {args : Array Value} {below : List Frame} {meth : Method} {c : Code} {f : AH} {n : Nat} {r : Int32 × RS9} {s0 : Int32} {σ : RS9} (C : CC X p l (RM 11 0 0) s m args meth c RX9 cX9_swap 3 (some .int)) (h : mX9_swap_b26 s0 σ = some r) : AW X p l e (RM 11 0 0) s m args below meth c 3 (ZM X below args s 0 0 (QMi f n r)) (rHm f σ) n 0 0 26 [none, none, none] [.int s0] := by
  have h : some (s0, σ) = some r := h
  cases h
  exact aw_iret C rfl rfl dX9_swap_26 (Nat.le_refl _) (Nat.le_refl _) ⟨rfl, rfl, rfl⟩
def mX9_swap (v1 : Int32) (v2 : Int32) (σ : RS9) : Option (Int32 × RS9) := ((mX9_putsAside σ).bind fun r1 => ((mX9_swap0 v1 v2 r1.2).bind fun r2 => ((mX9_isDone r2.1 (1 : Int32) r2.2).bind fun r3 => (if r3.1 = (0 : Int32) then mX9_swap_b26 (0 : Int32) r3.2 else ((mX9_builtMany r3.2).bind fun r4 => mX9_swap_b26 r4.1 r4.2)))))
set_option maxHeartbeats 1000000 in
theorem rmX9_swap {X : GX} {l : Launch} {f : AH} {n : Nat} {r : Int32 × RS9} {v1 : Int32} {v2 : Int32} {σ : RS9} (h : mX9_swap v1 v2 σ = some r) : AM X l yX9_swap cX9_swap 3 (some .int) 11 0 0 [.ref 181, .int v1, .int v2] (rHm f σ) n (QMi f n r) := by
  have h : ((mX9_putsAside σ).bind fun r1 => ((mX9_swap0 v1 v2 r1.2).bind fun r2 => ((mX9_isDone r2.1 (1 : Int32) r2.2).bind fun r3 => (if r3.1 = (0 : Int32) then mX9_swap_b26 (0 : Int32) r3.2 else ((mX9_builtMany r3.2).bind fun r4 => mX9_swap_b26 r4.1 r4.2))))) = some r := h
  refine AM.of (by decide +kernel) rfl (Nat.le_of_ble_eq_true rfl) (fun p e s m args below meth c C _ => ?_)
  refine aw_nl [some (.ref 181), some (.int v1), some (.int v2)] rfl ?_
  refine aw_ald_n C dX9_swap_0 rfl ?_
  obtain ⟨r1, h1, h⟩ := Option.bind_eq_some_iff.mp h
  refine aw_callV C (ci := 9) (b := 181) [] mv_X9_420 rfl rfl (hm_M f σ) (rmX9_putsAside h1) rfl dX9_swap_1 (Nat.le_of_ble_eq_true rfl) (Nat.le_of_ble_eq_true rfl) rfl (Nat.le_of_ble_eq_true rfl) (Nat.le_of_ble_eq_true rfl) (Nat.le_of_ble_eq_true rfl) (fun v9 f9 n9 hh => ?_)
  obtain ⟨rfl, rfl, rfl⟩ := hh
  refine aw_ald_n C dX9_swap_4 rfl ?_
  refine aw_ald_n C dX9_swap_5 rfl ?_
  refine aw_iload_n C dX9_swap_6 rfl ?_
  refine aw_iload_n C dX9_swap_7 rfl ?_
  obtain ⟨r2, h2, h⟩ := Option.bind_eq_some_iff.mp h
  refine aw_callV C (ci := 9) (b := 181) [.int v1, .int v2] mv_X9_364 rfl rfl (hm_M f r1.2) (rmX9_swap0 h2) rfl dX9_swap_8 (Nat.le_of_ble_eq_true rfl) (Nat.le_of_ble_eq_true rfl) rfl (Nat.le_of_ble_eq_true rfl) (Nat.le_of_ble_eq_true rfl) (Nat.le_of_ble_eq_true rfl) (fun v9 f9 n9 hh => ?_)
  obtain ⟨rfl, rfl, rfl⟩ := hh
  refine aw_iconst C 1 dX9_swap_11 ki_1 ?_
  obtain ⟨r3, h3, h⟩ := Option.bind_eq_some_iff.mp h
  refine aw_callV C (ci := 9) (b := 181) [.int r2.1, .int (1 : Int32)] mv_X9_429 rfl rfl (hm_M f r2.2) (rmX9_isDone h3) rfl dX9_swap_12 (Nat.le_of_ble_eq_true rfl) (Nat.le_of_ble_eq_true rfl) rfl (Nat.le_of_ble_eq_true rfl) (Nat.le_of_ble_eq_true rfl) (Nat.le_of_ble_eq_true rfl) (fun v9 f9 n9 hh => ?_)
  obtain ⟨rfl, rfl, rfl⟩ := hh
  refine aw_if_eq C 25 dX9_swap_15 (by decide) (fun q => ?_) (fun q => ?_)
  · rw [if_pos q] at h
    refine aw_iconst C 0 dX9_swap_25 ki_0 ?_
    refine aw_fl [none, none, none] trivial ?_
    exact rmX9_swap_b26 C h
  · rw [if_neg q] at h
    refine aw_ald_n C dX9_swap_18 rfl ?_
    obtain ⟨r4, h4, h⟩ := Option.bind_eq_some_iff.mp h
    refine aw_callV C (ci := 9) (b := 181) [] mv_X9_300 rfl rfl (hm_M f r3.2) (rmX9_builtMany h4) rfl dX9_swap_19 (Nat.le_of_ble_eq_true rfl) (Nat.le_of_ble_eq_true rfl) rfl (Nat.le_of_ble_eq_true rfl) (Nat.le_of_ble_eq_true rfl) (Nat.le_of_ble_eq_true rfl) (fun v9 f9 n9 hh => ?_)
    obtain ⟨rfl, rfl, rfl⟩ := hh
    refine aw_goto C 26 dX9_swap_22 (by decide) ?_
    refine aw_fl [none, none, none] trivial ?_
    exact rmX9_swap_b26 C h
def mX9_wipe_b26 (s0 : Int32) (σ : RS9) : Option (Int32 × RS9) := some (s0, σ)
set_option maxHeartbeats 1000000 in
theorem rmX9_wipe_b26 {X : GX} {p : Program} {l : Launch} {e : Env} {s : State} {m : MethodId} {args : Array Value} {below : List Frame} {meth : Method} {c : Code} {f : AH} {n : Nat} {r : Int32 × RS9} {s0 : Int32} {σ : RS9} (C : CC X p l (RM 11 0 0) s m args meth c RX9 cX9_wipe 2 (some .int)) (h : mX9_wipe_b26 s0 σ = some r) : AW X p l e (RM 11 0 0) s m args below meth c 2 (ZM X below args s 0 0 (QMi f n r)) (rHm f σ) n 0 0 26 [none, none] [.int s0] := by
  have h : some (s0, σ) = some r := h
  cases h
  exact aw_iret C rfl rfl dX9_wipe_26 (Nat.le_refl _) (Nat.le_refl _) ⟨rfl, rfl, rfl⟩
def mX9_wipe (σ : RS9) : Option (Int32 × RS9) := ((mX9_putsAside σ).bind fun r1 => ((mX9_toldMany r1.2).bind fun r2 => ((mX9_wipe0 r2.2).bind fun r3 => ((mX9_isDone r3.1 (1 : Int32) r3.2).bind fun r4 => (if r4.1 = (0 : Int32) then mX9_wipe_b26 (0 : Int32) r4.2 else mX9_wipe_b26 r2.1 r4.2)))))
set_option maxHeartbeats 1000000 in
theorem rmX9_wipe {X : GX} {l : Launch} {f : AH} {n : Nat} {r : Int32 × RS9} {σ : RS9} (h : mX9_wipe σ = some r) : AM X l yX9_wipe cX9_wipe 2 (some .int) 11 0 0 [.ref 181] (rHm f σ) n (QMi f n r) := by
  have h : ((mX9_putsAside σ).bind fun r1 => ((mX9_toldMany r1.2).bind fun r2 => ((mX9_wipe0 r2.2).bind fun r3 => ((mX9_isDone r3.1 (1 : Int32) r3.2).bind fun r4 => (if r4.1 = (0 : Int32) then mX9_wipe_b26 (0 : Int32) r4.2 else mX9_wipe_b26 r2.1 r4.2))))) = some r := h
  refine AM.of (by decide +kernel) rfl (Nat.le_of_ble_eq_true rfl) (fun p e s m args below meth c C _ => ?_)
  refine aw_nl [some (.ref 181), none] rfl ?_
  refine aw_ald_n C dX9_wipe_0 rfl ?_
  obtain ⟨r1, h1, h⟩ := Option.bind_eq_some_iff.mp h
  refine aw_callV C (ci := 9) (b := 181) [] mv_X9_420 rfl rfl (hm_M f σ) (rmX9_putsAside h1) rfl dX9_wipe_1 (Nat.le_of_ble_eq_true rfl) (Nat.le_of_ble_eq_true rfl) rfl (Nat.le_of_ble_eq_true rfl) (Nat.le_of_ble_eq_true rfl) (Nat.le_of_ble_eq_true rfl) (fun v9 f9 n9 hh => ?_)
  obtain ⟨rfl, rfl, rfl⟩ := hh
  refine aw_ald_n C dX9_wipe_4 rfl ?_
  obtain ⟨r2, h2, h⟩ := Option.bind_eq_some_iff.mp h
  refine aw_callV C (ci := 9) (b := 181) [] mv_X9_319 rfl rfl (hm_M f r1.2) (rmX9_toldMany h2) rfl dX9_wipe_5 (Nat.le_of_ble_eq_true rfl) (Nat.le_of_ble_eq_true rfl) rfl (Nat.le_of_ble_eq_true rfl) (Nat.le_of_ble_eq_true rfl) (Nat.le_of_ble_eq_true rfl) (fun v9 f9 n9 hh => ?_)
  obtain ⟨rfl, rfl, rfl⟩ := hh
  refine aw_istore_n C dX9_wipe_8 (by decide) rfl ?_
  refine aw_nl [some (.ref 181), some (.int r2.1)] rfl ?_
  refine aw_ald_n C dX9_wipe_9 rfl ?_
  refine aw_ald_n C dX9_wipe_10 rfl ?_
  obtain ⟨r3, h3, h⟩ := Option.bind_eq_some_iff.mp h
  refine aw_callV C (ci := 9) (b := 181) [] mv_X9_417 rfl rfl (hm_M f r2.2) (rmX9_wipe0 h3) rfl dX9_wipe_11 (Nat.le_of_ble_eq_true rfl) (Nat.le_of_ble_eq_true rfl) rfl (Nat.le_of_ble_eq_true rfl) (Nat.le_of_ble_eq_true rfl) (Nat.le_of_ble_eq_true rfl) (fun v9 f9 n9 hh => ?_)
  obtain ⟨rfl, rfl, rfl⟩ := hh
  refine aw_iconst C 1 dX9_wipe_14 ki_1 ?_
  obtain ⟨r4, h4, h⟩ := Option.bind_eq_some_iff.mp h
  refine aw_callV C (ci := 9) (b := 181) [.int r3.1, .int (1 : Int32)] mv_X9_429 rfl rfl (hm_M f r3.2) (rmX9_isDone h4) rfl dX9_wipe_15 (Nat.le_of_ble_eq_true rfl) (Nat.le_of_ble_eq_true rfl) rfl (Nat.le_of_ble_eq_true rfl) (Nat.le_of_ble_eq_true rfl) (Nat.le_of_ble_eq_true rfl) (fun v9 f9 n9 hh => ?_)
  obtain ⟨rfl, rfl, rfl⟩ := hh
  refine aw_if_eq C 25 dX9_wipe_18 (by decide) (fun q => ?_) (fun q => ?_)
  · rw [if_pos q] at h
    refine aw_iconst C 0 dX9_wipe_25 ki_0 ?_
    refine aw_fl [none, none] trivial ?_
    exact rmX9_wipe_b26 C h
  · rw [if_neg q] at h
    refine aw_iload_n C dX9_wipe_21 rfl ?_
    refine aw_goto C 26 dX9_wipe_22 (by decide) ?_
    refine aw_fl [none, none] trivial ?_
    exact rmX9_wipe_b26 C h
def mX9_undo_l37 : Nat → Int32 → RS9 → Option (Int32 × RS9)
  | 0, _, _ => none
  | d + 1, v1, σ => (if (4347 : Int32) ≤ v1 then ((mX9_cutsFile σ).bind fun r1 => some ((r1.2.1 5), r1.2)) else rCk (rIn (((4347 : Int32) * (σ.1 5)) + v1) (rLen 4)) (rCk (rIn v1 (rLen 1)) (mX9_undo_l37 d (v1 + (1 : Int32)) (rSa σ 1 v1 (rGa σ 4 (((4347 : Int32) * (σ.1 5)) + v1))))))
set_option maxHeartbeats 1000000 in
theorem rmX9_undo_l37 {X : GX} {p : Program} {l : Launch} {e : Env} {s : State} {m : MethodId} {args : Array Value} {below : List Frame} {meth : Method} {c : Code} {f : AH} {n : Nat} {r : Int32 × RS9} (C : CC X p l (RM 9 0 0) s m args meth c RX9 cX9_undo 2 (some .int)) : ∀ (d : Nat) (v1 : Int32) (σ : RS9) (_ : mX9_undo_l37 d v1 σ = some r), AW X p l e (RM 9 0 0) s m args below meth c 2 (ZM X below args s 0 0 (QMi f n r)) (rHm f σ) n 0 0 37 [some (.ref 181), some (.int v1)] [] := by
  intro d
  induction d with
  | zero =>
    intro v1 σ h
    exact nomatch (show (none : Option (Int32 × RS9)) = some r from h)
  | succ d ih =>
    intro v1 σ h
    have h : (if (4347 : Int32) ≤ v1 then ((mX9_cutsFile σ).bind fun r1 => some ((r1.2.1 5), r1.2)) else rCk (rIn (((4347 : Int32) * (σ.1 5)) + v1) (rLen 4)) (rCk (rIn v1 (rLen 1)) (mX9_undo_l37 d (v1 + (1 : Int32)) (rSa σ 1 v1 (rGa σ 4 (((4347 : Int32) * (σ.1 5)) + v1)))))) = some r := h
    refine aw_iload_n C dX9_undo_37 rfl ?_
    refine aw_sipush C 4347 dX9_undo_38 ks_4347 ?_
    refine aw_icmp_ge C 71 dX9_undo_41 (by decide) (fun q => ?_) (fun q => ?_)
    · rw [if_pos q] at h
      refine aw_ald_n C dX9_undo_71 rfl ?_
      obtain ⟨r1, h1, h⟩ := Option.bind_eq_some_iff.mp h
      refine aw_callV C (ci := 9) (b := 181) [] mv_X9_244 rfl rfl (hm_M f σ) (rmX9_cutsFile h1) rfl dX9_undo_72 (Nat.le_of_ble_eq_true rfl) (Nat.le_of_ble_eq_true rfl) rfl (Nat.le_of_ble_eq_true rfl) (Nat.le_of_ble_eq_true rfl) (Nat.le_of_ble_eq_true rfl) (fun v9 f9 n9 hh => ?_)
      obtain ⟨rfl, rfl, rfl⟩ := hh
      refine aw_ald_n C dX9_undo_75 rfl ?_
      refine aw_get C (v := .int (r1.2.1 5)) gf_X9_325 (hm_M f r1.2) rfl dX9_undo_76 ?_
      cases h
      exact aw_iret C rfl rfl dX9_undo_79 (Nat.le_refl _) (Nat.le_refl _) ⟨rfl, rfl, rfl⟩
    · rw [if_neg q] at h
      refine aw_ald_n C dX9_undo_44 rfl ?_
      refine aw_get C (v := .ref (rAid 1)) gf_X9_7 (hm_M f σ) rfl dX9_undo_45 ?_
      refine aw_iload_n C dX9_undo_48 rfl ?_
      refine aw_ald_n C dX9_undo_49 rfl ?_
      refine aw_get C (v := .ref (rAid 4)) gf_X9_20 (hm_M f σ) rfl dX9_undo_50 ?_
      refine aw_sipush C 4347 dX9_undo_53 ks_4347 ?_
      refine aw_ald_n C dX9_undo_56 rfl ?_
      refine aw_get C (v := .int (σ.1 5)) gf_X9_325 (hm_M f σ) rfl dX9_undo_57 ?_
      refine aw_imul C dX9_undo_60 ?_
      refine aw_iload_n C dX9_undo_61 rfl ?_
      refine aw_iadd C dX9_undo_62 ?_
      obtain ⟨hb2, h⟩ := ck_some h
      refine am_iald C (rGa σ 4 (((4347 : Int32) * (σ.1 5)) + v1)) rfl (inb_vp hb2) rfl dX9_undo_63 ?_
      obtain ⟨hb3, h⟩ := ck_some h
      refine am_iast C rfl (inb_vp hb3) dX9_undo_64 ?_
      refine aw_iinc C (v1 + (1 : Int32)) dX9_undo_65 rfl (by rw [ki_1]) (by decide) rfl ?_
      refine aw_nl [some (.ref 181), some (.int (v1 + (1 : Int32)))] rfl ?_
      refine aw_goto C 37 dX9_undo_68 (by decide) ?_
      refine aw_fl [some (.ref 181), some (.int (v1 + (1 : Int32)))] ⟨rfl, ⟨rfl, trivial⟩⟩ ?_
      exact ih (v1 + (1 : Int32)) (rSa σ 1 v1 (rGa σ 4 (((4347 : Int32) * (σ.1 5)) + v1))) h
def mX9_undo_b13 (s1 : Int32) (σ : RS9) : Option (Int32 × RS9) := (if s1 ≤ (0 : Int32) then mX9_undo_l37 rFU (0 : Int32) (rSf (rSf σ 0 s1) 5 ((σ.1 5) - (1 : Int32))) else some ((0 : Int32), (rSf σ 0 s1)))
set_option maxHeartbeats 1000000 in
theorem rmX9_undo_b13 {X : GX} {p : Program} {l : Launch} {e : Env} {s : State} {m : MethodId} {args : Array Value} {below : List Frame} {meth : Method} {c : Code} {f : AH} {n : Nat} {r : Int32 × RS9} {s1 : Int32} {σ : RS9} (C : CC X p l (RM 9 0 0) s m args meth c RX9 cX9_undo 2 (some .int)) (h : mX9_undo_b13 s1 σ = some r) : AW X p l e (RM 9 0 0) s m args below meth c 2 (ZM X below args s 0 0 (QMi f n r)) (rHm f σ) n 0 0 13 [some (.ref 181), none] [.int s1, .ref 181] := by
  have h : (if s1 ≤ (0 : Int32) then mX9_undo_l37 rFU (0 : Int32) (rSf (rSf σ 0 s1) 5 ((σ.1 5) - (1 : Int32))) else some ((0 : Int32), (rSf σ 0 s1))) = some r := h
  refine am_put C gf_X9_138 nf9_0 rfl rfl dX9_undo_13 ?_
  refine aw_ald_n C dX9_undo_16 rfl ?_
  refine aw_get C (v := .int s1) gf_X9_138 (hm_M f (rSf σ 0 s1)) rfl dX9_undo_17 ?_
  refine aw_if_le C 25 dX9_undo_20 (by decide) (fun q => ?_) (fun q => ?_)
  · rw [if_pos q] at h
    refine aw_ald_n C dX9_undo_25 rfl ?_
    refine aw_dup C dX9_undo_26 rfl ?_
    refine aw_get C (v := .int (σ.1 5)) gf_X9_325 (hm_M f (rSf σ 0 s1)) rfl dX9_undo_27 ?_
    refine aw_iconst C 1 dX9_undo_30 ki_1 ?_
    refine aw_isub C dX9_undo_31 ?_
    refine am_put C gf_X9_325 nf9_5 rfl rfl dX9_undo_32 ?_
    refine aw_iconst C 0 dX9_undo_35 ki_0 ?_
    refine aw_istore_n C dX9_undo_36 (by decide) rfl ?_
    refine aw_nl [some (.ref 181), some (.int (0 : Int32))] rfl ?_
    refine aw_fl [some (.ref 181), some (.int (0 : Int32))] ⟨rfl, ⟨rfl, trivial⟩⟩ ?_
    exact rmX9_undo_l37 C rFU (0 : Int32) (rSf (rSf σ 0 s1) 5 ((σ.1 5) - (1 : Int32))) h
  · rw [if_neg q] at h
    refine aw_iconst C 0 dX9_undo_23 ki_0 ?_
    cases h
    exact aw_iret C rfl rfl dX9_undo_24 (Nat.le_refl _) (Nat.le_refl _) ⟨rfl, rfl, rfl⟩
def mX9_undo (σ : RS9) : Option (Int32 × RS9) := (if (σ.1 5) = (0 : Int32) then mX9_undo_b13 (1 : Int32) σ else mX9_undo_b13 (0 : Int32) σ)
set_option maxHeartbeats 1000000 in
theorem rmX9_undo {X : GX} {l : Launch} {f : AH} {n : Nat} {r : Int32 × RS9} {σ : RS9} (h : mX9_undo σ = some r) : AM X l yX9_undo cX9_undo 2 (some .int) 9 0 0 [.ref 181] (rHm f σ) n (QMi f n r) := by
  have h : (if (σ.1 5) = (0 : Int32) then mX9_undo_b13 (1 : Int32) σ else mX9_undo_b13 (0 : Int32) σ) = some r := h
  refine AM.of (by decide +kernel) rfl (Nat.le_of_ble_eq_true rfl) (fun p e s m args below meth c C _ => ?_)
  refine aw_nl [some (.ref 181), none] rfl ?_
  refine aw_ald_n C dX9_undo_0 rfl ?_
  refine aw_ald_n C dX9_undo_1 rfl ?_
  refine aw_get C (v := .int (σ.1 5)) gf_X9_325 (hm_M f σ) rfl dX9_undo_2 ?_
  refine aw_if_ne C 12 dX9_undo_5 (by decide) (fun q => ?_) (fun q => ?_)
  · rw [if_neg q] at h
    refine aw_iconst C 0 dX9_undo_12 ki_0 ?_
    refine aw_fl [some (.ref 181), none] ⟨rfl, trivial⟩ ?_
    exact rmX9_undo_b13 C h
  · rw [if_pos q] at h
    refine aw_iconst C 1 dX9_undo_8 ki_1 ?_
    refine aw_goto C 13 dX9_undo_9 (by decide) ?_
    refine aw_fl [some (.ref 181), none] ⟨rfl, trivial⟩ ?_
    exact rmX9_undo_b13 C h
def mX9_builds_l136 : Nat → Int32 → Int32 → RS9 → Option (Int32 × RS9)
  | 0, _, _, _ => none
  | d + 1, v1, v2, σ => rCk (rIn (0 : Int32) (rLen 1)) ((if (rGa σ 1 (0 : Int32)) ≤ v2 then some (v1, σ) else rCk (rIn ((43 : Int32) + v2) (rLen 1)) (rCk (rIn v1 (rLen 49)) (mX9_builds_l136 d (v1 + (1 : Int32)) (v2 + (1 : Int32)) (rSa σ 49 v1 (rGa σ 1 ((43 : Int32) + v2)))))))
set_option maxHeartbeats 1000000 in
theorem rmX9_builds_l136 {X : GX} {p : Program} {l : Launch} {e : Env} {s : State} {m : MethodId} {args : Array Value} {below : List Frame} {meth : Method} {c : Code} {f : AH} {n : Nat} {r : Int32 × RS9} (C : CC X p l (RM 9 0 0) s m args meth c RX9 cX9_builds 6 (some .int)) : ∀ (d : Nat) (v1 : Int32) (v2 : Int32) (σ : RS9) (_ : mX9_builds_l136 d v1 v2 σ = some r), AW X p l e (RM 9 0 0) s m args below meth c 6 (ZM X below args s 0 0 (QMi f n r)) (rHm f σ) n 0 0 136 [some (.ref 181), some (.int v1), some (.int v2), none, none, none] [] := by
  intro d
  induction d with
  | zero =>
    intro v1 v2 σ h
    exact nomatch (show (none : Option (Int32 × RS9)) = some r from h)
  | succ d ih =>
    intro v1 v2 σ h
    have h : rCk (rIn (0 : Int32) (rLen 1)) ((if (rGa σ 1 (0 : Int32)) ≤ v2 then some (v1, σ) else rCk (rIn ((43 : Int32) + v2) (rLen 1)) (rCk (rIn v1 (rLen 49)) (mX9_builds_l136 d (v1 + (1 : Int32)) (v2 + (1 : Int32)) (rSa σ 49 v1 (rGa σ 1 ((43 : Int32) + v2))))))) = some r := h
    refine aw_iload_n C dX9_builds_136 rfl ?_
    refine aw_ald_n C dX9_builds_137 rfl ?_
    refine aw_get C (v := .ref (rAid 1)) gf_X9_7 (hm_M f σ) rfl dX9_builds_138 ?_
    refine aw_iconst C 0 dX9_builds_141 ki_0 ?_
    obtain ⟨hb1, h⟩ := ck_some h
    refine am_iald C (rGa σ 1 (0 : Int32)) rfl (inb_vp hb1) rfl dX9_builds_142 ?_
    refine aw_icmp_ge C 170 dX9_builds_143 (by decide) (fun q => ?_) (fun q => ?_)
    · rw [if_pos q] at h
      refine aw_iload_n C dX9_builds_170 rfl ?_
      cases h
      exact aw_iret C rfl rfl dX9_builds_171 (Nat.le_refl _) (Nat.le_refl _) ⟨rfl, rfl, rfl⟩
    · rw [if_neg q] at h
      refine aw_ald_n C dX9_builds_146 rfl ?_
      refine aw_get C (v := .ref (rAid 49)) gf_X9_120 (hm_M f σ) rfl dX9_builds_147 ?_
      refine aw_iload_n C dX9_builds_150 rfl ?_
      refine aw_ald_n C dX9_builds_151 rfl ?_
      refine aw_get C (v := .ref (rAid 1)) gf_X9_7 (hm_M f σ) rfl dX9_builds_152 ?_
      refine aw_bipush C 43 dX9_builds_155 kb_43 ?_
      refine aw_iload_n C dX9_builds_157 rfl ?_
      refine aw_iadd C dX9_builds_158 ?_
      obtain ⟨hb2, h⟩ := ck_some h
      refine am_iald C (rGa σ 1 ((43 : Int32) + v2)) rfl (inb_vp hb2) rfl dX9_builds_159 ?_
      obtain ⟨hb3, h⟩ := ck_some h
      refine am_iast C rfl (inb_vp hb3) dX9_builds_160 ?_
      refine aw_iinc C (v1 + (1 : Int32)) dX9_builds_161 rfl (by rw [ki_1]) (by decide) rfl ?_
      refine aw_nl [some (.ref 181), some (.int (v1 + (1 : Int32))), some (.int v2), none, none, none] rfl ?_
      refine aw_iinc C (v2 + (1 : Int32)) dX9_builds_164 rfl (by rw [ki_1]) (by decide) rfl ?_
      refine aw_nl [some (.ref 181), some (.int (v1 + (1 : Int32))), some (.int (v2 + (1 : Int32))), none, none, none] rfl ?_
      refine aw_goto C 136 dX9_builds_167 (by decide) ?_
      refine aw_fl [some (.ref 181), some (.int (v1 + (1 : Int32))), some (.int (v2 + (1 : Int32))), none, none, none] ⟨rfl, ⟨rfl, ⟨rfl, trivial⟩⟩⟩ ?_
      exact ih (v1 + (1 : Int32)) (v2 + (1 : Int32)) (rSa σ 49 v1 (rGa σ 1 ((43 : Int32) + v2))) h
def mX9_builds_b111 (rec6 : Int32 → Int32 → Int32 → RS9 → Option (Int32 × RS9)) (rec65 : Int32 → Int32 → Int32 → Int32 → Int32 → RS9 → Option (Int32 × RS9)) (v1 : Int32) (v2 : Int32) (v3 : Int32) (v4 : Int32) (v5 : Int32) (s0 : Nat) (s1 : Int32) (s2 : Int32) (σ : RS9) : Option (Int32 × RS9) := rCk (rIn s1 (rLen s0)) (rec65 v1 v2 v3 v4 (v5 + (1 : Int32)) (rSa σ s0 s1 s2))
set_option maxHeartbeats 1000000 in
theorem rmX9_builds_b111 {X : GX} {p : Program} {l : Launch} {e : Env} {s : State} {m : MethodId} {args : Array Value} {below : List Frame} {meth : Method} {c : Code} {f : AH} {n : Nat} {r : Int32 × RS9} {rec6 : Int32 → Int32 → Int32 → RS9 → Option (Int32 × RS9)} {rec65 : Int32 → Int32 → Int32 → Int32 → Int32 → RS9 → Option (Int32 × RS9)} {v1 : Int32} {v2 : Int32} {v3 : Int32} {v4 : Int32} {v5 : Int32} {s0 : Nat} {s1 : Int32} {s2 : Int32} {σ : RS9} (C : CC X p l (RM 9 0 0) s m args meth c RX9 cX9_builds 6 (some .int)) (Hr6 : ∀ (v1 : Int32) (v2 : Int32) (v3 : Int32) (σ : RS9), rec6 v1 v2 v3 σ = some r → AW X p l e (RM 9 0 0) s m args below meth c 6 (ZM X below args s 0 0 (QMi f n r)) (rHm f σ) n 0 0 6 [some (.ref 181), some (.int v1), some (.int v2), some (.int v3), none, none] []) (Hr65 : ∀ (v1 : Int32) (v2 : Int32) (v3 : Int32) (v4 : Int32) (v5 : Int32) (σ : RS9), rec65 v1 v2 v3 v4 v5 σ = some r → AW X p l e (RM 9 0 0) s m args below meth c 6 (ZM X below args s 0 0 (QMi f n r)) (rHm f σ) n 0 0 65 [some (.ref 181), some (.int v1), some (.int v2), some (.int v3), some (.int v4), some (.int v5)] []) (ias0 : rIsA s0 = true) (h : mX9_builds_b111 rec6 rec65 v1 v2 v3 v4 v5 s0 s1 s2 σ = some r) : AW X p l e (RM 9 0 0) s m args below meth c 6 (ZM X below args s 0 0 (QMi f n r)) (rHm f σ) n 0 0 111 [some (.ref 181), some (.int v1), some (.int v2), some (.int v3), some (.int v4), some (.int v5)] [.int s2, .int s1, .ref (rAid s0)] := by
  have h : rCk (rIn s1 (rLen s0)) (rec65 v1 v2 v3 v4 (v5 + (1 : Int32)) (rSa σ s0 s1 s2)) = some r := h
  obtain ⟨hb1, h⟩ := ck_some h
  refine am_iast C ias0 (inb_vp hb1) dX9_builds_111 ?_
  refine aw_iinc C (v5 + (1 : Int32)) dX9_builds_112 rfl (by rw [ki_1]) (by decide) rfl ?_
  refine aw_nl [some (.ref 181), some (.int v1), some (.int v2), some (.int v3), some (.int v4), some (.int (v5 + (1 : Int32)))] rfl ?_
  refine aw_goto C 65 dX9_builds_115 (by decide) ?_
  refine aw_fl [some (.ref 181), some (.int v1), some (.int v2), some (.int v3), some (.int v4), some (.int (v5 + (1 : Int32)))] ⟨rfl, ⟨rfl, ⟨rfl, ⟨rfl, ⟨rfl, ⟨rfl, trivial⟩⟩⟩⟩⟩⟩ ?_
  exact Hr65 v1 v2 v3 v4 (v5 + (1 : Int32)) (rSa σ s0 s1 s2) h
def mX9_builds_l65 (rec6 : Int32 → Int32 → Int32 → RS9 → Option (Int32 × RS9)) : Nat → Int32 → Int32 → Int32 → Int32 → Int32 → RS9 → Option (Int32 × RS9)
  | 0, _, _, _, _, _, _ => none
  | d + 1, v1, v2, v3, v4, v5, σ => (if v4 ≤ v5 then rCk (rIn v3 (rLen 35)) (rec6 (v1 + v4) (rGa σ 35 v3) (v3 + (1 : Int32)) σ) else ((mX9_toldOf v3 σ).bind fun r2 => (if r2.1 = (-1 : Int32) then rCk (rIn (((43 : Int32) + v2) + v5) (rLen 1)) (mX9_builds_b111 rec6 (fun v1 v2 v3 v4 v5 σ => mX9_builds_l65 rec6 d v1 v2 v3 v4 v5 σ) v1 v2 v3 v4 v5 49 (v1 + v5) (rGa r2.2 1 (((43 : Int32) + v2) + v5)) r2.2) else rCk (rIn v5 (rLen 47)) (mX9_builds_b111 rec6 (fun v1 v2 v3 v4 v5 σ => mX9_builds_l65 rec6 d v1 v2 v3 v4 v5 σ) v1 v2 v3 v4 v5 49 (v1 + v5) (rGa r2.2 47 v5) r2.2))))
set_option maxHeartbeats 1000000 in
theorem rmX9_builds_l65 {X : GX} {p : Program} {l : Launch} {e : Env} {s : State} {m : MethodId} {args : Array Value} {below : List Frame} {meth : Method} {c : Code} {f : AH} {n : Nat} {r : Int32 × RS9} {rec6 : Int32 → Int32 → Int32 → RS9 → Option (Int32 × RS9)} (C : CC X p l (RM 9 0 0) s m args meth c RX9 cX9_builds 6 (some .int)) (Hr6 : ∀ (v1 : Int32) (v2 : Int32) (v3 : Int32) (σ : RS9), rec6 v1 v2 v3 σ = some r → AW X p l e (RM 9 0 0) s m args below meth c 6 (ZM X below args s 0 0 (QMi f n r)) (rHm f σ) n 0 0 6 [some (.ref 181), some (.int v1), some (.int v2), some (.int v3), none, none] []) : ∀ (d : Nat) (v1 : Int32) (v2 : Int32) (v3 : Int32) (v4 : Int32) (v5 : Int32) (σ : RS9) (_ : mX9_builds_l65 rec6 d v1 v2 v3 v4 v5 σ = some r), AW X p l e (RM 9 0 0) s m args below meth c 6 (ZM X below args s 0 0 (QMi f n r)) (rHm f σ) n 0 0 65 [some (.ref 181), some (.int v1), some (.int v2), some (.int v3), some (.int v4), some (.int v5)] [] := by
  intro d
  induction d with
  | zero =>
    intro v1 v2 v3 v4 v5 σ h
    exact nomatch (show (none : Option (Int32 × RS9)) = some r from h)
  | succ d ih =>
    intro v1 v2 v3 v4 v5 σ h
    have h : (if v4 ≤ v5 then rCk (rIn v3 (rLen 35)) (rec6 (v1 + v4) (rGa σ 35 v3) (v3 + (1 : Int32)) σ) else ((mX9_toldOf v3 σ).bind fun r2 => (if r2.1 = (-1 : Int32) then rCk (rIn (((43 : Int32) + v2) + v5) (rLen 1)) (mX9_builds_b111 rec6 (fun v1 v2 v3 v4 v5 σ => mX9_builds_l65 rec6 d v1 v2 v3 v4 v5 σ) v1 v2 v3 v4 v5 49 (v1 + v5) (rGa r2.2 1 (((43 : Int32) + v2) + v5)) r2.2) else rCk (rIn v5 (rLen 47)) (mX9_builds_b111 rec6 (fun v1 v2 v3 v4 v5 σ => mX9_builds_l65 rec6 d v1 v2 v3 v4 v5 σ) v1 v2 v3 v4 v5 49 (v1 + v5) (rGa r2.2 47 v5) r2.2)))) = some r := h
    refine aw_iload C dX9_builds_65 rfl ?_
    refine aw_iload C dX9_builds_67 rfl ?_
    refine aw_icmp_ge C 118 dX9_builds_69 (by decide) (fun q => ?_) (fun q => ?_)
    · rw [if_pos q] at h
      refine aw_iload_n C dX9_builds_118 rfl ?_
      refine aw_iload C dX9_builds_119 rfl ?_
      refine aw_iadd C dX9_builds_121 ?_
      refine aw_istore_n C dX9_builds_122 (by decide) rfl ?_
      refine aw_nl [some (.ref 181), some (.int (v1 + v4)), some (.int v2), some (.int v3), some (.int v4), some (.int v5)] rfl ?_
      refine aw_ald_n C dX9_builds_123 rfl ?_
      refine aw_get C (v := .ref (rAid 35)) gf_X9_84 (hm_M f σ) rfl dX9_builds_124 ?_
      refine aw_iload_n C dX9_builds_127 rfl ?_
      obtain ⟨hb1, h⟩ := ck_some h
      refine am_iald C (rGa σ 35 v3) rfl (inb_vp hb1) rfl dX9_builds_128 ?_
      refine aw_istore_n C dX9_builds_129 (by decide) rfl ?_
      refine aw_nl [some (.ref 181), some (.int (v1 + v4)), some (.int (rGa σ 35 v3)), some (.int v3), some (.int v4), some (.int v5)] rfl ?_
      refine aw_iinc C (v3 + (1 : Int32)) dX9_builds_130 rfl (by rw [ki_1]) (by decide) rfl ?_
      refine aw_nl [some (.ref 181), some (.int (v1 + v4)), some (.int (rGa σ 35 v3)), some (.int (v3 + (1 : Int32))), some (.int v4), some (.int v5)] rfl ?_
      refine aw_goto C 6 dX9_builds_133 (by decide) ?_
      refine aw_fl [some (.ref 181), some (.int (v1 + v4)), some (.int (rGa σ 35 v3)), some (.int (v3 + (1 : Int32))), none, none] ⟨rfl, ⟨rfl, ⟨rfl, ⟨rfl, trivial⟩⟩⟩⟩ ?_
      exact Hr6 (v1 + v4) (rGa σ 35 v3) (v3 + (1 : Int32)) σ h
    · rw [if_neg q] at h
      refine aw_ald_n C dX9_builds_72 rfl ?_
      refine aw_get C (v := .ref (rAid 49)) gf_X9_120 (hm_M f σ) rfl dX9_builds_73 ?_
      refine aw_iload_n C dX9_builds_76 rfl ?_
      refine aw_iload C dX9_builds_77 rfl ?_
      refine aw_iadd C dX9_builds_79 ?_
      refine aw_ald_n C dX9_builds_80 rfl ?_
      refine aw_iload_n C dX9_builds_81 rfl ?_
      obtain ⟨r2, h2, h⟩ := Option.bind_eq_some_iff.mp h
      refine aw_callV C (ci := 9) (b := 181) [.int v3] mv_X9_247 rfl rfl (hm_M f σ) (rmX9_toldOf h2) rfl dX9_builds_82 (Nat.le_of_ble_eq_true rfl) (Nat.le_of_ble_eq_true rfl) rfl (Nat.le_of_ble_eq_true rfl) (Nat.le_of_ble_eq_true rfl) (Nat.le_of_ble_eq_true rfl) (fun v9 f9 n9 hh => ?_)
      obtain ⟨rfl, rfl, rfl⟩ := hh
      refine aw_iconst C (-1) dX9_builds_85 ki_m1 ?_
      refine aw_icmp_ne C 104 dX9_builds_86 (by decide) (fun q => ?_) (fun q => ?_)
      · rw [if_neg q] at h
        refine aw_ald_n C dX9_builds_104 rfl ?_
        refine aw_get C (v := .ref (rAid 47)) gf_X9_117 (hm_M f r2.2) rfl dX9_builds_105 ?_
        refine aw_iload C dX9_builds_108 rfl ?_
        obtain ⟨hb3, h⟩ := ck_some h
        refine am_iald C (rGa r2.2 47 v5) rfl (inb_vp hb3) rfl dX9_builds_110 ?_
        refine aw_fl [some (.ref 181), some (.int v1), some (.int v2), some (.int v3), some (.int v4), some (.int v5)] ⟨rfl, ⟨rfl, ⟨rfl, ⟨rfl, ⟨rfl, ⟨rfl, trivial⟩⟩⟩⟩⟩⟩ ?_
        exact rmX9_builds_b111 C Hr6 (fun v1 v2 v3 v4 v5 σ h => ih v1 v2 v3 v4 v5 σ h) rfl h
      · rw [if_pos q] at h
        refine aw_ald_n C dX9_builds_89 rfl ?_
        refine aw_get C (v := .ref (rAid 1)) gf_X9_7 (hm_M f r2.2) rfl dX9_builds_90 ?_
        refine aw_bipush C 43 dX9_builds_93 kb_43 ?_
        refine aw_iload_n C dX9_builds_95 rfl ?_
        refine aw_iadd C dX9_builds_96 ?_
        refine aw_iload C dX9_builds_97 rfl ?_
        refine aw_iadd C dX9_builds_99 ?_
        obtain ⟨hb4, h⟩ := ck_some h
        refine am_iald C (rGa r2.2 1 (((43 : Int32) + v2) + v5)) rfl (inb_vp hb4) rfl dX9_builds_100 ?_
        refine aw_goto C 111 dX9_builds_101 (by decide) ?_
        refine aw_fl [some (.ref 181), some (.int v1), some (.int v2), some (.int v3), some (.int v4), some (.int v5)] ⟨rfl, ⟨rfl, ⟨rfl, ⟨rfl, ⟨rfl, ⟨rfl, trivial⟩⟩⟩⟩⟩⟩ ?_
        exact rmX9_builds_b111 C Hr6 (fun v1 v2 v3 v4 v5 σ h => ih v1 v2 v3 v4 v5 σ h) rfl h
def mX9_builds_l14 (rec6 : Int32 → Int32 → Int32 → RS9 → Option (Int32 × RS9)) : Nat → Int32 → Int32 → Int32 → RS9 → Option (Int32 × RS9)
  | 0, _, _, _, _ => none
  | d + 1, v1, v2, v3, σ => rCk (rIn v3 (rLen 34)) ((if (rGa σ 34 v3) ≤ v2 then rCk (rIn v3 (rLen 52)) (((mX9_builtOf v3 (rSa σ 52 v3 v1)).bind fun r3 => mX9_builds_l65 rec6 rFU v1 v2 v3 r3.1 (0 : Int32) r3.2)) else rCk (rIn ((43 : Int32) + v2) (rLen 1)) (rCk (rIn v1 (rLen 49)) (mX9_builds_l14 rec6 d (v1 + (1 : Int32)) (v2 + (1 : Int32)) v3 (rSa σ 49 v1 (rGa σ 1 ((43 : Int32) + v2)))))))
set_option maxHeartbeats 1000000 in
theorem rmX9_builds_l14 {X : GX} {p : Program} {l : Launch} {e : Env} {s : State} {m : MethodId} {args : Array Value} {below : List Frame} {meth : Method} {c : Code} {f : AH} {n : Nat} {r : Int32 × RS9} {rec6 : Int32 → Int32 → Int32 → RS9 → Option (Int32 × RS9)} (C : CC X p l (RM 9 0 0) s m args meth c RX9 cX9_builds 6 (some .int)) (Hr6 : ∀ (v1 : Int32) (v2 : Int32) (v3 : Int32) (σ : RS9), rec6 v1 v2 v3 σ = some r → AW X p l e (RM 9 0 0) s m args below meth c 6 (ZM X below args s 0 0 (QMi f n r)) (rHm f σ) n 0 0 6 [some (.ref 181), some (.int v1), some (.int v2), some (.int v3), none, none] []) : ∀ (d : Nat) (v1 : Int32) (v2 : Int32) (v3 : Int32) (σ : RS9) (_ : mX9_builds_l14 rec6 d v1 v2 v3 σ = some r), AW X p l e (RM 9 0 0) s m args below meth c 6 (ZM X below args s 0 0 (QMi f n r)) (rHm f σ) n 0 0 14 [some (.ref 181), some (.int v1), some (.int v2), some (.int v3), none, none] [] := by
  intro d
  induction d with
  | zero =>
    intro v1 v2 v3 σ h
    exact nomatch (show (none : Option (Int32 × RS9)) = some r from h)
  | succ d ih =>
    intro v1 v2 v3 σ h
    have h : rCk (rIn v3 (rLen 34)) ((if (rGa σ 34 v3) ≤ v2 then rCk (rIn v3 (rLen 52)) (((mX9_builtOf v3 (rSa σ 52 v3 v1)).bind fun r3 => mX9_builds_l65 rec6 rFU v1 v2 v3 r3.1 (0 : Int32) r3.2)) else rCk (rIn ((43 : Int32) + v2) (rLen 1)) (rCk (rIn v1 (rLen 49)) (mX9_builds_l14 rec6 d (v1 + (1 : Int32)) (v2 + (1 : Int32)) v3 (rSa σ 49 v1 (rGa σ 1 ((43 : Int32) + v2))))))) = some r := h
    refine aw_iload_n C dX9_builds_14 rfl ?_
    refine aw_ald_n C dX9_builds_15 rfl ?_
    refine aw_get C (v := .ref (rAid 34)) gf_X9_81 (hm_M f σ) rfl dX9_builds_16 ?_
    refine aw_iload_n C dX9_builds_19 rfl ?_
    obtain ⟨hb1, h⟩ := ck_some h
    refine am_iald C (rGa σ 34 v3) rfl (inb_vp hb1) rfl dX9_builds_20 ?_
    refine aw_icmp_ge C 48 dX9_builds_21 (by decide) (fun q => ?_) (fun q => ?_)
    · rw [if_pos q] at h
      refine aw_ald_n C dX9_builds_48 rfl ?_
      refine aw_get C (v := .ref (rAid 52)) gf_X9_129 (hm_M f σ) rfl dX9_builds_49 ?_
      refine aw_iload_n C dX9_builds_52 rfl ?_
      refine aw_iload_n C dX9_builds_53 rfl ?_
      obtain ⟨hb2, h⟩ := ck_some h
      refine am_iast C rfl (inb_vp hb2) dX9_builds_54 ?_
      refine aw_ald_n C dX9_builds_55 rfl ?_
      refine aw_iload_n C dX9_builds_56 rfl ?_
      obtain ⟨r3, h3, h⟩ := Option.bind_eq_some_iff.mp h
      refine aw_callV C (ci := 9) (b := 181) [.int v3] mv_X9_290 rfl rfl (hm_M f (rSa σ 52 v3 v1)) (rmX9_builtOf h3) rfl dX9_builds_57 (Nat.le_of_ble_eq_true rfl) (Nat.le_of_ble_eq_true rfl) rfl (Nat.le_of_ble_eq_true rfl) (Nat.le_of_ble_eq_true rfl) (Nat.le_of_ble_eq_true rfl) (fun v9 f9 n9 hh => ?_)
      obtain ⟨rfl, rfl, rfl⟩ := hh
      refine aw_istore C dX9_builds_60 (by decide) rfl ?_
      refine aw_nl [some (.ref 181), some (.int v1), some (.int v2), some (.int v3), some (.int r3.1), none] rfl ?_
      refine aw_iconst C 0 dX9_builds_62 ki_0 ?_
      refine aw_istore C dX9_builds_63 (by decide) rfl ?_
      refine aw_nl [some (.ref 181), some (.int v1), some (.int v2), some (.int v3), some (.int r3.1), some (.int (0 : Int32))] rfl ?_
      refine aw_fl [some (.ref 181), some (.int v1), some (.int v2), some (.int v3), some (.int r3.1), some (.int (0 : Int32))] ⟨rfl, ⟨rfl, ⟨rfl, ⟨rfl, ⟨rfl, ⟨rfl, trivial⟩⟩⟩⟩⟩⟩ ?_
      exact rmX9_builds_l65 C Hr6 rFU v1 v2 v3 r3.1 (0 : Int32) r3.2 h
    · rw [if_neg q] at h
      refine aw_ald_n C dX9_builds_24 rfl ?_
      refine aw_get C (v := .ref (rAid 49)) gf_X9_120 (hm_M f σ) rfl dX9_builds_25 ?_
      refine aw_iload_n C dX9_builds_28 rfl ?_
      refine aw_ald_n C dX9_builds_29 rfl ?_
      refine aw_get C (v := .ref (rAid 1)) gf_X9_7 (hm_M f σ) rfl dX9_builds_30 ?_
      refine aw_bipush C 43 dX9_builds_33 kb_43 ?_
      refine aw_iload_n C dX9_builds_35 rfl ?_
      refine aw_iadd C dX9_builds_36 ?_
      obtain ⟨hb4, h⟩ := ck_some h
      refine am_iald C (rGa σ 1 ((43 : Int32) + v2)) rfl (inb_vp hb4) rfl dX9_builds_37 ?_
      obtain ⟨hb5, h⟩ := ck_some h
      refine am_iast C rfl (inb_vp hb5) dX9_builds_38 ?_
      refine aw_iinc C (v1 + (1 : Int32)) dX9_builds_39 rfl (by rw [ki_1]) (by decide) rfl ?_
      refine aw_nl [some (.ref 181), some (.int (v1 + (1 : Int32))), some (.int v2), some (.int v3), none, none] rfl ?_
      refine aw_iinc C (v2 + (1 : Int32)) dX9_builds_42 rfl (by rw [ki_1]) (by decide) rfl ?_
      refine aw_nl [some (.ref 181), some (.int (v1 + (1 : Int32))), some (.int (v2 + (1 : Int32))), some (.int v3), none, none] rfl ?_
      refine aw_goto C 14 dX9_builds_45 (by decide) ?_
      refine aw_fl [some (.ref 181), some (.int (v1 + (1 : Int32))), some (.int (v2 + (1 : Int32))), some (.int v3), none, none] ⟨rfl, ⟨rfl, ⟨rfl, ⟨rfl, trivial⟩⟩⟩⟩ ?_
      exact ih (v1 + (1 : Int32)) (v2 + (1 : Int32)) v3 (rSa σ 49 v1 (rGa σ 1 ((43 : Int32) + v2))) h
def mX9_builds_l6 : Nat → Int32 → Int32 → Int32 → RS9 → Option (Int32 × RS9)
  | 0, _, _, _, _ => none
  | d + 1, v1, v2, v3, σ => (if (σ.1 33) ≤ v3 then mX9_builds_l136 rFU v1 v2 σ else mX9_builds_l14 (fun v1 v2 v3 σ => mX9_builds_l6 d v1 v2 v3 σ) rFU v1 v2 v3 σ)
set_option maxHeartbeats 1000000 in
theorem rmX9_builds_l6 {X : GX} {p : Program} {l : Launch} {e : Env} {s : State} {m : MethodId} {args : Array Value} {below : List Frame} {meth : Method} {c : Code} {f : AH} {n : Nat} {r : Int32 × RS9} (C : CC X p l (RM 9 0 0) s m args meth c RX9 cX9_builds 6 (some .int)) : ∀ (d : Nat) (v1 : Int32) (v2 : Int32) (v3 : Int32) (σ : RS9) (_ : mX9_builds_l6 d v1 v2 v3 σ = some r), AW X p l e (RM 9 0 0) s m args below meth c 6 (ZM X below args s 0 0 (QMi f n r)) (rHm f σ) n 0 0 6 [some (.ref 181), some (.int v1), some (.int v2), some (.int v3), none, none] [] := by
  intro d
  induction d with
  | zero =>
    intro v1 v2 v3 σ h
    exact nomatch (show (none : Option (Int32 × RS9)) = some r from h)
  | succ d ih =>
    intro v1 v2 v3 σ h
    have h : (if (σ.1 33) ≤ v3 then mX9_builds_l136 rFU v1 v2 σ else mX9_builds_l14 (fun v1 v2 v3 σ => mX9_builds_l6 d v1 v2 v3 σ) rFU v1 v2 v3 σ) = some r := h
    refine aw_iload_n C dX9_builds_6 rfl ?_
    refine aw_ald_n C dX9_builds_7 rfl ?_
    refine aw_get C (v := .int (σ.1 33)) gf_X9_204 (hm_M f σ) rfl dX9_builds_8 ?_
    refine aw_icmp_ge C 136 dX9_builds_11 (by decide) (fun q => ?_) (fun q => ?_)
    · rw [if_pos q] at h
      refine aw_fl [some (.ref 181), some (.int v1), some (.int v2), none, none, none] ⟨rfl, ⟨rfl, ⟨rfl, trivial⟩⟩⟩ ?_
      exact rmX9_builds_l136 C rFU v1 v2 σ h
    · rw [if_neg q] at h
      refine aw_fl [some (.ref 181), some (.int v1), some (.int v2), some (.int v3), none, none] ⟨rfl, ⟨rfl, ⟨rfl, ⟨rfl, trivial⟩⟩⟩⟩ ?_
      exact rmX9_builds_l14 C (fun v1 v2 v3 σ h => ih v1 v2 v3 σ h) rFU v1 v2 v3 σ h
def mX9_builds (σ : RS9) : Option (Int32 × RS9) := mX9_builds_l6 rFU (0 : Int32) (0 : Int32) (0 : Int32) σ
set_option maxHeartbeats 1000000 in
theorem rmX9_builds {X : GX} {l : Launch} {f : AH} {n : Nat} {r : Int32 × RS9} {σ : RS9} (h : mX9_builds σ = some r) : AM X l yX9_builds cX9_builds 6 (some .int) 9 0 0 [.ref 181] (rHm f σ) n (QMi f n r) := by
  have h : mX9_builds_l6 rFU (0 : Int32) (0 : Int32) (0 : Int32) σ = some r := h
  refine AM.of (by decide +kernel) rfl (Nat.le_of_ble_eq_true rfl) (fun p e s m args below meth c C _ => ?_)
  refine aw_nl [some (.ref 181), none, none, none, none, none] rfl ?_
  refine aw_iconst C 0 dX9_builds_0 ki_0 ?_
  refine aw_istore_n C dX9_builds_1 (by decide) rfl ?_
  refine aw_nl [some (.ref 181), some (.int (0 : Int32)), none, none, none, none] rfl ?_
  refine aw_iconst C 0 dX9_builds_2 ki_0 ?_
  refine aw_istore_n C dX9_builds_3 (by decide) rfl ?_
  refine aw_nl [some (.ref 181), some (.int (0 : Int32)), some (.int (0 : Int32)), none, none, none] rfl ?_
  refine aw_iconst C 0 dX9_builds_4 ki_0 ?_
  refine aw_istore_n C dX9_builds_5 (by decide) rfl ?_
  refine aw_nl [some (.ref 181), some (.int (0 : Int32)), some (.int (0 : Int32)), some (.int (0 : Int32)), none, none] rfl ?_
  refine aw_fl [some (.ref 181), some (.int (0 : Int32)), some (.int (0 : Int32)), some (.int (0 : Int32)), none, none] ⟨rfl, ⟨rfl, ⟨rfl, ⟨rfl, trivial⟩⟩⟩⟩ ?_
  exact rmX9_builds_l6 C rFU (0 : Int32) (0 : Int32) (0 : Int32) σ h
def mX9_builtBegin (v1 : Int32) (σ : RS9) : Option (Int32 × RS9) := ((mX9_builds σ).bind fun r1 => rCk (rIn v1 (rLen 52)) (some ((rGa r1.2 52 v1), r1.2)))
set_option maxHeartbeats 1000000 in
theorem rmX9_builtBegin {X : GX} {l : Launch} {f : AH} {n : Nat} {r : Int32 × RS9} {v1 : Int32} {σ : RS9} (h : mX9_builtBegin v1 σ = some r) : AM X l yX9_builtBegin cX9_builtBegin 3 (some .int) 10 0 0 [.ref 181, .int v1] (rHm f σ) n (QMi f n r) := by
  have h : ((mX9_builds σ).bind fun r1 => rCk (rIn v1 (rLen 52)) (some ((rGa r1.2 52 v1), r1.2))) = some r := h
  refine AM.of (by decide +kernel) rfl (Nat.le_of_ble_eq_true rfl) (fun p e s m args below meth c C _ => ?_)
  refine aw_nl [some (.ref 181), some (.int v1), none] rfl ?_
  refine aw_ald_n C dX9_builtBegin_0 rfl ?_
  obtain ⟨r1, h1, h⟩ := Option.bind_eq_some_iff.mp h
  refine aw_callV C (ci := 9) (b := 181) [] mv_X9_441 rfl rfl (hm_M f σ) (rmX9_builds h1) rfl dX9_builtBegin_1 (Nat.le_of_ble_eq_true rfl) (Nat.le_of_ble_eq_true rfl) rfl (Nat.le_of_ble_eq_true rfl) (Nat.le_of_ble_eq_true rfl) (Nat.le_of_ble_eq_true rfl) (fun v9 f9 n9 hh => ?_)
  obtain ⟨rfl, rfl, rfl⟩ := hh
  refine aw_istore_n C dX9_builtBegin_4 (by decide) rfl ?_
  refine aw_nl [some (.ref 181), some (.int v1), some (.int r1.1)] rfl ?_
  refine aw_ald_n C dX9_builtBegin_5 rfl ?_
  refine aw_get C (v := .ref (rAid 52)) gf_X9_129 (hm_M f r1.2) rfl dX9_builtBegin_6 ?_
  refine aw_iload_n C dX9_builtBegin_9 rfl ?_
  obtain ⟨hb2, h⟩ := ck_some h
  refine am_iald C (rGa r1.2 52 v1) rfl (inb_vp hb2) rfl dX9_builtBegin_10 ?_
  cases h
  exact aw_iret C rfl rfl dX9_builtBegin_11 (Nat.le_refl _) (Nat.le_refl _) ⟨rfl, rfl, rfl⟩
def mX9_piece_b133 (s0 : Int32) (σ : RS9) : Option (Int32 × RS9) := some (s0, σ)
set_option maxHeartbeats 1000000 in
theorem rmX9_piece_b133 {X : GX} {p : Program} {l : Launch} {e : Env} {s : State} {m : MethodId} {args : Array Value} {below : List Frame} {meth : Method} {c : Code} {f : AH} {n : Nat} {r : Int32 × RS9} {s0 : Int32} {σ : RS9} (C : CC X p l (RM 11 0 0) s m args meth c RX9 cX9_piece 3 (some .int)) (h : mX9_piece_b133 s0 σ = some r) : AW X p l e (RM 11 0 0) s m args below meth c 3 (ZM X below args s 0 0 (QMi f n r)) (rHm f σ) n 0 0 133 [none, none, none] [.int s0] := by
  have h : some (s0, σ) = some r := h
  cases h
  exact aw_iret C rfl rfl dX9_piece_133 (Nat.le_refl _) (Nat.le_refl _) ⟨rfl, rfl, rfl⟩
def mX9_piece_b28 (v1 : Int32) (v2 : Int32) (s1 : Int32) (σ : RS9) : Option (Int32 × RS9) := (if s1 ≤ (0 : Int32) then (if v2 = (0 : Int32) then rCk (rIn v1 (rLen 34)) (some ((rGa σ 34 v1), (rSf σ 0 s1))) else if v2 = (1 : Int32) then rCk (rIn v1 (rLen 35)) (some ((rGa σ 35 v1), (rSf σ 0 s1))) else if v2 = (2 : Int32) then rCk (rIn v1 (rLen 42)) (some ((rGa σ 42 v1), (rSf σ 0 s1))) else if v2 = (3 : Int32) then ((mX9_nowMany v1 (rSf σ 0 s1)).bind fun r4 => some (r4.1, r4.2)) else if v2 = (4 : Int32) then ((mX9_toldOf v1 (rSf σ 0 s1)).bind fun r5 => (if r5.1 = (-1 : Int32) then mX9_piece_b133 (0 : Int32) r5.2 else mX9_piece_b133 (1 : Int32) r5.2)) else if v2 = (5 : Int32) then ((mX9_likeMany v1 (rSf σ 0 s1)).bind fun r6 => some (r6.1, r6.2)) else if v2 = (6 : Int32) then ((mX9_wordsOf v1 (rSf σ 0 s1)).bind fun r7 => some (r7.1, r7.2)) else if v2 = (7 : Int32) then ((mX9_knownOf v1 (rSf σ 0 s1)).bind fun r8 => some (r8.1, r8.2)) else if v2 = (8 : Int32) then ((mX9_builtOf v1 (rSf σ 0 s1)).bind fun r9 => some (r9.1, r9.2)) else ((mX9_builtBegin v1 (rSf σ 0 s1)).bind fun r10 => some (r10.1, r10.2))) else some ((0 : Int32), (rSf σ 0 s1)))
set_option maxHeartbeats 1000000 in
theorem rmX9_piece_b28 {X : GX} {p : Program} {l : Launch} {e : Env} {s : State} {m : MethodId} {args : Array Value} {below : List Frame} {meth : Method} {c : Code} {f : AH} {n : Nat} {r : Int32 × RS9} {v1 : Int32} {v2 : Int32} {s1 : Int32} {σ : RS9} (C : CC X p l (RM 11 0 0) s m args meth c RX9 cX9_piece 3 (some .int)) (h : mX9_piece_b28 v1 v2 s1 σ = some r) : AW X p l e (RM 11 0 0) s m args below meth c 3 (ZM X below args s 0 0 (QMi f n r)) (rHm f σ) n 0 0 28 [some (.ref 181), some (.int v1), some (.int v2)] [.int s1, .ref 181] := by
  have h : (if s1 ≤ (0 : Int32) then (if v2 = (0 : Int32) then rCk (rIn v1 (rLen 34)) (some ((rGa σ 34 v1), (rSf σ 0 s1))) else if v2 = (1 : Int32) then rCk (rIn v1 (rLen 35)) (some ((rGa σ 35 v1), (rSf σ 0 s1))) else if v2 = (2 : Int32) then rCk (rIn v1 (rLen 42)) (some ((rGa σ 42 v1), (rSf σ 0 s1))) else if v2 = (3 : Int32) then ((mX9_nowMany v1 (rSf σ 0 s1)).bind fun r4 => some (r4.1, r4.2)) else if v2 = (4 : Int32) then ((mX9_toldOf v1 (rSf σ 0 s1)).bind fun r5 => (if r5.1 = (-1 : Int32) then mX9_piece_b133 (0 : Int32) r5.2 else mX9_piece_b133 (1 : Int32) r5.2)) else if v2 = (5 : Int32) then ((mX9_likeMany v1 (rSf σ 0 s1)).bind fun r6 => some (r6.1, r6.2)) else if v2 = (6 : Int32) then ((mX9_wordsOf v1 (rSf σ 0 s1)).bind fun r7 => some (r7.1, r7.2)) else if v2 = (7 : Int32) then ((mX9_knownOf v1 (rSf σ 0 s1)).bind fun r8 => some (r8.1, r8.2)) else if v2 = (8 : Int32) then ((mX9_builtOf v1 (rSf σ 0 s1)).bind fun r9 => some (r9.1, r9.2)) else ((mX9_builtBegin v1 (rSf σ 0 s1)).bind fun r10 => some (r10.1, r10.2))) else some ((0 : Int32), (rSf σ 0 s1))) = some r := h
  refine am_put C gf_X9_138 nf9_0 rfl rfl dX9_piece_28 ?_
  refine aw_ald_n C dX9_piece_31 rfl ?_
  refine aw_get C (v := .int s1) gf_X9_138 (hm_M f (rSf σ 0 s1)) rfl dX9_piece_32 ?_
  refine aw_if_le C 40 dX9_piece_35 (by decide) (fun q => ?_) (fun q => ?_)
  · rw [if_pos q] at h
    refine aw_iload_n C dX9_piece_40 rfl ?_
    by_cases q : v2 = (0 : Int32)
    · rw [if_pos q] at h
      rw [q]
      refine aw_tabIn C (off := 51) 92 dX9_piece_41 (by decide) (by decide) (by decide) (by decide) ?_
      refine aw_ald_n C dX9_piece_92 rfl ?_
      refine aw_get C (v := .ref (rAid 34)) gf_X9_81 (hm_M f (rSf σ 0 s1)) rfl dX9_piece_93 ?_
      refine aw_iload_n C dX9_piece_96 rfl ?_
      obtain ⟨hb1, h⟩ := ck_some h
      refine am_iald C (rGa σ 34 v1) rfl (inb_vp hb1) rfl dX9_piece_97 ?_
      cases h
      exact aw_iret C rfl rfl dX9_piece_98 (Nat.le_refl _) (Nat.le_refl _) ⟨rfl, rfl, rfl⟩
    · rw [if_neg q] at h
      have q0 := q
      by_cases q : v2 = (1 : Int32)
      · rw [if_pos q] at h
        rw [q]
        refine aw_tabIn C (off := 58) 99 dX9_piece_41 (by decide) (by decide) (by decide) (by decide) ?_
        refine aw_ald_n C dX9_piece_99 rfl ?_
        refine aw_get C (v := .ref (rAid 35)) gf_X9_84 (hm_M f (rSf σ 0 s1)) rfl dX9_piece_100 ?_
        refine aw_iload_n C dX9_piece_103 rfl ?_
        obtain ⟨hb2, h⟩ := ck_some h
        refine am_iald C (rGa σ 35 v1) rfl (inb_vp hb2) rfl dX9_piece_104 ?_
        cases h
        exact aw_iret C rfl rfl dX9_piece_105 (Nat.le_refl _) (Nat.le_refl _) ⟨rfl, rfl, rfl⟩
      · rw [if_neg q] at h
        have q1 := q
        by_cases q : v2 = (2 : Int32)
        · rw [if_pos q] at h
          rw [q]
          refine aw_tabIn C (off := 65) 106 dX9_piece_41 (by decide) (by decide) (by decide) (by decide) ?_
          refine aw_ald_n C dX9_piece_106 rfl ?_
          refine aw_get C (v := .ref (rAid 42)) gf_X9_105 (hm_M f (rSf σ 0 s1)) rfl dX9_piece_107 ?_
          refine aw_iload_n C dX9_piece_110 rfl ?_
          obtain ⟨hb3, h⟩ := ck_some h
          refine am_iald C (rGa σ 42 v1) rfl (inb_vp hb3) rfl dX9_piece_111 ?_
          cases h
          exact aw_iret C rfl rfl dX9_piece_112 (Nat.le_refl _) (Nat.le_refl _) ⟨rfl, rfl, rfl⟩
        · rw [if_neg q] at h
          have q2 := q
          by_cases q : v2 = (3 : Int32)
          · rw [if_pos q] at h
            rw [q]
            refine aw_tabIn C (off := 72) 113 dX9_piece_41 (by decide) (by decide) (by decide) (by decide) ?_
            refine aw_ald_n C dX9_piece_113 rfl ?_
            refine aw_iload_n C dX9_piece_114 rfl ?_
            obtain ⟨r4, h4, h⟩ := Option.bind_eq_some_iff.mp h
            refine aw_callV C (ci := 9) (b := 181) [.int v1] mv_X9_313 rfl rfl (hm_M f (rSf σ 0 s1)) (rmX9_nowMany h4) rfl dX9_piece_115 (Nat.le_of_ble_eq_true rfl) (Nat.le_of_ble_eq_true rfl) rfl (Nat.le_of_ble_eq_true rfl) (Nat.le_of_ble_eq_true rfl) (Nat.le_of_ble_eq_true rfl) (fun v9 f9 n9 hh => ?_)
            obtain ⟨rfl, rfl, rfl⟩ := hh
            cases h
            exact aw_iret C rfl rfl dX9_piece_118 (Nat.le_refl _) (Nat.le_refl _) ⟨rfl, rfl, rfl⟩
          · rw [if_neg q] at h
            have q3 := q
            by_cases q : v2 = (4 : Int32)
            · rw [if_pos q] at h
              rw [q]
              refine aw_tabIn C (off := 78) 119 dX9_piece_41 (by decide) (by decide) (by decide) (by decide) ?_
              refine aw_ald_n C dX9_piece_119 rfl ?_
              refine aw_iload_n C dX9_piece_120 rfl ?_
              obtain ⟨r5, h5, h⟩ := Option.bind_eq_some_iff.mp h
              refine aw_callV C (ci := 9) (b := 181) [.int v1] mv_X9_247 rfl rfl (hm_M f (rSf σ 0 s1)) (rmX9_toldOf h5) rfl dX9_piece_121 (Nat.le_of_ble_eq_true rfl) (Nat.le_of_ble_eq_true rfl) rfl (Nat.le_of_ble_eq_true rfl) (Nat.le_of_ble_eq_true rfl) (Nat.le_of_ble_eq_true rfl) (fun v9 f9 n9 hh => ?_)
              obtain ⟨rfl, rfl, rfl⟩ := hh
              refine aw_iconst C (-1) dX9_piece_124 ki_m1 ?_
              refine aw_icmp_ne C 132 dX9_piece_125 (by decide) (fun q => ?_) (fun q => ?_)
              · rw [if_neg q] at h
                refine aw_iconst C 1 dX9_piece_132 ki_1 ?_
                refine aw_fl [none, none, none] trivial ?_
                exact rmX9_piece_b133 C h
              · rw [if_pos q] at h
                refine aw_iconst C 0 dX9_piece_128 ki_0 ?_
                refine aw_goto C 133 dX9_piece_129 (by decide) ?_
                refine aw_fl [none, none, none] trivial ?_
                exact rmX9_piece_b133 C h
            · rw [if_neg q] at h
              have q4 := q
              by_cases q : v2 = (5 : Int32)
              · rw [if_pos q] at h
                rw [q]
                refine aw_tabIn C (off := 93) 134 dX9_piece_41 (by decide) (by decide) (by decide) (by decide) ?_
                refine aw_ald_n C dX9_piece_134 rfl ?_
                refine aw_iload_n C dX9_piece_135 rfl ?_
                obtain ⟨r6, h6, h⟩ := Option.bind_eq_some_iff.mp h
                refine aw_callV C (ci := 9) (b := 181) [.int v1] mv_X9_444 rfl rfl (hm_M f (rSf σ 0 s1)) (rmX9_likeMany h6) rfl dX9_piece_136 (Nat.le_of_ble_eq_true rfl) (Nat.le_of_ble_eq_true rfl) rfl (Nat.le_of_ble_eq_true rfl) (Nat.le_of_ble_eq_true rfl) (Nat.le_of_ble_eq_true rfl) (fun v9 f9 n9 hh => ?_)
                obtain ⟨rfl, rfl, rfl⟩ := hh
                cases h
                exact aw_iret C rfl rfl dX9_piece_139 (Nat.le_refl _) (Nat.le_refl _) ⟨rfl, rfl, rfl⟩
              · rw [if_neg q] at h
                have q5 := q
                by_cases q : v2 = (6 : Int32)
                · rw [if_pos q] at h
                  rw [q]
                  refine aw_tabIn C (off := 99) 140 dX9_piece_41 (by decide) (by decide) (by decide) (by decide) ?_
                  refine aw_ald_n C dX9_piece_140 rfl ?_
                  refine aw_iload_n C dX9_piece_141 rfl ?_
                  obtain ⟨r7, h7, h⟩ := Option.bind_eq_some_iff.mp h
                  refine aw_callV C (ci := 9) (b := 181) [.int v1] mv_X9_447 rfl rfl (hm_M f (rSf σ 0 s1)) (rmX9_wordsOf h7) rfl dX9_piece_142 (Nat.le_of_ble_eq_true rfl) (Nat.le_of_ble_eq_true rfl) rfl (Nat.le_of_ble_eq_true rfl) (Nat.le_of_ble_eq_true rfl) (Nat.le_of_ble_eq_true rfl) (fun v9 f9 n9 hh => ?_)
                  obtain ⟨rfl, rfl, rfl⟩ := hh
                  cases h
                  exact aw_iret C rfl rfl dX9_piece_145 (Nat.le_refl _) (Nat.le_refl _) ⟨rfl, rfl, rfl⟩
                · rw [if_neg q] at h
                  have q6 := q
                  by_cases q : v2 = (7 : Int32)
                  · rw [if_pos q] at h
                    rw [q]
                    refine aw_tabIn C (off := 105) 146 dX9_piece_41 (by decide) (by decide) (by decide) (by decide) ?_
                    refine aw_ald_n C dX9_piece_146 rfl ?_
                    refine aw_iload_n C dX9_piece_147 rfl ?_
                    obtain ⟨r8, h8, h⟩ := Option.bind_eq_some_iff.mp h
                    refine aw_callV C (ci := 9) (b := 181) [.int v1] mv_X9_450 rfl rfl (hm_M f (rSf σ 0 s1)) (rmX9_knownOf h8) rfl dX9_piece_148 (Nat.le_of_ble_eq_true rfl) (Nat.le_of_ble_eq_true rfl) rfl (Nat.le_of_ble_eq_true rfl) (Nat.le_of_ble_eq_true rfl) (Nat.le_of_ble_eq_true rfl) (fun v9 f9 n9 hh => ?_)
                    obtain ⟨rfl, rfl, rfl⟩ := hh
                    cases h
                    exact aw_iret C rfl rfl dX9_piece_151 (Nat.le_refl _) (Nat.le_refl _) ⟨rfl, rfl, rfl⟩
                  · rw [if_neg q] at h
                    have q7 := q
                    by_cases q : v2 = (8 : Int32)
                    · rw [if_pos q] at h
                      rw [q]
                      refine aw_tabIn C (off := 111) 152 dX9_piece_41 (by decide) (by decide) (by decide) (by decide) ?_
                      refine aw_ald_n C dX9_piece_152 rfl ?_
                      refine aw_iload_n C dX9_piece_153 rfl ?_
                      obtain ⟨r9, h9, h⟩ := Option.bind_eq_some_iff.mp h
                      refine aw_callV C (ci := 9) (b := 181) [.int v1] mv_X9_290 rfl rfl (hm_M f (rSf σ 0 s1)) (rmX9_builtOf h9) rfl dX9_piece_154 (Nat.le_of_ble_eq_true rfl) (Nat.le_of_ble_eq_true rfl) rfl (Nat.le_of_ble_eq_true rfl) (Nat.le_of_ble_eq_true rfl) (Nat.le_of_ble_eq_true rfl) (fun v9 f9 n9 hh => ?_)
                      obtain ⟨rfl, rfl, rfl⟩ := hh
                      cases h
                      exact aw_iret C rfl rfl dX9_piece_157 (Nat.le_refl _) (Nat.le_refl _) ⟨rfl, rfl, rfl⟩
                    · rw [if_neg q] at h
                      have q8 := q
                      refine aw_tabOut C 158 dX9_piece_41 (sw_out9 q0 q1 q2 q3 q4 q5 q6 q7 q8) (by decide) ?_
                      refine aw_ald_n C dX9_piece_158 rfl ?_
                      refine aw_iload_n C dX9_piece_159 rfl ?_
                      obtain ⟨r10, h10, h⟩ := Option.bind_eq_some_iff.mp h
                      refine aw_callV C (ci := 9) (b := 181) [.int v1] mv_X9_453 rfl rfl (hm_M f (rSf σ 0 s1)) (rmX9_builtBegin h10) rfl dX9_piece_160 (Nat.le_of_ble_eq_true rfl) (Nat.le_of_ble_eq_true rfl) rfl (Nat.le_of_ble_eq_true rfl) (Nat.le_of_ble_eq_true rfl) (Nat.le_of_ble_eq_true rfl) (fun v9 f9 n9 hh => ?_)
                      obtain ⟨rfl, rfl, rfl⟩ := hh
                      cases h
                      exact aw_iret C rfl rfl dX9_piece_163 (Nat.le_refl _) (Nat.le_refl _) ⟨rfl, rfl, rfl⟩
  · rw [if_neg q] at h
    refine aw_iconst C 0 dX9_piece_38 ki_0 ?_
    cases h
    exact aw_iret C rfl rfl dX9_piece_39 (Nat.le_refl _) (Nat.le_refl _) ⟨rfl, rfl, rfl⟩
def mX9_piece (v1 : Int32) (v2 : Int32) (σ : RS9) : Option (Int32 × RS9) := ((mX9_isPieceThere v1 σ).bind fun r1 => (if r1.1 = (0 : Int32) then mX9_piece_b28 v1 v2 (1 : Int32) r1.2 else ((mX9_isIn v2 (0 : Int32) (9 : Int32) r1.2).bind fun r2 => (if r2.1 = (0 : Int32) then mX9_piece_b28 v1 v2 (2 : Int32) r2.2 else mX9_piece_b28 v1 v2 (0 : Int32) r2.2))))
set_option maxHeartbeats 1000000 in
theorem rmX9_piece {X : GX} {l : Launch} {f : AH} {n : Nat} {r : Int32 × RS9} {v1 : Int32} {v2 : Int32} {σ : RS9} (h : mX9_piece v1 v2 σ = some r) : AM X l yX9_piece cX9_piece 3 (some .int) 11 0 0 [.ref 181, .int v1, .int v2] (rHm f σ) n (QMi f n r) := by
  have h : ((mX9_isPieceThere v1 σ).bind fun r1 => (if r1.1 = (0 : Int32) then mX9_piece_b28 v1 v2 (1 : Int32) r1.2 else ((mX9_isIn v2 (0 : Int32) (9 : Int32) r1.2).bind fun r2 => (if r2.1 = (0 : Int32) then mX9_piece_b28 v1 v2 (2 : Int32) r2.2 else mX9_piece_b28 v1 v2 (0 : Int32) r2.2)))) = some r := h
  refine AM.of (by decide +kernel) rfl (Nat.le_of_ble_eq_true rfl) (fun p e s m args below meth c C _ => ?_)
  refine aw_nl [some (.ref 181), some (.int v1), some (.int v2)] rfl ?_
  refine aw_ald_n C dX9_piece_0 rfl ?_
  refine aw_ald_n C dX9_piece_1 rfl ?_
  refine aw_iload_n C dX9_piece_2 rfl ?_
  obtain ⟨r1, h1, h⟩ := Option.bind_eq_some_iff.mp h
  refine aw_callV C (ci := 9) (b := 181) [.int v1] mv_X9_293 rfl rfl (hm_M f σ) (rmX9_isPieceThere h1) rfl dX9_piece_3 (Nat.le_of_ble_eq_true rfl) (Nat.le_of_ble_eq_true rfl) rfl (Nat.le_of_ble_eq_true rfl) (Nat.le_of_ble_eq_true rfl) (Nat.le_of_ble_eq_true rfl) (fun v9 f9 n9 hh => ?_)
  obtain ⟨rfl, rfl, rfl⟩ := hh
  refine aw_if_ne C 13 dX9_piece_6 (by decide) (fun q => ?_) (fun q => ?_)
  · rw [if_neg q] at h
    refine aw_iload_n C dX9_piece_13 rfl ?_
    refine aw_iconst C 0 dX9_piece_14 ki_0 ?_
    refine aw_bipush C 9 dX9_piece_15 kb_9 ?_
    obtain ⟨r2, h2, h⟩ := Option.bind_eq_some_iff.mp h
    refine aw_callS C [.int v2, .int (0 : Int32), .int (9 : Int32)] ms_X9_141 (rmX9_isIn h2) rfl dX9_piece_17 (Nat.le_of_ble_eq_true rfl) (Nat.le_of_ble_eq_true rfl) rfl (Nat.le_of_ble_eq_true rfl) (Nat.le_of_ble_eq_true rfl) (Nat.le_of_ble_eq_true rfl) (fun v9 f9 n9 hh => ?_)
    obtain ⟨rfl, rfl, rfl⟩ := hh
    refine aw_if_ne C 27 dX9_piece_20 (by decide) (fun q => ?_) (fun q => ?_)
    · rw [if_neg q] at h
      refine aw_iconst C 0 dX9_piece_27 ki_0 ?_
      refine aw_fl [some (.ref 181), some (.int v1), some (.int v2)] ⟨rfl, ⟨rfl, ⟨rfl, trivial⟩⟩⟩ ?_
      exact rmX9_piece_b28 C h
    · rw [if_pos q] at h
      refine aw_iconst C 2 dX9_piece_23 ki_2 ?_
      refine aw_goto C 28 dX9_piece_24 (by decide) ?_
      refine aw_fl [some (.ref 181), some (.int v1), some (.int v2)] ⟨rfl, ⟨rfl, ⟨rfl, trivial⟩⟩⟩ ?_
      exact rmX9_piece_b28 C h
  · rw [if_pos q] at h
    refine aw_iconst C 1 dX9_piece_9 ki_1 ?_
    refine aw_goto C 28 dX9_piece_10 (by decide) ?_
    refine aw_fl [some (.ref 181), some (.int v1), some (.int v2)] ⟨rfl, ⟨rfl, ⟨rfl, trivial⟩⟩⟩ ?_
    exact rmX9_piece_b28 C h
end
/-! part 22ci.ref -/
section
def mX9_at_b65 (s0 : Int32) (σ : RS9) : Option (Int32 × RS9) := some (s0, σ)
set_option maxHeartbeats 1000000 in
theorem rmX9_at_b65 {X : GX} {p : Program} {l : Launch} {e : Env} {s : State} {m : MethodId} {args : Array Value} {below : List Frame} {meth : Method} {c : Code} {f : AH} {n : Nat} {r : Int32 × RS9} {s0 : Int32} {σ : RS9} (C : CC X p l (RM 10 0 0) s m args meth c RX9 cX9_at 4 (some .int)) (h : mX9_at_b65 s0 σ = some r) : AW X p l e (RM 10 0 0) s m args below meth c 4 (ZM X below args s 0 0 (QMi f n r)) (rHm f σ) n 0 0 65 [none, none, none, none] [.int s0] := by
  have h : some (s0, σ) = some r := h
  cases h
  exact aw_iret C rfl rfl dX9_at_65 (Nat.le_refl _) (Nat.le_refl _) ⟨rfl, rfl, rfl⟩
def mX9_at_b38 (s0 : Int32) (σ : RS9) : Option (Int32 × RS9) := some (s0, σ)
set_option maxHeartbeats 1000000 in
theorem rmX9_at_b38 {X : GX} {p : Program} {l : Launch} {e : Env} {s : State} {m : MethodId} {args : Array Value} {below : List Frame} {meth : Method} {c : Code} {f : AH} {n : Nat} {r : Int32 × RS9} {s0 : Int32} {σ : RS9} (C : CC X p l (RM 10 0 0) s m args meth c RX9 cX9_at 4 (some .int)) (h : mX9_at_b38 s0 σ = some r) : AW X p l e (RM 10 0 0) s m args below meth c 4 (ZM X below args s 0 0 (QMi f n r)) (rHm f σ) n 0 0 38 [none, none, none, none] [.int s0] := by
  have h : some (s0, σ) = some r := h
  cases h
  exact aw_iret C rfl rfl dX9_at_38 (Nat.le_refl _) (Nat.le_refl _) ⟨rfl, rfl, rfl⟩
def mX9_at (v1 : Int32) (v2 : Int32) (σ : RS9) : Option (Int32 × RS9) := (if v2 = (0 : Int32) then rCk (rIn (0 : Int32) (rLen 1)) (((mX9_isIn v1 (0 : Int32) ((rGa σ 1 (0 : Int32)) - (1 : Int32)) (rSf σ 0 (0 : Int32))).bind fun r5 => (if r5.1 = (0 : Int32) then mX9_at_b38 (-1 : Int32) r5.2 else rCk (rIn ((43 : Int32) + v1) (rLen 1)) (mX9_at_b38 (rGa r5.2 1 ((43 : Int32) + v1)) r5.2)))) else ((mX9_builds (rSf σ 0 (0 : Int32))).bind fun r1 => ((mX9_isIn v1 (0 : Int32) (r1.1 - (1 : Int32)) r1.2).bind fun r2 => (if r2.1 = (0 : Int32) then mX9_at_b65 (-1 : Int32) r2.2 else rCk (rIn v1 (rLen 49)) (mX9_at_b65 (rGa r2.2 49 v1) r2.2)))))
set_option maxHeartbeats 1000000 in
theorem rmX9_at {X : GX} {l : Launch} {f : AH} {n : Nat} {r : Int32 × RS9} {v1 : Int32} {v2 : Int32} {σ : RS9} (h : mX9_at v1 v2 σ = some r) : AM X l yX9_at cX9_at 4 (some .int) 10 0 0 [.ref 181, .int v1, .int v2] (rHm f σ) n (QMi f n r) := by
  have h : (if v2 = (0 : Int32) then rCk (rIn (0 : Int32) (rLen 1)) (((mX9_isIn v1 (0 : Int32) ((rGa σ 1 (0 : Int32)) - (1 : Int32)) (rSf σ 0 (0 : Int32))).bind fun r5 => (if r5.1 = (0 : Int32) then mX9_at_b38 (-1 : Int32) r5.2 else rCk (rIn ((43 : Int32) + v1) (rLen 1)) (mX9_at_b38 (rGa r5.2 1 ((43 : Int32) + v1)) r5.2)))) else ((mX9_builds (rSf σ 0 (0 : Int32))).bind fun r1 => ((mX9_isIn v1 (0 : Int32) (r1.1 - (1 : Int32)) r1.2).bind fun r2 => (if r2.1 = (0 : Int32) then mX9_at_b65 (-1 : Int32) r2.2 else rCk (rIn v1 (rLen 49)) (mX9_at_b65 (rGa r2.2 49 v1) r2.2))))) = some r := h
  refine AM.of (by decide +kernel) rfl (Nat.le_of_ble_eq_true rfl) (fun p e s m args below meth c C _ => ?_)
  refine aw_nl [some (.ref 181), some (.int v1), some (.int v2), none] rfl ?_
  refine aw_ald_n C dX9_at_0 rfl ?_
  refine aw_iconst C 0 dX9_at_1 ki_0 ?_
  refine am_put C gf_X9_138 nf9_0 rfl rfl dX9_at_2 ?_
  refine aw_iload_n C dX9_at_5 rfl ?_
  refine aw_if_ne C 39 dX9_at_6 (by decide) (fun q => ?_) (fun q => ?_)
  · rw [if_neg q] at h
    refine aw_ald_n C dX9_at_39 rfl ?_
    obtain ⟨r1, h1, h⟩ := Option.bind_eq_some_iff.mp h
    refine aw_callV C (ci := 9) (b := 181) [] mv_X9_441 rfl rfl (hm_M f (rSf σ 0 (0 : Int32))) (rmX9_builds h1) rfl dX9_at_40 (Nat.le_of_ble_eq_true rfl) (Nat.le_of_ble_eq_true rfl) rfl (Nat.le_of_ble_eq_true rfl) (Nat.le_of_ble_eq_true rfl) (Nat.le_of_ble_eq_true rfl) (fun v9 f9 n9 hh => ?_)
    obtain ⟨rfl, rfl, rfl⟩ := hh
    refine aw_istore_n C dX9_at_43 (by decide) rfl ?_
    refine aw_nl [some (.ref 181), some (.int v1), some (.int v2), some (.int r1.1)] rfl ?_
    refine aw_iload_n C dX9_at_44 rfl ?_
    refine aw_iconst C 0 dX9_at_45 ki_0 ?_
    refine aw_iload_n C dX9_at_46 rfl ?_
    refine aw_iconst C 1 dX9_at_47 ki_1 ?_
    refine aw_isub C dX9_at_48 ?_
    obtain ⟨r2, h2, h⟩ := Option.bind_eq_some_iff.mp h
    refine aw_callS C [.int v1, .int (0 : Int32), .int (r1.1 - (1 : Int32))] ms_X9_141 (rmX9_isIn h2) rfl dX9_at_49 (Nat.le_of_ble_eq_true rfl) (Nat.le_of_ble_eq_true rfl) rfl (Nat.le_of_ble_eq_true rfl) (Nat.le_of_ble_eq_true rfl) (Nat.le_of_ble_eq_true rfl) (fun v9 f9 n9 hh => ?_)
    obtain ⟨rfl, rfl, rfl⟩ := hh
    refine aw_if_eq C 64 dX9_at_52 (by decide) (fun q => ?_) (fun q => ?_)
    · rw [if_pos q] at h
      refine aw_iconst C (-1) dX9_at_64 ki_m1 ?_
      refine aw_fl [none, none, none, none] trivial ?_
      exact rmX9_at_b65 C h
    · rw [if_neg q] at h
      refine aw_ald_n C dX9_at_55 rfl ?_
      refine aw_get C (v := .ref (rAid 49)) gf_X9_120 (hm_M f r2.2) rfl dX9_at_56 ?_
      refine aw_iload_n C dX9_at_59 rfl ?_
      obtain ⟨hb3, h⟩ := ck_some h
      refine am_iald C (rGa r2.2 49 v1) rfl (inb_vp hb3) rfl dX9_at_60 ?_
      refine aw_goto C 65 dX9_at_61 (by decide) ?_
      refine aw_fl [none, none, none, none] trivial ?_
      exact rmX9_at_b65 C h
  · rw [if_pos q] at h
    refine aw_iload_n C dX9_at_9 rfl ?_
    refine aw_iconst C 0 dX9_at_10 ki_0 ?_
    refine aw_ald_n C dX9_at_11 rfl ?_
    refine aw_get C (v := .ref (rAid 1)) gf_X9_7 (hm_M f (rSf σ 0 (0 : Int32))) rfl dX9_at_12 ?_
    refine aw_iconst C 0 dX9_at_15 ki_0 ?_
    obtain ⟨hb4, h⟩ := ck_some h
    refine am_iald C (rGa σ 1 (0 : Int32)) rfl (inb_vp hb4) rfl dX9_at_16 ?_
    refine aw_iconst C 1 dX9_at_17 ki_1 ?_
    refine aw_isub C dX9_at_18 ?_
    obtain ⟨r5, h5, h⟩ := Option.bind_eq_some_iff.mp h
    refine aw_callS C [.int v1, .int (0 : Int32), .int ((rGa σ 1 (0 : Int32)) - (1 : Int32))] ms_X9_141 (rmX9_isIn h5) rfl dX9_at_19 (Nat.le_of_ble_eq_true rfl) (Nat.le_of_ble_eq_true rfl) rfl (Nat.le_of_ble_eq_true rfl) (Nat.le_of_ble_eq_true rfl) (Nat.le_of_ble_eq_true rfl) (fun v9 f9 n9 hh => ?_)
    obtain ⟨rfl, rfl, rfl⟩ := hh
    refine aw_if_eq C 37 dX9_at_22 (by decide) (fun q => ?_) (fun q => ?_)
    · rw [if_pos q] at h
      refine aw_iconst C (-1) dX9_at_37 ki_m1 ?_
      refine aw_fl [none, none, none, none] trivial ?_
      exact rmX9_at_b38 C h
    · rw [if_neg q] at h
      refine aw_ald_n C dX9_at_25 rfl ?_
      refine aw_get C (v := .ref (rAid 1)) gf_X9_7 (hm_M f r5.2) rfl dX9_at_26 ?_
      refine aw_bipush C 43 dX9_at_29 kb_43 ?_
      refine aw_iload_n C dX9_at_31 rfl ?_
      refine aw_iadd C dX9_at_32 ?_
      obtain ⟨hb6, h⟩ := ck_some h
      refine am_iald C (rGa r5.2 1 ((43 : Int32) + v1)) rfl (inb_vp hb6) rfl dX9_at_33 ?_
      refine aw_goto C 38 dX9_at_34 (by decide) ?_
      refine aw_fl [none, none, none, none] trivial ?_
      exact rmX9_at_b38 C h
def mX9_would_b49 (s0 : Int32) (σ : RS9) : Option (Int32 × RS9) := some (s0, σ)
set_option maxHeartbeats 1000000 in
theorem rmX9_would_b49 {X : GX} {p : Program} {l : Launch} {e : Env} {s : State} {m : MethodId} {args : Array Value} {below : List Frame} {meth : Method} {c : Code} {f : AH} {n : Nat} {r : Int32 × RS9} {s0 : Int32} {σ : RS9} (C : CC X p l (RM 8 0 0) s m args meth c RX9 cX9_would 3 (some .int)) (h : mX9_would_b49 s0 σ = some r) : AW X p l e (RM 8 0 0) s m args below meth c 3 (ZM X below args s 0 0 (QMi f n r)) (rHm f σ) n 0 0 49 [none, none, none] [.int s0] := by
  have h : some (s0, σ) = some r := h
  cases h
  exact aw_iret C rfl rfl dX9_would_49 (Nat.le_refl _) (Nat.le_refl _) ⟨rfl, rfl, rfl⟩
def mX9_would_b29 (v1 : Int32) (v2 : Int32) (s1 : Int32) (σ : RS9) : Option (Int32 × RS9) := (if s1 ≤ (0 : Int32) then ((mX9_escapedFor v1 v2 (rSf σ 0 s1)).bind fun r1 => mX9_would_b49 r1.1 r1.2) else mX9_would_b49 (0 : Int32) (rSf σ 0 s1))
set_option maxHeartbeats 1000000 in
theorem rmX9_would_b29 {X : GX} {p : Program} {l : Launch} {e : Env} {s : State} {m : MethodId} {args : Array Value} {below : List Frame} {meth : Method} {c : Code} {f : AH} {n : Nat} {r : Int32 × RS9} {v1 : Int32} {v2 : Int32} {s1 : Int32} {σ : RS9} (C : CC X p l (RM 8 0 0) s m args meth c RX9 cX9_would 3 (some .int)) (h : mX9_would_b29 v1 v2 s1 σ = some r) : AW X p l e (RM 8 0 0) s m args below meth c 3 (ZM X below args s 0 0 (QMi f n r)) (rHm f σ) n 0 0 29 [some (.ref 181), some (.int v1), some (.int v2)] [.int s1, .ref 181] := by
  have h : (if s1 ≤ (0 : Int32) then ((mX9_escapedFor v1 v2 (rSf σ 0 s1)).bind fun r1 => mX9_would_b49 r1.1 r1.2) else mX9_would_b49 (0 : Int32) (rSf σ 0 s1)) = some r := h
  refine am_put C gf_X9_138 nf9_0 rfl rfl dX9_would_29 ?_
  refine aw_ald_n C dX9_would_32 rfl ?_
  refine aw_get C (v := .int s1) gf_X9_138 (hm_M f (rSf σ 0 s1)) rfl dX9_would_33 ?_
  refine aw_if_le C 43 dX9_would_36 (by decide) (fun q => ?_) (fun q => ?_)
  · rw [if_pos q] at h
    refine aw_ald_n C dX9_would_43 rfl ?_
    refine aw_iload_n C dX9_would_44 rfl ?_
    refine aw_iload_n C dX9_would_45 rfl ?_
    obtain ⟨r1, h1, h⟩ := Option.bind_eq_some_iff.mp h
    refine aw_callV C (ci := 9) (b := 181) [.int v1, .int v2] mv_X9_287 rfl rfl (hm_M f (rSf σ 0 s1)) (rmX9_escapedFor h1) rfl dX9_would_46 (Nat.le_of_ble_eq_true rfl) (Nat.le_of_ble_eq_true rfl) rfl (Nat.le_of_ble_eq_true rfl) (Nat.le_of_ble_eq_true rfl) (Nat.le_of_ble_eq_true rfl) (fun v9 f9 n9 hh => ?_)
    obtain ⟨rfl, rfl, rfl⟩ := hh
    refine aw_fl [none, none, none] trivial ?_
    exact rmX9_would_b49 C h
  · rw [if_neg q] at h
    refine aw_iconst C 0 dX9_would_39 ki_0 ?_
    refine aw_goto C 49 dX9_would_40 (by decide) ?_
    refine aw_fl [none, none, none] trivial ?_
    exact rmX9_would_b49 C h
def mX9_would (v1 : Int32) (σ : RS9) : Option (Int32 × RS9) := ((mX9_tookTold σ).bind fun r1 => ((mX9_isPieceThere v1 r1.2).bind fun r2 => (if r2.1 = (0 : Int32) then mX9_would_b29 v1 r1.1 (1 : Int32) r2.2 else (if r1.1 ≤ (60 : Int32) then mX9_would_b29 v1 r1.1 (0 : Int32) r2.2 else mX9_would_b29 v1 r1.1 (2 : Int32) r2.2))))
set_option maxHeartbeats 1000000 in
theorem rmX9_would {X : GX} {l : Launch} {f : AH} {n : Nat} {r : Int32 × RS9} {v1 : Int32} {σ : RS9} (h : mX9_would v1 σ = some r) : AM X l yX9_would cX9_would 3 (some .int) 8 0 0 [.ref 181, .int v1] (rHm f σ) n (QMi f n r) := by
  have h : ((mX9_tookTold σ).bind fun r1 => ((mX9_isPieceThere v1 r1.2).bind fun r2 => (if r2.1 = (0 : Int32) then mX9_would_b29 v1 r1.1 (1 : Int32) r2.2 else (if r1.1 ≤ (60 : Int32) then mX9_would_b29 v1 r1.1 (0 : Int32) r2.2 else mX9_would_b29 v1 r1.1 (2 : Int32) r2.2)))) = some r := h
  refine AM.of (by decide +kernel) rfl (Nat.le_of_ble_eq_true rfl) (fun p e s m args below meth c C _ => ?_)
  refine aw_nl [some (.ref 181), some (.int v1), none] rfl ?_
  refine aw_ald_n C dX9_would_0 rfl ?_
  obtain ⟨r1, h1, h⟩ := Option.bind_eq_some_iff.mp h
  refine aw_callV C (ci := 9) (b := 181) [] mv_X9_435 rfl rfl (hm_M f σ) (rmX9_tookTold h1) rfl dX9_would_1 (Nat.le_of_ble_eq_true rfl) (Nat.le_of_ble_eq_true rfl) rfl (Nat.le_of_ble_eq_true rfl) (Nat.le_of_ble_eq_true rfl) (Nat.le_of_ble_eq_true rfl) (fun v9 f9 n9 hh => ?_)
  obtain ⟨rfl, rfl, rfl⟩ := hh
  refine aw_istore_n C dX9_would_4 (by decide) rfl ?_
  refine aw_nl [some (.ref 181), some (.int v1), some (.int r1.1)] rfl ?_
  refine aw_ald_n C dX9_would_5 rfl ?_
  refine aw_ald_n C dX9_would_6 rfl ?_
  refine aw_iload_n C dX9_would_7 rfl ?_
  obtain ⟨r2, h2, h⟩ := Option.bind_eq_some_iff.mp h
  refine aw_callV C (ci := 9) (b := 181) [.int v1] mv_X9_293 rfl rfl (hm_M f r1.2) (rmX9_isPieceThere h2) rfl dX9_would_8 (Nat.le_of_ble_eq_true rfl) (Nat.le_of_ble_eq_true rfl) rfl (Nat.le_of_ble_eq_true rfl) (Nat.le_of_ble_eq_true rfl) (Nat.le_of_ble_eq_true rfl) (fun v9 f9 n9 hh => ?_)
  obtain ⟨rfl, rfl, rfl⟩ := hh
  refine aw_if_ne C 18 dX9_would_11 (by decide) (fun q => ?_) (fun q => ?_)
  · rw [if_neg q] at h
    refine aw_iload_n C dX9_would_18 rfl ?_
    refine aw_bipush C 60 dX9_would_19 kb_60 ?_
    refine aw_icmp_le C 28 dX9_would_21 (by decide) (fun q => ?_) (fun q => ?_)
    · rw [if_pos q] at h
      refine aw_iconst C 0 dX9_would_28 ki_0 ?_
      refine aw_fl [some (.ref 181), some (.int v1), some (.int r1.1)] ⟨rfl, ⟨rfl, ⟨rfl, trivial⟩⟩⟩ ?_
      exact rmX9_would_b29 C h
    · rw [if_neg q] at h
      refine aw_iconst C 2 dX9_would_24 ki_2 ?_
      refine aw_goto C 29 dX9_would_25 (by decide) ?_
      refine aw_fl [some (.ref 181), some (.int v1), some (.int r1.1)] ⟨rfl, ⟨rfl, ⟨rfl, trivial⟩⟩⟩ ?_
      exact rmX9_would_b29 C h
  · rw [if_pos q] at h
    refine aw_iconst C 1 dX9_would_14 ki_1 ?_
    refine aw_goto C 29 dX9_would_15 (by decide) ?_
    refine aw_fl [some (.ref 181), some (.int v1), some (.int r1.1)] ⟨rfl, ⟨rfl, ⟨rfl, trivial⟩⟩⟩ ?_
    exact rmX9_would_b29 C h
def mX9_cutsBuilt_l99 : Nat → Int32 → Int32 → RS9 → Option (Int32 × RS9)
  | 0, _, _, _ => none
  | d + 1, v1, v4, σ => (if v1 ≤ v4 then ((mX9_cutsAll σ).bind fun r1 => some ((0 : Int32), r1.2)) else rCk (rIn v4 (rLen 49)) (rCk (rIn v4 (rLen 13)) (mX9_cutsBuilt_l99 d v1 (v4 + (1 : Int32)) (rSa σ 13 v4 (rGa σ 49 v4)))))
set_option maxHeartbeats 1000000 in
theorem rmX9_cutsBuilt_l99 {X : GX} {p : Program} {l : Launch} {e : Env} {s : State} {m : MethodId} {args : Array Value} {below : List Frame} {meth : Method} {c : Code} {f : AH} {n : Nat} {r : Int32 × RS9} (C : CC X p l (RM 10 0 0) s m args meth c RX9 cX9_cutsBuilt 6 none) : ∀ (d : Nat) (v1 : Int32) (v4 : Int32) (σ : RS9) (_ : mX9_cutsBuilt_l99 d v1 v4 σ = some r), AW X p l e (RM 10 0 0) s m args below meth c 6 (ZM X below args s 0 0 (QMv f n r)) (rHm f σ) n 0 0 99 [some (.ref 181), some (.int v1), none, none, some (.int v4), none] [] := by
  intro d
  induction d with
  | zero =>
    intro v1 v4 σ h
    exact nomatch (show (none : Option (Int32 × RS9)) = some r from h)
  | succ d ih =>
    intro v1 v4 σ h
    have h : (if v1 ≤ v4 then ((mX9_cutsAll σ).bind fun r1 => some ((0 : Int32), r1.2)) else rCk (rIn v4 (rLen 49)) (rCk (rIn v4 (rLen 13)) (mX9_cutsBuilt_l99 d v1 (v4 + (1 : Int32)) (rSa σ 13 v4 (rGa σ 49 v4))))) = some r := h
    refine aw_iload C dX9_cutsBuilt_99 rfl ?_
    refine aw_iload_n C dX9_cutsBuilt_101 rfl ?_
    refine aw_icmp_ge C 125 dX9_cutsBuilt_102 (by decide) (fun q => ?_) (fun q => ?_)
    · rw [if_pos q] at h
      refine aw_ald_n C dX9_cutsBuilt_125 rfl ?_
      obtain ⟨r1, h1, h⟩ := Option.bind_eq_some_iff.mp h
      refine aw_callV C (ci := 9) (b := 181) [] mv_X9_241 rfl rfl (hm_M f σ) (rmX9_cutsAll h1) rfl dX9_cutsBuilt_126 (Nat.le_of_ble_eq_true rfl) (Nat.le_of_ble_eq_true rfl) rfl (Nat.le_of_ble_eq_true rfl) (Nat.le_of_ble_eq_true rfl) (Nat.le_of_ble_eq_true rfl) (fun v9 f9 n9 hh => ?_)
      obtain ⟨rfl, rfl, rfl⟩ := hh
      cases h
      exact aw_vret C rfl dX9_cutsBuilt_129 (Nat.le_refl _) (Nat.le_refl _) ⟨rfl, rfl, rfl⟩
    · rw [if_neg q] at h
      refine aw_ald_n C dX9_cutsBuilt_105 rfl ?_
      refine aw_get C (v := .ref (rAid 13)) gf_X9_30 (hm_M f σ) rfl dX9_cutsBuilt_106 ?_
      refine aw_iload C dX9_cutsBuilt_109 rfl ?_
      refine aw_ald_n C dX9_cutsBuilt_111 rfl ?_
      refine aw_get C (v := .ref (rAid 49)) gf_X9_120 (hm_M f σ) rfl dX9_cutsBuilt_112 ?_
      refine aw_iload C dX9_cutsBuilt_115 rfl ?_
      obtain ⟨hb2, h⟩ := ck_some h
      refine am_iald C (rGa σ 49 v4) rfl (inb_vp hb2) rfl dX9_cutsBuilt_117 ?_
      obtain ⟨hb3, h⟩ := ck_some h
      refine am_iast C rfl (inb_vp hb3) dX9_cutsBuilt_118 ?_
      refine aw_iinc C (v4 + (1 : Int32)) dX9_cutsBuilt_119 rfl (by rw [ki_1]) (by decide) rfl ?_
      refine aw_nl [some (.ref 181), some (.int v1), none, none, some (.int (v4 + (1 : Int32))), none] rfl ?_
      refine aw_goto C 99 dX9_cutsBuilt_122 (by decide) ?_
      refine aw_fl [some (.ref 181), some (.int v1), none, none, some (.int (v4 + (1 : Int32))), none] ⟨rfl, ⟨rfl, ⟨rfl, trivial⟩⟩⟩ ?_
      exact ih v1 (v4 + (1 : Int32)) (rSa σ 13 v4 (rGa σ 49 v4)) h
def mX9_cutsBuilt_b78 (rec20 : Int32 → Int32 → Int32 → Int32 → RS9 → Option (Int32 × RS9)) (v1 : Int32) (v2 : Int32) (v3 : Int32) (v4 : Int32) (σ : RS9) : Option (Int32 × RS9) := rec20 v1 v2 v3 (v4 + (1 : Int32)) σ
set_option maxHeartbeats 1000000 in
theorem rmX9_cutsBuilt_b78 {X : GX} {p : Program} {l : Launch} {e : Env} {s : State} {m : MethodId} {args : Array Value} {below : List Frame} {meth : Method} {c : Code} {f : AH} {n : Nat} {r : Int32 × RS9} {rec20 : Int32 → Int32 → Int32 → Int32 → RS9 → Option (Int32 × RS9)} {v1 : Int32} {v2 : Int32} {v3 : Int32} {v4 : Int32} {σ : RS9} (C : CC X p l (RM 10 0 0) s m args meth c RX9 cX9_cutsBuilt 6 none) (Hr20 : ∀ (v1 : Int32) (v2 : Int32) (v3 : Int32) (v4 : Int32) (σ : RS9), rec20 v1 v2 v3 v4 σ = some r → AW X p l e (RM 10 0 0) s m args below meth c 6 (ZM X below args s 0 0 (QMv f n r)) (rHm f σ) n 0 0 20 [some (.ref 181), some (.int v1), some (.int v2), some (.int v3), some (.int v4), none] []) (h : mX9_cutsBuilt_b78 rec20 v1 v2 v3 v4 σ = some r) : AW X p l e (RM 10 0 0) s m args below meth c 6 (ZM X below args s 0 0 (QMv f n r)) (rHm f σ) n 0 0 78 [some (.ref 181), some (.int v1), some (.int v2), some (.int v3), some (.int v4), none] [] := by
  have h : rec20 v1 v2 v3 (v4 + (1 : Int32)) σ = some r := h
  refine aw_iinc C (v4 + (1 : Int32)) dX9_cutsBuilt_78 rfl (by rw [ki_1]) (by decide) rfl ?_
  refine aw_nl [some (.ref 181), some (.int v1), some (.int v2), some (.int v3), some (.int (v4 + (1 : Int32))), none] rfl ?_
  refine aw_goto C 20 dX9_cutsBuilt_81 (by decide) ?_
  refine aw_fl [some (.ref 181), some (.int v1), some (.int v2), some (.int v3), some (.int (v4 + (1 : Int32))), none] ⟨rfl, ⟨rfl, ⟨rfl, ⟨rfl, ⟨rfl, trivial⟩⟩⟩⟩⟩ ?_
  exact Hr20 v1 v2 v3 (v4 + (1 : Int32)) σ h
def mX9_cutsBuilt_l37 (rec20 : Int32 → Int32 → Int32 → Int32 → RS9 → Option (Int32 × RS9)) : Nat → Int32 → Int32 → Int32 → Int32 → Int32 → RS9 → Option (Int32 × RS9)
  | 0, _, _, _, _, _, _ => none
  | d + 1, v1, v2, v3, v4, v5, σ => ((mX9_nowMany v4 σ).bind fun r1 => (if r1.1 ≤ v5 then mX9_cutsBuilt_b78 rec20 v1 v2 v3 v4 r1.2 else (if (700 : Int32) ≤ v3 then mX9_cutsBuilt_b78 rec20 v1 v2 v3 v4 r1.2 else ((mX9_nowByte v4 v5 r1.2).bind fun r2 => rCk (rIn v3 (rLen 50)) (mX9_cutsBuilt_l37 rec20 d v1 v2 (v3 + (1 : Int32)) v4 (v5 + (1 : Int32)) (rSa r2.2 50 v3 r2.1))))))
set_option maxHeartbeats 1000000 in
theorem rmX9_cutsBuilt_l37 {X : GX} {p : Program} {l : Launch} {e : Env} {s : State} {m : MethodId} {args : Array Value} {below : List Frame} {meth : Method} {c : Code} {f : AH} {n : Nat} {r : Int32 × RS9} {rec20 : Int32 → Int32 → Int32 → Int32 → RS9 → Option (Int32 × RS9)} (C : CC X p l (RM 10 0 0) s m args meth c RX9 cX9_cutsBuilt 6 none) (Hr20 : ∀ (v1 : Int32) (v2 : Int32) (v3 : Int32) (v4 : Int32) (σ : RS9), rec20 v1 v2 v3 v4 σ = some r → AW X p l e (RM 10 0 0) s m args below meth c 6 (ZM X below args s 0 0 (QMv f n r)) (rHm f σ) n 0 0 20 [some (.ref 181), some (.int v1), some (.int v2), some (.int v3), some (.int v4), none] []) : ∀ (d : Nat) (v1 : Int32) (v2 : Int32) (v3 : Int32) (v4 : Int32) (v5 : Int32) (σ : RS9) (_ : mX9_cutsBuilt_l37 rec20 d v1 v2 v3 v4 v5 σ = some r), AW X p l e (RM 10 0 0) s m args below meth c 6 (ZM X below args s 0 0 (QMv f n r)) (rHm f σ) n 0 0 37 [some (.ref 181), some (.int v1), some (.int v2), some (.int v3), some (.int v4), some (.int v5)] [] := by
  intro d
  induction d with
  | zero =>
    intro v1 v2 v3 v4 v5 σ h
    exact nomatch (show (none : Option (Int32 × RS9)) = some r from h)
  | succ d ih =>
    intro v1 v2 v3 v4 v5 σ h
    have h : ((mX9_nowMany v4 σ).bind fun r1 => (if r1.1 ≤ v5 then mX9_cutsBuilt_b78 rec20 v1 v2 v3 v4 r1.2 else (if (700 : Int32) ≤ v3 then mX9_cutsBuilt_b78 rec20 v1 v2 v3 v4 r1.2 else ((mX9_nowByte v4 v5 r1.2).bind fun r2 => rCk (rIn v3 (rLen 50)) (mX9_cutsBuilt_l37 rec20 d v1 v2 (v3 + (1 : Int32)) v4 (v5 + (1 : Int32)) (rSa r2.2 50 v3 r2.1)))))) = some r := h
    refine aw_iload C dX9_cutsBuilt_37 rfl ?_
    refine aw_ald_n C dX9_cutsBuilt_39 rfl ?_
    refine aw_iload C dX9_cutsBuilt_40 rfl ?_
    obtain ⟨r1, h1, h⟩ := Option.bind_eq_some_iff.mp h
    refine aw_callV C (ci := 9) (b := 181) [.int v4] mv_X9_313 rfl rfl (hm_M f σ) (rmX9_nowMany h1) rfl dX9_cutsBuilt_42 (Nat.le_of_ble_eq_true rfl) (Nat.le_of_ble_eq_true rfl) rfl (Nat.le_of_ble_eq_true rfl) (Nat.le_of_ble_eq_true rfl) (Nat.le_of_ble_eq_true rfl) (fun v9 f9 n9 hh => ?_)
    obtain ⟨rfl, rfl, rfl⟩ := hh
    refine aw_icmp_ge C 78 dX9_cutsBuilt_45 (by decide) (fun q => ?_) (fun q => ?_)
    · rw [if_pos q] at h
      refine aw_fl [some (.ref 181), some (.int v1), some (.int v2), some (.int v3), some (.int v4), none] ⟨rfl, ⟨rfl, ⟨rfl, ⟨rfl, ⟨rfl, trivial⟩⟩⟩⟩⟩ ?_
      exact rmX9_cutsBuilt_b78 C Hr20 h
    · rw [if_neg q] at h
      refine aw_iload_n C dX9_cutsBuilt_48 rfl ?_
      refine aw_sipush C 700 dX9_cutsBuilt_49 ks_700 ?_
      refine aw_icmp_ge C 78 dX9_cutsBuilt_52 (by decide) (fun q => ?_) (fun q => ?_)
      · rw [if_pos q] at h
        refine aw_fl [some (.ref 181), some (.int v1), some (.int v2), some (.int v3), some (.int v4), none] ⟨rfl, ⟨rfl, ⟨rfl, ⟨rfl, ⟨rfl, trivial⟩⟩⟩⟩⟩ ?_
        exact rmX9_cutsBuilt_b78 C Hr20 h
      · rw [if_neg q] at h
        refine aw_ald_n C dX9_cutsBuilt_55 rfl ?_
        refine aw_get C (v := .ref (rAid 50)) gf_X9_123 (hm_M f r1.2) rfl dX9_cutsBuilt_56 ?_
        refine aw_iload_n C dX9_cutsBuilt_59 rfl ?_
        refine aw_ald_n C dX9_cutsBuilt_60 rfl ?_
        refine aw_iload C dX9_cutsBuilt_61 rfl ?_
        refine aw_iload C dX9_cutsBuilt_63 rfl ?_
        obtain ⟨r2, h2, h⟩ := Option.bind_eq_some_iff.mp h
        refine aw_callV C (ci := 9) (b := 181) [.int v4, .int v5] mv_X9_316 rfl rfl (hm_M f r1.2) (rmX9_nowByte h2) rfl dX9_cutsBuilt_65 (Nat.le_of_ble_eq_true rfl) (Nat.le_of_ble_eq_true rfl) rfl (Nat.le_of_ble_eq_true rfl) (Nat.le_of_ble_eq_true rfl) (Nat.le_of_ble_eq_true rfl) (fun v9 f9 n9 hh => ?_)
        obtain ⟨rfl, rfl, rfl⟩ := hh
        obtain ⟨hb3, h⟩ := ck_some h
        refine am_iast C rfl (inb_vp hb3) dX9_cutsBuilt_68 ?_
        refine aw_iinc C (v3 + (1 : Int32)) dX9_cutsBuilt_69 rfl (by rw [ki_1]) (by decide) rfl ?_
        refine aw_nl [some (.ref 181), some (.int v1), some (.int v2), some (.int (v3 + (1 : Int32))), some (.int v4), some (.int v5)] rfl ?_
        refine aw_iinc C (v5 + (1 : Int32)) dX9_cutsBuilt_72 rfl (by rw [ki_1]) (by decide) rfl ?_
        refine aw_nl [some (.ref 181), some (.int v1), some (.int v2), some (.int (v3 + (1 : Int32))), some (.int v4), some (.int (v5 + (1 : Int32)))] rfl ?_
        refine aw_goto C 37 dX9_cutsBuilt_75 (by decide) ?_
        refine aw_fl [some (.ref 181), some (.int v1), some (.int v2), some (.int (v3 + (1 : Int32))), some (.int v4), some (.int (v5 + (1 : Int32)))] ⟨rfl, ⟨rfl, ⟨rfl, ⟨rfl, ⟨rfl, ⟨rfl, trivial⟩⟩⟩⟩⟩⟩ ?_
        exact ih v1 v2 (v3 + (1 : Int32)) v4 (v5 + (1 : Int32)) (rSa r2.2 50 v3 r2.1) h
def mX9_cutsBuilt_l20 : Nat → Int32 → Int32 → Int32 → Int32 → RS9 → Option (Int32 × RS9)
  | 0, _, _, _, _, _ => none
  | d + 1, v1, v2, v3, v4, σ => (if v2 ≤ v4 then rCk (rIn v2 (rLen 51)) (mX9_cutsBuilt_l99 rFU v1 (0 : Int32) (rSf (rSa σ 51 v2 v3) 16 v1)) else rCk (rIn v4 (rLen 51)) (mX9_cutsBuilt_l37 (fun v1 v2 v3 v4 σ => mX9_cutsBuilt_l20 d v1 v2 v3 v4 σ) rFU v1 v2 v3 v4 (0 : Int32) (rSa σ 51 v4 v3)))
set_option maxHeartbeats 1000000 in
theorem rmX9_cutsBuilt_l20 {X : GX} {p : Program} {l : Launch} {e : Env} {s : State} {m : MethodId} {args : Array Value} {below : List Frame} {meth : Method} {c : Code} {f : AH} {n : Nat} {r : Int32 × RS9} (C : CC X p l (RM 10 0 0) s m args meth c RX9 cX9_cutsBuilt 6 none) : ∀ (d : Nat) (v1 : Int32) (v2 : Int32) (v3 : Int32) (v4 : Int32) (σ : RS9) (_ : mX9_cutsBuilt_l20 d v1 v2 v3 v4 σ = some r), AW X p l e (RM 10 0 0) s m args below meth c 6 (ZM X below args s 0 0 (QMv f n r)) (rHm f σ) n 0 0 20 [some (.ref 181), some (.int v1), some (.int v2), some (.int v3), some (.int v4), none] [] := by
  intro d
  induction d with
  | zero =>
    intro v1 v2 v3 v4 σ h
    exact nomatch (show (none : Option (Int32 × RS9)) = some r from h)
  | succ d ih =>
    intro v1 v2 v3 v4 σ h
    have h : (if v2 ≤ v4 then rCk (rIn v2 (rLen 51)) (mX9_cutsBuilt_l99 rFU v1 (0 : Int32) (rSf (rSa σ 51 v2 v3) 16 v1)) else rCk (rIn v4 (rLen 51)) (mX9_cutsBuilt_l37 (fun v1 v2 v3 v4 σ => mX9_cutsBuilt_l20 d v1 v2 v3 v4 σ) rFU v1 v2 v3 v4 (0 : Int32) (rSa σ 51 v4 v3))) = some r := h
    refine aw_iload C dX9_cutsBuilt_20 rfl ?_
    refine aw_iload_n C dX9_cutsBuilt_22 rfl ?_
    refine aw_icmp_ge C 84 dX9_cutsBuilt_23 (by decide) (fun q => ?_) (fun q => ?_)
    · rw [if_pos q] at h
      refine aw_ald_n C dX9_cutsBuilt_84 rfl ?_
      refine aw_get C (v := .ref (rAid 51)) gf_X9_126 (hm_M f σ) rfl dX9_cutsBuilt_85 ?_
      refine aw_iload_n C dX9_cutsBuilt_88 rfl ?_
      refine aw_iload_n C dX9_cutsBuilt_89 rfl ?_
      obtain ⟨hb1, h⟩ := ck_some h
      refine am_iast C rfl (inb_vp hb1) dX9_cutsBuilt_90 ?_
      refine aw_ald_n C dX9_cutsBuilt_91 rfl ?_
      refine aw_iload_n C dX9_cutsBuilt_92 rfl ?_
      refine am_put C gf_X9_220 nf9_16 rfl rfl dX9_cutsBuilt_93 ?_
      refine aw_iconst C 0 dX9_cutsBuilt_96 ki_0 ?_
      refine aw_istore C dX9_cutsBuilt_97 (by decide) rfl ?_
      refine aw_nl [some (.ref 181), some (.int v1), some (.int v2), some (.int v3), some (.int (0 : Int32)), none] rfl ?_
      refine aw_fl [some (.ref 181), some (.int v1), none, none, some (.int (0 : Int32)), none] ⟨rfl, ⟨rfl, ⟨rfl, trivial⟩⟩⟩ ?_
      exact rmX9_cutsBuilt_l99 C rFU v1 (0 : Int32) (rSf (rSa σ 51 v2 v3) 16 v1) h
    · rw [if_neg q] at h
      refine aw_ald_n C dX9_cutsBuilt_26 rfl ?_
      refine aw_get C (v := .ref (rAid 51)) gf_X9_126 (hm_M f σ) rfl dX9_cutsBuilt_27 ?_
      refine aw_iload C dX9_cutsBuilt_30 rfl ?_
      refine aw_iload_n C dX9_cutsBuilt_32 rfl ?_
      obtain ⟨hb2, h⟩ := ck_some h
      refine am_iast C rfl (inb_vp hb2) dX9_cutsBuilt_33 ?_
      refine aw_iconst C 0 dX9_cutsBuilt_34 ki_0 ?_
      refine aw_istore C dX9_cutsBuilt_35 (by decide) rfl ?_
      refine aw_nl [some (.ref 181), some (.int v1), some (.int v2), some (.int v3), some (.int v4), some (.int (0 : Int32))] rfl ?_
      refine aw_fl [some (.ref 181), some (.int v1), some (.int v2), some (.int v3), some (.int v4), some (.int (0 : Int32))] ⟨rfl, ⟨rfl, ⟨rfl, ⟨rfl, ⟨rfl, ⟨rfl, trivial⟩⟩⟩⟩⟩⟩ ?_
      exact rmX9_cutsBuilt_l37 C (fun v1 v2 v3 v4 σ h => ih v1 v2 v3 v4 σ h) rFU v1 v2 v3 v4 (0 : Int32) (rSa σ 51 v4 v3) h
def mX9_cutsBuilt (σ : RS9) : Option (Int32 × RS9) := ((mX9_builds σ).bind fun r1 => mX9_cutsBuilt_l20 rFU r1.1 (r1.2.1 33) (0 : Int32) (0 : Int32) (rSf r1.2 59 (r1.2.1 33)))
set_option maxHeartbeats 1000000 in
theorem rmX9_cutsBuilt {X : GX} {l : Launch} {f : AH} {n : Nat} {r : Int32 × RS9} {σ : RS9} (h : mX9_cutsBuilt σ = some r) : AM X l yX9_cutsBuilt cX9_cutsBuilt 6 none 10 0 0 [.ref 181] (rHm f σ) n (QMv f n r) := by
  have h : ((mX9_builds σ).bind fun r1 => mX9_cutsBuilt_l20 rFU r1.1 (r1.2.1 33) (0 : Int32) (0 : Int32) (rSf r1.2 59 (r1.2.1 33))) = some r := h
  refine AM.of (by decide +kernel) rfl (Nat.le_of_ble_eq_true rfl) (fun p e s m args below meth c C _ => ?_)
  refine aw_nl [some (.ref 181), none, none, none, none, none] rfl ?_
  refine aw_ald_n C dX9_cutsBuilt_0 rfl ?_
  obtain ⟨r1, h1, h⟩ := Option.bind_eq_some_iff.mp h
  refine aw_callV C (ci := 9) (b := 181) [] mv_X9_441 rfl rfl (hm_M f σ) (rmX9_builds h1) rfl dX9_cutsBuilt_1 (Nat.le_of_ble_eq_true rfl) (Nat.le_of_ble_eq_true rfl) rfl (Nat.le_of_ble_eq_true rfl) (Nat.le_of_ble_eq_true rfl) (Nat.le_of_ble_eq_true rfl) (fun v9 f9 n9 hh => ?_)
  obtain ⟨rfl, rfl, rfl⟩ := hh
  refine aw_istore_n C dX9_cutsBuilt_4 (by decide) rfl ?_
  refine aw_nl [some (.ref 181), some (.int r1.1), none, none, none, none] rfl ?_
  refine aw_ald_n C dX9_cutsBuilt_5 rfl ?_
  refine aw_get C (v := .int (r1.2.1 33)) gf_X9_204 (hm_M f r1.2) rfl dX9_cutsBuilt_6 ?_
  refine aw_istore_n C dX9_cutsBuilt_9 (by decide) rfl ?_
  refine aw_nl [some (.ref 181), some (.int r1.1), some (.int (r1.2.1 33)), none, none, none] rfl ?_
  refine aw_iconst C 0 dX9_cutsBuilt_10 ki_0 ?_
  refine aw_istore_n C dX9_cutsBuilt_11 (by decide) rfl ?_
  refine aw_nl [some (.ref 181), some (.int r1.1), some (.int (r1.2.1 33)), some (.int (0 : Int32)), none, none] rfl ?_
  refine aw_ald_n C dX9_cutsBuilt_12 rfl ?_
  refine aw_iload_n C dX9_cutsBuilt_13 rfl ?_
  refine am_put C gf_X9_459 nf9_59 rfl rfl dX9_cutsBuilt_14 ?_
  refine aw_iconst C 0 dX9_cutsBuilt_17 ki_0 ?_
  refine aw_istore C dX9_cutsBuilt_18 (by decide) rfl ?_
  refine aw_nl [some (.ref 181), some (.int r1.1), some (.int (r1.2.1 33)), some (.int (0 : Int32)), some (.int (0 : Int32)), none] rfl ?_
  refine aw_fl [some (.ref 181), some (.int r1.1), some (.int (r1.2.1 33)), some (.int (0 : Int32)), some (.int (0 : Int32)), none] ⟨rfl, ⟨rfl, ⟨rfl, ⟨rfl, ⟨rfl, trivial⟩⟩⟩⟩⟩ ?_
  exact rmX9_cutsBuilt_l20 C rFU r1.1 (r1.2.1 33) (0 : Int32) (0 : Int32) (rSf r1.2 59 (r1.2.1 33)) h
def mX9_twice_b53 (v1 : Int32) (σ : RS9) : Option (Int32 × RS9) := ((mX9_cutsFile σ).bind fun r1 => rCk (rNb v1) (some (v1, r1.2)))
set_option maxHeartbeats 1000000 in
theorem rmX9_twice_b53 {X : GX} {p : Program} {l : Launch} {e : Env} {s : State} {m : MethodId} {args : Array Value} {below : List Frame} {meth : Method} {c : Code} {f : AH} {n : Nat} {r : Int32 × RS9} {v1 : Int32} {σ : RS9} (C : CC X p l (RM 11 0 0) s m args meth c RX9 cX9_twice 3 (some .boolean)) (h : mX9_twice_b53 v1 σ = some r) : AW X p l e (RM 11 0 0) s m args below meth c 3 (ZM X below args s 0 0 (QMi f n r)) (rHm f σ) n 0 0 53 [some (.ref 181), some (.int v1), none] [] := by
  have h : ((mX9_cutsFile σ).bind fun r1 => rCk (rNb v1) (some (v1, r1.2))) = some r := h
  refine aw_ald_n C dX9_twice_53 rfl ?_
  obtain ⟨r1, h1, h⟩ := Option.bind_eq_some_iff.mp h
  refine aw_callV C (ci := 9) (b := 181) [] mv_X9_244 rfl rfl (hm_M f σ) (rmX9_cutsFile h1) rfl dX9_twice_54 (Nat.le_of_ble_eq_true rfl) (Nat.le_of_ble_eq_true rfl) rfl (Nat.le_of_ble_eq_true rfl) (Nat.le_of_ble_eq_true rfl) (Nat.le_of_ble_eq_true rfl) (fun v9 f9 n9 hh => ?_)
  obtain ⟨rfl, rfl, rfl⟩ := hh
  refine aw_iload_n C dX9_twice_57 rfl ?_
  obtain ⟨hb2, h⟩ := ck_some h
  cases h
  exact aw_iret C rfl (nb_nar hb2) dX9_twice_58 (Nat.le_refl _) (Nat.le_refl _) ⟨rfl, rfl, rfl⟩
def mX9_twice_l28 : Nat → Int32 → Int32 → RS9 → Option (Int32 × RS9)
  | 0, _, _, _ => none
  | d + 1, v1, v2, σ => (if (σ.1 59) ≤ v2 then mX9_twice_b53 v1 σ else (if v1 = (0 : Int32) then mX9_twice_b53 v1 σ else ((mX9_isNow v2 v2 σ).bind fun r1 => mX9_twice_l28 d r1.1 (v2 + (1 : Int32)) r1.2)))
set_option maxHeartbeats 1000000 in
theorem rmX9_twice_l28 {X : GX} {p : Program} {l : Launch} {e : Env} {s : State} {m : MethodId} {args : Array Value} {below : List Frame} {meth : Method} {c : Code} {f : AH} {n : Nat} {r : Int32 × RS9} (C : CC X p l (RM 11 0 0) s m args meth c RX9 cX9_twice 3 (some .boolean)) : ∀ (d : Nat) (v1 : Int32) (v2 : Int32) (σ : RS9) (_ : mX9_twice_l28 d v1 v2 σ = some r), AW X p l e (RM 11 0 0) s m args below meth c 3 (ZM X below args s 0 0 (QMi f n r)) (rHm f σ) n 0 0 28 [some (.ref 181), some (.int v1), some (.int v2)] [] := by
  intro d
  induction d with
  | zero =>
    intro v1 v2 σ h
    exact nomatch (show (none : Option (Int32 × RS9)) = some r from h)
  | succ d ih =>
    intro v1 v2 σ h
    have h : (if (σ.1 59) ≤ v2 then mX9_twice_b53 v1 σ else (if v1 = (0 : Int32) then mX9_twice_b53 v1 σ else ((mX9_isNow v2 v2 σ).bind fun r1 => mX9_twice_l28 d r1.1 (v2 + (1 : Int32)) r1.2))) = some r := h
    refine aw_iload_n C dX9_twice_28 rfl ?_
    refine aw_ald_n C dX9_twice_29 rfl ?_
    refine aw_get C (v := .int (σ.1 59)) gf_X9_459 (hm_M f σ) rfl dX9_twice_30 ?_
    refine aw_icmp_ge C 53 dX9_twice_33 (by decide) (fun q => ?_) (fun q => ?_)
    · rw [if_pos q] at h
      refine aw_fl [some (.ref 181), some (.int v1), none] ⟨rfl, ⟨rfl, trivial⟩⟩ ?_
      exact rmX9_twice_b53 C h
    · rw [if_neg q] at h
      refine aw_iload_n C dX9_twice_36 rfl ?_
      refine aw_if_eq C 53 dX9_twice_37 (by decide) (fun q => ?_) (fun q => ?_)
      · rw [if_pos q] at h
        refine aw_fl [some (.ref 181), some (.int v1), none] ⟨rfl, ⟨rfl, trivial⟩⟩ ?_
        exact rmX9_twice_b53 C h
      · rw [if_neg q] at h
        refine aw_ald_n C dX9_twice_40 rfl ?_
        refine aw_iload_n C dX9_twice_41 rfl ?_
        refine aw_iload_n C dX9_twice_42 rfl ?_
        obtain ⟨r1, h1, h⟩ := Option.bind_eq_some_iff.mp h
        refine aw_callV C (ci := 9) (b := 181) [.int v2, .int v2] mv_X9_465 rfl rfl (hm_M f σ) (rmX9_isNow h1) rfl dX9_twice_43 (Nat.le_of_ble_eq_true rfl) (Nat.le_of_ble_eq_true rfl) rfl (Nat.le_of_ble_eq_true rfl) (Nat.le_of_ble_eq_true rfl) (Nat.le_of_ble_eq_true rfl) (fun v9 f9 n9 hh => ?_)
        obtain ⟨rfl, rfl, rfl⟩ := hh
        refine aw_istore_n C dX9_twice_46 (by decide) rfl ?_
        refine aw_nl [some (.ref 181), some (.int r1.1), some (.int v2)] rfl ?_
        refine aw_iinc C (v2 + (1 : Int32)) dX9_twice_47 rfl (by rw [ki_1]) (by decide) rfl ?_
        refine aw_nl [some (.ref 181), some (.int r1.1), some (.int (v2 + (1 : Int32)))] rfl ?_
        refine aw_goto C 28 dX9_twice_50 (by decide) ?_
        refine aw_fl [some (.ref 181), some (.int r1.1), some (.int (v2 + (1 : Int32)))] ⟨rfl, ⟨rfl, ⟨rfl, trivial⟩⟩⟩ ?_
        exact ih r1.1 (v2 + (1 : Int32)) r1.2 h
def mX9_twice_b25 (s0 : Int32) (σ : RS9) : Option (Int32 × RS9) := mX9_twice_l28 rFU s0 (0 : Int32) σ
set_option maxHeartbeats 1000000 in
theorem rmX9_twice_b25 {X : GX} {p : Program} {l : Launch} {e : Env} {s : State} {m : MethodId} {args : Array Value} {below : List Frame} {meth : Method} {c : Code} {f : AH} {n : Nat} {r : Int32 × RS9} {s0 : Int32} {σ : RS9} (C : CC X p l (RM 11 0 0) s m args meth c RX9 cX9_twice 3 (some .boolean)) (h : mX9_twice_b25 s0 σ = some r) : AW X p l e (RM 11 0 0) s m args below meth c 3 (ZM X below args s 0 0 (QMi f n r)) (rHm f σ) n 0 0 25 [some (.ref 181), none, none] [.int s0] := by
  have h : mX9_twice_l28 rFU s0 (0 : Int32) σ = some r := h
  refine aw_istore_n C dX9_twice_25 (by decide) rfl ?_
  refine aw_nl [some (.ref 181), some (.int s0), none] rfl ?_
  refine aw_iconst C 0 dX9_twice_26 ki_0 ?_
  refine aw_istore_n C dX9_twice_27 (by decide) rfl ?_
  refine aw_nl [some (.ref 181), some (.int s0), some (.int (0 : Int32))] rfl ?_
  refine aw_fl [some (.ref 181), some (.int s0), some (.int (0 : Int32))] ⟨rfl, ⟨rfl, ⟨rfl, trivial⟩⟩⟩ ?_
  exact rmX9_twice_l28 C rFU s0 (0 : Int32) σ h
def mX9_twice (σ : RS9) : Option (Int32 × RS9) := ((mX9_cutsBuilt (rSf σ 0 (0 : Int32))).bind fun r1 => (if (r1.2.1 33) = (r1.2.1 59) then mX9_twice_b25 (1 : Int32) r1.2 else mX9_twice_b25 (0 : Int32) r1.2))
set_option maxHeartbeats 1000000 in
theorem rmX9_twice {X : GX} {l : Launch} {f : AH} {n : Nat} {r : Int32 × RS9} {σ : RS9} (h : mX9_twice σ = some r) : AM X l yX9_twice cX9_twice 3 (some .boolean) 11 0 0 [.ref 181] (rHm f σ) n (QMi f n r) := by
  have h : ((mX9_cutsBuilt (rSf σ 0 (0 : Int32))).bind fun r1 => (if (r1.2.1 33) = (r1.2.1 59) then mX9_twice_b25 (1 : Int32) r1.2 else mX9_twice_b25 (0 : Int32) r1.2)) = some r := h
  refine AM.of (by decide +kernel) rfl (Nat.le_of_ble_eq_true rfl) (fun p e s m args below meth c C _ => ?_)
  refine aw_nl [some (.ref 181), none, none] rfl ?_
  refine aw_ald_n C dX9_twice_0 rfl ?_
  refine aw_iconst C 0 dX9_twice_1 ki_0 ?_
  refine am_put C gf_X9_138 nf9_0 rfl rfl dX9_twice_2 ?_
  refine aw_ald_n C dX9_twice_5 rfl ?_
  obtain ⟨r1, h1, h⟩ := Option.bind_eq_some_iff.mp h
  refine aw_callV C (ci := 9) (b := 181) [] mv_X9_462 rfl rfl (hm_M f (rSf σ 0 (0 : Int32))) (rmX9_cutsBuilt h1) rfl dX9_twice_6 (Nat.le_of_ble_eq_true rfl) (Nat.le_of_ble_eq_true rfl) rfl (Nat.le_of_ble_eq_true rfl) (Nat.le_of_ble_eq_true rfl) (Nat.le_of_ble_eq_true rfl) (fun v9 f9 n9 hh => ?_)
  obtain ⟨rfl, rfl, rfl⟩ := hh
  refine aw_ald_n C dX9_twice_9 rfl ?_
  refine aw_get C (v := .int (r1.2.1 33)) gf_X9_204 (hm_M f r1.2) rfl dX9_twice_10 ?_
  refine aw_ald_n C dX9_twice_13 rfl ?_
  refine aw_get C (v := .int (r1.2.1 59)) gf_X9_459 (hm_M f r1.2) rfl dX9_twice_14 ?_
  refine aw_icmp_ne C 24 dX9_twice_17 (by decide) (fun q => ?_) (fun q => ?_)
  · rw [if_neg q] at h
    refine aw_iconst C 0 dX9_twice_24 ki_0 ?_
    refine aw_fl [some (.ref 181), none, none] ⟨rfl, trivial⟩ ?_
    exact rmX9_twice_b25 C h
  · rw [if_pos q] at h
    refine aw_iconst C 1 dX9_twice_20 ki_1 ?_
    refine aw_goto C 25 dX9_twice_21 (by decide) ?_
    refine aw_fl [some (.ref 181), none, none] ⟨rfl, trivial⟩ ?_
    exact rmX9_twice_b25 C h
def mX9_kept_b132 (rec66 : Int32 → Int32 → Int32 → Int32 → RS9 → Option (Int32 × RS9)) (v1 : Int32) (v2 : Int32) (v4 : Int32) (s0 : Int32) (σ : RS9) : Option (Int32 × RS9) := rec66 v1 v2 s0 (v4 + (1 : Int32)) σ
set_option maxHeartbeats 1000000 in
theorem rmX9_kept_b132 {X : GX} {p : Program} {l : Launch} {e : Env} {s : State} {m : MethodId} {args : Array Value} {below : List Frame} {meth : Method} {c : Code} {f : AH} {n : Nat} {r : Int32 × RS9} {rec66 : Int32 → Int32 → Int32 → Int32 → RS9 → Option (Int32 × RS9)} {v1 : Int32} {v2 : Int32} {v4 : Int32} {s0 : Int32} {σ : RS9} (C : CC X p l (RM 11 0 0) s m args meth c RX9 cX9_kept 5 (some .boolean)) (Hr66 : ∀ (v1 : Int32) (v2 : Int32) (v3 : Int32) (v4 : Int32) (σ : RS9), rec66 v1 v2 v3 v4 σ = some r → AW X p l e (RM 11 0 0) s m args below meth c 5 (ZM X below args s 0 0 (QMi f n r)) (rHm f σ) n 0 0 66 [some (.ref 181), some (.int v1), some (.int v2), some (.int v3), some (.int v4)] []) (h : mX9_kept_b132 rec66 v1 v2 v4 s0 σ = some r) : AW X p l e (RM 11 0 0) s m args below meth c 5 (ZM X below args s 0 0 (QMi f n r)) (rHm f σ) n 0 0 132 [some (.ref 181), some (.int v1), some (.int v2), none, some (.int v4)] [.int s0] := by
  have h : rec66 v1 v2 s0 (v4 + (1 : Int32)) σ = some r := h
  refine aw_istore_n C dX9_kept_132 (by decide) rfl ?_
  refine aw_nl [some (.ref 181), some (.int v1), some (.int v2), some (.int s0), some (.int v4)] rfl ?_
  refine aw_iinc C (v4 + (1 : Int32)) dX9_kept_133 rfl (by rw [ki_1]) (by decide) rfl ?_
  refine aw_nl [some (.ref 181), some (.int v1), some (.int v2), some (.int s0), some (.int (v4 + (1 : Int32)))] rfl ?_
  refine aw_goto C 66 dX9_kept_136 (by decide) ?_
  refine aw_fl [some (.ref 181), some (.int v1), some (.int v2), some (.int s0), some (.int (v4 + (1 : Int32)))] ⟨rfl, ⟨rfl, ⟨rfl, ⟨rfl, ⟨rfl, trivial⟩⟩⟩⟩⟩ ?_
  exact Hr66 v1 v2 s0 (v4 + (1 : Int32)) σ h
def mX9_kept_b131 (rec66 : Int32 → Int32 → Int32 → Int32 → RS9 → Option (Int32 × RS9)) (v1 : Int32) (v2 : Int32) (v4 : Int32) (σ : RS9) : Option (Int32 × RS9) := mX9_kept_b132 rec66 v1 v2 v4 (0 : Int32) σ
set_option maxHeartbeats 1000000 in
theorem rmX9_kept_b131 {X : GX} {p : Program} {l : Launch} {e : Env} {s : State} {m : MethodId} {args : Array Value} {below : List Frame} {meth : Method} {c : Code} {f : AH} {n : Nat} {r : Int32 × RS9} {rec66 : Int32 → Int32 → Int32 → Int32 → RS9 → Option (Int32 × RS9)} {v1 : Int32} {v2 : Int32} {v4 : Int32} {σ : RS9} (C : CC X p l (RM 11 0 0) s m args meth c RX9 cX9_kept 5 (some .boolean)) (Hr66 : ∀ (v1 : Int32) (v2 : Int32) (v3 : Int32) (v4 : Int32) (σ : RS9), rec66 v1 v2 v3 v4 σ = some r → AW X p l e (RM 11 0 0) s m args below meth c 5 (ZM X below args s 0 0 (QMi f n r)) (rHm f σ) n 0 0 66 [some (.ref 181), some (.int v1), some (.int v2), some (.int v3), some (.int v4)] []) (h : mX9_kept_b131 rec66 v1 v2 v4 σ = some r) : AW X p l e (RM 11 0 0) s m args below meth c 5 (ZM X below args s 0 0 (QMi f n r)) (rHm f σ) n 0 0 131 [some (.ref 181), some (.int v1), some (.int v2), none, some (.int v4)] [] := by
  have h : mX9_kept_b132 rec66 v1 v2 v4 (0 : Int32) σ = some r := h
  refine aw_iconst C 0 dX9_kept_131 ki_0 ?_
  refine aw_fl [some (.ref 181), some (.int v1), some (.int v2), none, some (.int v4)] ⟨rfl, ⟨rfl, ⟨rfl, ⟨rfl, trivial⟩⟩⟩⟩ ?_
  exact rmX9_kept_b132 C Hr66 h
def mX9_kept_b127 (rec66 : Int32 → Int32 → Int32 → Int32 → RS9 → Option (Int32 × RS9)) (v1 : Int32) (v2 : Int32) (v4 : Int32) (σ : RS9) : Option (Int32 × RS9) := mX9_kept_b132 rec66 v1 v2 v4 (1 : Int32) σ
set_option maxHeartbeats 1000000 in
theorem rmX9_kept_b127 {X : GX} {p : Program} {l : Launch} {e : Env} {s : State} {m : MethodId} {args : Array Value} {below : List Frame} {meth : Method} {c : Code} {f : AH} {n : Nat} {r : Int32 × RS9} {rec66 : Int32 → Int32 → Int32 → Int32 → RS9 → Option (Int32 × RS9)} {v1 : Int32} {v2 : Int32} {v4 : Int32} {σ : RS9} (C : CC X p l (RM 11 0 0) s m args meth c RX9 cX9_kept 5 (some .boolean)) (Hr66 : ∀ (v1 : Int32) (v2 : Int32) (v3 : Int32) (v4 : Int32) (σ : RS9), rec66 v1 v2 v3 v4 σ = some r → AW X p l e (RM 11 0 0) s m args below meth c 5 (ZM X below args s 0 0 (QMi f n r)) (rHm f σ) n 0 0 66 [some (.ref 181), some (.int v1), some (.int v2), some (.int v3), some (.int v4)] []) (h : mX9_kept_b127 rec66 v1 v2 v4 σ = some r) : AW X p l e (RM 11 0 0) s m args below meth c 5 (ZM X below args s 0 0 (QMi f n r)) (rHm f σ) n 0 0 127 [some (.ref 181), some (.int v1), some (.int v2), none, some (.int v4)] [] := by
  have h : mX9_kept_b132 rec66 v1 v2 v4 (1 : Int32) σ = some r := h
  refine aw_iconst C 1 dX9_kept_127 ki_1 ?_
  refine aw_goto C 132 dX9_kept_128 (by decide) ?_
  refine aw_fl [some (.ref 181), some (.int v1), some (.int v2), none, some (.int v4)] ⟨rfl, ⟨rfl, ⟨rfl, ⟨rfl, trivial⟩⟩⟩⟩ ?_
  exact rmX9_kept_b132 C Hr66 h
def mX9_kept_b117 (rec66 : Int32 → Int32 → Int32 → Int32 → RS9 → Option (Int32 × RS9)) (v1 : Int32) (v2 : Int32) (v4 : Int32) (σ : RS9) : Option (Int32 × RS9) := ((mX9_isNow v4 v1 σ).bind fun r1 => (if r1.1 = (0 : Int32) then mX9_kept_b131 rec66 v1 v2 v4 r1.2 else mX9_kept_b127 rec66 v1 v2 v4 r1.2))
set_option maxHeartbeats 1000000 in
theorem rmX9_kept_b117 {X : GX} {p : Program} {l : Launch} {e : Env} {s : State} {m : MethodId} {args : Array Value} {below : List Frame} {meth : Method} {c : Code} {f : AH} {n : Nat} {r : Int32 × RS9} {rec66 : Int32 → Int32 → Int32 → Int32 → RS9 → Option (Int32 × RS9)} {v1 : Int32} {v2 : Int32} {v4 : Int32} {σ : RS9} (C : CC X p l (RM 11 0 0) s m args meth c RX9 cX9_kept 5 (some .boolean)) (Hr66 : ∀ (v1 : Int32) (v2 : Int32) (v3 : Int32) (v4 : Int32) (σ : RS9), rec66 v1 v2 v3 v4 σ = some r → AW X p l e (RM 11 0 0) s m args below meth c 5 (ZM X below args s 0 0 (QMi f n r)) (rHm f σ) n 0 0 66 [some (.ref 181), some (.int v1), some (.int v2), some (.int v3), some (.int v4)] []) (h : mX9_kept_b117 rec66 v1 v2 v4 σ = some r) : AW X p l e (RM 11 0 0) s m args below meth c 5 (ZM X below args s 0 0 (QMi f n r)) (rHm f σ) n 0 0 117 [some (.ref 181), some (.int v1), some (.int v2), none, some (.int v4)] [] := by
  have h : ((mX9_isNow v4 v1 σ).bind fun r1 => (if r1.1 = (0 : Int32) then mX9_kept_b131 rec66 v1 v2 v4 r1.2 else mX9_kept_b127 rec66 v1 v2 v4 r1.2)) = some r := h
  refine aw_ald_n C dX9_kept_117 rfl ?_
  refine aw_iload C dX9_kept_118 rfl ?_
  refine aw_iload_n C dX9_kept_120 rfl ?_
  obtain ⟨r1, h1, h⟩ := Option.bind_eq_some_iff.mp h
  refine aw_callV C (ci := 9) (b := 181) [.int v4, .int v1] mv_X9_465 rfl rfl (hm_M f σ) (rmX9_isNow h1) rfl dX9_kept_121 (Nat.le_of_ble_eq_true rfl) (Nat.le_of_ble_eq_true rfl) rfl (Nat.le_of_ble_eq_true rfl) (Nat.le_of_ble_eq_true rfl) (Nat.le_of_ble_eq_true rfl) (fun v9 f9 n9 hh => ?_)
  obtain ⟨rfl, rfl, rfl⟩ := hh
  refine aw_if_eq C 131 dX9_kept_124 (by decide) (fun q => ?_) (fun q => ?_)
  · rw [if_pos q] at h
    refine aw_fl [some (.ref 181), some (.int v1), some (.int v2), none, some (.int v4)] ⟨rfl, ⟨rfl, ⟨rfl, ⟨rfl, trivial⟩⟩⟩⟩ ?_
    exact rmX9_kept_b131 C Hr66 h
  · rw [if_neg q] at h
    refine aw_fl [some (.ref 181), some (.int v1), some (.int v2), none, some (.int v4)] ⟨rfl, ⟨rfl, ⟨rfl, ⟨rfl, trivial⟩⟩⟩⟩ ?_
    exact rmX9_kept_b127 C Hr66 h
def mX9_kept_l66 : Nat → Int32 → Int32 → Int32 → Int32 → RS9 → Option (Int32 × RS9)
  | 0, _, _, _, _, _ => none
  | d + 1, v1, v2, v3, v4, σ => (if (σ.1 33) ≤ v4 then ((mX9_cutsFile σ).bind fun r1 => rCk (rNb v3) (some (v3, r1.2))) else (if v3 = (0 : Int32) then rCk (rIn v4 (rLen 34)) (rCk (rIn v1 (rLen 52)) ((if (rGa σ 34 v4) = (rGa σ 52 v1) then mX9_kept_b117 (fun v1 v2 v3 v4 σ => mX9_kept_l66 d v1 v2 v3 v4 σ) v1 v2 v4 σ else (if v2 = (0 : Int32) then mX9_kept_b131 (fun v1 v2 v3 v4 σ => mX9_kept_l66 d v1 v2 v3 v4 σ) v1 v2 v4 σ else rCk (rIn v4 (rLen 34)) (rCk (rIn v1 (rLen 52)) ((if (rGa σ 34 v4) = ((rGa σ 52 v1) + (1 : Int32)) then mX9_kept_b117 (fun v1 v2 v3 v4 σ => mX9_kept_l66 d v1 v2 v3 v4 σ) v1 v2 v4 σ else mX9_kept_b131 (fun v1 v2 v3 v4 σ => mX9_kept_l66 d v1 v2 v3 v4 σ) v1 v2 v4 σ))))))) else mX9_kept_b127 (fun v1 v2 v3 v4 σ => mX9_kept_l66 d v1 v2 v3 v4 σ) v1 v2 v4 σ))
set_option maxHeartbeats 1000000 in
theorem rmX9_kept_l66 {X : GX} {p : Program} {l : Launch} {e : Env} {s : State} {m : MethodId} {args : Array Value} {below : List Frame} {meth : Method} {c : Code} {f : AH} {n : Nat} {r : Int32 × RS9} (C : CC X p l (RM 11 0 0) s m args meth c RX9 cX9_kept 5 (some .boolean)) : ∀ (d : Nat) (v1 : Int32) (v2 : Int32) (v3 : Int32) (v4 : Int32) (σ : RS9) (_ : mX9_kept_l66 d v1 v2 v3 v4 σ = some r), AW X p l e (RM 11 0 0) s m args below meth c 5 (ZM X below args s 0 0 (QMi f n r)) (rHm f σ) n 0 0 66 [some (.ref 181), some (.int v1), some (.int v2), some (.int v3), some (.int v4)] [] := by
  intro d
  induction d with
  | zero =>
    intro v1 v2 v3 v4 σ h
    exact nomatch (show (none : Option (Int32 × RS9)) = some r from h)
  | succ d ih =>
    intro v1 v2 v3 v4 σ h
    have h : (if (σ.1 33) ≤ v4 then ((mX9_cutsFile σ).bind fun r1 => rCk (rNb v3) (some (v3, r1.2))) else (if v3 = (0 : Int32) then rCk (rIn v4 (rLen 34)) (rCk (rIn v1 (rLen 52)) ((if (rGa σ 34 v4) = (rGa σ 52 v1) then mX9_kept_b117 (fun v1 v2 v3 v4 σ => mX9_kept_l66 d v1 v2 v3 v4 σ) v1 v2 v4 σ else (if v2 = (0 : Int32) then mX9_kept_b131 (fun v1 v2 v3 v4 σ => mX9_kept_l66 d v1 v2 v3 v4 σ) v1 v2 v4 σ else rCk (rIn v4 (rLen 34)) (rCk (rIn v1 (rLen 52)) ((if (rGa σ 34 v4) = ((rGa σ 52 v1) + (1 : Int32)) then mX9_kept_b117 (fun v1 v2 v3 v4 σ => mX9_kept_l66 d v1 v2 v3 v4 σ) v1 v2 v4 σ else mX9_kept_b131 (fun v1 v2 v3 v4 σ => mX9_kept_l66 d v1 v2 v3 v4 σ) v1 v2 v4 σ))))))) else mX9_kept_b127 (fun v1 v2 v3 v4 σ => mX9_kept_l66 d v1 v2 v3 v4 σ) v1 v2 v4 σ)) = some r := h
    refine aw_iload C dX9_kept_66 rfl ?_
    refine aw_ald_n C dX9_kept_68 rfl ?_
    refine aw_get C (v := .int (σ.1 33)) gf_X9_204 (hm_M f σ) rfl dX9_kept_69 ?_
    refine aw_icmp_ge C 139 dX9_kept_72 (by decide) (fun q => ?_) (fun q => ?_)
    · rw [if_pos q] at h
      refine aw_ald_n C dX9_kept_139 rfl ?_
      obtain ⟨r1, h1, h⟩ := Option.bind_eq_some_iff.mp h
      refine aw_callV C (ci := 9) (b := 181) [] mv_X9_244 rfl rfl (hm_M f σ) (rmX9_cutsFile h1) rfl dX9_kept_140 (Nat.le_of_ble_eq_true rfl) (Nat.le_of_ble_eq_true rfl) rfl (Nat.le_of_ble_eq_true rfl) (Nat.le_of_ble_eq_true rfl) (Nat.le_of_ble_eq_true rfl) (fun v9 f9 n9 hh => ?_)
      obtain ⟨rfl, rfl, rfl⟩ := hh
      refine aw_iload_n C dX9_kept_143 rfl ?_
      obtain ⟨hb2, h⟩ := ck_some h
      cases h
      exact aw_iret C rfl (nb_nar hb2) dX9_kept_144 (Nat.le_refl _) (Nat.le_refl _) ⟨rfl, rfl, rfl⟩
    · rw [if_neg q] at h
      refine aw_iload_n C dX9_kept_75 rfl ?_
      refine aw_if_ne C 127 dX9_kept_76 (by decide) (fun q => ?_) (fun q => ?_)
      · rw [if_neg q] at h
        refine aw_fl [some (.ref 181), some (.int v1), some (.int v2), none, some (.int v4)] ⟨rfl, ⟨rfl, ⟨rfl, ⟨rfl, trivial⟩⟩⟩⟩ ?_
        exact rmX9_kept_b127 C (fun v1 v2 v3 v4 σ h => ih v1 v2 v3 v4 σ h) h
      · rw [if_pos q] at h
        refine aw_ald_n C dX9_kept_79 rfl ?_
        refine aw_get C (v := .ref (rAid 34)) gf_X9_81 (hm_M f σ) rfl dX9_kept_80 ?_
        refine aw_iload C dX9_kept_83 rfl ?_
        obtain ⟨hb3, h⟩ := ck_some h
        refine am_iald C (rGa σ 34 v4) rfl (inb_vp hb3) rfl dX9_kept_85 ?_
        refine aw_ald_n C dX9_kept_86 rfl ?_
        refine aw_get C (v := .ref (rAid 52)) gf_X9_129 (hm_M f σ) rfl dX9_kept_87 ?_
        refine aw_iload_n C dX9_kept_90 rfl ?_
        obtain ⟨hb4, h⟩ := ck_some h
        refine am_iald C (rGa σ 52 v1) rfl (inb_vp hb4) rfl dX9_kept_91 ?_
        refine aw_icmp_eq C 117 dX9_kept_92 (by decide) (fun q => ?_) (fun q => ?_)
        · rw [if_pos q] at h
          refine aw_fl [some (.ref 181), some (.int v1), some (.int v2), none, some (.int v4)] ⟨rfl, ⟨rfl, ⟨rfl, ⟨rfl, trivial⟩⟩⟩⟩ ?_
          exact rmX9_kept_b117 C (fun v1 v2 v3 v4 σ h => ih v1 v2 v3 v4 σ h) h
        · rw [if_neg q] at h
          refine aw_iload_n C dX9_kept_95 rfl ?_
          refine aw_if_eq C 131 dX9_kept_96 (by decide) (fun q => ?_) (fun q => ?_)
          · rw [if_pos q] at h
            refine aw_fl [some (.ref 181), some (.int v1), some (.int v2), none, some (.int v4)] ⟨rfl, ⟨rfl, ⟨rfl, ⟨rfl, trivial⟩⟩⟩⟩ ?_
            exact rmX9_kept_b131 C (fun v1 v2 v3 v4 σ h => ih v1 v2 v3 v4 σ h) h
          · rw [if_neg q] at h
            refine aw_ald_n C dX9_kept_99 rfl ?_
            refine aw_get C (v := .ref (rAid 34)) gf_X9_81 (hm_M f σ) rfl dX9_kept_100 ?_
            refine aw_iload C dX9_kept_103 rfl ?_
            obtain ⟨hb5, h⟩ := ck_some h
            refine am_iald C (rGa σ 34 v4) rfl (inb_vp hb5) rfl dX9_kept_105 ?_
            refine aw_ald_n C dX9_kept_106 rfl ?_
            refine aw_get C (v := .ref (rAid 52)) gf_X9_129 (hm_M f σ) rfl dX9_kept_107 ?_
            refine aw_iload_n C dX9_kept_110 rfl ?_
            obtain ⟨hb6, h⟩ := ck_some h
            refine am_iald C (rGa σ 52 v1) rfl (inb_vp hb6) rfl dX9_kept_111 ?_
            refine aw_iconst C 1 dX9_kept_112 ki_1 ?_
            refine aw_iadd C dX9_kept_113 ?_
            refine aw_icmp_ne C 131 dX9_kept_114 (by decide) (fun q => ?_) (fun q => ?_)
            · rw [if_neg q] at h
              refine aw_fl [some (.ref 181), some (.int v1), some (.int v2), none, some (.int v4)] ⟨rfl, ⟨rfl, ⟨rfl, ⟨rfl, trivial⟩⟩⟩⟩ ?_
              exact rmX9_kept_b131 C (fun v1 v2 v3 v4 σ h => ih v1 v2 v3 v4 σ h) h
            · rw [if_pos q] at h
              refine aw_fl [some (.ref 181), some (.int v1), some (.int v2), none, some (.int v4)] ⟨rfl, ⟨rfl, ⟨rfl, ⟨rfl, trivial⟩⟩⟩⟩ ?_
              exact rmX9_kept_b117 C (fun v1 v2 v3 v4 σ h => ih v1 v2 v3 v4 σ h) h
def mX9_kept_b60 (v1 : Int32) (s0 : Int32) (σ : RS9) : Option (Int32 × RS9) := mX9_kept_l66 rFU v1 s0 (0 : Int32) (0 : Int32) σ
set_option maxHeartbeats 1000000 in
theorem rmX9_kept_b60 {X : GX} {p : Program} {l : Launch} {e : Env} {s : State} {m : MethodId} {args : Array Value} {below : List Frame} {meth : Method} {c : Code} {f : AH} {n : Nat} {r : Int32 × RS9} {v1 : Int32} {s0 : Int32} {σ : RS9} (C : CC X p l (RM 11 0 0) s m args meth c RX9 cX9_kept 5 (some .boolean)) (h : mX9_kept_b60 v1 s0 σ = some r) : AW X p l e (RM 11 0 0) s m args below meth c 5 (ZM X below args s 0 0 (QMi f n r)) (rHm f σ) n 0 0 60 [some (.ref 181), some (.int v1), none, none, none] [.int s0] := by
  have h : mX9_kept_l66 rFU v1 s0 (0 : Int32) (0 : Int32) σ = some r := h
  refine aw_istore_n C dX9_kept_60 (by decide) rfl ?_
  refine aw_nl [some (.ref 181), some (.int v1), some (.int s0), none, none] rfl ?_
  refine aw_iconst C 0 dX9_kept_61 ki_0 ?_
  refine aw_istore_n C dX9_kept_62 (by decide) rfl ?_
  refine aw_nl [some (.ref 181), some (.int v1), some (.int s0), some (.int (0 : Int32)), none] rfl ?_
  refine aw_iconst C 0 dX9_kept_63 ki_0 ?_
  refine aw_istore C dX9_kept_64 (by decide) rfl ?_
  refine aw_nl [some (.ref 181), some (.int v1), some (.int s0), some (.int (0 : Int32)), some (.int (0 : Int32))] rfl ?_
  refine aw_fl [some (.ref 181), some (.int v1), some (.int s0), some (.int (0 : Int32)), some (.int (0 : Int32))] ⟨rfl, ⟨rfl, ⟨rfl, ⟨rfl, ⟨rfl, trivial⟩⟩⟩⟩⟩ ?_
  exact rmX9_kept_l66 C rFU v1 s0 (0 : Int32) (0 : Int32) σ h
def mX9_kept_b59 (v1 : Int32) (σ : RS9) : Option (Int32 × RS9) := mX9_kept_b60 v1 (0 : Int32) σ
set_option maxHeartbeats 1000000 in
theorem rmX9_kept_b59 {X : GX} {p : Program} {l : Launch} {e : Env} {s : State} {m : MethodId} {args : Array Value} {below : List Frame} {meth : Method} {c : Code} {f : AH} {n : Nat} {r : Int32 × RS9} {v1 : Int32} {σ : RS9} (C : CC X p l (RM 11 0 0) s m args meth c RX9 cX9_kept 5 (some .boolean)) (h : mX9_kept_b59 v1 σ = some r) : AW X p l e (RM 11 0 0) s m args below meth c 5 (ZM X below args s 0 0 (QMi f n r)) (rHm f σ) n 0 0 59 [some (.ref 181), some (.int v1), none, none, none] [] := by
  have h : mX9_kept_b60 v1 (0 : Int32) σ = some r := h
  refine aw_iconst C 0 dX9_kept_59 ki_0 ?_
  refine aw_fl [some (.ref 181), some (.int v1), none, none, none] ⟨rfl, ⟨rfl, trivial⟩⟩ ?_
  exact rmX9_kept_b60 C h
def mX9_kept_b14 (v1 : Int32) (s1 : Int32) (σ : RS9) : Option (Int32 × RS9) := (if s1 ≤ (0 : Int32) then ((mX9_cutsBuilt (rSf σ 0 s1)).bind fun r1 => ((mX9_toldOf v1 r1.2).bind fun r2 => (if r2.1 = (-1 : Int32) then mX9_kept_b59 v1 r2.2 else rCk (rIn v1 (rLen 52)) (rCk (rIn (rGa r2.2 52 v1) (rLen 49)) ((if (rGa r2.2 49 (rGa r2.2 52 v1)) = (34 : Int32) then mX9_kept_b60 v1 (1 : Int32) r2.2 else mX9_kept_b59 v1 r2.2)))))) else rCk (rNb (0 : Int32)) (some ((0 : Int32), (rSf σ 0 s1))))
set_option maxHeartbeats 1000000 in
theorem rmX9_kept_b14 {X : GX} {p : Program} {l : Launch} {e : Env} {s : State} {m : MethodId} {args : Array Value} {below : List Frame} {meth : Method} {c : Code} {f : AH} {n : Nat} {r : Int32 × RS9} {v1 : Int32} {s1 : Int32} {σ : RS9} (C : CC X p l (RM 11 0 0) s m args meth c RX9 cX9_kept 5 (some .boolean)) (h : mX9_kept_b14 v1 s1 σ = some r) : AW X p l e (RM 11 0 0) s m args below meth c 5 (ZM X below args s 0 0 (QMi f n r)) (rHm f σ) n 0 0 14 [some (.ref 181), some (.int v1), none, none, none] [.int s1, .ref 181] := by
  have h : (if s1 ≤ (0 : Int32) then ((mX9_cutsBuilt (rSf σ 0 s1)).bind fun r1 => ((mX9_toldOf v1 r1.2).bind fun r2 => (if r2.1 = (-1 : Int32) then mX9_kept_b59 v1 r2.2 else rCk (rIn v1 (rLen 52)) (rCk (rIn (rGa r2.2 52 v1) (rLen 49)) ((if (rGa r2.2 49 (rGa r2.2 52 v1)) = (34 : Int32) then mX9_kept_b60 v1 (1 : Int32) r2.2 else mX9_kept_b59 v1 r2.2)))))) else rCk (rNb (0 : Int32)) (some ((0 : Int32), (rSf σ 0 s1)))) = some r := h
  refine am_put C gf_X9_138 nf9_0 rfl rfl dX9_kept_14 ?_
  refine aw_ald_n C dX9_kept_17 rfl ?_
  refine aw_get C (v := .int s1) gf_X9_138 (hm_M f (rSf σ 0 s1)) rfl dX9_kept_18 ?_
  refine aw_if_le C 26 dX9_kept_21 (by decide) (fun q => ?_) (fun q => ?_)
  · rw [if_pos q] at h
    refine aw_ald_n C dX9_kept_26 rfl ?_
    obtain ⟨r1, h1, h⟩ := Option.bind_eq_some_iff.mp h
    refine aw_callV C (ci := 9) (b := 181) [] mv_X9_462 rfl rfl (hm_M f (rSf σ 0 s1)) (rmX9_cutsBuilt h1) rfl dX9_kept_27 (Nat.le_of_ble_eq_true rfl) (Nat.le_of_ble_eq_true rfl) rfl (Nat.le_of_ble_eq_true rfl) (Nat.le_of_ble_eq_true rfl) (Nat.le_of_ble_eq_true rfl) (fun v9 f9 n9 hh => ?_)
    obtain ⟨rfl, rfl, rfl⟩ := hh
    refine aw_ald_n C dX9_kept_30 rfl ?_
    refine aw_iload_n C dX9_kept_31 rfl ?_
    obtain ⟨r2, h2, h⟩ := Option.bind_eq_some_iff.mp h
    refine aw_callV C (ci := 9) (b := 181) [.int v1] mv_X9_247 rfl rfl (hm_M f r1.2) (rmX9_toldOf h2) rfl dX9_kept_32 (Nat.le_of_ble_eq_true rfl) (Nat.le_of_ble_eq_true rfl) rfl (Nat.le_of_ble_eq_true rfl) (Nat.le_of_ble_eq_true rfl) (Nat.le_of_ble_eq_true rfl) (fun v9 f9 n9 hh => ?_)
    obtain ⟨rfl, rfl, rfl⟩ := hh
    refine aw_iconst C (-1) dX9_kept_35 ki_m1 ?_
    refine aw_icmp_eq C 59 dX9_kept_36 (by decide) (fun q => ?_) (fun q => ?_)
    · rw [if_pos q] at h
      refine aw_fl [some (.ref 181), some (.int v1), none, none, none] ⟨rfl, ⟨rfl, trivial⟩⟩ ?_
      exact rmX9_kept_b59 C h
    · rw [if_neg q] at h
      refine aw_ald_n C dX9_kept_39 rfl ?_
      refine aw_get C (v := .ref (rAid 49)) gf_X9_120 (hm_M f r2.2) rfl dX9_kept_40 ?_
      refine aw_ald_n C dX9_kept_43 rfl ?_
      refine aw_get C (v := .ref (rAid 52)) gf_X9_129 (hm_M f r2.2) rfl dX9_kept_44 ?_
      refine aw_iload_n C dX9_kept_47 rfl ?_
      obtain ⟨hb3, h⟩ := ck_some h
      refine am_iald C (rGa r2.2 52 v1) rfl (inb_vp hb3) rfl dX9_kept_48 ?_
      obtain ⟨hb4, h⟩ := ck_some h
      refine am_iald C (rGa r2.2 49 (rGa r2.2 52 v1)) rfl (inb_vp hb4) rfl dX9_kept_49 ?_
      refine aw_bipush C 34 dX9_kept_50 kb_34 ?_
      refine aw_icmp_ne C 59 dX9_kept_52 (by decide) (fun q => ?_) (fun q => ?_)
      · rw [if_neg q] at h
        refine aw_fl [some (.ref 181), some (.int v1), none, none, none] ⟨rfl, ⟨rfl, trivial⟩⟩ ?_
        exact rmX9_kept_b59 C h
      · rw [if_pos q] at h
        refine aw_iconst C 1 dX9_kept_55 ki_1 ?_
        refine aw_goto C 60 dX9_kept_56 (by decide) ?_
        refine aw_fl [some (.ref 181), some (.int v1), none, none, none] ⟨rfl, ⟨rfl, trivial⟩⟩ ?_
        exact rmX9_kept_b60 C h
  · rw [if_neg q] at h
    refine aw_iconst C 0 dX9_kept_24 ki_0 ?_
    obtain ⟨hb5, h⟩ := ck_some h
    cases h
    exact aw_iret C rfl (nb_nar hb5) dX9_kept_25 (Nat.le_refl _) (Nat.le_refl _) ⟨rfl, rfl, rfl⟩
def mX9_kept (v1 : Int32) (σ : RS9) : Option (Int32 × RS9) := ((mX9_isPieceThere v1 σ).bind fun r1 => (if r1.1 = (0 : Int32) then mX9_kept_b14 v1 (1 : Int32) r1.2 else mX9_kept_b14 v1 (0 : Int32) r1.2))
set_option maxHeartbeats 1000000 in
theorem rmX9_kept {X : GX} {l : Launch} {f : AH} {n : Nat} {r : Int32 × RS9} {v1 : Int32} {σ : RS9} (h : mX9_kept v1 σ = some r) : AM X l yX9_kept cX9_kept 5 (some .boolean) 11 0 0 [.ref 181, .int v1] (rHm f σ) n (QMi f n r) := by
  have h : ((mX9_isPieceThere v1 σ).bind fun r1 => (if r1.1 = (0 : Int32) then mX9_kept_b14 v1 (1 : Int32) r1.2 else mX9_kept_b14 v1 (0 : Int32) r1.2)) = some r := h
  refine AM.of (by decide +kernel) rfl (Nat.le_of_ble_eq_true rfl) (fun p e s m args below meth c C _ => ?_)
  refine aw_nl [some (.ref 181), some (.int v1), none, none, none] rfl ?_
  refine aw_ald_n C dX9_kept_0 rfl ?_
  refine aw_ald_n C dX9_kept_1 rfl ?_
  refine aw_iload_n C dX9_kept_2 rfl ?_
  obtain ⟨r1, h1, h⟩ := Option.bind_eq_some_iff.mp h
  refine aw_callV C (ci := 9) (b := 181) [.int v1] mv_X9_293 rfl rfl (hm_M f σ) (rmX9_isPieceThere h1) rfl dX9_kept_3 (Nat.le_of_ble_eq_true rfl) (Nat.le_of_ble_eq_true rfl) rfl (Nat.le_of_ble_eq_true rfl) (Nat.le_of_ble_eq_true rfl) (Nat.le_of_ble_eq_true rfl) (fun v9 f9 n9 hh => ?_)
  obtain ⟨rfl, rfl, rfl⟩ := hh
  refine aw_if_eq C 13 dX9_kept_6 (by decide) (fun q => ?_) (fun q => ?_)
  · rw [if_pos q] at h
    refine aw_iconst C 1 dX9_kept_13 ki_1 ?_
    refine aw_fl [some (.ref 181), some (.int v1), none, none, none] ⟨rfl, ⟨rfl, trivial⟩⟩ ?_
    exact rmX9_kept_b14 C h
  · rw [if_neg q] at h
    refine aw_iconst C 0 dX9_kept_9 ki_0 ?_
    refine aw_goto C 14 dX9_kept_10 (by decide) ?_
    refine aw_fl [some (.ref 181), some (.int v1), none, none, none] ⟨rfl, ⟨rfl, trivial⟩⟩ ?_
    exact rmX9_kept_b14 C h
end
