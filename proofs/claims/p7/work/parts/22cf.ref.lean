def mX9_act_b265 (v2 : Int32) (σ : RS9) : Option (Int32 × RS9) := some (v2, σ)
set_option maxHeartbeats 1000000 in
theorem rmX9_act_b265 {X : GX} {p : Program} {l : Launch} {e : Env} {s : State} {m : MethodId} {args : Array Value} {below : List Frame} {meth : Method} {c : Code} {f : AH} {n : Nat} {r : Int32 × RS9} {v2 : Int32} {σ : RS9} (C : CC X p l (RM 12 0 0) s m args meth c RX9 cX9_act 3 (some .int)) (h : mX9_act_b265 v2 σ = some r) : AW X p l e (RM 12 0 0) s m args below meth c 3 (ZM X below args s 0 0 (QMi f n r)) (rHm f σ) n 0 0 265 [none, none, some (.int v2)] [] := by
  have h : some (v2, σ) = some r := h
  refine aw_iload_n C dX9_act_265 rfl ?_
  cases h
  exact aw_iret C rfl rfl dX9_act_266 (Nat.le_refl _) (Nat.le_refl _) ⟨rfl, rfl, rfl⟩
def mX9_act_b246 (v1 : Int32) (v2 : Int32) (σ : RS9) : Option (Int32 × RS9) := (if (σ.1 12) = (-1 : Int32) then (if v2 ≤ (0 : Int32) then mX9_act_b265 v2 σ else ((mX9_wrong v1 σ).bind fun r1 => mX9_act_b265 v2 r1.2)) else some ((0 : Int32), σ))
set_option maxHeartbeats 1000000 in
theorem rmX9_act_b246 {X : GX} {p : Program} {l : Launch} {e : Env} {s : State} {m : MethodId} {args : Array Value} {below : List Frame} {meth : Method} {c : Code} {f : AH} {n : Nat} {r : Int32 × RS9} {v1 : Int32} {v2 : Int32} {σ : RS9} (C : CC X p l (RM 12 0 0) s m args meth c RX9 cX9_act 3 (some .int)) (h : mX9_act_b246 v1 v2 σ = some r) : AW X p l e (RM 12 0 0) s m args below meth c 3 (ZM X below args s 0 0 (QMi f n r)) (rHm f σ) n 0 0 246 [some (.ref 181), some (.int v1), some (.int v2)] [] := by
  have h : (if (σ.1 12) = (-1 : Int32) then (if v2 ≤ (0 : Int32) then mX9_act_b265 v2 σ else ((mX9_wrong v1 σ).bind fun r1 => mX9_act_b265 v2 r1.2)) else some ((0 : Int32), σ)) = some r := h
  refine aw_ald_n C dX9_act_246 rfl ?_
  refine aw_get C (v := .int (σ.1 12)) gf_X9_26 (hm_M f σ) rfl dX9_act_247 ?_
  refine aw_iconst C (-1) dX9_act_250 ki_m1 ?_
  refine aw_icmp_eq C 256 dX9_act_251 (by decide) (fun q => ?_) (fun q => ?_)
  · rw [if_pos q] at h
    refine aw_iload_n C dX9_act_256 rfl ?_
    refine aw_if_le C 265 dX9_act_257 (by decide) (fun q => ?_) (fun q => ?_)
    · rw [if_pos q] at h
      refine aw_fl [none, none, some (.int v2)] ⟨rfl, trivial⟩ ?_
      exact rmX9_act_b265 C h
    · rw [if_neg q] at h
      refine aw_ald_n C dX9_act_260 rfl ?_
      refine aw_iload_n C dX9_act_261 rfl ?_
      obtain ⟨r1, h1, h⟩ := Option.bind_eq_some_iff.mp h
      refine aw_callV C (ci := 9) (b := 181) [.int v1] mv_X9_352 rfl rfl (hm_M f σ) (rmX9_wrong h1) rfl dX9_act_262 (Nat.le_of_ble_eq_true rfl) (Nat.le_of_ble_eq_true rfl) rfl (Nat.le_of_ble_eq_true rfl) (Nat.le_of_ble_eq_true rfl) (Nat.le_of_ble_eq_true rfl) (fun v9 f9 n9 hh => ?_)
      obtain ⟨rfl, rfl, rfl⟩ := hh
      refine aw_fl [none, none, some (.int v2)] ⟨rfl, trivial⟩ ?_
      exact rmX9_act_b265 C h
  · rw [if_neg q] at h
    refine aw_iconst C 0 dX9_act_254 ki_0 ?_
    cases h
    exact aw_iret C rfl rfl dX9_act_255 (Nat.le_refl _) (Nat.le_refl _) ⟨rfl, rfl, rfl⟩
def mX9_act (σ : RS9) : Option (Int32 × RS9) := ((mX9_here σ).bind fun r1 => ((mX9_has 3 r1.2).bind fun r2 => (if r2.1 = (0 : Int32) then ((mX9_has 4 r2.2).bind fun r3 => (if r3.1 = (0 : Int32) then ((mX9_has 5 r3.2).bind fun r4 => (if r4.1 = (0 : Int32) then ((mX9_has 6 r4.2).bind fun r5 => (if r5.1 = (0 : Int32) then ((mX9_has 7 r5.2).bind fun r6 => (if r6.1 = (0 : Int32) then ((mX9_has 8 r6.2).bind fun r7 => (if r7.1 = (0 : Int32) then ((mX9_has 9 r7.2).bind fun r8 => (if r8.1 = (0 : Int32) then ((mX9_has 10 r8.2).bind fun r9 => (if r9.1 = (0 : Int32) then ((mX9_has 11 r9.2).bind fun r10 => (if r10.1 = (0 : Int32) then ((mX9_has 12 r10.2).bind fun r11 => (if r11.1 = (0 : Int32) then ((mX9_has 13 r11.2).bind fun r12 => (if r12.1 = (0 : Int32) then ((mX9_has 14 r12.2).bind fun r13 => (if r13.1 = (0 : Int32) then ((mX9_wrong r1.1 r13.2).bind fun r14 => mX9_act_b246 r1.1 (0 : Int32) r14.2) else ((mX9_wipe0 r13.2).bind fun r15 => mX9_act_b246 r1.1 r15.1 r15.2))) else ((mX9_swapText r12.2).bind fun r16 => mX9_act_b246 r1.1 r16.1 r16.2))) else ((mX9_pieceText (0 : Int32) r11.2).bind fun r17 => mX9_act_b246 r1.1 r17.1 r17.2))) else ((mX9_pieceText (1 : Int32) r10.2).bind fun r18 => mX9_act_b246 r1.1 r18.1 r18.2))) else ((mX9_unlocks r9.2).bind fun r19 => mX9_act_b246 r1.1 r19.1 r19.2))) else ((mX9_lockText r8.2).bind fun r20 => mX9_act_b246 r1.1 r20.1 r20.2))) else ((mX9_ruleText (4 : Int32) (1 : Int32) (40 : Int32) r7.2).bind fun r21 => mX9_act_b246 r1.1 r21.1 r21.2))) else ((mX9_rules (3 : Int32) (0 : Int32) r6.2).bind fun r22 => mX9_act_b246 r1.1 r22.1 r22.2))) else ((mX9_rules (3 : Int32) (1 : Int32) r5.2).bind fun r23 => mX9_act_b246 r1.1 r23.1 r23.2))) else ((mX9_rules (2 : Int32) (-1 : Int32) r4.2).bind fun r24 => mX9_act_b246 r1.1 r24.1 r24.2))) else ((mX9_ruleText (2 : Int32) (0 : Int32) (3 : Int32) r3.2).bind fun r25 => mX9_act_b246 r1.1 r25.1 r25.2))) else ((mX9_ruleText (1 : Int32) (0 : Int32) (3 : Int32) r2.2).bind fun r26 => mX9_act_b246 r1.1 r26.1 r26.2))))
set_option maxHeartbeats 1000000 in
theorem rmX9_act {X : GX} {l : Launch} {f : AH} {n : Nat} {r : Int32 × RS9} {σ : RS9} (h : mX9_act σ = some r) : AM X l yX9_act cX9_act 3 (some .int) 12 0 0 [.ref 181] (rHm f σ) n (QMi f n r) := by
  have h : ((mX9_here σ).bind fun r1 => ((mX9_has 3 r1.2).bind fun r2 => (if r2.1 = (0 : Int32) then ((mX9_has 4 r2.2).bind fun r3 => (if r3.1 = (0 : Int32) then ((mX9_has 5 r3.2).bind fun r4 => (if r4.1 = (0 : Int32) then ((mX9_has 6 r4.2).bind fun r5 => (if r5.1 = (0 : Int32) then ((mX9_has 7 r5.2).bind fun r6 => (if r6.1 = (0 : Int32) then ((mX9_has 8 r6.2).bind fun r7 => (if r7.1 = (0 : Int32) then ((mX9_has 9 r7.2).bind fun r8 => (if r8.1 = (0 : Int32) then ((mX9_has 10 r8.2).bind fun r9 => (if r9.1 = (0 : Int32) then ((mX9_has 11 r9.2).bind fun r10 => (if r10.1 = (0 : Int32) then ((mX9_has 12 r10.2).bind fun r11 => (if r11.1 = (0 : Int32) then ((mX9_has 13 r11.2).bind fun r12 => (if r12.1 = (0 : Int32) then ((mX9_has 14 r12.2).bind fun r13 => (if r13.1 = (0 : Int32) then ((mX9_wrong r1.1 r13.2).bind fun r14 => mX9_act_b246 r1.1 (0 : Int32) r14.2) else ((mX9_wipe0 r13.2).bind fun r15 => mX9_act_b246 r1.1 r15.1 r15.2))) else ((mX9_swapText r12.2).bind fun r16 => mX9_act_b246 r1.1 r16.1 r16.2))) else ((mX9_pieceText (0 : Int32) r11.2).bind fun r17 => mX9_act_b246 r1.1 r17.1 r17.2))) else ((mX9_pieceText (1 : Int32) r10.2).bind fun r18 => mX9_act_b246 r1.1 r18.1 r18.2))) else ((mX9_unlocks r9.2).bind fun r19 => mX9_act_b246 r1.1 r19.1 r19.2))) else ((mX9_lockText r8.2).bind fun r20 => mX9_act_b246 r1.1 r20.1 r20.2))) else ((mX9_ruleText (4 : Int32) (1 : Int32) (40 : Int32) r7.2).bind fun r21 => mX9_act_b246 r1.1 r21.1 r21.2))) else ((mX9_rules (3 : Int32) (0 : Int32) r6.2).bind fun r22 => mX9_act_b246 r1.1 r22.1 r22.2))) else ((mX9_rules (3 : Int32) (1 : Int32) r5.2).bind fun r23 => mX9_act_b246 r1.1 r23.1 r23.2))) else ((mX9_rules (2 : Int32) (-1 : Int32) r4.2).bind fun r24 => mX9_act_b246 r1.1 r24.1 r24.2))) else ((mX9_ruleText (2 : Int32) (0 : Int32) (3 : Int32) r3.2).bind fun r25 => mX9_act_b246 r1.1 r25.1 r25.2))) else ((mX9_ruleText (1 : Int32) (0 : Int32) (3 : Int32) r2.2).bind fun r26 => mX9_act_b246 r1.1 r26.1 r26.2)))) = some r := h
  refine AM.of (by decide +kernel) rfl (Nat.le_of_ble_eq_true rfl) (fun p e s m args below meth c C _ => ?_)
  refine aw_nl [some (.ref 181), none, none] rfl ?_
  refine aw_ald_n C dX9_act_0 rfl ?_
  obtain ⟨r1, h1, h⟩ := Option.bind_eq_some_iff.mp h
  refine aw_callV C (ci := 9) (b := 181) [] mv_X9_346 rfl rfl (hm_M f σ) (rmX9_here h1) rfl dX9_act_1 (Nat.le_of_ble_eq_true rfl) (Nat.le_of_ble_eq_true rfl) rfl (Nat.le_of_ble_eq_true rfl) (Nat.le_of_ble_eq_true rfl) (Nat.le_of_ble_eq_true rfl) (fun v9 f9 n9 hh => ?_)
  obtain ⟨rfl, rfl, rfl⟩ := hh
  refine aw_istore_n C dX9_act_4 (by decide) rfl ?_
  refine aw_nl [some (.ref 181), some (.int r1.1), none] rfl ?_
  refine aw_iconst C 0 dX9_act_5 ki_0 ?_
  refine aw_istore_n C dX9_act_6 (by decide) rfl ?_
  refine aw_nl [some (.ref 181), some (.int r1.1), some (.int (0 : Int32))] rfl ?_
  refine aw_ald_n C dX9_act_7 rfl ?_
  refine aw_ldcwK C (C.2.2.2.2.2.2.1.2.2.2.2.2.2.2.2.1.2 3 (by decide)) dX9_act_8 ?_
  obtain ⟨r2, h2, h⟩ := Option.bind_eq_some_iff.mp h
  refine aw_callV C (ci := 9) (b := 181) [.retAddr (X.2.2 (1000 + 3))] mv_X9_375 rfl rfl (hm_M f r1.2) (rmX9_has (by decide) h2) rfl dX9_act_11 (Nat.le_of_ble_eq_true rfl) (Nat.le_of_ble_eq_true rfl) rfl (Nat.le_of_ble_eq_true rfl) (Nat.le_of_ble_eq_true rfl) (Nat.le_of_ble_eq_true rfl) (fun v9 f9 n9 hh => ?_)
  obtain ⟨rfl, rfl, rfl⟩ := hh
  refine aw_if_eq C 28 dX9_act_14 (by decide) (fun q => ?_) (fun q => ?_)
  · rw [if_pos q] at h
    refine aw_ald_n C dX9_act_28 rfl ?_
    refine aw_ldcwK C (C.2.2.2.2.2.2.1.2.2.2.2.2.2.2.2.1.2 4 (by decide)) dX9_act_29 ?_
    obtain ⟨r3, h3, h⟩ := Option.bind_eq_some_iff.mp h
    refine aw_callV C (ci := 9) (b := 181) [.retAddr (X.2.2 (1000 + 4))] mv_X9_375 rfl rfl (hm_M f r2.2) (rmX9_has (by decide) h3) rfl dX9_act_32 (Nat.le_of_ble_eq_true rfl) (Nat.le_of_ble_eq_true rfl) rfl (Nat.le_of_ble_eq_true rfl) (Nat.le_of_ble_eq_true rfl) (Nat.le_of_ble_eq_true rfl) (fun v9 f9 n9 hh => ?_)
    obtain ⟨rfl, rfl, rfl⟩ := hh
    refine aw_if_eq C 49 dX9_act_35 (by decide) (fun q => ?_) (fun q => ?_)
    · rw [if_pos q] at h
      refine aw_ald_n C dX9_act_49 rfl ?_
      refine aw_ldcwK C (C.2.2.2.2.2.2.1.2.2.2.2.2.2.2.2.1.2 5 (by decide)) dX9_act_50 ?_
      obtain ⟨r4, h4, h⟩ := Option.bind_eq_some_iff.mp h
      refine aw_callV C (ci := 9) (b := 181) [.retAddr (X.2.2 (1000 + 5))] mv_X9_375 rfl rfl (hm_M f r3.2) (rmX9_has (by decide) h4) rfl dX9_act_53 (Nat.le_of_ble_eq_true rfl) (Nat.le_of_ble_eq_true rfl) rfl (Nat.le_of_ble_eq_true rfl) (Nat.le_of_ble_eq_true rfl) (Nat.le_of_ble_eq_true rfl) (fun v9 f9 n9 hh => ?_)
      obtain ⟨rfl, rfl, rfl⟩ := hh
      refine aw_if_eq C 69 dX9_act_56 (by decide) (fun q => ?_) (fun q => ?_)
      · rw [if_pos q] at h
        refine aw_ald_n C dX9_act_69 rfl ?_
        refine aw_ldcwK C (C.2.2.2.2.2.2.1.2.2.2.2.2.2.2.2.1.2 6 (by decide)) dX9_act_70 ?_
        obtain ⟨r5, h5, h⟩ := Option.bind_eq_some_iff.mp h
        refine aw_callV C (ci := 9) (b := 181) [.retAddr (X.2.2 (1000 + 6))] mv_X9_375 rfl rfl (hm_M f r4.2) (rmX9_has (by decide) h5) rfl dX9_act_73 (Nat.le_of_ble_eq_true rfl) (Nat.le_of_ble_eq_true rfl) rfl (Nat.le_of_ble_eq_true rfl) (Nat.le_of_ble_eq_true rfl) (Nat.le_of_ble_eq_true rfl) (fun v9 f9 n9 hh => ?_)
        obtain ⟨rfl, rfl, rfl⟩ := hh
        refine aw_if_eq C 89 dX9_act_76 (by decide) (fun q => ?_) (fun q => ?_)
        · rw [if_pos q] at h
          refine aw_ald_n C dX9_act_89 rfl ?_
          refine aw_ldcwK C (C.2.2.2.2.2.2.1.2.2.2.2.2.2.2.2.1.2 7 (by decide)) dX9_act_90 ?_
          obtain ⟨r6, h6, h⟩ := Option.bind_eq_some_iff.mp h
          refine aw_callV C (ci := 9) (b := 181) [.retAddr (X.2.2 (1000 + 7))] mv_X9_375 rfl rfl (hm_M f r5.2) (rmX9_has (by decide) h6) rfl dX9_act_93 (Nat.le_of_ble_eq_true rfl) (Nat.le_of_ble_eq_true rfl) rfl (Nat.le_of_ble_eq_true rfl) (Nat.le_of_ble_eq_true rfl) (Nat.le_of_ble_eq_true rfl) (fun v9 f9 n9 hh => ?_)
          obtain ⟨rfl, rfl, rfl⟩ := hh
          refine aw_if_eq C 109 dX9_act_96 (by decide) (fun q => ?_) (fun q => ?_)
          · rw [if_pos q] at h
            refine aw_ald_n C dX9_act_109 rfl ?_
            refine aw_ldcwK C (C.2.2.2.2.2.2.1.2.2.2.2.2.2.2.2.1.2 8 (by decide)) dX9_act_110 ?_
            obtain ⟨r7, h7, h⟩ := Option.bind_eq_some_iff.mp h
            refine aw_callV C (ci := 9) (b := 181) [.retAddr (X.2.2 (1000 + 8))] mv_X9_375 rfl rfl (hm_M f r6.2) (rmX9_has (by decide) h7) rfl dX9_act_113 (Nat.le_of_ble_eq_true rfl) (Nat.le_of_ble_eq_true rfl) rfl (Nat.le_of_ble_eq_true rfl) (Nat.le_of_ble_eq_true rfl) (Nat.le_of_ble_eq_true rfl) (fun v9 f9 n9 hh => ?_)
            obtain ⟨rfl, rfl, rfl⟩ := hh
            refine aw_if_eq C 131 dX9_act_116 (by decide) (fun q => ?_) (fun q => ?_)
            · rw [if_pos q] at h
              refine aw_ald_n C dX9_act_131 rfl ?_
              refine aw_ldcwK C (C.2.2.2.2.2.2.1.2.2.2.2.2.2.2.2.1.2 9 (by decide)) dX9_act_132 ?_
              obtain ⟨r8, h8, h⟩ := Option.bind_eq_some_iff.mp h
              refine aw_callV C (ci := 9) (b := 181) [.retAddr (X.2.2 (1000 + 9))] mv_X9_375 rfl rfl (hm_M f r7.2) (rmX9_has (by decide) h8) rfl dX9_act_135 (Nat.le_of_ble_eq_true rfl) (Nat.le_of_ble_eq_true rfl) rfl (Nat.le_of_ble_eq_true rfl) (Nat.le_of_ble_eq_true rfl) (Nat.le_of_ble_eq_true rfl) (fun v9 f9 n9 hh => ?_)
              obtain ⟨rfl, rfl, rfl⟩ := hh
              refine aw_if_eq C 149 dX9_act_138 (by decide) (fun q => ?_) (fun q => ?_)
              · rw [if_pos q] at h
                refine aw_ald_n C dX9_act_149 rfl ?_
                refine aw_ldcwK C (C.2.2.2.2.2.2.1.2.2.2.2.2.2.2.2.1.2 10 (by decide)) dX9_act_150 ?_
                obtain ⟨r9, h9, h⟩ := Option.bind_eq_some_iff.mp h
                refine aw_callV C (ci := 9) (b := 181) [.retAddr (X.2.2 (1000 + 10))] mv_X9_375 rfl rfl (hm_M f r8.2) (rmX9_has (by decide) h9) rfl dX9_act_153 (Nat.le_of_ble_eq_true rfl) (Nat.le_of_ble_eq_true rfl) rfl (Nat.le_of_ble_eq_true rfl) (Nat.le_of_ble_eq_true rfl) (Nat.le_of_ble_eq_true rfl) (fun v9 f9 n9 hh => ?_)
                obtain ⟨rfl, rfl, rfl⟩ := hh
                refine aw_if_eq C 167 dX9_act_156 (by decide) (fun q => ?_) (fun q => ?_)
                · rw [if_pos q] at h
                  refine aw_ald_n C dX9_act_167 rfl ?_
                  refine aw_ldcwK C (C.2.2.2.2.2.2.1.2.2.2.2.2.2.2.2.1.2 11 (by decide)) dX9_act_168 ?_
                  obtain ⟨r10, h10, h⟩ := Option.bind_eq_some_iff.mp h
                  refine aw_callV C (ci := 9) (b := 181) [.retAddr (X.2.2 (1000 + 11))] mv_X9_375 rfl rfl (hm_M f r9.2) (rmX9_has (by decide) h10) rfl dX9_act_171 (Nat.le_of_ble_eq_true rfl) (Nat.le_of_ble_eq_true rfl) rfl (Nat.le_of_ble_eq_true rfl) (Nat.le_of_ble_eq_true rfl) (Nat.le_of_ble_eq_true rfl) (fun v9 f9 n9 hh => ?_)
                  obtain ⟨rfl, rfl, rfl⟩ := hh
                  refine aw_if_eq C 186 dX9_act_174 (by decide) (fun q => ?_) (fun q => ?_)
                  · rw [if_pos q] at h
                    refine aw_ald_n C dX9_act_186 rfl ?_
                    refine aw_ldcwK C (C.2.2.2.2.2.2.1.2.2.2.2.2.2.2.2.1.2 12 (by decide)) dX9_act_187 ?_
                    obtain ⟨r11, h11, h⟩ := Option.bind_eq_some_iff.mp h
                    refine aw_callV C (ci := 9) (b := 181) [.retAddr (X.2.2 (1000 + 12))] mv_X9_375 rfl rfl (hm_M f r10.2) (rmX9_has (by decide) h11) rfl dX9_act_190 (Nat.le_of_ble_eq_true rfl) (Nat.le_of_ble_eq_true rfl) rfl (Nat.le_of_ble_eq_true rfl) (Nat.le_of_ble_eq_true rfl) (Nat.le_of_ble_eq_true rfl) (fun v9 f9 n9 hh => ?_)
                    obtain ⟨rfl, rfl, rfl⟩ := hh
                    refine aw_if_eq C 205 dX9_act_193 (by decide) (fun q => ?_) (fun q => ?_)
                    · rw [if_pos q] at h
                      refine aw_ald_n C dX9_act_205 rfl ?_
                      refine aw_ldcwK C (C.2.2.2.2.2.2.1.2.2.2.2.2.2.2.2.1.2 13 (by decide)) dX9_act_206 ?_
                      obtain ⟨r12, h12, h⟩ := Option.bind_eq_some_iff.mp h
                      refine aw_callV C (ci := 9) (b := 181) [.retAddr (X.2.2 (1000 + 13))] mv_X9_375 rfl rfl (hm_M f r11.2) (rmX9_has (by decide) h12) rfl dX9_act_209 (Nat.le_of_ble_eq_true rfl) (Nat.le_of_ble_eq_true rfl) rfl (Nat.le_of_ble_eq_true rfl) (Nat.le_of_ble_eq_true rfl) (Nat.le_of_ble_eq_true rfl) (fun v9 f9 n9 hh => ?_)
                      obtain ⟨rfl, rfl, rfl⟩ := hh
                      refine aw_if_eq C 223 dX9_act_212 (by decide) (fun q => ?_) (fun q => ?_)
                      · rw [if_pos q] at h
                        refine aw_ald_n C dX9_act_223 rfl ?_
                        refine aw_ldcwK C (C.2.2.2.2.2.2.1.2.2.2.2.2.2.2.2.1.2 14 (by decide)) dX9_act_224 ?_
                        obtain ⟨r13, h13, h⟩ := Option.bind_eq_some_iff.mp h
                        refine aw_callV C (ci := 9) (b := 181) [.retAddr (X.2.2 (1000 + 14))] mv_X9_375 rfl rfl (hm_M f r12.2) (rmX9_has (by decide) h13) rfl dX9_act_227 (Nat.le_of_ble_eq_true rfl) (Nat.le_of_ble_eq_true rfl) rfl (Nat.le_of_ble_eq_true rfl) (Nat.le_of_ble_eq_true rfl) (Nat.le_of_ble_eq_true rfl) (fun v9 f9 n9 hh => ?_)
                        obtain ⟨rfl, rfl, rfl⟩ := hh
                        refine aw_if_eq C 241 dX9_act_230 (by decide) (fun q => ?_) (fun q => ?_)
                        · rw [if_pos q] at h
                          refine aw_ald_n C dX9_act_241 rfl ?_
                          refine aw_iload_n C dX9_act_242 rfl ?_
                          obtain ⟨r14, h14, h⟩ := Option.bind_eq_some_iff.mp h
                          refine aw_callV C (ci := 9) (b := 181) [.int r1.1] mv_X9_352 rfl rfl (hm_M f r13.2) (rmX9_wrong h14) rfl dX9_act_243 (Nat.le_of_ble_eq_true rfl) (Nat.le_of_ble_eq_true rfl) rfl (Nat.le_of_ble_eq_true rfl) (Nat.le_of_ble_eq_true rfl) (Nat.le_of_ble_eq_true rfl) (fun v9 f9 n9 hh => ?_)
                          obtain ⟨rfl, rfl, rfl⟩ := hh
                          refine aw_fl [some (.ref 181), some (.int r1.1), some (.int (0 : Int32))] ⟨rfl, ⟨rfl, ⟨rfl, trivial⟩⟩⟩ ?_
                          exact rmX9_act_b246 C h
                        · rw [if_neg q] at h
                          refine aw_ald_n C dX9_act_233 rfl ?_
                          obtain ⟨r15, h15, h⟩ := Option.bind_eq_some_iff.mp h
                          refine aw_callV C (ci := 9) (b := 181) [] mv_X9_417 rfl rfl (hm_M f r13.2) (rmX9_wipe0 h15) rfl dX9_act_234 (Nat.le_of_ble_eq_true rfl) (Nat.le_of_ble_eq_true rfl) rfl (Nat.le_of_ble_eq_true rfl) (Nat.le_of_ble_eq_true rfl) (Nat.le_of_ble_eq_true rfl) (fun v9 f9 n9 hh => ?_)
                          obtain ⟨rfl, rfl, rfl⟩ := hh
                          refine aw_istore_n C dX9_act_237 (by decide) rfl ?_
                          refine aw_nl [some (.ref 181), some (.int r1.1), some (.int r15.1)] rfl ?_
                          refine aw_goto C 246 dX9_act_238 (by decide) ?_
                          refine aw_fl [some (.ref 181), some (.int r1.1), some (.int r15.1)] ⟨rfl, ⟨rfl, ⟨rfl, trivial⟩⟩⟩ ?_
                          exact rmX9_act_b246 C h
                      · rw [if_neg q] at h
                        refine aw_ald_n C dX9_act_215 rfl ?_
                        obtain ⟨r16, h16, h⟩ := Option.bind_eq_some_iff.mp h
                        refine aw_callV C (ci := 9) (b := 181) [] mv_X9_412 rfl rfl (hm_M f r12.2) (rmX9_swapText h16) rfl dX9_act_216 (Nat.le_of_ble_eq_true rfl) (Nat.le_of_ble_eq_true rfl) rfl (Nat.le_of_ble_eq_true rfl) (Nat.le_of_ble_eq_true rfl) (Nat.le_of_ble_eq_true rfl) (fun v9 f9 n9 hh => ?_)
                        obtain ⟨rfl, rfl, rfl⟩ := hh
                        refine aw_istore_n C dX9_act_219 (by decide) rfl ?_
                        refine aw_nl [some (.ref 181), some (.int r1.1), some (.int r16.1)] rfl ?_
                        refine aw_goto C 246 dX9_act_220 (by decide) ?_
                        refine aw_fl [some (.ref 181), some (.int r1.1), some (.int r16.1)] ⟨rfl, ⟨rfl, ⟨rfl, trivial⟩⟩⟩ ?_
                        exact rmX9_act_b246 C h
                    · rw [if_neg q] at h
                      refine aw_ald_n C dX9_act_196 rfl ?_
                      refine aw_iconst C 0 dX9_act_197 ki_0 ?_
                      obtain ⟨r17, h17, h⟩ := Option.bind_eq_some_iff.mp h
                      refine aw_callV C (ci := 9) (b := 181) [.int (0 : Int32)] mv_X9_404 rfl rfl (hm_M f r11.2) (rmX9_pieceText h17) rfl dX9_act_198 (Nat.le_of_ble_eq_true rfl) (Nat.le_of_ble_eq_true rfl) rfl (Nat.le_of_ble_eq_true rfl) (Nat.le_of_ble_eq_true rfl) (Nat.le_of_ble_eq_true rfl) (fun v9 f9 n9 hh => ?_)
                      obtain ⟨rfl, rfl, rfl⟩ := hh
                      refine aw_istore_n C dX9_act_201 (by decide) rfl ?_
                      refine aw_nl [some (.ref 181), some (.int r1.1), some (.int r17.1)] rfl ?_
                      refine aw_goto C 246 dX9_act_202 (by decide) ?_
                      refine aw_fl [some (.ref 181), some (.int r1.1), some (.int r17.1)] ⟨rfl, ⟨rfl, ⟨rfl, trivial⟩⟩⟩ ?_
                      exact rmX9_act_b246 C h
                  · rw [if_neg q] at h
                    refine aw_ald_n C dX9_act_177 rfl ?_
                    refine aw_iconst C 1 dX9_act_178 ki_1 ?_
                    obtain ⟨r18, h18, h⟩ := Option.bind_eq_some_iff.mp h
                    refine aw_callV C (ci := 9) (b := 181) [.int (1 : Int32)] mv_X9_404 rfl rfl (hm_M f r10.2) (rmX9_pieceText h18) rfl dX9_act_179 (Nat.le_of_ble_eq_true rfl) (Nat.le_of_ble_eq_true rfl) rfl (Nat.le_of_ble_eq_true rfl) (Nat.le_of_ble_eq_true rfl) (Nat.le_of_ble_eq_true rfl) (fun v9 f9 n9 hh => ?_)
                    obtain ⟨rfl, rfl, rfl⟩ := hh
                    refine aw_istore_n C dX9_act_182 (by decide) rfl ?_
                    refine aw_nl [some (.ref 181), some (.int r1.1), some (.int r18.1)] rfl ?_
                    refine aw_goto C 246 dX9_act_183 (by decide) ?_
                    refine aw_fl [some (.ref 181), some (.int r1.1), some (.int r18.1)] ⟨rfl, ⟨rfl, ⟨rfl, trivial⟩⟩⟩ ?_
                    exact rmX9_act_b246 C h
                · rw [if_neg q] at h
                  refine aw_ald_n C dX9_act_159 rfl ?_
                  obtain ⟨r19, h19, h⟩ := Option.bind_eq_some_iff.mp h
                  refine aw_callV C (ci := 9) (b := 181) [] mv_X9_399 rfl rfl (hm_M f r9.2) (rmX9_unlocks h19) rfl dX9_act_160 (Nat.le_of_ble_eq_true rfl) (Nat.le_of_ble_eq_true rfl) rfl (Nat.le_of_ble_eq_true rfl) (Nat.le_of_ble_eq_true rfl) (Nat.le_of_ble_eq_true rfl) (fun v9 f9 n9 hh => ?_)
                  obtain ⟨rfl, rfl, rfl⟩ := hh
                  refine aw_istore_n C dX9_act_163 (by decide) rfl ?_
                  refine aw_nl [some (.ref 181), some (.int r1.1), some (.int r19.1)] rfl ?_
                  refine aw_goto C 246 dX9_act_164 (by decide) ?_
                  refine aw_fl [some (.ref 181), some (.int r1.1), some (.int r19.1)] ⟨rfl, ⟨rfl, ⟨rfl, trivial⟩⟩⟩ ?_
                  exact rmX9_act_b246 C h
              · rw [if_neg q] at h
                refine aw_ald_n C dX9_act_141 rfl ?_
                obtain ⟨r20, h20, h⟩ := Option.bind_eq_some_iff.mp h
                refine aw_callV C (ci := 9) (b := 181) [] mv_X9_394 rfl rfl (hm_M f r8.2) (rmX9_lockText h20) rfl dX9_act_142 (Nat.le_of_ble_eq_true rfl) (Nat.le_of_ble_eq_true rfl) rfl (Nat.le_of_ble_eq_true rfl) (Nat.le_of_ble_eq_true rfl) (Nat.le_of_ble_eq_true rfl) (fun v9 f9 n9 hh => ?_)
                obtain ⟨rfl, rfl, rfl⟩ := hh
                refine aw_istore_n C dX9_act_145 (by decide) rfl ?_
                refine aw_nl [some (.ref 181), some (.int r1.1), some (.int r20.1)] rfl ?_
                refine aw_goto C 246 dX9_act_146 (by decide) ?_
                refine aw_fl [some (.ref 181), some (.int r1.1), some (.int r20.1)] ⟨rfl, ⟨rfl, ⟨rfl, trivial⟩⟩⟩ ?_
                exact rmX9_act_b246 C h
            · rw [if_neg q] at h
              refine aw_ald_n C dX9_act_119 rfl ?_
              refine aw_iconst C 4 dX9_act_120 ki_4 ?_
              refine aw_iconst C 1 dX9_act_121 ki_1 ?_
              refine aw_bipush C 40 dX9_act_122 kb_40 ?_
              obtain ⟨r21, h21, h⟩ := Option.bind_eq_some_iff.mp h
              refine aw_callV C (ci := 9) (b := 181) [.int (4 : Int32), .int (1 : Int32), .int (40 : Int32)] mv_X9_379 rfl rfl (hm_M f r7.2) (rmX9_ruleText h21) rfl dX9_act_124 (Nat.le_of_ble_eq_true rfl) (Nat.le_of_ble_eq_true rfl) rfl (Nat.le_of_ble_eq_true rfl) (Nat.le_of_ble_eq_true rfl) (Nat.le_of_ble_eq_true rfl) (fun v9 f9 n9 hh => ?_)
              obtain ⟨rfl, rfl, rfl⟩ := hh
              refine aw_istore_n C dX9_act_127 (by decide) rfl ?_
              refine aw_nl [some (.ref 181), some (.int r1.1), some (.int r21.1)] rfl ?_
              refine aw_goto C 246 dX9_act_128 (by decide) ?_
              refine aw_fl [some (.ref 181), some (.int r1.1), some (.int r21.1)] ⟨rfl, ⟨rfl, ⟨rfl, trivial⟩⟩⟩ ?_
              exact rmX9_act_b246 C h
          · rw [if_neg q] at h
            refine aw_ald_n C dX9_act_99 rfl ?_
            refine aw_iconst C 3 dX9_act_100 ki_3 ?_
            refine aw_iconst C 0 dX9_act_101 ki_0 ?_
            obtain ⟨r22, h22, h⟩ := Option.bind_eq_some_iff.mp h
            refine aw_callV C (ci := 9) (b := 181) [.int (3 : Int32), .int (0 : Int32)] mv_X9_361 rfl rfl (hm_M f r6.2) (rmX9_rules h22) rfl dX9_act_102 (Nat.le_of_ble_eq_true rfl) (Nat.le_of_ble_eq_true rfl) rfl (Nat.le_of_ble_eq_true rfl) (Nat.le_of_ble_eq_true rfl) (Nat.le_of_ble_eq_true rfl) (fun v9 f9 n9 hh => ?_)
            obtain ⟨rfl, rfl, rfl⟩ := hh
            refine aw_istore_n C dX9_act_105 (by decide) rfl ?_
            refine aw_nl [some (.ref 181), some (.int r1.1), some (.int r22.1)] rfl ?_
            refine aw_goto C 246 dX9_act_106 (by decide) ?_
            refine aw_fl [some (.ref 181), some (.int r1.1), some (.int r22.1)] ⟨rfl, ⟨rfl, ⟨rfl, trivial⟩⟩⟩ ?_
            exact rmX9_act_b246 C h
        · rw [if_neg q] at h
          refine aw_ald_n C dX9_act_79 rfl ?_
          refine aw_iconst C 3 dX9_act_80 ki_3 ?_
          refine aw_iconst C 1 dX9_act_81 ki_1 ?_
          obtain ⟨r23, h23, h⟩ := Option.bind_eq_some_iff.mp h
          refine aw_callV C (ci := 9) (b := 181) [.int (3 : Int32), .int (1 : Int32)] mv_X9_361 rfl rfl (hm_M f r5.2) (rmX9_rules h23) rfl dX9_act_82 (Nat.le_of_ble_eq_true rfl) (Nat.le_of_ble_eq_true rfl) rfl (Nat.le_of_ble_eq_true rfl) (Nat.le_of_ble_eq_true rfl) (Nat.le_of_ble_eq_true rfl) (fun v9 f9 n9 hh => ?_)
          obtain ⟨rfl, rfl, rfl⟩ := hh
          refine aw_istore_n C dX9_act_85 (by decide) rfl ?_
          refine aw_nl [some (.ref 181), some (.int r1.1), some (.int r23.1)] rfl ?_
          refine aw_goto C 246 dX9_act_86 (by decide) ?_
          refine aw_fl [some (.ref 181), some (.int r1.1), some (.int r23.1)] ⟨rfl, ⟨rfl, ⟨rfl, trivial⟩⟩⟩ ?_
          exact rmX9_act_b246 C h
      · rw [if_neg q] at h
        refine aw_ald_n C dX9_act_59 rfl ?_
        refine aw_iconst C 2 dX9_act_60 ki_2 ?_
        refine aw_iconst C (-1) dX9_act_61 ki_m1 ?_
        obtain ⟨r24, h24, h⟩ := Option.bind_eq_some_iff.mp h
        refine aw_callV C (ci := 9) (b := 181) [.int (2 : Int32), .int (-1 : Int32)] mv_X9_361 rfl rfl (hm_M f r4.2) (rmX9_rules h24) rfl dX9_act_62 (Nat.le_of_ble_eq_true rfl) (Nat.le_of_ble_eq_true rfl) rfl (Nat.le_of_ble_eq_true rfl) (Nat.le_of_ble_eq_true rfl) (Nat.le_of_ble_eq_true rfl) (fun v9 f9 n9 hh => ?_)
        obtain ⟨rfl, rfl, rfl⟩ := hh
        refine aw_istore_n C dX9_act_65 (by decide) rfl ?_
        refine aw_nl [some (.ref 181), some (.int r1.1), some (.int r24.1)] rfl ?_
        refine aw_goto C 246 dX9_act_66 (by decide) ?_
        refine aw_fl [some (.ref 181), some (.int r1.1), some (.int r24.1)] ⟨rfl, ⟨rfl, ⟨rfl, trivial⟩⟩⟩ ?_
        exact rmX9_act_b246 C h
    · rw [if_neg q] at h
      refine aw_ald_n C dX9_act_38 rfl ?_
      refine aw_iconst C 2 dX9_act_39 ki_2 ?_
      refine aw_iconst C 0 dX9_act_40 ki_0 ?_
      refine aw_iconst C 3 dX9_act_41 ki_3 ?_
      obtain ⟨r25, h25, h⟩ := Option.bind_eq_some_iff.mp h
      refine aw_callV C (ci := 9) (b := 181) [.int (2 : Int32), .int (0 : Int32), .int (3 : Int32)] mv_X9_379 rfl rfl (hm_M f r3.2) (rmX9_ruleText h25) rfl dX9_act_42 (Nat.le_of_ble_eq_true rfl) (Nat.le_of_ble_eq_true rfl) rfl (Nat.le_of_ble_eq_true rfl) (Nat.le_of_ble_eq_true rfl) (Nat.le_of_ble_eq_true rfl) (fun v9 f9 n9 hh => ?_)
      obtain ⟨rfl, rfl, rfl⟩ := hh
      refine aw_istore_n C dX9_act_45 (by decide) rfl ?_
      refine aw_nl [some (.ref 181), some (.int r1.1), some (.int r25.1)] rfl ?_
      refine aw_goto C 246 dX9_act_46 (by decide) ?_
      refine aw_fl [some (.ref 181), some (.int r1.1), some (.int r25.1)] ⟨rfl, ⟨rfl, ⟨rfl, trivial⟩⟩⟩ ?_
      exact rmX9_act_b246 C h
  · rw [if_neg q] at h
    refine aw_ald_n C dX9_act_17 rfl ?_
    refine aw_iconst C 1 dX9_act_18 ki_1 ?_
    refine aw_iconst C 0 dX9_act_19 ki_0 ?_
    refine aw_iconst C 3 dX9_act_20 ki_3 ?_
    obtain ⟨r26, h26, h⟩ := Option.bind_eq_some_iff.mp h
    refine aw_callV C (ci := 9) (b := 181) [.int (1 : Int32), .int (0 : Int32), .int (3 : Int32)] mv_X9_379 rfl rfl (hm_M f r2.2) (rmX9_ruleText h26) rfl dX9_act_21 (Nat.le_of_ble_eq_true rfl) (Nat.le_of_ble_eq_true rfl) rfl (Nat.le_of_ble_eq_true rfl) (Nat.le_of_ble_eq_true rfl) (Nat.le_of_ble_eq_true rfl) (fun v9 f9 n9 hh => ?_)
    obtain ⟨rfl, rfl, rfl⟩ := hh
    refine aw_istore_n C dX9_act_24 (by decide) rfl ?_
    refine aw_nl [some (.ref 181), some (.int r1.1), some (.int r26.1)] rfl ?_
    refine aw_goto C 246 dX9_act_25 (by decide) ?_
    refine aw_fl [some (.ref 181), some (.int r1.1), some (.int r26.1)] ⟨rfl, ⟨rfl, ⟨rfl, trivial⟩⟩⟩ ?_
    exact rmX9_act_b246 C h
def mX9_putsBack_l2 : Nat → Int32 → RS9 → Option (Int32 × RS9)
  | 0, _, _ => none
  | d + 1, v1, σ => (if (4347 : Int32) ≤ v1 then ((mX9_cutsFile σ).bind fun r1 => some ((0 : Int32), r1.2)) else rCk (rIn v1 (rLen 2)) (rCk (rIn v1 (rLen 1)) (mX9_putsBack_l2 d (v1 + (1 : Int32)) (rSa σ 1 v1 (rGa σ 2 v1)))))
set_option maxHeartbeats 1000000 in
theorem rmX9_putsBack_l2 {X : GX} {p : Program} {l : Launch} {e : Env} {s : State} {m : MethodId} {args : Array Value} {below : List Frame} {meth : Method} {c : Code} {f : AH} {n : Nat} {r : Int32 × RS9} (C : CC X p l (RM 9 0 0) s m args meth c RX9 cX9_putsBack 2 none) : ∀ (d : Nat) (v1 : Int32) (σ : RS9) (_ : mX9_putsBack_l2 d v1 σ = some r), AW X p l e (RM 9 0 0) s m args below meth c 2 (ZM X below args s 0 0 (QMv f n r)) (rHm f σ) n 0 0 2 [some (.ref 181), some (.int v1)] [] := by
  intro d
  induction d with
  | zero =>
    intro v1 σ h
    exact nomatch (show (none : Option (Int32 × RS9)) = some r from h)
  | succ d ih =>
    intro v1 σ h
    have h : (if (4347 : Int32) ≤ v1 then ((mX9_cutsFile σ).bind fun r1 => some ((0 : Int32), r1.2)) else rCk (rIn v1 (rLen 2)) (rCk (rIn v1 (rLen 1)) (mX9_putsBack_l2 d (v1 + (1 : Int32)) (rSa σ 1 v1 (rGa σ 2 v1))))) = some r := h
    refine aw_iload_n C dX9_putsBack_2 rfl ?_
    refine aw_sipush C 4347 dX9_putsBack_3 ks_4347 ?_
    refine aw_icmp_ge C 27 dX9_putsBack_6 (by decide) (fun q => ?_) (fun q => ?_)
    · rw [if_pos q] at h
      refine aw_ald_n C dX9_putsBack_27 rfl ?_
      obtain ⟨r1, h1, h⟩ := Option.bind_eq_some_iff.mp h
      refine aw_callV C (ci := 9) (b := 181) [] mv_X9_244 rfl rfl (hm_M f σ) (rmX9_cutsFile h1) rfl dX9_putsBack_28 (Nat.le_of_ble_eq_true rfl) (Nat.le_of_ble_eq_true rfl) rfl (Nat.le_of_ble_eq_true rfl) (Nat.le_of_ble_eq_true rfl) (Nat.le_of_ble_eq_true rfl) (fun v9 f9 n9 hh => ?_)
      obtain ⟨rfl, rfl, rfl⟩ := hh
      cases h
      exact aw_vret C rfl dX9_putsBack_31 (Nat.le_refl _) (Nat.le_refl _) ⟨rfl, rfl, rfl⟩
    · rw [if_neg q] at h
      refine aw_ald_n C dX9_putsBack_9 rfl ?_
      refine aw_get C (v := .ref (rAid 1)) gf_X9_7 (hm_M f σ) rfl dX9_putsBack_10 ?_
      refine aw_iload_n C dX9_putsBack_13 rfl ?_
      refine aw_ald_n C dX9_putsBack_14 rfl ?_
      refine aw_get C (v := .ref (rAid 2)) gf_X9_13 (hm_M f σ) rfl dX9_putsBack_15 ?_
      refine aw_iload_n C dX9_putsBack_18 rfl ?_
      obtain ⟨hb2, h⟩ := ck_some h
      refine am_iald C (rGa σ 2 v1) rfl (inb_vp hb2) rfl dX9_putsBack_19 ?_
      obtain ⟨hb3, h⟩ := ck_some h
      refine am_iast C rfl (inb_vp hb3) dX9_putsBack_20 ?_
      refine aw_iinc C (v1 + (1 : Int32)) dX9_putsBack_21 rfl (by rw [ki_1]) (by decide) rfl ?_
      refine aw_nl [some (.ref 181), some (.int (v1 + (1 : Int32)))] rfl ?_
      refine aw_goto C 2 dX9_putsBack_24 (by decide) ?_
      refine aw_fl [some (.ref 181), some (.int (v1 + (1 : Int32)))] ⟨rfl, ⟨rfl, trivial⟩⟩ ?_
      exact ih (v1 + (1 : Int32)) (rSa σ 1 v1 (rGa σ 2 v1)) h
def mX9_putsBack (σ : RS9) : Option (Int32 × RS9) := mX9_putsBack_l2 rFU (0 : Int32) σ
set_option maxHeartbeats 1000000 in
theorem rmX9_putsBack {X : GX} {l : Launch} {f : AH} {n : Nat} {r : Int32 × RS9} {σ : RS9} (h : mX9_putsBack σ = some r) : AM X l yX9_putsBack cX9_putsBack 2 none 9 0 0 [.ref 181] (rHm f σ) n (QMv f n r) := by
  have h : mX9_putsBack_l2 rFU (0 : Int32) σ = some r := h
  refine AM.of (by decide +kernel) rfl (Nat.le_of_ble_eq_true rfl) (fun p e s m args below meth c C _ => ?_)
  refine aw_nl [some (.ref 181), none] rfl ?_
  refine aw_iconst C 0 dX9_putsBack_0 ki_0 ?_
  refine aw_istore_n C dX9_putsBack_1 (by decide) rfl ?_
  refine aw_nl [some (.ref 181), some (.int (0 : Int32))] rfl ?_
  refine aw_fl [some (.ref 181), some (.int (0 : Int32))] ⟨rfl, ⟨rfl, trivial⟩⟩ ?_
  exact rmX9_putsBack_l2 C rFU (0 : Int32) σ h
def mX9_acts_b214 (s1 : Int32) (σ : RS9) : Option (Int32 × RS9) := ((mX9_putsBack (rSf σ 7 s1)).bind fun r1 => some ((0 : Int32), r1.2))
set_option maxHeartbeats 1000000 in
theorem rmX9_acts_b214 {X : GX} {p : Program} {l : Launch} {e : Env} {s : State} {m : MethodId} {args : Array Value} {below : List Frame} {meth : Method} {c : Code} {f : AH} {n : Nat} {r : Int32 × RS9} {s1 : Int32} {σ : RS9} (C : CC X p l (RM 13 0 0) s m args meth c RX9 cX9_acts 4 (some .int)) (h : mX9_acts_b214 s1 σ = some r) : AW X p l e (RM 13 0 0) s m args below meth c 4 (ZM X below args s 0 0 (QMi f n r)) (rHm f σ) n 0 0 214 [some (.ref 181), none, none, none] [.int s1, .ref 181] := by
  have h : ((mX9_putsBack (rSf σ 7 s1)).bind fun r1 => some ((0 : Int32), r1.2)) = some r := h
  refine am_put C gf_X9_328 nf9_7 rfl rfl dX9_acts_214 ?_
  refine aw_ald_n C dX9_acts_217 rfl ?_
  obtain ⟨r1, h1, h⟩ := Option.bind_eq_some_iff.mp h
  refine aw_callV C (ci := 9) (b := 181) [] mv_X9_334 rfl rfl (hm_M f (rSf σ 7 s1)) (rmX9_putsBack h1) rfl dX9_acts_218 (Nat.le_of_ble_eq_true rfl) (Nat.le_of_ble_eq_true rfl) rfl (Nat.le_of_ble_eq_true rfl) (Nat.le_of_ble_eq_true rfl) (Nat.le_of_ble_eq_true rfl) (fun v9 f9 n9 hh => ?_)
  obtain ⟨rfl, rfl, rfl⟩ := hh
  refine aw_iconst C 0 dX9_acts_221 ki_0 ?_
  cases h
  exact aw_iret C rfl rfl dX9_acts_222 (Nat.le_refl _) (Nat.le_refl _) ⟨rfl, rfl, rfl⟩
def mX9_acts_b191 (v1 : Int32) (s1 : Int32) (σ : RS9) : Option (Int32 × RS9) := some (v1, (rSf (rSf σ 7 s1) 5 (0 : Int32)))
set_option maxHeartbeats 1000000 in
theorem rmX9_acts_b191 {X : GX} {p : Program} {l : Launch} {e : Env} {s : State} {m : MethodId} {args : Array Value} {below : List Frame} {meth : Method} {c : Code} {f : AH} {n : Nat} {r : Int32 × RS9} {v1 : Int32} {s1 : Int32} {σ : RS9} (C : CC X p l (RM 13 0 0) s m args meth c RX9 cX9_acts 4 (some .int)) (h : mX9_acts_b191 v1 s1 σ = some r) : AW X p l e (RM 13 0 0) s m args below meth c 4 (ZM X below args s 0 0 (QMi f n r)) (rHm f σ) n 0 0 191 [some (.ref 181), some (.int v1), none, none] [.int s1, .ref 181] := by
  have h : some (v1, (rSf (rSf σ 7 s1) 5 (0 : Int32))) = some r := h
  refine am_put C gf_X9_328 nf9_7 rfl rfl dX9_acts_191 ?_
  refine aw_ald_n C dX9_acts_194 rfl ?_
  refine aw_iconst C 0 dX9_acts_195 ki_0 ?_
  refine am_put C gf_X9_325 nf9_5 rfl rfl dX9_acts_196 ?_
  refine aw_iload_n C dX9_acts_199 rfl ?_
  cases h
  exact aw_iret C rfl rfl dX9_acts_200 (Nat.le_refl _) (Nat.le_refl _) ⟨rfl, rfl, rfl⟩
def mX9_acts_b168 (v1 : Int32) (v2 : Int32) (s1 : Int32) (σ : RS9) : Option (Int32 × RS9) := (if s1 = (0 : Int32) then (if v1 ≤ (0 : Int32) then mX9_acts_b191 v1 (σ.1 7) (rSf σ 0 s1) else mX9_acts_b191 v1 (0 : Int32) (rSf σ 0 s1)) else (if v2 ≤ (0 : Int32) then mX9_acts_b214 (σ.1 7) (rSf σ 0 s1) else mX9_acts_b214 v2 (rSf σ 0 s1)))
set_option maxHeartbeats 1000000 in
theorem rmX9_acts_b168 {X : GX} {p : Program} {l : Launch} {e : Env} {s : State} {m : MethodId} {args : Array Value} {below : List Frame} {meth : Method} {c : Code} {f : AH} {n : Nat} {r : Int32 × RS9} {v1 : Int32} {v2 : Int32} {s1 : Int32} {σ : RS9} (C : CC X p l (RM 13 0 0) s m args meth c RX9 cX9_acts 4 (some .int)) (h : mX9_acts_b168 v1 v2 s1 σ = some r) : AW X p l e (RM 13 0 0) s m args below meth c 4 (ZM X below args s 0 0 (QMi f n r)) (rHm f σ) n 0 0 168 [some (.ref 181), some (.int v1), some (.int v2), none] [.int s1, .ref 181] := by
  have h : (if s1 = (0 : Int32) then (if v1 ≤ (0 : Int32) then mX9_acts_b191 v1 (σ.1 7) (rSf σ 0 s1) else mX9_acts_b191 v1 (0 : Int32) (rSf σ 0 s1)) else (if v2 ≤ (0 : Int32) then mX9_acts_b214 (σ.1 7) (rSf σ 0 s1) else mX9_acts_b214 v2 (rSf σ 0 s1))) = some r := h
  refine am_put C gf_X9_138 nf9_0 rfl rfl dX9_acts_168 ?_
  refine aw_ald_n C dX9_acts_171 rfl ?_
  refine aw_get C (v := .int s1) gf_X9_138 (hm_M f (rSf σ 0 s1)) rfl dX9_acts_172 ?_
  refine aw_if_ne C 201 dX9_acts_175 (by decide) (fun q => ?_) (fun q => ?_)
  · rw [if_neg q] at h
    refine aw_ald_n C dX9_acts_201 rfl ?_
    refine aw_iload_n C dX9_acts_202 rfl ?_
    refine aw_if_le C 210 dX9_acts_203 (by decide) (fun q => ?_) (fun q => ?_)
    · rw [if_pos q] at h
      refine aw_ald_n C dX9_acts_210 rfl ?_
      refine aw_get C (v := .int (σ.1 7)) gf_X9_328 (hm_M f (rSf σ 0 s1)) rfl dX9_acts_211 ?_
      refine aw_fl [some (.ref 181), none, none, none] ⟨rfl, trivial⟩ ?_
      exact rmX9_acts_b214 C h
    · rw [if_neg q] at h
      refine aw_iload_n C dX9_acts_206 rfl ?_
      refine aw_goto C 214 dX9_acts_207 (by decide) ?_
      refine aw_fl [some (.ref 181), none, none, none] ⟨rfl, trivial⟩ ?_
      exact rmX9_acts_b214 C h
  · rw [if_pos q] at h
    refine aw_ald_n C dX9_acts_178 rfl ?_
    refine aw_iload_n C dX9_acts_179 rfl ?_
    refine aw_if_le C 187 dX9_acts_180 (by decide) (fun q => ?_) (fun q => ?_)
    · rw [if_pos q] at h
      refine aw_ald_n C dX9_acts_187 rfl ?_
      refine aw_get C (v := .int (σ.1 7)) gf_X9_328 (hm_M f (rSf σ 0 s1)) rfl dX9_acts_188 ?_
      refine aw_fl [some (.ref 181), some (.int v1), none, none] ⟨rfl, ⟨rfl, trivial⟩⟩ ?_
      exact rmX9_acts_b191 C h
    · rw [if_neg q] at h
      refine aw_iconst C 0 dX9_acts_183 ki_0 ?_
      refine aw_goto C 191 dX9_acts_184 (by decide) ?_
      refine aw_fl [some (.ref 181), some (.int v1), none, none] ⟨rfl, ⟨rfl, trivial⟩⟩ ?_
      exact rmX9_acts_b191 C h
def mX9_acts_b154 (v1 : Int32) (v2 : Int32) (σ : RS9) : Option (Int32 × RS9) := (if (σ.1 12) = (-1 : Int32) then mX9_acts_b168 v1 v2 (0 : Int32) σ else mX9_acts_b168 v1 v2 (1 : Int32) σ)
set_option maxHeartbeats 1000000 in
theorem rmX9_acts_b154 {X : GX} {p : Program} {l : Launch} {e : Env} {s : State} {m : MethodId} {args : Array Value} {below : List Frame} {meth : Method} {c : Code} {f : AH} {n : Nat} {r : Int32 × RS9} {v1 : Int32} {v2 : Int32} {σ : RS9} (C : CC X p l (RM 13 0 0) s m args meth c RX9 cX9_acts 4 (some .int)) (h : mX9_acts_b154 v1 v2 σ = some r) : AW X p l e (RM 13 0 0) s m args below meth c 4 (ZM X below args s 0 0 (QMi f n r)) (rHm f σ) n 0 0 154 [some (.ref 181), some (.int v1), some (.int v2), none] [] := by
  have h : (if (σ.1 12) = (-1 : Int32) then mX9_acts_b168 v1 v2 (0 : Int32) σ else mX9_acts_b168 v1 v2 (1 : Int32) σ) = some r := h
  refine aw_ald_n C dX9_acts_154 rfl ?_
  refine aw_ald_n C dX9_acts_155 rfl ?_
  refine aw_get C (v := .int (σ.1 12)) gf_X9_26 (hm_M f σ) rfl dX9_acts_156 ?_
  refine aw_iconst C (-1) dX9_acts_159 ki_m1 ?_
  refine aw_icmp_ne C 167 dX9_acts_160 (by decide) (fun q => ?_) (fun q => ?_)
  · rw [if_neg q] at h
    refine aw_iconst C 1 dX9_acts_167 ki_1 ?_
    refine aw_fl [some (.ref 181), some (.int v1), some (.int v2), none] ⟨rfl, ⟨rfl, ⟨rfl, trivial⟩⟩⟩ ?_
    exact rmX9_acts_b168 C h
  · rw [if_pos q] at h
    refine aw_iconst C 0 dX9_acts_163 ki_0 ?_
    refine aw_goto C 168 dX9_acts_164 (by decide) ?_
    refine aw_fl [some (.ref 181), some (.int v1), some (.int v2), none] ⟨rfl, ⟨rfl, ⟨rfl, trivial⟩⟩⟩ ?_
    exact rmX9_acts_b168 C h
def mX9_acts_b141 (rec48 : Int32 → Int32 → Int32 → RS9 → Option (Int32 × RS9)) (v1 : Int32) (v2 : Int32) (v3 : Int32) (σ : RS9) : Option (Int32 × RS9) := rec48 v1 v2 v3 (rSf σ 11 ((σ.1 11) + (1 : Int32)))
set_option maxHeartbeats 1000000 in
theorem rmX9_acts_b141 {X : GX} {p : Program} {l : Launch} {e : Env} {s : State} {m : MethodId} {args : Array Value} {below : List Frame} {meth : Method} {c : Code} {f : AH} {n : Nat} {r : Int32 × RS9} {rec48 : Int32 → Int32 → Int32 → RS9 → Option (Int32 × RS9)} {v1 : Int32} {v2 : Int32} {v3 : Int32} {σ : RS9} (C : CC X p l (RM 13 0 0) s m args meth c RX9 cX9_acts 4 (some .int)) (Hr48 : ∀ (v1 : Int32) (v2 : Int32) (v3 : Int32) (σ : RS9), rec48 v1 v2 v3 σ = some r → AW X p l e (RM 13 0 0) s m args below meth c 4 (ZM X below args s 0 0 (QMi f n r)) (rHm f σ) n 0 0 48 [some (.ref 181), some (.int v1), some (.int v2), some (.int v3)] []) (h : mX9_acts_b141 rec48 v1 v2 v3 σ = some r) : AW X p l e (RM 13 0 0) s m args below meth c 4 (ZM X below args s 0 0 (QMi f n r)) (rHm f σ) n 0 0 141 [some (.ref 181), some (.int v1), some (.int v2), some (.int v3)] [] := by
  have h : rec48 v1 v2 v3 (rSf σ 11 ((σ.1 11) + (1 : Int32))) = some r := h
  refine aw_ald_n C dX9_acts_141 rfl ?_
  refine aw_dup C dX9_acts_142 rfl ?_
  refine aw_get C (v := .int (σ.1 11)) gf_X9_340 (hm_M f σ) rfl dX9_acts_143 ?_
  refine aw_iconst C 1 dX9_acts_146 ki_1 ?_
  refine aw_iadd C dX9_acts_147 ?_
  refine am_put C gf_X9_340 nf9_11 rfl rfl dX9_acts_148 ?_
  refine aw_goto C 48 dX9_acts_151 (by decide) ?_
  refine aw_fl [some (.ref 181), some (.int v1), some (.int v2), some (.int v3)] ⟨rfl, ⟨rfl, ⟨rfl, ⟨rfl, trivial⟩⟩⟩⟩ ?_
  exact Hr48 v1 v2 v3 (rSf σ 11 ((σ.1 11) + (1 : Int32))) h
def mX9_acts_b106 (rec48 : Int32 → Int32 → Int32 → RS9 → Option (Int32 × RS9)) (v1 : Int32) (v2 : Int32) (s0 : Int32) (σ : RS9) : Option (Int32 × RS9) := (if s0 = (0 : Int32) then rec48 v1 v2 s0 σ else (if (σ.1 12) = (-1 : Int32) then rCk (rIn (σ.1 11) (rLen 8)) ((if (rGa σ 8 (σ.1 11)) = (59 : Int32) then mX9_acts_b141 rec48 v1 v2 s0 σ else ((mX9_wrong (σ.1 11) σ).bind fun r2 => mX9_acts_b141 rec48 v1 v2 s0 r2.2))) else rec48 v1 v2 s0 σ))
set_option maxHeartbeats 1000000 in
theorem rmX9_acts_b106 {X : GX} {p : Program} {l : Launch} {e : Env} {s : State} {m : MethodId} {args : Array Value} {below : List Frame} {meth : Method} {c : Code} {f : AH} {n : Nat} {r : Int32 × RS9} {rec48 : Int32 → Int32 → Int32 → RS9 → Option (Int32 × RS9)} {v1 : Int32} {v2 : Int32} {s0 : Int32} {σ : RS9} (C : CC X p l (RM 13 0 0) s m args meth c RX9 cX9_acts 4 (some .int)) (Hr48 : ∀ (v1 : Int32) (v2 : Int32) (v3 : Int32) (σ : RS9), rec48 v1 v2 v3 σ = some r → AW X p l e (RM 13 0 0) s m args below meth c 4 (ZM X below args s 0 0 (QMi f n r)) (rHm f σ) n 0 0 48 [some (.ref 181), some (.int v1), some (.int v2), some (.int v3)] []) (h : mX9_acts_b106 rec48 v1 v2 s0 σ = some r) : AW X p l e (RM 13 0 0) s m args below meth c 4 (ZM X below args s 0 0 (QMi f n r)) (rHm f σ) n 0 0 106 [some (.ref 181), some (.int v1), some (.int v2), none] [.int s0] := by
  have h : (if s0 = (0 : Int32) then rec48 v1 v2 s0 σ else (if (σ.1 12) = (-1 : Int32) then rCk (rIn (σ.1 11) (rLen 8)) ((if (rGa σ 8 (σ.1 11)) = (59 : Int32) then mX9_acts_b141 rec48 v1 v2 s0 σ else ((mX9_wrong (σ.1 11) σ).bind fun r2 => mX9_acts_b141 rec48 v1 v2 s0 r2.2))) else rec48 v1 v2 s0 σ)) = some r := h
  refine aw_istore_n C dX9_acts_106 (by decide) rfl ?_
  refine aw_nl [some (.ref 181), some (.int v1), some (.int v2), some (.int s0)] rfl ?_
  refine aw_iload_n C dX9_acts_107 rfl ?_
  refine aw_if_eq C 48 dX9_acts_108 (by decide) (fun q => ?_) (fun q => ?_)
  · rw [if_pos q] at h
    refine aw_fl [some (.ref 181), some (.int v1), some (.int v2), some (.int s0)] ⟨rfl, ⟨rfl, ⟨rfl, ⟨rfl, trivial⟩⟩⟩⟩ ?_
    exact Hr48 v1 v2 s0 σ h
  · rw [if_neg q] at h
    refine aw_ald_n C dX9_acts_111 rfl ?_
    refine aw_get C (v := .int (σ.1 12)) gf_X9_26 (hm_M f σ) rfl dX9_acts_112 ?_
    refine aw_iconst C (-1) dX9_acts_115 ki_m1 ?_
    refine aw_icmp_ne C 48 dX9_acts_116 (by decide) (fun q => ?_) (fun q => ?_)
    · rw [if_neg q] at h
      refine aw_fl [some (.ref 181), some (.int v1), some (.int v2), some (.int s0)] ⟨rfl, ⟨rfl, ⟨rfl, ⟨rfl, trivial⟩⟩⟩⟩ ?_
      exact Hr48 v1 v2 s0 σ h
    · rw [if_pos q] at h
      refine aw_ald_n C dX9_acts_119 rfl ?_
      refine aw_get C (v := .ref (rAid 8)) gf_X9_23 (hm_M f σ) rfl dX9_acts_120 ?_
      refine aw_ald_n C dX9_acts_123 rfl ?_
      refine aw_get C (v := .int (σ.1 11)) gf_X9_340 (hm_M f σ) rfl dX9_acts_124 ?_
      obtain ⟨hb1, h⟩ := ck_some h
      refine am_iald C (rGa σ 8 (σ.1 11)) rfl (inb_vp hb1) rfl dX9_acts_127 ?_
      refine aw_bipush C 59 dX9_acts_128 kb_59 ?_
      refine aw_icmp_eq C 141 dX9_acts_130 (by decide) (fun q => ?_) (fun q => ?_)
      · rw [if_pos q] at h
        refine aw_fl [some (.ref 181), some (.int v1), some (.int v2), some (.int s0)] ⟨rfl, ⟨rfl, ⟨rfl, ⟨rfl, trivial⟩⟩⟩⟩ ?_
        exact rmX9_acts_b141 C Hr48 h
      · rw [if_neg q] at h
        refine aw_ald_n C dX9_acts_133 rfl ?_
        refine aw_ald_n C dX9_acts_134 rfl ?_
        refine aw_get C (v := .int (σ.1 11)) gf_X9_340 (hm_M f σ) rfl dX9_acts_135 ?_
        obtain ⟨r2, h2, h⟩ := Option.bind_eq_some_iff.mp h
        refine aw_callV C (ci := 9) (b := 181) [.int (σ.1 11)] mv_X9_352 rfl rfl (hm_M f σ) (rmX9_wrong h2) rfl dX9_acts_138 (Nat.le_of_ble_eq_true rfl) (Nat.le_of_ble_eq_true rfl) rfl (Nat.le_of_ble_eq_true rfl) (Nat.le_of_ble_eq_true rfl) (Nat.le_of_ble_eq_true rfl) (fun v9 f9 n9 hh => ?_)
        obtain ⟨rfl, rfl, rfl⟩ := hh
        refine aw_fl [some (.ref 181), some (.int v1), some (.int v2), some (.int s0)] ⟨rfl, ⟨rfl, ⟨rfl, ⟨rfl, trivial⟩⟩⟩⟩ ?_
        exact rmX9_acts_b141 C Hr48 h
def mX9_acts_b87 (rec48 : Int32 → Int32 → Int32 → RS9 → Option (Int32 × RS9)) (v1 : Int32) (v2 : Int32) (σ : RS9) : Option (Int32 × RS9) := ((mX9_here σ).bind fun r1 => (if (r1.2.1 10) ≤ r1.1 then mX9_acts_b106 rec48 (v1 + (1 : Int32)) v2 (0 : Int32) r1.2 else mX9_acts_b106 rec48 (v1 + (1 : Int32)) v2 (1 : Int32) r1.2))
set_option maxHeartbeats 1000000 in
theorem rmX9_acts_b87 {X : GX} {p : Program} {l : Launch} {e : Env} {s : State} {m : MethodId} {args : Array Value} {below : List Frame} {meth : Method} {c : Code} {f : AH} {n : Nat} {r : Int32 × RS9} {rec48 : Int32 → Int32 → Int32 → RS9 → Option (Int32 × RS9)} {v1 : Int32} {v2 : Int32} {σ : RS9} (C : CC X p l (RM 13 0 0) s m args meth c RX9 cX9_acts 4 (some .int)) (Hr48 : ∀ (v1 : Int32) (v2 : Int32) (v3 : Int32) (σ : RS9), rec48 v1 v2 v3 σ = some r → AW X p l e (RM 13 0 0) s m args below meth c 4 (ZM X below args s 0 0 (QMi f n r)) (rHm f σ) n 0 0 48 [some (.ref 181), some (.int v1), some (.int v2), some (.int v3)] []) (h : mX9_acts_b87 rec48 v1 v2 σ = some r) : AW X p l e (RM 13 0 0) s m args below meth c 4 (ZM X below args s 0 0 (QMi f n r)) (rHm f σ) n 0 0 87 [some (.ref 181), some (.int v1), some (.int v2), none] [] := by
  have h : ((mX9_here σ).bind fun r1 => (if (r1.2.1 10) ≤ r1.1 then mX9_acts_b106 rec48 (v1 + (1 : Int32)) v2 (0 : Int32) r1.2 else mX9_acts_b106 rec48 (v1 + (1 : Int32)) v2 (1 : Int32) r1.2)) = some r := h
  refine aw_iinc C (v1 + (1 : Int32)) dX9_acts_87 rfl (by rw [ki_1]) (by decide) rfl ?_
  refine aw_nl [some (.ref 181), some (.int (v1 + (1 : Int32))), some (.int v2), none] rfl ?_
  refine aw_ald_n C dX9_acts_90 rfl ?_
  obtain ⟨r1, h1, h⟩ := Option.bind_eq_some_iff.mp h
  refine aw_callV C (ci := 9) (b := 181) [] mv_X9_346 rfl rfl (hm_M f σ) (rmX9_here h1) rfl dX9_acts_91 (Nat.le_of_ble_eq_true rfl) (Nat.le_of_ble_eq_true rfl) rfl (Nat.le_of_ble_eq_true rfl) (Nat.le_of_ble_eq_true rfl) (Nat.le_of_ble_eq_true rfl) (fun v9 f9 n9 hh => ?_)
  obtain ⟨rfl, rfl, rfl⟩ := hh
  refine aw_ald_n C dX9_acts_94 rfl ?_
  refine aw_get C (v := .int (r1.2.1 10)) gf_X9_343 (hm_M f r1.2) rfl dX9_acts_95 ?_
  refine aw_icmp_ge C 105 dX9_acts_98 (by decide) (fun q => ?_) (fun q => ?_)
  · rw [if_pos q] at h
    refine aw_iconst C 0 dX9_acts_105 ki_0 ?_
    refine aw_fl [some (.ref 181), some (.int (v1 + (1 : Int32))), some (.int v2), none] ⟨rfl, ⟨rfl, ⟨rfl, trivial⟩⟩⟩ ?_
    exact rmX9_acts_b106 C Hr48 h
  · rw [if_neg q] at h
    refine aw_iconst C 1 dX9_acts_101 ki_1 ?_
    refine aw_goto C 106 dX9_acts_102 (by decide) ?_
    refine aw_fl [some (.ref 181), some (.int (v1 + (1 : Int32))), some (.int v2), none] ⟨rfl, ⟨rfl, ⟨rfl, trivial⟩⟩⟩ ?_
    exact rmX9_acts_b106 C Hr48 h
def mX9_acts_b74 (rec48 : Int32 → Int32 → Int32 → RS9 → Option (Int32 × RS9)) (v1 : Int32) (v2 : Int32) (σ : RS9) : Option (Int32 × RS9) := (if (σ.1 12) = (-1 : Int32) then ((mX9_act σ).bind fun r1 => mX9_acts_b87 rec48 v1 r1.1 r1.2) else mX9_acts_b87 rec48 v1 v2 σ)
set_option maxHeartbeats 1000000 in
theorem rmX9_acts_b74 {X : GX} {p : Program} {l : Launch} {e : Env} {s : State} {m : MethodId} {args : Array Value} {below : List Frame} {meth : Method} {c : Code} {f : AH} {n : Nat} {r : Int32 × RS9} {rec48 : Int32 → Int32 → Int32 → RS9 → Option (Int32 × RS9)} {v1 : Int32} {v2 : Int32} {σ : RS9} (C : CC X p l (RM 13 0 0) s m args meth c RX9 cX9_acts 4 (some .int)) (Hr48 : ∀ (v1 : Int32) (v2 : Int32) (v3 : Int32) (σ : RS9), rec48 v1 v2 v3 σ = some r → AW X p l e (RM 13 0 0) s m args below meth c 4 (ZM X below args s 0 0 (QMi f n r)) (rHm f σ) n 0 0 48 [some (.ref 181), some (.int v1), some (.int v2), some (.int v3)] []) (h : mX9_acts_b74 rec48 v1 v2 σ = some r) : AW X p l e (RM 13 0 0) s m args below meth c 4 (ZM X below args s 0 0 (QMi f n r)) (rHm f σ) n 0 0 74 [some (.ref 181), some (.int v1), some (.int v2), none] [] := by
  have h : (if (σ.1 12) = (-1 : Int32) then ((mX9_act σ).bind fun r1 => mX9_acts_b87 rec48 v1 r1.1 r1.2) else mX9_acts_b87 rec48 v1 v2 σ) = some r := h
  refine aw_ald_n C dX9_acts_74 rfl ?_
  refine aw_get C (v := .int (σ.1 12)) gf_X9_26 (hm_M f σ) rfl dX9_acts_75 ?_
  refine aw_iconst C (-1) dX9_acts_78 ki_m1 ?_
  refine aw_icmp_ne C 87 dX9_acts_79 (by decide) (fun q => ?_) (fun q => ?_)
  · rw [if_neg q] at h
    refine aw_fl [some (.ref 181), some (.int v1), some (.int v2), none] ⟨rfl, ⟨rfl, ⟨rfl, trivial⟩⟩⟩ ?_
    exact rmX9_acts_b87 C Hr48 h
  · rw [if_pos q] at h
    refine aw_ald_n C dX9_acts_82 rfl ?_
    obtain ⟨r1, h1, h⟩ := Option.bind_eq_some_iff.mp h
    refine aw_callV C (ci := 9) (b := 181) [] mv_X9_423 rfl rfl (hm_M f σ) (rmX9_act h1) rfl dX9_acts_83 (Nat.le_of_ble_eq_true rfl) (Nat.le_of_ble_eq_true rfl) rfl (Nat.le_of_ble_eq_true rfl) (Nat.le_of_ble_eq_true rfl) (Nat.le_of_ble_eq_true rfl) (fun v9 f9 n9 hh => ?_)
    obtain ⟨rfl, rfl, rfl⟩ := hh
    refine aw_istore_n C dX9_acts_86 (by decide) rfl ?_
    refine aw_nl [some (.ref 181), some (.int v1), some (.int r1.1), none] rfl ?_
    refine aw_fl [some (.ref 181), some (.int v1), some (.int r1.1), none] ⟨rfl, ⟨rfl, ⟨rfl, trivial⟩⟩⟩ ?_
    exact rmX9_acts_b87 C Hr48 h
def mX9_acts_l48 : Nat → Int32 → Int32 → Int32 → RS9 → Option (Int32 × RS9)
  | 0, _, _, _, _ => none
  | d + 1, v1, v2, v3, σ => (if v3 = (0 : Int32) then mX9_acts_b154 v1 v2 σ else (if (σ.1 12) = (-1 : Int32) then (if v1 = (14 : Int32) then ((mX9_here σ).bind fun r1 => ((mX9_wrong r1.1 r1.2).bind fun r2 => mX9_acts_b74 (fun v1 v2 v3 σ => mX9_acts_l48 d v1 v2 v3 σ) v1 v2 r2.2)) else mX9_acts_b74 (fun v1 v2 v3 σ => mX9_acts_l48 d v1 v2 v3 σ) v1 v2 σ) else mX9_acts_b154 v1 v2 σ))
set_option maxHeartbeats 1000000 in
theorem rmX9_acts_l48 {X : GX} {p : Program} {l : Launch} {e : Env} {s : State} {m : MethodId} {args : Array Value} {below : List Frame} {meth : Method} {c : Code} {f : AH} {n : Nat} {r : Int32 × RS9} (C : CC X p l (RM 13 0 0) s m args meth c RX9 cX9_acts 4 (some .int)) : ∀ (d : Nat) (v1 : Int32) (v2 : Int32) (v3 : Int32) (σ : RS9) (_ : mX9_acts_l48 d v1 v2 v3 σ = some r), AW X p l e (RM 13 0 0) s m args below meth c 4 (ZM X below args s 0 0 (QMi f n r)) (rHm f σ) n 0 0 48 [some (.ref 181), some (.int v1), some (.int v2), some (.int v3)] [] := by
  intro d
  induction d with
  | zero =>
    intro v1 v2 v3 σ h
    exact nomatch (show (none : Option (Int32 × RS9)) = some r from h)
  | succ d ih =>
    intro v1 v2 v3 σ h
    have h : (if v3 = (0 : Int32) then mX9_acts_b154 v1 v2 σ else (if (σ.1 12) = (-1 : Int32) then (if v1 = (14 : Int32) then ((mX9_here σ).bind fun r1 => ((mX9_wrong r1.1 r1.2).bind fun r2 => mX9_acts_b74 (fun v1 v2 v3 σ => mX9_acts_l48 d v1 v2 v3 σ) v1 v2 r2.2)) else mX9_acts_b74 (fun v1 v2 v3 σ => mX9_acts_l48 d v1 v2 v3 σ) v1 v2 σ) else mX9_acts_b154 v1 v2 σ)) = some r := h
    refine aw_iload_n C dX9_acts_48 rfl ?_
    refine aw_if_eq C 154 dX9_acts_49 (by decide) (fun q => ?_) (fun q => ?_)
    · rw [if_pos q] at h
      refine aw_fl [some (.ref 181), some (.int v1), some (.int v2), none] ⟨rfl, ⟨rfl, ⟨rfl, trivial⟩⟩⟩ ?_
      exact rmX9_acts_b154 C h
    · rw [if_neg q] at h
      refine aw_ald_n C dX9_acts_52 rfl ?_
      refine aw_get C (v := .int (σ.1 12)) gf_X9_26 (hm_M f σ) rfl dX9_acts_53 ?_
      refine aw_iconst C (-1) dX9_acts_56 ki_m1 ?_
      refine aw_icmp_ne C 154 dX9_acts_57 (by decide) (fun q => ?_) (fun q => ?_)
      · rw [if_neg q] at h
        refine aw_fl [some (.ref 181), some (.int v1), some (.int v2), none] ⟨rfl, ⟨rfl, ⟨rfl, trivial⟩⟩⟩ ?_
        exact rmX9_acts_b154 C h
      · rw [if_pos q] at h
        refine aw_iload_n C dX9_acts_60 rfl ?_
        refine aw_bipush C 14 dX9_acts_61 kb_14 ?_
        refine aw_icmp_ne C 74 dX9_acts_63 (by decide) (fun q => ?_) (fun q => ?_)
        · rw [if_neg q] at h
          refine aw_fl [some (.ref 181), some (.int v1), some (.int v2), none] ⟨rfl, ⟨rfl, ⟨rfl, trivial⟩⟩⟩ ?_
          exact rmX9_acts_b74 C (fun v1 v2 v3 σ h => ih v1 v2 v3 σ h) h
        · rw [if_pos q] at h
          refine aw_ald_n C dX9_acts_66 rfl ?_
          refine aw_ald_n C dX9_acts_67 rfl ?_
          obtain ⟨r1, h1, h⟩ := Option.bind_eq_some_iff.mp h
          refine aw_callV C (ci := 9) (b := 181) [] mv_X9_346 rfl rfl (hm_M f σ) (rmX9_here h1) rfl dX9_acts_68 (Nat.le_of_ble_eq_true rfl) (Nat.le_of_ble_eq_true rfl) rfl (Nat.le_of_ble_eq_true rfl) (Nat.le_of_ble_eq_true rfl) (Nat.le_of_ble_eq_true rfl) (fun v9 f9 n9 hh => ?_)
          obtain ⟨rfl, rfl, rfl⟩ := hh
          obtain ⟨r2, h2, h⟩ := Option.bind_eq_some_iff.mp h
          refine aw_callV C (ci := 9) (b := 181) [.int r1.1] mv_X9_352 rfl rfl (hm_M f r1.2) (rmX9_wrong h2) rfl dX9_acts_71 (Nat.le_of_ble_eq_true rfl) (Nat.le_of_ble_eq_true rfl) rfl (Nat.le_of_ble_eq_true rfl) (Nat.le_of_ble_eq_true rfl) (Nat.le_of_ble_eq_true rfl) (fun v9 f9 n9 hh => ?_)
          obtain ⟨rfl, rfl, rfl⟩ := hh
          refine aw_fl [some (.ref 181), some (.int v1), some (.int v2), none] ⟨rfl, ⟨rfl, ⟨rfl, trivial⟩⟩⟩ ?_
          exact rmX9_acts_b74 C (fun v1 v2 v3 σ h => ih v1 v2 v3 σ h) h
def mX9_acts_b47 (v1 : Int32) (v2 : Int32) (s0 : Int32) (σ : RS9) : Option (Int32 × RS9) := mX9_acts_l48 rFU v1 v2 s0 σ
set_option maxHeartbeats 1000000 in
theorem rmX9_acts_b47 {X : GX} {p : Program} {l : Launch} {e : Env} {s : State} {m : MethodId} {args : Array Value} {below : List Frame} {meth : Method} {c : Code} {f : AH} {n : Nat} {r : Int32 × RS9} {v1 : Int32} {v2 : Int32} {s0 : Int32} {σ : RS9} (C : CC X p l (RM 13 0 0) s m args meth c RX9 cX9_acts 4 (some .int)) (h : mX9_acts_b47 v1 v2 s0 σ = some r) : AW X p l e (RM 13 0 0) s m args below meth c 4 (ZM X below args s 0 0 (QMi f n r)) (rHm f σ) n 0 0 47 [some (.ref 181), some (.int v1), some (.int v2), none] [.int s0] := by
  have h : mX9_acts_l48 rFU v1 v2 s0 σ = some r := h
  refine aw_istore_n C dX9_acts_47 (by decide) rfl ?_
  refine aw_nl [some (.ref 181), some (.int v1), some (.int v2), some (.int s0)] rfl ?_
  refine aw_fl [some (.ref 181), some (.int v1), some (.int v2), some (.int s0)] ⟨rfl, ⟨rfl, ⟨rfl, ⟨rfl, trivial⟩⟩⟩⟩ ?_
  exact rmX9_acts_l48 C rFU v1 v2 s0 σ h
def mX9_acts (σ : RS9) : Option (Int32 × RS9) := ((mX9_putsAside (rSf (rSf (rSf (rSf σ 12 (-1 : Int32)) 10 (σ.1 9)) 9 (0 : Int32)) 11 (0 : Int32))).bind fun r1 => ((mX9_here r1.2).bind fun r2 => (if (r2.2.1 10) ≤ r2.1 then mX9_acts_b47 (0 : Int32) (0 : Int32) (0 : Int32) r2.2 else mX9_acts_b47 (0 : Int32) (0 : Int32) (1 : Int32) r2.2)))
set_option maxHeartbeats 1000000 in
theorem rmX9_acts {X : GX} {l : Launch} {f : AH} {n : Nat} {r : Int32 × RS9} {σ : RS9} (h : mX9_acts σ = some r) : AM X l yX9_acts cX9_acts 4 (some .int) 13 0 0 [.ref 181] (rHm f σ) n (QMi f n r) := by
  have h : ((mX9_putsAside (rSf (rSf (rSf (rSf σ 12 (-1 : Int32)) 10 (σ.1 9)) 9 (0 : Int32)) 11 (0 : Int32))).bind fun r1 => ((mX9_here r1.2).bind fun r2 => (if (r2.2.1 10) ≤ r2.1 then mX9_acts_b47 (0 : Int32) (0 : Int32) (0 : Int32) r2.2 else mX9_acts_b47 (0 : Int32) (0 : Int32) (1 : Int32) r2.2))) = some r := h
  refine AM.of (by decide +kernel) rfl (Nat.le_of_ble_eq_true rfl) (fun p e s m args below meth c C _ => ?_)
  refine aw_nl [some (.ref 181), none, none, none] rfl ?_
  refine aw_ald_n C dX9_acts_0 rfl ?_
  refine aw_iconst C (-1) dX9_acts_1 ki_m1 ?_
  refine am_put C gf_X9_26 nf9_12 rfl rfl dX9_acts_2 ?_
  refine aw_ald_n C dX9_acts_5 rfl ?_
  refine aw_ald_n C dX9_acts_6 rfl ?_
  refine aw_get C (v := .int (σ.1 9)) gf_X9_337 (hm_M f (rSf σ 12 (-1 : Int32))) rfl dX9_acts_7 ?_
  refine am_put C gf_X9_343 nf9_10 rfl rfl dX9_acts_10 ?_
  refine aw_ald_n C dX9_acts_13 rfl ?_
  refine aw_iconst C 0 dX9_acts_14 ki_0 ?_
  refine am_put C gf_X9_337 nf9_9 rfl rfl dX9_acts_15 ?_
  refine aw_ald_n C dX9_acts_18 rfl ?_
  refine aw_iconst C 0 dX9_acts_19 ki_0 ?_
  refine am_put C gf_X9_340 nf9_11 rfl rfl dX9_acts_20 ?_
  refine aw_ald_n C dX9_acts_23 rfl ?_
  obtain ⟨r1, h1, h⟩ := Option.bind_eq_some_iff.mp h
  refine aw_callV C (ci := 9) (b := 181) [] mv_X9_420 rfl rfl (hm_M f (rSf (rSf (rSf (rSf σ 12 (-1 : Int32)) 10 (σ.1 9)) 9 (0 : Int32)) 11 (0 : Int32))) (rmX9_putsAside h1) rfl dX9_acts_24 (Nat.le_of_ble_eq_true rfl) (Nat.le_of_ble_eq_true rfl) rfl (Nat.le_of_ble_eq_true rfl) (Nat.le_of_ble_eq_true rfl) (Nat.le_of_ble_eq_true rfl) (fun v9 f9 n9 hh => ?_)
  obtain ⟨rfl, rfl, rfl⟩ := hh
  refine aw_iconst C 0 dX9_acts_27 ki_0 ?_
  refine aw_istore_n C dX9_acts_28 (by decide) rfl ?_
  refine aw_nl [some (.ref 181), some (.int (0 : Int32)), none, none] rfl ?_
  refine aw_iconst C 0 dX9_acts_29 ki_0 ?_
  refine aw_istore_n C dX9_acts_30 (by decide) rfl ?_
  refine aw_nl [some (.ref 181), some (.int (0 : Int32)), some (.int (0 : Int32)), none] rfl ?_
  refine aw_ald_n C dX9_acts_31 rfl ?_
  obtain ⟨r2, h2, h⟩ := Option.bind_eq_some_iff.mp h
  refine aw_callV C (ci := 9) (b := 181) [] mv_X9_346 rfl rfl (hm_M f r1.2) (rmX9_here h2) rfl dX9_acts_32 (Nat.le_of_ble_eq_true rfl) (Nat.le_of_ble_eq_true rfl) rfl (Nat.le_of_ble_eq_true rfl) (Nat.le_of_ble_eq_true rfl) (Nat.le_of_ble_eq_true rfl) (fun v9 f9 n9 hh => ?_)
  obtain ⟨rfl, rfl, rfl⟩ := hh
  refine aw_ald_n C dX9_acts_35 rfl ?_
  refine aw_get C (v := .int (r2.2.1 10)) gf_X9_343 (hm_M f r2.2) rfl dX9_acts_36 ?_
  refine aw_icmp_ge C 46 dX9_acts_39 (by decide) (fun q => ?_) (fun q => ?_)
  · rw [if_pos q] at h
    refine aw_iconst C 0 dX9_acts_46 ki_0 ?_
    refine aw_fl [some (.ref 181), some (.int (0 : Int32)), some (.int (0 : Int32)), none] ⟨rfl, ⟨rfl, ⟨rfl, trivial⟩⟩⟩ ?_
    exact rmX9_acts_b47 C h
  · rw [if_neg q] at h
    refine aw_iconst C 1 dX9_acts_42 ki_1 ?_
    refine aw_goto C 47 dX9_acts_43 (by decide) ?_
    refine aw_fl [some (.ref 181), some (.int (0 : Int32)), some (.int (0 : Int32)), none] ⟨rfl, ⟨rfl, ⟨rfl, trivial⟩⟩⟩ ?_
    exact rmX9_acts_b47 C h
