def mX9_back_l16 : Nat → Int32 → RS9 → Option (Int32 × RS9)
  | 0, _, _ => none
  | d + 1, v1, σ => (if (4347 : Int32) ≤ v1 then ((mX9_cutsFile σ).bind fun r1 => rCk (rNb (1 : Int32)) (some ((1 : Int32), (rSf r1.2 5 (0 : Int32))))) else rCk (rIn v1 (rLen 3)) (rCk (rIn v1 (rLen 1)) (mX9_back_l16 d (v1 + (1 : Int32)) (rSa σ 1 v1 (rGa σ 3 v1)))))
set_option maxHeartbeats 1000000 in
theorem rmX9_back_l16 {X : GX} {p : Program} {l : Launch} {e : Env} {s : State} {m : MethodId} {args : Array Value} {below : List Frame} {meth : Method} {c : Code} {f : AH} {n : Nat} {r : Int32 × RS9} (C : CC X p l (RM 9 0 0) s m args meth c RX9 cX9_back 2 (some .boolean)) : ∀ (d : Nat) (v1 : Int32) (σ : RS9) (_ : mX9_back_l16 d v1 σ = some r), AW X p l e (RM 9 0 0) s m args below meth c 2 (ZM X below args s 0 0 (QMi f n r)) (rHm f σ) n 0 0 16 [some (.ref 181), some (.int v1)] [] := by
  intro d
  induction d with
  | zero =>
    intro v1 σ h
    exact nomatch (show (none : Option (Int32 × RS9)) = some r from h)
  | succ d ih =>
    intro v1 σ h
    have h : (if (4347 : Int32) ≤ v1 then ((mX9_cutsFile σ).bind fun r1 => rCk (rNb (1 : Int32)) (some ((1 : Int32), (rSf r1.2 5 (0 : Int32))))) else rCk (rIn v1 (rLen 3)) (rCk (rIn v1 (rLen 1)) (mX9_back_l16 d (v1 + (1 : Int32)) (rSa σ 1 v1 (rGa σ 3 v1))))) = some r := h
    refine aw_iload_n C dX9_back_16 rfl ?_
    refine aw_sipush C 4347 dX9_back_17 ks_4347 ?_
    refine aw_icmp_ge C 41 dX9_back_20 (by decide) (fun q => ?_) (fun q => ?_)
    · rw [if_pos q] at h
      refine aw_ald_n C dX9_back_41 rfl ?_
      obtain ⟨r1, h1, h⟩ := Option.bind_eq_some_iff.mp h
      refine aw_callV C (ci := 9) (b := 181) [] mv_X9_244 rfl rfl (hm_M f σ) (rmX9_cutsFile h1) rfl dX9_back_42 (Nat.le_of_ble_eq_true rfl) (Nat.le_of_ble_eq_true rfl) rfl (Nat.le_of_ble_eq_true rfl) (Nat.le_of_ble_eq_true rfl) (Nat.le_of_ble_eq_true rfl) (fun v9 f9 n9 hh => ?_)
      obtain ⟨rfl, rfl, rfl⟩ := hh
      refine aw_ald_n C dX9_back_45 rfl ?_
      refine aw_iconst C 0 dX9_back_46 ki_0 ?_
      refine am_put C gf_X9_325 nf9_5 rfl rfl dX9_back_47 ?_
      refine aw_iconst C 1 dX9_back_50 ki_1 ?_
      obtain ⟨hb2, h⟩ := ck_some h
      cases h
      exact aw_iret C rfl (nb_nar hb2) dX9_back_51 (Nat.le_refl _) (Nat.le_refl _) ⟨rfl, rfl, rfl⟩
    · rw [if_neg q] at h
      refine aw_ald_n C dX9_back_23 rfl ?_
      refine aw_get C (v := .ref (rAid 1)) gf_X9_7 (hm_M f σ) rfl dX9_back_24 ?_
      refine aw_iload_n C dX9_back_27 rfl ?_
      refine aw_ald_n C dX9_back_28 rfl ?_
      refine aw_get C (v := .ref (rAid 3)) gf_X9_16 (hm_M f σ) rfl dX9_back_29 ?_
      refine aw_iload_n C dX9_back_32 rfl ?_
      obtain ⟨hb3, h⟩ := ck_some h
      refine am_iald C (rGa σ 3 v1) rfl (inb_vp hb3) rfl dX9_back_33 ?_
      obtain ⟨hb4, h⟩ := ck_some h
      refine am_iast C rfl (inb_vp hb4) dX9_back_34 ?_
      refine aw_iinc C (v1 + (1 : Int32)) dX9_back_35 rfl (by rw [ki_1]) (by decide) rfl ?_
      refine aw_nl [some (.ref 181), some (.int (v1 + (1 : Int32)))] rfl ?_
      refine aw_goto C 16 dX9_back_38 (by decide) ?_
      refine aw_fl [some (.ref 181), some (.int (v1 + (1 : Int32)))] ⟨rfl, ⟨rfl, trivial⟩⟩ ?_
      exact ih (v1 + (1 : Int32)) (rSa σ 1 v1 (rGa σ 3 v1)) h
def mX9_back (σ : RS9) : Option (Int32 × RS9) := (if (σ.1 6) = (0 : Int32) then rCk (rNb (0 : Int32)) (some ((0 : Int32), (rSf σ 0 (0 : Int32)))) else mX9_back_l16 rFU (0 : Int32) (rSf σ 0 (0 : Int32)))
set_option maxHeartbeats 1000000 in
theorem rmX9_back {X : GX} {l : Launch} {f : AH} {n : Nat} {r : Int32 × RS9} {σ : RS9} (h : mX9_back σ = some r) : AM X l yX9_back cX9_back 2 (some .boolean) 9 0 0 [.ref 181] (rHm f σ) n (QMi f n r) := by
  have h : (if (σ.1 6) = (0 : Int32) then rCk (rNb (0 : Int32)) (some ((0 : Int32), (rSf σ 0 (0 : Int32)))) else mX9_back_l16 rFU (0 : Int32) (rSf σ 0 (0 : Int32))) = some r := h
  refine AM.of (by decide +kernel) rfl (Nat.le_of_ble_eq_true rfl) (fun p e s m args below meth c C _ => ?_)
  refine aw_nl [some (.ref 181), none] rfl ?_
  refine aw_ald_n C dX9_back_0 rfl ?_
  refine aw_iconst C 0 dX9_back_1 ki_0 ?_
  refine am_put C gf_X9_138 nf9_0 rfl rfl dX9_back_2 ?_
  refine aw_ald_n C dX9_back_5 rfl ?_
  refine aw_get C (v := .int (σ.1 6)) gf_X9_468 (hm_M f (rSf σ 0 (0 : Int32))) rfl dX9_back_6 ?_
  refine aw_if_ne C 14 dX9_back_9 (by decide) (fun q => ?_) (fun q => ?_)
  · rw [if_neg q] at h
    refine aw_iconst C 0 dX9_back_14 ki_0 ?_
    refine aw_istore_n C dX9_back_15 (by decide) rfl ?_
    refine aw_nl [some (.ref 181), some (.int (0 : Int32))] rfl ?_
    refine aw_fl [some (.ref 181), some (.int (0 : Int32))] ⟨rfl, ⟨rfl, trivial⟩⟩ ?_
    exact rmX9_back_l16 C rFU (0 : Int32) (rSf σ 0 (0 : Int32)) h
  · rw [if_pos q] at h
    refine aw_iconst C 0 dX9_back_12 ki_0 ?_
    obtain ⟨hb1, h⟩ := ck_some h
    cases h
    exact aw_iret C rfl (nb_nar hb1) dX9_back_13 (Nat.le_refl _) (Nat.le_refl _) ⟨rfl, rfl, rfl⟩
def mX9_count (v1 : Int32) (σ : RS9) : Option (Int32 × RS9) := (if v1 = (0 : Int32) then rCk (rIn (0 : Int32) (rLen 1)) (some ((rGa σ 1 (0 : Int32)), (rSf σ 0 (0 : Int32)))) else if v1 = (1 : Int32) then rCk (rIn (1 : Int32) (rLen 1)) (some ((rGa σ 1 (1 : Int32)), (rSf σ 0 (0 : Int32)))) else if v1 = (2 : Int32) then rCk (rIn (2 : Int32) (rLen 1)) (some ((rGa σ 1 (2 : Int32)), (rSf σ 0 (0 : Int32)))) else if v1 = (3 : Int32) then some ((σ.1 33), (rSf σ 0 (0 : Int32))) else if v1 = (4 : Int32) then ((mX9_toldMany (rSf σ 0 (0 : Int32))).bind fun r4 => some (r4.1, r4.2)) else if v1 = (5 : Int32) then ((mX9_builtMany (rSf σ 0 (0 : Int32))).bind fun r5 => some (r5.1, r5.2)) else if v1 = (6 : Int32) then ((mX9_skeleton (rSf σ 0 (0 : Int32))).bind fun r6 => some (r6.1, r6.2)) else if v1 = (7 : Int32) then rCk (rIn (3 : Int32) (rLen 1)) (some ((rGa σ 1 (3 : Int32)), (rSf σ 0 (0 : Int32)))) else if v1 = (8 : Int32) then rCk (rIn (4 : Int32) (rLen 1)) (some ((rGa σ 1 (4 : Int32)), (rSf σ 0 (0 : Int32)))) else if v1 = (9 : Int32) then rCk (rIn (5 : Int32) (rLen 1)) (some ((rGa σ 1 (5 : Int32)), (rSf σ 0 (0 : Int32)))) else if v1 = (10 : Int32) then ((mX9_unlikeTexts (rSf σ 0 (0 : Int32))).bind fun r10 => some (r10.1, r10.2)) else if v1 = (11 : Int32) then ((mX9_allWords (rSf σ 0 (0 : Int32))).bind fun r11 => some (r11.1, r11.2)) else if v1 = (12 : Int32) then rCk (rIn (42 : Int32) (rLen 1)) (some ((rGa σ 1 (42 : Int32)), (rSf σ 0 (0 : Int32)))) else if v1 = (13 : Int32) then ((mX9_longest (rSf σ 0 (0 : Int32))).bind fun r13 => some (r13.1, r13.2)) else if v1 = (14 : Int32) then some ((σ.1 5), (rSf σ 0 (0 : Int32))) else some ((-1 : Int32), (rSf σ 0 (0 : Int32))))
set_option maxHeartbeats 1000000 in
theorem rmX9_count {X : GX} {l : Launch} {f : AH} {n : Nat} {r : Int32 × RS9} {v1 : Int32} {σ : RS9} (h : mX9_count v1 σ = some r) : AM X l yX9_count cX9_count 2 (some .int) 10 0 0 [.ref 181, .int v1] (rHm f σ) n (QMi f n r) := by
  have h : (if v1 = (0 : Int32) then rCk (rIn (0 : Int32) (rLen 1)) (some ((rGa σ 1 (0 : Int32)), (rSf σ 0 (0 : Int32)))) else if v1 = (1 : Int32) then rCk (rIn (1 : Int32) (rLen 1)) (some ((rGa σ 1 (1 : Int32)), (rSf σ 0 (0 : Int32)))) else if v1 = (2 : Int32) then rCk (rIn (2 : Int32) (rLen 1)) (some ((rGa σ 1 (2 : Int32)), (rSf σ 0 (0 : Int32)))) else if v1 = (3 : Int32) then some ((σ.1 33), (rSf σ 0 (0 : Int32))) else if v1 = (4 : Int32) then ((mX9_toldMany (rSf σ 0 (0 : Int32))).bind fun r4 => some (r4.1, r4.2)) else if v1 = (5 : Int32) then ((mX9_builtMany (rSf σ 0 (0 : Int32))).bind fun r5 => some (r5.1, r5.2)) else if v1 = (6 : Int32) then ((mX9_skeleton (rSf σ 0 (0 : Int32))).bind fun r6 => some (r6.1, r6.2)) else if v1 = (7 : Int32) then rCk (rIn (3 : Int32) (rLen 1)) (some ((rGa σ 1 (3 : Int32)), (rSf σ 0 (0 : Int32)))) else if v1 = (8 : Int32) then rCk (rIn (4 : Int32) (rLen 1)) (some ((rGa σ 1 (4 : Int32)), (rSf σ 0 (0 : Int32)))) else if v1 = (9 : Int32) then rCk (rIn (5 : Int32) (rLen 1)) (some ((rGa σ 1 (5 : Int32)), (rSf σ 0 (0 : Int32)))) else if v1 = (10 : Int32) then ((mX9_unlikeTexts (rSf σ 0 (0 : Int32))).bind fun r10 => some (r10.1, r10.2)) else if v1 = (11 : Int32) then ((mX9_allWords (rSf σ 0 (0 : Int32))).bind fun r11 => some (r11.1, r11.2)) else if v1 = (12 : Int32) then rCk (rIn (42 : Int32) (rLen 1)) (some ((rGa σ 1 (42 : Int32)), (rSf σ 0 (0 : Int32)))) else if v1 = (13 : Int32) then ((mX9_longest (rSf σ 0 (0 : Int32))).bind fun r13 => some (r13.1, r13.2)) else if v1 = (14 : Int32) then some ((σ.1 5), (rSf σ 0 (0 : Int32))) else some ((-1 : Int32), (rSf σ 0 (0 : Int32)))) = some r := h
  refine AM.of (by decide +kernel) rfl (Nat.le_of_ble_eq_true rfl) (fun p e s m args below meth c C _ => ?_)
  refine aw_nl [some (.ref 181), some (.int v1)] rfl ?_
  refine aw_ald_n C dX9_count_0 rfl ?_
  refine aw_iconst C 0 dX9_count_1 ki_0 ?_
  refine am_put C gf_X9_138 nf9_0 rfl rfl dX9_count_2 ?_
  refine aw_iload_n C dX9_count_5 rfl ?_
  by_cases q : v1 = (0 : Int32)
  · rw [if_pos q] at h
    rw [q]
    refine aw_tabIn C (off := 74) 80 dX9_count_6 (by decide) (by decide) (by decide) (by decide) ?_
    refine aw_ald_n C dX9_count_80 rfl ?_
    refine aw_get C (v := .ref (rAid 1)) gf_X9_7 (hm_M f (rSf σ 0 (0 : Int32))) rfl dX9_count_81 ?_
    refine aw_iconst C 0 dX9_count_84 ki_0 ?_
    obtain ⟨hb1, h⟩ := ck_some h
    refine am_iald C (rGa σ 1 (0 : Int32)) rfl (inb_vp hb1) rfl dX9_count_85 ?_
    cases h
    exact aw_iret C rfl rfl dX9_count_86 (Nat.le_refl _) (Nat.le_refl _) ⟨rfl, rfl, rfl⟩
  · rw [if_neg q] at h
    have q0 := q
    by_cases q : v1 = (1 : Int32)
    · rw [if_pos q] at h
      rw [q]
      refine aw_tabIn C (off := 81) 87 dX9_count_6 (by decide) (by decide) (by decide) (by decide) ?_
      refine aw_ald_n C dX9_count_87 rfl ?_
      refine aw_get C (v := .ref (rAid 1)) gf_X9_7 (hm_M f (rSf σ 0 (0 : Int32))) rfl dX9_count_88 ?_
      refine aw_iconst C 1 dX9_count_91 ki_1 ?_
      obtain ⟨hb2, h⟩ := ck_some h
      refine am_iald C (rGa σ 1 (1 : Int32)) rfl (inb_vp hb2) rfl dX9_count_92 ?_
      cases h
      exact aw_iret C rfl rfl dX9_count_93 (Nat.le_refl _) (Nat.le_refl _) ⟨rfl, rfl, rfl⟩
    · rw [if_neg q] at h
      have q1 := q
      by_cases q : v1 = (2 : Int32)
      · rw [if_pos q] at h
        rw [q]
        refine aw_tabIn C (off := 88) 94 dX9_count_6 (by decide) (by decide) (by decide) (by decide) ?_
        refine aw_ald_n C dX9_count_94 rfl ?_
        refine aw_get C (v := .ref (rAid 1)) gf_X9_7 (hm_M f (rSf σ 0 (0 : Int32))) rfl dX9_count_95 ?_
        refine aw_iconst C 2 dX9_count_98 ki_2 ?_
        obtain ⟨hb3, h⟩ := ck_some h
        refine am_iald C (rGa σ 1 (2 : Int32)) rfl (inb_vp hb3) rfl dX9_count_99 ?_
        cases h
        exact aw_iret C rfl rfl dX9_count_100 (Nat.le_refl _) (Nat.le_refl _) ⟨rfl, rfl, rfl⟩
      · rw [if_neg q] at h
        have q2 := q
        by_cases q : v1 = (3 : Int32)
        · rw [if_pos q] at h
          rw [q]
          refine aw_tabIn C (off := 95) 101 dX9_count_6 (by decide) (by decide) (by decide) (by decide) ?_
          refine aw_ald_n C dX9_count_101 rfl ?_
          refine aw_get C (v := .int (σ.1 33)) gf_X9_204 (hm_M f (rSf σ 0 (0 : Int32))) rfl dX9_count_102 ?_
          cases h
          exact aw_iret C rfl rfl dX9_count_105 (Nat.le_refl _) (Nat.le_refl _) ⟨rfl, rfl, rfl⟩
        · rw [if_neg q] at h
          have q3 := q
          by_cases q : v1 = (4 : Int32)
          · rw [if_pos q] at h
            rw [q]
            refine aw_tabIn C (off := 100) 106 dX9_count_6 (by decide) (by decide) (by decide) (by decide) ?_
            refine aw_ald_n C dX9_count_106 rfl ?_
            obtain ⟨r4, h4, h⟩ := Option.bind_eq_some_iff.mp h
            refine aw_callV C (ci := 9) (b := 181) [] mv_X9_319 rfl rfl (hm_M f (rSf σ 0 (0 : Int32))) (rmX9_toldMany h4) rfl dX9_count_107 (Nat.le_of_ble_eq_true rfl) (Nat.le_of_ble_eq_true rfl) rfl (Nat.le_of_ble_eq_true rfl) (Nat.le_of_ble_eq_true rfl) (Nat.le_of_ble_eq_true rfl) (fun v9 f9 n9 hh => ?_)
            obtain ⟨rfl, rfl, rfl⟩ := hh
            cases h
            exact aw_iret C rfl rfl dX9_count_110 (Nat.le_refl _) (Nat.le_refl _) ⟨rfl, rfl, rfl⟩
          · rw [if_neg q] at h
            have q4 := q
            by_cases q : v1 = (5 : Int32)
            · rw [if_pos q] at h
              rw [q]
              refine aw_tabIn C (off := 105) 111 dX9_count_6 (by decide) (by decide) (by decide) (by decide) ?_
              refine aw_ald_n C dX9_count_111 rfl ?_
              obtain ⟨r5, h5, h⟩ := Option.bind_eq_some_iff.mp h
              refine aw_callV C (ci := 9) (b := 181) [] mv_X9_300 rfl rfl (hm_M f (rSf σ 0 (0 : Int32))) (rmX9_builtMany h5) rfl dX9_count_112 (Nat.le_of_ble_eq_true rfl) (Nat.le_of_ble_eq_true rfl) rfl (Nat.le_of_ble_eq_true rfl) (Nat.le_of_ble_eq_true rfl) (Nat.le_of_ble_eq_true rfl) (fun v9 f9 n9 hh => ?_)
              obtain ⟨rfl, rfl, rfl⟩ := hh
              cases h
              exact aw_iret C rfl rfl dX9_count_115 (Nat.le_refl _) (Nat.le_refl _) ⟨rfl, rfl, rfl⟩
            · rw [if_neg q] at h
              have q5 := q
              by_cases q : v1 = (6 : Int32)
              · rw [if_pos q] at h
                rw [q]
                refine aw_tabIn C (off := 110) 116 dX9_count_6 (by decide) (by decide) (by decide) (by decide) ?_
                refine aw_ald_n C dX9_count_116 rfl ?_
                obtain ⟨r6, h6, h⟩ := Option.bind_eq_some_iff.mp h
                refine aw_callV C (ci := 9) (b := 181) [] mv_X9_472 rfl rfl (hm_M f (rSf σ 0 (0 : Int32))) (rmX9_skeleton h6) rfl dX9_count_117 (Nat.le_of_ble_eq_true rfl) (Nat.le_of_ble_eq_true rfl) rfl (Nat.le_of_ble_eq_true rfl) (Nat.le_of_ble_eq_true rfl) (Nat.le_of_ble_eq_true rfl) (fun v9 f9 n9 hh => ?_)
                obtain ⟨rfl, rfl, rfl⟩ := hh
                cases h
                exact aw_iret C rfl rfl dX9_count_120 (Nat.le_refl _) (Nat.le_refl _) ⟨rfl, rfl, rfl⟩
              · rw [if_neg q] at h
                have q6 := q
                by_cases q : v1 = (7 : Int32)
                · rw [if_pos q] at h
                  rw [q]
                  refine aw_tabIn C (off := 115) 121 dX9_count_6 (by decide) (by decide) (by decide) (by decide) ?_
                  refine aw_ald_n C dX9_count_121 rfl ?_
                  refine aw_get C (v := .ref (rAid 1)) gf_X9_7 (hm_M f (rSf σ 0 (0 : Int32))) rfl dX9_count_122 ?_
                  refine aw_iconst C 3 dX9_count_125 ki_3 ?_
                  obtain ⟨hb7, h⟩ := ck_some h
                  refine am_iald C (rGa σ 1 (3 : Int32)) rfl (inb_vp hb7) rfl dX9_count_126 ?_
                  cases h
                  exact aw_iret C rfl rfl dX9_count_127 (Nat.le_refl _) (Nat.le_refl _) ⟨rfl, rfl, rfl⟩
                · rw [if_neg q] at h
                  have q7 := q
                  by_cases q : v1 = (8 : Int32)
                  · rw [if_pos q] at h
                    rw [q]
                    refine aw_tabIn C (off := 122) 128 dX9_count_6 (by decide) (by decide) (by decide) (by decide) ?_
                    refine aw_ald_n C dX9_count_128 rfl ?_
                    refine aw_get C (v := .ref (rAid 1)) gf_X9_7 (hm_M f (rSf σ 0 (0 : Int32))) rfl dX9_count_129 ?_
                    refine aw_iconst C 4 dX9_count_132 ki_4 ?_
                    obtain ⟨hb8, h⟩ := ck_some h
                    refine am_iald C (rGa σ 1 (4 : Int32)) rfl (inb_vp hb8) rfl dX9_count_133 ?_
                    cases h
                    exact aw_iret C rfl rfl dX9_count_134 (Nat.le_refl _) (Nat.le_refl _) ⟨rfl, rfl, rfl⟩
                  · rw [if_neg q] at h
                    have q8 := q
                    by_cases q : v1 = (9 : Int32)
                    · rw [if_pos q] at h
                      rw [q]
                      refine aw_tabIn C (off := 129) 135 dX9_count_6 (by decide) (by decide) (by decide) (by decide) ?_
                      refine aw_ald_n C dX9_count_135 rfl ?_
                      refine aw_get C (v := .ref (rAid 1)) gf_X9_7 (hm_M f (rSf σ 0 (0 : Int32))) rfl dX9_count_136 ?_
                      refine aw_iconst C 5 dX9_count_139 ki_5 ?_
                      obtain ⟨hb9, h⟩ := ck_some h
                      refine am_iald C (rGa σ 1 (5 : Int32)) rfl (inb_vp hb9) rfl dX9_count_140 ?_
                      cases h
                      exact aw_iret C rfl rfl dX9_count_141 (Nat.le_refl _) (Nat.le_refl _) ⟨rfl, rfl, rfl⟩
                    · rw [if_neg q] at h
                      have q9 := q
                      by_cases q : v1 = (10 : Int32)
                      · rw [if_pos q] at h
                        rw [q]
                        refine aw_tabIn C (off := 136) 142 dX9_count_6 (by decide) (by decide) (by decide) (by decide) ?_
                        refine aw_ald_n C dX9_count_142 rfl ?_
                        obtain ⟨r10, h10, h⟩ := Option.bind_eq_some_iff.mp h
                        refine aw_callV C (ci := 9) (b := 181) [] mv_X9_475 rfl rfl (hm_M f (rSf σ 0 (0 : Int32))) (rmX9_unlikeTexts h10) rfl dX9_count_143 (Nat.le_of_ble_eq_true rfl) (Nat.le_of_ble_eq_true rfl) rfl (Nat.le_of_ble_eq_true rfl) (Nat.le_of_ble_eq_true rfl) (Nat.le_of_ble_eq_true rfl) (fun v9 f9 n9 hh => ?_)
                        obtain ⟨rfl, rfl, rfl⟩ := hh
                        cases h
                        exact aw_iret C rfl rfl dX9_count_146 (Nat.le_refl _) (Nat.le_refl _) ⟨rfl, rfl, rfl⟩
                      · rw [if_neg q] at h
                        have q10 := q
                        by_cases q : v1 = (11 : Int32)
                        · rw [if_pos q] at h
                          rw [q]
                          refine aw_tabIn C (off := 141) 147 dX9_count_6 (by decide) (by decide) (by decide) (by decide) ?_
                          refine aw_ald_n C dX9_count_147 rfl ?_
                          obtain ⟨r11, h11, h⟩ := Option.bind_eq_some_iff.mp h
                          refine aw_callV C (ci := 9) (b := 181) [] mv_X9_478 rfl rfl (hm_M f (rSf σ 0 (0 : Int32))) (rmX9_allWords h11) rfl dX9_count_148 (Nat.le_of_ble_eq_true rfl) (Nat.le_of_ble_eq_true rfl) rfl (Nat.le_of_ble_eq_true rfl) (Nat.le_of_ble_eq_true rfl) (Nat.le_of_ble_eq_true rfl) (fun v9 f9 n9 hh => ?_)
                          obtain ⟨rfl, rfl, rfl⟩ := hh
                          cases h
                          exact aw_iret C rfl rfl dX9_count_151 (Nat.le_refl _) (Nat.le_refl _) ⟨rfl, rfl, rfl⟩
                        · rw [if_neg q] at h
                          have q11 := q
                          by_cases q : v1 = (12 : Int32)
                          · rw [if_pos q] at h
                            rw [q]
                            refine aw_tabIn C (off := 146) 152 dX9_count_6 (by decide) (by decide) (by decide) (by decide) ?_
                            refine aw_ald_n C dX9_count_152 rfl ?_
                            refine aw_get C (v := .ref (rAid 1)) gf_X9_7 (hm_M f (rSf σ 0 (0 : Int32))) rfl dX9_count_153 ?_
                            refine aw_bipush C 42 dX9_count_156 kb_42 ?_
                            obtain ⟨hb12, h⟩ := ck_some h
                            refine am_iald C (rGa σ 1 (42 : Int32)) rfl (inb_vp hb12) rfl dX9_count_158 ?_
                            cases h
                            exact aw_iret C rfl rfl dX9_count_159 (Nat.le_refl _) (Nat.le_refl _) ⟨rfl, rfl, rfl⟩
                          · rw [if_neg q] at h
                            have q12 := q
                            by_cases q : v1 = (13 : Int32)
                            · rw [if_pos q] at h
                              rw [q]
                              refine aw_tabIn C (off := 154) 160 dX9_count_6 (by decide) (by decide) (by decide) (by decide) ?_
                              refine aw_ald_n C dX9_count_160 rfl ?_
                              obtain ⟨r13, h13, h⟩ := Option.bind_eq_some_iff.mp h
                              refine aw_callV C (ci := 9) (b := 181) [] mv_X9_481 rfl rfl (hm_M f (rSf σ 0 (0 : Int32))) (rmX9_longest h13) rfl dX9_count_161 (Nat.le_of_ble_eq_true rfl) (Nat.le_of_ble_eq_true rfl) rfl (Nat.le_of_ble_eq_true rfl) (Nat.le_of_ble_eq_true rfl) (Nat.le_of_ble_eq_true rfl) (fun v9 f9 n9 hh => ?_)
                              obtain ⟨rfl, rfl, rfl⟩ := hh
                              cases h
                              exact aw_iret C rfl rfl dX9_count_164 (Nat.le_refl _) (Nat.le_refl _) ⟨rfl, rfl, rfl⟩
                            · rw [if_neg q] at h
                              have q13 := q
                              by_cases q : v1 = (14 : Int32)
                              · rw [if_pos q] at h
                                rw [q]
                                refine aw_tabIn C (off := 159) 165 dX9_count_6 (by decide) (by decide) (by decide) (by decide) ?_
                                refine aw_ald_n C dX9_count_165 rfl ?_
                                refine aw_get C (v := .int (σ.1 5)) gf_X9_325 (hm_M f (rSf σ 0 (0 : Int32))) rfl dX9_count_166 ?_
                                cases h
                                exact aw_iret C rfl rfl dX9_count_169 (Nat.le_refl _) (Nat.le_refl _) ⟨rfl, rfl, rfl⟩
                              · rw [if_neg q] at h
                                have q14 := q
                                refine aw_tabOut C 170 dX9_count_6 (sw_out15 q0 q1 q2 q3 q4 q5 q6 q7 q8 q9 q10 q11 q12 q13 q14) (by decide) ?_
                                refine aw_iconst C (-1) dX9_count_170 ki_m1 ?_
                                cases h
                                exact aw_iret C rfl rfl dX9_count_171 (Nat.le_refl _) (Nat.le_refl _) ⟨rfl, rfl, rfl⟩
