/-! part 22cj.ref -/
section
def mX9_back_l16 : Nat → Int32 → RS9 → Option (Int32 × RS9)
  | 0, _, _ => none
  | d + 1, v1, σ => (if (4347 : Int32) ≤ v1 then ((mX9_cutsFile σ).bind fun r1 => rCk (rNb (1 : Int32)) (some ((1 : Int32), (rSf r1.2 5 (0 : Int32))))) else rCk (rIn v1 (rLen 3)) (rCk (rIn v1 (rLen 1)) (mX9_back_l16 d (v1 + (1 : Int32)) (rSa σ 1 v1 (rGa σ 3 v1)))))
set_option maxHeartbeats 1000000 in
theorem rmX9_back_l16 {X : GX} {p : Program} {l : Launch} {e : Env} {s : State} {m : MethodId} {args : Array Value} {below : List Frame} {meth : Method} {c : Code} {f : AH} {n : Nat} {r : Int32 × RS9} (C : CC X p l (RM 9 0 0) s m args meth c RX9 cX9_back 2 (some .boolean)) : ∀ (d : Nat) (v1 : Int32) (σ : RS9) (_ : mX9_back_l16 d v1 σ = some r), AW X p l e (RM 9 0 0) s m args below meth c 2 (ZM X below args s 0 0 (QMi f n r)) (rHm f σ) n 0 0 16 [some (.ref 181), some (.int v1)] [] := by
  intro d
  induction d with
  | zero =>
    intro v1 σ h
    exact nomatch (show (none : Option (Int32 × RS9)) = some r from h)
  | succ d ih =>
    intro v1 σ h
    have h : (if (4347 : Int32) ≤ v1 then ((mX9_cutsFile σ).bind fun r1 => rCk (rNb (1 : Int32)) (some ((1 : Int32), (rSf r1.2 5 (0 : Int32))))) else rCk (rIn v1 (rLen 3)) (rCk (rIn v1 (rLen 1)) (mX9_back_l16 d (v1 + (1 : Int32)) (rSa σ 1 v1 (rGa σ 3 v1))))) = some r := h
    refine aw_iload_n C dX9_back_16 rfl ?_
    refine aw_sipush C 4347 dX9_back_17 ks_4347 ?_
    refine aw_icmp_ge C 41 dX9_back_20 (by decide) (fun q => ?_) (fun q => ?_)
    · rw [if_pos q] at h
      refine aw_ald_n C dX9_back_41 rfl ?_
      obtain ⟨r1, h1, h⟩ := Option.bind_eq_some_iff.mp h
      refine aw_callV C (ci := 9) (b := 181) [] mv_X9_244 rfl rfl (hm_M f σ) (rmX9_cutsFile h1) rfl dX9_back_42 (Nat.le_of_ble_eq_true rfl) (Nat.le_of_ble_eq_true rfl) rfl (Nat.le_of_ble_eq_true rfl) (Nat.le_of_ble_eq_true rfl) (Nat.le_of_ble_eq_true rfl) (fun v9 f9 n9 hh => ?_)
      obtain ⟨rfl, rfl, rfl⟩ := hh
      refine aw_ald_n C dX9_back_45 rfl ?_
      refine aw_iconst C 0 dX9_back_46 ki_0 ?_
      refine am_put C gf_X9_325 nf9_5 rfl rfl dX9_back_47 ?_
      refine aw_iconst C 1 dX9_back_50 ki_1 ?_
      obtain ⟨hb2, h⟩ := ck_some h
      cases h
      exact aw_iret C rfl (nb_nar hb2) dX9_back_51 (Nat.le_refl _) (Nat.le_refl _) ⟨rfl, rfl, rfl⟩
    · rw [if_neg q] at h
      refine aw_ald_n C dX9_back_23 rfl ?_
      refine aw_get C (v := .ref (rAid 1)) gf_X9_7 (hm_M f σ) rfl dX9_back_24 ?_
      refine aw_iload_n C dX9_back_27 rfl ?_
      refine aw_ald_n C dX9_back_28 rfl ?_
      refine aw_get C (v := .ref (rAid 3)) gf_X9_16 (hm_M f σ) rfl dX9_back_29 ?_
      refine aw_iload_n C dX9_back_32 rfl ?_
      obtain ⟨hb3, h⟩ := ck_some h
      refine am_iald C (rGa σ 3 v1) rfl (inb_vp hb3) rfl dX9_back_33 ?_
      obtain ⟨hb4, h⟩ := ck_some h
      refine am_iast C rfl (inb_vp hb4) dX9_back_34 ?_
      refine aw_iinc C (v1 + (1 : Int32)) dX9_back_35 rfl (by rw [ki_1]) (by decide) rfl ?_
      refine aw_nl [some (.ref 181), some (.int (v1 + (1 : Int32)))] rfl ?_
      refine aw_goto C 16 dX9_back_38 (by decide) ?_
      refine aw_fl [some (.ref 181), some (.int (v1 + (1 : Int32)))] ⟨rfl, ⟨rfl, trivial⟩⟩ ?_
      exact ih (v1 + (1 : Int32)) (rSa σ 1 v1 (rGa σ 3 v1)) h
def mX9_back (σ : RS9) : Option (Int32 × RS9) := (if (σ.1 6) = (0 : Int32) then rCk (rNb (0 : Int32)) (some ((0 : Int32), (rSf σ 0 (0 : Int32)))) else mX9_back_l16 rFU (0 : Int32) (rSf σ 0 (0 : Int32)))
set_option maxHeartbeats 1000000 in
theorem rmX9_back {X : GX} {l : Launch} {f : AH} {n : Nat} {r : Int32 × RS9} {σ : RS9} (h : mX9_back σ = some r) : AM X l yX9_back cX9_back 2 (some .boolean) 9 0 0 [.ref 181] (rHm f σ) n (QMi f n r) := by
  have h : (if (σ.1 6) = (0 : Int32) then rCk (rNb (0 : Int32)) (some ((0 : Int32), (rSf σ 0 (0 : Int32)))) else mX9_back_l16 rFU (0 : Int32) (rSf σ 0 (0 : Int32))) = some r := h
  refine AM.of (by decide +kernel) rfl (Nat.le_of_ble_eq_true rfl) (fun p e s m args below meth c C _ => ?_)
  refine aw_nl [some (.ref 181), none] rfl ?_
  refine aw_ald_n C dX9_back_0 rfl ?_
  refine aw_iconst C 0 dX9_back_1 ki_0 ?_
  refine am_put C gf_X9_138 nf9_0 rfl rfl dX9_back_2 ?_
  refine aw_ald_n C dX9_back_5 rfl ?_
  refine aw_get C (v := .int (σ.1 6)) gf_X9_468 (hm_M f (rSf σ 0 (0 : Int32))) rfl dX9_back_6 ?_
  refine aw_if_ne C 14 dX9_back_9 (by decide) (fun q => ?_) (fun q => ?_)
  · rw [if_neg q] at h
    refine aw_iconst C 0 dX9_back_14 ki_0 ?_
    refine aw_istore_n C dX9_back_15 (by decide) rfl ?_
    refine aw_nl [some (.ref 181), some (.int (0 : Int32))] rfl ?_
    refine aw_fl [some (.ref 181), some (.int (0 : Int32))] ⟨rfl, ⟨rfl, trivial⟩⟩ ?_
    exact rmX9_back_l16 C rFU (0 : Int32) (rSf σ 0 (0 : Int32)) h
  · rw [if_pos q] at h
    refine aw_iconst C 0 dX9_back_12 ki_0 ?_
    obtain ⟨hb1, h⟩ := ck_some h
    cases h
    exact aw_iret C rfl (nb_nar hb1) dX9_back_13 (Nat.le_refl _) (Nat.le_refl _) ⟨rfl, rfl, rfl⟩
def mX9_count (v1 : Int32) (σ : RS9) : Option (Int32 × RS9) := (if v1 = (0 : Int32) then rCk (rIn (0 : Int32) (rLen 1)) (some ((rGa σ 1 (0 : Int32)), (rSf σ 0 (0 : Int32)))) else if v1 = (1 : Int32) then rCk (rIn (1 : Int32) (rLen 1)) (some ((rGa σ 1 (1 : Int32)), (rSf σ 0 (0 : Int32)))) else if v1 = (2 : Int32) then rCk (rIn (2 : Int32) (rLen 1)) (some ((rGa σ 1 (2 : Int32)), (rSf σ 0 (0 : Int32)))) else if v1 = (3 : Int32) then some ((σ.1 33), (rSf σ 0 (0 : Int32))) else if v1 = (4 : Int32) then ((mX9_toldMany (rSf σ 0 (0 : Int32))).bind fun r4 => some (r4.1, r4.2)) else if v1 = (5 : Int32) then ((mX9_builtMany (rSf σ 0 (0 : Int32))).bind fun r5 => some (r5.1, r5.2)) else if v1 = (6 : Int32) then ((mX9_skeleton (rSf σ 0 (0 : Int32))).bind fun r6 => some (r6.1, r6.2)) else if v1 = (7 : Int32) then rCk (rIn (3 : Int32) (rLen 1)) (some ((rGa σ 1 (3 : Int32)), (rSf σ 0 (0 : Int32)))) else if v1 = (8 : Int32) then rCk (rIn (4 : Int32) (rLen 1)) (some ((rGa σ 1 (4 : Int32)), (rSf σ 0 (0 : Int32)))) else if v1 = (9 : Int32) then rCk (rIn (5 : Int32) (rLen 1)) (some ((rGa σ 1 (5 : Int32)), (rSf σ 0 (0 : Int32)))) else if v1 = (10 : Int32) then ((mX9_unlikeTexts (rSf σ 0 (0 : Int32))).bind fun r10 => some (r10.1, r10.2)) else if v1 = (11 : Int32) then ((mX9_allWords (rSf σ 0 (0 : Int32))).bind fun r11 => some (r11.1, r11.2)) else if v1 = (12 : Int32) then rCk (rIn (42 : Int32) (rLen 1)) (some ((rGa σ 1 (42 : Int32)), (rSf σ 0 (0 : Int32)))) else if v1 = (13 : Int32) then ((mX9_longest (rSf σ 0 (0 : Int32))).bind fun r13 => some (r13.1, r13.2)) else if v1 = (14 : Int32) then some ((σ.1 5), (rSf σ 0 (0 : Int32))) else some ((-1 : Int32), (rSf σ 0 (0 : Int32))))
set_option maxHeartbeats 1000000 in
theorem rmX9_count {X : GX} {l : Launch} {f : AH} {n : Nat} {r : Int32 × RS9} {v1 : Int32} {σ : RS9} (h : mX9_count v1 σ = some r) : AM X l yX9_count cX9_count 2 (some .int) 10 0 0 [.ref 181, .int v1] (rHm f σ) n (QMi f n r) := by
  have h : (if v1 = (0 : Int32) then rCk (rIn (0 : Int32) (rLen 1)) (some ((rGa σ 1 (0 : Int32)), (rSf σ 0 (0 : Int32)))) else if v1 = (1 : Int32) then rCk (rIn (1 : Int32) (rLen 1)) (some ((rGa σ 1 (1 : Int32)), (rSf σ 0 (0 : Int32)))) else if v1 = (2 : Int32) then rCk (rIn (2 : Int32) (rLen 1)) (some ((rGa σ 1 (2 : Int32)), (rSf σ 0 (0 : Int32)))) else if v1 = (3 : Int32) then some ((σ.1 33), (rSf σ 0 (0 : Int32))) else if v1 = (4 : Int32) then ((mX9_toldMany (rSf σ 0 (0 : Int32))).bind fun r4 => some (r4.1, r4.2)) else if v1 = (5 : Int32) then ((mX9_builtMany (rSf σ 0 (0 : Int32))).bind fun r5 => some (r5.1, r5.2)) else if v1 = (6 : Int32) then ((mX9_skeleton (rSf σ 0 (0 : Int32))).bind fun r6 => some (r6.1, r6.2)) else if v1 = (7 : Int32) then rCk (rIn (3 : Int32) (rLen 1)) (some ((rGa σ 1 (3 : Int32)), (rSf σ 0 (0 : Int32)))) else if v1 = (8 : Int32) then rCk (rIn (4 : Int32) (rLen 1)) (some ((rGa σ 1 (4 : Int32)), (rSf σ 0 (0 : Int32)))) else if v1 = (9 : Int32) then rCk (rIn (5 : Int32) (rLen 1)) (some ((rGa σ 1 (5 : Int32)), (rSf σ 0 (0 : Int32)))) else if v1 = (10 : Int32) then ((mX9_unlikeTexts (rSf σ 0 (0 : Int32))).bind fun r10 => some (r10.1, r10.2)) else if v1 = (11 : Int32) then ((mX9_allWords (rSf σ 0 (0 : Int32))).bind fun r11 => some (r11.1, r11.2)) else if v1 = (12 : Int32) then rCk (rIn (42 : Int32) (rLen 1)) (some ((rGa σ 1 (42 : Int32)), (rSf σ 0 (0 : Int32)))) else if v1 = (13 : Int32) then ((mX9_longest (rSf σ 0 (0 : Int32))).bind fun r13 => some (r13.1, r13.2)) else if v1 = (14 : Int32) then some ((σ.1 5), (rSf σ 0 (0 : Int32))) else some ((-1 : Int32), (rSf σ 0 (0 : Int32)))) = some r := h
  refine AM.of (by decide +kernel) rfl (Nat.le_of_ble_eq_true rfl) (fun p e s m args below meth c C _ => ?_)
  refine aw_nl [some (.ref 181), some (.int v1)] rfl ?_
  refine aw_ald_n C dX9_count_0 rfl ?_
  refine aw_iconst C 0 dX9_count_1 ki_0 ?_
  refine am_put C gf_X9_138 nf9_0 rfl rfl dX9_count_2 ?_
  refine aw_iload_n C dX9_count_5 rfl ?_
  by_cases q : v1 = (0 : Int32)
  · rw [if_pos q] at h
    rw [q]
    refine aw_tabIn C (off := 74) 80 dX9_count_6 (by decide) (by decide) (by decide) (by decide) ?_
    refine aw_ald_n C dX9_count_80 rfl ?_
    refine aw_get C (v := .ref (rAid 1)) gf_X9_7 (hm_M f (rSf σ 0 (0 : Int32))) rfl dX9_count_81 ?_
    refine aw_iconst C 0 dX9_count_84 ki_0 ?_
    obtain ⟨hb1, h⟩ := ck_some h
    refine am_iald C (rGa σ 1 (0 : Int32)) rfl (inb_vp hb1) rfl dX9_count_85 ?_
    cases h
    exact aw_iret C rfl rfl dX9_count_86 (Nat.le_refl _) (Nat.le_refl _) ⟨rfl, rfl, rfl⟩
  · rw [if_neg q] at h
    have q0 := q
    by_cases q : v1 = (1 : Int32)
    · rw [if_pos q] at h
      rw [q]
      refine aw_tabIn C (off := 81) 87 dX9_count_6 (by decide) (by decide) (by decide) (by decide) ?_
      refine aw_ald_n C dX9_count_87 rfl ?_
      refine aw_get C (v := .ref (rAid 1)) gf_X9_7 (hm_M f (rSf σ 0 (0 : Int32))) rfl dX9_count_88 ?_
      refine aw_iconst C 1 dX9_count_91 ki_1 ?_
      obtain ⟨hb2, h⟩ := ck_some h
      refine am_iald C (rGa σ 1 (1 : Int32)) rfl (inb_vp hb2) rfl dX9_count_92 ?_
      cases h
      exact aw_iret C rfl rfl dX9_count_93 (Nat.le_refl _) (Nat.le_refl _) ⟨rfl, rfl, rfl⟩
    · rw [if_neg q] at h
      have q1 := q
      by_cases q : v1 = (2 : Int32)
      · rw [if_pos q] at h
        rw [q]
        refine aw_tabIn C (off := 88) 94 dX9_count_6 (by decide) (by decide) (by decide) (by decide) ?_
        refine aw_ald_n C dX9_count_94 rfl ?_
        refine aw_get C (v := .ref (rAid 1)) gf_X9_7 (hm_M f (rSf σ 0 (0 : Int32))) rfl dX9_count_95 ?_
        refine aw_iconst C 2 dX9_count_98 ki_2 ?_
        obtain ⟨hb3, h⟩ := ck_some h
        refine am_iald C (rGa σ 1 (2 : Int32)) rfl (inb_vp hb3) rfl dX9_count_99 ?_
        cases h
        exact aw_iret C rfl rfl dX9_count_100 (Nat.le_refl _) (Nat.le_refl _) ⟨rfl, rfl, rfl⟩
      · rw [if_neg q] at h
        have q2 := q
        by_cases q : v1 = (3 : Int32)
        · rw [if_pos q] at h
          rw [q]
          refine aw_tabIn C (off := 95) 101 dX9_count_6 (by decide) (by decide) (by decide) (by decide) ?_
          refine aw_ald_n C dX9_count_101 rfl ?_
          refine aw_get C (v := .int (σ.1 33)) gf_X9_204 (hm_M f (rSf σ 0 (0 : Int32))) rfl dX9_count_102 ?_
          cases h
          exact aw_iret C rfl rfl dX9_count_105 (Nat.le_refl _) (Nat.le_refl _) ⟨rfl, rfl, rfl⟩
        · rw [if_neg q] at h
          have q3 := q
          by_cases q : v1 = (4 : Int32)
          · rw [if_pos q] at h
            rw [q]
            refine aw_tabIn C (off := 100) 106 dX9_count_6 (by decide) (by decide) (by decide) (by decide) ?_
            refine aw_ald_n C dX9_count_106 rfl ?_
            obtain ⟨r4, h4, h⟩ := Option.bind_eq_some_iff.mp h
            refine aw_callV C (ci := 9) (b := 181) [] mv_X9_319 rfl rfl (hm_M f (rSf σ 0 (0 : Int32))) (rmX9_toldMany h4) rfl dX9_count_107 (Nat.le_of_ble_eq_true rfl) (Nat.le_of_ble_eq_true rfl) rfl (Nat.le_of_ble_eq_true rfl) (Nat.le_of_ble_eq_true rfl) (Nat.le_of_ble_eq_true rfl) (fun v9 f9 n9 hh => ?_)
            obtain ⟨rfl, rfl, rfl⟩ := hh
            cases h
            exact aw_iret C rfl rfl dX9_count_110 (Nat.le_refl _) (Nat.le_refl _) ⟨rfl, rfl, rfl⟩
          · rw [if_neg q] at h
            have q4 := q
            by_cases q : v1 = (5 : Int32)
            · rw [if_pos q] at h
              rw [q]
              refine aw_tabIn C (off := 105) 111 dX9_count_6 (by decide) (by decide) (by decide) (by decide) ?_
              refine aw_ald_n C dX9_count_111 rfl ?_
              obtain ⟨r5, h5, h⟩ := Option.bind_eq_some_iff.mp h
              refine aw_callV C (ci := 9) (b := 181) [] mv_X9_300 rfl rfl (hm_M f (rSf σ 0 (0 : Int32))) (rmX9_builtMany h5) rfl dX9_count_112 (Nat.le_of_ble_eq_true rfl) (Nat.le_of_ble_eq_true rfl) rfl (Nat.le_of_ble_eq_true rfl) (Nat.le_of_ble_eq_true rfl) (Nat.le_of_ble_eq_true rfl) (fun v9 f9 n9 hh => ?_)
              obtain ⟨rfl, rfl, rfl⟩ := hh
              cases h
              exact aw_iret C rfl rfl dX9_count_115 (Nat.le_refl _) (Nat.le_refl _) ⟨rfl, rfl, rfl⟩
            · rw [if_neg q] at h
              have q5 := q
              by_cases q : v1 = (6 : Int32)
              · rw [if_pos q] at h
                rw [q]
                refine aw_tabIn C (off := 110) 116 dX9_count_6 (by decide) (by decide) (by decide) (by decide) ?_
                refine aw_ald_n C dX9_count_116 rfl ?_
                obtain ⟨r6, h6, h⟩ := Option.bind_eq_some_iff.mp h
                refine aw_callV C (ci := 9) (b := 181) [] mv_X9_472 rfl rfl (hm_M f (rSf σ 0 (0 : Int32))) (rmX9_skeleton h6) rfl dX9_count_117 (Nat.le_of_ble_eq_true rfl) (Nat.le_of_ble_eq_true rfl) rfl (Nat.le_of_ble_eq_true rfl) (Nat.le_of_ble_eq_true rfl) (Nat.le_of_ble_eq_true rfl) (fun v9 f9 n9 hh => ?_)
                obtain ⟨rfl, rfl, rfl⟩ := hh
                cases h
                exact aw_iret C rfl rfl dX9_count_120 (Nat.le_refl _) (Nat.le_refl _) ⟨rfl, rfl, rfl⟩
              · rw [if_neg q] at h
                have q6 := q
                by_cases q : v1 = (7 : Int32)
                · rw [if_pos q] at h
                  rw [q]
                  refine aw_tabIn C (off := 115) 121 dX9_count_6 (by decide) (by decide) (by decide) (by decide) ?_
                  refine aw_ald_n C dX9_count_121 rfl ?_
                  refine aw_get C (v := .ref (rAid 1)) gf_X9_7 (hm_M f (rSf σ 0 (0 : Int32))) rfl dX9_count_122 ?_
                  refine aw_iconst C 3 dX9_count_125 ki_3 ?_
                  obtain ⟨hb7, h⟩ := ck_some h
                  refine am_iald C (rGa σ 1 (3 : Int32)) rfl (inb_vp hb7) rfl dX9_count_126 ?_
                  cases h
                  exact aw_iret C rfl rfl dX9_count_127 (Nat.le_refl _) (Nat.le_refl _) ⟨rfl, rfl, rfl⟩
                · rw [if_neg q] at h
                  have q7 := q
                  by_cases q : v1 = (8 : Int32)
                  · rw [if_pos q] at h
                    rw [q]
                    refine aw_tabIn C (off := 122) 128 dX9_count_6 (by decide) (by decide) (by decide) (by decide) ?_
                    refine aw_ald_n C dX9_count_128 rfl ?_
                    refine aw_get C (v := .ref (rAid 1)) gf_X9_7 (hm_M f (rSf σ 0 (0 : Int32))) rfl dX9_count_129 ?_
                    refine aw_iconst C 4 dX9_count_132 ki_4 ?_
                    obtain ⟨hb8, h⟩ := ck_some h
                    refine am_iald C (rGa σ 1 (4 : Int32)) rfl (inb_vp hb8) rfl dX9_count_133 ?_
                    cases h
                    exact aw_iret C rfl rfl dX9_count_134 (Nat.le_refl _) (Nat.le_refl _) ⟨rfl, rfl, rfl⟩
                  · rw [if_neg q] at h
                    have q8 := q
                    by_cases q : v1 = (9 : Int32)
                    · rw [if_pos q] at h
                      rw [q]
                      refine aw_tabIn C (off := 129) 135 dX9_count_6 (by decide) (by decide) (by decide) (by decide) ?_
                      refine aw_ald_n C dX9_count_135 rfl ?_
                      refine aw_get C (v := .ref (rAid 1)) gf_X9_7 (hm_M f (rSf σ 0 (0 : Int32))) rfl dX9_count_136 ?_
                      refine aw_iconst C 5 dX9_count_139 ki_5 ?_
                      obtain ⟨hb9, h⟩ := ck_some h
                      refine am_iald C (rGa σ 1 (5 : Int32)) rfl (inb_vp hb9) rfl dX9_count_140 ?_
                      cases h
                      exact aw_iret C rfl rfl dX9_count_141 (Nat.le_refl _) (Nat.le_refl _) ⟨rfl, rfl, rfl⟩
                    · rw [if_neg q] at h
                      have q9 := q
                      by_cases q : v1 = (10 : Int32)
                      · rw [if_pos q] at h
                        rw [q]
                        refine aw_tabIn C (off := 136) 142 dX9_count_6 (by decide) (by decide) (by decide) (by decide) ?_
                        refine aw_ald_n C dX9_count_142 rfl ?_
                        obtain ⟨r10, h10, h⟩ := Option.bind_eq_some_iff.mp h
                        refine aw_callV C (ci := 9) (b := 181) [] mv_X9_475 rfl rfl (hm_M f (rSf σ 0 (0 : Int32))) (rmX9_unlikeTexts h10) rfl dX9_count_143 (Nat.le_of_ble_eq_true rfl) (Nat.le_of_ble_eq_true rfl) rfl (Nat.le_of_ble_eq_true rfl) (Nat.le_of_ble_eq_true rfl) (Nat.le_of_ble_eq_true rfl) (fun v9 f9 n9 hh => ?_)
                        obtain ⟨rfl, rfl, rfl⟩ := hh
                        cases h
                        exact aw_iret C rfl rfl dX9_count_146 (Nat.le_refl _) (Nat.le_refl _) ⟨rfl, rfl, rfl⟩
                      · rw [if_neg q] at h
                        have q10 := q
                        by_cases q : v1 = (11 : Int32)
                        · rw [if_pos q] at h
                          rw [q]
                          refine aw_tabIn C (off := 141) 147 dX9_count_6 (by decide) (by decide) (by decide) (by decide) ?_
                          refine aw_ald_n C dX9_count_147 rfl ?_
                          obtain ⟨r11, h11, h⟩ := Option.bind_eq_some_iff.mp h
                          refine aw_callV C (ci := 9) (b := 181) [] mv_X9_478 rfl rfl (hm_M f (rSf σ 0 (0 : Int32))) (rmX9_allWords h11) rfl dX9_count_148 (Nat.le_of_ble_eq_true rfl) (Nat.le_of_ble_eq_true rfl) rfl (Nat.le_of_ble_eq_true rfl) (Nat.le_of_ble_eq_true rfl) (Nat.le_of_ble_eq_true rfl) (fun v9 f9 n9 hh => ?_)
                          obtain ⟨rfl, rfl, rfl⟩ := hh
                          cases h
                          exact aw_iret C rfl rfl dX9_count_151 (Nat.le_refl _) (Nat.le_refl _) ⟨rfl, rfl, rfl⟩
                        · rw [if_neg q] at h
                          have q11 := q
                          by_cases q : v1 = (12 : Int32)
                          · rw [if_pos q] at h
                            rw [q]
                            refine aw_tabIn C (off := 146) 152 dX9_count_6 (by decide) (by decide) (by decide) (by decide) ?_
                            refine aw_ald_n C dX9_count_152 rfl ?_
                            refine aw_get C (v := .ref (rAid 1)) gf_X9_7 (hm_M f (rSf σ 0 (0 : Int32))) rfl dX9_count_153 ?_
                            refine aw_bipush C 42 dX9_count_156 kb_42 ?_
                            obtain ⟨hb12, h⟩ := ck_some h
                            refine am_iald C (rGa σ 1 (42 : Int32)) rfl (inb_vp hb12) rfl dX9_count_158 ?_
                            cases h
                            exact aw_iret C rfl rfl dX9_count_159 (Nat.le_refl _) (Nat.le_refl _) ⟨rfl, rfl, rfl⟩
                          · rw [if_neg q] at h
                            have q12 := q
                            by_cases q : v1 = (13 : Int32)
                            · rw [if_pos q] at h
                              rw [q]
                              refine aw_tabIn C (off := 154) 160 dX9_count_6 (by decide) (by decide) (by decide) (by decide) ?_
                              refine aw_ald_n C dX9_count_160 rfl ?_
                              obtain ⟨r13, h13, h⟩ := Option.bind_eq_some_iff.mp h
                              refine aw_callV C (ci := 9) (b := 181) [] mv_X9_481 rfl rfl (hm_M f (rSf σ 0 (0 : Int32))) (rmX9_longest h13) rfl dX9_count_161 (Nat.le_of_ble_eq_true rfl) (Nat.le_of_ble_eq_true rfl) rfl (Nat.le_of_ble_eq_true rfl) (Nat.le_of_ble_eq_true rfl) (Nat.le_of_ble_eq_true rfl) (fun v9 f9 n9 hh => ?_)
                              obtain ⟨rfl, rfl, rfl⟩ := hh
                              cases h
                              exact aw_iret C rfl rfl dX9_count_164 (Nat.le_refl _) (Nat.le_refl _) ⟨rfl, rfl, rfl⟩
                            · rw [if_neg q] at h
                              have q13 := q
                              by_cases q : v1 = (14 : Int32)
                              · rw [if_pos q] at h
                                rw [q]
                                refine aw_tabIn C (off := 159) 165 dX9_count_6 (by decide) (by decide) (by decide) (by decide) ?_
                                refine aw_ald_n C dX9_count_165 rfl ?_
                                refine aw_get C (v := .int (σ.1 5)) gf_X9_325 (hm_M f (rSf σ 0 (0 : Int32))) rfl dX9_count_166 ?_
                                cases h
                                exact aw_iret C rfl rfl dX9_count_169 (Nat.le_refl _) (Nat.le_refl _) ⟨rfl, rfl, rfl⟩
                              · rw [if_neg q] at h
                                have q14 := q
                                refine aw_tabOut C 170 dX9_count_6 (sw_out15 q0 q1 q2 q3 q4 q5 q6 q7 q8 q9 q10 q11 q12 q13 q14) (by decide) ?_
                                refine aw_iconst C (-1) dX9_count_170 ki_m1 ?_
                                cases h
                                exact aw_iret C rfl rfl dX9_count_171 (Nat.le_refl _) (Nat.le_refl _) ⟨rfl, rfl, rfl⟩
end
/-! part 30a.dec -/
section
theorem kb_11 : (Int8.ofInt 11).toInt32 = 11 := by decide
theorem kb_103 : (Int8.ofInt 103).toInt32 = 103 := by decide
theorem kb_108 : (Int8.ofInt 108).toInt32 = 108 := by decide
theorem kb_109 : (Int8.ofInt 109).toInt32 = 109 := by decide
theorem kb_112 : (Int8.ofInt 112).toInt32 = 112 := by decide
theorem ki_m8 : Int32.ofInt (-8) = (-8) := by decide
theorem dX0_addDoubled_0 : decode cX0_addDoubled 0 = .ok (.iload_n 0, 1) := by decide +kernel
theorem dX0_addDoubled_1 : decode cX0_addDoubled 1 = .ok (.bipush 34, 2) := by decide +kernel
theorem dX0_addDoubled_3 : decode cX0_addDoubled 3 = .ok (.if_icmp .ne 10, 3) := by decide +kernel
theorem dX0_addDoubled_6 : decode cX0_addDoubled 6 = .ok (.aload_n 1, 1) := by decide +kernel
theorem dX0_addDoubled_7 : decode cX0_addDoubled 7 = .ok (.bipush 34, 2) := by decide +kernel
theorem dX0_addDoubled_9 : decode cX0_addDoubled 9 = .ok (.invokevirtual 93, 3) := by decide +kernel
theorem dX0_addDoubled_12 : decode cX0_addDoubled 12 = .ok (.pop, 1) := by decide +kernel
theorem dX0_addDoubled_13 : decode cX0_addDoubled 13 = .ok (.aload_n 1, 1) := by decide +kernel
theorem dX0_addDoubled_14 : decode cX0_addDoubled 14 = .ok (.iload_n 0, 1) := by decide +kernel
theorem dX0_addDoubled_15 : decode cX0_addDoubled 15 = .ok (.invokevirtual 93, 3) := by decide +kernel
theorem dX0_addDoubled_18 : decode cX0_addDoubled 18 = .ok (.pop, 1) := by decide +kernel
theorem dX0_addDoubled_19 : decode cX0_addDoubled 19 = .ok (.return_, 1) := by decide +kernel
theorem dX0_addEscaped_0 : decode cX0_addEscaped 0 = .ok (.iconst 0, 1) := by decide +kernel
theorem dX0_addEscaped_1 : decode cX0_addEscaped 1 = .ok (.istore 4, 2) := by decide +kernel
theorem dX0_addEscaped_3 : decode cX0_addEscaped 3 = .ok (.iload 4, 2) := by decide +kernel
theorem dX0_addEscaped_5 : decode cX0_addEscaped 5 = .ok (.aload_n 0, 1) := by decide +kernel
theorem dX0_addEscaped_6 : decode cX0_addEscaped 6 = .ok (.invokevirtual 57, 3) := by decide +kernel
theorem dX0_addEscaped_9 : decode cX0_addEscaped 9 = .ok (.if_icmp .ge 106, 3) := by decide +kernel
theorem dX0_addEscaped_12 : decode cX0_addEscaped 12 = .ok (.aload_n 0, 1) := by decide +kernel
theorem dX0_addEscaped_13 : decode cX0_addEscaped 13 = .ok (.iload 4, 2) := by decide +kernel
theorem dX0_addEscaped_15 : decode cX0_addEscaped 15 = .ok (.invokevirtual 104, 3) := by decide +kernel
theorem dX0_addEscaped_18 : decode cX0_addEscaped 18 = .ok (.istore 5, 2) := by decide +kernel
theorem dX0_addEscaped_20 : decode cX0_addEscaped 20 = .ok (.iload_n 2, 1) := by decide +kernel
theorem dX0_addEscaped_21 : decode cX0_addEscaped 21 = .ok (.tableswitch 81 0 3 #[31, 54, 63, 72], 31) := by decide +kernel
theorem dX0_addEscaped_52 : decode cX0_addEscaped 52 = .ok (.iload 5, 2) := by decide +kernel
theorem dX0_addEscaped_54 : decode cX0_addEscaped 54 = .ok (.aload_n 1, 1) := by decide +kernel
theorem dX0_addEscaped_55 : decode cX0_addEscaped 55 = .ok (.iload_n 3, 1) := by decide +kernel
theorem dX0_addEscaped_56 : decode cX0_addEscaped 56 = .ok (.ifCond .eq 12, 3) := by decide +kernel
theorem dX0_addEscaped_59 : decode cX0_addEscaped 59 = .ok (.iload 4, 2) := by decide +kernel
theorem dX0_addEscaped_61 : decode cX0_addEscaped 61 = .ok (.ifCond .ne 7, 3) := by decide +kernel
theorem dX0_addEscaped_64 : decode cX0_addEscaped 64 = .ok (.iconst 1, 1) := by decide +kernel
theorem dX0_addEscaped_65 : decode cX0_addEscaped 65 = .ok (.goto 4, 3) := by decide +kernel
theorem dX0_addEscaped_68 : decode cX0_addEscaped 68 = .ok (.iconst 0, 1) := by decide +kernel
theorem dX0_addEscaped_69 : decode cX0_addEscaped 69 = .ok (.invokestatic 107, 3) := by decide +kernel
theorem dX0_addEscaped_72 : decode cX0_addEscaped 72 = .ok (.goto 37, 3) := by decide +kernel
theorem dX0_addEscaped_75 : decode cX0_addEscaped 75 = .ok (.iload 5, 2) := by decide +kernel
theorem dX0_addEscaped_77 : decode cX0_addEscaped 77 = .ok (.aload_n 1, 1) := by decide +kernel
theorem dX0_addEscaped_78 : decode cX0_addEscaped 78 = .ok (.invokestatic 111, 3) := by decide +kernel
theorem dX0_addEscaped_81 : decode cX0_addEscaped 81 = .ok (.goto 28, 3) := by decide +kernel
theorem dX0_addEscaped_84 : decode cX0_addEscaped 84 = .ok (.iload 5, 2) := by decide +kernel
theorem dX0_addEscaped_86 : decode cX0_addEscaped 86 = .ok (.aload_n 1, 1) := by decide +kernel
theorem dX0_addEscaped_87 : decode cX0_addEscaped 87 = .ok (.invokestatic 115, 3) := by decide +kernel
theorem dX0_addEscaped_90 : decode cX0_addEscaped 90 = .ok (.goto 19, 3) := by decide +kernel
theorem dX0_addEscaped_93 : decode cX0_addEscaped 93 = .ok (.iload 5, 2) := by decide +kernel
theorem dX0_addEscaped_95 : decode cX0_addEscaped 95 = .ok (.aload_n 1, 1) := by decide +kernel
theorem dX0_addEscaped_96 : decode cX0_addEscaped 96 = .ok (.invokestatic 118, 3) := by decide +kernel
theorem dX0_addEscaped_99 : decode cX0_addEscaped 99 = .ok (.goto 10, 3) := by decide +kernel
theorem dX0_addEscaped_102 : decode cX0_addEscaped 102 = .ok (.aload_n 1, 1) := by decide +kernel
theorem dX0_addEscaped_103 : decode cX0_addEscaped 103 = .ok (.iload 5, 2) := by decide +kernel
theorem dX0_addEscaped_105 : decode cX0_addEscaped 105 = .ok (.invokevirtual 93, 3) := by decide +kernel
theorem dX0_addEscaped_108 : decode cX0_addEscaped 108 = .ok (.pop, 1) := by decide +kernel
theorem dX0_addEscaped_109 : decode cX0_addEscaped 109 = .ok (.iinc 4 1, 3) := by decide +kernel
theorem dX0_addEscaped_112 : decode cX0_addEscaped 112 = .ok (.goto (-109), 3) := by decide +kernel
theorem dX0_addEscaped_115 : decode cX0_addEscaped 115 = .ok (.return_, 1) := by decide +kernel
theorem dX0_addInLine_0 : decode cX0_addInLine 0 = .ok (.iload_n 0, 1) := by decide +kernel
theorem dX0_addInLine_1 : decode cX0_addInLine 1 = .ok (.bipush 92, 2) := by decide +kernel
theorem dX0_addInLine_3 : decode cX0_addInLine 3 = .ok (.if_icmp .eq 25, 3) := by decide +kernel
theorem dX0_addInLine_6 : decode cX0_addInLine 6 = .ok (.iload_n 0, 1) := by decide +kernel
theorem dX0_addInLine_7 : decode cX0_addInLine 7 = .ok (.bipush 10, 2) := by decide +kernel
theorem dX0_addInLine_9 : decode cX0_addInLine 9 = .ok (.if_icmp .eq 19, 3) := by decide +kernel
theorem dX0_addInLine_12 : decode cX0_addInLine 12 = .ok (.iload_n 0, 1) := by decide +kernel
theorem dX0_addInLine_13 : decode cX0_addInLine 13 = .ok (.bipush 9, 2) := by decide +kernel
theorem dX0_addInLine_15 : decode cX0_addInLine 15 = .ok (.if_icmp .eq 13, 3) := by decide +kernel
theorem dX0_addInLine_18 : decode cX0_addInLine 18 = .ok (.iload_n 0, 1) := by decide +kernel
theorem dX0_addInLine_19 : decode cX0_addInLine 19 = .ok (.bipush 32, 2) := by decide +kernel
theorem dX0_addInLine_21 : decode cX0_addInLine 21 = .ok (.if_icmp .ne 14, 3) := by decide +kernel
theorem dX0_addInLine_24 : decode cX0_addInLine 24 = .ok (.iload_n 2, 1) := by decide +kernel
theorem dX0_addInLine_25 : decode cX0_addInLine 25 = .ok (.ifCond .eq 10, 3) := by decide +kernel
theorem dX0_addInLine_28 : decode cX0_addInLine 28 = .ok (.aload_n 1, 1) := by decide +kernel
theorem dX0_addInLine_29 : decode cX0_addInLine 29 = .ok (.bipush 92, 2) := by decide +kernel
theorem dX0_addInLine_31 : decode cX0_addInLine 31 = .ok (.invokevirtual 93, 3) := by decide +kernel
theorem dX0_addInLine_34 : decode cX0_addInLine 34 = .ok (.pop, 1) := by decide +kernel
theorem dX0_addInLine_35 : decode cX0_addInLine 35 = .ok (.aload_n 1, 1) := by decide +kernel
theorem dX0_addInLine_36 : decode cX0_addInLine 36 = .ok (.iload_n 0, 1) := by decide +kernel
theorem dX0_addInLine_37 : decode cX0_addInLine 37 = .ok (.bipush 10, 2) := by decide +kernel
theorem dX0_addInLine_39 : decode cX0_addInLine 39 = .ok (.if_icmp .ne 8, 3) := by decide +kernel
theorem dX0_addInLine_42 : decode cX0_addInLine 42 = .ok (.bipush 110, 2) := by decide +kernel
theorem dX0_addInLine_44 : decode cX0_addInLine 44 = .ok (.goto 15, 3) := by decide +kernel
theorem dX0_addInLine_47 : decode cX0_addInLine 47 = .ok (.iload_n 0, 1) := by decide +kernel
theorem dX0_addInLine_48 : decode cX0_addInLine 48 = .ok (.bipush 9, 2) := by decide +kernel
theorem dX0_addInLine_50 : decode cX0_addInLine 50 = .ok (.if_icmp .ne 8, 3) := by decide +kernel
theorem dX0_addInLine_53 : decode cX0_addInLine 53 = .ok (.bipush 116, 2) := by decide +kernel
theorem dX0_addInLine_55 : decode cX0_addInLine 55 = .ok (.goto 4, 3) := by decide +kernel
theorem dX0_addInLine_58 : decode cX0_addInLine 58 = .ok (.iload_n 0, 1) := by decide +kernel
theorem dX0_addInLine_59 : decode cX0_addInLine 59 = .ok (.invokevirtual 93, 3) := by decide +kernel
theorem dX0_addInLine_62 : decode cX0_addInLine 62 = .ok (.pop, 1) := by decide +kernel
theorem dX0_addInLine_63 : decode cX0_addInLine 63 = .ok (.return_, 1) := by decide +kernel
theorem dX0_addInMarkup_0 : decode cX0_addInMarkup 0 = .ok (.iload_n 0, 1) := by decide +kernel
theorem dX0_addInMarkup_1 : decode cX0_addInMarkup 1 = .ok (.bipush 60, 2) := by decide +kernel
theorem dX0_addInMarkup_3 : decode cX0_addInMarkup 3 = .ok (.if_icmp .eq 22, 3) := by decide +kernel
theorem dX0_addInMarkup_6 : decode cX0_addInMarkup 6 = .ok (.iload_n 0, 1) := by decide +kernel
theorem dX0_addInMarkup_7 : decode cX0_addInMarkup 7 = .ok (.bipush 62, 2) := by decide +kernel
theorem dX0_addInMarkup_9 : decode cX0_addInMarkup 9 = .ok (.if_icmp .eq 16, 3) := by decide +kernel
theorem dX0_addInMarkup_12 : decode cX0_addInMarkup 12 = .ok (.iload_n 0, 1) := by decide +kernel
theorem dX0_addInMarkup_13 : decode cX0_addInMarkup 13 = .ok (.bipush 38, 2) := by decide +kernel
theorem dX0_addInMarkup_15 : decode cX0_addInMarkup 15 = .ok (.if_icmp .eq 10, 3) := by decide +kernel
theorem dX0_addInMarkup_18 : decode cX0_addInMarkup 18 = .ok (.aload_n 1, 1) := by decide +kernel
theorem dX0_addInMarkup_19 : decode cX0_addInMarkup 19 = .ok (.iload_n 0, 1) := by decide +kernel
theorem dX0_addInMarkup_20 : decode cX0_addInMarkup 20 = .ok (.invokevirtual 93, 3) := by decide +kernel
theorem dX0_addInMarkup_23 : decode cX0_addInMarkup 23 = .ok (.pop, 1) := by decide +kernel
theorem dX0_addInMarkup_24 : decode cX0_addInMarkup 24 = .ok (.return_, 1) := by decide +kernel
theorem dX0_addInMarkup_25 : decode cX0_addInMarkup 25 = .ok (.aload_n 1, 1) := by decide +kernel
theorem dX0_addInMarkup_26 : decode cX0_addInMarkup 26 = .ok (.bipush 38, 2) := by decide +kernel
theorem dX0_addInMarkup_28 : decode cX0_addInMarkup 28 = .ok (.invokevirtual 93, 3) := by decide +kernel
theorem dX0_addInMarkup_31 : decode cX0_addInMarkup 31 = .ok (.pop, 1) := by decide +kernel
theorem dX0_addInMarkup_32 : decode cX0_addInMarkup 32 = .ok (.iload_n 0, 1) := by decide +kernel
theorem dX0_addInMarkup_33 : decode cX0_addInMarkup 33 = .ok (.bipush 38, 2) := by decide +kernel
theorem dX0_addInMarkup_35 : decode cX0_addInMarkup 35 = .ok (.if_icmp .ne 27, 3) := by decide +kernel
theorem dX0_addInMarkup_38 : decode cX0_addInMarkup 38 = .ok (.aload_n 1, 1) := by decide +kernel
theorem dX0_addInMarkup_39 : decode cX0_addInMarkup 39 = .ok (.bipush 97, 2) := by decide +kernel
theorem dX0_addInMarkup_41 : decode cX0_addInMarkup 41 = .ok (.invokevirtual 93, 3) := by decide +kernel
theorem dX0_addInMarkup_44 : decode cX0_addInMarkup 44 = .ok (.pop, 1) := by decide +kernel
theorem dX0_addInMarkup_45 : decode cX0_addInMarkup 45 = .ok (.aload_n 1, 1) := by decide +kernel
theorem dX0_addInMarkup_46 : decode cX0_addInMarkup 46 = .ok (.bipush 109, 2) := by decide +kernel
theorem dX0_addInMarkup_48 : decode cX0_addInMarkup 48 = .ok (.invokevirtual 93, 3) := by decide +kernel
theorem dX0_addInMarkup_51 : decode cX0_addInMarkup 51 = .ok (.pop, 1) := by decide +kernel
theorem dX0_addInMarkup_52 : decode cX0_addInMarkup 52 = .ok (.aload_n 1, 1) := by decide +kernel
theorem dX0_addInMarkup_53 : decode cX0_addInMarkup 53 = .ok (.bipush 112, 2) := by decide +kernel
theorem dX0_addInMarkup_55 : decode cX0_addInMarkup 55 = .ok (.invokevirtual 93, 3) := by decide +kernel
theorem dX0_addInMarkup_58 : decode cX0_addInMarkup 58 = .ok (.pop, 1) := by decide +kernel
theorem dX0_addInMarkup_59 : decode cX0_addInMarkup 59 = .ok (.goto 28, 3) := by decide +kernel
theorem dX0_addInMarkup_62 : decode cX0_addInMarkup 62 = .ok (.aload_n 1, 1) := by decide +kernel
theorem dX0_addInMarkup_63 : decode cX0_addInMarkup 63 = .ok (.iload_n 0, 1) := by decide +kernel
theorem dX0_addInMarkup_64 : decode cX0_addInMarkup 64 = .ok (.bipush 60, 2) := by decide +kernel
theorem dX0_addInMarkup_66 : decode cX0_addInMarkup 66 = .ok (.if_icmp .ne 8, 3) := by decide +kernel
theorem dX0_addInMarkup_69 : decode cX0_addInMarkup 69 = .ok (.bipush 108, 2) := by decide +kernel
theorem dX0_addInMarkup_71 : decode cX0_addInMarkup 71 = .ok (.goto 5, 3) := by decide +kernel
theorem dX0_addInMarkup_74 : decode cX0_addInMarkup 74 = .ok (.bipush 103, 2) := by decide +kernel
theorem dX0_addInMarkup_76 : decode cX0_addInMarkup 76 = .ok (.invokevirtual 93, 3) := by decide +kernel
theorem dX0_addInMarkup_79 : decode cX0_addInMarkup 79 = .ok (.pop, 1) := by decide +kernel
theorem dX0_addInMarkup_80 : decode cX0_addInMarkup 80 = .ok (.aload_n 1, 1) := by decide +kernel
theorem dX0_addInMarkup_81 : decode cX0_addInMarkup 81 = .ok (.bipush 116, 2) := by decide +kernel
theorem dX0_addInMarkup_83 : decode cX0_addInMarkup 83 = .ok (.invokevirtual 93, 3) := by decide +kernel
theorem dX0_addInMarkup_86 : decode cX0_addInMarkup 86 = .ok (.pop, 1) := by decide +kernel
theorem dX0_addInMarkup_87 : decode cX0_addInMarkup 87 = .ok (.aload_n 1, 1) := by decide +kernel
theorem dX0_addInMarkup_88 : decode cX0_addInMarkup 88 = .ok (.bipush 59, 2) := by decide +kernel
theorem dX0_addInMarkup_90 : decode cX0_addInMarkup 90 = .ok (.invokevirtual 93, 3) := by decide +kernel
theorem dX0_addInMarkup_93 : decode cX0_addInMarkup 93 = .ok (.pop, 1) := by decide +kernel
theorem dX0_addInMarkup_94 : decode cX0_addInMarkup 94 = .ok (.return_, 1) := by decide +kernel
theorem dX0_addInQuotes_0 : decode cX0_addInQuotes 0 = .ok (.iload_n 0, 1) := by decide +kernel
theorem dX0_addInQuotes_1 : decode cX0_addInQuotes 1 = .ok (.bipush 92, 2) := by decide +kernel
theorem dX0_addInQuotes_3 : decode cX0_addInQuotes 3 = .ok (.if_icmp .eq 21, 3) := by decide +kernel
theorem dX0_addInQuotes_6 : decode cX0_addInQuotes 6 = .ok (.iload_n 0, 1) := by decide +kernel
theorem dX0_addInQuotes_7 : decode cX0_addInQuotes 7 = .ok (.bipush 10, 2) := by decide +kernel
theorem dX0_addInQuotes_9 : decode cX0_addInQuotes 9 = .ok (.if_icmp .eq 15, 3) := by decide +kernel
theorem dX0_addInQuotes_12 : decode cX0_addInQuotes 12 = .ok (.iload_n 0, 1) := by decide +kernel
theorem dX0_addInQuotes_13 : decode cX0_addInQuotes 13 = .ok (.bipush 9, 2) := by decide +kernel
theorem dX0_addInQuotes_15 : decode cX0_addInQuotes 15 = .ok (.if_icmp .eq 9, 3) := by decide +kernel
theorem dX0_addInQuotes_18 : decode cX0_addInQuotes 18 = .ok (.iload_n 0, 1) := by decide +kernel
theorem dX0_addInQuotes_19 : decode cX0_addInQuotes 19 = .ok (.bipush 34, 2) := by decide +kernel
theorem dX0_addInQuotes_21 : decode cX0_addInQuotes 21 = .ok (.if_icmp .ne 10, 3) := by decide +kernel
theorem dX0_addInQuotes_24 : decode cX0_addInQuotes 24 = .ok (.aload_n 1, 1) := by decide +kernel
theorem dX0_addInQuotes_25 : decode cX0_addInQuotes 25 = .ok (.bipush 92, 2) := by decide +kernel
theorem dX0_addInQuotes_27 : decode cX0_addInQuotes 27 = .ok (.invokevirtual 93, 3) := by decide +kernel
theorem dX0_addInQuotes_30 : decode cX0_addInQuotes 30 = .ok (.pop, 1) := by decide +kernel
theorem dX0_addInQuotes_31 : decode cX0_addInQuotes 31 = .ok (.aload_n 1, 1) := by decide +kernel
theorem dX0_addInQuotes_32 : decode cX0_addInQuotes 32 = .ok (.iload_n 0, 1) := by decide +kernel
theorem dX0_addInQuotes_33 : decode cX0_addInQuotes 33 = .ok (.bipush 10, 2) := by decide +kernel
theorem dX0_addInQuotes_35 : decode cX0_addInQuotes 35 = .ok (.if_icmp .ne 8, 3) := by decide +kernel
theorem dX0_addInQuotes_38 : decode cX0_addInQuotes 38 = .ok (.bipush 110, 2) := by decide +kernel
theorem dX0_addInQuotes_40 : decode cX0_addInQuotes 40 = .ok (.goto 15, 3) := by decide +kernel
theorem dX0_addInQuotes_43 : decode cX0_addInQuotes 43 = .ok (.iload_n 0, 1) := by decide +kernel
theorem dX0_addInQuotes_44 : decode cX0_addInQuotes 44 = .ok (.bipush 9, 2) := by decide +kernel
theorem dX0_addInQuotes_46 : decode cX0_addInQuotes 46 = .ok (.if_icmp .ne 8, 3) := by decide +kernel
theorem dX0_addInQuotes_49 : decode cX0_addInQuotes 49 = .ok (.bipush 116, 2) := by decide +kernel
theorem dX0_addInQuotes_51 : decode cX0_addInQuotes 51 = .ok (.goto 4, 3) := by decide +kernel
theorem dX0_addInQuotes_54 : decode cX0_addInQuotes 54 = .ok (.iload_n 0, 1) := by decide +kernel
theorem dX0_addInQuotes_55 : decode cX0_addInQuotes 55 = .ok (.invokevirtual 93, 3) := by decide +kernel
theorem dX0_addInQuotes_58 : decode cX0_addInQuotes 58 = .ok (.pop, 1) := by decide +kernel
theorem dX0_addInQuotes_59 : decode cX0_addInQuotes 59 = .ok (.return_, 1) := by decide +kernel
theorem dX0_escape_0 : decode cX0_escape 0 = .ok (.aload_n 2, 1) := by decide +kernel
theorem dX0_escape_1 : decode cX0_escape 1 = .ok (.ifnonnull 5, 3) := by decide +kernel
theorem dX0_escape_4 : decode cX0_escape 4 = .ok (.iconst 0, 1) := by decide +kernel
theorem dX0_escape_5 : decode cX0_escape 5 = .ok (.ireturn, 1) := by decide +kernel
theorem dX0_escape_6 : decode cX0_escape 6 = .ok (.aload_n 0, 1) := by decide +kernel
theorem dX0_escape_7 : decode cX0_escape 7 = .ok (.iconst 0, 1) := by decide +kernel
theorem dX0_escape_8 : decode cX0_escape 8 = .ok (.putfield 72, 3) := by decide +kernel
theorem dX0_escape_11 : decode cX0_escape 11 = .ok (.aload_n 0, 1) := by decide +kernel
theorem dX0_escape_12 : decode cX0_escape 12 = .ok (.getfield 23, 3) := by decide +kernel
theorem dX0_escape_15 : decode cX0_escape 15 = .ok (.iconst 0, 1) := by decide +kernel
theorem dX0_escape_16 : decode cX0_escape 16 = .ok (.invokevirtual 26, 3) := by decide +kernel
theorem dX0_escape_19 : decode cX0_escape 19 = .ok (.aload_n 0, 1) := by decide +kernel
theorem dX0_escape_20 : decode cX0_escape 20 = .ok (.getfield 20, 3) := by decide +kernel
theorem dX0_escape_23 : decode cX0_escape 23 = .ok (.iconst 0, 1) := by decide +kernel
theorem dX0_escape_24 : decode cX0_escape 24 = .ok (.invokevirtual 26, 3) := by decide +kernel
theorem dX0_escape_27 : decode cX0_escape 27 = .ok (.aload_n 3, 1) := by decide +kernel
theorem dX0_escape_28 : decode cX0_escape 28 = .ok (.getfield 76, 3) := by decide +kernel
theorem dX0_escape_31 : decode cX0_escape 31 = .ok (.iconst 1, 1) := by decide +kernel
theorem dX0_escape_32 : decode cX0_escape 32 = .ok (.if_icmp .ne 14, 3) := by decide +kernel
theorem dX0_escape_35 : decode cX0_escape 35 = .ok (.aload_n 2, 1) := by decide +kernel
theorem dX0_escape_36 : decode cX0_escape 36 = .ok (.getfield 79, 3) := by decide +kernel
theorem dX0_escape_39 : decode cX0_escape 39 = .ok (.ifCond .ne 7, 3) := by decide +kernel
theorem dX0_escape_42 : decode cX0_escape 42 = .ok (.iconst 1, 1) := by decide +kernel
theorem dX0_escape_43 : decode cX0_escape 43 = .ok (.goto 4, 3) := by decide +kernel
theorem dX0_escape_46 : decode cX0_escape 46 = .ok (.iconst 0, 1) := by decide +kernel
theorem dX0_escape_47 : decode cX0_escape 47 = .ok (.istore 4, 2) := by decide +kernel
theorem dX0_escape_49 : decode cX0_escape 49 = .ok (.aload_n 3, 1) := by decide +kernel
theorem dX0_escape_50 : decode cX0_escape 50 = .ok (.getfield 83, 3) := by decide +kernel
theorem dX0_escape_53 : decode cX0_escape 53 = .ok (.iconst 1, 1) := by decide +kernel
theorem dX0_escape_54 : decode cX0_escape 54 = .ok (.if_icmp .ne 14, 3) := by decide +kernel
theorem dX0_escape_57 : decode cX0_escape 57 = .ok (.aload_n 2, 1) := by decide +kernel
theorem dX0_escape_58 : decode cX0_escape 58 = .ok (.getfield 86, 3) := by decide +kernel
theorem dX0_escape_61 : decode cX0_escape 61 = .ok (.ifCond .ne 7, 3) := by decide +kernel
theorem dX0_escape_64 : decode cX0_escape 64 = .ok (.iconst 1, 1) := by decide +kernel
theorem dX0_escape_65 : decode cX0_escape 65 = .ok (.goto 4, 3) := by decide +kernel
theorem dX0_escape_68 : decode cX0_escape 68 = .ok (.iconst 0, 1) := by decide +kernel
theorem dX0_escape_69 : decode cX0_escape 69 = .ok (.istore 5, 2) := by decide +kernel
theorem dX0_escape_71 : decode cX0_escape 71 = .ok (.iload 5, 2) := by decide +kernel
theorem dX0_escape_73 : decode cX0_escape 73 = .ok (.ifCond .eq 68, 3) := by decide +kernel
theorem dX0_escape_76 : decode cX0_escape 76 = .ok (.aload_n 1, 1) := by decide +kernel
theorem dX0_escape_77 : decode cX0_escape 77 = .ok (.invokevirtual 89, 3) := by decide +kernel
theorem dX0_escape_80 : decode cX0_escape 80 = .ok (.ifCond .eq 61, 3) := by decide +kernel
theorem dX0_escape_83 : decode cX0_escape 83 = .ok (.aload_n 0, 1) := by decide +kernel
theorem dX0_escape_84 : decode cX0_escape 84 = .ok (.getfield 23, 3) := by decide +kernel
theorem dX0_escape_87 : decode cX0_escape 87 = .ok (.bipush 34, 2) := by decide +kernel
theorem dX0_escape_89 : decode cX0_escape 89 = .ok (.invokevirtual 93, 3) := by decide +kernel
theorem dX0_escape_92 : decode cX0_escape 92 = .ok (.pop, 1) := by decide +kernel
theorem dX0_escape_93 : decode cX0_escape 93 = .ok (.aload_n 1, 1) := by decide +kernel
theorem dX0_escape_94 : decode cX0_escape 94 = .ok (.aload_n 0, 1) := by decide +kernel
theorem dX0_escape_95 : decode cX0_escape 95 = .ok (.getfield 23, 3) := by decide +kernel
theorem dX0_escape_98 : decode cX0_escape 98 = .ok (.iconst 1, 1) := by decide +kernel
theorem dX0_escape_99 : decode cX0_escape 99 = .ok (.iconst 0, 1) := by decide +kernel
theorem dX0_escape_100 : decode cX0_escape 100 = .ok (.invokestatic 97, 3) := by decide +kernel
theorem dX0_escape_103 : decode cX0_escape 103 = .ok (.aload_n 0, 1) := by decide +kernel
theorem dX0_escape_104 : decode cX0_escape 104 = .ok (.getfield 23, 3) := by decide +kernel
theorem dX0_escape_107 : decode cX0_escape 107 = .ok (.bipush 34, 2) := by decide +kernel
theorem dX0_escape_109 : decode cX0_escape 109 = .ok (.invokevirtual 93, 3) := by decide +kernel
theorem dX0_escape_112 : decode cX0_escape 112 = .ok (.pop, 1) := by decide +kernel
theorem dX0_escape_113 : decode cX0_escape 113 = .ok (.aload_n 0, 1) := by decide +kernel
theorem dX0_escape_114 : decode cX0_escape 114 = .ok (.aload_n 3, 1) := by decide +kernel
theorem dX0_escape_115 : decode cX0_escape 115 = .ok (.getfield 76, 3) := by decide +kernel
theorem dX0_escape_118 : decode cX0_escape 118 = .ok (.iconst 1, 1) := by decide +kernel
theorem dX0_escape_119 : decode cX0_escape 119 = .ok (.if_icmp .eq 11, 3) := by decide +kernel
theorem dX0_escape_122 : decode cX0_escape 122 = .ok (.aload_n 3, 1) := by decide +kernel
theorem dX0_escape_123 : decode cX0_escape 123 = .ok (.getfield 76, 3) := by decide +kernel
theorem dX0_escape_126 : decode cX0_escape 126 = .ok (.iconst 3, 1) := by decide +kernel
theorem dX0_escape_127 : decode cX0_escape 127 = .ok (.if_icmp .ne 7, 3) := by decide +kernel
theorem dX0_escape_130 : decode cX0_escape 130 = .ok (.iconst 2, 1) := by decide +kernel
theorem dX0_escape_131 : decode cX0_escape 131 = .ok (.goto 4, 3) := by decide +kernel
theorem dX0_escape_134 : decode cX0_escape 134 = .ok (.iconst 1, 1) := by decide +kernel
theorem dX0_escape_135 : decode cX0_escape 135 = .ok (.putfield 72, 3) := by decide +kernel
theorem dX0_escape_138 : decode cX0_escape 138 = .ok (.goto 25, 3) := by decide +kernel
theorem dX0_escape_141 : decode cX0_escape 141 = .ok (.aload_n 1, 1) := by decide +kernel
theorem dX0_escape_142 : decode cX0_escape 142 = .ok (.aload_n 0, 1) := by decide +kernel
theorem dX0_escape_143 : decode cX0_escape 143 = .ok (.getfield 23, 3) := by decide +kernel
theorem dX0_escape_146 : decode cX0_escape 146 = .ok (.iload 5, 2) := by decide +kernel
theorem dX0_escape_148 : decode cX0_escape 148 = .ok (.ifCond .eq 7, 3) := by decide +kernel
theorem dX0_escape_151 : decode cX0_escape 151 = .ok (.iconst (-1), 1) := by decide +kernel
theorem dX0_escape_152 : decode cX0_escape 152 = .ok (.goto 7, 3) := by decide +kernel
theorem dX0_escape_155 : decode cX0_escape 155 = .ok (.aload_n 3, 1) := by decide +kernel
theorem dX0_escape_156 : decode cX0_escape 156 = .ok (.getfield 83, 3) := by decide +kernel
theorem dX0_escape_159 : decode cX0_escape 159 = .ok (.iconst 1, 1) := by decide +kernel
theorem dX0_escape_160 : decode cX0_escape 160 = .ok (.invokestatic 97, 3) := by decide +kernel
theorem dX0_escape_163 : decode cX0_escape 163 = .ok (.iload 4, 2) := by decide +kernel
theorem dX0_escape_165 : decode cX0_escape 165 = .ok (.ifCond .ne 24, 3) := by decide +kernel
theorem dX0_escape_168 : decode cX0_escape 168 = .ok (.aload_n 0, 1) := by decide +kernel
theorem dX0_escape_169 : decode cX0_escape 169 = .ok (.getfield 23, 3) := by decide +kernel
theorem dX0_escape_172 : decode cX0_escape 172 = .ok (.aload_n 0, 1) := by decide +kernel
theorem dX0_escape_173 : decode cX0_escape 173 = .ok (.getfield 20, 3) := by decide +kernel
theorem dX0_escape_176 : decode cX0_escape 176 = .ok (.aload_n 3, 1) := by decide +kernel
theorem dX0_escape_177 : decode cX0_escape 177 = .ok (.getfield 76, 3) := by decide +kernel
theorem dX0_escape_180 : decode cX0_escape 180 = .ok (.aload_n 2, 1) := by decide +kernel
theorem dX0_escape_181 : decode cX0_escape 181 = .ok (.getfield 101, 3) := by decide +kernel
theorem dX0_escape_184 : decode cX0_escape 184 = .ok (.invokestatic 97, 3) := by decide +kernel
theorem dX0_escape_187 : decode cX0_escape 187 = .ok (.iconst 1, 1) := by decide +kernel
theorem dX0_escape_188 : decode cX0_escape 188 = .ok (.ireturn, 1) := by decide +kernel
theorem dX0_escape_189 : decode cX0_escape 189 = .ok (.aload_n 0, 1) := by decide +kernel
theorem dX0_escape_190 : decode cX0_escape 190 = .ok (.getfield 23, 3) := by decide +kernel
theorem dX0_escape_193 : decode cX0_escape 193 = .ok (.invokevirtual 89, 3) := by decide +kernel
theorem dX0_escape_196 : decode cX0_escape 196 = .ok (.ifCond .ne 23, 3) := by decide +kernel
theorem dX0_escape_199 : decode cX0_escape 199 = .ok (.aload_n 0, 1) := by decide +kernel
theorem dX0_escape_200 : decode cX0_escape 200 = .ok (.getfield 20, 3) := by decide +kernel
theorem dX0_escape_203 : decode cX0_escape 203 = .ok (.aload_n 0, 1) := by decide +kernel
theorem dX0_escape_204 : decode cX0_escape 204 = .ok (.getfield 23, 3) := by decide +kernel
theorem dX0_escape_207 : decode cX0_escape 207 = .ok (.iconst 0, 1) := by decide +kernel
theorem dX0_escape_208 : decode cX0_escape 208 = .ok (.aload_n 0, 1) := by decide +kernel
theorem dX0_escape_209 : decode cX0_escape 209 = .ok (.getfield 23, 3) := by decide +kernel
theorem dX0_escape_212 : decode cX0_escape 212 = .ok (.invokevirtual 57, 3) := by decide +kernel
theorem dX0_escape_215 : decode cX0_escape 215 = .ok (.invokevirtual 50, 3) := by decide +kernel
theorem dX0_escape_218 : decode cX0_escape 218 = .ok (.ireturn, 1) := by decide +kernel
theorem dX0_escape_219 : decode cX0_escape 219 = .ok (.aload_n 0, 1) := by decide +kernel
theorem dX0_escape_220 : decode cX0_escape 220 = .ok (.iconst 1, 1) := by decide +kernel
theorem dX0_escape_221 : decode cX0_escape 221 = .ok (.putfield 72, 3) := by decide +kernel
theorem dX0_escape_224 : decode cX0_escape 224 = .ok (.aload_n 0, 1) := by decide +kernel
theorem dX0_escape_225 : decode cX0_escape 225 = .ok (.getfield 20, 3) := by decide +kernel
theorem dX0_escape_228 : decode cX0_escape 228 = .ok (.bipush 34, 2) := by decide +kernel
theorem dX0_escape_230 : decode cX0_escape 230 = .ok (.invokevirtual 93, 3) := by decide +kernel
theorem dX0_escape_233 : decode cX0_escape 233 = .ok (.pop, 1) := by decide +kernel
theorem dX0_escape_234 : decode cX0_escape 234 = .ok (.aload_n 0, 1) := by decide +kernel
theorem dX0_escape_235 : decode cX0_escape 235 = .ok (.getfield 23, 3) := by decide +kernel
theorem dX0_escape_238 : decode cX0_escape 238 = .ok (.aload_n 0, 1) := by decide +kernel
theorem dX0_escape_239 : decode cX0_escape 239 = .ok (.getfield 20, 3) := by decide +kernel
theorem dX0_escape_242 : decode cX0_escape 242 = .ok (.iconst 1, 1) := by decide +kernel
theorem dX0_escape_243 : decode cX0_escape 243 = .ok (.iconst 0, 1) := by decide +kernel
theorem dX0_escape_244 : decode cX0_escape 244 = .ok (.invokestatic 97, 3) := by decide +kernel
theorem dX0_escape_247 : decode cX0_escape 247 = .ok (.aload_n 0, 1) := by decide +kernel
theorem dX0_escape_248 : decode cX0_escape 248 = .ok (.getfield 20, 3) := by decide +kernel
theorem dX0_escape_251 : decode cX0_escape 251 = .ok (.bipush 34, 2) := by decide +kernel
theorem dX0_escape_253 : decode cX0_escape 253 = .ok (.invokevirtual 93, 3) := by decide +kernel
theorem dX0_escape_256 : decode cX0_escape 256 = .ok (.pop, 1) := by decide +kernel
theorem dX0_escape_257 : decode cX0_escape 257 = .ok (.aload_n 3, 1) := by decide +kernel
theorem dX0_escape_258 : decode cX0_escape 258 = .ok (.getfield 83, 3) := by decide +kernel
theorem dX0_escape_261 : decode cX0_escape 261 = .ok (.iconst (-1), 1) := by decide +kernel
theorem dX0_escape_262 : decode cX0_escape 262 = .ok (.if_icmp .ne 7, 3) := by decide +kernel
theorem dX0_escape_265 : decode cX0_escape 265 = .ok (.iconst 1, 1) := by decide +kernel
theorem dX0_escape_266 : decode cX0_escape 266 = .ok (.goto 4, 3) := by decide +kernel
theorem dX0_escape_269 : decode cX0_escape 269 = .ok (.iconst 0, 1) := by decide +kernel
theorem dX0_escape_270 : decode cX0_escape 270 = .ok (.ireturn, 1) := by decide +kernel
theorem dX0_make_0 : decode cX0_make 0 = .ok (.aload_n 0, 1) := by decide +kernel
theorem dX0_make_1 : decode cX0_make 1 = .ok (.getfield 14, 3) := by decide +kernel
theorem dX0_make_4 : decode cX0_make 4 = .ok (.iconst 0, 1) := by decide +kernel
theorem dX0_make_5 : decode cX0_make 5 = .ok (.invokevirtual 26, 3) := by decide +kernel
theorem dX0_make_8 : decode cX0_make 8 = .ok (.iconst 0, 1) := by decide +kernel
theorem dX0_make_9 : decode cX0_make 9 = .ok (.istore_n 3, 1) := by decide +kernel
theorem dX0_make_10 : decode cX0_make 10 = .ok (.iconst 1, 1) := by decide +kernel
theorem dX0_make_11 : decode cX0_make 11 = .ok (.istore 4, 2) := by decide +kernel
theorem dX0_make_13 : decode cX0_make 13 = .ok (.iconst 0, 1) := by decide +kernel
theorem dX0_make_14 : decode cX0_make 14 = .ok (.istore 5, 2) := by decide +kernel
theorem dX0_make_16 : decode cX0_make 16 = .ok (.iload 5, 2) := by decide +kernel
theorem dX0_make_18 : decode cX0_make 18 = .ok (.aload_n 2, 1) := by decide +kernel
theorem dX0_make_19 : decode cX0_make 19 = .ok (.invokevirtual 29, 3) := by decide +kernel
theorem dX0_make_22 : decode cX0_make 22 = .ok (.if_icmp .ge 189, 3) := by decide +kernel
theorem dX0_make_25 : decode cX0_make 25 = .ok (.iload 4, 2) := by decide +kernel
theorem dX0_make_27 : decode cX0_make 27 = .ok (.ifCond .eq 184, 3) := by decide +kernel
theorem dX0_make_30 : decode cX0_make 30 = .ok (.aload_n 2, 1) := by decide +kernel
theorem dX0_make_31 : decode cX0_make 31 = .ok (.iload 5, 2) := by decide +kernel
theorem dX0_make_33 : decode cX0_make 33 = .ok (.invokevirtual 35, 3) := by decide +kernel
theorem dX0_make_36 : decode cX0_make 36 = .ok (.astore 6, 2) := by decide +kernel
theorem dX0_make_38 : decode cX0_make 38 = .ok (.aload 6, 2) := by decide +kernel
theorem dX0_make_40 : decode cX0_make 40 = .ok (.ifnonnull 6, 3) := by decide +kernel
theorem dX0_make_43 : decode cX0_make 43 = .ok (.goto 168, 3) := by decide +kernel
theorem dX0_make_46 : decode cX0_make 46 = .ok (.aload_n 0, 1) := by decide +kernel
theorem dX0_make_47 : decode cX0_make 47 = .ok (.getfield 14, 3) := by decide +kernel
theorem dX0_make_50 : decode cX0_make 50 = .ok (.aload_n 1, 1) := by decide +kernel
theorem dX0_make_51 : decode cX0_make 51 = .ok (.getfield 39, 3) := by decide +kernel
theorem dX0_make_54 : decode cX0_make 54 = .ok (.iload_n 3, 1) := by decide +kernel
theorem dX0_make_55 : decode cX0_make 55 = .ok (.aload 6, 2) := by decide +kernel
theorem dX0_make_57 : decode cX0_make 57 = .ok (.getfield 44, 3) := by decide +kernel
theorem dX0_make_60 : decode cX0_make 60 = .ok (.invokevirtual 50, 3) := by decide +kernel
theorem dX0_make_63 : decode cX0_make 63 = .ok (.istore 4, 2) := by decide +kernel
theorem dX0_make_65 : decode cX0_make 65 = .ok (.aload 6, 2) := by decide +kernel
theorem dX0_make_67 : decode cX0_make 67 = .ok (.getfield 54, 3) := by decide +kernel
theorem dX0_make_70 : decode cX0_make 70 = .ok (.istore_n 3, 1) := by decide +kernel
theorem dX0_make_71 : decode cX0_make 71 = .ok (.aload 6, 2) := by decide +kernel
theorem dX0_make_73 : decode cX0_make 73 = .ok (.aload_n 0, 1) := by decide +kernel
theorem dX0_make_74 : decode cX0_make 74 = .ok (.getfield 14, 3) := by decide +kernel
theorem dX0_make_77 : decode cX0_make 77 = .ok (.invokevirtual 57, 3) := by decide +kernel
theorem dX0_make_80 : decode cX0_make 80 = .ok (.putfield 58, 3) := by decide +kernel
theorem dX0_make_83 : decode cX0_make 83 = .ok (.aload_n 1, 1) := by decide +kernel
theorem dX0_make_84 : decode cX0_make 84 = .ok (.iload 5, 2) := by decide +kernel
theorem dX0_make_86 : decode cX0_make 86 = .ok (.invokevirtual 61, 3) := by decide +kernel
theorem dX0_make_89 : decode cX0_make 89 = .ok (.astore 7, 2) := by decide +kernel
theorem dX0_make_91 : decode cX0_make 91 = .ok (.aload 7, 2) := by decide +kernel
theorem dX0_make_93 : decode cX0_make 93 = .ok (.ifnonnull 32, 3) := by decide +kernel
theorem dX0_make_96 : decode cX0_make 96 = .ok (.iload 4, 2) := by decide +kernel
theorem dX0_make_98 : decode cX0_make 98 = .ok (.aload_n 0, 1) := by decide +kernel
theorem dX0_make_99 : decode cX0_make 99 = .ok (.getfield 14, 3) := by decide +kernel
theorem dX0_make_102 : decode cX0_make 102 = .ok (.aload_n 1, 1) := by decide +kernel
theorem dX0_make_103 : decode cX0_make 103 = .ok (.getfield 39, 3) := by decide +kernel
theorem dX0_make_106 : decode cX0_make 106 = .ok (.aload 6, 2) := by decide +kernel
theorem dX0_make_108 : decode cX0_make 108 = .ok (.getfield 44, 3) := by decide +kernel
theorem dX0_make_111 : decode cX0_make 111 = .ok (.aload 6, 2) := by decide +kernel
theorem dX0_make_113 : decode cX0_make 113 = .ok (.getfield 54, 3) := by decide +kernel
theorem dX0_make_116 : decode cX0_make 116 = .ok (.invokevirtual 50, 3) := by decide +kernel
theorem dX0_make_119 : decode cX0_make 119 = .ok (.iand, 1) := by decide +kernel
theorem dX0_make_120 : decode cX0_make 120 = .ok (.istore 4, 2) := by decide +kernel
theorem dX0_make_122 : decode cX0_make 122 = .ok (.goto 47, 3) := by decide +kernel
theorem dX0_make_125 : decode cX0_make 125 = .ok (.iload 4, 2) := by decide +kernel
theorem dX0_make_127 : decode cX0_make 127 = .ok (.aload_n 0, 1) := by decide +kernel
theorem dX0_make_128 : decode cX0_make 128 = .ok (.aload 7, 2) := by decide +kernel
theorem dX0_make_130 : decode cX0_make 130 = .ok (.aload 6, 2) := by decide +kernel
theorem dX0_make_132 : decode cX0_make 132 = .ok (.aload_n 1, 1) := by decide +kernel
theorem dX0_make_133 : decode cX0_make 133 = .ok (.invokevirtual 65, 3) := by decide +kernel
theorem dX0_make_136 : decode cX0_make 136 = .ok (.ifCond .eq 29, 3) := by decide +kernel
theorem dX0_make_139 : decode cX0_make 139 = .ok (.aload_n 0, 1) := by decide +kernel
theorem dX0_make_140 : decode cX0_make 140 = .ok (.getfield 14, 3) := by decide +kernel
theorem dX0_make_143 : decode cX0_make 143 = .ok (.aload_n 0, 1) := by decide +kernel
theorem dX0_make_144 : decode cX0_make 144 = .ok (.getfield 20, 3) := by decide +kernel
theorem dX0_make_147 : decode cX0_make 147 = .ok (.iconst 0, 1) := by decide +kernel
theorem dX0_make_148 : decode cX0_make 148 = .ok (.aload_n 0, 1) := by decide +kernel
theorem dX0_make_149 : decode cX0_make 149 = .ok (.getfield 20, 3) := by decide +kernel
theorem dX0_make_152 : decode cX0_make 152 = .ok (.invokevirtual 57, 3) := by decide +kernel
theorem dX0_make_155 : decode cX0_make 155 = .ok (.invokevirtual 50, 3) := by decide +kernel
theorem dX0_make_158 : decode cX0_make 158 = .ok (.ifCond .eq 7, 3) := by decide +kernel
theorem dX0_make_161 : decode cX0_make 161 = .ok (.iconst 1, 1) := by decide +kernel
theorem dX0_make_162 : decode cX0_make 162 = .ok (.goto 4, 3) := by decide +kernel
theorem dX0_make_165 : decode cX0_make 165 = .ok (.iconst 0, 1) := by decide +kernel
theorem dX0_make_166 : decode cX0_make 166 = .ok (.iand, 1) := by decide +kernel
theorem dX0_make_167 : decode cX0_make 167 = .ok (.istore 4, 2) := by decide +kernel
theorem dX0_make_169 : decode cX0_make 169 = .ok (.aload 6, 2) := by decide +kernel
theorem dX0_make_171 : decode cX0_make 171 = .ok (.aload_n 0, 1) := by decide +kernel
theorem dX0_make_172 : decode cX0_make 172 = .ok (.getfield 14, 3) := by decide +kernel
theorem dX0_make_175 : decode cX0_make 175 = .ok (.invokevirtual 57, 3) := by decide +kernel
theorem dX0_make_178 : decode cX0_make 178 = .ok (.aload 6, 2) := by decide +kernel
theorem dX0_make_180 : decode cX0_make 180 = .ok (.getfield 58, 3) := by decide +kernel
theorem dX0_make_183 : decode cX0_make 183 = .ok (.isub, 1) := by decide +kernel
theorem dX0_make_184 : decode cX0_make 184 = .ok (.putfield 69, 3) := by decide +kernel
theorem dX0_make_187 : decode cX0_make 187 = .ok (.aload 6, 2) := by decide +kernel
theorem dX0_make_189 : decode cX0_make 189 = .ok (.aload 7, 2) := by decide +kernel
theorem dX0_make_191 : decode cX0_make 191 = .ok (.ifnonnull 7, 3) := by decide +kernel
theorem dX0_make_194 : decode cX0_make 194 = .ok (.iconst 0, 1) := by decide +kernel
theorem dX0_make_195 : decode cX0_make 195 = .ok (.goto 7, 3) := by decide +kernel
theorem dX0_make_198 : decode cX0_make 198 = .ok (.aload_n 0, 1) := by decide +kernel
theorem dX0_make_199 : decode cX0_make 199 = .ok (.getfield 72, 3) := by decide +kernel
theorem dX0_make_202 : decode cX0_make 202 = .ok (.putfield 75, 3) := by decide +kernel
theorem dX0_make_205 : decode cX0_make 205 = .ok (.iinc 5 1, 3) := by decide +kernel
theorem dX0_make_208 : decode cX0_make 208 = .ok (.goto (-192), 3) := by decide +kernel
theorem dX0_make_211 : decode cX0_make 211 = .ok (.iload 4, 2) := by decide +kernel
theorem dX0_make_213 : decode cX0_make 213 = .ok (.ifCond .eq 29, 3) := by decide +kernel
theorem dX0_make_216 : decode cX0_make 216 = .ok (.aload_n 0, 1) := by decide +kernel
theorem dX0_make_217 : decode cX0_make 217 = .ok (.getfield 14, 3) := by decide +kernel
theorem dX0_make_220 : decode cX0_make 220 = .ok (.aload_n 1, 1) := by decide +kernel
theorem dX0_make_221 : decode cX0_make 221 = .ok (.getfield 39, 3) := by decide +kernel
theorem dX0_make_224 : decode cX0_make 224 = .ok (.iload_n 3, 1) := by decide +kernel
theorem dX0_make_225 : decode cX0_make 225 = .ok (.aload_n 1, 1) := by decide +kernel
theorem dX0_make_226 : decode cX0_make 226 = .ok (.getfield 39, 3) := by decide +kernel
theorem dX0_make_229 : decode cX0_make 229 = .ok (.invokevirtual 57, 3) := by decide +kernel
theorem dX0_make_232 : decode cX0_make 232 = .ok (.invokevirtual 50, 3) := by decide +kernel
theorem dX0_make_235 : decode cX0_make 235 = .ok (.ifCond .eq 7, 3) := by decide +kernel
theorem dX0_make_238 : decode cX0_make 238 = .ok (.iconst 1, 1) := by decide +kernel
theorem dX0_make_239 : decode cX0_make 239 = .ok (.goto 4, 3) := by decide +kernel
theorem dX0_make_242 : decode cX0_make 242 = .ok (.iconst 0, 1) := by decide +kernel
theorem dX0_make_243 : decode cX0_make 243 = .ok (.ireturn, 1) := by decide +kernel
theorem dX1_areLike_0 : decode cX1_areLike 0 = .ok (.aload_n 0, 1) := by decide +kernel
theorem dX1_areLike_1 : decode cX1_areLike 1 = .ok (.iload_n 1, 1) := by decide +kernel
theorem dX1_areLike_2 : decode cX1_areLike 2 = .ok (.invokevirtual 154, 3) := by decide +kernel
theorem dX1_areLike_5 : decode cX1_areLike 5 = .ok (.astore_n 3, 1) := by decide +kernel
theorem dX1_areLike_6 : decode cX1_areLike 6 = .ok (.aload_n 0, 1) := by decide +kernel
theorem dX1_areLike_7 : decode cX1_areLike 7 = .ok (.iload_n 2, 1) := by decide +kernel
theorem dX1_areLike_8 : decode cX1_areLike 8 = .ok (.invokevirtual 154, 3) := by decide +kernel
theorem dX1_areLike_11 : decode cX1_areLike 11 = .ok (.astore 4, 2) := by decide +kernel
theorem dX1_areLike_13 : decode cX1_areLike 13 = .ok (.aload_n 3, 1) := by decide +kernel
theorem dX1_areLike_14 : decode cX1_areLike 14 = .ok (.ifnull 51, 3) := by decide +kernel
theorem dX1_areLike_17 : decode cX1_areLike 17 = .ok (.aload 4, 2) := by decide +kernel
theorem dX1_areLike_19 : decode cX1_areLike 19 = .ok (.ifnull 46, 3) := by decide +kernel
theorem dX1_areLike_22 : decode cX1_areLike 22 = .ok (.aload_n 3, 1) := by decide +kernel
theorem dX1_areLike_23 : decode cX1_areLike 23 = .ok (.getfield 133, 3) := by decide +kernel
theorem dX1_areLike_26 : decode cX1_areLike 26 = .ok (.aload 4, 2) := by decide +kernel
theorem dX1_areLike_28 : decode cX1_areLike 28 = .ok (.getfield 133, 3) := by decide +kernel
theorem dX1_areLike_31 : decode cX1_areLike 31 = .ok (.if_icmp .ne 34, 3) := by decide +kernel
theorem dX1_areLike_34 : decode cX1_areLike 34 = .ok (.aload_n 0, 1) := by decide +kernel
theorem dX1_areLike_35 : decode cX1_areLike 35 = .ok (.getfield 14, 3) := by decide +kernel
theorem dX1_areLike_38 : decode cX1_areLike 38 = .ok (.aload_n 3, 1) := by decide +kernel
theorem dX1_areLike_39 : decode cX1_areLike 39 = .ok (.getfield 130, 3) := by decide +kernel
theorem dX1_areLike_42 : decode cX1_areLike 42 = .ok (.aload_n 0, 1) := by decide +kernel
theorem dX1_areLike_43 : decode cX1_areLike 43 = .ok (.getfield 14, 3) := by decide +kernel
theorem dX1_areLike_46 : decode cX1_areLike 46 = .ok (.aload 4, 2) := by decide +kernel
theorem dX1_areLike_48 : decode cX1_areLike 48 = .ok (.getfield 130, 3) := by decide +kernel
theorem dX1_areLike_51 : decode cX1_areLike 51 = .ok (.aload_n 3, 1) := by decide +kernel
theorem dX1_areLike_52 : decode cX1_areLike 52 = .ok (.getfield 133, 3) := by decide +kernel
theorem dX1_areLike_55 : decode cX1_areLike 55 = .ok (.invokevirtual 157, 3) := by decide +kernel
theorem dX1_areLike_58 : decode cX1_areLike 58 = .ok (.ifCond .eq 7, 3) := by decide +kernel
theorem dX1_areLike_61 : decode cX1_areLike 61 = .ok (.iconst 1, 1) := by decide +kernel
theorem dX1_areLike_62 : decode cX1_areLike 62 = .ok (.goto 4, 3) := by decide +kernel
theorem dX1_areLike_65 : decode cX1_areLike 65 = .ok (.iconst 0, 1) := by decide +kernel
theorem dX1_areLike_66 : decode cX1_areLike 66 = .ok (.ireturn, 1) := by decide +kernel
theorem dX1_bytesInPieces_0 : decode cX1_bytesInPieces 0 = .ok (.iconst 0, 1) := by decide +kernel
theorem dX1_bytesInPieces_1 : decode cX1_bytesInPieces 1 = .ok (.istore_n 1, 1) := by decide +kernel
theorem dX1_bytesInPieces_2 : decode cX1_bytesInPieces 2 = .ok (.iconst 0, 1) := by decide +kernel
theorem dX1_bytesInPieces_3 : decode cX1_bytesInPieces 3 = .ok (.istore_n 2, 1) := by decide +kernel
theorem dX1_bytesInPieces_4 : decode cX1_bytesInPieces 4 = .ok (.iload_n 2, 1) := by decide +kernel
theorem dX1_bytesInPieces_5 : decode cX1_bytesInPieces 5 = .ok (.aload_n 0, 1) := by decide +kernel
theorem dX1_bytesInPieces_6 : decode cX1_bytesInPieces 6 = .ok (.getfield 46, 3) := by decide +kernel
theorem dX1_bytesInPieces_9 : decode cX1_bytesInPieces 9 = .ok (.if_icmp .ge 35, 3) := by decide +kernel
theorem dX1_bytesInPieces_12 : decode cX1_bytesInPieces 12 = .ok (.aload_n 0, 1) := by decide +kernel
theorem dX1_bytesInPieces_13 : decode cX1_bytesInPieces 13 = .ok (.iload_n 2, 1) := by decide +kernel
theorem dX1_bytesInPieces_14 : decode cX1_bytesInPieces 14 = .ok (.invokevirtual 154, 3) := by decide +kernel
theorem dX1_bytesInPieces_17 : decode cX1_bytesInPieces 17 = .ok (.astore_n 3, 1) := by decide +kernel
theorem dX1_bytesInPieces_18 : decode cX1_bytesInPieces 18 = .ok (.iload_n 1, 1) := by decide +kernel
theorem dX1_bytesInPieces_19 : decode cX1_bytesInPieces 19 = .ok (.aload_n 3, 1) := by decide +kernel
theorem dX1_bytesInPieces_20 : decode cX1_bytesInPieces 20 = .ok (.ifnonnull 7, 3) := by decide +kernel
theorem dX1_bytesInPieces_23 : decode cX1_bytesInPieces 23 = .ok (.iconst 0, 1) := by decide +kernel
theorem dX1_bytesInPieces_24 : decode cX1_bytesInPieces 24 = .ok (.goto 12, 3) := by decide +kernel
theorem dX1_bytesInPieces_27 : decode cX1_bytesInPieces 27 = .ok (.aload_n 3, 1) := by decide +kernel
theorem dX1_bytesInPieces_28 : decode cX1_bytesInPieces 28 = .ok (.getfield 129, 3) := by decide +kernel
theorem dX1_bytesInPieces_31 : decode cX1_bytesInPieces 31 = .ok (.aload_n 3, 1) := by decide +kernel
theorem dX1_bytesInPieces_32 : decode cX1_bytesInPieces 32 = .ok (.getfield 128, 3) := by decide +kernel
theorem dX1_bytesInPieces_35 : decode cX1_bytesInPieces 35 = .ok (.isub, 1) := by decide +kernel
theorem dX1_bytesInPieces_36 : decode cX1_bytesInPieces 36 = .ok (.iadd, 1) := by decide +kernel
theorem dX1_bytesInPieces_37 : decode cX1_bytesInPieces 37 = .ok (.istore_n 1, 1) := by decide +kernel
theorem dX1_bytesInPieces_38 : decode cX1_bytesInPieces 38 = .ok (.iinc 2 1, 3) := by decide +kernel
theorem dX1_bytesInPieces_41 : decode cX1_bytesInPieces 41 = .ok (.goto (-37), 3) := by decide +kernel
theorem dX1_bytesInPieces_44 : decode cX1_bytesInPieces 44 = .ok (.iload_n 1, 1) := by decide +kernel
theorem dX1_bytesInPieces_45 : decode cX1_bytesInPieces 45 = .ok (.ireturn, 1) := by decide +kernel
theorem dX1_find_0 : decode cX1_find 0 = .ok (.aload_n 0, 1) := by decide +kernel
theorem dX1_find_1 : decode cX1_find 1 = .ok (.iconst 0, 1) := by decide +kernel
theorem dX1_find_2 : decode cX1_find 2 = .ok (.putfield 46, 3) := by decide +kernel
theorem dX1_find_5 : decode cX1_find 5 = .ok (.aload_n 0, 1) := by decide +kernel
theorem dX1_find_6 : decode cX1_find 6 = .ok (.getfield 14, 3) := by decide +kernel
theorem dX1_find_9 : decode cX1_find 9 = .ok (.iconst 0, 1) := by decide +kernel
theorem dX1_find_10 : decode cX1_find 10 = .ok (.invokevirtual 50, 3) := by decide +kernel
theorem dX1_find_13 : decode cX1_find 13 = .ok (.aload_n 0, 1) := by decide +kernel
theorem dX1_find_14 : decode cX1_find 14 = .ok (.getfield 20, 3) := by decide +kernel
theorem dX1_find_17 : decode cX1_find 17 = .ok (.iconst 0, 1) := by decide +kernel
theorem dX1_find_18 : decode cX1_find 18 = .ok (.invokevirtual 50, 3) := by decide +kernel
theorem dX1_find_21 : decode cX1_find 21 = .ok (.aload_n 0, 1) := by decide +kernel
theorem dX1_find_22 : decode cX1_find 22 = .ok (.getfield 32, 3) := by decide +kernel
theorem dX1_find_25 : decode cX1_find 25 = .ok (.aload_n 1, 1) := by decide +kernel
theorem dX1_find_26 : decode cX1_find 26 = .ok (.aload_n 2, 1) := by decide +kernel
theorem dX1_find_27 : decode cX1_find 27 = .ok (.getfield 53, 3) := by decide +kernel
theorem dX1_find_30 : decode cX1_find 30 = .ok (.invokevirtual 58, 3) := by decide +kernel
theorem dX1_find_33 : decode cX1_find 33 = .ok (.iconst 0, 1) := by decide +kernel
theorem dX1_find_34 : decode cX1_find 34 = .ok (.istore_n 3, 1) := by decide +kernel
theorem dX1_find_35 : decode cX1_find 35 = .ok (.iload_n 3, 1) := by decide +kernel
theorem dX1_find_36 : decode cX1_find 36 = .ok (.sipush 600, 3) := by decide +kernel
theorem dX1_find_39 : decode cX1_find 39 = .ok (.if_icmp .gt 135, 3) := by decide +kernel
theorem dX1_find_42 : decode cX1_find 42 = .ok (.aload_n 0, 1) := by decide +kernel
theorem dX1_find_43 : decode cX1_find 43 = .ok (.getfield 46, 3) := by decide +kernel
theorem dX1_find_46 : decode cX1_find 46 = .ok (.aload_n 0, 1) := by decide +kernel
theorem dX1_find_47 : decode cX1_find 47 = .ok (.getfield 41, 3) := by decide +kernel
theorem dX1_find_50 : decode cX1_find 50 = .ok (.arraylength, 1) := by decide +kernel
theorem dX1_find_51 : decode cX1_find 51 = .ok (.if_icmp .ge 123, 3) := by decide +kernel
theorem dX1_find_54 : decode cX1_find 54 = .ok (.aload_n 0, 1) := by decide +kernel
theorem dX1_find_55 : decode cX1_find 55 = .ok (.getfield 32, 3) := by decide +kernel
theorem dX1_find_58 : decode cX1_find 58 = .ok (.invokevirtual 62, 3) := by decide +kernel
theorem dX1_find_61 : decode cX1_find 61 = .ok (.ifCond .eq 113, 3) := by decide +kernel
theorem dX1_find_64 : decode cX1_find 64 = .ok (.aload_n 2, 1) := by decide +kernel
theorem dX1_find_65 : decode cX1_find 65 = .ok (.getfield 53, 3) := by decide +kernel
theorem dX1_find_68 : decode cX1_find 68 = .ok (.ifCond .ne 14, 3) := by decide +kernel
theorem dX1_find_71 : decode cX1_find 71 = .ok (.aload_n 2, 1) := by decide +kernel
theorem dX1_find_72 : decode cX1_find 72 = .ok (.aload_n 0, 1) := by decide +kernel
theorem dX1_find_73 : decode cX1_find 73 = .ok (.getfield 32, 3) := by decide +kernel
theorem dX1_find_76 : decode cX1_find 76 = .ok (.invokevirtual 66, 3) := by decide +kernel
theorem dX1_find_79 : decode cX1_find 79 = .ok (.ifCond .ne 89, 3) := by decide +kernel
theorem dX1_find_82 : decode cX1_find 82 = .ok (.aload_n 2, 1) := by decide +kernel
theorem dX1_find_83 : decode cX1_find 83 = .ok (.getfield 70, 3) := by decide +kernel
theorem dX1_find_86 : decode cX1_find 86 = .ok (.iconst (-1), 1) := by decide +kernel
theorem dX1_find_87 : decode cX1_find 87 = .ok (.if_icmp .ne 48, 3) := by decide +kernel
theorem dX1_find_90 : decode cX1_find 90 = .ok (.aload_n 0, 1) := by decide +kernel
theorem dX1_find_91 : decode cX1_find 91 = .ok (.getfield 14, 3) := by decide +kernel
theorem dX1_find_94 : decode cX1_find 94 = .ok (.invokevirtual 73, 3) := by decide +kernel
theorem dX1_find_97 : decode cX1_find 97 = .ok (.istore 4, 2) := by decide +kernel
theorem dX1_find_99 : decode cX1_find 99 = .ok (.aload_n 0, 1) := by decide +kernel
theorem dX1_find_100 : decode cX1_find 100 = .ok (.aload_n 0, 1) := by decide +kernel
theorem dX1_find_101 : decode cX1_find 101 = .ok (.getfield 14, 3) := by decide +kernel
theorem dX1_find_104 : decode cX1_find 104 = .ok (.aload_n 0, 1) := by decide +kernel
theorem dX1_find_105 : decode cX1_find 105 = .ok (.getfield 20, 3) := by decide +kernel
theorem dX1_find_108 : decode cX1_find 108 = .ok (.invokevirtual 77, 3) := by decide +kernel
theorem dX1_find_111 : decode cX1_find 111 = .ok (.aload_n 0, 1) := by decide +kernel
theorem dX1_find_112 : decode cX1_find 112 = .ok (.aload_n 2, 1) := by decide +kernel
theorem dX1_find_113 : decode cX1_find 113 = .ok (.iload 4, 2) := by decide +kernel
theorem dX1_find_115 : decode cX1_find 115 = .ok (.aload_n 0, 1) := by decide +kernel
theorem dX1_find_116 : decode cX1_find 116 = .ok (.getfield 32, 3) := by decide +kernel
theorem dX1_find_119 : decode cX1_find 119 = .ok (.getfield 81, 3) := by decide +kernel
theorem dX1_find_122 : decode cX1_find 122 = .ok (.aload_n 0, 1) := by decide +kernel
theorem dX1_find_123 : decode cX1_find 123 = .ok (.getfield 32, 3) := by decide +kernel
theorem dX1_find_126 : decode cX1_find 126 = .ok (.getfield 84, 3) := by decide +kernel
theorem dX1_find_129 : decode cX1_find 129 = .ok (.invokevirtual 87, 3) := by decide +kernel
theorem dX1_find_132 : decode cX1_find 132 = .ok (.goto 36, 3) := by decide +kernel
theorem dX1_find_135 : decode cX1_find 135 = .ok (.aload_n 0, 1) := by decide +kernel
theorem dX1_find_136 : decode cX1_find 136 = .ok (.getfield 23, 3) := by decide +kernel
theorem dX1_find_139 : decode cX1_find 139 = .ok (.iconst 0, 1) := by decide +kernel
theorem dX1_find_140 : decode cX1_find 140 = .ok (.invokevirtual 50, 3) := by decide +kernel
theorem dX1_find_143 : decode cX1_find 143 = .ok (.aload_n 0, 1) := by decide +kernel
theorem dX1_find_144 : decode cX1_find 144 = .ok (.getfield 26, 3) := by decide +kernel
theorem dX1_find_147 : decode cX1_find 147 = .ok (.iconst 0, 1) := by decide +kernel
theorem dX1_find_148 : decode cX1_find 148 = .ok (.invokevirtual 50, 3) := by decide +kernel
theorem dX1_find_151 : decode cX1_find 151 = .ok (.aload_n 0, 1) := by decide +kernel
theorem dX1_find_152 : decode cX1_find 152 = .ok (.aload_n 0, 1) := by decide +kernel
theorem dX1_find_153 : decode cX1_find 153 = .ok (.getfield 23, 3) := by decide +kernel
theorem dX1_find_156 : decode cX1_find 156 = .ok (.aload_n 0, 1) := by decide +kernel
theorem dX1_find_157 : decode cX1_find 157 = .ok (.getfield 26, 3) := by decide +kernel
theorem dX1_find_160 : decode cX1_find 160 = .ok (.invokevirtual 77, 3) := by decide +kernel
theorem dX1_find_163 : decode cX1_find 163 = .ok (.aload_n 0, 1) := by decide +kernel
theorem dX1_find_164 : decode cX1_find 164 = .ok (.aload_n 2, 1) := by decide +kernel
theorem dX1_find_165 : decode cX1_find 165 = .ok (.invokevirtual 91, 3) := by decide +kernel
theorem dX1_find_168 : decode cX1_find 168 = .ok (.iinc 3 1, 3) := by decide +kernel
theorem dX1_find_171 : decode cX1_find 171 = .ok (.goto (-136), 3) := by decide +kernel
theorem dX1_find_174 : decode cX1_find 174 = .ok (.return_, 1) := by decide +kernel
theorem dX1_get_0 : decode cX1_get 0 = .ok (.iload_n 1, 1) := by decide +kernel
theorem dX1_get_1 : decode cX1_get 1 = .ok (.ifCond .lt 29, 3) := by decide +kernel
theorem dX1_get_4 : decode cX1_get 4 = .ok (.iload_n 1, 1) := by decide +kernel
theorem dX1_get_5 : decode cX1_get 5 = .ok (.aload_n 0, 1) := by decide +kernel
theorem dX1_get_6 : decode cX1_get 6 = .ok (.getfield 46, 3) := by decide +kernel
theorem dX1_get_9 : decode cX1_get 9 = .ok (.if_icmp .ge 21, 3) := by decide +kernel
theorem dX1_get_12 : decode cX1_get 12 = .ok (.iload_n 1, 1) := by decide +kernel
theorem dX1_get_13 : decode cX1_get 13 = .ok (.aload_n 0, 1) := by decide +kernel
theorem dX1_get_14 : decode cX1_get 14 = .ok (.getfield 41, 3) := by decide +kernel
theorem dX1_get_17 : decode cX1_get 17 = .ok (.arraylength, 1) := by decide +kernel
theorem dX1_get_18 : decode cX1_get 18 = .ok (.if_icmp .ge 12, 3) := by decide +kernel
theorem dX1_get_21 : decode cX1_get 21 = .ok (.aload_n 0, 1) := by decide +kernel
theorem dX1_get_22 : decode cX1_get 22 = .ok (.getfield 41, 3) := by decide +kernel
theorem dX1_get_25 : decode cX1_get 25 = .ok (.iload_n 1, 1) := by decide +kernel
theorem dX1_get_26 : decode cX1_get 26 = .ok (.aaload, 1) := by decide +kernel
theorem dX1_get_27 : decode cX1_get 27 = .ok (.goto 4, 3) := by decide +kernel
theorem dX1_get_30 : decode cX1_get 30 = .ok (.aconst_null, 1) := by decide +kernel
theorem dX1_get_31 : decode cX1_get 31 = .ok (.areturn, 1) := by decide +kernel
theorem dX1_hasLikeAhead_0 : decode cX1_hasLikeAhead 0 = .ok (.iconst 0, 1) := by decide +kernel
theorem dX1_hasLikeAhead_1 : decode cX1_hasLikeAhead 1 = .ok (.istore_n 2, 1) := by decide +kernel
theorem dX1_hasLikeAhead_2 : decode cX1_hasLikeAhead 2 = .ok (.iload_n 2, 1) := by decide +kernel
theorem dX1_hasLikeAhead_3 : decode cX1_hasLikeAhead 3 = .ok (.iload_n 1, 1) := by decide +kernel
theorem dX1_hasLikeAhead_4 : decode cX1_hasLikeAhead 4 = .ok (.if_icmp .ge 20, 3) := by decide +kernel
theorem dX1_hasLikeAhead_7 : decode cX1_hasLikeAhead 7 = .ok (.aload_n 0, 1) := by decide +kernel
theorem dX1_hasLikeAhead_8 : decode cX1_hasLikeAhead 8 = .ok (.iload_n 1, 1) := by decide +kernel
end
/-! part 30b.dec -/
section
theorem dX1_hasLikeAhead_9 : decode cX1_hasLikeAhead 9 = .ok (.iload_n 2, 1) := by decide +kernel
theorem dX1_hasLikeAhead_10 : decode cX1_hasLikeAhead 10 = .ok (.invokevirtual 161, 3) := by decide +kernel
theorem dX1_hasLikeAhead_13 : decode cX1_hasLikeAhead 13 = .ok (.ifCond .eq 5, 3) := by decide +kernel
theorem dX1_hasLikeAhead_16 : decode cX1_hasLikeAhead 16 = .ok (.iconst 1, 1) := by decide +kernel
theorem dX1_hasLikeAhead_17 : decode cX1_hasLikeAhead 17 = .ok (.ireturn, 1) := by decide +kernel
theorem dX1_hasLikeAhead_18 : decode cX1_hasLikeAhead 18 = .ok (.iinc 2 1, 3) := by decide +kernel
theorem dX1_hasLikeAhead_21 : decode cX1_hasLikeAhead 21 = .ok (.goto (-19), 3) := by decide +kernel
theorem dX1_hasLikeAhead_24 : decode cX1_hasLikeAhead 24 = .ok (.iconst 0, 1) := by decide +kernel
theorem dX1_hasLikeAhead_25 : decode cX1_hasLikeAhead 25 = .ok (.ireturn, 1) := by decide +kernel
theorem dX1_likeCount_0 : decode cX1_likeCount 0 = .ok (.iconst 0, 1) := by decide +kernel
theorem dX1_likeCount_1 : decode cX1_likeCount 1 = .ok (.istore_n 2, 1) := by decide +kernel
theorem dX1_likeCount_2 : decode cX1_likeCount 2 = .ok (.iconst 0, 1) := by decide +kernel
theorem dX1_likeCount_3 : decode cX1_likeCount 3 = .ok (.istore_n 3, 1) := by decide +kernel
theorem dX1_likeCount_4 : decode cX1_likeCount 4 = .ok (.iload_n 3, 1) := by decide +kernel
theorem dX1_likeCount_5 : decode cX1_likeCount 5 = .ok (.aload_n 0, 1) := by decide +kernel
theorem dX1_likeCount_6 : decode cX1_likeCount 6 = .ok (.getfield 46, 3) := by decide +kernel
theorem dX1_likeCount_9 : decode cX1_likeCount 9 = .ok (.if_icmp .ge 21, 3) := by decide +kernel
theorem dX1_likeCount_12 : decode cX1_likeCount 12 = .ok (.aload_n 0, 1) := by decide +kernel
theorem dX1_likeCount_13 : decode cX1_likeCount 13 = .ok (.iload_n 1, 1) := by decide +kernel
theorem dX1_likeCount_14 : decode cX1_likeCount 14 = .ok (.iload_n 3, 1) := by decide +kernel
theorem dX1_likeCount_15 : decode cX1_likeCount 15 = .ok (.invokevirtual 161, 3) := by decide +kernel
theorem dX1_likeCount_18 : decode cX1_likeCount 18 = .ok (.ifCond .eq 6, 3) := by decide +kernel
theorem dX1_likeCount_21 : decode cX1_likeCount 21 = .ok (.iinc 2 1, 3) := by decide +kernel
theorem dX1_likeCount_24 : decode cX1_likeCount 24 = .ok (.iinc 3 1, 3) := by decide +kernel
theorem dX1_likeCount_27 : decode cX1_likeCount 27 = .ok (.goto (-23), 3) := by decide +kernel
theorem dX1_likeCount_30 : decode cX1_likeCount 30 = .ok (.iload_n 2, 1) := by decide +kernel
theorem dX1_likeCount_31 : decode cX1_likeCount 31 = .ok (.ireturn, 1) := by decide +kernel
theorem dX1_longestText_0 : decode cX1_longestText 0 = .ok (.iconst 0, 1) := by decide +kernel
theorem dX1_longestText_1 : decode cX1_longestText 1 = .ok (.istore_n 1, 1) := by decide +kernel
theorem dX1_longestText_2 : decode cX1_longestText 2 = .ok (.iconst 0, 1) := by decide +kernel
theorem dX1_longestText_3 : decode cX1_longestText 3 = .ok (.istore_n 2, 1) := by decide +kernel
theorem dX1_longestText_4 : decode cX1_longestText 4 = .ok (.iload_n 2, 1) := by decide +kernel
theorem dX1_longestText_5 : decode cX1_longestText 5 = .ok (.aload_n 0, 1) := by decide +kernel
theorem dX1_longestText_6 : decode cX1_longestText 6 = .ok (.getfield 46, 3) := by decide +kernel
theorem dX1_longestText_9 : decode cX1_longestText 9 = .ok (.if_icmp .ge 32, 3) := by decide +kernel
theorem dX1_longestText_12 : decode cX1_longestText 12 = .ok (.aload_n 0, 1) := by decide +kernel
theorem dX1_longestText_13 : decode cX1_longestText 13 = .ok (.iload_n 2, 1) := by decide +kernel
theorem dX1_longestText_14 : decode cX1_longestText 14 = .ok (.invokevirtual 154, 3) := by decide +kernel
theorem dX1_longestText_17 : decode cX1_longestText 17 = .ok (.astore_n 3, 1) := by decide +kernel
theorem dX1_longestText_18 : decode cX1_longestText 18 = .ok (.aload_n 3, 1) := by decide +kernel
theorem dX1_longestText_19 : decode cX1_longestText 19 = .ok (.ifnonnull 7, 3) := by decide +kernel
theorem dX1_longestText_22 : decode cX1_longestText 22 = .ok (.iload_n 1, 1) := by decide +kernel
theorem dX1_longestText_23 : decode cX1_longestText 23 = .ok (.goto 11, 3) := by decide +kernel
theorem dX1_longestText_26 : decode cX1_longestText 26 = .ok (.iload_n 1, 1) := by decide +kernel
theorem dX1_longestText_27 : decode cX1_longestText 27 = .ok (.aload_n 3, 1) := by decide +kernel
theorem dX1_longestText_28 : decode cX1_longestText 28 = .ok (.getfield 133, 3) := by decide +kernel
theorem dX1_longestText_31 : decode cX1_longestText 31 = .ok (.invokestatic 108, 3) := by decide +kernel
theorem dX1_longestText_34 : decode cX1_longestText 34 = .ok (.istore_n 1, 1) := by decide +kernel
theorem dX1_longestText_35 : decode cX1_longestText 35 = .ok (.iinc 2 1, 3) := by decide +kernel
theorem dX1_longestText_38 : decode cX1_longestText 38 = .ok (.goto (-34), 3) := by decide +kernel
theorem dX1_longestText_41 : decode cX1_longestText 41 = .ok (.iload_n 1, 1) := by decide +kernel
theorem dX1_longestText_42 : decode cX1_longestText 42 = .ok (.ireturn, 1) := by decide +kernel
theorem dX1_readOuter_0 : decode cX1_readOuter 0 = .ok (.aload_n 0, 1) := by decide +kernel
theorem dX1_readOuter_1 : decode cX1_readOuter 1 = .ok (.getfield 32, 3) := by decide +kernel
theorem dX1_readOuter_4 : decode cX1_readOuter 4 = .ok (.getfield 81, 3) := by decide +kernel
theorem dX1_readOuter_7 : decode cX1_readOuter 7 = .ok (.istore_n 3, 1) := by decide +kernel
theorem dX1_readOuter_8 : decode cX1_readOuter 8 = .ok (.iload_n 3, 1) := by decide +kernel
theorem dX1_readOuter_9 : decode cX1_readOuter 9 = .ok (.aload_n 0, 1) := by decide +kernel
theorem dX1_readOuter_10 : decode cX1_readOuter 10 = .ok (.getfield 32, 3) := by decide +kernel
theorem dX1_readOuter_13 : decode cX1_readOuter 13 = .ok (.getfield 84, 3) := by decide +kernel
theorem dX1_readOuter_16 : decode cX1_readOuter 16 = .ok (.if_icmp .ge 46, 3) := by decide +kernel
theorem dX1_readOuter_19 : decode cX1_readOuter 19 = .ok (.aload_n 0, 1) := by decide +kernel
theorem dX1_readOuter_20 : decode cX1_readOuter 20 = .ok (.getfield 32, 3) := by decide +kernel
theorem dX1_readOuter_23 : decode cX1_readOuter 23 = .ok (.iload_n 3, 1) := by decide +kernel
theorem dX1_readOuter_24 : decode cX1_readOuter 24 = .ok (.invokevirtual 95, 3) := by decide +kernel
theorem dX1_readOuter_27 : decode cX1_readOuter 27 = .ok (.aload_n 1, 1) := by decide +kernel
theorem dX1_readOuter_28 : decode cX1_readOuter 28 = .ok (.aload_n 0, 1) := by decide +kernel
theorem dX1_readOuter_29 : decode cX1_readOuter 29 = .ok (.getfield 32, 3) := by decide +kernel
theorem dX1_readOuter_32 : decode cX1_readOuter 32 = .ok (.getfield 98, 3) := by decide +kernel
theorem dX1_readOuter_35 : decode cX1_readOuter 35 = .ok (.invokevirtual 101, 3) := by decide +kernel
theorem dX1_readOuter_38 : decode cX1_readOuter 38 = .ok (.pop, 1) := by decide +kernel
theorem dX1_readOuter_39 : decode cX1_readOuter 39 = .ok (.aload_n 2, 1) := by decide +kernel
theorem dX1_readOuter_40 : decode cX1_readOuter 40 = .ok (.iload_n 3, 1) := by decide +kernel
theorem dX1_readOuter_41 : decode cX1_readOuter 41 = .ok (.invokevirtual 101, 3) := by decide +kernel
theorem dX1_readOuter_44 : decode cX1_readOuter 44 = .ok (.pop, 1) := by decide +kernel
theorem dX1_readOuter_45 : decode cX1_readOuter 45 = .ok (.iload_n 3, 1) := by decide +kernel
theorem dX1_readOuter_46 : decode cX1_readOuter 46 = .ok (.iconst 1, 1) := by decide +kernel
theorem dX1_readOuter_47 : decode cX1_readOuter 47 = .ok (.aload_n 0, 1) := by decide +kernel
theorem dX1_readOuter_48 : decode cX1_readOuter 48 = .ok (.getfield 32, 3) := by decide +kernel
theorem dX1_readOuter_51 : decode cX1_readOuter 51 = .ok (.getfield 105, 3) := by decide +kernel
theorem dX1_readOuter_54 : decode cX1_readOuter 54 = .ok (.invokestatic 108, 3) := by decide +kernel
theorem dX1_readOuter_57 : decode cX1_readOuter 57 = .ok (.iadd, 1) := by decide +kernel
theorem dX1_readOuter_58 : decode cX1_readOuter 58 = .ok (.istore_n 3, 1) := by decide +kernel
theorem dX1_readOuter_59 : decode cX1_readOuter 59 = .ok (.goto (-51), 3) := by decide +kernel
theorem dX1_readOuter_62 : decode cX1_readOuter 62 = .ok (.return_, 1) := by decide +kernel
theorem dX1_settle_0 : decode cX1_settle 0 = .ok (.aload_n 0, 1) := by decide +kernel
theorem dX1_settle_1 : decode cX1_settle 1 = .ok (.getfield 46, 3) := by decide +kernel
theorem dX1_settle_4 : decode cX1_settle 4 = .ok (.ifCond .lt 27, 3) := by decide +kernel
theorem dX1_settle_7 : decode cX1_settle 7 = .ok (.aload_n 0, 1) := by decide +kernel
theorem dX1_settle_8 : decode cX1_settle 8 = .ok (.getfield 46, 3) := by decide +kernel
theorem dX1_settle_11 : decode cX1_settle 11 = .ok (.aload_n 0, 1) := by decide +kernel
theorem dX1_settle_12 : decode cX1_settle 12 = .ok (.getfield 41, 3) := by decide +kernel
theorem dX1_settle_15 : decode cX1_settle 15 = .ok (.arraylength, 1) := by decide +kernel
theorem dX1_settle_16 : decode cX1_settle 16 = .ok (.if_icmp .ge 15, 3) := by decide +kernel
theorem dX1_settle_19 : decode cX1_settle 19 = .ok (.aload_n 0, 1) := by decide +kernel
theorem dX1_settle_20 : decode cX1_settle 20 = .ok (.getfield 41, 3) := by decide +kernel
theorem dX1_settle_23 : decode cX1_settle 23 = .ok (.aload_n 0, 1) := by decide +kernel
theorem dX1_settle_24 : decode cX1_settle 24 = .ok (.getfield 46, 3) := by decide +kernel
theorem dX1_settle_27 : decode cX1_settle 27 = .ok (.aaload, 1) := by decide +kernel
theorem dX1_settle_28 : decode cX1_settle 28 = .ok (.goto 4, 3) := by decide +kernel
theorem dX1_settle_31 : decode cX1_settle 31 = .ok (.aconst_null, 1) := by decide +kernel
theorem dX1_settle_32 : decode cX1_settle 32 = .ok (.astore 5, 2) := by decide +kernel
theorem dX1_settle_34 : decode cX1_settle 34 = .ok (.aload_n 0, 1) := by decide +kernel
theorem dX1_settle_35 : decode cX1_settle 35 = .ok (.getfield 14, 3) := by decide +kernel
theorem dX1_settle_38 : decode cX1_settle 38 = .ok (.invokevirtual 73, 3) := by decide +kernel
theorem dX1_settle_41 : decode cX1_settle 41 = .ok (.iload_n 2, 1) := by decide +kernel
theorem dX1_settle_42 : decode cX1_settle 42 = .ok (.isub, 1) := by decide +kernel
theorem dX1_settle_43 : decode cX1_settle 43 = .ok (.istore 6, 2) := by decide +kernel
theorem dX1_settle_45 : decode cX1_settle 45 = .ok (.aload 5, 2) := by decide +kernel
theorem dX1_settle_47 : decode cX1_settle 47 = .ok (.ifnull 30, 3) := by decide +kernel
theorem dX1_settle_50 : decode cX1_settle 50 = .ok (.iload 6, 2) := by decide +kernel
theorem dX1_settle_52 : decode cX1_settle 52 = .ok (.aload_n 1, 1) := by decide +kernel
theorem dX1_settle_53 : decode cX1_settle 53 = .ok (.getfield 118, 3) := by decide +kernel
theorem dX1_settle_56 : decode cX1_settle 56 = .ok (.if_icmp .lt 21, 3) := by decide +kernel
theorem dX1_settle_59 : decode cX1_settle 59 = .ok (.aload_n 1, 1) := by decide +kernel
theorem dX1_settle_60 : decode cX1_settle 60 = .ok (.getfield 121, 3) := by decide +kernel
theorem dX1_settle_63 : decode cX1_settle 63 = .ok (.ifCond .eq 31, 3) := by decide +kernel
theorem dX1_settle_66 : decode cX1_settle 66 = .ok (.aload_n 0, 1) := by decide +kernel
theorem dX1_settle_67 : decode cX1_settle 67 = .ok (.getfield 14, 3) := by decide +kernel
theorem dX1_settle_70 : decode cX1_settle 70 = .ok (.iload_n 2, 1) := by decide +kernel
theorem dX1_settle_71 : decode cX1_settle 71 = .ok (.invokevirtual 125, 3) := by decide +kernel
theorem dX1_settle_74 : decode cX1_settle 74 = .ok (.ifCond .ne 20, 3) := by decide +kernel
theorem dX1_settle_77 : decode cX1_settle 77 = .ok (.aload_n 0, 1) := by decide +kernel
theorem dX1_settle_78 : decode cX1_settle 78 = .ok (.getfield 14, 3) := by decide +kernel
theorem dX1_settle_81 : decode cX1_settle 81 = .ok (.iload_n 2, 1) := by decide +kernel
theorem dX1_settle_82 : decode cX1_settle 82 = .ok (.invokevirtual 50, 3) := by decide +kernel
theorem dX1_settle_85 : decode cX1_settle 85 = .ok (.aload_n 0, 1) := by decide +kernel
theorem dX1_settle_86 : decode cX1_settle 86 = .ok (.getfield 20, 3) := by decide +kernel
theorem dX1_settle_89 : decode cX1_settle 89 = .ok (.iload_n 2, 1) := by decide +kernel
theorem dX1_settle_90 : decode cX1_settle 90 = .ok (.invokevirtual 50, 3) := by decide +kernel
theorem dX1_settle_93 : decode cX1_settle 93 = .ok (.return_, 1) := by decide +kernel
theorem dX1_settle_94 : decode cX1_settle 94 = .ok (.aload_n 0, 1) := by decide +kernel
theorem dX1_settle_95 : decode cX1_settle 95 = .ok (.dup, 1) := by decide +kernel
theorem dX1_settle_96 : decode cX1_settle 96 = .ok (.getfield 46, 3) := by decide +kernel
theorem dX1_settle_99 : decode cX1_settle 99 = .ok (.iconst 1, 1) := by decide +kernel
theorem dX1_settle_100 : decode cX1_settle 100 = .ok (.iadd, 1) := by decide +kernel
theorem dX1_settle_101 : decode cX1_settle 101 = .ok (.putfield 46, 3) := by decide +kernel
theorem dX1_settle_104 : decode cX1_settle 104 = .ok (.aload 5, 2) := by decide +kernel
theorem dX1_settle_106 : decode cX1_settle 106 = .ok (.iload_n 3, 1) := by decide +kernel
theorem dX1_settle_107 : decode cX1_settle 107 = .ok (.putfield 128, 3) := by decide +kernel
theorem dX1_settle_110 : decode cX1_settle 110 = .ok (.aload 5, 2) := by decide +kernel
theorem dX1_settle_112 : decode cX1_settle 112 = .ok (.iload 4, 2) := by decide +kernel
theorem dX1_settle_114 : decode cX1_settle 114 = .ok (.putfield 129, 3) := by decide +kernel
theorem dX1_settle_117 : decode cX1_settle 117 = .ok (.aload 5, 2) := by decide +kernel
theorem dX1_settle_119 : decode cX1_settle 119 = .ok (.iload_n 2, 1) := by decide +kernel
theorem dX1_settle_120 : decode cX1_settle 120 = .ok (.putfield 130, 3) := by decide +kernel
theorem dX1_settle_123 : decode cX1_settle 123 = .ok (.aload 5, 2) := by decide +kernel
theorem dX1_settle_125 : decode cX1_settle 125 = .ok (.iload 6, 2) := by decide +kernel
theorem dX1_settle_127 : decode cX1_settle 127 = .ok (.putfield 133, 3) := by decide +kernel
theorem dX1_settle_130 : decode cX1_settle 130 = .ok (.aload 5, 2) := by decide +kernel
theorem dX1_settle_132 : decode cX1_settle 132 = .ok (.aload_n 0, 1) := by decide +kernel
theorem dX1_settle_133 : decode cX1_settle 133 = .ok (.getfield 32, 3) := by decide +kernel
theorem dX1_settle_136 : decode cX1_settle 136 = .ok (.getfield 136, 3) := by decide +kernel
theorem dX1_settle_139 : decode cX1_settle 139 = .ok (.putfield 139, 3) := by decide +kernel
theorem dX1_settle_142 : decode cX1_settle 142 = .ok (.aload 5, 2) := by decide +kernel
theorem dX1_settle_144 : decode cX1_settle 144 = .ok (.aload_n 0, 1) := by decide +kernel
theorem dX1_settle_145 : decode cX1_settle 145 = .ok (.getfield 32, 3) := by decide +kernel
theorem dX1_settle_148 : decode cX1_settle 148 = .ok (.getfield 140, 3) := by decide +kernel
theorem dX1_settle_151 : decode cX1_settle 151 = .ok (.putfield 143, 3) := by decide +kernel
theorem dX1_settle_154 : decode cX1_settle 154 = .ok (.aload 5, 2) := by decide +kernel
theorem dX1_settle_156 : decode cX1_settle 156 = .ok (.aload_n 0, 1) := by decide +kernel
theorem dX1_settle_157 : decode cX1_settle 157 = .ok (.getfield 32, 3) := by decide +kernel
theorem dX1_settle_160 : decode cX1_settle 160 = .ok (.getfield 144, 3) := by decide +kernel
theorem dX1_settle_163 : decode cX1_settle 163 = .ok (.putfield 147, 3) := by decide +kernel
theorem dX1_settle_166 : decode cX1_settle 166 = .ok (.aload 5, 2) := by decide +kernel
theorem dX1_settle_168 : decode cX1_settle 168 = .ok (.aload_n 1, 1) := by decide +kernel
theorem dX1_settle_169 : decode cX1_settle 169 = .ok (.getfield 70, 3) := by decide +kernel
theorem dX1_settle_172 : decode cX1_settle 172 = .ok (.iconst 1, 1) := by decide +kernel
theorem dX1_settle_173 : decode cX1_settle 173 = .ok (.if_icmp .ne 17, 3) := by decide +kernel
theorem dX1_settle_176 : decode cX1_settle 176 = .ok (.aload_n 0, 1) := by decide +kernel
theorem dX1_settle_177 : decode cX1_settle 177 = .ok (.getfield 36, 3) := by decide +kernel
theorem dX1_settle_180 : decode cX1_settle 180 = .ok (.getfield 144, 3) := by decide +kernel
theorem dX1_settle_183 : decode cX1_settle 183 = .ok (.ifCond .eq 7, 3) := by decide +kernel
theorem dX1_settle_186 : decode cX1_settle 186 = .ok (.iconst 1, 1) := by decide +kernel
theorem dX1_settle_187 : decode cX1_settle 187 = .ok (.goto 4, 3) := by decide +kernel
theorem dX1_settle_190 : decode cX1_settle 190 = .ok (.iconst 0, 1) := by decide +kernel
theorem dX1_settle_191 : decode cX1_settle 191 = .ok (.putfield 148, 3) := by decide +kernel
theorem dX1_settle_194 : decode cX1_settle 194 = .ok (.aload 5, 2) := by decide +kernel
theorem dX1_settle_196 : decode cX1_settle 196 = .ok (.iload_n 3, 1) := by decide +kernel
theorem dX1_settle_197 : decode cX1_settle 197 = .ok (.aload_n 0, 1) := by decide +kernel
theorem dX1_settle_198 : decode cX1_settle 198 = .ok (.getfield 32, 3) := by decide +kernel
theorem dX1_settle_201 : decode cX1_settle 201 = .ok (.getfield 81, 3) := by decide +kernel
theorem dX1_settle_204 : decode cX1_settle 204 = .ok (.if_icmp .ne 7, 3) := by decide +kernel
theorem dX1_settle_207 : decode cX1_settle 207 = .ok (.iconst 1, 1) := by decide +kernel
theorem dX1_settle_208 : decode cX1_settle 208 = .ok (.goto 4, 3) := by decide +kernel
theorem dX1_settle_211 : decode cX1_settle 211 = .ok (.iconst 0, 1) := by decide +kernel
theorem dX1_settle_212 : decode cX1_settle 212 = .ok (.putfield 151, 3) := by decide +kernel
theorem dX1_settle_215 : decode cX1_settle 215 = .ok (.return_, 1) := by decide +kernel
theorem dX1_size_0 : decode cX1_size 0 = .ok (.aload_n 0, 1) := by decide +kernel
theorem dX1_size_1 : decode cX1_size 1 = .ok (.getfield 46, 3) := by decide +kernel
theorem dX1_size_4 : decode cX1_size 4 = .ok (.ireturn, 1) := by decide +kernel
theorem dX1_takeWithin_0 : decode cX1_takeWithin 0 = .ok (.aload_n 0, 1) := by decide +kernel
theorem dX1_takeWithin_1 : decode cX1_takeWithin 1 = .ok (.getfield 36, 3) := by decide +kernel
theorem dX1_takeWithin_4 : decode cX1_takeWithin 4 = .ok (.aload_n 0, 1) := by decide +kernel
theorem dX1_takeWithin_5 : decode cX1_takeWithin 5 = .ok (.getfield 23, 3) := by decide +kernel
theorem dX1_takeWithin_8 : decode cX1_takeWithin 8 = .ok (.aload_n 1, 1) := by decide +kernel
theorem dX1_takeWithin_9 : decode cX1_takeWithin 9 = .ok (.getfield 70, 3) := by decide +kernel
theorem dX1_takeWithin_12 : decode cX1_takeWithin 12 = .ok (.invokevirtual 58, 3) := by decide +kernel
theorem dX1_takeWithin_15 : decode cX1_takeWithin 15 = .ok (.iconst 0, 1) := by decide +kernel
theorem dX1_takeWithin_16 : decode cX1_takeWithin 16 = .ok (.istore_n 2, 1) := by decide +kernel
theorem dX1_takeWithin_17 : decode cX1_takeWithin 17 = .ok (.iload_n 2, 1) := by decide +kernel
theorem dX1_takeWithin_18 : decode cX1_takeWithin 18 = .ok (.sipush 600, 3) := by decide +kernel
theorem dX1_takeWithin_21 : decode cX1_takeWithin 21 = .ok (.if_icmp .gt 185, 3) := by decide +kernel
theorem dX1_takeWithin_24 : decode cX1_takeWithin 24 = .ok (.aload_n 0, 1) := by decide +kernel
theorem dX1_takeWithin_25 : decode cX1_takeWithin 25 = .ok (.getfield 46, 3) := by decide +kernel
theorem dX1_takeWithin_28 : decode cX1_takeWithin 28 = .ok (.aload_n 0, 1) := by decide +kernel
theorem dX1_takeWithin_29 : decode cX1_takeWithin 29 = .ok (.getfield 41, 3) := by decide +kernel
theorem dX1_takeWithin_32 : decode cX1_takeWithin 32 = .ok (.arraylength, 1) := by decide +kernel
theorem dX1_takeWithin_33 : decode cX1_takeWithin 33 = .ok (.if_icmp .ge 173, 3) := by decide +kernel
theorem dX1_takeWithin_36 : decode cX1_takeWithin 36 = .ok (.aload_n 0, 1) := by decide +kernel
theorem dX1_takeWithin_37 : decode cX1_takeWithin 37 = .ok (.getfield 36, 3) := by decide +kernel
theorem dX1_takeWithin_40 : decode cX1_takeWithin 40 = .ok (.invokevirtual 62, 3) := by decide +kernel
theorem dX1_takeWithin_43 : decode cX1_takeWithin 43 = .ok (.ifCond .eq 163, 3) := by decide +kernel
theorem dX1_takeWithin_46 : decode cX1_takeWithin 46 = .ok (.aload_n 0, 1) := by decide +kernel
theorem dX1_takeWithin_47 : decode cX1_takeWithin 47 = .ok (.getfield 14, 3) := by decide +kernel
theorem dX1_takeWithin_50 : decode cX1_takeWithin 50 = .ok (.invokevirtual 73, 3) := by decide +kernel
theorem dX1_takeWithin_53 : decode cX1_takeWithin 53 = .ok (.istore_n 3, 1) := by decide +kernel
theorem dX1_takeWithin_54 : decode cX1_takeWithin 54 = .ok (.aload_n 0, 1) := by decide +kernel
theorem dX1_takeWithin_55 : decode cX1_takeWithin 55 = .ok (.getfield 36, 3) := by decide +kernel
theorem dX1_takeWithin_58 : decode cX1_takeWithin 58 = .ok (.getfield 81, 3) := by decide +kernel
theorem dX1_takeWithin_61 : decode cX1_takeWithin 61 = .ok (.istore 4, 2) := by decide +kernel
theorem dX1_takeWithin_63 : decode cX1_takeWithin 63 = .ok (.iload 4, 2) := by decide +kernel
theorem dX1_takeWithin_65 : decode cX1_takeWithin 65 = .ok (.aload_n 0, 1) := by decide +kernel
theorem dX1_takeWithin_66 : decode cX1_takeWithin 66 = .ok (.getfield 36, 3) := by decide +kernel
theorem dX1_takeWithin_69 : decode cX1_takeWithin 69 = .ok (.getfield 84, 3) := by decide +kernel
theorem dX1_takeWithin_72 : decode cX1_takeWithin 72 = .ok (.if_icmp .ge 63, 3) := by decide +kernel
theorem dX1_takeWithin_75 : decode cX1_takeWithin 75 = .ok (.aload_n 0, 1) := by decide +kernel
theorem dX1_takeWithin_76 : decode cX1_takeWithin 76 = .ok (.getfield 36, 3) := by decide +kernel
theorem dX1_takeWithin_79 : decode cX1_takeWithin 79 = .ok (.iload 4, 2) := by decide +kernel
theorem dX1_takeWithin_81 : decode cX1_takeWithin 81 = .ok (.invokevirtual 95, 3) := by decide +kernel
theorem dX1_takeWithin_84 : decode cX1_takeWithin 84 = .ok (.aload_n 0, 1) := by decide +kernel
theorem dX1_takeWithin_85 : decode cX1_takeWithin 85 = .ok (.getfield 14, 3) := by decide +kernel
theorem dX1_takeWithin_88 : decode cX1_takeWithin 88 = .ok (.aload_n 0, 1) := by decide +kernel
theorem dX1_takeWithin_89 : decode cX1_takeWithin 89 = .ok (.getfield 36, 3) := by decide +kernel
theorem dX1_takeWithin_92 : decode cX1_takeWithin 92 = .ok (.getfield 98, 3) := by decide +kernel
theorem dX1_takeWithin_95 : decode cX1_takeWithin 95 = .ok (.invokevirtual 101, 3) := by decide +kernel
theorem dX1_takeWithin_98 : decode cX1_takeWithin 98 = .ok (.pop, 1) := by decide +kernel
theorem dX1_takeWithin_99 : decode cX1_takeWithin 99 = .ok (.aload_n 0, 1) := by decide +kernel
theorem dX1_takeWithin_100 : decode cX1_takeWithin 100 = .ok (.getfield 20, 3) := by decide +kernel
theorem dX1_takeWithin_103 : decode cX1_takeWithin 103 = .ok (.aload_n 0, 1) := by decide +kernel
theorem dX1_takeWithin_104 : decode cX1_takeWithin 104 = .ok (.getfield 26, 3) := by decide +kernel
theorem dX1_takeWithin_107 : decode cX1_takeWithin 107 = .ok (.iload 4, 2) := by decide +kernel
theorem dX1_takeWithin_109 : decode cX1_takeWithin 109 = .ok (.invokevirtual 114, 3) := by decide +kernel
theorem dX1_takeWithin_112 : decode cX1_takeWithin 112 = .ok (.invokevirtual 101, 3) := by decide +kernel
theorem dX1_takeWithin_115 : decode cX1_takeWithin 115 = .ok (.pop, 1) := by decide +kernel
theorem dX1_takeWithin_116 : decode cX1_takeWithin 116 = .ok (.iload 4, 2) := by decide +kernel
theorem dX1_takeWithin_118 : decode cX1_takeWithin 118 = .ok (.iconst 1, 1) := by decide +kernel
theorem dX1_takeWithin_119 : decode cX1_takeWithin 119 = .ok (.aload_n 0, 1) := by decide +kernel
theorem dX1_takeWithin_120 : decode cX1_takeWithin 120 = .ok (.getfield 36, 3) := by decide +kernel
theorem dX1_takeWithin_123 : decode cX1_takeWithin 123 = .ok (.getfield 105, 3) := by decide +kernel
theorem dX1_takeWithin_126 : decode cX1_takeWithin 126 = .ok (.invokestatic 108, 3) := by decide +kernel
theorem dX1_takeWithin_129 : decode cX1_takeWithin 129 = .ok (.iadd, 1) := by decide +kernel
theorem dX1_takeWithin_130 : decode cX1_takeWithin 130 = .ok (.istore 4, 2) := by decide +kernel
theorem dX1_takeWithin_132 : decode cX1_takeWithin 132 = .ok (.goto (-69), 3) := by decide +kernel
theorem dX1_takeWithin_135 : decode cX1_takeWithin 135 = .ok (.aload_n 0, 1) := by decide +kernel
theorem dX1_takeWithin_136 : decode cX1_takeWithin 136 = .ok (.getfield 36, 3) := by decide +kernel
theorem dX1_takeWithin_139 : decode cX1_takeWithin 139 = .ok (.getfield 84, 3) := by decide +kernel
theorem dX1_takeWithin_142 : decode cX1_takeWithin 142 = .ok (.aload_n 0, 1) := by decide +kernel
theorem dX1_takeWithin_143 : decode cX1_takeWithin 143 = .ok (.getfield 23, 3) := by decide +kernel
theorem dX1_takeWithin_146 : decode cX1_takeWithin 146 = .ok (.invokevirtual 73, 3) := by decide +kernel
theorem dX1_takeWithin_149 : decode cX1_takeWithin 149 = .ok (.if_icmp .ge 20, 3) := by decide +kernel
theorem dX1_takeWithin_152 : decode cX1_takeWithin 152 = .ok (.aload_n 0, 1) := by decide +kernel
theorem dX1_takeWithin_153 : decode cX1_takeWithin 153 = .ok (.getfield 26, 3) := by decide +kernel
theorem dX1_takeWithin_156 : decode cX1_takeWithin 156 = .ok (.aload_n 0, 1) := by decide +kernel
theorem dX1_takeWithin_157 : decode cX1_takeWithin 157 = .ok (.getfield 36, 3) := by decide +kernel
theorem dX1_takeWithin_160 : decode cX1_takeWithin 160 = .ok (.getfield 84, 3) := by decide +kernel
theorem dX1_takeWithin_163 : decode cX1_takeWithin 163 = .ok (.invokevirtual 114, 3) := by decide +kernel
theorem dX1_takeWithin_166 : decode cX1_takeWithin 166 = .ok (.goto 10, 3) := by decide +kernel
theorem dX1_takeWithin_169 : decode cX1_takeWithin 169 = .ok (.aload_n 0, 1) := by decide +kernel
theorem dX1_takeWithin_170 : decode cX1_takeWithin 170 = .ok (.getfield 32, 3) := by decide +kernel
theorem dX1_takeWithin_173 : decode cX1_takeWithin 173 = .ok (.getfield 84, 3) := by decide +kernel
theorem dX1_takeWithin_176 : decode cX1_takeWithin 176 = .ok (.istore 4, 2) := by decide +kernel
theorem dX1_takeWithin_178 : decode cX1_takeWithin 178 = .ok (.aload_n 0, 1) := by decide +kernel
theorem dX1_takeWithin_179 : decode cX1_takeWithin 179 = .ok (.aload_n 1, 1) := by decide +kernel
theorem dX1_takeWithin_180 : decode cX1_takeWithin 180 = .ok (.iload_n 3, 1) := by decide +kernel
theorem dX1_takeWithin_181 : decode cX1_takeWithin 181 = .ok (.aload_n 0, 1) := by decide +kernel
theorem dX1_takeWithin_182 : decode cX1_takeWithin 182 = .ok (.getfield 26, 3) := by decide +kernel
theorem dX1_takeWithin_185 : decode cX1_takeWithin 185 = .ok (.aload_n 0, 1) := by decide +kernel
theorem dX1_takeWithin_186 : decode cX1_takeWithin 186 = .ok (.getfield 36, 3) := by decide +kernel
theorem dX1_takeWithin_189 : decode cX1_takeWithin 189 = .ok (.getfield 81, 3) := by decide +kernel
theorem dX1_takeWithin_192 : decode cX1_takeWithin 192 = .ok (.invokevirtual 114, 3) := by decide +kernel
theorem dX1_takeWithin_195 : decode cX1_takeWithin 195 = .ok (.iload 4, 2) := by decide +kernel
theorem dX1_takeWithin_197 : decode cX1_takeWithin 197 = .ok (.invokevirtual 87, 3) := by decide +kernel
theorem dX1_takeWithin_200 : decode cX1_takeWithin 200 = .ok (.iinc 2 1, 3) := by decide +kernel
theorem dX1_takeWithin_203 : decode cX1_takeWithin 203 = .ok (.goto (-186), 3) := by decide +kernel
theorem dX1_takeWithin_206 : decode cX1_takeWithin 206 = .ok (.return_, 1) := by decide +kernel
theorem dX1_textByte_0 : decode cX1_textByte 0 = .ok (.iload_n 2, 1) := by decide +kernel
theorem dX1_textByte_1 : decode cX1_textByte 1 = .ok (.ifCond .lt 27, 3) := by decide +kernel
theorem dX1_textByte_4 : decode cX1_textByte 4 = .ok (.iload_n 2, 1) := by decide +kernel
theorem dX1_textByte_5 : decode cX1_textByte 5 = .ok (.aload_n 1, 1) := by decide +kernel
theorem dX1_textByte_6 : decode cX1_textByte 6 = .ok (.getfield 133, 3) := by decide +kernel
theorem dX1_textByte_9 : decode cX1_textByte 9 = .ok (.if_icmp .ge 19, 3) := by decide +kernel
theorem dX1_textByte_12 : decode cX1_textByte 12 = .ok (.aload_n 0, 1) := by decide +kernel
theorem dX1_textByte_13 : decode cX1_textByte 13 = .ok (.getfield 14, 3) := by decide +kernel
theorem dX1_textByte_16 : decode cX1_textByte 16 = .ok (.aload_n 1, 1) := by decide +kernel
theorem dX1_textByte_17 : decode cX1_textByte 17 = .ok (.getfield 130, 3) := by decide +kernel
theorem dX1_textByte_20 : decode cX1_textByte 20 = .ok (.iload_n 2, 1) := by decide +kernel
theorem dX1_textByte_21 : decode cX1_textByte 21 = .ok (.iadd, 1) := by decide +kernel
theorem dX1_textByte_22 : decode cX1_textByte 22 = .ok (.invokevirtual 114, 3) := by decide +kernel
theorem dX1_textByte_25 : decode cX1_textByte 25 = .ok (.goto 4, 3) := by decide +kernel
theorem dX1_textByte_28 : decode cX1_textByte 28 = .ok (.iconst (-1), 1) := by decide +kernel
theorem dX1_textByte_29 : decode cX1_textByte 29 = .ok (.ireturn, 1) := by decide +kernel
theorem dX1_unlikeCount_0 : decode cX1_unlikeCount 0 = .ok (.iconst 0, 1) := by decide +kernel
theorem dX1_unlikeCount_1 : decode cX1_unlikeCount 1 = .ok (.istore_n 1, 1) := by decide +kernel
theorem dX1_unlikeCount_2 : decode cX1_unlikeCount 2 = .ok (.iconst 0, 1) := by decide +kernel
theorem dX1_unlikeCount_3 : decode cX1_unlikeCount 3 = .ok (.istore_n 2, 1) := by decide +kernel
theorem dX1_unlikeCount_4 : decode cX1_unlikeCount 4 = .ok (.iload_n 2, 1) := by decide +kernel
theorem dX1_unlikeCount_5 : decode cX1_unlikeCount 5 = .ok (.aload_n 0, 1) := by decide +kernel
theorem dX1_unlikeCount_6 : decode cX1_unlikeCount 6 = .ok (.getfield 46, 3) := by decide +kernel
theorem dX1_unlikeCount_9 : decode cX1_unlikeCount 9 = .ok (.if_icmp .ge 20, 3) := by decide +kernel
theorem dX1_unlikeCount_12 : decode cX1_unlikeCount 12 = .ok (.aload_n 0, 1) := by decide +kernel
theorem dX1_unlikeCount_13 : decode cX1_unlikeCount 13 = .ok (.iload_n 2, 1) := by decide +kernel
theorem dX1_unlikeCount_14 : decode cX1_unlikeCount 14 = .ok (.invokevirtual 165, 3) := by decide +kernel
theorem dX1_unlikeCount_17 : decode cX1_unlikeCount 17 = .ok (.ifCond .ne 6, 3) := by decide +kernel
theorem dX1_unlikeCount_20 : decode cX1_unlikeCount 20 = .ok (.iinc 1 1, 3) := by decide +kernel
theorem dX1_unlikeCount_23 : decode cX1_unlikeCount 23 = .ok (.iinc 2 1, 3) := by decide +kernel
theorem dX1_unlikeCount_26 : decode cX1_unlikeCount 26 = .ok (.goto (-22), 3) := by decide +kernel
theorem dX1_unlikeCount_29 : decode cX1_unlikeCount 29 = .ok (.iload_n 1, 1) := by decide +kernel
theorem dX1_unlikeCount_30 : decode cX1_unlikeCount 30 = .ok (.ireturn, 1) := by decide +kernel
theorem dX2_init_0 : decode cX2_init 0 = .ok (.aload_n 0, 1) := by decide +kernel
theorem dX2_init_1 : decode cX2_init 1 = .ok (.invokespecial 1, 3) := by decide +kernel
theorem dX2_init_4 : decode cX2_init 4 = .ok (.aload_n 0, 1) := by decide +kernel
theorem dX2_init_5 : decode cX2_init 5 = .ok (.aload_n 1, 1) := by decide +kernel
theorem dX2_init_6 : decode cX2_init 6 = .ok (.putfield 7, 3) := by decide +kernel
theorem dX2_init_9 : decode cX2_init 9 = .ok (.aload_n 0, 1) := by decide +kernel
theorem dX2_init_10 : decode cX2_init 10 = .ok (.aload_n 2, 1) := by decide +kernel
theorem dX2_init_11 : decode cX2_init 11 = .ok (.putfield 13, 3) := by decide +kernel
theorem dX2_init_14 : decode cX2_init 14 = .ok (.aload_n 0, 1) := by decide +kernel
theorem dX2_init_15 : decode cX2_init 15 = .ok (.aload_n 3, 1) := by decide +kernel
theorem dX2_init_16 : decode cX2_init 16 = .ok (.putfield 16, 3) := by decide +kernel
theorem dX2_init_19 : decode cX2_init 19 = .ok (.return_, 1) := by decide +kernel
theorem dX3_mayBeginInBuilt_0 : decode cX3_mayBeginInBuilt 0 = .ok (.iload_n 1, 1) := by decide +kernel
theorem dX3_mayBeginInBuilt_1 : decode cX3_mayBeginInBuilt 1 = .ok (.aload_n 0, 1) := by decide +kernel
theorem dX3_mayBeginInBuilt_2 : decode cX3_mayBeginInBuilt 2 = .ok (.getfield 7, 3) := by decide +kernel
theorem dX3_mayBeginInBuilt_5 : decode cX3_mayBeginInBuilt 5 = .ok (.if_icmp .eq 23, 3) := by decide +kernel
theorem dX3_mayBeginInBuilt_8 : decode cX3_mayBeginInBuilt 8 = .ok (.aload_n 0, 1) := by decide +kernel
theorem dX3_mayBeginInBuilt_9 : decode cX3_mayBeginInBuilt 9 = .ok (.getfield 13, 3) := by decide +kernel
theorem dX3_mayBeginInBuilt_12 : decode cX3_mayBeginInBuilt 12 = .ok (.ifCond .le 20, 3) := by decide +kernel
theorem dX3_mayBeginInBuilt_15 : decode cX3_mayBeginInBuilt 15 = .ok (.iload_n 1, 1) := by decide +kernel
theorem dX3_mayBeginInBuilt_16 : decode cX3_mayBeginInBuilt 16 = .ok (.aload_n 0, 1) := by decide +kernel
theorem dX3_mayBeginInBuilt_17 : decode cX3_mayBeginInBuilt 17 = .ok (.getfield 7, 3) := by decide +kernel
theorem dX3_mayBeginInBuilt_20 : decode cX3_mayBeginInBuilt 20 = .ok (.aload_n 0, 1) := by decide +kernel
theorem dX3_mayBeginInBuilt_21 : decode cX3_mayBeginInBuilt 21 = .ok (.getfield 13, 3) := by decide +kernel
theorem dX3_mayBeginInBuilt_24 : decode cX3_mayBeginInBuilt 24 = .ok (.iadd, 1) := by decide +kernel
theorem dX3_mayBeginInBuilt_25 : decode cX3_mayBeginInBuilt 25 = .ok (.if_icmp .ne 7, 3) := by decide +kernel
theorem dX3_mayBeginInBuilt_28 : decode cX3_mayBeginInBuilt 28 = .ok (.iconst 1, 1) := by decide +kernel
theorem dX3_mayBeginInBuilt_29 : decode cX3_mayBeginInBuilt 29 = .ok (.goto 4, 3) := by decide +kernel
theorem dX3_mayBeginInBuilt_32 : decode cX3_mayBeginInBuilt 32 = .ok (.iconst 0, 1) := by decide +kernel
theorem dX3_mayBeginInBuilt_33 : decode cX3_mayBeginInBuilt 33 = .ok (.ireturn, 1) := by decide +kernel
theorem dX4_actNamed_0 : decode cX4_actNamed 0 = .ok (.iconst 0, 1) := by decide +kernel
theorem dX4_actNamed_1 : decode cX4_actNamed 1 = .ok (.istore_n 3, 1) := by decide +kernel
theorem dX4_actNamed_2 : decode cX4_actNamed 2 = .ok (.iload_n 3, 1) := by decide +kernel
theorem dX4_actNamed_3 : decode cX4_actNamed 3 = .ok (.bipush 11, 2) := by decide +kernel
theorem dX4_actNamed_5 : decode cX4_actNamed 5 = .ok (.if_icmp .gt 27, 3) := by decide +kernel
theorem dX4_actNamed_8 : decode cX4_actNamed 8 = .ok (.aload_n 0, 1) := by decide +kernel
theorem dX4_actNamed_9 : decode cX4_actNamed 9 = .ok (.getfield 14, 3) := by decide +kernel
theorem dX4_actNamed_12 : decode cX4_actNamed 12 = .ok (.iload_n 1, 1) := by decide +kernel
theorem dX4_actNamed_13 : decode cX4_actNamed 13 = .ok (.iload_n 2, 1) := by decide +kernel
theorem dX4_actNamed_14 : decode cX4_actNamed 14 = .ok (.iload_n 3, 1) := by decide +kernel
theorem dX4_actNamed_15 : decode cX4_actNamed 15 = .ok (.invokestatic 58, 3) := by decide +kernel
theorem dX4_actNamed_18 : decode cX4_actNamed 18 = .ok (.invokevirtual 62, 3) := by decide +kernel
theorem dX4_actNamed_21 : decode cX4_actNamed 21 = .ok (.ifCond .eq 5, 3) := by decide +kernel
theorem dX4_actNamed_24 : decode cX4_actNamed 24 = .ok (.iload_n 3, 1) := by decide +kernel
theorem dX4_actNamed_25 : decode cX4_actNamed 25 = .ok (.ireturn, 1) := by decide +kernel
theorem dX4_actNamed_26 : decode cX4_actNamed 26 = .ok (.iinc 3 1, 3) := by decide +kernel
theorem dX4_actNamed_29 : decode cX4_actNamed 29 = .ok (.goto (-27), 3) := by decide +kernel
theorem dX4_actNamed_32 : decode cX4_actNamed 32 = .ok (.iconst (-1), 1) := by decide +kernel
theorem dX4_actNamed_33 : decode cX4_actNamed 33 = .ok (.ireturn, 1) := by decide +kernel
theorem dX4_lettersEnd_0 : decode cX4_lettersEnd 0 = .ok (.aload_n 0, 1) := by decide +kernel
theorem dX4_lettersEnd_1 : decode cX4_lettersEnd 1 = .ok (.getfield 28, 3) := by decide +kernel
theorem dX4_lettersEnd_4 : decode cX4_lettersEnd 4 = .ok (.istore_n 1, 1) := by decide +kernel
theorem dX4_lettersEnd_5 : decode cX4_lettersEnd 5 = .ok (.iload_n 1, 1) := by decide +kernel
theorem dX4_lettersEnd_6 : decode cX4_lettersEnd 6 = .ok (.aload_n 0, 1) := by decide +kernel
theorem dX4_lettersEnd_7 : decode cX4_lettersEnd 7 = .ok (.getfield 14, 3) := by decide +kernel
theorem dX4_lettersEnd_10 : decode cX4_lettersEnd 10 = .ok (.invokevirtual 20, 3) := by decide +kernel
theorem dX4_lettersEnd_13 : decode cX4_lettersEnd 13 = .ok (.if_icmp .ge 37, 3) := by decide +kernel
theorem dX4_lettersEnd_16 : decode cX4_lettersEnd 16 = .ok (.aload_n 0, 1) := by decide +kernel
theorem dX4_lettersEnd_17 : decode cX4_lettersEnd 17 = .ok (.getfield 14, 3) := by decide +kernel
theorem dX4_lettersEnd_20 : decode cX4_lettersEnd 20 = .ok (.iload_n 1, 1) := by decide +kernel
theorem dX4_lettersEnd_21 : decode cX4_lettersEnd 21 = .ok (.invokevirtual 36, 3) := by decide +kernel
theorem dX4_lettersEnd_24 : decode cX4_lettersEnd 24 = .ok (.bipush 97, 2) := by decide +kernel
theorem dX4_lettersEnd_26 : decode cX4_lettersEnd 26 = .ok (.if_icmp .lt 16, 3) := by decide +kernel
theorem dX4_lettersEnd_29 : decode cX4_lettersEnd 29 = .ok (.aload_n 0, 1) := by decide +kernel
theorem dX4_lettersEnd_30 : decode cX4_lettersEnd 30 = .ok (.getfield 14, 3) := by decide +kernel
theorem dX4_lettersEnd_33 : decode cX4_lettersEnd 33 = .ok (.iload_n 1, 1) := by decide +kernel
theorem dX4_lettersEnd_34 : decode cX4_lettersEnd 34 = .ok (.invokevirtual 36, 3) := by decide +kernel
theorem dX4_lettersEnd_37 : decode cX4_lettersEnd 37 = .ok (.bipush 122, 2) := by decide +kernel
theorem dX4_lettersEnd_39 : decode cX4_lettersEnd 39 = .ok (.if_icmp .le 5, 3) := by decide +kernel
theorem dX4_lettersEnd_42 : decode cX4_lettersEnd 42 = .ok (.iload_n 1, 1) := by decide +kernel
theorem dX4_lettersEnd_43 : decode cX4_lettersEnd 43 = .ok (.ireturn, 1) := by decide +kernel
theorem dX4_lettersEnd_44 : decode cX4_lettersEnd 44 = .ok (.iinc 1 1, 3) := by decide +kernel
theorem dX4_lettersEnd_47 : decode cX4_lettersEnd 47 = .ok (.goto (-42), 3) := by decide +kernel
theorem dX4_lettersEnd_50 : decode cX4_lettersEnd 50 = .ok (.aload_n 0, 1) := by decide +kernel
theorem dX4_lettersEnd_51 : decode cX4_lettersEnd 51 = .ok (.getfield 14, 3) := by decide +kernel
theorem dX4_lettersEnd_54 : decode cX4_lettersEnd 54 = .ok (.invokevirtual 20, 3) := by decide +kernel
theorem dX4_lettersEnd_57 : decode cX4_lettersEnd 57 = .ok (.ireturn, 1) := by decide +kernel
theorem dX4_nameOf_0 : decode cX4_nameOf 0 = .ok (.iload_n 0, 1) := by decide +kernel
theorem dX4_nameOf_1 : decode cX4_nameOf 1 = .ok (.tableswitch 92 0 10 #[59, 62, 65, 68, 71, 74, 77, 80, 83, 86, 89], 59) := by decide +kernel
theorem dX4_nameOf_60 : decode cX4_nameOf 60 = .ok (.ldc 66, 2) := by decide +kernel
theorem dX4_nameOf_62 : decode cX4_nameOf 62 = .ok (.areturn, 1) := by decide +kernel
theorem dX4_nameOf_63 : decode cX4_nameOf 63 = .ok (.ldc 68, 2) := by decide +kernel
theorem dX4_nameOf_65 : decode cX4_nameOf 65 = .ok (.areturn, 1) := by decide +kernel
theorem dX4_nameOf_66 : decode cX4_nameOf 66 = .ok (.ldc 70, 2) := by decide +kernel
theorem dX4_nameOf_68 : decode cX4_nameOf 68 = .ok (.areturn, 1) := by decide +kernel
theorem dX4_nameOf_69 : decode cX4_nameOf 69 = .ok (.ldc 72, 2) := by decide +kernel
theorem dX4_nameOf_71 : decode cX4_nameOf 71 = .ok (.areturn, 1) := by decide +kernel
theorem dX4_nameOf_72 : decode cX4_nameOf 72 = .ok (.ldc 74, 2) := by decide +kernel
theorem dX4_nameOf_74 : decode cX4_nameOf 74 = .ok (.areturn, 1) := by decide +kernel
theorem dX4_nameOf_75 : decode cX4_nameOf 75 = .ok (.ldc 76, 2) := by decide +kernel
theorem dX4_nameOf_77 : decode cX4_nameOf 77 = .ok (.areturn, 1) := by decide +kernel
theorem dX4_nameOf_78 : decode cX4_nameOf 78 = .ok (.ldc 78, 2) := by decide +kernel
theorem dX4_nameOf_80 : decode cX4_nameOf 80 = .ok (.areturn, 1) := by decide +kernel
theorem dX4_nameOf_81 : decode cX4_nameOf 81 = .ok (.ldc 80, 2) := by decide +kernel
theorem dX4_nameOf_83 : decode cX4_nameOf 83 = .ok (.areturn, 1) := by decide +kernel
theorem dX4_nameOf_84 : decode cX4_nameOf 84 = .ok (.ldc 82, 2) := by decide +kernel
theorem dX4_nameOf_86 : decode cX4_nameOf 86 = .ok (.areturn, 1) := by decide +kernel
theorem dX4_nameOf_87 : decode cX4_nameOf 87 = .ok (.ldc 84, 2) := by decide +kernel
theorem dX4_nameOf_89 : decode cX4_nameOf 89 = .ok (.areturn, 1) := by decide +kernel
theorem dX4_nameOf_90 : decode cX4_nameOf 90 = .ok (.ldc 86, 2) := by decide +kernel
theorem dX4_nameOf_92 : decode cX4_nameOf 92 = .ok (.areturn, 1) := by decide +kernel
theorem dX4_nameOf_93 : decode cX4_nameOf 93 = .ok (.ldc 88, 2) := by decide +kernel
theorem dX4_nameOf_95 : decode cX4_nameOf 95 = .ok (.areturn, 1) := by decide +kernel
theorem dX4_readAct_0 : decode cX4_readAct 0 = .ok (.aload_n 0, 1) := by decide +kernel
theorem dX4_readAct_1 : decode cX4_readAct 1 = .ok (.getfield 28, 3) := by decide +kernel
theorem dX4_readAct_4 : decode cX4_readAct 4 = .ok (.istore_n 1, 1) := by decide +kernel
theorem dX4_readAct_5 : decode cX4_readAct 5 = .ok (.aload_n 0, 1) := by decide +kernel
theorem dX4_readAct_6 : decode cX4_readAct 6 = .ok (.aload_n 0, 1) := by decide +kernel
theorem dX4_readAct_7 : decode cX4_readAct 7 = .ok (.invokevirtual 40, 3) := by decide +kernel
theorem dX4_readAct_10 : decode cX4_readAct 10 = .ok (.putfield 28, 3) := by decide +kernel
theorem dX4_readAct_13 : decode cX4_readAct 13 = .ok (.aload_n 0, 1) := by decide +kernel
theorem dX4_readAct_14 : decode cX4_readAct 14 = .ok (.aload_n 0, 1) := by decide +kernel
theorem dX4_readAct_15 : decode cX4_readAct 15 = .ok (.iload_n 1, 1) := by decide +kernel
theorem dX4_readAct_16 : decode cX4_readAct 16 = .ok (.aload_n 0, 1) := by decide +kernel
theorem dX4_readAct_17 : decode cX4_readAct 17 = .ok (.getfield 28, 3) := by decide +kernel
theorem dX4_readAct_20 : decode cX4_readAct 20 = .ok (.iload_n 1, 1) := by decide +kernel
theorem dX4_readAct_21 : decode cX4_readAct 21 = .ok (.isub, 1) := by decide +kernel
theorem dX4_readAct_22 : decode cX4_readAct 22 = .ok (.invokevirtual 43, 3) := by decide +kernel
theorem dX4_readAct_25 : decode cX4_readAct 25 = .ok (.putfield 46, 3) := by decide +kernel
theorem dX4_readAct_28 : decode cX4_readAct 28 = .ok (.aload_n 0, 1) := by decide +kernel
theorem dX4_readAct_29 : decode cX4_readAct 29 = .ok (.getfield 46, 3) := by decide +kernel
theorem dX4_readAct_32 : decode cX4_readAct 32 = .ok (.tableswitch 116 (-1) 10 #[64, 66, 66, 116, 116, 116, 73, 111, 116, 81, 81, 89], 64) := by decide +kernel
theorem dX4_readAct_96 : decode cX4_readAct 96 = .ok (.iload_n 1, 1) := by decide +kernel
theorem dX4_readAct_97 : decode cX4_readAct 97 = .ok (.ireturn, 1) := by decide +kernel
theorem dX4_readAct_98 : decode cX4_readAct 98 = .ok (.aload_n 0, 1) := by decide +kernel
theorem dX4_readAct_99 : decode cX4_readAct 99 = .ok (.iconst 0, 1) := by decide +kernel
theorem dX4_readAct_100 : decode cX4_readAct 100 = .ok (.iconst 3, 1) := by decide +kernel
theorem dX4_readAct_101 : decode cX4_readAct 101 = .ok (.invokevirtual 49, 3) := by decide +kernel
theorem dX4_readAct_104 : decode cX4_readAct 104 = .ok (.ireturn, 1) := by decide +kernel
theorem dX4_readAct_105 : decode cX4_readAct 105 = .ok (.aload_n 0, 1) := by decide +kernel
theorem dX4_readAct_106 : decode cX4_readAct 106 = .ok (.iconst 1, 1) := by decide +kernel
theorem dX4_readAct_107 : decode cX4_readAct 107 = .ok (.bipush 40, 2) := by decide +kernel
theorem dX4_readAct_109 : decode cX4_readAct 109 = .ok (.invokevirtual 49, 3) := by decide +kernel
theorem dX4_readAct_112 : decode cX4_readAct 112 = .ok (.ireturn, 1) := by decide +kernel
theorem dX4_readAct_113 : decode cX4_readAct 113 = .ok (.aload_n 0, 1) := by decide +kernel
theorem dX4_readAct_114 : decode cX4_readAct 114 = .ok (.iconst 0, 1) := by decide +kernel
theorem dX4_readAct_115 : decode cX4_readAct 115 = .ok (.bipush 39, 2) := by decide +kernel
theorem dX4_readAct_117 : decode cX4_readAct 117 = .ok (.invokevirtual 49, 3) := by decide +kernel
theorem dX4_readAct_120 : decode cX4_readAct 120 = .ok (.ireturn, 1) := by decide +kernel
theorem dX4_readAct_121 : decode cX4_readAct 121 = .ok (.aload_n 0, 1) := by decide +kernel
theorem dX4_readAct_122 : decode cX4_readAct 122 = .ok (.iconst 0, 1) := by decide +kernel
theorem dX4_readAct_123 : decode cX4_readAct 123 = .ok (.bipush 39, 2) := by decide +kernel
theorem dX4_readAct_125 : decode cX4_readAct 125 = .ok (.invokevirtual 49, 3) := by decide +kernel
theorem dX4_readAct_128 : decode cX4_readAct 128 = .ok (.istore_n 2, 1) := by decide +kernel
theorem dX4_readAct_129 : decode cX4_readAct 129 = .ok (.iload_n 2, 1) := by decide +kernel
theorem dX4_readAct_130 : decode cX4_readAct 130 = .ok (.iconst (-1), 1) := by decide +kernel
theorem dX4_readAct_131 : decode cX4_readAct 131 = .ok (.if_icmp .ne 10, 3) := by decide +kernel
theorem dX4_readAct_134 : decode cX4_readAct 134 = .ok (.aload_n 0, 1) := by decide +kernel
theorem dX4_readAct_135 : decode cX4_readAct 135 = .ok (.invokevirtual 52, 3) := by decide +kernel
theorem dX4_readAct_138 : decode cX4_readAct 138 = .ok (.goto 4, 3) := by decide +kernel
theorem dX4_readAct_141 : decode cX4_readAct 141 = .ok (.iload_n 2, 1) := by decide +kernel
theorem dX4_readAct_142 : decode cX4_readAct 142 = .ok (.ireturn, 1) := by decide +kernel
theorem dX4_readAct_143 : decode cX4_readAct 143 = .ok (.aload_n 0, 1) := by decide +kernel
theorem dX4_readAct_144 : decode cX4_readAct 144 = .ok (.invokevirtual 55, 3) := by decide +kernel
theorem dX4_readAct_147 : decode cX4_readAct 147 = .ok (.ireturn, 1) := by decide +kernel
theorem dX4_readAct_148 : decode cX4_readAct 148 = .ok (.iconst (-1), 1) := by decide +kernel
theorem dX4_readAct_149 : decode cX4_readAct 149 = .ok (.ireturn, 1) := by decide +kernel
theorem dX4_readBehindAct_0 : decode cX4_readBehindAct 0 = .ok (.aload_n 0, 1) := by decide +kernel
theorem dX4_readBehindAct_1 : decode cX4_readBehindAct 1 = .ok (.aload_n 0, 1) := by decide +kernel
theorem dX4_readBehindAct_2 : decode cX4_readBehindAct 2 = .ok (.getfield 14, 3) := by decide +kernel
theorem dX4_readBehindAct_5 : decode cX4_readBehindAct 5 = .ok (.aload_n 0, 1) := by decide +kernel
theorem dX4_readBehindAct_6 : decode cX4_readBehindAct 6 = .ok (.getfield 28, 3) := by decide +kernel
theorem dX4_readBehindAct_9 : decode cX4_readBehindAct 9 = .ok (.aload_n 0, 1) := by decide +kernel
theorem dX4_readBehindAct_10 : decode cX4_readBehindAct 10 = .ok (.getfield 14, 3) := by decide +kernel
theorem dX4_readBehindAct_13 : decode cX4_readBehindAct 13 = .ok (.invokevirtual 20, 3) := by decide +kernel
theorem dX4_readBehindAct_16 : decode cX4_readBehindAct 16 = .ok (.invokevirtual 24, 3) := by decide +kernel
theorem dX4_readBehindAct_19 : decode cX4_readBehindAct 19 = .ok (.putfield 28, 3) := by decide +kernel
theorem dX4_readBehindAct_22 : decode cX4_readBehindAct 22 = .ok (.aload_n 0, 1) := by decide +kernel
theorem dX4_readBehindAct_23 : decode cX4_readBehindAct 23 = .ok (.aload_n 0, 1) := by decide +kernel
theorem dX4_readBehindAct_24 : decode cX4_readBehindAct 24 = .ok (.getfield 28, 3) := by decide +kernel
theorem dX4_readBehindAct_27 : decode cX4_readBehindAct 27 = .ok (.aload_n 0, 1) := by decide +kernel
theorem dX4_readBehindAct_28 : decode cX4_readBehindAct 28 = .ok (.getfield 14, 3) := by decide +kernel
theorem dX4_readBehindAct_31 : decode cX4_readBehindAct 31 = .ok (.invokevirtual 20, 3) := by decide +kernel
theorem dX4_readBehindAct_34 : decode cX4_readBehindAct 34 = .ok (.if_icmp .ge 7, 3) := by decide +kernel
theorem dX4_readBehindAct_37 : decode cX4_readBehindAct 37 = .ok (.iconst 1, 1) := by decide +kernel
theorem dX4_readBehindAct_38 : decode cX4_readBehindAct 38 = .ok (.goto 4, 3) := by decide +kernel
theorem dX4_readBehindAct_41 : decode cX4_readBehindAct 41 = .ok (.iconst 0, 1) := by decide +kernel
theorem dX4_readBehindAct_42 : decode cX4_readBehindAct 42 = .ok (.putfield 32, 3) := by decide +kernel
theorem dX4_readBehindAct_45 : decode cX4_readBehindAct 45 = .ok (.aload_n 0, 1) := by decide +kernel
theorem dX4_readBehindAct_46 : decode cX4_readBehindAct 46 = .ok (.getfield 32, 3) := by decide +kernel
theorem dX4_readBehindAct_49 : decode cX4_readBehindAct 49 = .ok (.ifCond .eq 24, 3) := by decide +kernel
theorem dX4_readBehindAct_52 : decode cX4_readBehindAct 52 = .ok (.aload_n 0, 1) := by decide +kernel
theorem dX4_readBehindAct_53 : decode cX4_readBehindAct 53 = .ok (.getfield 14, 3) := by decide +kernel
theorem dX4_readBehindAct_56 : decode cX4_readBehindAct 56 = .ok (.aload_n 0, 1) := by decide +kernel
theorem dX4_readBehindAct_57 : decode cX4_readBehindAct 57 = .ok (.getfield 28, 3) := by decide +kernel
theorem dX4_readBehindAct_60 : decode cX4_readBehindAct 60 = .ok (.invokevirtual 36, 3) := by decide +kernel
theorem dX4_readBehindAct_63 : decode cX4_readBehindAct 63 = .ok (.bipush 59, 2) := by decide +kernel
theorem dX4_readBehindAct_65 : decode cX4_readBehindAct 65 = .ok (.if_icmp .eq 8, 3) := by decide +kernel
theorem dX4_readBehindAct_68 : decode cX4_readBehindAct 68 = .ok (.aload_n 0, 1) := by decide +kernel
theorem dX4_readBehindAct_69 : decode cX4_readBehindAct 69 = .ok (.getfield 28, 3) := by decide +kernel
theorem dX4_readBehindAct_72 : decode cX4_readBehindAct 72 = .ok (.ireturn, 1) := by decide +kernel
theorem dX4_readBehindAct_73 : decode cX4_readBehindAct 73 = .ok (.aload_n 0, 1) := by decide +kernel
theorem dX4_readBehindAct_74 : decode cX4_readBehindAct 74 = .ok (.aload_n 0, 1) := by decide +kernel
theorem dX4_readBehindAct_75 : decode cX4_readBehindAct 75 = .ok (.getfield 14, 3) := by decide +kernel
theorem dX4_readBehindAct_78 : decode cX4_readBehindAct 78 = .ok (.aload_n 0, 1) := by decide +kernel
theorem dX4_readBehindAct_79 : decode cX4_readBehindAct 79 = .ok (.getfield 28, 3) := by decide +kernel
theorem dX4_readBehindAct_82 : decode cX4_readBehindAct 82 = .ok (.iconst 1, 1) := by decide +kernel
theorem dX4_readBehindAct_83 : decode cX4_readBehindAct 83 = .ok (.iadd, 1) := by decide +kernel
theorem dX4_readBehindAct_84 : decode cX4_readBehindAct 84 = .ok (.aload_n 0, 1) := by decide +kernel
theorem dX4_readBehindAct_85 : decode cX4_readBehindAct 85 = .ok (.getfield 14, 3) := by decide +kernel
theorem dX4_readBehindAct_88 : decode cX4_readBehindAct 88 = .ok (.invokevirtual 20, 3) := by decide +kernel
theorem dX4_readBehindAct_91 : decode cX4_readBehindAct 91 = .ok (.invokevirtual 24, 3) := by decide +kernel
theorem dX4_readBehindAct_94 : decode cX4_readBehindAct 94 = .ok (.putfield 28, 3) := by decide +kernel
theorem dX4_readBehindAct_97 : decode cX4_readBehindAct 97 = .ok (.iconst (-1), 1) := by decide +kernel
theorem dX4_readBehindAct_98 : decode cX4_readBehindAct 98 = .ok (.ireturn, 1) := by decide +kernel
theorem dX4_readFirst_0 : decode cX4_readFirst 0 = .ok (.aload_n 0, 1) := by decide +kernel
theorem dX4_readFirst_1 : decode cX4_readFirst 1 = .ok (.iload_n 1, 1) := by decide +kernel
theorem dX4_readFirst_2 : decode cX4_readFirst 2 = .ok (.iload_n 2, 1) := by decide +kernel
theorem dX4_readFirst_3 : decode cX4_readFirst 3 = .ok (.invokevirtual 90, 3) := by decide +kernel
theorem dX4_readFirst_6 : decode cX4_readFirst 6 = .ok (.istore_n 3, 1) := by decide +kernel
theorem dX4_readFirst_7 : decode cX4_readFirst 7 = .ok (.aload_n 0, 1) := by decide +kernel
theorem dX4_readFirst_8 : decode cX4_readFirst 8 = .ok (.aload_n 0, 1) := by decide +kernel
theorem dX4_readFirst_9 : decode cX4_readFirst 9 = .ok (.getfield 93, 3) := by decide +kernel
theorem dX4_readFirst_12 : decode cX4_readFirst 12 = .ok (.putfield 96, 3) := by decide +kernel
theorem dX4_readFirst_15 : decode cX4_readFirst 15 = .ok (.iload_n 3, 1) := by decide +kernel
theorem dX4_readFirst_16 : decode cX4_readFirst 16 = .ok (.ireturn, 1) := by decide +kernel
theorem dX4_readNumber_0 : decode cX4_readNumber 0 = .ok (.aload_n 0, 1) := by decide +kernel
theorem dX4_readNumber_1 : decode cX4_readNumber 1 = .ok (.getfield 14, 3) := by decide +kernel
theorem dX4_readNumber_4 : decode cX4_readNumber 4 = .ok (.aload_n 0, 1) := by decide +kernel
theorem dX4_readNumber_5 : decode cX4_readNumber 5 = .ok (.getfield 28, 3) := by decide +kernel
theorem dX4_readNumber_8 : decode cX4_readNumber 8 = .ok (.aload_n 0, 1) := by decide +kernel
theorem dX4_readNumber_9 : decode cX4_readNumber 9 = .ok (.getfield 14, 3) := by decide +kernel
theorem dX4_readNumber_12 : decode cX4_readNumber 12 = .ok (.invokevirtual 20, 3) := by decide +kernel
theorem dX4_readNumber_15 : decode cX4_readNumber 15 = .ok (.invokevirtual 24, 3) := by decide +kernel
theorem dX4_readNumber_18 : decode cX4_readNumber 18 = .ok (.istore_n 3, 1) := by decide +kernel
theorem dX4_readNumber_19 : decode cX4_readNumber 19 = .ok (.iconst 0, 1) := by decide +kernel
theorem dX4_readNumber_20 : decode cX4_readNumber 20 = .ok (.istore 4, 2) := by decide +kernel
theorem dX4_readNumber_22 : decode cX4_readNumber 22 = .ok (.aload_n 0, 1) := by decide +kernel
theorem dX4_readNumber_23 : decode cX4_readNumber 23 = .ok (.iconst 0, 1) := by decide +kernel
theorem dX4_readNumber_24 : decode cX4_readNumber 24 = .ok (.putfield 93, 3) := by decide +kernel
theorem dX4_readNumber_27 : decode cX4_readNumber 27 = .ok (.iload_n 3, 1) := by decide +kernel
theorem dX4_readNumber_28 : decode cX4_readNumber 28 = .ok (.istore 5, 2) := by decide +kernel
theorem dX4_readNumber_30 : decode cX4_readNumber 30 = .ok (.iload 5, 2) := by decide +kernel
theorem dX4_readNumber_32 : decode cX4_readNumber 32 = .ok (.aload_n 0, 1) := by decide +kernel
theorem dX4_readNumber_33 : decode cX4_readNumber 33 = .ok (.getfield 14, 3) := by decide +kernel
theorem dX4_readNumber_36 : decode cX4_readNumber 36 = .ok (.invokevirtual 20, 3) := by decide +kernel
theorem dX4_readNumber_39 : decode cX4_readNumber 39 = .ok (.if_icmp .ge 77, 3) := by decide +kernel
theorem dX4_readNumber_42 : decode cX4_readNumber 42 = .ok (.aload_n 0, 1) := by decide +kernel
theorem dX4_readNumber_43 : decode cX4_readNumber 43 = .ok (.getfield 14, 3) := by decide +kernel
theorem dX4_readNumber_46 : decode cX4_readNumber 46 = .ok (.iload 5, 2) := by decide +kernel
theorem dX4_readNumber_48 : decode cX4_readNumber 48 = .ok (.invokevirtual 36, 3) := by decide +kernel
theorem dX4_readNumber_51 : decode cX4_readNumber 51 = .ok (.bipush 48, 2) := by decide +kernel
theorem dX4_readNumber_53 : decode cX4_readNumber 53 = .ok (.if_icmp .lt 63, 3) := by decide +kernel
theorem dX4_readNumber_56 : decode cX4_readNumber 56 = .ok (.aload_n 0, 1) := by decide +kernel
theorem dX4_readNumber_57 : decode cX4_readNumber 57 = .ok (.getfield 14, 3) := by decide +kernel
theorem dX4_readNumber_60 : decode cX4_readNumber 60 = .ok (.iload 5, 2) := by decide +kernel
theorem dX4_readNumber_62 : decode cX4_readNumber 62 = .ok (.invokevirtual 36, 3) := by decide +kernel
theorem dX4_readNumber_65 : decode cX4_readNumber 65 = .ok (.bipush 57, 2) := by decide +kernel
theorem dX4_readNumber_67 : decode cX4_readNumber 67 = .ok (.if_icmp .gt 49, 3) := by decide +kernel
theorem dX4_readNumber_70 : decode cX4_readNumber 70 = .ok (.iinc 4 1, 3) := by decide +kernel
theorem dX4_readNumber_73 : decode cX4_readNumber 73 = .ok (.aload_n 0, 1) := by decide +kernel
theorem dX4_readNumber_74 : decode cX4_readNumber 74 = .ok (.iload 4, 2) := by decide +kernel
theorem dX4_readNumber_76 : decode cX4_readNumber 76 = .ok (.iconst 2, 1) := by decide +kernel
theorem dX4_readNumber_77 : decode cX4_readNumber 77 = .ok (.if_icmp .le 10, 3) := by decide +kernel
theorem dX4_readNumber_80 : decode cX4_readNumber 80 = .ok (.aload_n 0, 1) := by decide +kernel
theorem dX4_readNumber_81 : decode cX4_readNumber 81 = .ok (.getfield 93, 3) := by decide +kernel
theorem dX4_readNumber_84 : decode cX4_readNumber 84 = .ok (.goto 23, 3) := by decide +kernel
theorem dX4_readNumber_87 : decode cX4_readNumber 87 = .ok (.aload_n 0, 1) := by decide +kernel
theorem dX4_readNumber_88 : decode cX4_readNumber 88 = .ok (.getfield 93, 3) := by decide +kernel
theorem dX4_readNumber_91 : decode cX4_readNumber 91 = .ok (.bipush 10, 2) := by decide +kernel
theorem dX4_readNumber_93 : decode cX4_readNumber 93 = .ok (.imul, 1) := by decide +kernel
theorem dX4_readNumber_94 : decode cX4_readNumber 94 = .ok (.aload_n 0, 1) := by decide +kernel
theorem dX4_readNumber_95 : decode cX4_readNumber 95 = .ok (.getfield 14, 3) := by decide +kernel
theorem dX4_readNumber_98 : decode cX4_readNumber 98 = .ok (.iload 5, 2) := by decide +kernel
theorem dX4_readNumber_100 : decode cX4_readNumber 100 = .ok (.invokevirtual 36, 3) := by decide +kernel
theorem dX4_readNumber_103 : decode cX4_readNumber 103 = .ok (.iadd, 1) := by decide +kernel
theorem dX4_readNumber_104 : decode cX4_readNumber 104 = .ok (.bipush 48, 2) := by decide +kernel
theorem dX4_readNumber_106 : decode cX4_readNumber 106 = .ok (.isub, 1) := by decide +kernel
theorem dX4_readNumber_107 : decode cX4_readNumber 107 = .ok (.putfield 93, 3) := by decide +kernel
theorem dX4_readNumber_110 : decode cX4_readNumber 110 = .ok (.iinc 5 1, 3) := by decide +kernel
theorem dX4_readNumber_113 : decode cX4_readNumber 113 = .ok (.goto (-83), 3) := by decide +kernel
theorem dX4_readNumber_116 : decode cX4_readNumber 116 = .ok (.aload_n 0, 1) := by decide +kernel
theorem dX4_readNumber_117 : decode cX4_readNumber 117 = .ok (.iload_n 3, 1) := by decide +kernel
theorem dX4_readNumber_118 : decode cX4_readNumber 118 = .ok (.iload 4, 2) := by decide +kernel
theorem dX4_readNumber_120 : decode cX4_readNumber 120 = .ok (.iadd, 1) := by decide +kernel
theorem dX4_readNumber_121 : decode cX4_readNumber 121 = .ok (.putfield 28, 3) := by decide +kernel
theorem dX4_readNumber_124 : decode cX4_readNumber 124 = .ok (.iload 4, 2) := by decide +kernel
theorem dX4_readNumber_126 : decode cX4_readNumber 126 = .ok (.iconst 1, 1) := by decide +kernel
theorem dX4_readNumber_127 : decode cX4_readNumber 127 = .ok (.if_icmp .lt 29, 3) := by decide +kernel
theorem dX4_readNumber_130 : decode cX4_readNumber 130 = .ok (.iload 4, 2) := by decide +kernel
theorem dX4_readNumber_132 : decode cX4_readNumber 132 = .ok (.iconst 2, 1) := by decide +kernel
end
/-! part 30c.dec -/
section
theorem dX4_readNumber_133 : decode cX4_readNumber 133 = .ok (.if_icmp .gt 23, 3) := by decide +kernel
theorem dX4_readNumber_136 : decode cX4_readNumber 136 = .ok (.aload_n 0, 1) := by decide +kernel
theorem dX4_readNumber_137 : decode cX4_readNumber 137 = .ok (.getfield 93, 3) := by decide +kernel
theorem dX4_readNumber_140 : decode cX4_readNumber 140 = .ok (.iload_n 1, 1) := by decide +kernel
theorem dX4_readNumber_141 : decode cX4_readNumber 141 = .ok (.if_icmp .lt 15, 3) := by decide +kernel
theorem dX4_readNumber_144 : decode cX4_readNumber 144 = .ok (.aload_n 0, 1) := by decide +kernel
theorem dX4_readNumber_145 : decode cX4_readNumber 145 = .ok (.getfield 93, 3) := by decide +kernel
theorem dX4_readNumber_148 : decode cX4_readNumber 148 = .ok (.iload_n 2, 1) := by decide +kernel
theorem dX4_readNumber_149 : decode cX4_readNumber 149 = .ok (.if_icmp .gt 7, 3) := by decide +kernel
theorem dX4_readNumber_152 : decode cX4_readNumber 152 = .ok (.iconst (-1), 1) := by decide +kernel
theorem dX4_readNumber_153 : decode cX4_readNumber 153 = .ok (.goto 4, 3) := by decide +kernel
theorem dX4_readNumber_156 : decode cX4_readNumber 156 = .ok (.iload_n 3, 1) := by decide +kernel
theorem dX4_readNumber_157 : decode cX4_readNumber 157 = .ok (.ireturn, 1) := by decide +kernel
theorem dX4_readSecond_0 : decode cX4_readSecond 0 = .ok (.aload_n 0, 1) := by decide +kernel
theorem dX4_readSecond_1 : decode cX4_readSecond 1 = .ok (.iconst 0, 1) := by decide +kernel
theorem dX4_readSecond_2 : decode cX4_readSecond 2 = .ok (.bipush 39, 2) := by decide +kernel
theorem dX4_readSecond_4 : decode cX4_readSecond 4 = .ok (.invokevirtual 90, 3) := by decide +kernel
theorem dX4_readSecond_7 : decode cX4_readSecond 7 = .ok (.istore_n 1, 1) := by decide +kernel
theorem dX4_readSecond_8 : decode cX4_readSecond 8 = .ok (.aload_n 0, 1) := by decide +kernel
theorem dX4_readSecond_9 : decode cX4_readSecond 9 = .ok (.aload_n 0, 1) := by decide +kernel
theorem dX4_readSecond_10 : decode cX4_readSecond 10 = .ok (.getfield 93, 3) := by decide +kernel
theorem dX4_readSecond_13 : decode cX4_readSecond 13 = .ok (.putfield 99, 3) := by decide +kernel
theorem dX4_readSecond_16 : decode cX4_readSecond 16 = .ok (.iload_n 1, 1) := by decide +kernel
theorem dX4_readSecond_17 : decode cX4_readSecond 17 = .ok (.ireturn, 1) := by decide +kernel
theorem dX4_readWord_0 : decode cX4_readWord 0 = .ok (.aload_n 0, 1) := by decide +kernel
theorem dX4_readWord_1 : decode cX4_readWord 1 = .ok (.getfield 14, 3) := by decide +kernel
theorem dX4_readWord_4 : decode cX4_readWord 4 = .ok (.aload_n 0, 1) := by decide +kernel
theorem dX4_readWord_5 : decode cX4_readWord 5 = .ok (.getfield 28, 3) := by decide +kernel
theorem dX4_readWord_8 : decode cX4_readWord 8 = .ok (.aload_n 0, 1) := by decide +kernel
theorem dX4_readWord_9 : decode cX4_readWord 9 = .ok (.getfield 14, 3) := by decide +kernel
theorem dX4_readWord_12 : decode cX4_readWord 12 = .ok (.invokevirtual 20, 3) := by decide +kernel
theorem dX4_readWord_15 : decode cX4_readWord 15 = .ok (.invokevirtual 24, 3) := by decide +kernel
theorem dX4_readWord_18 : decode cX4_readWord 18 = .ok (.istore_n 1, 1) := by decide +kernel
theorem dX4_readWord_19 : decode cX4_readWord 19 = .ok (.aload_n 0, 1) := by decide +kernel
theorem dX4_readWord_20 : decode cX4_readWord 20 = .ok (.iload_n 1, 1) := by decide +kernel
theorem dX4_readWord_21 : decode cX4_readWord 21 = .ok (.putfield 28, 3) := by decide +kernel
theorem dX4_readWord_24 : decode cX4_readWord 24 = .ok (.aload_n 0, 1) := by decide +kernel
theorem dX4_readWord_25 : decode cX4_readWord 25 = .ok (.aload_n 0, 1) := by decide +kernel
theorem dX4_readWord_26 : decode cX4_readWord 26 = .ok (.invokevirtual 40, 3) := by decide +kernel
theorem dX4_readWord_29 : decode cX4_readWord 29 = .ok (.putfield 28, 3) := by decide +kernel
theorem dX4_readWord_32 : decode cX4_readWord 32 = .ok (.aload_n 0, 1) := by decide +kernel
theorem dX4_readWord_33 : decode cX4_readWord 33 = .ok (.getfield 28, 3) := by decide +kernel
theorem dX4_readWord_36 : decode cX4_readWord 36 = .ok (.iload_n 1, 1) := by decide +kernel
theorem dX4_readWord_37 : decode cX4_readWord 37 = .ok (.isub, 1) := by decide +kernel
theorem dX4_readWord_38 : decode cX4_readWord 38 = .ok (.istore_n 2, 1) := by decide +kernel
theorem dX4_readWord_39 : decode cX4_readWord 39 = .ok (.iload_n 2, 1) := by decide +kernel
theorem dX4_readWord_40 : decode cX4_readWord 40 = .ok (.iconst 1, 1) := by decide +kernel
theorem dX4_readWord_41 : decode cX4_readWord 41 = .ok (.if_icmp .lt 9, 3) := by decide +kernel
theorem dX4_readWord_44 : decode cX4_readWord 44 = .ok (.iload_n 2, 1) := by decide +kernel
theorem dX4_readWord_45 : decode cX4_readWord 45 = .ok (.bipush 8, 2) := by decide +kernel
theorem dX4_readWord_47 : decode cX4_readWord 47 = .ok (.if_icmp .le 5, 3) := by decide +kernel
theorem dX4_readWord_50 : decode cX4_readWord 50 = .ok (.iload_n 1, 1) := by decide +kernel
theorem dX4_readWord_51 : decode cX4_readWord 51 = .ok (.ireturn, 1) := by decide +kernel
theorem dX4_readWord_52 : decode cX4_readWord 52 = .ok (.aload_n 0, 1) := by decide +kernel
theorem dX4_readWord_53 : decode cX4_readWord 53 = .ok (.aload_n 0, 1) := by decide +kernel
theorem dX4_readWord_54 : decode cX4_readWord 54 = .ok (.getfield 14, 3) := by decide +kernel
theorem dX4_readWord_57 : decode cX4_readWord 57 = .ok (.iload_n 1, 1) := by decide +kernel
theorem dX4_readWord_58 : decode cX4_readWord 58 = .ok (.iload_n 2, 1) := by decide +kernel
theorem dX4_readWord_59 : decode cX4_readWord 59 = .ok (.invokevirtual 102, 3) := by decide +kernel
theorem dX4_readWord_62 : decode cX4_readWord 62 = .ok (.putfield 106, 3) := by decide +kernel
theorem dX4_readWord_65 : decode cX4_readWord 65 = .ok (.iconst (-1), 1) := by decide +kernel
theorem dX4_readWord_66 : decode cX4_readWord 66 = .ok (.ireturn, 1) := by decide +kernel
theorem dX4_start_0 : decode cX4_start 0 = .ok (.aload_n 0, 1) := by decide +kernel
theorem dX4_start_1 : decode cX4_start 1 = .ok (.aload_n 1, 1) := by decide +kernel
theorem dX4_start_2 : decode cX4_start 2 = .ok (.putfield 14, 3) := by decide +kernel
theorem dX4_start_5 : decode cX4_start 5 = .ok (.aload_n 0, 1) := by decide +kernel
theorem dX4_start_6 : decode cX4_start 6 = .ok (.aload_n 0, 1) := by decide +kernel
theorem dX4_start_7 : decode cX4_start 7 = .ok (.getfield 14, 3) := by decide +kernel
theorem dX4_start_10 : decode cX4_start 10 = .ok (.iconst 0, 1) := by decide +kernel
theorem dX4_start_11 : decode cX4_start 11 = .ok (.aload_n 0, 1) := by decide +kernel
theorem dX4_start_12 : decode cX4_start 12 = .ok (.getfield 14, 3) := by decide +kernel
theorem dX4_start_15 : decode cX4_start 15 = .ok (.invokevirtual 20, 3) := by decide +kernel
theorem dX4_start_18 : decode cX4_start 18 = .ok (.invokevirtual 24, 3) := by decide +kernel
theorem dX4_start_21 : decode cX4_start 21 = .ok (.putfield 28, 3) := by decide +kernel
theorem dX4_start_24 : decode cX4_start 24 = .ok (.aload_n 0, 1) := by decide +kernel
theorem dX4_start_25 : decode cX4_start 25 = .ok (.aload_n 0, 1) := by decide +kernel
theorem dX4_start_26 : decode cX4_start 26 = .ok (.getfield 28, 3) := by decide +kernel
theorem dX4_start_29 : decode cX4_start 29 = .ok (.aload_n 0, 1) := by decide +kernel
theorem dX4_start_30 : decode cX4_start 30 = .ok (.getfield 14, 3) := by decide +kernel
theorem dX4_start_33 : decode cX4_start 33 = .ok (.invokevirtual 20, 3) := by decide +kernel
theorem dX4_start_36 : decode cX4_start 36 = .ok (.if_icmp .ge 7, 3) := by decide +kernel
theorem dX4_start_39 : decode cX4_start 39 = .ok (.iconst 1, 1) := by decide +kernel
theorem dX4_start_40 : decode cX4_start 40 = .ok (.goto 4, 3) := by decide +kernel
theorem dX4_start_43 : decode cX4_start 43 = .ok (.iconst 0, 1) := by decide +kernel
theorem dX4_start_44 : decode cX4_start 44 = .ok (.putfield 32, 3) := by decide +kernel
theorem dX4_start_47 : decode cX4_start 47 = .ok (.return_, 1) := by decide +kernel
theorem dX5_add_0 : decode cX5_add 0 = .ok (.aload_n 0, 1) := by decide +kernel
theorem dX5_add_1 : decode cX5_add 1 = .ok (.getfield 15, 3) := by decide +kernel
theorem dX5_add_4 : decode cX5_add 4 = .ok (.ifCond .lt 15, 3) := by decide +kernel
theorem dX5_add_7 : decode cX5_add 7 = .ok (.aload_n 0, 1) := by decide +kernel
theorem dX5_add_8 : decode cX5_add 8 = .ok (.getfield 15, 3) := by decide +kernel
theorem dX5_add_11 : decode cX5_add 11 = .ok (.aload_n 0, 1) := by decide +kernel
theorem dX5_add_12 : decode cX5_add 12 = .ok (.getfield 9, 3) := by decide +kernel
theorem dX5_add_15 : decode cX5_add 15 = .ok (.arraylength, 1) := by decide +kernel
theorem dX5_add_16 : decode cX5_add 16 = .ok (.if_icmp .lt 5, 3) := by decide +kernel
theorem dX5_add_19 : decode cX5_add 19 = .ok (.iconst 0, 1) := by decide +kernel
theorem dX5_add_20 : decode cX5_add 20 = .ok (.ireturn, 1) := by decide +kernel
theorem dX5_add_21 : decode cX5_add 21 = .ok (.aload_n 0, 1) := by decide +kernel
theorem dX5_add_22 : decode cX5_add 22 = .ok (.getfield 9, 3) := by decide +kernel
theorem dX5_add_25 : decode cX5_add 25 = .ok (.aload_n 0, 1) := by decide +kernel
theorem dX5_add_26 : decode cX5_add 26 = .ok (.getfield 15, 3) := by decide +kernel
theorem dX5_add_29 : decode cX5_add 29 = .ok (.iload_n 1, 1) := by decide +kernel
theorem dX5_add_30 : decode cX5_add 30 = .ok (.iastore, 1) := by decide +kernel
theorem dX5_add_31 : decode cX5_add 31 = .ok (.aload_n 0, 1) := by decide +kernel
theorem dX5_add_32 : decode cX5_add 32 = .ok (.dup, 1) := by decide +kernel
theorem dX5_add_33 : decode cX5_add 33 = .ok (.getfield 15, 3) := by decide +kernel
theorem dX5_add_36 : decode cX5_add 36 = .ok (.iconst 1, 1) := by decide +kernel
theorem dX5_add_37 : decode cX5_add 37 = .ok (.iadd, 1) := by decide +kernel
theorem dX5_add_38 : decode cX5_add 38 = .ok (.putfield 15, 3) := by decide +kernel
theorem dX5_add_41 : decode cX5_add 41 = .ok (.iconst 1, 1) := by decide +kernel
theorem dX5_add_42 : decode cX5_add 42 = .ok (.ireturn, 1) := by decide +kernel
theorem dX5_addPart_0 : decode cX5_addPart 0 = .ok (.iconst 1, 1) := by decide +kernel
theorem dX5_addPart_1 : decode cX5_addPart 1 = .ok (.istore 4, 2) := by decide +kernel
theorem dX5_addPart_3 : decode cX5_addPart 3 = .ok (.iload_n 2, 1) := by decide +kernel
theorem dX5_addPart_4 : decode cX5_addPart 4 = .ok (.istore 5, 2) := by decide +kernel
theorem dX5_addPart_6 : decode cX5_addPart 6 = .ok (.iload 5, 2) := by decide +kernel
theorem dX5_addPart_8 : decode cX5_addPart 8 = .ok (.iload_n 3, 1) := by decide +kernel
theorem dX5_addPart_9 : decode cX5_addPart 9 = .ok (.if_icmp .ge 26, 3) := by decide +kernel
theorem dX5_addPart_12 : decode cX5_addPart 12 = .ok (.iload 4, 2) := by decide +kernel
theorem dX5_addPart_14 : decode cX5_addPart 14 = .ok (.ifCond .eq 21, 3) := by decide +kernel
theorem dX5_addPart_17 : decode cX5_addPart 17 = .ok (.aload_n 0, 1) := by decide +kernel
theorem dX5_addPart_18 : decode cX5_addPart 18 = .ok (.aload_n 1, 1) := by decide +kernel
theorem dX5_addPart_19 : decode cX5_addPart 19 = .ok (.iload 5, 2) := by decide +kernel
theorem dX5_addPart_21 : decode cX5_addPart 21 = .ok (.invokevirtual 19, 3) := by decide +kernel
theorem dX5_addPart_24 : decode cX5_addPart 24 = .ok (.invokevirtual 23, 3) := by decide +kernel
theorem dX5_addPart_27 : decode cX5_addPart 27 = .ok (.istore 4, 2) := by decide +kernel
theorem dX5_addPart_29 : decode cX5_addPart 29 = .ok (.iinc 5 1, 3) := by decide +kernel
theorem dX5_addPart_32 : decode cX5_addPart 32 = .ok (.goto (-26), 3) := by decide +kernel
theorem dX5_addPart_35 : decode cX5_addPart 35 = .ok (.iload 4, 2) := by decide +kernel
theorem dX5_addPart_37 : decode cX5_addPart 37 = .ok (.ireturn, 1) := by decide +kernel
theorem dX5_behindBlanks_0 : decode cX5_behindBlanks 0 = .ok (.iload_n 1, 1) := by decide +kernel
theorem dX5_behindBlanks_1 : decode cX5_behindBlanks 1 = .ok (.istore_n 3, 1) := by decide +kernel
theorem dX5_behindBlanks_2 : decode cX5_behindBlanks 2 = .ok (.iload_n 3, 1) := by decide +kernel
theorem dX5_behindBlanks_3 : decode cX5_behindBlanks 3 = .ok (.ifCond .lt 36, 3) := by decide +kernel
theorem dX5_behindBlanks_6 : decode cX5_behindBlanks 6 = .ok (.iload_n 3, 1) := by decide +kernel
theorem dX5_behindBlanks_7 : decode cX5_behindBlanks 7 = .ok (.iload_n 2, 1) := by decide +kernel
theorem dX5_behindBlanks_8 : decode cX5_behindBlanks 8 = .ok (.if_icmp .ge 31, 3) := by decide +kernel
theorem dX5_behindBlanks_11 : decode cX5_behindBlanks 11 = .ok (.iload_n 3, 1) := by decide +kernel
theorem dX5_behindBlanks_12 : decode cX5_behindBlanks 12 = .ok (.aload_n 0, 1) := by decide +kernel
theorem dX5_behindBlanks_13 : decode cX5_behindBlanks 13 = .ok (.getfield 9, 3) := by decide +kernel
theorem dX5_behindBlanks_16 : decode cX5_behindBlanks 16 = .ok (.arraylength, 1) := by decide +kernel
theorem dX5_behindBlanks_17 : decode cX5_behindBlanks 17 = .ok (.if_icmp .ge 22, 3) := by decide +kernel
theorem dX5_behindBlanks_20 : decode cX5_behindBlanks 20 = .ok (.aload_n 0, 1) := by decide +kernel
theorem dX5_behindBlanks_21 : decode cX5_behindBlanks 21 = .ok (.getfield 9, 3) := by decide +kernel
theorem dX5_behindBlanks_24 : decode cX5_behindBlanks 24 = .ok (.iload_n 3, 1) := by decide +kernel
theorem dX5_behindBlanks_25 : decode cX5_behindBlanks 25 = .ok (.iaload, 1) := by decide +kernel
theorem dX5_behindBlanks_26 : decode cX5_behindBlanks 26 = .ok (.bipush 32, 2) := by decide +kernel
theorem dX5_behindBlanks_28 : decode cX5_behindBlanks 28 = .ok (.if_icmp .eq 5, 3) := by decide +kernel
theorem dX5_behindBlanks_31 : decode cX5_behindBlanks 31 = .ok (.iload_n 3, 1) := by decide +kernel
theorem dX5_behindBlanks_32 : decode cX5_behindBlanks 32 = .ok (.ireturn, 1) := by decide +kernel
theorem dX5_behindBlanks_33 : decode cX5_behindBlanks 33 = .ok (.iinc 3 1, 3) := by decide +kernel
theorem dX5_behindBlanks_36 : decode cX5_behindBlanks 36 = .ok (.goto (-34), 3) := by decide +kernel
theorem dX5_behindBlanks_39 : decode cX5_behindBlanks 39 = .ok (.iload_n 2, 1) := by decide +kernel
theorem dX5_behindBlanks_40 : decode cX5_behindBlanks 40 = .ok (.ireturn, 1) := by decide +kernel
theorem dX5_behindSpace_0 : decode cX5_behindSpace 0 = .ok (.iload_n 1, 1) := by decide +kernel
theorem dX5_behindSpace_1 : decode cX5_behindSpace 1 = .ok (.istore_n 3, 1) := by decide +kernel
theorem dX5_behindSpace_2 : decode cX5_behindSpace 2 = .ok (.iload_n 3, 1) := by decide +kernel
theorem dX5_behindSpace_3 : decode cX5_behindSpace 3 = .ok (.ifCond .lt 47, 3) := by decide +kernel
theorem dX5_behindSpace_6 : decode cX5_behindSpace 6 = .ok (.iload_n 3, 1) := by decide +kernel
theorem dX5_behindSpace_7 : decode cX5_behindSpace 7 = .ok (.iload_n 2, 1) := by decide +kernel
theorem dX5_behindSpace_8 : decode cX5_behindSpace 8 = .ok (.if_icmp .ge 42, 3) := by decide +kernel
theorem dX5_behindSpace_11 : decode cX5_behindSpace 11 = .ok (.iload_n 3, 1) := by decide +kernel
theorem dX5_behindSpace_12 : decode cX5_behindSpace 12 = .ok (.aload_n 0, 1) := by decide +kernel
theorem dX5_behindSpace_13 : decode cX5_behindSpace 13 = .ok (.getfield 9, 3) := by decide +kernel
theorem dX5_behindSpace_16 : decode cX5_behindSpace 16 = .ok (.arraylength, 1) := by decide +kernel
theorem dX5_behindSpace_17 : decode cX5_behindSpace 17 = .ok (.if_icmp .ge 33, 3) := by decide +kernel
theorem dX5_behindSpace_20 : decode cX5_behindSpace 20 = .ok (.aload_n 0, 1) := by decide +kernel
theorem dX5_behindSpace_21 : decode cX5_behindSpace 21 = .ok (.getfield 9, 3) := by decide +kernel
theorem dX5_behindSpace_24 : decode cX5_behindSpace 24 = .ok (.iload_n 3, 1) := by decide +kernel
theorem dX5_behindSpace_25 : decode cX5_behindSpace 25 = .ok (.iaload, 1) := by decide +kernel
theorem dX5_behindSpace_26 : decode cX5_behindSpace 26 = .ok (.bipush 32, 2) := by decide +kernel
theorem dX5_behindSpace_28 : decode cX5_behindSpace 28 = .ok (.if_icmp .eq 16, 3) := by decide +kernel
theorem dX5_behindSpace_31 : decode cX5_behindSpace 31 = .ok (.aload_n 0, 1) := by decide +kernel
theorem dX5_behindSpace_32 : decode cX5_behindSpace 32 = .ok (.getfield 9, 3) := by decide +kernel
theorem dX5_behindSpace_35 : decode cX5_behindSpace 35 = .ok (.iload_n 3, 1) := by decide +kernel
theorem dX5_behindSpace_36 : decode cX5_behindSpace 36 = .ok (.iaload, 1) := by decide +kernel
theorem dX5_behindSpace_37 : decode cX5_behindSpace 37 = .ok (.bipush 10, 2) := by decide +kernel
theorem dX5_behindSpace_39 : decode cX5_behindSpace 39 = .ok (.if_icmp .eq 5, 3) := by decide +kernel
theorem dX5_behindSpace_42 : decode cX5_behindSpace 42 = .ok (.iload_n 3, 1) := by decide +kernel
theorem dX5_behindSpace_43 : decode cX5_behindSpace 43 = .ok (.ireturn, 1) := by decide +kernel
theorem dX5_behindSpace_44 : decode cX5_behindSpace 44 = .ok (.iinc 3 1, 3) := by decide +kernel
theorem dX5_behindSpace_47 : decode cX5_behindSpace 47 = .ok (.goto (-45), 3) := by decide +kernel
theorem dX5_behindSpace_50 : decode cX5_behindSpace 50 = .ok (.iload_n 2, 1) := by decide +kernel
theorem dX5_behindSpace_51 : decode cX5_behindSpace 51 = .ok (.ireturn, 1) := by decide +kernel
theorem dX5_breaksCell_0 : decode cX5_breaksCell 0 = .ok (.iconst 0, 1) := by decide +kernel
theorem dX5_breaksCell_1 : decode cX5_breaksCell 1 = .ok (.istore_n 1, 1) := by decide +kernel
theorem dX5_breaksCell_2 : decode cX5_breaksCell 2 = .ok (.iload_n 1, 1) := by decide +kernel
theorem dX5_breaksCell_3 : decode cX5_breaksCell 3 = .ok (.aload_n 0, 1) := by decide +kernel
theorem dX5_breaksCell_4 : decode cX5_breaksCell 4 = .ok (.getfield 15, 3) := by decide +kernel
theorem dX5_breaksCell_7 : decode cX5_breaksCell 7 = .ok (.if_icmp .ge 53, 3) := by decide +kernel
theorem dX5_breaksCell_10 : decode cX5_breaksCell 10 = .ok (.iload_n 1, 1) := by decide +kernel
theorem dX5_breaksCell_11 : decode cX5_breaksCell 11 = .ok (.aload_n 0, 1) := by decide +kernel
theorem dX5_breaksCell_12 : decode cX5_breaksCell 12 = .ok (.getfield 9, 3) := by decide +kernel
theorem dX5_breaksCell_15 : decode cX5_breaksCell 15 = .ok (.arraylength, 1) := by decide +kernel
theorem dX5_breaksCell_16 : decode cX5_breaksCell 16 = .ok (.if_icmp .ge 44, 3) := by decide +kernel
theorem dX5_breaksCell_19 : decode cX5_breaksCell 19 = .ok (.aload_n 0, 1) := by decide +kernel
theorem dX5_breaksCell_20 : decode cX5_breaksCell 20 = .ok (.getfield 9, 3) := by decide +kernel
theorem dX5_breaksCell_23 : decode cX5_breaksCell 23 = .ok (.iload_n 1, 1) := by decide +kernel
theorem dX5_breaksCell_24 : decode cX5_breaksCell 24 = .ok (.iaload, 1) := by decide +kernel
theorem dX5_breaksCell_25 : decode cX5_breaksCell 25 = .ok (.bipush 44, 2) := by decide +kernel
theorem dX5_breaksCell_27 : decode cX5_breaksCell 27 = .ok (.if_icmp .eq 25, 3) := by decide +kernel
theorem dX5_breaksCell_30 : decode cX5_breaksCell 30 = .ok (.aload_n 0, 1) := by decide +kernel
theorem dX5_breaksCell_31 : decode cX5_breaksCell 31 = .ok (.getfield 9, 3) := by decide +kernel
theorem dX5_breaksCell_34 : decode cX5_breaksCell 34 = .ok (.iload_n 1, 1) := by decide +kernel
theorem dX5_breaksCell_35 : decode cX5_breaksCell 35 = .ok (.iaload, 1) := by decide +kernel
theorem dX5_breaksCell_36 : decode cX5_breaksCell 36 = .ok (.bipush 34, 2) := by decide +kernel
theorem dX5_breaksCell_38 : decode cX5_breaksCell 38 = .ok (.if_icmp .eq 14, 3) := by decide +kernel
theorem dX5_breaksCell_41 : decode cX5_breaksCell 41 = .ok (.aload_n 0, 1) := by decide +kernel
theorem dX5_breaksCell_42 : decode cX5_breaksCell 42 = .ok (.getfield 9, 3) := by decide +kernel
theorem dX5_breaksCell_45 : decode cX5_breaksCell 45 = .ok (.iload_n 1, 1) := by decide +kernel
theorem dX5_breaksCell_46 : decode cX5_breaksCell 46 = .ok (.iaload, 1) := by decide +kernel
theorem dX5_breaksCell_47 : decode cX5_breaksCell 47 = .ok (.bipush 10, 2) := by decide +kernel
theorem dX5_breaksCell_49 : decode cX5_breaksCell 49 = .ok (.if_icmp .ne 5, 3) := by decide +kernel
theorem dX5_breaksCell_52 : decode cX5_breaksCell 52 = .ok (.iconst 1, 1) := by decide +kernel
theorem dX5_breaksCell_53 : decode cX5_breaksCell 53 = .ok (.ireturn, 1) := by decide +kernel
theorem dX5_breaksCell_54 : decode cX5_breaksCell 54 = .ok (.iinc 1 1, 3) := by decide +kernel
theorem dX5_breaksCell_57 : decode cX5_breaksCell 57 = .ok (.goto (-55), 3) := by decide +kernel
theorem dX5_breaksCell_60 : decode cX5_breaksCell 60 = .ok (.iconst 0, 1) := by decide +kernel
theorem dX5_breaksCell_61 : decode cX5_breaksCell 61 = .ok (.ireturn, 1) := by decide +kernel
theorem dX5_cellEnd_0 : decode cX5_cellEnd 0 = .ok (.iload_n 1, 1) := by decide +kernel
theorem dX5_cellEnd_1 : decode cX5_cellEnd 1 = .ok (.istore_n 2, 1) := by decide +kernel
theorem dX5_cellEnd_2 : decode cX5_cellEnd 2 = .ok (.iload_n 2, 1) := by decide +kernel
theorem dX5_cellEnd_3 : decode cX5_cellEnd 3 = .ok (.ifCond .lt 50, 3) := by decide +kernel
theorem dX5_cellEnd_6 : decode cX5_cellEnd 6 = .ok (.iload_n 2, 1) := by decide +kernel
theorem dX5_cellEnd_7 : decode cX5_cellEnd 7 = .ok (.aload_n 0, 1) := by decide +kernel
theorem dX5_cellEnd_8 : decode cX5_cellEnd 8 = .ok (.getfield 15, 3) := by decide +kernel
theorem dX5_cellEnd_11 : decode cX5_cellEnd 11 = .ok (.if_icmp .ge 42, 3) := by decide +kernel
theorem dX5_cellEnd_14 : decode cX5_cellEnd 14 = .ok (.iload_n 2, 1) := by decide +kernel
theorem dX5_cellEnd_15 : decode cX5_cellEnd 15 = .ok (.aload_n 0, 1) := by decide +kernel
theorem dX5_cellEnd_16 : decode cX5_cellEnd 16 = .ok (.getfield 9, 3) := by decide +kernel
theorem dX5_cellEnd_19 : decode cX5_cellEnd 19 = .ok (.arraylength, 1) := by decide +kernel
theorem dX5_cellEnd_20 : decode cX5_cellEnd 20 = .ok (.if_icmp .ge 33, 3) := by decide +kernel
theorem dX5_cellEnd_23 : decode cX5_cellEnd 23 = .ok (.aload_n 0, 1) := by decide +kernel
theorem dX5_cellEnd_24 : decode cX5_cellEnd 24 = .ok (.getfield 9, 3) := by decide +kernel
theorem dX5_cellEnd_27 : decode cX5_cellEnd 27 = .ok (.iload_n 2, 1) := by decide +kernel
theorem dX5_cellEnd_28 : decode cX5_cellEnd 28 = .ok (.iaload, 1) := by decide +kernel
theorem dX5_cellEnd_29 : decode cX5_cellEnd 29 = .ok (.bipush 44, 2) := by decide +kernel
theorem dX5_cellEnd_31 : decode cX5_cellEnd 31 = .ok (.if_icmp .eq 14, 3) := by decide +kernel
theorem dX5_cellEnd_34 : decode cX5_cellEnd 34 = .ok (.aload_n 0, 1) := by decide +kernel
theorem dX5_cellEnd_35 : decode cX5_cellEnd 35 = .ok (.getfield 9, 3) := by decide +kernel
theorem dX5_cellEnd_38 : decode cX5_cellEnd 38 = .ok (.iload_n 2, 1) := by decide +kernel
theorem dX5_cellEnd_39 : decode cX5_cellEnd 39 = .ok (.iaload, 1) := by decide +kernel
theorem dX5_cellEnd_40 : decode cX5_cellEnd 40 = .ok (.bipush 10, 2) := by decide +kernel
theorem dX5_cellEnd_42 : decode cX5_cellEnd 42 = .ok (.if_icmp .ne 5, 3) := by decide +kernel
theorem dX5_cellEnd_45 : decode cX5_cellEnd 45 = .ok (.iload_n 2, 1) := by decide +kernel
theorem dX5_cellEnd_46 : decode cX5_cellEnd 46 = .ok (.ireturn, 1) := by decide +kernel
theorem dX5_cellEnd_47 : decode cX5_cellEnd 47 = .ok (.iinc 2 1, 3) := by decide +kernel
theorem dX5_cellEnd_50 : decode cX5_cellEnd 50 = .ok (.goto (-48), 3) := by decide +kernel
theorem dX5_cellEnd_53 : decode cX5_cellEnd 53 = .ok (.aload_n 0, 1) := by decide +kernel
theorem dX5_cellEnd_54 : decode cX5_cellEnd 54 = .ok (.getfield 15, 3) := by decide +kernel
theorem dX5_cellEnd_57 : decode cX5_cellEnd 57 = .ok (.ireturn, 1) := by decide +kernel
theorem dX5_cellQuoteEnd_0 : decode cX5_cellQuoteEnd 0 = .ok (.iconst 0, 1) := by decide +kernel
theorem dX5_cellQuoteEnd_1 : decode cX5_cellQuoteEnd 1 = .ok (.istore_n 2, 1) := by decide +kernel
theorem dX5_cellQuoteEnd_2 : decode cX5_cellQuoteEnd 2 = .ok (.iload_n 1, 1) := by decide +kernel
theorem dX5_cellQuoteEnd_3 : decode cX5_cellQuoteEnd 3 = .ok (.istore_n 3, 1) := by decide +kernel
theorem dX5_cellQuoteEnd_4 : decode cX5_cellQuoteEnd 4 = .ok (.iload_n 3, 1) := by decide +kernel
theorem dX5_cellQuoteEnd_5 : decode cX5_cellQuoteEnd 5 = .ok (.ifCond .lt 58, 3) := by decide +kernel
theorem dX5_cellQuoteEnd_8 : decode cX5_cellQuoteEnd 8 = .ok (.iload_n 3, 1) := by decide +kernel
theorem dX5_cellQuoteEnd_9 : decode cX5_cellQuoteEnd 9 = .ok (.aload_n 0, 1) := by decide +kernel
theorem dX5_cellQuoteEnd_10 : decode cX5_cellQuoteEnd 10 = .ok (.getfield 15, 3) := by decide +kernel
theorem dX5_cellQuoteEnd_13 : decode cX5_cellQuoteEnd 13 = .ok (.if_icmp .ge 50, 3) := by decide +kernel
theorem dX5_cellQuoteEnd_16 : decode cX5_cellQuoteEnd 16 = .ok (.iload_n 3, 1) := by decide +kernel
theorem dX5_cellQuoteEnd_17 : decode cX5_cellQuoteEnd 17 = .ok (.aload_n 0, 1) := by decide +kernel
theorem dX5_cellQuoteEnd_18 : decode cX5_cellQuoteEnd 18 = .ok (.getfield 9, 3) := by decide +kernel
theorem dX5_cellQuoteEnd_21 : decode cX5_cellQuoteEnd 21 = .ok (.arraylength, 1) := by decide +kernel
theorem dX5_cellQuoteEnd_22 : decode cX5_cellQuoteEnd 22 = .ok (.if_icmp .ge 41, 3) := by decide +kernel
theorem dX5_cellQuoteEnd_25 : decode cX5_cellQuoteEnd 25 = .ok (.aload_n 0, 1) := by decide +kernel
theorem dX5_cellQuoteEnd_26 : decode cX5_cellQuoteEnd 26 = .ok (.getfield 9, 3) := by decide +kernel
theorem dX5_cellQuoteEnd_29 : decode cX5_cellQuoteEnd 29 = .ok (.iload_n 3, 1) := by decide +kernel
theorem dX5_cellQuoteEnd_30 : decode cX5_cellQuoteEnd 30 = .ok (.iaload, 1) := by decide +kernel
theorem dX5_cellQuoteEnd_31 : decode cX5_cellQuoteEnd 31 = .ok (.bipush 34, 2) := by decide +kernel
theorem dX5_cellQuoteEnd_33 : decode cX5_cellQuoteEnd 33 = .ok (.if_icmp .ne 16, 3) := by decide +kernel
theorem dX5_cellQuoteEnd_36 : decode cX5_cellQuoteEnd 36 = .ok (.iload_n 2, 1) := by decide +kernel
theorem dX5_cellQuoteEnd_37 : decode cX5_cellQuoteEnd 37 = .ok (.ifCond .ne 7, 3) := by decide +kernel
theorem dX5_cellQuoteEnd_40 : decode cX5_cellQuoteEnd 40 = .ok (.iconst 1, 1) := by decide +kernel
theorem dX5_cellQuoteEnd_41 : decode cX5_cellQuoteEnd 41 = .ok (.goto 4, 3) := by decide +kernel
theorem dX5_cellQuoteEnd_44 : decode cX5_cellQuoteEnd 44 = .ok (.iconst 0, 1) := by decide +kernel
theorem dX5_cellQuoteEnd_45 : decode cX5_cellQuoteEnd 45 = .ok (.istore_n 2, 1) := by decide +kernel
theorem dX5_cellQuoteEnd_46 : decode cX5_cellQuoteEnd 46 = .ok (.goto 11, 3) := by decide +kernel
theorem dX5_cellQuoteEnd_49 : decode cX5_cellQuoteEnd 49 = .ok (.iload_n 2, 1) := by decide +kernel
theorem dX5_cellQuoteEnd_50 : decode cX5_cellQuoteEnd 50 = .ok (.ifCond .eq 7, 3) := by decide +kernel
theorem dX5_cellQuoteEnd_53 : decode cX5_cellQuoteEnd 53 = .ok (.iload_n 3, 1) := by decide +kernel
theorem dX5_cellQuoteEnd_54 : decode cX5_cellQuoteEnd 54 = .ok (.iconst 1, 1) := by decide +kernel
theorem dX5_cellQuoteEnd_55 : decode cX5_cellQuoteEnd 55 = .ok (.isub, 1) := by decide +kernel
theorem dX5_cellQuoteEnd_56 : decode cX5_cellQuoteEnd 56 = .ok (.ireturn, 1) := by decide +kernel
theorem dX5_cellQuoteEnd_57 : decode cX5_cellQuoteEnd 57 = .ok (.iinc 3 1, 3) := by decide +kernel
theorem dX5_cellQuoteEnd_60 : decode cX5_cellQuoteEnd 60 = .ok (.goto (-56), 3) := by decide +kernel
theorem dX5_cellQuoteEnd_63 : decode cX5_cellQuoteEnd 63 = .ok (.iload_n 2, 1) := by decide +kernel
theorem dX5_cellQuoteEnd_64 : decode cX5_cellQuoteEnd 64 = .ok (.ifCond .eq 12, 3) := by decide +kernel
theorem dX5_cellQuoteEnd_67 : decode cX5_cellQuoteEnd 67 = .ok (.aload_n 0, 1) := by decide +kernel
theorem dX5_cellQuoteEnd_68 : decode cX5_cellQuoteEnd 68 = .ok (.getfield 15, 3) := by decide +kernel
theorem dX5_cellQuoteEnd_71 : decode cX5_cellQuoteEnd 71 = .ok (.iconst 1, 1) := by decide +kernel
theorem dX5_cellQuoteEnd_72 : decode cX5_cellQuoteEnd 72 = .ok (.isub, 1) := by decide +kernel
theorem dX5_cellQuoteEnd_73 : decode cX5_cellQuoteEnd 73 = .ok (.goto 7, 3) := by decide +kernel
theorem dX5_cellQuoteEnd_76 : decode cX5_cellQuoteEnd 76 = .ok (.aload_n 0, 1) := by decide +kernel
theorem dX5_cellQuoteEnd_77 : decode cX5_cellQuoteEnd 77 = .ok (.getfield 15, 3) := by decide +kernel
theorem dX5_cellQuoteEnd_80 : decode cX5_cellQuoteEnd 80 = .ok (.ireturn, 1) := by decide +kernel
theorem dX5_countWords_0 : decode cX5_countWords 0 = .ok (.iconst 0, 1) := by decide +kernel
theorem dX5_countWords_1 : decode cX5_countWords 1 = .ok (.istore_n 3, 1) := by decide +kernel
theorem dX5_countWords_2 : decode cX5_countWords 2 = .ok (.iconst 0, 1) := by decide +kernel
theorem dX5_countWords_3 : decode cX5_countWords 3 = .ok (.istore 4, 2) := by decide +kernel
theorem dX5_countWords_5 : decode cX5_countWords 5 = .ok (.iload_n 1, 1) := by decide +kernel
theorem dX5_countWords_6 : decode cX5_countWords 6 = .ok (.istore 5, 2) := by decide +kernel
theorem dX5_countWords_8 : decode cX5_countWords 8 = .ok (.iload 5, 2) := by decide +kernel
theorem dX5_countWords_10 : decode cX5_countWords 10 = .ok (.iload_n 1, 1) := by decide +kernel
theorem dX5_countWords_11 : decode cX5_countWords 11 = .ok (.iload_n 2, 1) := by decide +kernel
theorem dX5_countWords_12 : decode cX5_countWords 12 = .ok (.iadd, 1) := by decide +kernel
theorem dX5_countWords_13 : decode cX5_countWords 13 = .ok (.if_icmp .ge 37, 3) := by decide +kernel
theorem dX5_countWords_16 : decode cX5_countWords 16 = .ok (.aload_n 0, 1) := by decide +kernel
theorem dX5_countWords_17 : decode cX5_countWords 17 = .ok (.iload 5, 2) := by decide +kernel
theorem dX5_countWords_19 : decode cX5_countWords 19 = .ok (.invokevirtual 19, 3) := by decide +kernel
theorem dX5_countWords_22 : decode cX5_countWords 22 = .ok (.invokestatic 34, 3) := by decide +kernel
theorem dX5_countWords_25 : decode cX5_countWords 25 = .ok (.istore 6, 2) := by decide +kernel
theorem dX5_countWords_27 : decode cX5_countWords 27 = .ok (.iload 6, 2) := by decide +kernel
theorem dX5_countWords_29 : decode cX5_countWords 29 = .ok (.ifCond .eq 11, 3) := by decide +kernel
theorem dX5_countWords_32 : decode cX5_countWords 32 = .ok (.iload 4, 2) := by decide +kernel
theorem dX5_countWords_34 : decode cX5_countWords 34 = .ok (.ifCond .ne 6, 3) := by decide +kernel
theorem dX5_countWords_37 : decode cX5_countWords 37 = .ok (.iinc 3 1, 3) := by decide +kernel
theorem dX5_countWords_40 : decode cX5_countWords 40 = .ok (.iload 6, 2) := by decide +kernel
theorem dX5_countWords_42 : decode cX5_countWords 42 = .ok (.istore 4, 2) := by decide +kernel
theorem dX5_countWords_44 : decode cX5_countWords 44 = .ok (.iinc 5 1, 3) := by decide +kernel
theorem dX5_countWords_47 : decode cX5_countWords 47 = .ok (.goto (-39), 3) := by decide +kernel
theorem dX5_countWords_50 : decode cX5_countWords 50 = .ok (.iload_n 3, 1) := by decide +kernel
theorem dX5_countWords_51 : decode cX5_countWords 51 = .ok (.ireturn, 1) := by decide +kernel
theorem dX5_cutTo_0 : decode cX5_cutTo 0 = .ok (.iload_n 1, 1) := by decide +kernel
theorem dX5_cutTo_1 : decode cX5_cutTo 1 = .ok (.ifCond .lt 16, 3) := by decide +kernel
theorem dX5_cutTo_4 : decode cX5_cutTo 4 = .ok (.iload_n 1, 1) := by decide +kernel
theorem dX5_cutTo_5 : decode cX5_cutTo 5 = .ok (.aload_n 0, 1) := by decide +kernel
theorem dX5_cutTo_6 : decode cX5_cutTo 6 = .ok (.getfield 15, 3) := by decide +kernel
theorem dX5_cutTo_9 : decode cX5_cutTo 9 = .ok (.if_icmp .ge 8, 3) := by decide +kernel
theorem dX5_cutTo_12 : decode cX5_cutTo 12 = .ok (.aload_n 0, 1) := by decide +kernel
theorem dX5_cutTo_13 : decode cX5_cutTo 13 = .ok (.iload_n 1, 1) := by decide +kernel
theorem dX5_cutTo_14 : decode cX5_cutTo 14 = .ok (.putfield 15, 3) := by decide +kernel
theorem dX5_cutTo_17 : decode cX5_cutTo 17 = .ok (.return_, 1) := by decide +kernel
theorem dX5_get_0 : decode cX5_get 0 = .ok (.iload_n 1, 1) := by decide +kernel
theorem dX5_get_1 : decode cX5_get 1 = .ok (.ifCond .lt 29, 3) := by decide +kernel
theorem dX5_get_4 : decode cX5_get 4 = .ok (.iload_n 1, 1) := by decide +kernel
theorem dX5_get_5 : decode cX5_get 5 = .ok (.aload_n 0, 1) := by decide +kernel
theorem dX5_get_6 : decode cX5_get 6 = .ok (.getfield 15, 3) := by decide +kernel
theorem dX5_get_9 : decode cX5_get 9 = .ok (.if_icmp .ge 21, 3) := by decide +kernel
theorem dX5_get_12 : decode cX5_get 12 = .ok (.iload_n 1, 1) := by decide +kernel
theorem dX5_get_13 : decode cX5_get 13 = .ok (.aload_n 0, 1) := by decide +kernel
theorem dX5_get_14 : decode cX5_get 14 = .ok (.getfield 9, 3) := by decide +kernel
theorem dX5_get_17 : decode cX5_get 17 = .ok (.arraylength, 1) := by decide +kernel
theorem dX5_get_18 : decode cX5_get 18 = .ok (.if_icmp .ge 12, 3) := by decide +kernel
theorem dX5_get_21 : decode cX5_get 21 = .ok (.aload_n 0, 1) := by decide +kernel
theorem dX5_get_22 : decode cX5_get 22 = .ok (.getfield 9, 3) := by decide +kernel
theorem dX5_get_25 : decode cX5_get 25 = .ok (.iload_n 1, 1) := by decide +kernel
theorem dX5_get_26 : decode cX5_get 26 = .ok (.iaload, 1) := by decide +kernel
theorem dX5_get_27 : decode cX5_get 27 = .ok (.goto 4, 3) := by decide +kernel
theorem dX5_get_30 : decode cX5_get 30 = .ok (.iconst (-1), 1) := by decide +kernel
theorem dX5_get_31 : decode cX5_get 31 = .ok (.ireturn, 1) := by decide +kernel
theorem dX5_hasLetter_0 : decode cX5_hasLetter 0 = .ok (.iload_n 1, 1) := by decide +kernel
theorem dX5_hasLetter_1 : decode cX5_hasLetter 1 = .ok (.istore_n 2, 1) := by decide +kernel
theorem dX5_hasLetter_2 : decode cX5_hasLetter 2 = .ok (.iload_n 2, 1) := by decide +kernel
theorem dX5_hasLetter_3 : decode cX5_hasLetter 3 = .ok (.aload_n 0, 1) := by decide +kernel
theorem dX5_hasLetter_4 : decode cX5_hasLetter 4 = .ok (.getfield 15, 3) := by decide +kernel
theorem dX5_hasLetter_7 : decode cX5_hasLetter 7 = .ok (.if_icmp .ge 22, 3) := by decide +kernel
theorem dX5_hasLetter_10 : decode cX5_hasLetter 10 = .ok (.aload_n 0, 1) := by decide +kernel
theorem dX5_hasLetter_11 : decode cX5_hasLetter 11 = .ok (.iload_n 2, 1) := by decide +kernel
theorem dX5_hasLetter_12 : decode cX5_hasLetter 12 = .ok (.invokevirtual 19, 3) := by decide +kernel
theorem dX5_hasLetter_15 : decode cX5_hasLetter 15 = .ok (.invokestatic 34, 3) := by decide +kernel
theorem dX5_hasLetter_18 : decode cX5_hasLetter 18 = .ok (.ifCond .eq 5, 3) := by decide +kernel
theorem dX5_hasLetter_21 : decode cX5_hasLetter 21 = .ok (.iconst 1, 1) := by decide +kernel
theorem dX5_hasLetter_22 : decode cX5_hasLetter 22 = .ok (.ireturn, 1) := by decide +kernel
theorem dX5_hasLetter_23 : decode cX5_hasLetter 23 = .ok (.iinc 2 1, 3) := by decide +kernel
theorem dX5_hasLetter_26 : decode cX5_hasLetter 26 = .ok (.goto (-24), 3) := by decide +kernel
theorem dX5_hasLetter_29 : decode cX5_hasLetter 29 = .ok (.iconst 0, 1) := by decide +kernel
theorem dX5_hasLetter_30 : decode cX5_hasLetter 30 = .ok (.ireturn, 1) := by decide +kernel
theorem dX5_hasSmall_0 : decode cX5_hasSmall 0 = .ok (.iconst 0, 1) := by decide +kernel
theorem dX5_hasSmall_1 : decode cX5_hasSmall 1 = .ok (.istore_n 3, 1) := by decide +kernel
theorem dX5_hasSmall_2 : decode cX5_hasSmall 2 = .ok (.iload_n 3, 1) := by decide +kernel
theorem dX5_hasSmall_3 : decode cX5_hasSmall 3 = .ok (.aload_n 2, 1) := by decide +kernel
theorem dX5_hasSmall_4 : decode cX5_hasSmall 4 = .ok (.invokevirtual 37, 3) := by decide +kernel
theorem dX5_hasSmall_7 : decode cX5_hasSmall 7 = .ok (.if_icmp .ge 29, 3) := by decide +kernel
theorem dX5_hasSmall_10 : decode cX5_hasSmall 10 = .ok (.aload_n 0, 1) := by decide +kernel
theorem dX5_hasSmall_11 : decode cX5_hasSmall 11 = .ok (.iload_n 1, 1) := by decide +kernel
theorem dX5_hasSmall_12 : decode cX5_hasSmall 12 = .ok (.iload_n 3, 1) := by decide +kernel
theorem dX5_hasSmall_13 : decode cX5_hasSmall 13 = .ok (.iadd, 1) := by decide +kernel
theorem dX5_hasSmall_14 : decode cX5_hasSmall 14 = .ok (.invokevirtual 19, 3) := by decide +kernel
theorem dX5_hasSmall_17 : decode cX5_hasSmall 17 = .ok (.invokestatic 44, 3) := by decide +kernel
theorem dX5_hasSmall_20 : decode cX5_hasSmall 20 = .ok (.aload_n 2, 1) := by decide +kernel
theorem dX5_hasSmall_21 : decode cX5_hasSmall 21 = .ok (.iload_n 3, 1) := by decide +kernel
theorem dX5_hasSmall_22 : decode cX5_hasSmall 22 = .ok (.invokevirtual 19, 3) := by decide +kernel
theorem dX5_hasSmall_25 : decode cX5_hasSmall 25 = .ok (.if_icmp .eq 5, 3) := by decide +kernel
theorem dX5_hasSmall_28 : decode cX5_hasSmall 28 = .ok (.iconst 0, 1) := by decide +kernel
theorem dX5_hasSmall_29 : decode cX5_hasSmall 29 = .ok (.ireturn, 1) := by decide +kernel
theorem dX5_hasSmall_30 : decode cX5_hasSmall 30 = .ok (.iinc 3 1, 3) := by decide +kernel
theorem dX5_hasSmall_33 : decode cX5_hasSmall 33 = .ok (.goto (-31), 3) := by decide +kernel
theorem dX5_hasSmall_36 : decode cX5_hasSmall 36 = .ok (.iconst 1, 1) := by decide +kernel
theorem dX5_hasSmall_37 : decode cX5_hasSmall 37 = .ok (.ireturn, 1) := by decide +kernel
theorem dX5_hasWord_0 : decode cX5_hasWord 0 = .ok (.iload_n 1, 1) := by decide +kernel
theorem dX5_hasWord_1 : decode cX5_hasWord 1 = .ok (.istore 4, 2) := by decide +kernel
theorem dX5_hasWord_3 : decode cX5_hasWord 3 = .ok (.iload 4, 2) := by decide +kernel
theorem dX5_hasWord_5 : decode cX5_hasWord 5 = .ok (.iload_n 1, 1) := by decide +kernel
theorem dX5_hasWord_6 : decode cX5_hasWord 6 = .ok (.iload_n 2, 1) := by decide +kernel
theorem dX5_hasWord_7 : decode cX5_hasWord 7 = .ok (.iadd, 1) := by decide +kernel
theorem dX5_hasWord_8 : decode cX5_hasWord 8 = .ok (.aload_n 3, 1) := by decide +kernel
theorem dX5_hasWord_9 : decode cX5_hasWord 9 = .ok (.invokevirtual 37, 3) := by decide +kernel
theorem dX5_hasWord_12 : decode cX5_hasWord 12 = .ok (.isub, 1) := by decide +kernel
theorem dX5_hasWord_13 : decode cX5_hasWord 13 = .ok (.if_icmp .gt 21, 3) := by decide +kernel
theorem dX5_hasWord_16 : decode cX5_hasWord 16 = .ok (.aload_n 0, 1) := by decide +kernel
theorem dX5_hasWord_17 : decode cX5_hasWord 17 = .ok (.iload 4, 2) := by decide +kernel
theorem dX5_hasWord_19 : decode cX5_hasWord 19 = .ok (.aload_n 3, 1) := by decide +kernel
theorem dX5_hasWord_20 : decode cX5_hasWord 20 = .ok (.invokevirtual 40, 3) := by decide +kernel
theorem dX5_hasWord_23 : decode cX5_hasWord 23 = .ok (.ifCond .eq 5, 3) := by decide +kernel
theorem dX5_hasWord_26 : decode cX5_hasWord 26 = .ok (.iconst 1, 1) := by decide +kernel
theorem dX5_hasWord_27 : decode cX5_hasWord 27 = .ok (.ireturn, 1) := by decide +kernel
theorem dX5_hasWord_28 : decode cX5_hasWord 28 = .ok (.iinc 4 1, 3) := by decide +kernel
theorem dX5_hasWord_31 : decode cX5_hasWord 31 = .ok (.goto (-28), 3) := by decide +kernel
theorem dX5_hasWord_34 : decode cX5_hasWord 34 = .ok (.iconst 0, 1) := by decide +kernel
theorem dX5_hasWord_35 : decode cX5_hasWord 35 = .ok (.ireturn, 1) := by decide +kernel
theorem dX5_init_0 : decode cX5_init 0 = .ok (.aload_n 0, 1) := by decide +kernel
theorem dX5_init_1 : decode cX5_init 1 = .ok (.invokespecial 3, 3) := by decide +kernel
theorem dX5_init_4 : decode cX5_init 4 = .ok (.aload_n 0, 1) := by decide +kernel
theorem dX5_init_5 : decode cX5_init 5 = .ok (.iload_n 1, 1) := by decide +kernel
theorem dX5_init_6 : decode cX5_init 6 = .ok (.ifCond .le 7, 3) := by decide +kernel
theorem dX5_init_9 : decode cX5_init 9 = .ok (.iload_n 1, 1) := by decide +kernel
theorem dX5_init_10 : decode cX5_init 10 = .ok (.goto 4, 3) := by decide +kernel
theorem dX5_init_13 : decode cX5_init 13 = .ok (.iconst 0, 1) := by decide +kernel
theorem dX5_init_14 : decode cX5_init 14 = .ok (.newarray .int, 2) := by decide +kernel
theorem dX5_init_16 : decode cX5_init 16 = .ok (.putfield 9, 3) := by decide +kernel
theorem dX5_init_19 : decode cX5_init 19 = .ok (.return_, 1) := by decide +kernel
theorem dX5_isSame_0 : decode cX5_isSame 0 = .ok (.iconst 0, 1) := by decide +kernel
theorem dX5_isSame_1 : decode cX5_isSame 1 = .ok (.istore 5, 2) := by decide +kernel
theorem dX5_isSame_3 : decode cX5_isSame 3 = .ok (.iload 5, 2) := by decide +kernel
theorem dX5_isSame_5 : decode cX5_isSame 5 = .ok (.iload 4, 2) := by decide +kernel
theorem dX5_isSame_7 : decode cX5_isSame 7 = .ok (.if_icmp .ge 30, 3) := by decide +kernel
theorem dX5_isSame_10 : decode cX5_isSame 10 = .ok (.aload_n 0, 1) := by decide +kernel
theorem dX5_isSame_11 : decode cX5_isSame 11 = .ok (.iload_n 1, 1) := by decide +kernel
theorem dX5_isSame_12 : decode cX5_isSame 12 = .ok (.iload 5, 2) := by decide +kernel
theorem dX5_isSame_14 : decode cX5_isSame 14 = .ok (.iadd, 1) := by decide +kernel
theorem dX5_isSame_15 : decode cX5_isSame 15 = .ok (.invokevirtual 19, 3) := by decide +kernel
theorem dX5_isSame_18 : decode cX5_isSame 18 = .ok (.aload_n 2, 1) := by decide +kernel
theorem dX5_isSame_19 : decode cX5_isSame 19 = .ok (.iload_n 3, 1) := by decide +kernel
theorem dX5_isSame_20 : decode cX5_isSame 20 = .ok (.iload 5, 2) := by decide +kernel
theorem dX5_isSame_22 : decode cX5_isSame 22 = .ok (.iadd, 1) := by decide +kernel
theorem dX5_isSame_23 : decode cX5_isSame 23 = .ok (.invokevirtual 19, 3) := by decide +kernel
theorem dX5_isSame_26 : decode cX5_isSame 26 = .ok (.if_icmp .eq 5, 3) := by decide +kernel
theorem dX5_isSame_29 : decode cX5_isSame 29 = .ok (.iconst 0, 1) := by decide +kernel
theorem dX5_isSame_30 : decode cX5_isSame 30 = .ok (.ireturn, 1) := by decide +kernel
theorem dX5_isSame_31 : decode cX5_isSame 31 = .ok (.iinc 5 1, 3) := by decide +kernel
theorem dX5_isSame_34 : decode cX5_isSame 34 = .ok (.goto (-31), 3) := by decide +kernel
theorem dX5_isSame_37 : decode cX5_isSame 37 = .ok (.iconst 1, 1) := by decide +kernel
theorem dX5_isSame_38 : decode cX5_isSame 38 = .ok (.ireturn, 1) := by decide +kernel
theorem dX5_isText_0 : decode cX5_isText 0 = .ok (.iload_n 2, 1) := by decide +kernel
theorem dX5_isText_1 : decode cX5_isText 1 = .ok (.aload_n 3, 1) := by decide +kernel
theorem dX5_isText_2 : decode cX5_isText 2 = .ok (.invokevirtual 47, 3) := by decide +kernel
theorem dX5_isText_5 : decode cX5_isText 5 = .ok (.if_icmp .eq 5, 3) := by decide +kernel
theorem dX5_isText_8 : decode cX5_isText 8 = .ok (.iconst 0, 1) := by decide +kernel
theorem dX5_isText_9 : decode cX5_isText 9 = .ok (.ireturn, 1) := by decide +kernel
theorem dX5_isText_10 : decode cX5_isText 10 = .ok (.iconst 0, 1) := by decide +kernel
theorem dX5_isText_11 : decode cX5_isText 11 = .ok (.istore 4, 2) := by decide +kernel
theorem dX5_isText_13 : decode cX5_isText 13 = .ok (.iload 4, 2) := by decide +kernel
theorem dX5_isText_15 : decode cX5_isText 15 = .ok (.iload_n 2, 1) := by decide +kernel
theorem dX5_isText_16 : decode cX5_isText 16 = .ok (.if_icmp .ge 37, 3) := by decide +kernel
theorem dX5_isText_19 : decode cX5_isText 19 = .ok (.iload 4, 2) := by decide +kernel
theorem dX5_isText_21 : decode cX5_isText 21 = .ok (.aload_n 3, 1) := by decide +kernel
theorem dX5_isText_22 : decode cX5_isText 22 = .ok (.invokevirtual 47, 3) := by decide +kernel
theorem dX5_isText_25 : decode cX5_isText 25 = .ok (.if_icmp .ge 28, 3) := by decide +kernel
theorem dX5_isText_28 : decode cX5_isText 28 = .ok (.aload_n 0, 1) := by decide +kernel
theorem dX5_isText_29 : decode cX5_isText 29 = .ok (.iload_n 1, 1) := by decide +kernel
theorem dX5_isText_30 : decode cX5_isText 30 = .ok (.iload 4, 2) := by decide +kernel
theorem dX5_isText_32 : decode cX5_isText 32 = .ok (.iadd, 1) := by decide +kernel
theorem dX5_isText_33 : decode cX5_isText 33 = .ok (.invokevirtual 19, 3) := by decide +kernel
theorem dX5_isText_36 : decode cX5_isText 36 = .ok (.aload_n 3, 1) := by decide +kernel
theorem dX5_isText_37 : decode cX5_isText 37 = .ok (.iload 4, 2) := by decide +kernel
theorem dX5_isText_39 : decode cX5_isText 39 = .ok (.invokevirtual 52, 3) := by decide +kernel
theorem dX5_isText_42 : decode cX5_isText 42 = .ok (.if_icmp .eq 5, 3) := by decide +kernel
theorem dX5_isText_45 : decode cX5_isText 45 = .ok (.iconst 0, 1) := by decide +kernel
theorem dX5_isText_46 : decode cX5_isText 46 = .ok (.ireturn, 1) := by decide +kernel
theorem dX5_isText_47 : decode cX5_isText 47 = .ok (.iinc 4 1, 3) := by decide +kernel
theorem dX5_isText_50 : decode cX5_isText 50 = .ok (.goto (-37), 3) := by decide +kernel
theorem dX5_isText_53 : decode cX5_isText 53 = .ok (.iconst 1, 1) := by decide +kernel
theorem dX5_isText_54 : decode cX5_isText 54 = .ok (.ireturn, 1) := by decide +kernel
theorem dX5_isWord_0 : decode cX5_isWord 0 = .ok (.iconst 0, 1) := by decide +kernel
theorem dX5_isWord_1 : decode cX5_isWord 1 = .ok (.istore_n 1, 1) := by decide +kernel
theorem dX5_isWord_2 : decode cX5_isWord 2 = .ok (.iload_n 1, 1) := by decide +kernel
theorem dX5_isWord_3 : decode cX5_isWord 3 = .ok (.aload_n 0, 1) := by decide +kernel
theorem dX5_isWord_4 : decode cX5_isWord 4 = .ok (.getfield 15, 3) := by decide +kernel
theorem dX5_isWord_7 : decode cX5_isWord 7 = .ok (.if_icmp .ge 31, 3) := by decide +kernel
theorem dX5_isWord_10 : decode cX5_isWord 10 = .ok (.aload_n 0, 1) := by decide +kernel
theorem dX5_isWord_11 : decode cX5_isWord 11 = .ok (.iload_n 1, 1) := by decide +kernel
theorem dX5_isWord_12 : decode cX5_isWord 12 = .ok (.invokevirtual 19, 3) := by decide +kernel
theorem dX5_isWord_15 : decode cX5_isWord 15 = .ok (.bipush 97, 2) := by decide +kernel
theorem dX5_isWord_17 : decode cX5_isWord 17 = .ok (.if_icmp .lt 13, 3) := by decide +kernel
theorem dX5_isWord_20 : decode cX5_isWord 20 = .ok (.aload_n 0, 1) := by decide +kernel
theorem dX5_isWord_21 : decode cX5_isWord 21 = .ok (.iload_n 1, 1) := by decide +kernel
theorem dX5_isWord_22 : decode cX5_isWord 22 = .ok (.invokevirtual 19, 3) := by decide +kernel
theorem dX5_isWord_25 : decode cX5_isWord 25 = .ok (.bipush 122, 2) := by decide +kernel
theorem dX5_isWord_27 : decode cX5_isWord 27 = .ok (.if_icmp .le 5, 3) := by decide +kernel
theorem dX5_isWord_30 : decode cX5_isWord 30 = .ok (.iconst 0, 1) := by decide +kernel
theorem dX5_isWord_31 : decode cX5_isWord 31 = .ok (.ireturn, 1) := by decide +kernel
theorem dX5_isWord_32 : decode cX5_isWord 32 = .ok (.iinc 1 1, 3) := by decide +kernel
theorem dX5_isWord_35 : decode cX5_isWord 35 = .ok (.goto (-33), 3) := by decide +kernel
theorem dX5_isWord_38 : decode cX5_isWord 38 = .ok (.aload_n 0, 1) := by decide +kernel
theorem dX5_isWord_39 : decode cX5_isWord 39 = .ok (.getfield 15, 3) := by decide +kernel
theorem dX5_isWord_42 : decode cX5_isWord 42 = .ok (.iconst 1, 1) := by decide +kernel
theorem dX5_isWord_43 : decode cX5_isWord 43 = .ok (.if_icmp .lt 16, 3) := by decide +kernel
theorem dX5_isWord_46 : decode cX5_isWord 46 = .ok (.aload_n 0, 1) := by decide +kernel
theorem dX5_isWord_47 : decode cX5_isWord 47 = .ok (.getfield 15, 3) := by decide +kernel
theorem dX5_isWord_50 : decode cX5_isWord 50 = .ok (.bipush 8, 2) := by decide +kernel
theorem dX5_isWord_52 : decode cX5_isWord 52 = .ok (.if_icmp .gt 7, 3) := by decide +kernel
theorem dX5_isWord_55 : decode cX5_isWord 55 = .ok (.iconst 1, 1) := by decide +kernel
theorem dX5_isWord_56 : decode cX5_isWord 56 = .ok (.goto 4, 3) := by decide +kernel
theorem dX5_isWord_59 : decode cX5_isWord 59 = .ok (.iconst 0, 1) := by decide +kernel
theorem dX5_isWord_60 : decode cX5_isWord 60 = .ok (.ireturn, 1) := by decide +kernel
theorem dX5_next_0 : decode cX5_next 0 = .ok (.iload_n 2, 1) := by decide +kernel
theorem dX5_next_1 : decode cX5_next 1 = .ok (.istore 4, 2) := by decide +kernel
theorem dX5_next_3 : decode cX5_next 3 = .ok (.iload 4, 2) := by decide +kernel
theorem dX5_next_5 : decode cX5_next 5 = .ok (.ifCond .lt 39, 3) := by decide +kernel
theorem dX5_next_8 : decode cX5_next 8 = .ok (.iload 4, 2) := by decide +kernel
theorem dX5_next_10 : decode cX5_next 10 = .ok (.iload_n 3, 1) := by decide +kernel
theorem dX5_next_11 : decode cX5_next 11 = .ok (.if_icmp .ge 33, 3) := by decide +kernel
theorem dX5_next_14 : decode cX5_next 14 = .ok (.iload 4, 2) := by decide +kernel
theorem dX5_next_16 : decode cX5_next 16 = .ok (.aload_n 0, 1) := by decide +kernel
theorem dX5_next_17 : decode cX5_next 17 = .ok (.getfield 9, 3) := by decide +kernel
theorem dX5_next_20 : decode cX5_next 20 = .ok (.arraylength, 1) := by decide +kernel
theorem dX5_next_21 : decode cX5_next 21 = .ok (.if_icmp .ge 23, 3) := by decide +kernel
theorem dX5_next_24 : decode cX5_next 24 = .ok (.aload_n 0, 1) := by decide +kernel
theorem dX5_next_25 : decode cX5_next 25 = .ok (.getfield 9, 3) := by decide +kernel
theorem dX5_next_28 : decode cX5_next 28 = .ok (.iload 4, 2) := by decide +kernel
theorem dX5_next_30 : decode cX5_next 30 = .ok (.iaload, 1) := by decide +kernel
theorem dX5_next_31 : decode cX5_next 31 = .ok (.iload_n 1, 1) := by decide +kernel
theorem dX5_next_32 : decode cX5_next 32 = .ok (.if_icmp .ne 6, 3) := by decide +kernel
theorem dX5_next_35 : decode cX5_next 35 = .ok (.iload 4, 2) := by decide +kernel
theorem dX5_next_37 : decode cX5_next 37 = .ok (.ireturn, 1) := by decide +kernel
theorem dX5_next_38 : decode cX5_next 38 = .ok (.iinc 4 1, 3) := by decide +kernel
theorem dX5_next_41 : decode cX5_next 41 = .ok (.goto (-38), 3) := by decide +kernel
theorem dX5_next_44 : decode cX5_next 44 = .ok (.iload_n 3, 1) := by decide +kernel
theorem dX5_next_45 : decode cX5_next 45 = .ok (.ireturn, 1) := by decide +kernel
theorem dX5_part_0 : decode cX5_part 0 = .ok (.new 10, 3) := by decide +kernel
theorem dX5_part_3 : decode cX5_part 3 = .ok (.dup, 1) := by decide +kernel
theorem dX5_part_4 : decode cX5_part 4 = .ok (.iload_n 2, 1) := by decide +kernel
theorem dX5_part_5 : decode cX5_part 5 = .ok (.invokespecial 27, 3) := by decide +kernel
theorem dX5_part_8 : decode cX5_part 8 = .ok (.astore_n 3, 1) := by decide +kernel
theorem dX5_part_9 : decode cX5_part 9 = .ok (.aload_n 3, 1) := by decide +kernel
theorem dX5_part_10 : decode cX5_part 10 = .ok (.aload_n 0, 1) := by decide +kernel
theorem dX5_part_11 : decode cX5_part 11 = .ok (.iload_n 1, 1) := by decide +kernel
theorem dX5_part_12 : decode cX5_part 12 = .ok (.iload_n 1, 1) := by decide +kernel
theorem dX5_part_13 : decode cX5_part 13 = .ok (.iload_n 2, 1) := by decide +kernel
theorem dX5_part_14 : decode cX5_part 14 = .ok (.iadd, 1) := by decide +kernel
theorem dX5_part_15 : decode cX5_part 15 = .ok (.invokevirtual 30, 3) := by decide +kernel
theorem dX5_part_18 : decode cX5_part 18 = .ok (.pop, 1) := by decide +kernel
theorem dX5_part_19 : decode cX5_part 19 = .ok (.aload_n 3, 1) := by decide +kernel
theorem dX5_part_20 : decode cX5_part 20 = .ok (.areturn, 1) := by decide +kernel
theorem dX5_quoteEnd_0 : decode cX5_quoteEnd 0 = .ok (.iconst 0, 1) := by decide +kernel
theorem dX5_quoteEnd_1 : decode cX5_quoteEnd 1 = .ok (.istore_n 2, 1) := by decide +kernel
theorem dX5_quoteEnd_2 : decode cX5_quoteEnd 2 = .ok (.iload_n 1, 1) := by decide +kernel
theorem dX5_quoteEnd_3 : decode cX5_quoteEnd 3 = .ok (.istore_n 3, 1) := by decide +kernel
theorem dX5_quoteEnd_4 : decode cX5_quoteEnd 4 = .ok (.iload_n 3, 1) := by decide +kernel
theorem dX5_quoteEnd_5 : decode cX5_quoteEnd 5 = .ok (.ifCond .lt 64, 3) := by decide +kernel
theorem dX5_quoteEnd_8 : decode cX5_quoteEnd 8 = .ok (.iload_n 3, 1) := by decide +kernel
theorem dX5_quoteEnd_9 : decode cX5_quoteEnd 9 = .ok (.aload_n 0, 1) := by decide +kernel
theorem dX5_quoteEnd_10 : decode cX5_quoteEnd 10 = .ok (.getfield 15, 3) := by decide +kernel
theorem dX5_quoteEnd_13 : decode cX5_quoteEnd 13 = .ok (.if_icmp .ge 56, 3) := by decide +kernel
theorem dX5_quoteEnd_16 : decode cX5_quoteEnd 16 = .ok (.iload_n 3, 1) := by decide +kernel
theorem dX5_quoteEnd_17 : decode cX5_quoteEnd 17 = .ok (.aload_n 0, 1) := by decide +kernel
theorem dX5_quoteEnd_18 : decode cX5_quoteEnd 18 = .ok (.getfield 9, 3) := by decide +kernel
theorem dX5_quoteEnd_21 : decode cX5_quoteEnd 21 = .ok (.arraylength, 1) := by decide +kernel
theorem dX5_quoteEnd_22 : decode cX5_quoteEnd 22 = .ok (.if_icmp .ge 47, 3) := by decide +kernel
theorem dX5_quoteEnd_25 : decode cX5_quoteEnd 25 = .ok (.aload_n 0, 1) := by decide +kernel
theorem dX5_quoteEnd_26 : decode cX5_quoteEnd 26 = .ok (.getfield 9, 3) := by decide +kernel
theorem dX5_quoteEnd_29 : decode cX5_quoteEnd 29 = .ok (.iload_n 3, 1) := by decide +kernel
theorem dX5_quoteEnd_30 : decode cX5_quoteEnd 30 = .ok (.iaload, 1) := by decide +kernel
theorem dX5_quoteEnd_31 : decode cX5_quoteEnd 31 = .ok (.bipush 34, 2) := by decide +kernel
theorem dX5_quoteEnd_33 : decode cX5_quoteEnd 33 = .ok (.if_icmp .ne 9, 3) := by decide +kernel
theorem dX5_quoteEnd_36 : decode cX5_quoteEnd 36 = .ok (.iload_n 2, 1) := by decide +kernel
theorem dX5_quoteEnd_37 : decode cX5_quoteEnd 37 = .ok (.ifCond .ne 5, 3) := by decide +kernel
theorem dX5_quoteEnd_40 : decode cX5_quoteEnd 40 = .ok (.iload_n 3, 1) := by decide +kernel
theorem dX5_quoteEnd_41 : decode cX5_quoteEnd 41 = .ok (.ireturn, 1) := by decide +kernel
theorem dX5_quoteEnd_42 : decode cX5_quoteEnd 42 = .ok (.aload_n 0, 1) := by decide +kernel
theorem dX5_quoteEnd_43 : decode cX5_quoteEnd 43 = .ok (.getfield 9, 3) := by decide +kernel
theorem dX5_quoteEnd_46 : decode cX5_quoteEnd 46 = .ok (.iload_n 3, 1) := by decide +kernel
theorem dX5_quoteEnd_47 : decode cX5_quoteEnd 47 = .ok (.iaload, 1) := by decide +kernel
theorem dX5_quoteEnd_48 : decode cX5_quoteEnd 48 = .ok (.bipush 92, 2) := by decide +kernel
theorem dX5_quoteEnd_50 : decode cX5_quoteEnd 50 = .ok (.if_icmp .ne 11, 3) := by decide +kernel
theorem dX5_quoteEnd_53 : decode cX5_quoteEnd 53 = .ok (.iload_n 2, 1) := by decide +kernel
theorem dX5_quoteEnd_54 : decode cX5_quoteEnd 54 = .ok (.ifCond .ne 7, 3) := by decide +kernel
theorem dX5_quoteEnd_57 : decode cX5_quoteEnd 57 = .ok (.iconst 1, 1) := by decide +kernel
theorem dX5_quoteEnd_58 : decode cX5_quoteEnd 58 = .ok (.goto 4, 3) := by decide +kernel
theorem dX5_quoteEnd_61 : decode cX5_quoteEnd 61 = .ok (.iconst 0, 1) := by decide +kernel
theorem dX5_quoteEnd_62 : decode cX5_quoteEnd 62 = .ok (.istore_n 2, 1) := by decide +kernel
theorem dX5_quoteEnd_63 : decode cX5_quoteEnd 63 = .ok (.iinc 3 1, 3) := by decide +kernel
theorem dX5_quoteEnd_66 : decode cX5_quoteEnd 66 = .ok (.goto (-62), 3) := by decide +kernel
theorem dX5_quoteEnd_69 : decode cX5_quoteEnd 69 = .ok (.aload_n 0, 1) := by decide +kernel
theorem dX5_quoteEnd_70 : decode cX5_quoteEnd 70 = .ok (.getfield 15, 3) := by decide +kernel
theorem dX5_quoteEnd_73 : decode cX5_quoteEnd 73 = .ok (.ireturn, 1) := by decide +kernel
theorem dX5_size_0 : decode cX5_size 0 = .ok (.aload_n 0, 1) := by decide +kernel
theorem dX5_size_1 : decode cX5_size 1 = .ok (.getfield 15, 3) := by decide +kernel
theorem dX5_size_4 : decode cX5_size 4 = .ok (.ireturn, 1) := by decide +kernel
theorem dX6_next_0 : decode cX6_next 0 = .ok (.iconst 0, 1) := by decide +kernel
theorem dX6_next_1 : decode cX6_next 1 = .ok (.istore_n 1, 1) := by decide +kernel
theorem dX6_next_2 : decode cX6_next 2 = .ok (.iload_n 1, 1) := by decide +kernel
theorem dX6_next_3 : decode cX6_next 3 = .ok (.sipush 600, 3) := by decide +kernel
theorem dX6_next_6 : decode cX6_next 6 = .ok (.if_icmp .gt 90, 3) := by decide +kernel
theorem dX6_next_9 : decode cX6_next 9 = .ok (.aload_n 0, 1) := by decide +kernel
theorem dX6_next_10 : decode cX6_next 10 = .ok (.getfield 24, 3) := by decide +kernel
theorem dX6_next_13 : decode cX6_next 13 = .ok (.aload_n 0, 1) := by decide +kernel
theorem dX6_next_14 : decode cX6_next 14 = .ok (.getfield 14, 3) := by decide +kernel
end
