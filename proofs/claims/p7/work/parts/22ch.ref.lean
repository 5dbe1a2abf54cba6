def mX9_spread_b25 (s0 : Int32) (σ : RS9) : Option (Int32 × RS9) := some (s0, σ)
set_option maxHeartbeats 1000000 in
theorem rmX9_spread_b25 {X : GX} {p : Program} {l : Launch} {e : Env} {s : State} {m : MethodId} {args : Array Value} {below : List Frame} {meth : Method} {c : Code} {f : AH} {n : Nat} {r : Int32 × RS9} {s0 : Int32} {σ : RS9} (C : CC X p l (RM 11 0 0) s m args meth c RX9 cX9_spread 2 (some .int)) (h : mX9_spread_b25 s0 σ = some r) : AW X p l e (RM 11 0 0) s m args below meth c 2 (ZM X below args s 0 0 (QMi f n r)) (rHm f σ) n 0 0 25 [none, none] [.int s0] := by
  have h : some (s0, σ) = some r := h
  cases h
  exact aw_iret C rfl rfl dX9_spread_25 (Nat.le_refl _) (Nat.le_refl _) ⟨rfl, rfl, rfl⟩
def mX9_spread (v1 : Int32) (σ : RS9) : Option (Int32 × RS9) := ((mX9_putsAside σ).bind fun r1 => ((mX9_spread0 v1 r1.2).bind fun r2 => ((mX9_isDone r2.1 (1 : Int32) r2.2).bind fun r3 => (if r3.1 = (0 : Int32) then mX9_spread_b25 (0 : Int32) r3.2 else mX9_spread_b25 (r3.2.1 57) r3.2))))
set_option maxHeartbeats 1000000 in
theorem rmX9_spread {X : GX} {l : Launch} {f : AH} {n : Nat} {r : Int32 × RS9} {v1 : Int32} {σ : RS9} (h : mX9_spread v1 σ = some r) : AM X l yX9_spread cX9_spread 2 (some .int) 11 0 0 [.ref 181, .int v1] (rHm f σ) n (QMi f n r) := by
  have h : ((mX9_putsAside σ).bind fun r1 => ((mX9_spread0 v1 r1.2).bind fun r2 => ((mX9_isDone r2.1 (1 : Int32) r2.2).bind fun r3 => (if r3.1 = (0 : Int32) then mX9_spread_b25 (0 : Int32) r3.2 else mX9_spread_b25 (r3.2.1 57) r3.2)))) = some r := h
  refine AM.of (by decide +kernel) rfl (Nat.le_of_ble_eq_true rfl) (fun p e s m args below meth c C _ => ?_)
  refine aw_nl [some (.ref 181), some (.int v1)] rfl ?_
  refine aw_ald_n C dX9_spread_0 rfl ?_
  obtain ⟨r1, h1, h⟩ := Option.bind_eq_some_iff.mp h
  refine aw_callV C (ci := 9) (b := 181) [] mv_X9_420 rfl rfl (hm_M f σ) (rmX9_putsAside h1) rfl dX9_spread_1 (Nat.le_of_ble_eq_true rfl) (Nat.le_of_ble_eq_true rfl) rfl (Nat.le_of_ble_eq_true rfl) (Nat.le_of_ble_eq_true rfl) (Nat.le_of_ble_eq_true rfl) (fun v9 f9 n9 hh => ?_)
  obtain ⟨rfl, rfl, rfl⟩ := hh
  refine aw_ald_n C dX9_spread_4 rfl ?_
  refine aw_ald_n C dX9_spread_5 rfl ?_
  refine aw_iload_n C dX9_spread_6 rfl ?_
  obtain ⟨r2, h2, h⟩ := Option.bind_eq_some_iff.mp h
  refine aw_callV C (ci := 9) (b := 181) [.int v1] mv_X9_370 rfl rfl (hm_M f r1.2) (rmX9_spread0 h2) rfl dX9_spread_7 (Nat.le_of_ble_eq_true rfl) (Nat.le_of_ble_eq_true rfl) rfl (Nat.le_of_ble_eq_true rfl) (Nat.le_of_ble_eq_true rfl) (Nat.le_of_ble_eq_true rfl) (fun v9 f9 n9 hh => ?_)
  obtain ⟨rfl, rfl, rfl⟩ := hh
  refine aw_iconst C 1 dX9_spread_10 ki_1 ?_
  obtain ⟨r3, h3, h⟩ := Option.bind_eq_some_iff.mp h
  refine aw_callV C (ci := 9) (b := 181) [.int r2.1, .int (1 : Int32)] mv_X9_429 rfl rfl (hm_M f r2.2) (rmX9_isDone h3) rfl dX9_spread_11 (Nat.le_of_ble_eq_true rfl) (Nat.le_of_ble_eq_true rfl) rfl (Nat.le_of_ble_eq_true rfl) (Nat.le_of_ble_eq_true rfl) (Nat.le_of_ble_eq_true rfl) (fun v9 f9 n9 hh => ?_)
  obtain ⟨rfl, rfl, rfl⟩ := hh
  refine aw_if_eq C 24 dX9_spread_14 (by decide) (fun q => ?_) (fun q => ?_)
  · rw [if_pos q] at h
    refine aw_iconst C 0 dX9_spread_24 ki_0 ?_
    refine aw_fl [none, none] trivial ?_
    exact rmX9_spread_b25 C h
  · rw [if_neg q] at h
    refine aw_ald_n C dX9_spread_17 rfl ?_
    refine aw_get C (v := .int (r3.2.1 57)) gf_X9_306 (hm_M f r3.2) rfl dX9_spread_18 ?_
    refine aw_goto C 25 dX9_spread_21 (by decide) ?_
    refine aw_fl [none, none] trivial ?_
    exact rmX9_spread_b25 C h
def mX9_swap_b26 (s0 : Int32) (σ : RS9) : Option (Int32 × RS9) := some (s0, σ)
set_option maxHeartbeats 1000000 in
theorem rmX9_swap_b26 {X : GX} {p : Program} {l : Launch} {e : Env} {s : State} {m : MethodId} {args : Array Value} {below : List Frame} {meth : Method} {c : Code} {f : AH} {n : Nat} {r : Int32 × RS9} {s0 : Int32} {σ : RS9} (C : CC X p l (RM 11 0 0) s m args meth c RX9 cX9_swap 3 (some .int)) (h : mX9_swap_b26 s0 σ = some r) : AW X p l e (RM 11 0 0) s m args below meth c 3 (ZM X below args s 0 0 (QMi f n r)) (rHm f σ) n 0 0 26 [none, none, none] [.int s0] := by
  have h : some (s0, σ) = some r := h
  cases h
  exact aw_iret C rfl rfl dX9_swap_26 (Nat.le_refl _) (Nat.le_refl _) ⟨rfl, rfl, rfl⟩
def mX9_swap (v1 : Int32) (v2 : Int32) (σ : RS9) : Option (Int32 × RS9) := ((mX9_putsAside σ).bind fun r1 => ((mX9_swap0 v1 v2 r1.2).bind fun r2 => ((mX9_isDone r2.1 (1 : Int32) r2.2).bind fun r3 => (if r3.1 = (0 : Int32) then mX9_swap_b26 (0 : Int32) r3.2 else ((mX9_builtMany r3.2).bind fun r4 => mX9_swap_b26 r4.1 r4.2)))))
set_option maxHeartbeats 1000000 in
theorem rmX9_swap {X : GX} {l : Launch} {f : AH} {n : Nat} {r : Int32 × RS9} {v1 : Int32} {v2 : Int32} {σ : RS9} (h : mX9_swap v1 v2 σ = some r) : AM X l yX9_swap cX9_swap 3 (some .int) 11 0 0 [.ref 181, .int v1, .int v2] (rHm f σ) n (QMi f n r) := by
  have h : ((mX9_putsAside σ).bind fun r1 => ((mX9_swap0 v1 v2 r1.2).bind fun r2 => ((mX9_isDone r2.1 (1 : Int32) r2.2).bind fun r3 => (if r3.1 = (0 : Int32) then mX9_swap_b26 (0 : Int32) r3.2 else ((mX9_builtMany r3.2).bind fun r4 => mX9_swap_b26 r4.1 r4.2))))) = some r := h
  refine AM.of (by decide +kernel) rfl (Nat.le_of_ble_eq_true rfl) (fun p e s m args below meth c C _ => ?_)
  refine aw_nl [some (.ref 181), some (.int v1), some (.int v2)] rfl ?_
  refine aw_ald_n C dX9_swap_0 rfl ?_
  obtain ⟨r1, h1, h⟩ := Option.bind_eq_some_iff.mp h
  refine aw_callV C (ci := 9) (b := 181) [] mv_X9_420 rfl rfl (hm_M f σ) (rmX9_putsAside h1) rfl dX9_swap_1 (Nat.le_of_ble_eq_true rfl) (Nat.le_of_ble_eq_true rfl) rfl (Nat.le_of_ble_eq_true rfl) (Nat.le_of_ble_eq_true rfl) (Nat.le_of_ble_eq_true rfl) (fun v9 f9 n9 hh => ?_)
  obtain ⟨rfl, rfl, rfl⟩ := hh
  refine aw_ald_n C dX9_swap_4 rfl ?_
  refine aw_ald_n C dX9_swap_5 rfl ?_
  refine aw_iload_n C dX9_swap_6 rfl ?_
  refine aw_iload_n C dX9_swap_7 rfl ?_
  obtain ⟨r2, h2, h⟩ := Option.bind_eq_some_iff.mp h
  refine aw_callV C (ci := 9) (b := 181) [.int v1, .int v2] mv_X9_364 rfl rfl (hm_M f r1.2) (rmX9_swap0 h2) rfl dX9_swap_8 (Nat.le_of_ble_eq_true rfl) (Nat.le_of_ble_eq_true rfl) rfl (Nat.le_of_ble_eq_true rfl) (Nat.le_of_ble_eq_true rfl) (Nat.le_of_ble_eq_true rfl) (fun v9 f9 n9 hh => ?_)
  obtain ⟨rfl, rfl, rfl⟩ := hh
  refine aw_iconst C 1 dX9_swap_11 ki_1 ?_
  obtain ⟨r3, h3, h⟩ := Option.bind_eq_some_iff.mp h
  refine aw_callV C (ci := 9) (b := 181) [.int r2.1, .int (1 : Int32)] mv_X9_429 rfl rfl (hm_M f r2.2) (rmX9_isDone h3) rfl dX9_swap_12 (Nat.le_of_ble_eq_true rfl) (Nat.le_of_ble_eq_true rfl) rfl (Nat.le_of_ble_eq_true rfl) (Nat.le_of_ble_eq_true rfl) (Nat.le_of_ble_eq_true rfl) (fun v9 f9 n9 hh => ?_)
  obtain ⟨rfl, rfl, rfl⟩ := hh
  refine aw_if_eq C 25 dX9_swap_15 (by decide) (fun q => ?_) (fun q => ?_)
  · rw [if_pos q] at h
    refine aw_iconst C 0 dX9_swap_25 ki_0 ?_
    refine aw_fl [none, none, none] trivial ?_
    exact rmX9_swap_b26 C h
  · rw [if_neg q] at h
    refine aw_ald_n C dX9_swap_18 rfl ?_
    obtain ⟨r4, h4, h⟩ := Option.bind_eq_some_iff.mp h
    refine aw_callV C (ci := 9) (b := 181) [] mv_X9_300 rfl rfl (hm_M f r3.2) (rmX9_builtMany h4) rfl dX9_swap_19 (Nat.le_of_ble_eq_true rfl) (Nat.le_of_ble_eq_true rfl) rfl (Nat.le_of_ble_eq_true rfl) (Nat.le_of_ble_eq_true rfl) (Nat.le_of_ble_eq_true rfl) (fun v9 f9 n9 hh => ?_)
    obtain ⟨rfl, rfl, rfl⟩ := hh
    refine aw_goto C 26 dX9_swap_22 (by decide) ?_
    refine aw_fl [none, none, none] trivial ?_
    exact rmX9_swap_b26 C h
def mX9_wipe_b26 (s0 : Int32) (σ : RS9) : Option (Int32 × RS9) := some (s0, σ)
set_option maxHeartbeats 1000000 in
theorem rmX9_wipe_b26 {X : GX} {p : Program} {l : Launch} {e : Env} {s : State} {m : MethodId} {args : Array Value} {below : List Frame} {meth : Method} {c : Code} {f : AH} {n : Nat} {r : Int32 × RS9} {s0 : Int32} {σ : RS9} (C : CC X p l (RM 11 0 0) s m args meth c RX9 cX9_wipe 2 (some .int)) (h : mX9_wipe_b26 s0 σ = some r) : AW X p l e (RM 11 0 0) s m args below meth c 2 (ZM X below args s 0 0 (QMi f n r)) (rHm f σ) n 0 0 26 [none, none] [.int s0] := by
  have h : some (s0, σ) = some r := h
  cases h
  exact aw_iret C rfl rfl dX9_wipe_26 (Nat.le_refl _) (Nat.le_refl _) ⟨rfl, rfl, rfl⟩
def mX9_wipe (σ : RS9) : Option (Int32 × RS9) := ((mX9_putsAside σ).bind fun r1 => ((mX9_toldMany r1.2).bind fun r2 => ((mX9_wipe0 r2.2).bind fun r3 => ((mX9_isDone r3.1 (1 : Int32) r3.2).bind fun r4 => (if r4.1 = (0 : Int32) then mX9_wipe_b26 (0 : Int32) r4.2 else mX9_wipe_b26 r2.1 r4.2)))))
set_option maxHeartbeats 1000000 in
theorem rmX9_wipe {X : GX} {l : Launch} {f : AH} {n : Nat} {r : Int32 × RS9} {σ : RS9} (h : mX9_wipe σ = some r) : AM X l yX9_wipe cX9_wipe 2 (some .int) 11 0 0 [.ref 181] (rHm f σ) n (QMi f n r) := by
  have h : ((mX9_putsAside σ).bind fun r1 => ((mX9_toldMany r1.2).bind fun r2 => ((mX9_wipe0 r2.2).bind fun r3 => ((mX9_isDone r3.1 (1 : Int32) r3.2).bind fun r4 => (if r4.1 = (0 : Int32) then mX9_wipe_b26 (0 : Int32) r4.2 else mX9_wipe_b26 r2.1 r4.2))))) = some r := h
  refine AM.of (by decide +kernel) rfl (Nat.le_of_ble_eq_true rfl) (fun p e s m args below meth c C _ => ?_)
  refine aw_nl [some (.ref 181), none] rfl ?_
  refine aw_ald_n C dX9_wipe_0 rfl ?_
  obtain ⟨r1, h1, h⟩ := Option.bind_eq_some_iff.mp h
  refine aw_callV C (ci := 9) (b := 181) [] mv_X9_420 rfl rfl (hm_M f σ) (rmX9_putsAside h1) rfl dX9_wipe_1 (Nat.le_of_ble_eq_true rfl) (Nat.le_of_ble_eq_true rfl) rfl (Nat.le_of_ble_eq_true rfl) (Nat.le_of_ble_eq_true rfl) (Nat.le_of_ble_eq_true rfl) (fun v9 f9 n9 hh => ?_)
  obtain ⟨rfl, rfl, rfl⟩ := hh
  refine aw_ald_n C dX9_wipe_4 rfl ?_
  obtain ⟨r2, h2, h⟩ := Option.bind_eq_some_iff.mp h
  refine aw_callV C (ci := 9) (b := 181) [] mv_X9_319 rfl rfl (hm_M f r1.2) (rmX9_toldMany h2) rfl dX9_wipe_5 (Nat.le_of_ble_eq_true rfl) (Nat.le_of_ble_eq_true rfl) rfl (Nat.le_of_ble_eq_true rfl) (Nat.le_of_ble_eq_true rfl) (Nat.le_of_ble_eq_true rfl) (fun v9 f9 n9 hh => ?_)
  obtain ⟨rfl, rfl, rfl⟩ := hh
  refine aw_istore_n C dX9_wipe_8 (by decide) rfl ?_
  refine aw_nl [some (.ref 181), some (.int r2.1)] rfl ?_
  refine aw_ald_n C dX9_wipe_9 rfl ?_
  refine aw_ald_n C dX9_wipe_10 rfl ?_
  obtain ⟨r3, h3, h⟩ := Option.bind_eq_some_iff.mp h
  refine aw_callV C (ci := 9) (b := 181) [] mv_X9_417 rfl rfl (hm_M f r2.2) (rmX9_wipe0 h3) rfl dX9_wipe_11 (Nat.le_of_ble_eq_true rfl) (Nat.le_of_ble_eq_true rfl) rfl (Nat.le_of_ble_eq_true rfl) (Nat.le_of_ble_eq_true rfl) (Nat.le_of_ble_eq_true rfl) (fun v9 f9 n9 hh => ?_)
  obtain ⟨rfl, rfl, rfl⟩ := hh
  refine aw_iconst C 1 dX9_wipe_14 ki_1 ?_
  obtain ⟨r4, h4, h⟩ := Option.bind_eq_some_iff.mp h
  refine aw_callV C (ci := 9) (b := 181) [.int r3.1, .int (1 : Int32)] mv_X9_429 rfl rfl (hm_M f r3.2) (rmX9_isDone h4) rfl dX9_wipe_15 (Nat.le_of_ble_eq_true rfl) (Nat.le_of_ble_eq_true rfl) rfl (Nat.le_of_ble_eq_true rfl) (Nat.le_of_ble_eq_true rfl) (Nat.le_of_ble_eq_true rfl) (fun v9 f9 n9 hh => ?_)
  obtain ⟨rfl, rfl, rfl⟩ := hh
  refine aw_if_eq C 25 dX9_wipe_18 (by decide) (fun q => ?_) (fun q => ?_)
  · rw [if_pos q] at h
    refine aw_iconst C 0 dX9_wipe_25 ki_0 ?_
    refine aw_fl [none, none] trivial ?_
    exact rmX9_wipe_b26 C h
  · rw [if_neg q] at h
    refine aw_iload_n C dX9_wipe_21 rfl ?_
    refine aw_goto C 26 dX9_wipe_22 (by decide) ?_
    refine aw_fl [none, none] trivial ?_
    exact rmX9_wipe_b26 C h
def mX9_undo_l37 : Nat → Int32 → RS9 → Option (Int32 × RS9)
  | 0, _, _ => none
  | d + 1, v1, σ => (if (4347 : Int32) ≤ v1 then ((mX9_cutsFile σ).bind fun r1 => some ((r1.2.1 5), r1.2)) else rCk (rIn (((4347 : Int32) * (σ.1 5)) + v1) (rLen 4)) (rCk (rIn v1 (rLen 1)) (mX9_undo_l37 d (v1 + (1 : Int32)) (rSa σ 1 v1 (rGa σ 4 (((4347 : Int32) * (σ.1 5)) + v1))))))
set_option maxHeartbeats 1000000 in
theorem rmX9_undo_l37 {X : GX} {p : Program} {l : Launch} {e : Env} {s : State} {m : MethodId} {args : Array Value} {below : List Frame} {meth : Method} {c : Code} {f : AH} {n : Nat} {r : Int32 × RS9} (C : CC X p l (RM 9 0 0) s m args meth c RX9 cX9_undo 2 (some .int)) : ∀ (d : Nat) (v1 : Int32) (σ : RS9) (_ : mX9_undo_l37 d v1 σ = some r), AW X p l e (RM 9 0 0) s m args below meth c 2 (ZM X below args s 0 0 (QMi f n r)) (rHm f σ) n 0 0 37 [some (.ref 181), some (.int v1)] [] := by
  intro d
  induction d with
  | zero =>
    intro v1 σ h
    exact nomatch (show (none : Option (Int32 × RS9)) = some r from h)
  | succ d ih =>
    intro v1 σ h
    have h : (if (4347 : Int32) ≤ v1 then ((mX9_cutsFile σ).bind fun r1 => some ((r1.2.1 5), r1.2)) else rCk (rIn (((4347 : Int32) * (σ.1 5)) + v1) (rLen 4)) (rCk (rIn v1 (rLen 1)) (mX9_undo_l37 d (v1 + (1 : Int32)) (rSa σ 1 v1 (rGa σ 4 (((4347 : Int32) * (σ.1 5)) + v1)))))) = some r := h
    refine aw_iload_n C dX9_undo_37 rfl ?_
    refine aw_sipush C 4347 dX9_undo_38 ks_4347 ?_
    refine aw_icmp_ge C 71 dX9_undo_41 (by decide) (fun q => ?_) (fun q => ?_)
    · rw [if_pos q] at h
      refine aw_ald_n C dX9_undo_71 rfl ?_
      obtain ⟨r1, h1, h⟩ := Option.bind_eq_some_iff.mp h
      refine aw_callV C (ci := 9) (b := 181) [] mv_X9_244 rfl rfl (hm_M f σ) (rmX9_cutsFile h1) rfl dX9_undo_72 (Nat.le_of_ble_eq_true rfl) (Nat.le_of_ble_eq_true rfl) rfl (Nat.le_of_ble_eq_true rfl) (Nat.le_of_ble_eq_true rfl) (Nat.le_of_ble_eq_true rfl) (fun v9 f9 n9 hh => ?_)
      obtain ⟨rfl, rfl, rfl⟩ := hh
      refine aw_ald_n C dX9_undo_75 rfl ?_
      refine aw_get C (v := .int (r1.2.1 5)) gf_X9_325 (hm_M f r1.2) rfl dX9_undo_76 ?_
      cases h
      exact aw_iret C rfl rfl dX9_undo_79 (Nat.le_refl _) (Nat.le_refl _) ⟨rfl, rfl, rfl⟩
    · rw [if_neg q] at h
      refine aw_ald_n C dX9_undo_44 rfl ?_
      refine aw_get C (v := .ref (rAid 1)) gf_X9_7 (hm_M f σ) rfl dX9_undo_45 ?_
      refine aw_iload_n C dX9_undo_48 rfl ?_
      refine aw_ald_n C dX9_undo_49 rfl ?_
      refine aw_get C (v := .ref (rAid 4)) gf_X9_20 (hm_M f σ) rfl dX9_undo_50 ?_
      refine aw_sipush C 4347 dX9_undo_53 ks_4347 ?_
      refine aw_ald_n C dX9_undo_56 rfl ?_
      refine aw_get C (v := .int (σ.1 5)) gf_X9_325 (hm_M f σ) rfl dX9_undo_57 ?_
      refine aw_imul C dX9_undo_60 ?_
      refine aw_iload_n C dX9_undo_61 rfl ?_
      refine aw_iadd C dX9_undo_62 ?_
      obtain ⟨hb2, h⟩ := ck_some h
      refine am_iald C (rGa σ 4 (((4347 : Int32) * (σ.1 5)) + v1)) rfl (inb_vp hb2) rfl dX9_undo_63 ?_
      obtain ⟨hb3, h⟩ := ck_some h
      refine am_iast C rfl (inb_vp hb3) dX9_undo_64 ?_
      refine aw_iinc C (v1 + (1 : Int32)) dX9_undo_65 rfl (by rw [ki_1]) (by decide) rfl ?_
      refine aw_nl [some (.ref 181), some (.int (v1 + (1 : Int32)))] rfl ?_
      refine aw_goto C 37 dX9_undo_68 (by decide) ?_
      refine aw_fl [some (.ref 181), some (.int (v1 + (1 : Int32)))] ⟨rfl, ⟨rfl, trivial⟩⟩ ?_
      exact ih (v1 + (1 : Int32)) (rSa σ 1 v1 (rGa σ 4 (((4347 : Int32) * (σ.1 5)) + v1))) h
def mX9_undo_b13 (s1 : Int32) (σ : RS9) : Option (Int32 × RS9) := (if s1 ≤ (0 : Int32) then mX9_undo_l37 rFU (0 : Int32) (rSf (rSf σ 0 s1) 5 ((σ.1 5) - (1 : Int32))) else some ((0 : Int32), (rSf σ 0 s1)))
set_option maxHeartbeats 1000000 in
theorem rmX9_undo_b13 {X : GX} {p : Program} {l : Launch} {e : Env} {s : State} {m : MethodId} {args : Array Value} {below : List Frame} {meth : Method} {c : Code} {f : AH} {n : Nat} {r : Int32 × RS9} {s1 : Int32} {σ : RS9} (C : CC X p l (RM 9 0 0) s m args meth c RX9 cX9_undo 2 (some .int)) (h : mX9_undo_b13 s1 σ = some r) : AW X p l e (RM 9 0 0) s m args below meth c 2 (ZM X below args s 0 0 (QMi f n r)) (rHm f σ) n 0 0 13 [some (.ref 181), none] [.int s1, .ref 181] := by
  have h : (if s1 ≤ (0 : Int32) then mX9_undo_l37 rFU (0 : Int32) (rSf (rSf σ 0 s1) 5 ((σ.1 5) - (1 : Int32))) else some ((0 : Int32), (rSf σ 0 s1))) = some r := h
  refine am_put C gf_X9_138 nf9_0 rfl rfl dX9_undo_13 ?_
  refine aw_ald_n C dX9_undo_16 rfl ?_
  refine aw_get C (v := .int s1) gf_X9_138 (hm_M f (rSf σ 0 s1)) rfl dX9_undo_17 ?_
  refine aw_if_le C 25 dX9_undo_20 (by decide) (fun q => ?_) (fun q => ?_)
  · rw [if_pos q] at h
    refine aw_ald_n C dX9_undo_25 rfl ?_
    refine aw_dup C dX9_undo_26 rfl ?_
    refine aw_get C (v := .int (σ.1 5)) gf_X9_325 (hm_M f (rSf σ 0 s1)) rfl dX9_undo_27 ?_
    refine aw_iconst C 1 dX9_undo_30 ki_1 ?_
    refine aw_isub C dX9_undo_31 ?_
    refine am_put C gf_X9_325 nf9_5 rfl rfl dX9_undo_32 ?_
    refine aw_iconst C 0 dX9_undo_35 ki_0 ?_
    refine aw_istore_n C dX9_undo_36 (by decide) rfl ?_
    refine aw_nl [some (.ref 181), some (.int (0 : Int32))] rfl ?_
    refine aw_fl [some (.ref 181), some (.int (0 : Int32))] ⟨rfl, ⟨rfl, trivial⟩⟩ ?_
    exact rmX9_undo_l37 C rFU (0 : Int32) (rSf (rSf σ 0 s1) 5 ((σ.1 5) - (1 : Int32))) h
  · rw [if_neg q] at h
    refine aw_iconst C 0 dX9_undo_23 ki_0 ?_
    cases h
    exact aw_iret C rfl rfl dX9_undo_24 (Nat.le_refl _) (Nat.le_refl _) ⟨rfl, rfl, rfl⟩
def mX9_undo (σ : RS9) : Option (Int32 × RS9) := (if (σ.1 5) = (0 : Int32) then mX9_undo_b13 (1 : Int32) σ else mX9_undo_b13 (0 : Int32) σ)
set_option maxHeartbeats 1000000 in
theorem rmX9_undo {X : GX} {l : Launch} {f : AH} {n : Nat} {r : Int32 × RS9} {σ : RS9} (h : mX9_undo σ = some r) : AM X l yX9_undo cX9_undo 2 (some .int) 9 0 0 [.ref 181] (rHm f σ) n (QMi f n r) := by
  have h : (if (σ.1 5) = (0 : Int32) then mX9_undo_b13 (1 : Int32) σ else mX9_undo_b13 (0 : Int32) σ) = some r := h
  refine AM.of (by decide +kernel) rfl (Nat.le_of_ble_eq_true rfl) (fun p e s m args below meth c C _ => ?_)
  refine aw_nl [some (.ref 181), none] rfl ?_
  refine aw_ald_n C dX9_undo_0 rfl ?_
  refine aw_ald_n C dX9_undo_1 rfl ?_
  refine aw_get C (v := .int (σ.1 5)) gf_X9_325 (hm_M f σ) rfl dX9_undo_2 ?_
  refine aw_if_ne C 12 dX9_undo_5 (by decide) (fun q => ?_) (fun q => ?_)
  · rw [if_neg q] at h
    refine aw_iconst C 0 dX9_undo_12 ki_0 ?_
    refine aw_fl [some (.ref 181), none] ⟨rfl, trivial⟩ ?_
    exact rmX9_undo_b13 C h
  · rw [if_pos q] at h
    refine aw_iconst C 1 dX9_undo_8 ki_1 ?_
    refine aw_goto C 13 dX9_undo_9 (by decide) ?_
    refine aw_fl [some (.ref 181), none] ⟨rfl, trivial⟩ ?_
    exact rmX9_undo_b13 C h
def mX9_builds_l136 : Nat → Int32 → Int32 → RS9 → Option (Int32 × RS9)
  | 0, _, _, _ => none
  | d + 1, v1, v2, σ => rCk (rIn (0 : Int32) (rLen 1)) ((if (rGa σ 1 (0 : Int32)) ≤ v2 then some (v1, σ) else rCk (rIn ((43 : Int32) + v2) (rLen 1)) (rCk (rIn v1 (rLen 49)) (mX9_builds_l136 d (v1 + (1 : Int32)) (v2 + (1 : Int32)) (rSa σ 49 v1 (rGa σ 1 ((43 : Int32) + v2)))))))
set_option maxHeartbeats 1000000 in
theorem rmX9_builds_l136 {X : GX} {p : Program} {l : Launch} {e : Env} {s : State} {m : MethodId} {args : Array Value} {below : List Frame} {meth : Method} {c : Code} {f : AH} {n : Nat} {r : Int32 × RS9} (C : CC X p l (RM 9 0 0) s m args meth c RX9 cX9_builds 6 (some .int)) : ∀ (d : Nat) (v1 : Int32) (v2 : Int32) (σ : RS9) (_ : mX9_builds_l136 d v1 v2 σ = some r), AW X p l e (RM 9 0 0) s m args below meth c 6 (ZM X below args s 0 0 (QMi f n r)) (rHm f σ) n 0 0 136 [some (.ref 181), some (.int v1), some (.int v2), none, none, none] [] := by
  intro d
  induction d with
  | zero =>
    intro v1 v2 σ h
    exact nomatch (show (none : Option (Int32 × RS9)) = some r from h)
  | succ d ih =>
    intro v1 v2 σ h
    have h : rCk (rIn (0 : Int32) (rLen 1)) ((if (rGa σ 1 (0 : Int32)) ≤ v2 then some (v1, σ) else rCk (rIn ((43 : Int32) + v2) (rLen 1)) (rCk (rIn v1 (rLen 49)) (mX9_builds_l136 d (v1 + (1 : Int32)) (v2 + (1 : Int32)) (rSa σ 49 v1 (rGa σ 1 ((43 : Int32) + v2))))))) = some r := h
    refine aw_iload_n C dX9_builds_136 rfl ?_
    refine aw_ald_n C dX9_builds_137 rfl ?_
    refine aw_get C (v := .ref (rAid 1)) gf_X9_7 (hm_M f σ) rfl dX9_builds_138 ?_
    refine aw_iconst C 0 dX9_builds_141 ki_0 ?_
    obtain ⟨hb1, h⟩ := ck_some h
    refine am_iald C (rGa σ 1 (0 : Int32)) rfl (inb_vp hb1) rfl dX9_builds_142 ?_
    refine aw_icmp_ge C 170 dX9_builds_143 (by decide) (fun q => ?_) (fun q => ?_)
    · rw [if_pos q] at h
      refine aw_iload_n C dX9_builds_170 rfl ?_
      cases h
      exact aw_iret C rfl rfl dX9_builds_171 (Nat.le_refl _) (Nat.le_refl _) ⟨rfl, rfl, rfl⟩
    · rw [if_neg q] at h
      refine aw_ald_n C dX9_builds_146 rfl ?_
      refine aw_get C (v := .ref (rAid 49)) gf_X9_120 (hm_M f σ) rfl dX9_builds_147 ?_
      refine aw_iload_n C dX9_builds_150 rfl ?_
      refine aw_ald_n C dX9_builds_151 rfl ?_
      refine aw_get C (v := .ref (rAid 1)) gf_X9_7 (hm_M f σ) rfl dX9_builds_152 ?_
      refine aw_bipush C 43 dX9_builds_155 kb_43 ?_
      refine aw_iload_n C dX9_builds_157 rfl ?_
      refine aw_iadd C dX9_builds_158 ?_
      obtain ⟨hb2, h⟩ := ck_some h
      refine am_iald C (rGa σ 1 ((43 : Int32) + v2)) rfl (inb_vp hb2) rfl dX9_builds_159 ?_
      obtain ⟨hb3, h⟩ := ck_some h
      refine am_iast C rfl (inb_vp hb3) dX9_builds_160 ?_
      refine aw_iinc C (v1 + (1 : Int32)) dX9_builds_161 rfl (by rw [ki_1]) (by decide) rfl ?_
      refine aw_nl [some (.ref 181), some (.int (v1 + (1 : Int32))), some (.int v2), none, none, none] rfl ?_
      refine aw_iinc C (v2 + (1 : Int32)) dX9_builds_164 rfl (by rw [ki_1]) (by decide) rfl ?_
      refine aw_nl [some (.ref 181), some (.int (v1 + (1 : Int32))), some (.int (v2 + (1 : Int32))), none, none, none] rfl ?_
      refine aw_goto C 136 dX9_builds_167 (by decide) ?_
      refine aw_fl [some (.ref 181), some (.int (v1 + (1 : Int32))), some (.int (v2 + (1 : Int32))), none, none, none] ⟨rfl, ⟨rfl, ⟨rfl, trivial⟩⟩⟩ ?_
      exact ih (v1 + (1 : Int32)) (v2 + (1 : Int32)) (rSa σ 49 v1 (rGa σ 1 ((43 : Int32) + v2))) h
def mX9_builds_b111 (rec6 : Int32 → Int32 → Int32 → RS9 → Option (Int32 × RS9)) (rec65 : Int32 → Int32 → Int32 → Int32 → Int32 → RS9 → Option (Int32 × RS9)) (v1 : Int32) (v2 : Int32) (v3 : Int32) (v4 : Int32) (v5 : Int32) (s0 : Nat) (s1 : Int32) (s2 : Int32) (σ : RS9) : Option (Int32 × RS9) := rCk (rIn s1 (rLen s0)) (rec65 v1 v2 v3 v4 (v5 + (1 : Int32)) (rSa σ s0 s1 s2))
set_option maxHeartbeats 1000000 in
theorem rmX9_builds_b111 {X : GX} {p : Program} {l : Launch} {e : Env} {s : State} {m : MethodId} {args : Array Value} {below : List Frame} {meth : Method} {c : Code} {f : AH} {n : Nat} {r : Int32 × RS9} {rec6 : Int32 → Int32 → Int32 → RS9 → Option (Int32 × RS9)} {rec65 : Int32 → Int32 → Int32 → Int32 → Int32 → RS9 → Option (Int32 × RS9)} {v1 : Int32} {v2 : Int32} {v3 : Int32} {v4 : Int32} {v5 : Int32} {s0 : Nat} {s1 : Int32} {s2 : Int32} {σ : RS9} (C : CC X p l (RM 9 0 0) s m args meth c RX9 cX9_builds 6 (some .int)) (Hr6 : ∀ (v1 : Int32) (v2 : Int32) (v3 : Int32) (σ : RS9), rec6 v1 v2 v3 σ = some r → AW X p l e (RM 9 0 0) s m args below meth c 6 (ZM X below args s 0 0 (QMi f n r)) (rHm f σ) n 0 0 6 [some (.ref 181), some (.int v1), some (.int v2), some (.int v3), none, none] []) (Hr65 : ∀ (v1 : Int32) (v2 : Int32) (v3 : Int32) (v4 : Int32) (v5 : Int32) (σ : RS9), rec65 v1 v2 v3 v4 v5 σ = some r → AW X p l e (RM 9 0 0) s m args below meth c 6 (ZM X below args s 0 0 (QMi f n r)) (rHm f σ) n 0 0 65 [some (.ref 181), some (.int v1), some (.int v2), some (.int v3), some (.int v4), some (.int v5)] []) (ias0 : rIsA s0 = true) (h : mX9_builds_b111 rec6 rec65 v1 v2 v3 v4 v5 s0 s1 s2 σ = some r) : AW X p l e (RM 9 0 0) s m args below meth c 6 (ZM X below args s 0 0 (QMi f n r)) (rHm f σ) n 0 0 111 [some (.ref 181), some (.int v1), some (.int v2), some (.int v3), some (.int v4), some (.int v5)] [.int s2, .int s1, .ref (rAid s0)] := by
  have h : rCk (rIn s1 (rLen s0)) (rec65 v1 v2 v3 v4 (v5 + (1 : Int32)) (rSa σ s0 s1 s2)) = some r := h
  obtain ⟨hb1, h⟩ := ck_some h
  refine am_iast C ias0 (inb_vp hb1) dX9_builds_111 ?_
  refine aw_iinc C (v5 + (1 : Int32)) dX9_builds_112 rfl (by rw [ki_1]) (by decide) rfl ?_
  refine aw_nl [some (.ref 181), some (.int v1), some (.int v2), some (.int v3), some (.int v4), some (.int (v5 + (1 : Int32)))] rfl ?_
  refine aw_goto C 65 dX9_builds_115 (by decide) ?_
  refine aw_fl [some (.ref 181), some (.int v1), some (.int v2), some (.int v3), some (.int v4), some (.int (v5 + (1 : Int32)))] ⟨rfl, ⟨rfl, ⟨rfl, ⟨rfl, ⟨rfl, ⟨rfl, trivial⟩⟩⟩⟩⟩⟩ ?_
  exact Hr65 v1 v2 v3 v4 (v5 + (1 : Int32)) (rSa σ s0 s1 s2) h
def mX9_builds_l65 (rec6 : Int32 → Int32 → Int32 → RS9 → Option (Int32 × RS9)) : Nat → Int32 → Int32 → Int32 → Int32 → Int32 → RS9 → Option (Int32 × RS9)
  | 0, _, _, _, _, _, _ => none
  | d + 1, v1, v2, v3, v4, v5, σ => (if v4 ≤ v5 then rCk (rIn v3 (rLen 35)) (rec6 (v1 + v4) (rGa σ 35 v3) (v3 + (1 : Int32)) σ) else ((mX9_toldOf v3 σ).bind fun r2 => (if r2.1 = (-1 : Int32) then rCk (rIn (((43 : Int32) + v2) + v5) (rLen 1)) (mX9_builds_b111 rec6 (fun v1 v2 v3 v4 v5 σ => mX9_builds_l65 rec6 d v1 v2 v3 v4 v5 σ) v1 v2 v3 v4 v5 49 (v1 + v5) (rGa r2.2 1 (((43 : Int32) + v2) + v5)) r2.2) else rCk (rIn v5 (rLen 47)) (mX9_builds_b111 rec6 (fun v1 v2 v3 v4 v5 σ => mX9_builds_l65 rec6 d v1 v2 v3 v4 v5 σ) v1 v2 v3 v4 v5 49 (v1 + v5) (rGa r2.2 47 v5) r2.2))))
set_option maxHeartbeats 1000000 in
theorem rmX9_builds_l65 {X : GX} {p : Program} {l : Launch} {e : Env} {s : State} {m : MethodId} {args : Array Value} {below : List Frame} {meth : Method} {c : Code} {f : AH} {n : Nat} {r : Int32 × RS9} {rec6 : Int32 → Int32 → Int32 → RS9 → Option (Int32 × RS9)} (C : CC X p l (RM 9 0 0) s m args meth c RX9 cX9_builds 6 (some .int)) (Hr6 : ∀ (v1 : Int32) (v2 : Int32) (v3 : Int32) (σ : RS9), rec6 v1 v2 v3 σ = some r → AW X p l e (RM 9 0 0) s m args below meth c 6 (ZM X below args s 0 0 (QMi f n r)) (rHm f σ) n 0 0 6 [some (.ref 181), some (.int v1), some (.int v2), some (.int v3), none, none] []) : ∀ (d : Nat) (v1 : Int32) (v2 : Int32) (v3 : Int32) (v4 : Int32) (v5 : Int32) (σ : RS9) (_ : mX9_builds_l65 rec6 d v1 v2 v3 v4 v5 σ = some r), AW X p l e (RM 9 0 0) s m args below meth c 6 (ZM X below args s 0 0 (QMi f n r)) (rHm f σ) n 0 0 65 [some (.ref 181), some (.int v1), some (.int v2), some (.int v3), some (.int v4), some (.int v5)] [] := by
  intro d
  induction d with
  | zero =>
    intro v1 v2 v3 v4 v5 σ h
    exact nomatch (show (none : Option (Int32 × RS9)) = some r from h)
  | succ d ih =>
    intro v1 v2 v3 v4 v5 σ h
    have h : (if v4 ≤ v5 then rCk (rIn v3 (rLen 35)) (rec6 (v1 + v4) (rGa σ 35 v3) (v3 + (1 : Int32)) σ) else ((mX9_toldOf v3 σ).bind fun r2 => (if r2.1 = (-1 : Int32) then rCk (rIn (((43 : Int32) + v2) + v5) (rLen 1)) (mX9_builds_b111 rec6 (fun v1 v2 v3 v4 v5 σ => mX9_builds_l65 rec6 d v1 v2 v3 v4 v5 σ) v1 v2 v3 v4 v5 49 (v1 + v5) (rGa r2.2 1 (((43 : Int32) + v2) + v5)) r2.2) else rCk (rIn v5 (rLen 47)) (mX9_builds_b111 rec6 (fun v1 v2 v3 v4 v5 σ => mX9_builds_l65 rec6 d v1 v2 v3 v4 v5 σ) v1 v2 v3 v4 v5 49 (v1 + v5) (rGa r2.2 47 v5) r2.2)))) = some r := h
    refine aw_iload C dX9_builds_65 rfl ?_
    refine aw_iload C dX9_builds_67 rfl ?_
    refine aw_icmp_ge C 118 dX9_builds_69 (by decide) (fun q => ?_) (fun q => ?_)
    · rw [if_pos q] at h
      refine aw_iload_n C dX9_builds_118 rfl ?_
      refine aw_iload C dX9_builds_119 rfl ?_
      refine aw_iadd C dX9_builds_121 ?_
      refine aw_istore_n C dX9_builds_122 (by decide) rfl ?_
      refine aw_nl [some (.ref 181), some (.int (v1 + v4)), some (.int v2), some (.int v3), some (.int v4), some (.int v5)] rfl ?_
      refine aw_ald_n C dX9_builds_123 rfl ?_
      refine aw_get C (v := .ref (rAid 35)) gf_X9_84 (hm_M f σ) rfl dX9_builds_124 ?_
      refine aw_iload_n C dX9_builds_127 rfl ?_
      obtain ⟨hb1, h⟩ := ck_some h
      refine am_iald C (rGa σ 35 v3) rfl (inb_vp hb1) rfl dX9_builds_128 ?_
      refine aw_istore_n C dX9_builds_129 (by decide) rfl ?_
      refine aw_nl [some (.ref 181), some (.int (v1 + v4)), some (.int (rGa σ 35 v3)), some (.int v3), some (.int v4), some (.int v5)] rfl ?_
      refine aw_iinc C (v3 + (1 : Int32)) dX9_builds_130 rfl (by rw [ki_1]) (by decide) rfl ?_
      refine aw_nl [some (.ref 181), some (.int (v1 + v4)), some (.int (rGa σ 35 v3)), some (.int (v3 + (1 : Int32))), some (.int v4), some (.int v5)] rfl ?_
      refine aw_goto C 6 dX9_builds_133 (by decide) ?_
      refine aw_fl [some (.ref 181), some (.int (v1 + v4)), some (.int (rGa σ 35 v3)), some (.int (v3 + (1 : Int32))), none, none] ⟨rfl, ⟨rfl, ⟨rfl, ⟨rfl, trivial⟩⟩⟩⟩ ?_
      exact Hr6 (v1 + v4) (rGa σ 35 v3) (v3 + (1 : Int32)) σ h
    · rw [if_neg q] at h
      refine aw_ald_n C dX9_builds_72 rfl ?_
      refine aw_get C (v := .ref (rAid 49)) gf_X9_120 (hm_M f σ) rfl dX9_builds_73 ?_
      refine aw_iload_n C dX9_builds_76 rfl ?_
      refine aw_iload C dX9_builds_77 rfl ?_
      refine aw_iadd C dX9_builds_79 ?_
      refine aw_ald_n C dX9_builds_80 rfl ?_
      refine aw_iload_n C dX9_builds_81 rfl ?_
      obtain ⟨r2, h2, h⟩ := Option.bind_eq_some_iff.mp h
      refine aw_callV C (ci := 9) (b := 181) [.int v3] mv_X9_247 rfl rfl (hm_M f σ) (rmX9_toldOf h2) rfl dX9_builds_82 (Nat.le_of_ble_eq_true rfl) (Nat.le_of_ble_eq_true rfl) rfl (Nat.le_of_ble_eq_true rfl) (Nat.le_of_ble_eq_true rfl) (Nat.le_of_ble_eq_true rfl) (fun v9 f9 n9 hh => ?_)
      obtain ⟨rfl, rfl, rfl⟩ := hh
      refine aw_iconst C (-1) dX9_builds_85 ki_m1 ?_
      refine aw_icmp_ne C 104 dX9_builds_86 (by decide) (fun q => ?_) (fun q => ?_)
      · rw [if_neg q] at h
        refine aw_ald_n C dX9_builds_104 rfl ?_
        refine aw_get C (v := .ref (rAid 47)) gf_X9_117 (hm_M f r2.2) rfl dX9_builds_105 ?_
        refine aw_iload C dX9_builds_108 rfl ?_
        obtain ⟨hb3, h⟩ := ck_some h
        refine am_iald C (rGa r2.2 47 v5) rfl (inb_vp hb3) rfl dX9_builds_110 ?_
        refine aw_fl [some (.ref 181), some (.int v1), some (.int v2), some (.int v3), some (.int v4), some (.int v5)] ⟨rfl, ⟨rfl, ⟨rfl, ⟨rfl, ⟨rfl, ⟨rfl, trivial⟩⟩⟩⟩⟩⟩ ?_
        exact rmX9_builds_b111 C Hr6 (fun v1 v2 v3 v4 v5 σ h => ih v1 v2 v3 v4 v5 σ h) rfl h
      · rw [if_pos q] at h
        refine aw_ald_n C dX9_builds_89 rfl ?_
        refine aw_get C (v := .ref (rAid 1)) gf_X9_7 (hm_M f r2.2) rfl dX9_builds_90 ?_
        refine aw_bipush C 43 dX9_builds_93 kb_43 ?_
        refine aw_iload_n C dX9_builds_95 rfl ?_
        refine aw_iadd C dX9_builds_96 ?_
        refine aw_iload C dX9_builds_97 rfl ?_
        refine aw_iadd C dX9_builds_99 ?_
        obtain ⟨hb4, h⟩ := ck_some h
        refine am_iald C (rGa r2.2 1 (((43 : Int32) + v2) + v5)) rfl (inb_vp hb4) rfl dX9_builds_100 ?_
        refine aw_goto C 111 dX9_builds_101 (by decide) ?_
        refine aw_fl [some (.ref 181), some (.int v1), some (.int v2), some (.int v3), some (.int v4), some (.int v5)] ⟨rfl, ⟨rfl, ⟨rfl, ⟨rfl, ⟨rfl, ⟨rfl, trivial⟩⟩⟩⟩⟩⟩ ?_
        exact rmX9_builds_b111 C Hr6 (fun v1 v2 v3 v4 v5 σ h => ih v1 v2 v3 v4 v5 σ h) rfl h
def mX9_builds_l14 (rec6 : Int32 → Int32 → Int32 → RS9 → Option (Int32 × RS9)) : Nat → Int32 → Int32 → Int32 → RS9 → Option (Int32 × RS9)
  | 0, _, _, _, _ => none
  | d + 1, v1, v2, v3, σ => rCk (rIn v3 (rLen 34)) ((if (rGa σ 34 v3) ≤ v2 then rCk (rIn v3 (rLen 52)) (((mX9_builtOf v3 (rSa σ 52 v3 v1)).bind fun r3 => mX9_builds_l65 rec6 rFU v1 v2 v3 r3.1 (0 : Int32) r3.2)) else rCk (rIn ((43 : Int32) + v2) (rLen 1)) (rCk (rIn v1 (rLen 49)) (mX9_builds_l14 rec6 d (v1 + (1 : Int32)) (v2 + (1 : Int32)) v3 (rSa σ 49 v1 (rGa σ 1 ((43 : Int32) + v2)))))))
set_option maxHeartbeats 1000000 in
theorem rmX9_builds_l14 {X : GX} {p : Program} {l : Launch} {e : Env} {s : State} {m : MethodId} {args : Array Value} {below : List Frame} {meth : Method} {c : Code} {f : AH} {n : Nat} {r : Int32 × RS9} {rec6 : Int32 → Int32 → Int32 → RS9 → Option (Int32 × RS9)} (C : CC X p l (RM 9 0 0) s m args meth c RX9 cX9_builds 6 (some .int)) (Hr6 : ∀ (v1 : Int32) (v2 : Int32) (v3 : Int32) (σ : RS9), rec6 v1 v2 v3 σ = some r → AW X p l e (RM 9 0 0) s m args below meth c 6 (ZM X below args s 0 0 (QMi f n r)) (rHm f σ) n 0 0 6 [some (.ref 181), some (.int v1), some (.int v2), some (.int v3), none, none] []) : ∀ (d : Nat) (v1 : Int32) (v2 : Int32) (v3 : Int32) (σ : RS9) (_ : mX9_builds_l14 rec6 d v1 v2 v3 σ = some r), AW X p l e (RM 9 0 0) s m args below meth c 6 (ZM X below args s 0 0 (QMi f n r)) (rHm f σ) n 0 0 14 [some (.ref 181), some (.int v1), some (.int v2), some (.int v3), none, none] [] := by
  intro d
  induction d with
  | zero =>
    intro v1 v2 v3 σ h
    exact nomatch (show (none : Option (Int32 × RS9)) = some r from h)
  | succ d ih =>
    intro v1 v2 v3 σ h
    have h : rCk (rIn v3 (rLen 34)) ((if (rGa σ 34 v3) ≤ v2 then rCk (rIn v3 (rLen 52)) (((mX9_builtOf v3 (rSa σ 52 v3 v1)).bind fun r3 => mX9_builds_l65 rec6 rFU v1 v2 v3 r3.1 (0 : Int32) r3.2)) else rCk (rIn ((43 : Int32) + v2) (rLen 1)) (rCk (rIn v1 (rLen 49)) (mX9_builds_l14 rec6 d (v1 + (1 : Int32)) (v2 + (1 : Int32)) v3 (rSa σ 49 v1 (rGa σ 1 ((43 : Int32) + v2))))))) = some r := h
    refine aw_iload_n C dX9_builds_14 rfl ?_
    refine aw_ald_n C dX9_builds_15 rfl ?_
    refine aw_get C (v := .ref (rAid 34)) gf_X9_81 (hm_M f σ) rfl dX9_builds_16 ?_
    refine aw_iload_n C dX9_builds_19 rfl ?_
    obtain ⟨hb1, h⟩ := ck_some h
    refine am_iald C (rGa σ 34 v3) rfl (inb_vp hb1) rfl dX9_builds_20 ?_
    refine aw_icmp_ge C 48 dX9_builds_21 (by decide) (fun q => ?_) (fun q => ?_)
    · rw [if_pos q] at h
      refine aw_ald_n C dX9_builds_48 rfl ?_
      refine aw_get C (v := .ref (rAid 52)) gf_X9_129 (hm_M f σ) rfl dX9_builds_49 ?_
      refine aw_iload_n C dX9_builds_52 rfl ?_
      refine aw_iload_n C dX9_builds_53 rfl ?_
      obtain ⟨hb2, h⟩ := ck_some h
      refine am_iast C rfl (inb_vp hb2) dX9_builds_54 ?_
      refine aw_ald_n C dX9_builds_55 rfl ?_
      refine aw_iload_n C dX9_builds_56 rfl ?_
      obtain ⟨r3, h3, h⟩ := Option.bind_eq_some_iff.mp h
      refine aw_callV C (ci := 9) (b := 181) [.int v3] mv_X9_290 rfl rfl (hm_M f (rSa σ 52 v3 v1)) (rmX9_builtOf h3) rfl dX9_builds_57 (Nat.le_of_ble_eq_true rfl) (Nat.le_of_ble_eq_true rfl) rfl (Nat.le_of_ble_eq_true rfl) (Nat.le_of_ble_eq_true rfl) (Nat.le_of_ble_eq_true rfl) (fun v9 f9 n9 hh => ?_)
      obtain ⟨rfl, rfl, rfl⟩ := hh
      refine aw_istore C dX9_builds_60 (by decide) rfl ?_
      refine aw_nl [some (.ref 181), some (.int v1), some (.int v2), some (.int v3), some (.int r3.1), none] rfl ?_
      refine aw_iconst C 0 dX9_builds_62 ki_0 ?_
      refine aw_istore C dX9_builds_63 (by decide) rfl ?_
      refine aw_nl [some (.ref 181), some (.int v1), some (.int v2), some (.int v3), some (.int r3.1), some (.int (0 : Int32))] rfl ?_
      refine aw_fl [some (.ref 181), some (.int v1), some (.int v2), some (.int v3), some (.int r3.1), some (.int (0 : Int32))] ⟨rfl, ⟨rfl, ⟨rfl, ⟨rfl, ⟨rfl, ⟨rfl, trivial⟩⟩⟩⟩⟩⟩ ?_
      exact rmX9_builds_l65 C Hr6 rFU v1 v2 v3 r3.1 (0 : Int32) r3.2 h
    · rw [if_neg q] at h
      refine aw_ald_n C dX9_builds_24 rfl ?_
      refine aw_get C (v := .ref (rAid 49)) gf_X9_120 (hm_M f σ) rfl dX9_builds_25 ?_
      refine aw_iload_n C dX9_builds_28 rfl ?_
      refine aw_ald_n C dX9_builds_29 rfl ?_
      refine aw_get C (v := .ref (rAid 1)) gf_X9_7 (hm_M f σ) rfl dX9_builds_30 ?_
      refine aw_bipush C 43 dX9_builds_33 kb_43 ?_
      refine aw_iload_n C dX9_builds_35 rfl ?_
      refine aw_iadd C dX9_builds_36 ?_
      obtain ⟨hb4, h⟩ := ck_some h
      refine am_iald C (rGa σ 1 ((43 : Int32) + v2)) rfl (inb_vp hb4) rfl dX9_builds_37 ?_
      obtain ⟨hb5, h⟩ := ck_some h
      refine am_iast C rfl (inb_vp hb5) dX9_builds_38 ?_
      refine aw_iinc C (v1 + (1 : Int32)) dX9_builds_39 rfl (by rw [ki_1]) (by decide) rfl ?_
      refine aw_nl [some (.ref 181), some (.int (v1 + (1 : Int32))), some (.int v2), some (.int v3), none, none] rfl ?_
      refine aw_iinc C (v2 + (1 : Int32)) dX9_builds_42 rfl (by rw [ki_1]) (by decide) rfl ?_
      refine aw_nl [some (.ref 181), some (.int (v1 + (1 : Int32))), some (.int (v2 + (1 : Int32))), some (.int v3), none, none] rfl ?_
      refine aw_goto C 14 dX9_builds_45 (by decide) ?_
      refine aw_fl [some (.ref 181), some (.int (v1 + (1 : Int32))), some (.int (v2 + (1 : Int32))), some (.int v3), none, none] ⟨rfl, ⟨rfl, ⟨rfl, ⟨rfl, trivial⟩⟩⟩⟩ ?_
      exact ih (v1 + (1 : Int32)) (v2 + (1 : Int32)) v3 (rSa σ 49 v1 (rGa σ 1 ((43 : Int32) + v2))) h
def mX9_builds_l6 : Nat → Int32 → Int32 → Int32 → RS9 → Option (Int32 × RS9)
  | 0, _, _, _, _ => none
  | d + 1, v1, v2, v3, σ => (if (σ.1 33) ≤ v3 then mX9_builds_l136 rFU v1 v2 σ else mX9_builds_l14 (fun v1 v2 v3 σ => mX9_builds_l6 d v1 v2 v3 σ) rFU v1 v2 v3 σ)
set_option maxHeartbeats 1000000 in
theorem rmX9_builds_l6 {X : GX} {p : Program} {l : Launch} {e : Env} {s : State} {m : MethodId} {args : Array Value} {below : List Frame} {meth : Method} {c : Code} {f : AH} {n : Nat} {r : Int32 × RS9} (C : CC X p l (RM 9 0 0) s m args meth c RX9 cX9_builds 6 (some .int)) : ∀ (d : Nat) (v1 : Int32) (v2 : Int32) (v3 : Int32) (σ : RS9) (_ : mX9_builds_l6 d v1 v2 v3 σ = some r), AW X p l e (RM 9 0 0) s m args below meth c 6 (ZM X below args s 0 0 (QMi f n r)) (rHm f σ) n 0 0 6 [some (.ref 181), some (.int v1), some (.int v2), some (.int v3), none, none] [] := by
  intro d
  induction d with
  | zero =>
    intro v1 v2 v3 σ h
    exact nomatch (show (none : Option (Int32 × RS9)) = some r from h)
  | succ d ih =>
    intro v1 v2 v3 σ h
    have h : (if (σ.1 33) ≤ v3 then mX9_builds_l136 rFU v1 v2 σ else mX9_builds_l14 (fun v1 v2 v3 σ => mX9_builds_l6 d v1 v2 v3 σ) rFU v1 v2 v3 σ) = some r := h
    refine aw_iload_n C dX9_builds_6 rfl ?_
    refine aw_ald_n C dX9_builds_7 rfl ?_
    refine aw_get C (v := .int (σ.1 33)) gf_X9_204 (hm_M f σ) rfl dX9_builds_8 ?_
    refine aw_icmp_ge C 136 dX9_builds_11 (by decide) (fun q => ?_) (fun q => ?_)
    · rw [if_pos q] at h
      refine aw_fl [some (.ref 181), some (.int v1), some (.int v2), none, none, none] ⟨rfl, ⟨rfl, ⟨rfl, trivial⟩⟩⟩ ?_
      exact rmX9_builds_l136 C rFU v1 v2 σ h
    · rw [if_neg q] at h
      refine aw_fl [some (.ref 181), some (.int v1), some (.int v2), some (.int v3), none, none] ⟨rfl, ⟨rfl, ⟨rfl, ⟨rfl, trivial⟩⟩⟩⟩ ?_
      exact rmX9_builds_l14 C (fun v1 v2 v3 σ h => ih v1 v2 v3 σ h) rFU v1 v2 v3 σ h
def mX9_builds (σ : RS9) : Option (Int32 × RS9) := mX9_builds_l6 rFU (0 : Int32) (0 : Int32) (0 : Int32) σ
set_option maxHeartbeats 1000000 in
theorem rmX9_builds {X : GX} {l : Launch} {f : AH} {n : Nat} {r : Int32 × RS9} {σ : RS9} (h : mX9_builds σ = some r) : AM X l yX9_builds cX9_builds 6 (some .int) 9 0 0 [.ref 181] (rHm f σ) n (QMi f n r) := by
  have h : mX9_builds_l6 rFU (0 : Int32) (0 : Int32) (0 : Int32) σ = some r := h
  refine AM.of (by decide +kernel) rfl (Nat.le_of_ble_eq_true rfl) (fun p e s m args below meth c C _ => ?_)
  refine aw_nl [some (.ref 181), none, none, none, none, none] rfl ?_
  refine aw_iconst C 0 dX9_builds_0 ki_0 ?_
  refine aw_istore_n C dX9_builds_1 (by decide) rfl ?_
  refine aw_nl [some (.ref 181), some (.int (0 : Int32)), none, none, none, none] rfl ?_
  refine aw_iconst C 0 dX9_builds_2 ki_0 ?_
  refine aw_istore_n C dX9_builds_3 (by decide) rfl ?_
  refine aw_nl [some (.ref 181), some (.int (0 : Int32)), some (.int (0 : Int32)), none, none, none] rfl ?_
  refine aw_iconst C 0 dX9_builds_4 ki_0 ?_
  refine aw_istore_n C dX9_builds_5 (by decide) rfl ?_
  refine aw_nl [some (.ref 181), some (.int (0 : Int32)), some (.int (0 : Int32)), some (.int (0 : Int32)), none, none] rfl ?_
  refine aw_fl [some (.ref 181), some (.int (0 : Int32)), some (.int (0 : Int32)), some (.int (0 : Int32)), none, none] ⟨rfl, ⟨rfl, ⟨rfl, ⟨rfl, trivial⟩⟩⟩⟩ ?_
  exact rmX9_builds_l6 C rFU (0 : Int32) (0 : Int32) (0 : Int32) σ h
def mX9_builtBegin (v1 : Int32) (σ : RS9) : Option (Int32 × RS9) := ((mX9_builds σ).bind fun r1 => rCk (rIn v1 (rLen 52)) (some ((rGa r1.2 52 v1), r1.2)))
set_option maxHeartbeats 1000000 in
theorem rmX9_builtBegin {X : GX} {l : Launch} {f : AH} {n : Nat} {r : Int32 × RS9} {v1 : Int32} {σ : RS9} (h : mX9_builtBegin v1 σ = some r) : AM X l yX9_builtBegin cX9_builtBegin 3 (some .int) 10 0 0 [.ref 181, .int v1] (rHm f σ) n (QMi f n r) := by
  have h : ((mX9_builds σ).bind fun r1 => rCk (rIn v1 (rLen 52)) (some ((rGa r1.2 52 v1), r1.2))) = some r := h
  refine AM.of (by decide +kernel) rfl (Nat.le_of_ble_eq_true rfl) (fun p e s m args below meth c C _ => ?_)
  refine aw_nl [some (.ref 181), some (.int v1), none] rfl ?_
  refine aw_ald_n C dX9_builtBegin_0 rfl ?_
  obtain ⟨r1, h1, h⟩ := Option.bind_eq_some_iff.mp h
  refine aw_callV C (ci := 9) (b := 181) [] mv_X9_441 rfl rfl (hm_M f σ) (rmX9_builds h1) rfl dX9_builtBegin_1 (Nat.le_of_ble_eq_true rfl) (Nat.le_of_ble_eq_true rfl) rfl (Nat.le_of_ble_eq_true rfl) (Nat.le_of_ble_eq_true rfl) (Nat.le_of_ble_eq_true rfl) (fun v9 f9 n9 hh => ?_)
  obtain ⟨rfl, rfl, rfl⟩ := hh
  refine aw_istore_n C dX9_builtBegin_4 (by decide) rfl ?_
  refine aw_nl [some (.ref 181), some (.int v1), some (.int r1.1)] rfl ?_
  refine aw_ald_n C dX9_builtBegin_5 rfl ?_
  refine aw_get C (v := .ref (rAid 52)) gf_X9_129 (hm_M f r1.2) rfl dX9_builtBegin_6 ?_
  refine aw_iload_n C dX9_builtBegin_9 rfl ?_
  obtain ⟨hb2, h⟩ := ck_some h
  refine am_iald C (rGa r1.2 52 v1) rfl (inb_vp hb2) rfl dX9_builtBegin_10 ?_
  cases h
  exact aw_iret C rfl rfl dX9_builtBegin_11 (Nat.le_refl _) (Nat.le_refl _) ⟨rfl, rfl, rfl⟩
def mX9_piece_b133 (s0 : Int32) (σ : RS9) : Option (Int32 × RS9) := some (s0, σ)
set_option maxHeartbeats 1000000 in
theorem rmX9_piece_b133 {X : GX} {p : Program} {l : Launch} {e : Env} {s : State} {m : MethodId} {args : Array Value} {below : List Frame} {meth : Method} {c : Code} {f : AH} {n : Nat} {r : Int32 × RS9} {s0 : Int32} {σ : RS9} (C : CC X p l (RM 11 0 0) s m args meth c RX9 cX9_piece 3 (some .int)) (h : mX9_piece_b133 s0 σ = some r) : AW X p l e (RM 11 0 0) s m args below meth c 3 (ZM X below args s 0 0 (QMi f n r)) (rHm f σ) n 0 0 133 [none, none, none] [.int s0] := by
  have h : some (s0, σ) = some r := h
  cases h
  exact aw_iret C rfl rfl dX9_piece_133 (Nat.le_refl _) (Nat.le_refl _) ⟨rfl, rfl, rfl⟩
def mX9_piece_b28 (v1 : Int32) (v2 : Int32) (s1 : Int32) (σ : RS9) : Option (Int32 × RS9) := (if s1 ≤ (0 : Int32) then (if v2 = (0 : Int32) then rCk (rIn v1 (rLen 34)) (some ((rGa σ 34 v1), (rSf σ 0 s1))) else if v2 = (1 : Int32) then rCk (rIn v1 (rLen 35)) (some ((rGa σ 35 v1), (rSf σ 0 s1))) else if v2 = (2 : Int32) then rCk (rIn v1 (rLen 42)) (some ((rGa σ 42 v1), (rSf σ 0 s1))) else if v2 = (3 : Int32) then ((mX9_nowMany v1 (rSf σ 0 s1)).bind fun r4 => some (r4.1, r4.2)) else if v2 = (4 : Int32) then ((mX9_toldOf v1 (rSf σ 0 s1)).bind fun r5 => (if r5.1 = (-1 : Int32) then mX9_piece_b133 (0 : Int32) r5.2 else mX9_piece_b133 (1 : Int32) r5.2)) else if v2 = (5 : Int32) then ((mX9_likeMany v1 (rSf σ 0 s1)).bind fun r6 => some (r6.1, r6.2)) else if v2 = (6 : Int32) then ((mX9_wordsOf v1 (rSf σ 0 s1)).bind fun r7 => some (r7.1, r7.2)) else if v2 = (7 : Int32) then ((mX9_knownOf v1 (rSf σ 0 s1)).bind fun r8 => some (r8.1, r8.2)) else if v2 = (8 : Int32) then ((mX9_builtOf v1 (rSf σ 0 s1)).bind fun r9 => some (r9.1, r9.2)) else ((mX9_builtBegin v1 (rSf σ 0 s1)).bind fun r10 => some (r10.1, r10.2))) else some ((0 : Int32), (rSf σ 0 s1)))
set_option maxHeartbeats 1000000 in
theorem rmX9_piece_b28 {X : GX} {p : Program} {l : Launch} {e : Env} {s : State} {m : MethodId} {args : Array Value} {below : List Frame} {meth : Method} {c : Code} {f : AH} {n : Nat} {r : Int32 × RS9} {v1 : Int32} {v2 : Int32} {s1 : Int32} {σ : RS9} (C : CC X p l (RM 11 0 0) s m args meth c RX9 cX9_piece 3 (some .int)) (h : mX9_piece_b28 v1 v2 s1 σ = some r) : AW X p l e (RM 11 0 0) s m args below meth c 3 (ZM X below args s 0 0 (QMi f n r)) (rHm f σ) n 0 0 28 [some (.ref 181), some (.int v1), some (.int v2)] [.int s1, .ref 181] := by
  have h : (if s1 ≤ (0 : Int32) then (if v2 = (0 : Int32) then rCk (rIn v1 (rLen 34)) (some ((rGa σ 34 v1), (rSf σ 0 s1))) else if v2 = (1 : Int32) then rCk (rIn v1 (rLen 35)) (some ((rGa σ 35 v1), (rSf σ 0 s1))) else if v2 = (2 : Int32) then rCk (rIn v1 (rLen 42)) (some ((rGa σ 42 v1), (rSf σ 0 s1))) else if v2 = (3 : Int32) then ((mX9_nowMany v1 (rSf σ 0 s1)).bind fun r4 => some (r4.1, r4.2)) else if v2 = (4 : Int32) then ((mX9_toldOf v1 (rSf σ 0 s1)).bind fun r5 => (if r5.1 = (-1 : Int32) then mX9_piece_b133 (0 : Int32) r5.2 else mX9_piece_b133 (1 : Int32) r5.2)) else if v2 = (5 : Int32) then ((mX9_likeMany v1 (rSf σ 0 s1)).bind fun r6 => some (r6.1, r6.2)) else if v2 = (6 : Int32) then ((mX9_wordsOf v1 (rSf σ 0 s1)).bind fun r7 => some (r7.1, r7.2)) else if v2 = (7 : Int32) then ((mX9_knownOf v1 (rSf σ 0 s1)).bind fun r8 => some (r8.1, r8.2)) else if v2 = (8 : Int32) then ((mX9_builtOf v1 (rSf σ 0 s1)).bind fun r9 => some (r9.1, r9.2)) else ((mX9_builtBegin v1 (rSf σ 0 s1)).bind fun r10 => some (r10.1, r10.2))) else some ((0 : Int32), (rSf σ 0 s1))) = some r := h
  refine am_put C gf_X9_138 nf9_0 rfl rfl dX9_piece_28 ?_
  refine aw_ald_n C dX9_piece_31 rfl ?_
  refine aw_get C (v := .int s1) gf_X9_138 (hm_M f (rSf σ 0 s1)) rfl dX9_piece_32 ?_
  refine aw_if_le C 40 dX9_piece_35 (by decide) (fun q => ?_) (fun q => ?_)
  · rw [if_pos q] at h
    refine aw_iload_n C dX9_piece_40 rfl ?_
    by_cases q : v2 = (0 : Int32)
    · rw [if_pos q] at h
      rw [q]
      refine aw_tabIn C (off := 51) 92 dX9_piece_41 (by decide) (by decide) (by decide) (by decide) ?_
      refine aw_ald_n C dX9_piece_92 rfl ?_
      refine aw_get C (v := .ref (rAid 34)) gf_X9_81 (hm_M f (rSf σ 0 s1)) rfl dX9_piece_93 ?_
      refine aw_iload_n C dX9_piece_96 rfl ?_
      obtain ⟨hb1, h⟩ := ck_some h
      refine am_iald C (rGa σ 34 v1) rfl (inb_vp hb1) rfl dX9_piece_97 ?_
      cases h
      exact aw_iret C rfl rfl dX9_piece_98 (Nat.le_refl _) (Nat.le_refl _) ⟨rfl, rfl, rfl⟩
    · rw [if_neg q] at h
      have q0 := q
      by_cases q : v2 = (1 : Int32)
      · rw [if_pos q] at h
        rw [q]
        refine aw_tabIn C (off := 58) 99 dX9_piece_41 (by decide) (by decide) (by decide) (by decide) ?_
        refine aw_ald_n C dX9_piece_99 rfl ?_
        refine aw_get C (v := .ref (rAid 35)) gf_X9_84 (hm_M f (rSf σ 0 s1)) rfl dX9_piece_100 ?_
        refine aw_iload_n C dX9_piece_103 rfl ?_
        obtain ⟨hb2, h⟩ := ck_some h
        refine am_iald C (rGa σ 35 v1) rfl (inb_vp hb2) rfl dX9_piece_104 ?_
        cases h
        exact aw_iret C rfl rfl dX9_piece_105 (Nat.le_refl _) (Nat.le_refl _) ⟨rfl, rfl, rfl⟩
      · rw [if_neg q] at h
        have q1 := q
        by_cases q : v2 = (2 : Int32)
        · rw [if_pos q] at h
          rw [q]
          refine aw_tabIn C (off := 65) 106 dX9_piece_41 (by decide) (by decide) (by decide) (by decide) ?_
          refine aw_ald_n C dX9_piece_106 rfl ?_
          refine aw_get C (v := .ref (rAid 42)) gf_X9_105 (hm_M f (rSf σ 0 s1)) rfl dX9_piece_107 ?_
          refine aw_iload_n C dX9_piece_110 rfl ?_
          obtain ⟨hb3, h⟩ := ck_some h
          refine am_iald C (rGa σ 42 v1) rfl (inb_vp hb3) rfl dX9_piece_111 ?_
          cases h
          exact aw_iret C rfl rfl dX9_piece_112 (Nat.le_refl _) (Nat.le_refl _) ⟨rfl, rfl, rfl⟩
        · rw [if_neg q] at h
          have q2 := q
          by_cases q : v2 = (3 : Int32)
          · rw [if_pos q] at h
            rw [q]
            refine aw_tabIn C (off := 72) 113 dX9_piece_41 (by decide) (by decide) (by decide) (by decide) ?_
            refine aw_ald_n C dX9_piece_113 rfl ?_
            refine aw_iload_n C dX9_piece_114 rfl ?_
            obtain ⟨r4, h4, h⟩ := Option.bind_eq_some_iff.mp h
            refine aw_callV C (ci := 9) (b := 181) [.int v1] mv_X9_313 rfl rfl (hm_M f (rSf σ 0 s1)) (rmX9_nowMany h4) rfl dX9_piece_115 (Nat.le_of_ble_eq_true rfl) (Nat.le_of_ble_eq_true rfl) rfl (Nat.le_of_ble_eq_true rfl) (Nat.le_of_ble_eq_true rfl) (Nat.le_of_ble_eq_true rfl) (fun v9 f9 n9 hh => ?_)
            obtain ⟨rfl, rfl, rfl⟩ := hh
            cases h
            exact aw_iret C rfl rfl dX9_piece_118 (Nat.le_refl _) (Nat.le_refl _) ⟨rfl, rfl, rfl⟩
          · rw [if_neg q] at h
            have q3 := q
            by_cases q : v2 = (4 : Int32)
            · rw [if_pos q] at h
              rw [q]
              refine aw_tabIn C (off := 78) 119 dX9_piece_41 (by decide) (by decide) (by decide) (by decide) ?_
              refine aw_ald_n C dX9_piece_119 rfl ?_
              refine aw_iload_n C dX9_piece_120 rfl ?_
              obtain ⟨r5, h5, h⟩ := Option.bind_eq_some_iff.mp h
              refine aw_callV C (ci := 9) (b := 181) [.int v1] mv_X9_247 rfl rfl (hm_M f (rSf σ 0 s1)) (rmX9_toldOf h5) rfl dX9_piece_121 (Nat.le_of_ble_eq_true rfl) (Nat.le_of_ble_eq_true rfl) rfl (Nat.le_of_ble_eq_true rfl) (Nat.le_of_ble_eq_true rfl) (Nat.le_of_ble_eq_true rfl) (fun v9 f9 n9 hh => ?_)
              obtain ⟨rfl, rfl, rfl⟩ := hh
              refine aw_iconst C (-1) dX9_piece_124 ki_m1 ?_
              refine aw_icmp_ne C 132 dX9_piece_125 (by decide) (fun q => ?_) (fun q => ?_)
              · rw [if_neg q] at h
                refine aw_iconst C 1 dX9_piece_132 ki_1 ?_
                refine aw_fl [none, none, none] trivial ?_
                exact rmX9_piece_b133 C h
              · rw [if_pos q] at h
                refine aw_iconst C 0 dX9_piece_128 ki_0 ?_
                refine aw_goto C 133 dX9_piece_129 (by decide) ?_
                refine aw_fl [none, none, none] trivial ?_
                exact rmX9_piece_b133 C h
            · rw [if_neg q] at h
              have q4 := q
              by_cases q : v2 = (5 : Int32)
              · rw [if_pos q] at h
                rw [q]
                refine aw_tabIn C (off := 93) 134 dX9_piece_41 (by decide) (by decide) (by decide) (by decide) ?_
                refine aw_ald_n C dX9_piece_134 rfl ?_
                refine aw_iload_n C dX9_piece_135 rfl ?_
                obtain ⟨r6, h6, h⟩ := Option.bind_eq_some_iff.mp h
                refine aw_callV C (ci := 9) (b := 181) [.int v1] mv_X9_444 rfl rfl (hm_M f (rSf σ 0 s1)) (rmX9_likeMany h6) rfl dX9_piece_136 (Nat.le_of_ble_eq_true rfl) (Nat.le_of_ble_eq_true rfl) rfl (Nat.le_of_ble_eq_true rfl) (Nat.le_of_ble_eq_true rfl) (Nat.le_of_ble_eq_true rfl) (fun v9 f9 n9 hh => ?_)
                obtain ⟨rfl, rfl, rfl⟩ := hh
                cases h
                exact aw_iret C rfl rfl dX9_piece_139 (Nat.le_refl _) (Nat.le_refl _) ⟨rfl, rfl, rfl⟩
              · rw [if_neg q] at h
                have q5 := q
                by_cases q : v2 = (6 : Int32)
                · rw [if_pos q] at h
                  rw [q]
                  refine aw_tabIn C (off := 99) 140 dX9_piece_41 (by decide) (by decide) (by decide) (by decide) ?_
                  refine aw_ald_n C dX9_piece_140 rfl ?_
                  refine aw_iload_n C dX9_piece_141 rfl ?_
                  obtain ⟨r7, h7, h⟩ := Option.bind_eq_some_iff.mp h
                  refine aw_callV C (ci := 9) (b := 181) [.int v1] mv_X9_447 rfl rfl (hm_M f (rSf σ 0 s1)) (rmX9_wordsOf h7) rfl dX9_piece_142 (Nat.le_of_ble_eq_true rfl) (Nat.le_of_ble_eq_true rfl) rfl (Nat.le_of_ble_eq_true rfl) (Nat.le_of_ble_eq_true rfl) (Nat.le_of_ble_eq_true rfl) (fun v9 f9 n9 hh => ?_)
                  obtain ⟨rfl, rfl, rfl⟩ := hh
                  cases h
                  exact aw_iret C rfl rfl dX9_piece_145 (Nat.le_refl _) (Nat.le_refl _) ⟨rfl, rfl, rfl⟩
                · rw [if_neg q] at h
                  have q6 := q
                  by_cases q : v2 = (7 : Int32)
                  · rw [if_pos q] at h
                    rw [q]
                    refine aw_tabIn C (off := 105) 146 dX9_piece_41 (by decide) (by decide) (by decide) (by decide) ?_
                    refine aw_ald_n C dX9_piece_146 rfl ?_
                    refine aw_iload_n C dX9_piece_147 rfl ?_
                    obtain ⟨r8, h8, h⟩ := Option.bind_eq_some_iff.mp h
                    refine aw_callV C (ci := 9) (b := 181) [.int v1] mv_X9_450 rfl rfl (hm_M f (rSf σ 0 s1)) (rmX9_knownOf h8) rfl dX9_piece_148 (Nat.le_of_ble_eq_true rfl) (Nat.le_of_ble_eq_true rfl) rfl (Nat.le_of_ble_eq_true rfl) (Nat.le_of_ble_eq_true rfl) (Nat.le_of_ble_eq_true rfl) (fun v9 f9 n9 hh => ?_)
                    obtain ⟨rfl, rfl, rfl⟩ := hh
                    cases h
                    exact aw_iret C rfl rfl dX9_piece_151 (Nat.le_refl _) (Nat.le_refl _) ⟨rfl, rfl, rfl⟩
                  · rw [if_neg q] at h
                    have q7 := q
                    by_cases q : v2 = (8 : Int32)
                    · rw [if_pos q] at h
                      rw [q]
                      refine aw_tabIn C (off := 111) 152 dX9_piece_41 (by decide) (by decide) (by decide) (by decide) ?_
                      refine aw_ald_n C dX9_piece_152 rfl ?_
                      refine aw_iload_n C dX9_piece_153 rfl ?_
                      obtain ⟨r9, h9, h⟩ := Option.bind_eq_some_iff.mp h
                      refine aw_callV C (ci := 9) (b := 181) [.int v1] mv_X9_290 rfl rfl (hm_M f (rSf σ 0 s1)) (rmX9_builtOf h9) rfl dX9_piece_154 (Nat.le_of_ble_eq_true rfl) (Nat.le_of_ble_eq_true rfl) rfl (Nat.le_of_ble_eq_true rfl) (Nat.le_of_ble_eq_true rfl) (Nat.le_of_ble_eq_true rfl) (fun v9 f9 n9 hh => ?_)
                      obtain ⟨rfl, rfl, rfl⟩ := hh
                      cases h
                      exact aw_iret C rfl rfl dX9_piece_157 (Nat.le_refl _) (Nat.le_refl _) ⟨rfl, rfl, rfl⟩
                    · rw [if_neg q] at h
                      have q8 := q
                      refine aw_tabOut C 158 dX9_piece_41 (sw_out9 q0 q1 q2 q3 q4 q5 q6 q7 q8) (by decide) ?_
                      refine aw_ald_n C dX9_piece_158 rfl ?_
                      refine aw_iload_n C dX9_piece_159 rfl ?_
                      obtain ⟨r10, h10, h⟩ := Option.bind_eq_some_iff.mp h
                      refine aw_callV C (ci := 9) (b := 181) [.int v1] mv_X9_453 rfl rfl (hm_M f (rSf σ 0 s1)) (rmX9_builtBegin h10) rfl dX9_piece_160 (Nat.le_of_ble_eq_true rfl) (Nat.le_of_ble_eq_true rfl) rfl (Nat.le_of_ble_eq_true rfl) (Nat.le_of_ble_eq_true rfl) (Nat.le_of_ble_eq_true rfl) (fun v9 f9 n9 hh => ?_)
                      obtain ⟨rfl, rfl, rfl⟩ := hh
                      cases h
                      exact aw_iret C rfl rfl dX9_piece_163 (Nat.le_refl _) (Nat.le_refl _) ⟨rfl, rfl, rfl⟩
  · rw [if_neg q] at h
    refine aw_iconst C 0 dX9_piece_38 ki_0 ?_
    cases h
    exact aw_iret C rfl rfl dX9_piece_39 (Nat.le_refl _) (Nat.le_refl _) ⟨rfl, rfl, rfl⟩
def mX9_piece (v1 : Int32) (v2 : Int32) (σ : RS9) : Option (Int32 × RS9) := ((mX9_isPieceThere v1 σ).bind fun r1 => (if r1.1 = (0 : Int32) then mX9_piece_b28 v1 v2 (1 : Int32) r1.2 else ((mX9_isIn v2 (0 : Int32) (9 : Int32) r1.2).bind fun r2 => (if r2.1 = (0 : Int32) then mX9_piece_b28 v1 v2 (2 : Int32) r2.2 else mX9_piece_b28 v1 v2 (0 : Int32) r2.2))))
set_option maxHeartbeats 1000000 in
theorem rmX9_piece {X : GX} {l : Launch} {f : AH} {n : Nat} {r : Int32 × RS9} {v1 : Int32} {v2 : Int32} {σ : RS9} (h : mX9_piece v1 v2 σ = some r) : AM X l yX9_piece cX9_piece 3 (some .int) 11 0 0 [.ref 181, .int v1, .int v2] (rHm f σ) n (QMi f n r) := by
  have h : ((mX9_isPieceThere v1 σ).bind fun r1 => (if r1.1 = (0 : Int32) then mX9_piece_b28 v1 v2 (1 : Int32) r1.2 else ((mX9_isIn v2 (0 : Int32) (9 : Int32) r1.2).bind fun r2 => (if r2.1 = (0 : Int32) then mX9_piece_b28 v1 v2 (2 : Int32) r2.2 else mX9_piece_b28 v1 v2 (0 : Int32) r2.2)))) = some r := h
  refine AM.of (by decide +kernel) rfl (Nat.le_of_ble_eq_true rfl) (fun p e s m args below meth c C _ => ?_)
  refine aw_nl [some (.ref 181), some (.int v1), some (.int v2)] rfl ?_
  refine aw_ald_n C dX9_piece_0 rfl ?_
  refine aw_ald_n C dX9_piece_1 rfl ?_
  refine aw_iload_n C dX9_piece_2 rfl ?_
  obtain ⟨r1, h1, h⟩ := Option.bind_eq_some_iff.mp h
  refine aw_callV C (ci := 9) (b := 181) [.int v1] mv_X9_293 rfl rfl (hm_M f σ) (rmX9_isPieceThere h1) rfl dX9_piece_3 (Nat.le_of_ble_eq_true rfl) (Nat.le_of_ble_eq_true rfl) rfl (Nat.le_of_ble_eq_true rfl) (Nat.le_of_ble_eq_true rfl) (Nat.le_of_ble_eq_true rfl) (fun v9 f9 n9 hh => ?_)
  obtain ⟨rfl, rfl, rfl⟩ := hh
  refine aw_if_ne C 13 dX9_piece_6 (by decide) (fun q => ?_) (fun q => ?_)
  · rw [if_neg q] at h
    refine aw_iload_n C dX9_piece_13 rfl ?_
    refine aw_iconst C 0 dX9_piece_14 ki_0 ?_
    refine aw_bipush C 9 dX9_piece_15 kb_9 ?_
    obtain ⟨r2, h2, h⟩ := Option.bind_eq_some_iff.mp h
    refine aw_callS C [.int v2, .int (0 : Int32), .int (9 : Int32)] ms_X9_141 (rmX9_isIn h2) rfl dX9_piece_17 (Nat.le_of_ble_eq_true rfl) (Nat.le_of_ble_eq_true rfl) rfl (Nat.le_of_ble_eq_true rfl) (Nat.le_of_ble_eq_true rfl) (Nat.le_of_ble_eq_true rfl) (fun v9 f9 n9 hh => ?_)
    obtain ⟨rfl, rfl, rfl⟩ := hh
    refine aw_if_ne C 27 dX9_piece_20 (by decide) (fun q => ?_) (fun q => ?_)
    · rw [if_neg q] at h
      refine aw_iconst C 0 dX9_piece_27 ki_0 ?_
      refine aw_fl [some (.ref 181), some (.int v1), some (.int v2)] ⟨rfl, ⟨rfl, ⟨rfl, trivial⟩⟩⟩ ?_
      exact rmX9_piece_b28 C h
    · rw [if_pos q] at h
      refine aw_iconst C 2 dX9_piece_23 ki_2 ?_
      refine aw_goto C 28 dX9_piece_24 (by decide) ?_
      refine aw_fl [some (.ref 181), some (.int v1), some (.int v2)] ⟨rfl, ⟨rfl, ⟨rfl, trivial⟩⟩⟩ ?_
      exact rmX9_piece_b28 C h
  · rw [if_pos q] at h
    refine aw_iconst C 1 dX9_piece_9 ki_1 ?_
    refine aw_goto C 28 dX9_piece_10 (by decide) ?_
    refine aw_fl [some (.ref 181), some (.int v1), some (.int v2)] ⟨rfl, ⟨rfl, ⟨rfl, trivial⟩⟩⟩ ?_
    exact rmX9_piece_b28 C h
