def mX9_at_b65 (s0 : Int32) (σ : RS9) : Option (Int32 × RS9) := some (s0, σ)
set_option maxHeartbeats 1000000 in
theorem rmX9_at_b65 {X : GX} {p : Program} {l : Launch} {e : Env} {s : State} {m : MethodId} {args : Array Value} {below : List Frame} {meth : Method} {c : Code} {f : AH} {n : Nat} {r : Int32 × RS9} {s0 : Int32} {σ : RS9} (C : CC X p l (RM 10 0 0) s m args meth c RX9 cX9_at 4 (some .int)) (h : mX9_at_b65 s0 σ = some r) : AW X p l e (RM 10 0 0) s m args below meth c 4 (ZM X below args s 0 0 (QMi f n r)) (rHm f σ) n 0 0 65 [none, none, none, none] [.int s0] := by
  have h : some (s0, σ) = some r := h
  cases h
  exact aw_iret C rfl rfl dX9_at_65 (Nat.le_refl _) (Nat.le_refl _) ⟨rfl, rfl, rfl⟩
def mX9_at_b38 (s0 : Int32) (σ : RS9) : Option (Int32 × RS9) := some (s0, σ)
set_option maxHeartbeats 1000000 in
theorem rmX9_at_b38 {X : GX} {p : Program} {l : Launch} {e : Env} {s : State} {m : MethodId} {args : Array Value} {below : List Frame} {meth : Method} {c : Code} {f : AH} {n : Nat} {r : Int32 × RS9} {s0 : Int32} {σ : RS9} (C : CC X p l (RM 10 0 0) s m args meth c RX9 cX9_at 4 (some .int)) (h : mX9_at_b38 s0 σ = some r) : AW X p l e (RM 10 0 0) s m args below meth c 4 (ZM X below args s 0 0 (QMi f n r)) (rHm f σ) n 0 0 38 [none, none, none, none] [.int s0] := by
  have h : some (s0, σ) = some r := h
  cases h
  exact aw_iret C rfl rfl dX9_at_38 (Nat.le_refl _) (Nat.le_refl _) ⟨rfl, rfl, rfl⟩
def mX9_at (v1 : Int32) (v2 : Int32) (σ : RS9) : Option (Int32 × RS9) := (if v2 = (0 : Int32) then rCk (rIn (0 : Int32) (rLen 1)) (((mX9_isIn v1 (0 : Int32) ((rGa σ 1 (0 : Int32)) - (1 : Int32)) (rSf σ 0 (0 : Int32))).bind fun r5 => (if r5.1 = (0 : Int32) then mX9_at_b38 (-1 : Int32) r5.2 else rCk (rIn ((43 : Int32) + v1) (rLen 1)) (mX9_at_b38 (rGa r5.2 1 ((43 : Int32) + v1)) r5.2)))) else ((mX9_builds (rSf σ 0 (0 : Int32))).bind fun r1 => ((mX9_isIn v1 (0 : Int32) (r1.1 - (1 : Int32)) r1.2).bind fun r2 => (if r2.1 = (0 : Int32) then mX9_at_b65 (-1 : Int32) r2.2 else rCk (rIn v1 (rLen 49)) (mX9_at_b65 (rGa r2.2 49 v1) r2.2)))))
set_option maxHeartbeats 1000000 in
theorem rmX9_at {X : GX} {l : Launch} {f : AH} {n : Nat} {r : Int32 × RS9} {v1 : Int32} {v2 : Int32} {σ : RS9} (h : mX9_at v1 v2 σ = some r) : AM X l yX9_at cX9_at 4 (some .int) 10 0 0 [.ref 181, .int v1, .int v2] (rHm f σ) n (QMi f n r) := by
  have h : (if v2 = (0 : Int32) then rCk (rIn (0 : Int32) (rLen 1)) (((mX9_isIn v1 (0 : Int32) ((rGa σ 1 (0 : Int32)) - (1 : Int32)) (rSf σ 0 (0 : Int32))).bind fun r5 => (if r5.1 = (0 : Int32) then mX9_at_b38 (-1 : Int32) r5.2 else rCk (rIn ((43 : Int32) + v1) (rLen 1)) (mX9_at_b38 (rGa r5.2 1 ((43 : Int32) + v1)) r5.2)))) else ((mX9_builds (rSf σ 0 (0 : Int32))).bind fun r1 => ((mX9_isIn v1 (0 : Int32) (r1.1 - (1 : Int32)) r1.2).bind fun r2 => (if r2.1 = (0 : Int32) then mX9_at_b65 (-1 : Int32) r2.2 else rCk (rIn v1 (rLen 49)) (mX9_at_b65 (rGa r2.2 49 v1) r2.2))))) = some r := h
  refine AM.of (by decide +kernel) rfl (Nat.le_of_ble_eq_true rfl) (fun p e s m args below meth c C _ => ?_)
  refine aw_nl [some (.ref 181), some (.int v1), some (.int v2), none] rfl ?_
  refine aw_ald_n C dX9_at_0 rfl ?_
  refine aw_iconst C 0 dX9_at_1 ki_0 ?_
  refine am_put C gf_X9_138 nf9_0 rfl rfl dX9_at_2 ?_
  refine aw_iload_n C dX9_at_5 rfl ?_
  refine aw_if_ne C 39 dX9_at_6 (by decide) (fun q => ?_) (fun q => ?_)
  · rw [if_neg q] at h
    refine aw_ald_n C dX9_at_39 rfl ?_
    obtain ⟨r1, h1, h⟩ := Option.bind_eq_some_iff.mp h
    refine aw_callV C (ci := 9) (b := 181) [] mv_X9_441 rfl rfl (hm_M f (rSf σ 0 (0 : Int32))) (rmX9_builds h1) rfl dX9_at_40 (Nat.le_of_ble_eq_true rfl) (Nat.le_of_ble_eq_true rfl) rfl (Nat.le_of_ble_eq_true rfl) (Nat.le_of_ble_eq_true rfl) (Nat.le_of_ble_eq_true rfl) (fun v9 f9 n9 hh => ?_)
    obtain ⟨rfl, rfl, rfl⟩ := hh
    refine aw_istore_n C dX9_at_43 (by decide) rfl ?_
    refine aw_nl [some (.ref 181), some (.int v1), some (.int v2), some (.int r1.1)] rfl ?_
    refine aw_iload_n C dX9_at_44 rfl ?_
    refine aw_iconst C 0 dX9_at_45 ki_0 ?_
    refine aw_iload_n C dX9_at_46 rfl ?_
    refine aw_iconst C 1 dX9_at_47 ki_1 ?_
    refine aw_isub C dX9_at_48 ?_
    obtain ⟨r2, h2, h⟩ := Option.bind_eq_some_iff.mp h
    refine aw_callS C [.int v1, .int (0 : Int32), .int (r1.1 - (1 : Int32))] ms_X9_141 (rmX9_isIn h2) rfl dX9_at_49 (Nat.le_of_ble_eq_true rfl) (Nat.le_of_ble_eq_true rfl) rfl (Nat.le_of_ble_eq_true rfl) (Nat.le_of_ble_eq_true rfl) (Nat.le_of_ble_eq_true rfl) (fun v9 f9 n9 hh => ?_)
    obtain ⟨rfl, rfl, rfl⟩ := hh
    refine aw_if_eq C 64 dX9_at_52 (by decide) (fun q => ?_) (fun q => ?_)
    · rw [if_pos q] at h
      refine aw_iconst C (-1) dX9_at_64 ki_m1 ?_
      refine aw_fl [none, none, none, none] trivial ?_
      exact rmX9_at_b65 C h
    · rw [if_neg q] at h
      refine aw_ald_n C dX9_at_55 rfl ?_
      refine aw_get C (v := .ref (rAid 49)) gf_X9_120 (hm_M f r2.2) rfl dX9_at_56 ?_
      refine aw_iload_n C dX9_at_59 rfl ?_
      obtain ⟨hb3, h⟩ := ck_some h
      refine am_iald C (rGa r2.2 49 v1) rfl (inb_vp hb3) rfl dX9_at_60 ?_
      refine aw_goto C 65 dX9_at_61 (by decide) ?_
      refine aw_fl [none, none, none, none] trivial ?_
      exact rmX9_at_b65 C h
  · rw [if_pos q] at h
    refine aw_iload_n C dX9_at_9 rfl ?_
    refine aw_iconst C 0 dX9_at_10 ki_0 ?_
    refine aw_ald_n C dX9_at_11 rfl ?_
    refine aw_get C (v := .ref (rAid 1)) gf_X9_7 (hm_M f (rSf σ 0 (0 : Int32))) rfl dX9_at_12 ?_
    refine aw_iconst C 0 dX9_at_15 ki_0 ?_
    obtain ⟨hb4, h⟩ := ck_some h
    refine am_iald C (rGa σ 1 (0 : Int32)) rfl (inb_vp hb4) rfl dX9_at_16 ?_
    refine aw_iconst C 1 dX9_at_17 ki_1 ?_
    refine aw_isub C dX9_at_18 ?_
    obtain ⟨r5, h5, h⟩ := Option.bind_eq_some_iff.mp h
    refine aw_callS C [.int v1, .int (0 : Int32), .int ((rGa σ 1 (0 : Int32)) - (1 : Int32))] ms_X9_141 (rmX9_isIn h5) rfl dX9_at_19 (Nat.le_of_ble_eq_true rfl) (Nat.le_of_ble_eq_true rfl) rfl (Nat.le_of_ble_eq_true rfl) (Nat.le_of_ble_eq_true rfl) (Nat.le_of_ble_eq_true rfl) (fun v9 f9 n9 hh => ?_)
    obtain ⟨rfl, rfl, rfl⟩ := hh
    refine aw_if_eq C 37 dX9_at_22 (by decide) (fun q => ?_) (fun q => ?_)
    · rw [if_pos q] at h
      refine aw_iconst C (-1) dX9_at_37 ki_m1 ?_
      refine aw_fl [none, none, none, none] trivial ?_
      exact rmX9_at_b38 C h
    · rw [if_neg q] at h
      refine aw_ald_n C dX9_at_25 rfl ?_
      refine aw_get C (v := .ref (rAid 1)) gf_X9_7 (hm_M f r5.2) rfl dX9_at_26 ?_
      refine aw_bipush C 43 dX9_at_29 kb_43 ?_
      refine aw_iload_n C dX9_at_31 rfl ?_
      refine aw_iadd C dX9_at_32 ?_
      obtain ⟨hb6, h⟩ := ck_some h
      refine am_iald C (rGa r5.2 1 ((43 : Int32) + v1)) rfl (inb_vp hb6) rfl dX9_at_33 ?_
      refine aw_goto C 38 dX9_at_34 (by decide) ?_
      refine aw_fl [none, none, none, none] trivial ?_
      exact rmX9_at_b38 C h
def mX9_would_b49 (s0 : Int32) (σ : RS9) : Option (Int32 × RS9) := some (s0, σ)
set_option maxHeartbeats 1000000 in
theorem rmX9_would_b49 {X : GX} {p : Program} {l : Launch} {e : Env} {s : State} {m : MethodId} {args : Array Value} {below : List Frame} {meth : Method} {c : Code} {f : AH} {n : Nat} {r : Int32 × RS9} {s0 : Int32} {σ : RS9} (C : CC X p l (RM 8 0 0) s m args meth c RX9 cX9_would 3 (some .int)) (h : mX9_would_b49 s0 σ = some r) : AW X p l e (RM 8 0 0) s m args below meth c 3 (ZM X below args s 0 0 (QMi f n r)) (rHm f σ) n 0 0 49 [none, none, none] [.int s0] := by
  have h : some (s0, σ) = some r := h
  cases h
  exact aw_iret C rfl rfl dX9_would_49 (Nat.le_refl _) (Nat.le_refl _) ⟨rfl, rfl, rfl⟩
def mX9_would_b29 (v1 : Int32) (v2 : Int32) (s1 : Int32) (σ : RS9) : Option (Int32 × RS9) := (if s1 ≤ (0 : Int32) then ((mX9_escapedFor v1 v2 (rSf σ 0 s1)).bind fun r1 => mX9_would_b49 r1.1 r1.2) else mX9_would_b49 (0 : Int32) (rSf σ 0 s1))
set_option maxHeartbeats 1000000 in
theorem rmX9_would_b29 {X : GX} {p : Program} {l : Launch} {e : Env} {s : State} {m : MethodId} {args : Array Value} {below : List Frame} {meth : Method} {c : Code} {f : AH} {n : Nat} {r : Int32 × RS9} {v1 : Int32} {v2 : Int32} {s1 : Int32} {σ : RS9} (C : CC X p l (RM 8 0 0) s m args meth c RX9 cX9_would 3 (some .int)) (h : mX9_would_b29 v1 v2 s1 σ = some r) : AW X p l e (RM 8 0 0) s m args below meth c 3 (ZM X below args s 0 0 (QMi f n r)) (rHm f σ) n 0 0 29 [some (.ref 181), some (.int v1), some (.int v2)] [.int s1, .ref 181] := by
  have h : (if s1 ≤ (0 : Int32) then ((mX9_escapedFor v1 v2 (rSf σ 0 s1)).bind fun r1 => mX9_would_b49 r1.1 r1.2) else mX9_would_b49 (0 : Int32) (rSf σ 0 s1)) = some r := h
  refine am_put C gf_X9_138 nf9_0 rfl rfl dX9_would_29 ?_
  refine aw_ald_n C dX9_would_32 rfl ?_
  refine aw_get C (v := .int s1) gf_X9_138 (hm_M f (rSf σ 0 s1)) rfl dX9_would_33 ?_
  refine aw_if_le C 43 dX9_would_36 (by decide) (fun q => ?_) (fun q => ?_)
  · rw [if_pos q] at h
    refine aw_ald_n C dX9_would_43 rfl ?_
    refine aw_iload_n C dX9_would_44 rfl ?_
    refine aw_iload_n C dX9_would_45 rfl ?_
    obtain ⟨r1, h1, h⟩ := Option.bind_eq_some_iff.mp h
    refine aw_callV C (ci := 9) (b := 181) [.int v1, .int v2] mv_X9_287 rfl rfl (hm_M f (rSf σ 0 s1)) (rmX9_escapedFor h1) rfl dX9_would_46 (Nat.le_of_ble_eq_true rfl) (Nat.le_of_ble_eq_true rfl) rfl (Nat.le_of_ble_eq_true rfl) (Nat.le_of_ble_eq_true rfl) (Nat.le_of_ble_eq_true rfl) (fun v9 f9 n9 hh => ?_)
    obtain ⟨rfl, rfl, rfl⟩ := hh
    refine aw_fl [none, none, none] trivial ?_
    exact rmX9_would_b49 C h
  · rw [if_neg q] at h
    refine aw_iconst C 0 dX9_would_39 ki_0 ?_
    refine aw_goto C 49 dX9_would_40 (by decide) ?_
    refine aw_fl [none, none, none] trivial ?_
    exact rmX9_would_b49 C h
def mX9_would (v1 : Int32) (σ : RS9) : Option (Int32 × RS9) := ((mX9_tookTold σ).bind fun r1 => ((mX9_isPieceThere v1 r1.2).bind fun r2 => (if r2.1 = (0 : Int32) then mX9_would_b29 v1 r1.1 (1 : Int32) r2.2 else (if r1.1 ≤ (60 : Int32) then mX9_would_b29 v1 r1.1 (0 : Int32) r2.2 else mX9_would_b29 v1 r1.1 (2 : Int32) r2.2))))
set_option maxHeartbeats 1000000 in
theorem rmX9_would {X : GX} {l : Launch} {f : AH} {n : Nat} {r : Int32 × RS9} {v1 : Int32} {σ : RS9} (h : mX9_would v1 σ = some r) : AM X l yX9_would cX9_would 3 (some .int) 8 0 0 [.ref 181, .int v1] (rHm f σ) n (QMi f n r) := by
  have h : ((mX9_tookTold σ).bind fun r1 => ((mX9_isPieceThere v1 r1.2).bind fun r2 => (if r2.1 = (0 : Int32) then mX9_would_b29 v1 r1.1 (1 : Int32) r2.2 else (if r1.1 ≤ (60 : Int32) then mX9_would_b29 v1 r1.1 (0 : Int32) r2.2 else mX9_would_b29 v1 r1.1 (2 : Int32) r2.2)))) = some r := h
  refine AM.of (by decide +kernel) rfl (Nat.le_of_ble_eq_true rfl) (fun p e s m args below meth c C _ => ?_)
  refine aw_nl [some (.ref 181), some (.int v1), none] rfl ?_
  refine aw_ald_n C dX9_would_0 rfl ?_
  obtain ⟨r1, h1, h⟩ := Option.bind_eq_some_iff.mp h
  refine aw_callV C (ci := 9) (b := 181) [] mv_X9_435 rfl rfl (hm_M f σ) (rmX9_tookTold h1) rfl dX9_would_1 (Nat.le_of_ble_eq_true rfl) (Nat.le_of_ble_eq_true rfl) rfl (Nat.le_of_ble_eq_true rfl) (Nat.le_of_ble_eq_true rfl) (Nat.le_of_ble_eq_true rfl) (fun v9 f9 n9 hh => ?_)
  obtain ⟨rfl, rfl, rfl⟩ := hh
  refine aw_istore_n C dX9_would_4 (by decide) rfl ?_
  refine aw_nl [some (.ref 181), some (.int v1), some (.int r1.1)] rfl ?_
  refine aw_ald_n C dX9_would_5 rfl ?_
  refine aw_ald_n C dX9_would_6 rfl ?_
  refine aw_iload_n C dX9_would_7 rfl ?_
  obtain ⟨r2, h2, h⟩ := Option.bind_eq_some_iff.mp h
  refine aw_callV C (ci := 9) (b := 181) [.int v1] mv_X9_293 rfl rfl (hm_M f r1.2) (rmX9_isPieceThere h2) rfl dX9_would_8 (Nat.le_of_ble_eq_true rfl) (Nat.le_of_ble_eq_true rfl) rfl (Nat.le_of_ble_eq_true rfl) (Nat.le_of_ble_eq_true rfl) (Nat.le_of_ble_eq_true rfl) (fun v9 f9 n9 hh => ?_)
  obtain ⟨rfl, rfl, rfl⟩ := hh
  refine aw_if_ne C 18 dX9_would_11 (by decide) (fun q => ?_) (fun q => ?_)
  · rw [if_neg q] at h
    refine aw_iload_n C dX9_would_18 rfl ?_
    refine aw_bipush C 60 dX9_would_19 kb_60 ?_
    refine aw_icmp_le C 28 dX9_would_21 (by decide) (fun q => ?_) (fun q => ?_)
    · rw [if_pos q] at h
      refine aw_iconst C 0 dX9_would_28 ki_0 ?_
      refine aw_fl [some (.ref 181), some (.int v1), some (.int r1.1)] ⟨rfl, ⟨rfl, ⟨rfl, trivial⟩⟩⟩ ?_
      exact rmX9_would_b29 C h
    · rw [if_neg q] at h
      refine aw_iconst C 2 dX9_would_24 ki_2 ?_
      refine aw_goto C 29 dX9_would_25 (by decide) ?_
      refine aw_fl [some (.ref 181), some (.int v1), some (.int r1.1)] ⟨rfl, ⟨rfl, ⟨rfl, trivial⟩⟩⟩ ?_
      exact rmX9_would_b29 C h
  · rw [if_pos q] at h
    refine aw_iconst C 1 dX9_would_14 ki_1 ?_
    refine aw_goto C 29 dX9_would_15 (by decide) ?_
    refine aw_fl [some (.ref 181), some (.int v1), some (.int r1.1)] ⟨rfl, ⟨rfl, ⟨rfl, trivial⟩⟩⟩ ?_
    exact rmX9_would_b29 C h
def mX9_cutsBuilt_l99 : Nat → Int32 → Int32 → RS9 → Option (Int32 × RS9)
  | 0, _, _, _ => none
  | d + 1, v1, v4, σ => (if v1 ≤ v4 then ((mX9_cutsAll σ).bind fun r1 => some ((0 : Int32), r1.2)) else rCk (rIn v4 (rLen 49)) (rCk (rIn v4 (rLen 13)) (mX9_cutsBuilt_l99 d v1 (v4 + (1 : Int32)) (rSa σ 13 v4 (rGa σ 49 v4)))))
set_option maxHeartbeats 1000000 in
theorem rmX9_cutsBuilt_l99 {X : GX} {p : Program} {l : Launch} {e : Env} {s : State} {m : MethodId} {args : Array Value} {below : List Frame} {meth : Method} {c : Code} {f : AH} {n : Nat} {r : Int32 × RS9} (C : CC X p l (RM 10 0 0) s m args meth c RX9 cX9_cutsBuilt 6 none) : ∀ (d : Nat) (v1 : Int32) (v4 : Int32) (σ : RS9) (_ : mX9_cutsBuilt_l99 d v1 v4 σ = some r), AW X p l e (RM 10 0 0) s m args below meth c 6 (ZM X below args s 0 0 (QMv f n r)) (rHm f σ) n 0 0 99 [some (.ref 181), some (.int v1), none, none, some (.int v4), none] [] := by
  intro d
  induction d with
  | zero =>
    intro v1 v4 σ h
    exact nomatch (show (none : Option (Int32 × RS9)) = some r from h)
  | succ d ih =>
    intro v1 v4 σ h
    have h : (if v1 ≤ v4 then ((mX9_cutsAll σ).bind fun r1 => some ((0 : Int32), r1.2)) else rCk (rIn v4 (rLen 49)) (rCk (rIn v4 (rLen 13)) (mX9_cutsBuilt_l99 d v1 (v4 + (1 : Int32)) (rSa σ 13 v4 (rGa σ 49 v4))))) = some r := h
    refine aw_iload C dX9_cutsBuilt_99 rfl ?_
    refine aw_iload_n C dX9_cutsBuilt_101 rfl ?_
    refine aw_icmp_ge C 125 dX9_cutsBuilt_102 (by decide) (fun q => ?_) (fun q => ?_)
    · rw [if_pos q] at h
      refine aw_ald_n C dX9_cutsBuilt_125 rfl ?_
      obtain ⟨r1, h1, h⟩ := Option.bind_eq_some_iff.mp h
      refine aw_callV C (ci := 9) (b := 181) [] mv_X9_241 rfl rfl (hm_M f σ) (rmX9_cutsAll h1) rfl dX9_cutsBuilt_126 (Nat.le_of_ble_eq_true rfl) (Nat.le_of_ble_eq_true rfl) rfl (Nat.le_of_ble_eq_true rfl) (Nat.le_of_ble_eq_true rfl) (Nat.le_of_ble_eq_true rfl) (fun v9 f9 n9 hh => ?_)
      obtain ⟨rfl, rfl, rfl⟩ := hh
      cases h
      exact aw_vret C rfl dX9_cutsBuilt_129 (Nat.le_refl _) (Nat.le_refl _) ⟨rfl, rfl, rfl⟩
    · rw [if_neg q] at h
      refine aw_ald_n C dX9_cutsBuilt_105 rfl ?_
      refine aw_get C (v := .ref (rAid 13)) gf_X9_30 (hm_M f σ) rfl dX9_cutsBuilt_106 ?_
      refine aw_iload C dX9_cutsBuilt_109 rfl ?_
      refine aw_ald_n C dX9_cutsBuilt_111 rfl ?_
      refine aw_get C (v := .ref (rAid 49)) gf_X9_120 (hm_M f σ) rfl dX9_cutsBuilt_112 ?_
      refine aw_iload C dX9_cutsBuilt_115 rfl ?_
      obtain ⟨hb2, h⟩ := ck_some h
      refine am_iald C (rGa σ 49 v4) rfl (inb_vp hb2) rfl dX9_cutsBuilt_117 ?_
      obtain ⟨hb3, h⟩ := ck_some h
      refine am_iast C rfl (inb_vp hb3) dX9_cutsBuilt_118 ?_
      refine aw_iinc C (v4 + (1 : Int32)) dX9_cutsBuilt_119 rfl (by rw [ki_1]) (by decide) rfl ?_
      refine aw_nl [some (.ref 181), some (.int v1), none, none, some (.int (v4 + (1 : Int32))), none] rfl ?_
      refine aw_goto C 99 dX9_cutsBuilt_122 (by decide) ?_
      refine aw_fl [some (.ref 181), some (.int v1), none, none, some (.int (v4 + (1 : Int32))), none] ⟨rfl, ⟨rfl, ⟨rfl, trivial⟩⟩⟩ ?_
      exact ih v1 (v4 + (1 : Int32)) (rSa σ 13 v4 (rGa σ 49 v4)) h
def mX9_cutsBuilt_b78 (rec20 : Int32 → Int32 → Int32 → Int32 → RS9 → Option (Int32 × RS9)) (v1 : Int32) (v2 : Int32) (v3 : Int32) (v4 : Int32) (σ : RS9) : Option (Int32 × RS9) := rec20 v1 v2 v3 (v4 + (1 : Int32)) σ
set_option maxHeartbeats 1000000 in
theorem rmX9_cutsBuilt_b78 {X : GX} {p : Program} {l : Launch} {e : Env} {s : State} {m : MethodId} {args : Array Value} {below : List Frame} {meth : Method} {c : Code} {f : AH} {n : Nat} {r : Int32 × RS9} {rec20 : Int32 → Int32 → Int32 → Int32 → RS9 → Option (Int32 × RS9)} {v1 : Int32} {v2 : Int32} {v3 : Int32} {v4 : Int32} {σ : RS9} (C : CC X p l (RM 10 0 0) s m args meth c RX9 cX9_cutsBuilt 6 none) (Hr20 : ∀ (v1 : Int32) (v2 : Int32) (v3 : Int32) (v4 : Int32) (σ : RS9), rec20 v1 v2 v3 v4 σ = some r → AW X p l e (RM 10 0 0) s m args below meth c 6 (ZM X below args s 0 0 (QMv f n r)) (rHm f σ) n 0 0 20 [some (.ref 181), some (.int v1), some (.int v2), some (.int v3), some (.int v4), none] []) (h : mX9_cutsBuilt_b78 rec20 v1 v2 v3 v4 σ = some r) : AW X p l e (RM 10 0 0) s m args below meth c 6 (ZM X below args s 0 0 (QMv f n r)) (rHm f σ) n 0 0 78 [some (.ref 181), some (.int v1), some (.int v2), some (.int v3), some (.int v4), none] [] := by
  have h : rec20 v1 v2 v3 (v4 + (1 : Int32)) σ = some r := h
  refine aw_iinc C (v4 + (1 : Int32)) dX9_cutsBuilt_78 rfl (by rw [ki_1]) (by decide) rfl ?_
  refine aw_nl [some (.ref 181), some (.int v1), some (.int v2), some (.int v3), some (.int (v4 + (1 : Int32))), none] rfl ?_
  refine aw_goto C 20 dX9_cutsBuilt_81 (by decide) ?_
  refine aw_fl [some (.ref 181), some (.int v1), some (.int v2), some (.int v3), some (.int (v4 + (1 : Int32))), none] ⟨rfl, ⟨rfl, ⟨rfl, ⟨rfl, ⟨rfl, trivial⟩⟩⟩⟩⟩ ?_
  exact Hr20 v1 v2 v3 (v4 + (1 : Int32)) σ h
def mX9_cutsBuilt_l37 (rec20 : Int32 → Int32 → Int32 → Int32 → RS9 → Option (Int32 × RS9)) : Nat → Int32 → Int32 → Int32 → Int32 → Int32 → RS9 → Option (Int32 × RS9)
  | 0, _, _, _, _, _, _ => none
  | d + 1, v1, v2, v3, v4, v5, σ => ((mX9_nowMany v4 σ).bind fun r1 => (if r1.1 ≤ v5 then mX9_cutsBuilt_b78 rec20 v1 v2 v3 v4 r1.2 else (if (700 : Int32) ≤ v3 then mX9_cutsBuilt_b78 rec20 v1 v2 v3 v4 r1.2 else ((mX9_nowByte v4 v5 r1.2).bind fun r2 => rCk (rIn v3 (rLen 50)) (mX9_cutsBuilt_l37 rec20 d v1 v2 (v3 + (1 : Int32)) v4 (v5 + (1 : Int32)) (rSa r2.2 50 v3 r2.1))))))
set_option maxHeartbeats 1000000 in
theorem rmX9_cutsBuilt_l37 {X : GX} {p : Program} {l : Launch} {e : Env} {s : State} {m : MethodId} {args : Array Value} {below : List Frame} {meth : Method} {c : Code} {f : AH} {n : Nat} {r : Int32 × RS9} {rec20 : Int32 → Int32 → Int32 → Int32 → RS9 → Option (Int32 × RS9)} (C : CC X p l (RM 10 0 0) s m args meth c RX9 cX9_cutsBuilt 6 none) (Hr20 : ∀ (v1 : Int32) (v2 : Int32) (v3 : Int32) (v4 : Int32) (σ : RS9), rec20 v1 v2 v3 v4 σ = some r → AW X p l e (RM 10 0 0) s m args below meth c 6 (ZM X below args s 0 0 (QMv f n r)) (rHm f σ) n 0 0 20 [some (.ref 181), some (.int v1), some (.int v2), some (.int v3), some (.int v4), none] []) : ∀ (d : Nat) (v1 : Int32) (v2 : Int32) (v3 : Int32) (v4 : Int32) (v5 : Int32) (σ : RS9) (_ : mX9_cutsBuilt_l37 rec20 d v1 v2 v3 v4 v5 σ = some r), AW X p l e (RM 10 0 0) s m args below meth c 6 (ZM X below args s 0 0 (QMv f n r)) (rHm f σ) n 0 0 37 [some (.ref 181), some (.int v1), some (.int v2), some (.int v3), some (.int v4), some (.int v5)] [] := by
  intro d
  induction d with
  | zero =>
    intro v1 v2 v3 v4 v5 σ h
    exact nomatch (show (none : Option (Int32 × RS9)) = some r from h)
  | succ d ih =>
    intro v1 v2 v3 v4 v5 σ h
    have h : ((mX9_nowMany v4 σ).bind fun r1 => (if r1.1 ≤ v5 then mX9_cutsBuilt_b78 rec20 v1 v2 v3 v4 r1.2 else (if (700 : Int32) ≤ v3 then mX9_cutsBuilt_b78 rec20 v1 v2 v3 v4 r1.2 else ((mX9_nowByte v4 v5 r1.2).bind fun r2 => rCk (rIn v3 (rLen 50)) (mX9_cutsBuilt_l37 rec20 d v1 v2 (v3 + (1 : Int32)) v4 (v5 + (1 : Int32)) (rSa r2.2 50 v3 r2.1)))))) = some r := h
    refine aw_iload C dX9_cutsBuilt_37 rfl ?_
    refine aw_ald_n C dX9_cutsBuilt_39 rfl ?_
    refine aw_iload C dX9_cutsBuilt_40 rfl ?_
    obtain ⟨r1, h1, h⟩ := Option.bind_eq_some_iff.mp h
    refine aw_callV C (ci := 9) (b := 181) [.int v4] mv_X9_313 rfl rfl (hm_M f σ) (rmX9_nowMany h1) rfl dX9_cutsBuilt_42 (Nat.le_of_ble_eq_true rfl) (Nat.le_of_ble_eq_true rfl) rfl (Nat.le_of_ble_eq_true rfl) (Nat.le_of_ble_eq_true rfl) (Nat.le_of_ble_eq_true rfl) (fun v9 f9 n9 hh => ?_)
    obtain ⟨rfl, rfl, rfl⟩ := hh
    refine aw_icmp_ge C 78 dX9_cutsBuilt_45 (by decide) (fun q => ?_) (fun q => ?_)
    · rw [if_pos q] at h
      refine aw_fl [some (.ref 181), some (.int v1), some (.int v2), some (.int v3), some (.int v4), none] ⟨rfl, ⟨rfl, ⟨rfl, ⟨rfl, ⟨rfl, trivial⟩⟩⟩⟩⟩ ?_
      exact rmX9_cutsBuilt_b78 C Hr20 h
    · rw [if_neg q] at h
      refine aw_iload_n C dX9_cutsBuilt_48 rfl ?_
      refine aw_sipush C 700 dX9_cutsBuilt_49 ks_700 ?_
      refine aw_icmp_ge C 78 dX9_cutsBuilt_52 (by decide) (fun q => ?_) (fun q => ?_)
      · rw [if_pos q] at h
        refine aw_fl [some (.ref 181), some (.int v1), some (.int v2), some (.int v3), some (.int v4), none] ⟨rfl, ⟨rfl, ⟨rfl, ⟨rfl, ⟨rfl, trivial⟩⟩⟩⟩⟩ ?_
        exact rmX9_cutsBuilt_b78 C Hr20 h
      · rw [if_neg q] at h
        refine aw_ald_n C dX9_cutsBuilt_55 rfl ?_
        refine aw_get C (v := .ref (rAid 50)) gf_X9_123 (hm_M f r1.2) rfl dX9_cutsBuilt_56 ?_
        refine aw_iload_n C dX9_cutsBuilt_59 rfl ?_
        refine aw_ald_n C dX9_cutsBuilt_60 rfl ?_
        refine aw_iload C dX9_cutsBuilt_61 rfl ?_
        refine aw_iload C dX9_cutsBuilt_63 rfl ?_
        obtain ⟨r2, h2, h⟩ := Option.bind_eq_some_iff.mp h
        refine aw_callV C (ci := 9) (b := 181) [.int v4, .int v5] mv_X9_316 rfl rfl (hm_M f r1.2) (rmX9_nowByte h2) rfl dX9_cutsBuilt_65 (Nat.le_of_ble_eq_true rfl) (Nat.le_of_ble_eq_true rfl) rfl (Nat.le_of_ble_eq_true rfl) (Nat.le_of_ble_eq_true rfl) (Nat.le_of_ble_eq_true rfl) (fun v9 f9 n9 hh => ?_)
        obtain ⟨rfl, rfl, rfl⟩ := hh
        obtain ⟨hb3, h⟩ := ck_some h
        refine am_iast C rfl (inb_vp hb3) dX9_cutsBuilt_68 ?_
        refine aw_iinc C (v3 + (1 : Int32)) dX9_cutsBuilt_69 rfl (by rw [ki_1]) (by decide) rfl ?_
        refine aw_nl [some (.ref 181), some (.int v1), some (.int v2), some (.int (v3 + (1 : Int32))), some (.int v4), some (.int v5)] rfl ?_
        refine aw_iinc C (v5 + (1 : Int32)) dX9_cutsBuilt_72 rfl (by rw [ki_1]) (by decide) rfl ?_
        refine aw_nl [some (.ref 181), some (.int v1), some (.int v2), some (.int (v3 + (1 : Int32))), some (.int v4), some (.int (v5 + (1 : Int32)))] rfl ?_
        refine aw_goto C 37 dX9_cutsBuilt_75 (by decide) ?_
        refine aw_fl [some (.ref 181), some (.int v1), some (.int v2), some (.int (v3 + (1 : Int32))), some (.int v4), some (.int (v5 + (1 : Int32)))] ⟨rfl, ⟨rfl, ⟨rfl, ⟨rfl, ⟨rfl, ⟨rfl, trivial⟩⟩⟩⟩⟩⟩ ?_
        exact ih v1 v2 (v3 + (1 : Int32)) v4 (v5 + (1 : Int32)) (rSa r2.2 50 v3 r2.1) h
def mX9_cutsBuilt_l20 : Nat → Int32 → Int32 → Int32 → Int32 → RS9 → Option (Int32 × RS9)
  | 0, _, _, _, _, _ => none
  | d + 1, v1, v2, v3, v4, σ => (if v2 ≤ v4 then rCk (rIn v2 (rLen 51)) (mX9_cutsBuilt_l99 rFU v1 (0 : Int32) (rSf (rSa σ 51 v2 v3) 16 v1)) else rCk (rIn v4 (rLen 51)) (mX9_cutsBuilt_l37 (fun v1 v2 v3 v4 σ => mX9_cutsBuilt_l20 d v1 v2 v3 v4 σ) rFU v1 v2 v3 v4 (0 : Int32) (rSa σ 51 v4 v3)))
set_option maxHeartbeats 1000000 in
theorem rmX9_cutsBuilt_l20 {X : GX} {p : Program} {l : Launch} {e : Env} {s : State} {m : MethodId} {args : Array Value} {below : List Frame} {meth : Method} {c : Code} {f : AH} {n : Nat} {r : Int32 × RS9} (C : CC X p l (RM 10 0 0) s m args meth c RX9 cX9_cutsBuilt 6 none) : ∀ (d : Nat) (v1 : Int32) (v2 : Int32) (v3 : Int32) (v4 : Int32) (σ : RS9) (_ : mX9_cutsBuilt_l20 d v1 v2 v3 v4 σ = some r), AW X p l e (RM 10 0 0) s m args below meth c 6 (ZM X below args s 0 0 (QMv f n r)) (rHm f σ) n 0 0 20 [some (.ref 181), some (.int v1), some (.int v2), some (.int v3), some (.int v4), none] [] := by
  intro d
  induction d with
  | zero =>
    intro v1 v2 v3 v4 σ h
    exact nomatch (show (none : Option (Int32 × RS9)) = some r from h)
  | succ d ih =>
    intro v1 v2 v3 v4 σ h
    have h : (if v2 ≤ v4 then rCk (rIn v2 (rLen 51)) (mX9_cutsBuilt_l99 rFU v1 (0 : Int32) (rSf (rSa σ 51 v2 v3) 16 v1)) else rCk (rIn v4 (rLen 51)) (mX9_cutsBuilt_l37 (fun v1 v2 v3 v4 σ => mX9_cutsBuilt_l20 d v1 v2 v3 v4 σ) rFU v1 v2 v3 v4 (0 : Int32) (rSa σ 51 v4 v3))) = some r := h
    refine aw_iload C dX9_cutsBuilt_20 rfl ?_
    refine aw_iload_n C dX9_cutsBuilt_22 rfl ?_
    refine aw_icmp_ge C 84 dX9_cutsBuilt_23 (by decide) (fun q => ?_) (fun q => ?_)
    · rw [if_pos q] at h
      refine aw_ald_n C dX9_cutsBuilt_84 rfl ?_
      refine aw_get C (v := .ref (rAid 51)) gf_X9_126 (hm_M f σ) rfl dX9_cutsBuilt_85 ?_
      refine aw_iload_n C dX9_cutsBuilt_88 rfl ?_
      refine aw_iload_n C dX9_cutsBuilt_89 rfl ?_
      obtain ⟨hb1, h⟩ := ck_some h
      refine am_iast C rfl (inb_vp hb1) dX9_cutsBuilt_90 ?_
      refine aw_ald_n C dX9_cutsBuilt_91 rfl ?_
      refine aw_iload_n C dX9_cutsBuilt_92 rfl ?_
      refine am_put C gf_X9_220 nf9_16 rfl rfl dX9_cutsBuilt_93 ?_
      refine aw_iconst C 0 dX9_cutsBuilt_96 ki_0 ?_
      refine aw_istore C dX9_cutsBuilt_97 (by decide) rfl ?_
      refine aw_nl [some (.ref 181), some (.int v1), some (.int v2), some (.int v3), some (.int (0 : Int32)), none] rfl ?_
      refine aw_fl [some (.ref 181), some (.int v1), none, none, some (.int (0 : Int32)), none] ⟨rfl, ⟨rfl, ⟨rfl, trivial⟩⟩⟩ ?_
      exact rmX9_cutsBuilt_l99 C rFU v1 (0 : Int32) (rSf (rSa σ 51 v2 v3) 16 v1) h
    · rw [if_neg q] at h
      refine aw_ald_n C dX9_cutsBuilt_26 rfl ?_
      refine aw_get C (v := .ref (rAid 51)) gf_X9_126 (hm_M f σ) rfl dX9_cutsBuilt_27 ?_
      refine aw_iload C dX9_cutsBuilt_30 rfl ?_
      refine aw_iload_n C dX9_cutsBuilt_32 rfl ?_
      obtain ⟨hb2, h⟩ := ck_some h
      refine am_iast C rfl (inb_vp hb2) dX9_cutsBuilt_33 ?_
      refine aw_iconst C 0 dX9_cutsBuilt_34 ki_0 ?_
      refine aw_istore C dX9_cutsBuilt_35 (by decide) rfl ?_
      refine aw_nl [some (.ref 181), some (.int v1), some (.int v2), some (.int v3), some (.int v4), some (.int (0 : Int32))] rfl ?_
      refine aw_fl [some (.ref 181), some (.int v1), some (.int v2), some (.int v3), some (.int v4), some (.int (0 : Int32))] ⟨rfl, ⟨rfl, ⟨rfl, ⟨rfl, ⟨rfl, ⟨rfl, trivial⟩⟩⟩⟩⟩⟩ ?_
      exact rmX9_cutsBuilt_l37 C (fun v1 v2 v3 v4 σ h => ih v1 v2 v3 v4 σ h) rFU v1 v2 v3 v4 (0 : Int32) (rSa σ 51 v4 v3) h
def mX9_cutsBuilt (σ : RS9) : Option (Int32 × RS9) := ((mX9_builds σ).bind fun r1 => mX9_cutsBuilt_l20 rFU r1.1 (r1.2.1 33) (0 : Int32) (0 : Int32) (rSf r1.2 59 (r1.2.1 33)))
set_option maxHeartbeats 1000000 in
theorem rmX9_cutsBuilt {X : GX} {l : Launch} {f : AH} {n : Nat} {r : Int32 × RS9} {σ : RS9} (h : mX9_cutsBuilt σ = some r) : AM X l yX9_cutsBuilt cX9_cutsBuilt 6 none 10 0 0 [.ref 181] (rHm f σ) n (QMv f n r) := by
  have h : ((mX9_builds σ).bind fun r1 => mX9_cutsBuilt_l20 rFU r1.1 (r1.2.1 33) (0 : Int32) (0 : Int32) (rSf r1.2 59 (r1.2.1 33))) = some r := h
  refine AM.of (by decide +kernel) rfl (Nat.le_of_ble_eq_true rfl) (fun p e s m args below meth c C _ => ?_)
  refine aw_nl [some (.ref 181), none, none, none, none, none] rfl ?_
  refine aw_ald_n C dX9_cutsBuilt_0 rfl ?_
  obtain ⟨r1, h1, h⟩ := Option.bind_eq_some_iff.mp h
  refine aw_callV C (ci := 9) (b := 181) [] mv_X9_441 rfl rfl (hm_M f σ) (rmX9_builds h1) rfl dX9_cutsBuilt_1 (Nat.le_of_ble_eq_true rfl) (Nat.le_of_ble_eq_true rfl) rfl (Nat.le_of_ble_eq_true rfl) (Nat.le_of_ble_eq_true rfl) (Nat.le_of_ble_eq_true rfl) (fun v9 f9 n9 hh => ?_)
  obtain ⟨rfl, rfl, rfl⟩ := hh
  refine aw_istore_n C dX9_cutsBuilt_4 (by decide) rfl ?_
  refine aw_nl [some (.ref 181), some (.int r1.1), none, none, none, none] rfl ?_
  refine aw_ald_n C dX9_cutsBuilt_5 rfl ?_
  refine aw_get C (v := .int (r1.2.1 33)) gf_X9_204 (hm_M f r1.2) rfl dX9_cutsBuilt_6 ?_
  refine aw_istore_n C dX9_cutsBuilt_9 (by decide) rfl ?_
  refine aw_nl [some (.ref 181), some (.int r1.1), some (.int (r1.2.1 33)), none, none, none] rfl ?_
  refine aw_iconst C 0 dX9_cutsBuilt_10 ki_0 ?_
  refine aw_istore_n C dX9_cutsBuilt_11 (by decide) rfl ?_
  refine aw_nl [some (.ref 181), some (.int r1.1), some (.int (r1.2.1 33)), some (.int (0 : Int32)), none, none] rfl ?_
  refine aw_ald_n C dX9_cutsBuilt_12 rfl ?_
  refine aw_iload_n C dX9_cutsBuilt_13 rfl ?_
  refine am_put C gf_X9_459 nf9_59 rfl rfl dX9_cutsBuilt_14 ?_
  refine aw_iconst C 0 dX9_cutsBuilt_17 ki_0 ?_
  refine aw_istore C dX9_cutsBuilt_18 (by decide) rfl ?_
  refine aw_nl [some (.ref 181), some (.int r1.1), some (.int (r1.2.1 33)), some (.int (0 : Int32)), some (.int (0 : Int32)), none] rfl ?_
  refine aw_fl [some (.ref 181), some (.int r1.1), some (.int (r1.2.1 33)), some (.int (0 : Int32)), some (.int (0 : Int32)), none] ⟨rfl, ⟨rfl, ⟨rfl, ⟨rfl, ⟨rfl, trivial⟩⟩⟩⟩⟩ ?_
  exact rmX9_cutsBuilt_l20 C rFU r1.1 (r1.2.1 33) (0 : Int32) (0 : Int32) (rSf r1.2 59 (r1.2.1 33)) h
def mX9_twice_b53 (v1 : Int32) (σ : RS9) : Option (Int32 × RS9) := ((mX9_cutsFile σ).bind fun r1 => rCk (rNb v1) (some (v1, r1.2)))
set_option maxHeartbeats 1000000 in
theorem rmX9_twice_b53 {X : GX} {p : Program} {l : Launch} {e : Env} {s : State} {m : MethodId} {args : Array Value} {below : List Frame} {meth : Method} {c : Code} {f : AH} {n : Nat} {r : Int32 × RS9} {v1 : Int32} {σ : RS9} (C : CC X p l (RM 11 0 0) s m args meth c RX9 cX9_twice 3 (some .boolean)) (h : mX9_twice_b53 v1 σ = some r) : AW X p l e (RM 11 0 0) s m args below meth c 3 (ZM X below args s 0 0 (QMi f n r)) (rHm f σ) n 0 0 53 [some (.ref 181), some (.int v1), none] [] := by
  have h : ((mX9_cutsFile σ).bind fun r1 => rCk (rNb v1) (some (v1, r1.2))) = some r := h
  refine aw_ald_n C dX9_twice_53 rfl ?_
  obtain ⟨r1, h1, h⟩ := Option.bind_eq_some_iff.mp h
  refine aw_callV C (ci := 9) (b := 181) [] mv_X9_244 rfl rfl (hm_M f σ) (rmX9_cutsFile h1) rfl dX9_twice_54 (Nat.le_of_ble_eq_true rfl) (Nat.le_of_ble_eq_true rfl) rfl (Nat.le_of_ble_eq_true rfl) (Nat.le_of_ble_eq_true rfl) (Nat.le_of_ble_eq_true rfl) (fun v9 f9 n9 hh => ?_)
  obtain ⟨rfl, rfl, rfl⟩ := hh
  refine aw_iload_n C dX9_twice_57 rfl ?_
  obtain ⟨hb2, h⟩ := ck_some h
  cases h
  exact aw_iret C rfl (nb_nar hb2) dX9_twice_58 (Nat.le_refl _) (Nat.le_refl _) ⟨rfl, rfl, rfl⟩
def mX9_twice_l28 : Nat → Int32 → Int32 → RS9 → Option (Int32 × RS9)
  | 0, _, _, _ => none
  | d + 1, v1, v2, σ => (if (σ.1 59) ≤ v2 then mX9_twice_b53 v1 σ else (if v1 = (0 : Int32) then mX9_twice_b53 v1 σ else ((mX9_isNow v2 v2 σ).bind fun r1 => mX9_twice_l28 d r1.1 (v2 + (1 : Int32)) r1.2)))
set_option maxHeartbeats 1000000 in
theorem rmX9_twice_l28 {X : GX} {p : Program} {l : Launch} {e : Env} {s : State} {m : MethodId} {args : Array Value} {below : List Frame} {meth : Method} {c : Code} {f : AH} {n : Nat} {r : Int32 × RS9} (C : CC X p l (RM 11 0 0) s m args meth c RX9 cX9_twice 3 (some .boolean)) : ∀ (d : Nat) (v1 : Int32) (v2 : Int32) (σ : RS9) (_ : mX9_twice_l28 d v1 v2 σ = some r), AW X p l e (RM 11 0 0) s m args below meth c 3 (ZM X below args s 0 0 (QMi f n r)) (rHm f σ) n 0 0 28 [some (.ref 181), some (.int v1), some (.int v2)] [] := by
  intro d
  induction d with
  | zero =>
    intro v1 v2 σ h
    exact nomatch (show (none : Option (Int32 × RS9)) = some r from h)
  | succ d ih =>
    intro v1 v2 σ h
    have h : (if (σ.1 59) ≤ v2 then mX9_twice_b53 v1 σ else (if v1 = (0 : Int32) then mX9_twice_b53 v1 σ else ((mX9_isNow v2 v2 σ).bind fun r1 => mX9_twice_l28 d r1.1 (v2 + (1 : Int32)) r1.2))) = some r := h
    refine aw_iload_n C dX9_twice_28 rfl ?_
    refine aw_ald_n C dX9_twice_29 rfl ?_
    refine aw_get C (v := .int (σ.1 59)) gf_X9_459 (hm_M f σ) rfl dX9_twice_30 ?_
    refine aw_icmp_ge C 53 dX9_twice_33 (by decide) (fun q => ?_) (fun q => ?_)
    · rw [if_pos q] at h
      refine aw_fl [some (.ref 181), some (.int v1), none] ⟨rfl, ⟨rfl, trivial⟩⟩ ?_
      exact rmX9_twice_b53 C h
    · rw [if_neg q] at h
      refine aw_iload_n C dX9_twice_36 rfl ?_
      refine aw_if_eq C 53 dX9_twice_37 (by decide) (fun q => ?_) (fun q => ?_)
      · rw [if_pos q] at h
        refine aw_fl [some (.ref 181), some (.int v1), none] ⟨rfl, ⟨rfl, trivial⟩⟩ ?_
        exact rmX9_twice_b53 C h
      · rw [if_neg q] at h
        refine aw_ald_n C dX9_twice_40 rfl ?_
        refine aw_iload_n C dX9_twice_41 rfl ?_
        refine aw_iload_n C dX9_twice_42 rfl ?_
        obtain ⟨r1, h1, h⟩ := Option.bind_eq_some_iff.mp h
        refine aw_callV C (ci := 9) (b := 181) [.int v2, .int v2] mv_X9_465 rfl rfl (hm_M f σ) (rmX9_isNow h1) rfl dX9_twice_43 (Nat.le_of_ble_eq_true rfl) (Nat.le_of_ble_eq_true rfl) rfl (Nat.le_of_ble_eq_true rfl) (Nat.le_of_ble_eq_true rfl) (Nat.le_of_ble_eq_true rfl) (fun v9 f9 n9 hh => ?_)
        obtain ⟨rfl, rfl, rfl⟩ := hh
        refine aw_istore_n C dX9_twice_46 (by decide) rfl ?_
        refine aw_nl [some (.ref 181), some (.int r1.1), some (.int v2)] rfl ?_
        refine aw_iinc C (v2 + (1 : Int32)) dX9_twice_47 rfl (by rw [ki_1]) (by decide) rfl ?_
        refine aw_nl [some (.ref 181), some (.int r1.1), some (.int (v2 + (1 : Int32)))] rfl ?_
        refine aw_goto C 28 dX9_twice_50 (by decide) ?_
        refine aw_fl [some (.ref 181), some (.int r1.1), some (.int (v2 + (1 : Int32)))] ⟨rfl, ⟨rfl, ⟨rfl, trivial⟩⟩⟩ ?_
        exact ih r1.1 (v2 + (1 : Int32)) r1.2 h
def mX9_twice_b25 (s0 : Int32) (σ : RS9) : Option (Int32 × RS9) := mX9_twice_l28 rFU s0 (0 : Int32) σ
set_option maxHeartbeats 1000000 in
theorem rmX9_twice_b25 {X : GX} {p : Program} {l : Launch} {e : Env} {s : State} {m : MethodId} {args : Array Value} {below : List Frame} {meth : Method} {c : Code} {f : AH} {n : Nat} {r : Int32 × RS9} {s0 : Int32} {σ : RS9} (C : CC X p l (RM 11 0 0) s m args meth c RX9 cX9_twice 3 (some .boolean)) (h : mX9_twice_b25 s0 σ = some r) : AW X p l e (RM 11 0 0) s m args below meth c 3 (ZM X below args s 0 0 (QMi f n r)) (rHm f σ) n 0 0 25 [some (.ref 181), none, none] [.int s0] := by
  have h : mX9_twice_l28 rFU s0 (0 : Int32) σ = some r := h
  refine aw_istore_n C dX9_twice_25 (by decide) rfl ?_
  refine aw_nl [some (.ref 181), some (.int s0), none] rfl ?_
  refine aw_iconst C 0 dX9_twice_26 ki_0 ?_
  refine aw_istore_n C dX9_twice_27 (by decide) rfl ?_
  refine aw_nl [some (.ref 181), some (.int s0), some (.int (0 : Int32))] rfl ?_
  refine aw_fl [some (.ref 181), some (.int s0), some (.int (0 : Int32))] ⟨rfl, ⟨rfl, ⟨rfl, trivial⟩⟩⟩ ?_
  exact rmX9_twice_l28 C rFU s0 (0 : Int32) σ h
def mX9_twice (σ : RS9) : Option (Int32 × RS9) := ((mX9_cutsBuilt (rSf σ 0 (0 : Int32))).bind fun r1 => (if (r1.2.1 33) = (r1.2.1 59) then mX9_twice_b25 (1 : Int32) r1.2 else mX9_twice_b25 (0 : Int32) r1.2))
set_option maxHeartbeats 1000000 in
theorem rmX9_twice {X : GX} {l : Launch} {f : AH} {n : Nat} {r : Int32 × RS9} {σ : RS9} (h : mX9_twice σ = some r) : AM X l yX9_twice cX9_twice 3 (some .boolean) 11 0 0 [.ref 181] (rHm f σ) n (QMi f n r) := by
  have h : ((mX9_cutsBuilt (rSf σ 0 (0 : Int32))).bind fun r1 => (if (r1.2.1 33) = (r1.2.1 59) then mX9_twice_b25 (1 : Int32) r1.2 else mX9_twice_b25 (0 : Int32) r1.2)) = some r := h
  refine AM.of (by decide +kernel) rfl (Nat.le_of_ble_eq_true rfl) (fun p e s m args below meth c C _ => ?_)
  refine aw_nl [some (.ref 181), none, none] rfl ?_
  refine aw_ald_n C dX9_twice_0 rfl ?_
  refine aw_iconst C 0 dX9_twice_1 ki_0 ?_
  refine am_put C gf_X9_138 nf9_0 rfl rfl dX9_twice_2 ?_
  refine aw_ald_n C dX9_twice_5 rfl ?_
  obtain ⟨r1, h1, h⟩ := Option.bind_eq_some_iff.mp h
  refine aw_callV C (ci := 9) (b := 181) [] mv_X9_462 rfl rfl (hm_M f (rSf σ 0 (0 : Int32))) (rmX9_cutsBuilt h1) rfl dX9_twice_6 (Nat.le_of_ble_eq_true rfl) (Nat.le_of_ble_eq_true rfl) rfl (Nat.le_of_ble_eq_true rfl) (Nat.le_of_ble_eq_true rfl) (Nat.le_of_ble_eq_true rfl) (fun v9 f9 n9 hh => ?_)
  obtain ⟨rfl, rfl, rfl⟩ := hh
  refine aw_ald_n C dX9_twice_9 rfl ?_
  refine aw_get C (v := .int (r1.2.1 33)) gf_X9_204 (hm_M f r1.2) rfl dX9_twice_10 ?_
  refine aw_ald_n C dX9_twice_13 rfl ?_
  refine aw_get C (v := .int (r1.2.1 59)) gf_X9_459 (hm_M f r1.2) rfl dX9_twice_14 ?_
  refine aw_icmp_ne C 24 dX9_twice_17 (by decide) (fun q => ?_) (fun q => ?_)
  · rw [if_neg q] at h
    refine aw_iconst C 0 dX9_twice_24 ki_0 ?_
    refine aw_fl [some (.ref 181), none, none] ⟨rfl, trivial⟩ ?_
    exact rmX9_twice_b25 C h
  · rw [if_pos q] at h
    refine aw_iconst C 1 dX9_twice_20 ki_1 ?_
    refine aw_goto C 25 dX9_twice_21 (by decide) ?_
    refine aw_fl [some (.ref 181), none, none] ⟨rfl, trivial⟩ ?_
    exact rmX9_twice_b25 C h
def mX9_kept_b132 (rec66 : Int32 → Int32 → Int32 → Int32 → RS9 → Option (Int32 × RS9)) (v1 : Int32) (v2 : Int32) (v4 : Int32) (s0 : Int32) (σ : RS9) : Option (Int32 × RS9) := rec66 v1 v2 s0 (v4 + (1 : Int32)) σ
set_option maxHeartbeats 1000000 in
theorem rmX9_kept_b132 {X : GX} {p : Program} {l : Launch} {e : Env} {s : State} {m : MethodId} {args : Array Value} {below : List Frame} {meth : Method} {c : Code} {f : AH} {n : Nat} {r : Int32 × RS9} {rec66 : Int32 → Int32 → Int32 → Int32 → RS9 → Option (Int32 × RS9)} {v1 : Int32} {v2 : Int32} {v4 : Int32} {s0 : Int32} {σ : RS9} (C : CC X p l (RM 11 0 0) s m args meth c RX9 cX9_kept 5 (some .boolean)) (Hr66 : ∀ (v1 : Int32) (v2 : Int32) (v3 : Int32) (v4 : Int32) (σ : RS9), rec66 v1 v2 v3 v4 σ = some r → AW X p l e (RM 11 0 0) s m args below meth c 5 (ZM X below args s 0 0 (QMi f n r)) (rHm f σ) n 0 0 66 [some (.ref 181), some (.int v1), some (.int v2), some (.int v3), some (.int v4)] []) (h : mX9_kept_b132 rec66 v1 v2 v4 s0 σ = some r) : AW X p l e (RM 11 0 0) s m args below meth c 5 (ZM X below args s 0 0 (QMi f n r)) (rHm f σ) n 0 0 132 [some (.ref 181), some (.int v1), some (.int v2), none, some (.int v4)] [.int s0] := by
  have h : rec66 v1 v2 s0 (v4 + (1 : Int32)) σ = some r := h
  refine aw_istore_n C dX9_kept_132 (by decide) rfl ?_
  refine aw_nl [some (.ref 181), some (.int v1), some (.int v2), some (.int s0), some (.int v4)] rfl ?_
  refine aw_iinc C (v4 + (1 : Int32)) dX9_kept_133 rfl (by rw [ki_1]) (by decide) rfl ?_
  refine aw_nl [some (.ref 181), some (.int v1), some (.int v2), some (.int s0), some (.int (v4 + (1 : Int32)))] rfl ?_
  refine aw_goto C 66 dX9_kept_136 (by decide) ?_
  refine aw_fl [some (.ref 181), some (.int v1), some (.int v2), some (.int s0), some (.int (v4 + (1 : Int32)))] ⟨rfl, ⟨rfl, ⟨rfl, ⟨rfl, ⟨rfl, trivial⟩⟩⟩⟩⟩ ?_
  exact Hr66 v1 v2 s0 (v4 + (1 : Int32)) σ h
def mX9_kept_b131 (rec66 : Int32 → Int32 → Int32 → Int32 → RS9 → Option (Int32 × RS9)) (v1 : Int32) (v2 : Int32) (v4 : Int32) (σ : RS9) : Option (Int32 × RS9) := mX9_kept_b132 rec66 v1 v2 v4 (0 : Int32) σ
set_option maxHeartbeats 1000000 in
theorem rmX9_kept_b131 {X : GX} {p : Program} {l : Launch} {e : Env} {s : State} {m : MethodId} {args : Array Value} {below : List Frame} {meth : Method} {c : Code} {f : AH} {n : Nat} {r : Int32 × RS9} {rec66 : Int32 → Int32 → Int32 → Int32 → RS9 → Option (Int32 × RS9)} {v1 : Int32} {v2 : Int32} {v4 : Int32} {σ : RS9} (C : CC X p l (RM 11 0 0) s m args meth c RX9 cX9_kept 5 (some .boolean)) (Hr66 : ∀ (v1 : Int32) (v2 : Int32) (v3 : Int32) (v4 : Int32) (σ : RS9), rec66 v1 v2 v3 v4 σ = some r → AW X p l e (RM 11 0 0) s m args below meth c 5 (ZM X below args s 0 0 (QMi f n r)) (rHm f σ) n 0 0 66 [some (.ref 181), some (.int v1), some (.int v2), some (.int v3), some (.int v4)] []) (h : mX9_kept_b131 rec66 v1 v2 v4 σ = some r) : AW X p l e (RM 11 0 0) s m args below meth c 5 (ZM X below args s 0 0 (QMi f n r)) (rHm f σ) n 0 0 131 [some (.ref 181), some (.int v1), some (.int v2), none, some (.int v4)] [] := by
  have h : mX9_kept_b132 rec66 v1 v2 v4 (0 : Int32) σ = some r := h
  refine aw_iconst C 0 dX9_kept_131 ki_0 ?_
  refine aw_fl [some (.ref 181), some (.int v1), some (.int v2), none, some (.int v4)] ⟨rfl, ⟨rfl, ⟨rfl, ⟨rfl, trivial⟩⟩⟩⟩ ?_
  exact rmX9_kept_b132 C Hr66 h
def mX9_kept_b127 (rec66 : Int32 → Int32 → Int32 → Int32 → RS9 → Option (Int32 × RS9)) (v1 : Int32) (v2 : Int32) (v4 : Int32) (σ : RS9) : Option (Int32 × RS9) := mX9_kept_b132 rec66 v1 v2 v4 (1 : Int32) σ
set_option maxHeartbeats 1000000 in
theorem rmX9_kept_b127 {X : GX} {p : Program} {l : Launch} {e : Env} {s : State} {m : MethodId} {args : Array Value} {below : List Frame} {meth : Method} {c : Code} {f : AH} {n : Nat} {r : Int32 × RS9} {rec66 : Int32 → Int32 → Int32 → Int32 → RS9 → Option (Int32 × RS9)} {v1 : Int32} {v2 : Int32} {v4 : Int32} {σ : RS9} (C : CC X p l (RM 11 0 0) s m args meth c RX9 cX9_kept 5 (some .boolean)) (Hr66 : ∀ (v1 : Int32) (v2 : Int32) (v3 : Int32) (v4 : Int32) (σ : RS9), rec66 v1 v2 v3 v4 σ = some r → AW X p l e (RM 11 0 0) s m args below meth c 5 (ZM X below args s 0 0 (QMi f n r)) (rHm f σ) n 0 0 66 [some (.ref 181), some (.int v1), some (.int v2), some (.int v3), some (.int v4)] []) (h : mX9_kept_b127 rec66 v1 v2 v4 σ = some r) : AW X p l e (RM 11 0 0) s m args below meth c 5 (ZM X below args s 0 0 (QMi f n r)) (rHm f σ) n 0 0 127 [some (.ref 181), some (.int v1), some (.int v2), none, some (.int v4)] [] := by
  have h : mX9_kept_b132 rec66 v1 v2 v4 (1 : Int32) σ = some r := h
  refine aw_iconst C 1 dX9_kept_127 ki_1 ?_
  refine aw_goto C 132 dX9_kept_128 (by decide) ?_
  refine aw_fl [some (.ref 181), some (.int v1), some (.int v2), none, some (.int v4)] ⟨rfl, ⟨rfl, ⟨rfl, ⟨rfl, trivial⟩⟩⟩⟩ ?_
  exact rmX9_kept_b132 C Hr66 h
def mX9_kept_b117 (rec66 : Int32 → Int32 → Int32 → Int32 → RS9 → Option (Int32 × RS9)) (v1 : Int32) (v2 : Int32) (v4 : Int32) (σ : RS9) : Option (Int32 × RS9) := ((mX9_isNow v4 v1 σ).bind fun r1 => (if r1.1 = (0 : Int32) then mX9_kept_b131 rec66 v1 v2 v4 r1.2 else mX9_kept_b127 rec66 v1 v2 v4 r1.2))
set_option maxHeartbeats 1000000 in
theorem rmX9_kept_b117 {X : GX} {p : Program} {l : Launch} {e : Env} {s : State} {m : MethodId} {args : Array Value} {below : List Frame} {meth : Method} {c : Code} {f : AH} {n : Nat} {r : Int32 × RS9} {rec66 : Int32 → Int32 → Int32 → Int32 → RS9 → Option (Int32 × RS9)} {v1 : Int32} {v2 : Int32} {v4 : Int32} {σ : RS9} (C : CC X p l (RM 11 0 0) s m args meth c RX9 cX9_kept 5 (some .boolean)) (Hr66 : ∀ (v1 : Int32) (v2 : Int32) (v3 : Int32) (v4 : Int32) (σ : RS9), rec66 v1 v2 v3 v4 σ = some r → AW X p l e (RM 11 0 0) s m args below meth c 5 (ZM X below args s 0 0 (QMi f n r)) (rHm f σ) n 0 0 66 [some (.ref 181), some (.int v1), some (.int v2), some (.int v3), some (.int v4)] []) (h : mX9_kept_b117 rec66 v1 v2 v4 σ = some r) : AW X p l e (RM 11 0 0) s m args below meth c 5 (ZM X below args s 0 0 (QMi f n r)) (rHm f σ) n 0 0 117 [some (.ref 181), some (.int v1), some (.int v2), none, some (.int v4)] [] := by
  have h : ((mX9_isNow v4 v1 σ).bind fun r1 => (if r1.1 = (0 : Int32) then mX9_kept_b131 rec66 v1 v2 v4 r1.2 else mX9_kept_b127 rec66 v1 v2 v4 r1.2)) = some r := h
  refine aw_ald_n C dX9_kept_117 rfl ?_
  refine aw_iload C dX9_kept_118 rfl ?_
  refine aw_iload_n C dX9_kept_120 rfl ?_
  obtain ⟨r1, h1, h⟩ := Option.bind_eq_some_iff.mp h
  refine aw_callV C (ci := 9) (b := 181) [.int v4, .int v1] mv_X9_465 rfl rfl (hm_M f σ) (rmX9_isNow h1) rfl dX9_kept_121 (Nat.le_of_ble_eq_true rfl) (Nat.le_of_ble_eq_true rfl) rfl (Nat.le_of_ble_eq_true rfl) (Nat.le_of_ble_eq_true rfl) (Nat.le_of_ble_eq_true rfl) (fun v9 f9 n9 hh => ?_)
  obtain ⟨rfl, rfl, rfl⟩ := hh
  refine aw_if_eq C 131 dX9_kept_124 (by decide) (fun q => ?_) (fun q => ?_)
  · rw [if_pos q] at h
    refine aw_fl [some (.ref 181), some (.int v1), some (.int v2), none, some (.int v4)] ⟨rfl, ⟨rfl, ⟨rfl, ⟨rfl, trivial⟩⟩⟩⟩ ?_
    exact rmX9_kept_b131 C Hr66 h
  · rw [if_neg q] at h
    refine aw_fl [some (.ref 181), some (.int v1), some (.int v2), none, some (.int v4)] ⟨rfl, ⟨rfl, ⟨rfl, ⟨rfl, trivial⟩⟩⟩⟩ ?_
    exact rmX9_kept_b127 C Hr66 h
def mX9_kept_l66 : Nat → Int32 → Int32 → Int32 → Int32 → RS9 → Option (Int32 × RS9)
  | 0, _, _, _, _, _ => none
  | d + 1, v1, v2, v3, v4, σ => (if (σ.1 33) ≤ v4 then ((mX9_cutsFile σ).bind fun r1 => rCk (rNb v3) (some (v3, r1.2))) else (if v3 = (0 : Int32) then rCk (rIn v4 (rLen 34)) (rCk (rIn v1 (rLen 52)) ((if (rGa σ 34 v4) = (rGa σ 52 v1) then mX9_kept_b117 (fun v1 v2 v3 v4 σ => mX9_kept_l66 d v1 v2 v3 v4 σ) v1 v2 v4 σ else (if v2 = (0 : Int32) then mX9_kept_b131 (fun v1 v2 v3 v4 σ => mX9_kept_l66 d v1 v2 v3 v4 σ) v1 v2 v4 σ else rCk (rIn v4 (rLen 34)) (rCk (rIn v1 (rLen 52)) ((if (rGa σ 34 v4) = ((rGa σ 52 v1) + (1 : Int32)) then mX9_kept_b117 (fun v1 v2 v3 v4 σ => mX9_kept_l66 d v1 v2 v3 v4 σ) v1 v2 v4 σ else mX9_kept_b131 (fun v1 v2 v3 v4 σ => mX9_kept_l66 d v1 v2 v3 v4 σ) v1 v2 v4 σ))))))) else mX9_kept_b127 (fun v1 v2 v3 v4 σ => mX9_kept_l66 d v1 v2 v3 v4 σ) v1 v2 v4 σ))
set_option maxHeartbeats 1000000 in
theorem rmX9_kept_l66 {X : GX} {p : Program} {l : Launch} {e : Env} {s : State} {m : MethodId} {args : Array Value} {below : List Frame} {meth : Method} {c : Code} {f : AH} {n : Nat} {r : Int32 × RS9} (C : CC X p l (RM 11 0 0) s m args meth c RX9 cX9_kept 5 (some .boolean)) : ∀ (d : Nat) (v1 : Int32) (v2 : Int32) (v3 : Int32) (v4 : Int32) (σ : RS9) (_ : mX9_kept_l66 d v1 v2 v3 v4 σ = some r), AW X p l e (RM 11 0 0) s m args below meth c 5 (ZM X below args s 0 0 (QMi f n r)) (rHm f σ) n 0 0 66 [some (.ref 181), some (.int v1), some (.int v2), some (.int v3), some (.int v4)] [] := by
  intro d
  induction d with
  | zero =>
    intro v1 v2 v3 v4 σ h
    exact nomatch (show (none : Option (Int32 × RS9)) = some r from h)
  | succ d ih =>
    intro v1 v2 v3 v4 σ h
    have h : (if (σ.1 33) ≤ v4 then ((mX9_cutsFile σ).bind fun r1 => rCk (rNb v3) (some (v3, r1.2))) else (if v3 = (0 : Int32) then rCk (rIn v4 (rLen 34)) (rCk (rIn v1 (rLen 52)) ((if (rGa σ 34 v4) = (rGa σ 52 v1) then mX9_kept_b117 (fun v1 v2 v3 v4 σ => mX9_kept_l66 d v1 v2 v3 v4 σ) v1 v2 v4 σ else (if v2 = (0 : Int32) then mX9_kept_b131 (fun v1 v2 v3 v4 σ => mX9_kept_l66 d v1 v2 v3 v4 σ) v1 v2 v4 σ else rCk (rIn v4 (rLen 34)) (rCk (rIn v1 (rLen 52)) ((if (rGa σ 34 v4) = ((rGa σ 52 v1) + (1 : Int32)) then mX9_kept_b117 (fun v1 v2 v3 v4 σ => mX9_kept_l66 d v1 v2 v3 v4 σ) v1 v2 v4 σ else mX9_kept_b131 (fun v1 v2 v3 v4 σ => mX9_kept_l66 d v1 v2 v3 v4 σ) v1 v2 v4 σ))))))) else mX9_kept_b127 (fun v1 v2 v3 v4 σ => mX9_kept_l66 d v1 v2 v3 v4 σ) v1 v2 v4 σ)) = some r := h
    refine aw_iload C dX9_kept_66 rfl ?_
    refine aw_ald_n C dX9_kept_68 rfl ?_
    refine aw_get C (v := .int (σ.1 33)) gf_X9_204 (hm_M f σ) rfl dX9_kept_69 ?_
    refine aw_icmp_ge C 139 dX9_kept_72 (by decide) (fun q => ?_) (fun q => ?_)
    · rw [if_pos q] at h
      refine aw_ald_n C dX9_kept_139 rfl ?_
      obtain ⟨r1, h1, h⟩ := Option.bind_eq_some_iff.mp h
      refine aw_callV C (ci := 9) (b := 181) [] mv_X9_244 rfl rfl (hm_M f σ) (rmX9_cutsFile h1) rfl dX9_kept_140 (Nat.le_of_ble_eq_true rfl) (Nat.le_of_ble_eq_true rfl) rfl (Nat.le_of_ble_eq_true rfl) (Nat.le_of_ble_eq_true rfl) (Nat.le_of_ble_eq_true rfl) (fun v9 f9 n9 hh => ?_)
      obtain ⟨rfl, rfl, rfl⟩ := hh
      refine aw_iload_n C dX9_kept_143 rfl ?_
      obtain ⟨hb2, h⟩ := ck_some h
      cases h
      exact aw_iret C rfl (nb_nar hb2) dX9_kept_144 (Nat.le_refl _) (Nat.le_refl _) ⟨rfl, rfl, rfl⟩
    · rw [if_neg q] at h
      refine aw_iload_n C dX9_kept_75 rfl ?_
      refine aw_if_ne C 127 dX9_kept_76 (by decide) (fun q => ?_) (fun q => ?_)
      · rw [if_neg q] at h
        refine aw_fl [some (.ref 181), some (.int v1), some (.int v2), none, some (.int v4)] ⟨rfl, ⟨rfl, ⟨rfl, ⟨rfl, trivial⟩⟩⟩⟩ ?_
        exact rmX9_kept_b127 C (fun v1 v2 v3 v4 σ h => ih v1 v2 v3 v4 σ h) h
      · rw [if_pos q] at h
        refine aw_ald_n C dX9_kept_79 rfl ?_
        refine aw_get C (v := .ref (rAid 34)) gf_X9_81 (hm_M f σ) rfl dX9_kept_80 ?_
        refine aw_iload C dX9_kept_83 rfl ?_
        obtain ⟨hb3, h⟩ := ck_some h
        refine am_iald C (rGa σ 34 v4) rfl (inb_vp hb3) rfl dX9_kept_85 ?_
        refine aw_ald_n C dX9_kept_86 rfl ?_
        refine aw_get C (v := .ref (rAid 52)) gf_X9_129 (hm_M f σ) rfl dX9_kept_87 ?_
        refine aw_iload_n C dX9_kept_90 rfl ?_
        obtain ⟨hb4, h⟩ := ck_some h
        refine am_iald C (rGa σ 52 v1) rfl (inb_vp hb4) rfl dX9_kept_91 ?_
        refine aw_icmp_eq C 117 dX9_kept_92 (by decide) (fun q => ?_) (fun q => ?_)
        · rw [if_pos q] at h
          refine aw_fl [some (.ref 181), some (.int v1), some (.int v2), none, some (.int v4)] ⟨rfl, ⟨rfl, ⟨rfl, ⟨rfl, trivial⟩⟩⟩⟩ ?_
          exact rmX9_kept_b117 C (fun v1 v2 v3 v4 σ h => ih v1 v2 v3 v4 σ h) h
        · rw [if_neg q] at h
          refine aw_iload_n C dX9_kept_95 rfl ?_
          refine aw_if_eq C 131 dX9_kept_96 (by decide) (fun q => ?_) (fun q => ?_)
          · rw [if_pos q] at h
            refine aw_fl [some (.ref 181), some (.int v1), some (.int v2), none, some (.int v4)] ⟨rfl, ⟨rfl, ⟨rfl, ⟨rfl, trivial⟩⟩⟩⟩ ?_
            exact rmX9_kept_b131 C (fun v1 v2 v3 v4 σ h => ih v1 v2 v3 v4 σ h) h
          · rw [if_neg q] at h
            refine aw_ald_n C dX9_kept_99 rfl ?_
            refine aw_get C (v := .ref (rAid 34)) gf_X9_81 (hm_M f σ) rfl dX9_kept_100 ?_
            refine aw_iload C dX9_kept_103 rfl ?_
            obtain ⟨hb5, h⟩ := ck_some h
            refine am_iald C (rGa σ 34 v4) rfl (inb_vp hb5) rfl dX9_kept_105 ?_
            refine aw_ald_n C dX9_kept_106 rfl ?_
            refine aw_get C (v := .ref (rAid 52)) gf_X9_129 (hm_M f σ) rfl dX9_kept_107 ?_
            refine aw_iload_n C dX9_kept_110 rfl ?_
            obtain ⟨hb6, h⟩ := ck_some h
            refine am_iald C (rGa σ 52 v1) rfl (inb_vp hb6) rfl dX9_kept_111 ?_
            refine aw_iconst C 1 dX9_kept_112 ki_1 ?_
            refine aw_iadd C dX9_kept_113 ?_
            refine aw_icmp_ne C 131 dX9_kept_114 (by decide) (fun q => ?_) (fun q => ?_)
            · rw [if_neg q] at h
              refine aw_fl [some (.ref 181), some (.int v1), some (.int v2), none, some (.int v4)] ⟨rfl, ⟨rfl, ⟨rfl, ⟨rfl, trivial⟩⟩⟩⟩ ?_
              exact rmX9_kept_b131 C (fun v1 v2 v3 v4 σ h => ih v1 v2 v3 v4 σ h) h
            · rw [if_pos q] at h
              refine aw_fl [some (.ref 181), some (.int v1), some (.int v2), none, some (.int v4)] ⟨rfl, ⟨rfl, ⟨rfl, ⟨rfl, trivial⟩⟩⟩⟩ ?_
              exact rmX9_kept_b117 C (fun v1 v2 v3 v4 σ h => ih v1 v2 v3 v4 σ h) h
def mX9_kept_b60 (v1 : Int32) (s0 : Int32) (σ : RS9) : Option (Int32 × RS9) := mX9_kept_l66 rFU v1 s0 (0 : Int32) (0 : Int32) σ
set_option maxHeartbeats 1000000 in
theorem rmX9_kept_b60 {X : GX} {p : Program} {l : Launch} {e : Env} {s : State} {m : MethodId} {args : Array Value} {below : List Frame} {meth : Method} {c : Code} {f : AH} {n : Nat} {r : Int32 × RS9} {v1 : Int32} {s0 : Int32} {σ : RS9} (C : CC X p l (RM 11 0 0) s m args meth c RX9 cX9_kept 5 (some .boolean)) (h : mX9_kept_b60 v1 s0 σ = some r) : AW X p l e (RM 11 0 0) s m args below meth c 5 (ZM X below args s 0 0 (QMi f n r)) (rHm f σ) n 0 0 60 [some (.ref 181), some (.int v1), none, none, none] [.int s0] := by
  have h : mX9_kept_l66 rFU v1 s0 (0 : Int32) (0 : Int32) σ = some r := h
  refine aw_istore_n C dX9_kept_60 (by decide) rfl ?_
  refine aw_nl [some (.ref 181), some (.int v1), some (.int s0), none, none] rfl ?_
  refine aw_iconst C 0 dX9_kept_61 ki_0 ?_
  refine aw_istore_n C dX9_kept_62 (by decide) rfl ?_
  refine aw_nl [some (.ref 181), some (.int v1), some (.int s0), some (.int (0 : Int32)), none] rfl ?_
  refine aw_iconst C 0 dX9_kept_63 ki_0 ?_
  refine aw_istore C dX9_kept_64 (by decide) rfl ?_
  refine aw_nl [some (.ref 181), some (.int v1), some (.int s0), some (.int (0 : Int32)), some (.int (0 : Int32))] rfl ?_
  refine aw_fl [some (.ref 181), some (.int v1), some (.int s0), some (.int (0 : Int32)), some (.int (0 : Int32))] ⟨rfl, ⟨rfl, ⟨rfl, ⟨rfl, ⟨rfl, trivial⟩⟩⟩⟩⟩ ?_
  exact rmX9_kept_l66 C rFU v1 s0 (0 : Int32) (0 : Int32) σ h
def mX9_kept_b59 (v1 : Int32) (σ : RS9) : Option (Int32 × RS9) := mX9_kept_b60 v1 (0 : Int32) σ
set_option maxHeartbeats 1000000 in
theorem rmX9_kept_b59 {X : GX} {p : Program} {l : Launch} {e : Env} {s : State} {m : MethodId} {args : Array Value} {below : List Frame} {meth : Method} {c : Code} {f : AH} {n : Nat} {r : Int32 × RS9} {v1 : Int32} {σ : RS9} (C : CC X p l (RM 11 0 0) s m args meth c RX9 cX9_kept 5 (some .boolean)) (h : mX9_kept_b59 v1 σ = some r) : AW X p l e (RM 11 0 0) s m args below meth c 5 (ZM X below args s 0 0 (QMi f n r)) (rHm f σ) n 0 0 59 [some (.ref 181), some (.int v1), none, none, none] [] := by
  have h : mX9_kept_b60 v1 (0 : Int32) σ = some r := h
  refine aw_iconst C 0 dX9_kept_59 ki_0 ?_
  refine aw_fl [some (.ref 181), some (.int v1), none, none, none] ⟨rfl, ⟨rfl, trivial⟩⟩ ?_
  exact rmX9_kept_b60 C h
def mX9_kept_b14 (v1 : Int32) (s1 : Int32) (σ : RS9) : Option (Int32 × RS9) := (if s1 ≤ (0 : Int32) then ((mX9_cutsBuilt (rSf σ 0 s1)).bind fun r1 => ((mX9_toldOf v1 r1.2).bind fun r2 => (if r2.1 = (-1 : Int32) then mX9_kept_b59 v1 r2.2 else rCk (rIn v1 (rLen 52)) (rCk (rIn (rGa r2.2 52 v1) (rLen 49)) ((if (rGa r2.2 49 (rGa r2.2 52 v1)) = (34 : Int32) then mX9_kept_b60 v1 (1 : Int32) r2.2 else mX9_kept_b59 v1 r2.2)))))) else rCk (rNb (0 : Int32)) (some ((0 : Int32), (rSf σ 0 s1))))
set_option maxHeartbeats 1000000 in
theorem rmX9_kept_b14 {X : GX} {p : Program} {l : Launch} {e : Env} {s : State} {m : MethodId} {args : Array Value} {below : List Frame} {meth : Method} {c : Code} {f : AH} {n : Nat} {r : Int32 × RS9} {v1 : Int32} {s1 : Int32} {σ : RS9} (C : CC X p l (RM 11 0 0) s m args meth c RX9 cX9_kept 5 (some .boolean)) (h : mX9_kept_b14 v1 s1 σ = some r) : AW X p l e (RM 11 0 0) s m args below meth c 5 (ZM X below args s 0 0 (QMi f n r)) (rHm f σ) n 0 0 14 [some (.ref 181), some (.int v1), none, none, none] [.int s1, .ref 181] := by
  have h : (if s1 ≤ (0 : Int32) then ((mX9_cutsBuilt (rSf σ 0 s1)).bind fun r1 => ((mX9_toldOf v1 r1.2).bind fun r2 => (if r2.1 = (-1 : Int32) then mX9_kept_b59 v1 r2.2 else rCk (rIn v1 (rLen 52)) (rCk (rIn (rGa r2.2 52 v1) (rLen 49)) ((if (rGa r2.2 49 (rGa r2.2 52 v1)) = (34 : Int32) then mX9_kept_b60 v1 (1 : Int32) r2.2 else mX9_kept_b59 v1 r2.2)))))) else rCk (rNb (0 : Int32)) (some ((0 : Int32), (rSf σ 0 s1)))) = some r := h
  refine am_put C gf_X9_138 nf9_0 rfl rfl dX9_kept_14 ?_
  refine aw_ald_n C dX9_kept_17 rfl ?_
  refine aw_get C (v := .int s1) gf_X9_138 (hm_M f (rSf σ 0 s1)) rfl dX9_kept_18 ?_
  refine aw_if_le C 26 dX9_kept_21 (by decide) (fun q => ?_) (fun q => ?_)
  · rw [if_pos q] at h
    refine aw_ald_n C dX9_kept_26 rfl ?_
    obtain ⟨r1, h1, h⟩ := Option.bind_eq_some_iff.mp h
    refine aw_callV C (ci := 9) (b := 181) [] mv_X9_462 rfl rfl (hm_M f (rSf σ 0 s1)) (rmX9_cutsBuilt h1) rfl dX9_kept_27 (Nat.le_of_ble_eq_true rfl) (Nat.le_of_ble_eq_true rfl) rfl (Nat.le_of_ble_eq_true rfl) (Nat.le_of_ble_eq_true rfl) (Nat.le_of_ble_eq_true rfl) (fun v9 f9 n9 hh => ?_)
    obtain ⟨rfl, rfl, rfl⟩ := hh
    refine aw_ald_n C dX9_kept_30 rfl ?_
    refine aw_iload_n C dX9_kept_31 rfl ?_
    obtain ⟨r2, h2, h⟩ := Option.bind_eq_some_iff.mp h
    refine aw_callV C (ci := 9) (b := 181) [.int v1] mv_X9_247 rfl rfl (hm_M f r1.2) (rmX9_toldOf h2) rfl dX9_kept_32 (Nat.le_of_ble_eq_true rfl) (Nat.le_of_ble_eq_true rfl) rfl (Nat.le_of_ble_eq_true rfl) (Nat.le_of_ble_eq_true rfl) (Nat.le_of_ble_eq_true rfl) (fun v9 f9 n9 hh => ?_)
    obtain ⟨rfl, rfl, rfl⟩ := hh
    refine aw_iconst C (-1) dX9_kept_35 ki_m1 ?_
    refine aw_icmp_eq C 59 dX9_kept_36 (by decide) (fun q => ?_) (fun q => ?_)
    · rw [if_pos q] at h
      refine aw_fl [some (.ref 181), some (.int v1), none, none, none] ⟨rfl, ⟨rfl, trivial⟩⟩ ?_
      exact rmX9_kept_b59 C h
    · rw [if_neg q] at h
      refine aw_ald_n C dX9_kept_39 rfl ?_
      refine aw_get C (v := .ref (rAid 49)) gf_X9_120 (hm_M f r2.2) rfl dX9_kept_40 ?_
      refine aw_ald_n C dX9_kept_43 rfl ?_
      refine aw_get C (v := .ref (rAid 52)) gf_X9_129 (hm_M f r2.2) rfl dX9_kept_44 ?_
      refine aw_iload_n C dX9_kept_47 rfl ?_
      obtain ⟨hb3, h⟩ := ck_some h
      refine am_iald C (rGa r2.2 52 v1) rfl (inb_vp hb3) rfl dX9_kept_48 ?_
      obtain ⟨hb4, h⟩ := ck_some h
      refine am_iald C (rGa r2.2 49 (rGa r2.2 52 v1)) rfl (inb_vp hb4) rfl dX9_kept_49 ?_
      refine aw_bipush C 34 dX9_kept_50 kb_34 ?_
      refine aw_icmp_ne C 59 dX9_kept_52 (by decide) (fun q => ?_) (fun q => ?_)
      · rw [if_neg q] at h
        refine aw_fl [some (.ref 181), some (.int v1), none, none, none] ⟨rfl, ⟨rfl, trivial⟩⟩ ?_
        exact rmX9_kept_b59 C h
      · rw [if_pos q] at h
        refine aw_iconst C 1 dX9_kept_55 ki_1 ?_
        refine aw_goto C 60 dX9_kept_56 (by decide) ?_
        refine aw_fl [some (.ref 181), some (.int v1), none, none, none] ⟨rfl, ⟨rfl, trivial⟩⟩ ?_
        exact rmX9_kept_b60 C h
  · rw [if_neg q] at h
    refine aw_iconst C 0 dX9_kept_24 ki_0 ?_
    obtain ⟨hb5, h⟩ := ck_some h
    cases h
    exact aw_iret C rfl (nb_nar hb5) dX9_kept_25 (Nat.le_refl _) (Nat.le_refl _) ⟨rfl, rfl, rfl⟩
def mX9_kept (v1 : Int32) (σ : RS9) : Option (Int32 × RS9) := ((mX9_isPieceThere v1 σ).bind fun r1 => (if r1.1 = (0 : Int32) then mX9_kept_b14 v1 (1 : Int32) r1.2 else mX9_kept_b14 v1 (0 : Int32) r1.2))
set_option maxHeartbeats 1000000 in
theorem rmX9_kept {X : GX} {l : Launch} {f : AH} {n : Nat} {r : Int32 × RS9} {v1 : Int32} {σ : RS9} (h : mX9_kept v1 σ = some r) : AM X l yX9_kept cX9_kept 5 (some .boolean) 11 0 0 [.ref 181, .int v1] (rHm f σ) n (QMi f n r) := by
  have h : ((mX9_isPieceThere v1 σ).bind fun r1 => (if r1.1 = (0 : Int32) then mX9_kept_b14 v1 (1 : Int32) r1.2 else mX9_kept_b14 v1 (0 : Int32) r1.2)) = some r := h
  refine AM.of (by decide +kernel) rfl (Nat.le_of_ble_eq_true rfl) (fun p e s m args below meth c C _ => ?_)
  refine aw_nl [some (.ref 181), some (.int v1), none, none, none] rfl ?_
  refine aw_ald_n C dX9_kept_0 rfl ?_
  refine aw_ald_n C dX9_kept_1 rfl ?_
  refine aw_iload_n C dX9_kept_2 rfl ?_
  obtain ⟨r1, h1, h⟩ := Option.bind_eq_some_iff.mp h
  refine aw_callV C (ci := 9) (b := 181) [.int v1] mv_X9_293 rfl rfl (hm_M f σ) (rmX9_isPieceThere h1) rfl dX9_kept_3 (Nat.le_of_ble_eq_true rfl) (Nat.le_of_ble_eq_true rfl) rfl (Nat.le_of_ble_eq_true rfl) (Nat.le_of_ble_eq_true rfl) (Nat.le_of_ble_eq_true rfl) (fun v9 f9 n9 hh => ?_)
  obtain ⟨rfl, rfl, rfl⟩ := hh
  refine aw_if_eq C 13 dX9_kept_6 (by decide) (fun q => ?_) (fun q => ?_)
  · rw [if_pos q] at h
    refine aw_iconst C 1 dX9_kept_13 ki_1 ?_
    refine aw_fl [some (.ref 181), some (.int v1), none, none, none] ⟨rfl, ⟨rfl, trivial⟩⟩ ?_
    exact rmX9_kept_b14 C h
  · rw [if_neg q] at h
    refine aw_iconst C 0 dX9_kept_9 ki_0 ?_
    refine aw_goto C 14 dX9_kept_10 (by decide) ?_
    refine aw_fl [some (.ref 181), some (.int v1), none, none, none] ⟨rfl, ⟨rfl, trivial⟩⟩ ?_
    exact rmX9_kept_b14 C h
