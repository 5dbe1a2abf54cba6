def mX9_file_l19 : Nat → Int32 → Int32 → RS9 → Option (Int32 × RS9)
  | 0, _, _, _ => none
  | d + 1, v1, v2, σ => (if v1 ≤ v2 then ((mX9_cutsAnew σ).bind fun r1 => some ((r1.2.1 33), (rSf r1.2 5 (0 : Int32)))) else rCk (rIn v2 (rLen 8)) (rCk (rIn ((43 : Int32) + v2) (rLen 1)) (mX9_file_l19 d v1 (v2 + (1 : Int32)) (rSa σ 1 ((43 : Int32) + v2) (rGa σ 8 v2)))))
set_option maxHeartbeats 1000000 in
theorem rmX9_file_l19 {X : GX} {p : Program} {l : Launch} {e : Env} {s : State} {m : MethodId} {args : Array Value} {below : List Frame} {meth : Method} {c : Code} {f : AH} {n : Nat} {r : Int32 × RS9} (C : CC X p l (RM 10 0 0) s m args meth c RX9 cX9_file 3 (some .int)) : ∀ (d : Nat) (v1 : Int32) (v2 : Int32) (σ : RS9) (_ : mX9_file_l19 d v1 v2 σ = some r), AW X p l e (RM 10 0 0) s m args below meth c 3 (ZM X below args s 0 0 (QMi f n r)) (rHm f σ) n 0 0 19 [some (.ref 181), some (.int v1), some (.int v2)] [] := by
  intro d
  induction d with
  | zero =>
    intro v1 v2 σ h
    exact nomatch (show (none : Option (Int32 × RS9)) = some r from h)
  | succ d ih =>
    intro v1 v2 σ h
    have h : (if v1 ≤ v2 then ((mX9_cutsAnew σ).bind fun r1 => some ((r1.2.1 33), (rSf r1.2 5 (0 : Int32)))) else rCk (rIn v2 (rLen 8)) (rCk (rIn ((43 : Int32) + v2) (rLen 1)) (mX9_file_l19 d v1 (v2 + (1 : Int32)) (rSa σ 1 ((43 : Int32) + v2) (rGa σ 8 v2))))) = some r := h
    refine aw_iload_n C dX9_file_19 rfl ?_
    refine aw_iload_n C dX9_file_20 rfl ?_
    refine aw_icmp_ge C 45 dX9_file_21 (by decide) (fun q => ?_) (fun q => ?_)
    · rw [if_pos q] at h
      refine aw_ald_n C dX9_file_45 rfl ?_
      obtain ⟨r1, h1, h⟩ := Option.bind_eq_some_iff.mp h
      refine aw_callV C (ci := 9) (b := 181) [] mv_X9_322 rfl rfl (hm_M f σ) (rmX9_cutsAnew h1) rfl dX9_file_46 (Nat.le_of_ble_eq_true rfl) (Nat.le_of_ble_eq_true rfl) rfl (Nat.le_of_ble_eq_true rfl) (Nat.le_of_ble_eq_true rfl) (Nat.le_of_ble_eq_true rfl) (fun v9 f9 n9 hh => ?_)
      obtain ⟨rfl, rfl, rfl⟩ := hh
      refine aw_ald_n C dX9_file_49 rfl ?_
      refine aw_iconst C 0 dX9_file_50 ki_0 ?_
      refine am_put C gf_X9_325 nf9_5 rfl rfl dX9_file_51 ?_
      refine aw_ald_n C dX9_file_54 rfl ?_
      refine aw_get C (v := .int (r1.2.1 33)) gf_X9_204 (hm_M f (rSf r1.2 5 (0 : Int32))) rfl dX9_file_55 ?_
      cases h
      exact aw_iret C rfl rfl dX9_file_58 (Nat.le_refl _) (Nat.le_refl _) ⟨rfl, rfl, rfl⟩
    · rw [if_neg q] at h
      refine aw_ald_n C dX9_file_24 rfl ?_
      refine aw_get C (v := .ref (rAid 1)) gf_X9_7 (hm_M f σ) rfl dX9_file_25 ?_
      refine aw_bipush C 43 dX9_file_28 kb_43 ?_
      refine aw_iload_n C dX9_file_30 rfl ?_
      refine aw_iadd C dX9_file_31 ?_
      refine aw_ald_n C dX9_file_32 rfl ?_
      refine aw_get C (v := .ref (rAid 8)) gf_X9_23 (hm_M f σ) rfl dX9_file_33 ?_
      refine aw_iload_n C dX9_file_36 rfl ?_
      obtain ⟨hb2, h⟩ := ck_some h
      refine am_iald C (rGa σ 8 v2) rfl (inb_vp hb2) rfl dX9_file_37 ?_
      obtain ⟨hb3, h⟩ := ck_some h
      refine am_iast C rfl (inb_vp hb3) dX9_file_38 ?_
      refine aw_iinc C (v2 + (1 : Int32)) dX9_file_39 rfl (by rw [ki_1]) (by decide) rfl ?_
      refine aw_nl [some (.ref 181), some (.int v1), some (.int (v2 + (1 : Int32)))] rfl ?_
      refine aw_goto C 19 dX9_file_42 (by decide) ?_
      refine aw_fl [some (.ref 181), some (.int v1), some (.int (v2 + (1 : Int32)))] ⟨rfl, ⟨rfl, ⟨rfl, trivial⟩⟩⟩ ?_
      exact ih v1 (v2 + (1 : Int32)) (rSa σ 1 ((43 : Int32) + v2) (rGa σ 8 v2)) h
def mX9_file (σ : RS9) : Option (Int32 × RS9) := ((mX9_took (rSf σ 0 (0 : Int32))).bind fun r1 => rCk (rIn (0 : Int32) (rLen 1)) (mX9_file_l19 rFU r1.1 (0 : Int32) (rSa r1.2 1 (0 : Int32) r1.1)))
set_option maxHeartbeats 1000000 in
theorem rmX9_file {X : GX} {l : Launch} {f : AH} {n : Nat} {r : Int32 × RS9} {σ : RS9} (h : mX9_file σ = some r) : AM X l yX9_file cX9_file 3 (some .int) 10 0 0 [.ref 181] (rHm f σ) n (QMi f n r) := by
  have h : ((mX9_took (rSf σ 0 (0 : Int32))).bind fun r1 => rCk (rIn (0 : Int32) (rLen 1)) (mX9_file_l19 rFU r1.1 (0 : Int32) (rSa r1.2 1 (0 : Int32) r1.1))) = some r := h
  refine AM.of (by decide +kernel) rfl (Nat.le_of_ble_eq_true rfl) (fun p e s m args below meth c C _ => ?_)
  refine aw_nl [some (.ref 181), none, none] rfl ?_
  refine aw_ald_n C dX9_file_0 rfl ?_
  refine aw_iconst C 0 dX9_file_1 ki_0 ?_
  refine am_put C gf_X9_138 nf9_0 rfl rfl dX9_file_2 ?_
  refine aw_ald_n C dX9_file_5 rfl ?_
  obtain ⟨r1, h1, h⟩ := Option.bind_eq_some_iff.mp h
  refine aw_callV C (ci := 9) (b := 181) [] mv_X9_426 rfl rfl (hm_M f (rSf σ 0 (0 : Int32))) (rmX9_took h1) rfl dX9_file_6 (Nat.le_of_ble_eq_true rfl) (Nat.le_of_ble_eq_true rfl) rfl (Nat.le_of_ble_eq_true rfl) (Nat.le_of_ble_eq_true rfl) (Nat.le_of_ble_eq_true rfl) (fun v9 f9 n9 hh => ?_)
  obtain ⟨rfl, rfl, rfl⟩ := hh
  refine aw_istore_n C dX9_file_9 (by decide) rfl ?_
  refine aw_nl [some (.ref 181), some (.int r1.1), none] rfl ?_
  refine aw_ald_n C dX9_file_10 rfl ?_
  refine aw_get C (v := .ref (rAid 1)) gf_X9_7 (hm_M f r1.2) rfl dX9_file_11 ?_
  refine aw_iconst C 0 dX9_file_14 ki_0 ?_
  refine aw_iload_n C dX9_file_15 rfl ?_
  obtain ⟨hb2, h⟩ := ck_some h
  refine am_iast C rfl (inb_vp hb2) dX9_file_16 ?_
  refine aw_iconst C 0 dX9_file_17 ki_0 ?_
  refine aw_istore_n C dX9_file_18 (by decide) rfl ?_
  refine aw_nl [some (.ref 181), some (.int r1.1), some (.int (0 : Int32))] rfl ?_
  refine aw_fl [some (.ref 181), some (.int r1.1), some (.int (0 : Int32))] ⟨rfl, ⟨rfl, ⟨rfl, trivial⟩⟩⟩ ?_
  exact rmX9_file_l19 C rFU r1.1 (0 : Int32) (rSa r1.2 1 (0 : Int32) r1.1) h
def mX9_isDone_b42 (s0 : Int32) (σ : RS9) : Option (Int32 × RS9) := rCk (rNb s0) (some (s0, σ))
set_option maxHeartbeats 1000000 in
theorem rmX9_isDone_b42 {X : GX} {p : Program} {l : Launch} {e : Env} {s : State} {m : MethodId} {args : Array Value} {below : List Frame} {meth : Method} {c : Code} {f : AH} {n : Nat} {r : Int32 × RS9} {s0 : Int32} {σ : RS9} (C : CC X p l (RM 10 0 0) s m args meth c RX9 cX9_isDone 3 (some .boolean)) (h : mX9_isDone_b42 s0 σ = some r) : AW X p l e (RM 10 0 0) s m args below meth c 3 (ZM X below args s 0 0 (QMi f n r)) (rHm f σ) n 0 0 42 [none, none, none] [.int s0] := by
  have h : rCk (rNb s0) (some (s0, σ)) = some r := h
  obtain ⟨hb1, h⟩ := ck_some h
  cases h
  exact aw_iret C rfl (nb_nar hb1) dX9_isDone_42 (Nat.le_refl _) (Nat.le_refl _) ⟨rfl, rfl, rfl⟩
def mX9_isDone_b33 (v1 : Int32) (σ : RS9) : Option (Int32 × RS9) := (if v1 = (0 : Int32) then mX9_isDone_b42 (1 : Int32) σ else mX9_isDone_b42 (0 : Int32) σ)
set_option maxHeartbeats 1000000 in
theorem rmX9_isDone_b33 {X : GX} {p : Program} {l : Launch} {e : Env} {s : State} {m : MethodId} {args : Array Value} {below : List Frame} {meth : Method} {c : Code} {f : AH} {n : Nat} {r : Int32 × RS9} {v1 : Int32} {σ : RS9} (C : CC X p l (RM 10 0 0) s m args meth c RX9 cX9_isDone 3 (some .boolean)) (h : mX9_isDone_b33 v1 σ = some r) : AW X p l e (RM 10 0 0) s m args below meth c 3 (ZM X below args s 0 0 (QMi f n r)) (rHm f σ) n 0 0 33 [none, some (.int v1), none] [] := by
  have h : (if v1 = (0 : Int32) then mX9_isDone_b42 (1 : Int32) σ else mX9_isDone_b42 (0 : Int32) σ) = some r := h
  refine aw_iload_n C dX9_isDone_33 rfl ?_
  refine aw_if_ne C 41 dX9_isDone_34 (by decide) (fun q => ?_) (fun q => ?_)
  · rw [if_neg q] at h
    refine aw_iconst C 0 dX9_isDone_41 ki_0 ?_
    refine aw_fl [none, none, none] trivial ?_
    exact rmX9_isDone_b42 C h
  · rw [if_pos q] at h
    refine aw_iconst C 1 dX9_isDone_37 ki_1 ?_
    refine aw_goto C 42 dX9_isDone_38 (by decide) ?_
    refine aw_fl [none, none, none] trivial ?_
    exact rmX9_isDone_b42 C h
def mX9_isDone_b15 (v1 : Int32) (s1 : Int32) (σ : RS9) : Option (Int32 × RS9) := (if v1 = (0 : Int32) then ((mX9_remembers (rSf σ 0 s1)).bind fun r2 => mX9_isDone_b33 v1 r2.2) else ((mX9_putsBack (rSf σ 0 s1)).bind fun r1 => mX9_isDone_b33 v1 r1.2))
set_option maxHeartbeats 1000000 in
theorem rmX9_isDone_b15 {X : GX} {p : Program} {l : Launch} {e : Env} {s : State} {m : MethodId} {args : Array Value} {below : List Frame} {meth : Method} {c : Code} {f : AH} {n : Nat} {r : Int32 × RS9} {v1 : Int32} {s1 : Int32} {σ : RS9} (C : CC X p l (RM 10 0 0) s m args meth c RX9 cX9_isDone 3 (some .boolean)) (h : mX9_isDone_b15 v1 s1 σ = some r) : AW X p l e (RM 10 0 0) s m args below meth c 3 (ZM X below args s 0 0 (QMi f n r)) (rHm f σ) n 0 0 15 [some (.ref 181), some (.int v1), none] [.int s1, .ref 181] := by
  have h : (if v1 = (0 : Int32) then ((mX9_remembers (rSf σ 0 s1)).bind fun r2 => mX9_isDone_b33 v1 r2.2) else ((mX9_putsBack (rSf σ 0 s1)).bind fun r1 => mX9_isDone_b33 v1 r1.2)) = some r := h
  refine am_put C gf_X9_138 nf9_0 rfl rfl dX9_isDone_15 ?_
  refine aw_iload_n C dX9_isDone_18 rfl ?_
  refine aw_if_ne C 29 dX9_isDone_19 (by decide) (fun q => ?_) (fun q => ?_)
  · rw [if_neg q] at h
    refine aw_ald_n C dX9_isDone_29 rfl ?_
    obtain ⟨r1, h1, h⟩ := Option.bind_eq_some_iff.mp h
    refine aw_callV C (ci := 9) (b := 181) [] mv_X9_334 rfl rfl (hm_M f (rSf σ 0 s1)) (rmX9_putsBack h1) rfl dX9_isDone_30 (Nat.le_of_ble_eq_true rfl) (Nat.le_of_ble_eq_true rfl) rfl (Nat.le_of_ble_eq_true rfl) (Nat.le_of_ble_eq_true rfl) (Nat.le_of_ble_eq_true rfl) (fun v9 f9 n9 hh => ?_)
    obtain ⟨rfl, rfl, rfl⟩ := hh
    refine aw_fl [none, some (.int v1), none] ⟨rfl, trivial⟩ ?_
    exact rmX9_isDone_b33 C h
  · rw [if_pos q] at h
    refine aw_ald_n C dX9_isDone_22 rfl ?_
    obtain ⟨r2, h2, h⟩ := Option.bind_eq_some_iff.mp h
    refine aw_callV C (ci := 9) (b := 181) [] mv_X9_331 rfl rfl (hm_M f (rSf σ 0 s1)) (rmX9_remembers h2) rfl dX9_isDone_23 (Nat.le_of_ble_eq_true rfl) (Nat.le_of_ble_eq_true rfl) rfl (Nat.le_of_ble_eq_true rfl) (Nat.le_of_ble_eq_true rfl) (Nat.le_of_ble_eq_true rfl) (fun v9 f9 n9 hh => ?_)
    obtain ⟨rfl, rfl, rfl⟩ := hh
    refine aw_goto C 33 dX9_isDone_26 (by decide) ?_
    refine aw_fl [none, some (.int v1), none] ⟨rfl, trivial⟩ ?_
    exact rmX9_isDone_b33 C h
def mX9_isDone (v1 : Int32) (v2 : Int32) (σ : RS9) : Option (Int32 × RS9) := (if v1 ≤ (0 : Int32) then mX9_isDone_b15 v1 (0 : Int32) (rSf σ 7 v1) else mX9_isDone_b15 v1 v2 (rSf σ 7 v1))
set_option maxHeartbeats 1000000 in
theorem rmX9_isDone {X : GX} {l : Launch} {f : AH} {n : Nat} {r : Int32 × RS9} {v1 : Int32} {v2 : Int32} {σ : RS9} (h : mX9_isDone v1 v2 σ = some r) : AM X l yX9_isDone cX9_isDone 3 (some .boolean) 10 0 0 [.ref 181, .int v1, .int v2] (rHm f σ) n (QMi f n r) := by
  have h : (if v1 ≤ (0 : Int32) then mX9_isDone_b15 v1 (0 : Int32) (rSf σ 7 v1) else mX9_isDone_b15 v1 v2 (rSf σ 7 v1)) = some r := h
  refine AM.of (by decide +kernel) rfl (Nat.le_of_ble_eq_true rfl) (fun p e s m args below meth c C _ => ?_)
  refine aw_nl [some (.ref 181), some (.int v1), some (.int v2)] rfl ?_
  refine aw_ald_n C dX9_isDone_0 rfl ?_
  refine aw_iload_n C dX9_isDone_1 rfl ?_
  refine am_put C gf_X9_328 nf9_7 rfl rfl dX9_isDone_2 ?_
  refine aw_ald_n C dX9_isDone_5 rfl ?_
  refine aw_iload_n C dX9_isDone_6 rfl ?_
  refine aw_if_le C 14 dX9_isDone_7 (by decide) (fun q => ?_) (fun q => ?_)
  · rw [if_pos q] at h
    refine aw_iconst C 0 dX9_isDone_14 ki_0 ?_
    refine aw_fl [some (.ref 181), some (.int v1), none] ⟨rfl, ⟨rfl, trivial⟩⟩ ?_
    exact rmX9_isDone_b15 C h
  · rw [if_neg q] at h
    refine aw_iload_n C dX9_isDone_10 rfl ?_
    refine aw_goto C 15 dX9_isDone_11 (by decide) ?_
    refine aw_fl [some (.ref 181), some (.int v1), none] ⟨rfl, ⟨rfl, trivial⟩⟩ ?_
    exact rmX9_isDone_b15 C h
def mX9_kind_b69 (s0 : Int32) (σ : RS9) : Option (Int32 × RS9) := some (s0, σ)
set_option maxHeartbeats 1000000 in
theorem rmX9_kind_b69 {X : GX} {p : Program} {l : Launch} {e : Env} {s : State} {m : MethodId} {args : Array Value} {below : List Frame} {meth : Method} {c : Code} {f : AH} {n : Nat} {r : Int32 × RS9} {s0 : Int32} {σ : RS9} (C : CC X p l (RM 11 0 0) s m args meth c RX9 cX9_kind 3 (some .int)) (h : mX9_kind_b69 s0 σ = some r) : AW X p l e (RM 11 0 0) s m args below meth c 3 (ZM X below args s 0 0 (QMi f n r)) (rHm f σ) n 0 0 69 [none, none, none] [.int s0] := by
  have h : some (s0, σ) = some r := h
  cases h
  exact aw_iret C rfl rfl dX9_kind_69 (Nat.le_refl _) (Nat.le_refl _) ⟨rfl, rfl, rfl⟩
def mX9_kind_b50 (v1 : Int32) (s2 : Int32) (σ : RS9) : Option (Int32 × RS9) := ((mX9_rules s2 v1 σ).bind fun r1 => ((mX9_isDone r1.1 (0 : Int32) r1.2).bind fun r2 => (if r2.1 = (0 : Int32) then mX9_kind_b69 (0 : Int32) r2.2 else mX9_kind_b69 (r2.2.1 33) r2.2)))
set_option maxHeartbeats 1000000 in
theorem rmX9_kind_b50 {X : GX} {p : Program} {l : Launch} {e : Env} {s : State} {m : MethodId} {args : Array Value} {below : List Frame} {meth : Method} {c : Code} {f : AH} {n : Nat} {r : Int32 × RS9} {v1 : Int32} {s2 : Int32} {σ : RS9} (C : CC X p l (RM 11 0 0) s m args meth c RX9 cX9_kind 3 (some .int)) (h : mX9_kind_b50 v1 s2 σ = some r) : AW X p l e (RM 11 0 0) s m args below meth c 3 (ZM X below args s 0 0 (QMi f n r)) (rHm f σ) n 0 0 50 [some (.ref 181), some (.int v1), none] [.int s2, .ref 181, .ref 181] := by
  have h : ((mX9_rules s2 v1 σ).bind fun r1 => ((mX9_isDone r1.1 (0 : Int32) r1.2).bind fun r2 => (if r2.1 = (0 : Int32) then mX9_kind_b69 (0 : Int32) r2.2 else mX9_kind_b69 (r2.2.1 33) r2.2))) = some r := h
  refine aw_iload_n C dX9_kind_50 rfl ?_
  obtain ⟨r1, h1, h⟩ := Option.bind_eq_some_iff.mp h
  refine aw_callV C (ci := 9) (b := 181) [.int s2, .int v1] mv_X9_361 rfl rfl (hm_M f σ) (rmX9_rules h1) rfl dX9_kind_51 (Nat.le_of_ble_eq_true rfl) (Nat.le_of_ble_eq_true rfl) rfl (Nat.le_of_ble_eq_true rfl) (Nat.le_of_ble_eq_true rfl) (Nat.le_of_ble_eq_true rfl) (fun v9 f9 n9 hh => ?_)
  obtain ⟨rfl, rfl, rfl⟩ := hh
  refine aw_iconst C 0 dX9_kind_54 ki_0 ?_
  obtain ⟨r2, h2, h⟩ := Option.bind_eq_some_iff.mp h
  refine aw_callV C (ci := 9) (b := 181) [.int r1.1, .int (0 : Int32)] mv_X9_429 rfl rfl (hm_M f r1.2) (rmX9_isDone h2) rfl dX9_kind_55 (Nat.le_of_ble_eq_true rfl) (Nat.le_of_ble_eq_true rfl) rfl (Nat.le_of_ble_eq_true rfl) (Nat.le_of_ble_eq_true rfl) (Nat.le_of_ble_eq_true rfl) (fun v9 f9 n9 hh => ?_)
  obtain ⟨rfl, rfl, rfl⟩ := hh
  refine aw_if_eq C 68 dX9_kind_58 (by decide) (fun q => ?_) (fun q => ?_)
  · rw [if_pos q] at h
    refine aw_iconst C 0 dX9_kind_68 ki_0 ?_
    refine aw_fl [none, none, none] trivial ?_
    exact rmX9_kind_b69 C h
  · rw [if_neg q] at h
    refine aw_ald_n C dX9_kind_61 rfl ?_
    refine aw_get C (v := .int (r2.2.1 33)) gf_X9_204 (hm_M f r2.2) rfl dX9_kind_62 ?_
    refine aw_goto C 69 dX9_kind_65 (by decide) ?_
    refine aw_fl [none, none, none] trivial ?_
    exact rmX9_kind_b69 C h
def mX9_kind_b23 (v1 : Int32) (v2 : Int32) (s1 : Int32) (σ : RS9) : Option (Int32 × RS9) := (if s1 ≤ (0 : Int32) then ((mX9_putsAside (rSf σ 0 s1)).bind fun r1 => (if v2 = (0 : Int32) then mX9_kind_b50 v1 (1 : Int32) r1.2 else mX9_kind_b50 v1 (2 : Int32) r1.2)) else some ((0 : Int32), (rSf σ 0 s1)))
set_option maxHeartbeats 1000000 in
theorem rmX9_kind_b23 {X : GX} {p : Program} {l : Launch} {e : Env} {s : State} {m : MethodId} {args : Array Value} {below : List Frame} {meth : Method} {c : Code} {f : AH} {n : Nat} {r : Int32 × RS9} {v1 : Int32} {v2 : Int32} {s1 : Int32} {σ : RS9} (C : CC X p l (RM 11 0 0) s m args meth c RX9 cX9_kind 3 (some .int)) (h : mX9_kind_b23 v1 v2 s1 σ = some r) : AW X p l e (RM 11 0 0) s m args below meth c 3 (ZM X below args s 0 0 (QMi f n r)) (rHm f σ) n 0 0 23 [some (.ref 181), some (.int v1), some (.int v2)] [.int s1, .ref 181] := by
  have h : (if s1 ≤ (0 : Int32) then ((mX9_putsAside (rSf σ 0 s1)).bind fun r1 => (if v2 = (0 : Int32) then mX9_kind_b50 v1 (1 : Int32) r1.2 else mX9_kind_b50 v1 (2 : Int32) r1.2)) else some ((0 : Int32), (rSf σ 0 s1))) = some r := h
  refine am_put C gf_X9_138 nf9_0 rfl rfl dX9_kind_23 ?_
  refine aw_ald_n C dX9_kind_26 rfl ?_
  refine aw_get C (v := .int s1) gf_X9_138 (hm_M f (rSf σ 0 s1)) rfl dX9_kind_27 ?_
  refine aw_if_le C 35 dX9_kind_30 (by decide) (fun q => ?_) (fun q => ?_)
  · rw [if_pos q] at h
    refine aw_ald_n C dX9_kind_35 rfl ?_
    obtain ⟨r1, h1, h⟩ := Option.bind_eq_some_iff.mp h
    refine aw_callV C (ci := 9) (b := 181) [] mv_X9_420 rfl rfl (hm_M f (rSf σ 0 s1)) (rmX9_putsAside h1) rfl dX9_kind_36 (Nat.le_of_ble_eq_true rfl) (Nat.le_of_ble_eq_true rfl) rfl (Nat.le_of_ble_eq_true rfl) (Nat.le_of_ble_eq_true rfl) (Nat.le_of_ble_eq_true rfl) (fun v9 f9 n9 hh => ?_)
    obtain ⟨rfl, rfl, rfl⟩ := hh
    refine aw_ald_n C dX9_kind_39 rfl ?_
    refine aw_ald_n C dX9_kind_40 rfl ?_
    refine aw_iload_n C dX9_kind_41 rfl ?_
    refine aw_if_eq C 49 dX9_kind_42 (by decide) (fun q => ?_) (fun q => ?_)
    · rw [if_pos q] at h
      refine aw_iconst C 1 dX9_kind_49 ki_1 ?_
      refine aw_fl [some (.ref 181), some (.int v1), none] ⟨rfl, ⟨rfl, trivial⟩⟩ ?_
      exact rmX9_kind_b50 C h
    · rw [if_neg q] at h
      refine aw_iconst C 2 dX9_kind_45 ki_2 ?_
      refine aw_goto C 50 dX9_kind_46 (by decide) ?_
      refine aw_fl [some (.ref 181), some (.int v1), none] ⟨rfl, ⟨rfl, trivial⟩⟩ ?_
      exact rmX9_kind_b50 C h
  · rw [if_neg q] at h
    refine aw_iconst C 0 dX9_kind_33 ki_0 ?_
    cases h
    exact aw_iret C rfl rfl dX9_kind_34 (Nat.le_refl _) (Nat.le_refl _) ⟨rfl, rfl, rfl⟩
def mX9_kind_b11 (v1 : Int32) (v2 : Int32) (s1 : Int32) (s2 : Int32) (σ : RS9) : Option (Int32 × RS9) := ((mX9_isIn s1 s2 (3 : Int32) σ).bind fun r1 => (if r1.1 = (0 : Int32) then mX9_kind_b23 v1 v2 (1 : Int32) r1.2 else mX9_kind_b23 v1 v2 (0 : Int32) r1.2))
set_option maxHeartbeats 1000000 in
theorem rmX9_kind_b11 {X : GX} {p : Program} {l : Launch} {e : Env} {s : State} {m : MethodId} {args : Array Value} {below : List Frame} {meth : Method} {c : Code} {f : AH} {n : Nat} {r : Int32 × RS9} {v1 : Int32} {v2 : Int32} {s1 : Int32} {s2 : Int32} {σ : RS9} (C : CC X p l (RM 11 0 0) s m args meth c RX9 cX9_kind 3 (some .int)) (h : mX9_kind_b11 v1 v2 s1 s2 σ = some r) : AW X p l e (RM 11 0 0) s m args below meth c 3 (ZM X below args s 0 0 (QMi f n r)) (rHm f σ) n 0 0 11 [some (.ref 181), some (.int v1), some (.int v2)] [.int s2, .int s1, .ref 181] := by
  have h : ((mX9_isIn s1 s2 (3 : Int32) σ).bind fun r1 => (if r1.1 = (0 : Int32) then mX9_kind_b23 v1 v2 (1 : Int32) r1.2 else mX9_kind_b23 v1 v2 (0 : Int32) r1.2)) = some r := h
  refine aw_iconst C 3 dX9_kind_11 ki_3 ?_
  obtain ⟨r1, h1, h⟩ := Option.bind_eq_some_iff.mp h
  refine aw_callS C [.int s1, .int s2, .int (3 : Int32)] ms_X9_141 (rmX9_isIn h1) rfl dX9_kind_12 (Nat.le_of_ble_eq_true rfl) (Nat.le_of_ble_eq_true rfl) rfl (Nat.le_of_ble_eq_true rfl) (Nat.le_of_ble_eq_true rfl) (Nat.le_of_ble_eq_true rfl) (fun v9 f9 n9 hh => ?_)
  obtain ⟨rfl, rfl, rfl⟩ := hh
  refine aw_if_eq C 22 dX9_kind_15 (by decide) (fun q => ?_) (fun q => ?_)
  · rw [if_pos q] at h
    refine aw_iconst C 1 dX9_kind_22 ki_1 ?_
    refine aw_fl [some (.ref 181), some (.int v1), some (.int v2)] ⟨rfl, ⟨rfl, ⟨rfl, trivial⟩⟩⟩ ?_
    exact rmX9_kind_b23 C h
  · rw [if_neg q] at h
    refine aw_iconst C 0 dX9_kind_18 ki_0 ?_
    refine aw_goto C 23 dX9_kind_19 (by decide) ?_
    refine aw_fl [some (.ref 181), some (.int v1), some (.int v2)] ⟨rfl, ⟨rfl, ⟨rfl, trivial⟩⟩⟩ ?_
    exact rmX9_kind_b23 C h
def mX9_kind (v1 : Int32) (v2 : Int32) (σ : RS9) : Option (Int32 × RS9) := (if v2 = (0 : Int32) then mX9_kind_b11 v1 v2 v1 (0 : Int32) σ else mX9_kind_b11 v1 v2 v1 (-1 : Int32) σ)
set_option maxHeartbeats 1000000 in
theorem rmX9_kind {X : GX} {l : Launch} {f : AH} {n : Nat} {r : Int32 × RS9} {v1 : Int32} {v2 : Int32} {σ : RS9} (h : mX9_kind v1 v2 σ = some r) : AM X l yX9_kind cX9_kind 3 (some .int) 11 0 0 [.ref 181, .int v1, .int v2] (rHm f σ) n (QMi f n r) := by
  have h : (if v2 = (0 : Int32) then mX9_kind_b11 v1 v2 v1 (0 : Int32) σ else mX9_kind_b11 v1 v2 v1 (-1 : Int32) σ) = some r := h
  refine AM.of (by decide +kernel) rfl (Nat.le_of_ble_eq_true rfl) (fun p e s m args below meth c C _ => ?_)
  refine aw_nl [some (.ref 181), some (.int v1), some (.int v2)] rfl ?_
  refine aw_ald_n C dX9_kind_0 rfl ?_
  refine aw_iload_n C dX9_kind_1 rfl ?_
  refine aw_iload_n C dX9_kind_2 rfl ?_
  refine aw_if_eq C 10 dX9_kind_3 (by decide) (fun q => ?_) (fun q => ?_)
  · rw [if_pos q] at h
    refine aw_iconst C 0 dX9_kind_10 ki_0 ?_
    refine aw_fl [some (.ref 181), some (.int v1), some (.int v2)] ⟨rfl, ⟨rfl, ⟨rfl, trivial⟩⟩⟩ ?_
    exact rmX9_kind_b11 C h
  · rw [if_neg q] at h
    refine aw_iconst C (-1) dX9_kind_6 ki_m1 ?_
    refine aw_goto C 11 dX9_kind_7 (by decide) ?_
    refine aw_fl [some (.ref 181), some (.int v1), some (.int v2)] ⟨rfl, ⟨rfl, ⟨rfl, trivial⟩⟩⟩ ?_
    exact rmX9_kind_b11 C h
def mX9_rule_b83 (s0 : Int32) (σ : RS9) : Option (Int32 × RS9) := some (s0, σ)
set_option maxHeartbeats 1000000 in
theorem rmX9_rule_b83 {X : GX} {p : Program} {l : Launch} {e : Env} {s : State} {m : MethodId} {args : Array Value} {below : List Frame} {meth : Method} {c : Code} {f : AH} {n : Nat} {r : Int32 × RS9} {s0 : Int32} {σ : RS9} (C : CC X p l (RM 11 0 0) s m args meth c RX9 cX9_rule 3 (some .int)) (h : mX9_rule_b83 s0 σ = some r) : AW X p l e (RM 11 0 0) s m args below meth c 3 (ZM X below args s 0 0 (QMi f n r)) (rHm f σ) n 0 0 83 [none, none, none] [.int s0] := by
  have h : some (s0, σ) = some r := h
  cases h
  exact aw_iret C rfl rfl dX9_rule_83 (Nat.le_refl _) (Nat.le_refl _) ⟨rfl, rfl, rfl⟩
def mX9_rule_b64 (v2 : Int32) (s2 : Int32) (σ : RS9) : Option (Int32 × RS9) := ((mX9_rules s2 v2 σ).bind fun r1 => ((mX9_isDone r1.1 (0 : Int32) r1.2).bind fun r2 => (if r2.1 = (0 : Int32) then mX9_rule_b83 (0 : Int32) r2.2 else mX9_rule_b83 (r2.2.1 33) r2.2)))
set_option maxHeartbeats 1000000 in
theorem rmX9_rule_b64 {X : GX} {p : Program} {l : Launch} {e : Env} {s : State} {m : MethodId} {args : Array Value} {below : List Frame} {meth : Method} {c : Code} {f : AH} {n : Nat} {r : Int32 × RS9} {v2 : Int32} {s2 : Int32} {σ : RS9} (C : CC X p l (RM 11 0 0) s m args meth c RX9 cX9_rule 3 (some .int)) (h : mX9_rule_b64 v2 s2 σ = some r) : AW X p l e (RM 11 0 0) s m args below meth c 3 (ZM X below args s 0 0 (QMi f n r)) (rHm f σ) n 0 0 64 [some (.ref 181), none, some (.int v2)] [.int s2, .ref 181, .ref 181] := by
  have h : ((mX9_rules s2 v2 σ).bind fun r1 => ((mX9_isDone r1.1 (0 : Int32) r1.2).bind fun r2 => (if r2.1 = (0 : Int32) then mX9_rule_b83 (0 : Int32) r2.2 else mX9_rule_b83 (r2.2.1 33) r2.2))) = some r := h
  refine aw_iload_n C dX9_rule_64 rfl ?_
  obtain ⟨r1, h1, h⟩ := Option.bind_eq_some_iff.mp h
  refine aw_callV C (ci := 9) (b := 181) [.int s2, .int v2] mv_X9_361 rfl rfl (hm_M f σ) (rmX9_rules h1) rfl dX9_rule_65 (Nat.le_of_ble_eq_true rfl) (Nat.le_of_ble_eq_true rfl) rfl (Nat.le_of_ble_eq_true rfl) (Nat.le_of_ble_eq_true rfl) (Nat.le_of_ble_eq_true rfl) (fun v9 f9 n9 hh => ?_)
  obtain ⟨rfl, rfl, rfl⟩ := hh
  refine aw_iconst C 0 dX9_rule_68 ki_0 ?_
  obtain ⟨r2, h2, h⟩ := Option.bind_eq_some_iff.mp h
  refine aw_callV C (ci := 9) (b := 181) [.int r1.1, .int (0 : Int32)] mv_X9_429 rfl rfl (hm_M f r1.2) (rmX9_isDone h2) rfl dX9_rule_69 (Nat.le_of_ble_eq_true rfl) (Nat.le_of_ble_eq_true rfl) rfl (Nat.le_of_ble_eq_true rfl) (Nat.le_of_ble_eq_true rfl) (Nat.le_of_ble_eq_true rfl) (fun v9 f9 n9 hh => ?_)
  obtain ⟨rfl, rfl, rfl⟩ := hh
  refine aw_if_eq C 82 dX9_rule_72 (by decide) (fun q => ?_) (fun q => ?_)
  · rw [if_pos q] at h
    refine aw_iconst C 0 dX9_rule_82 ki_0 ?_
    refine aw_fl [none, none, none] trivial ?_
    exact rmX9_rule_b83 C h
  · rw [if_neg q] at h
    refine aw_ald_n C dX9_rule_75 rfl ?_
    refine aw_get C (v := .int (r2.2.1 33)) gf_X9_204 (hm_M f r2.2) rfl dX9_rule_76 ?_
    refine aw_goto C 83 dX9_rule_79 (by decide) ?_
    refine aw_fl [none, none, none] trivial ?_
    exact rmX9_rule_b83 C h
def mX9_rule_b37 (v1 : Int32) (v2 : Int32) (s1 : Int32) (σ : RS9) : Option (Int32 × RS9) := (if s1 ≤ (0 : Int32) then ((mX9_putsAside (rSf σ 0 s1)).bind fun r1 => (if v1 = (0 : Int32) then mX9_rule_b64 v2 (3 : Int32) r1.2 else mX9_rule_b64 v2 (4 : Int32) r1.2)) else some ((0 : Int32), (rSf σ 0 s1)))
set_option maxHeartbeats 1000000 in
theorem rmX9_rule_b37 {X : GX} {p : Program} {l : Launch} {e : Env} {s : State} {m : MethodId} {args : Array Value} {below : List Frame} {meth : Method} {c : Code} {f : AH} {n : Nat} {r : Int32 × RS9} {v1 : Int32} {v2 : Int32} {s1 : Int32} {σ : RS9} (C : CC X p l (RM 11 0 0) s m args meth c RX9 cX9_rule 3 (some .int)) (h : mX9_rule_b37 v1 v2 s1 σ = some r) : AW X p l e (RM 11 0 0) s m args below meth c 3 (ZM X below args s 0 0 (QMi f n r)) (rHm f σ) n 0 0 37 [some (.ref 181), some (.int v1), some (.int v2)] [.int s1, .ref 181] := by
  have h : (if s1 ≤ (0 : Int32) then ((mX9_putsAside (rSf σ 0 s1)).bind fun r1 => (if v1 = (0 : Int32) then mX9_rule_b64 v2 (3 : Int32) r1.2 else mX9_rule_b64 v2 (4 : Int32) r1.2)) else some ((0 : Int32), (rSf σ 0 s1))) = some r := h
  refine am_put C gf_X9_138 nf9_0 rfl rfl dX9_rule_37 ?_
  refine aw_ald_n C dX9_rule_40 rfl ?_
  refine aw_get C (v := .int s1) gf_X9_138 (hm_M f (rSf σ 0 s1)) rfl dX9_rule_41 ?_
  refine aw_if_le C 49 dX9_rule_44 (by decide) (fun q => ?_) (fun q => ?_)
  · rw [if_pos q] at h
    refine aw_ald_n C dX9_rule_49 rfl ?_
    obtain ⟨r1, h1, h⟩ := Option.bind_eq_some_iff.mp h
    refine aw_callV C (ci := 9) (b := 181) [] mv_X9_420 rfl rfl (hm_M f (rSf σ 0 s1)) (rmX9_putsAside h1) rfl dX9_rule_50 (Nat.le_of_ble_eq_true rfl) (Nat.le_of_ble_eq_true rfl) rfl (Nat.le_of_ble_eq_true rfl) (Nat.le_of_ble_eq_true rfl) (Nat.le_of_ble_eq_true rfl) (fun v9 f9 n9 hh => ?_)
    obtain ⟨rfl, rfl, rfl⟩ := hh
    refine aw_ald_n C dX9_rule_53 rfl ?_
    refine aw_ald_n C dX9_rule_54 rfl ?_
    refine aw_iload_n C dX9_rule_55 rfl ?_
    refine aw_if_ne C 63 dX9_rule_56 (by decide) (fun q => ?_) (fun q => ?_)
    · rw [if_neg q] at h
      refine aw_iconst C 4 dX9_rule_63 ki_4 ?_
      refine aw_fl [some (.ref 181), none, some (.int v2)] ⟨rfl, ⟨rfl, trivial⟩⟩ ?_
      exact rmX9_rule_b64 C h
    · rw [if_pos q] at h
      refine aw_iconst C 3 dX9_rule_59 ki_3 ?_
      refine aw_goto C 64 dX9_rule_60 (by decide) ?_
      refine aw_fl [some (.ref 181), none, some (.int v2)] ⟨rfl, ⟨rfl, trivial⟩⟩ ?_
      exact rmX9_rule_b64 C h
  · rw [if_neg q] at h
    refine aw_iconst C 0 dX9_rule_47 ki_0 ?_
    cases h
    exact aw_iret C rfl rfl dX9_rule_48 (Nat.le_refl _) (Nat.le_refl _) ⟨rfl, rfl, rfl⟩
def mX9_rule_b26 (v1 : Int32) (v2 : Int32) (s1 : Int32) (s2 : Int32) (s3 : Int32) (σ : RS9) : Option (Int32 × RS9) := ((mX9_isIn s1 s2 s3 σ).bind fun r1 => (if r1.1 = (0 : Int32) then mX9_rule_b37 v1 v2 (2 : Int32) r1.2 else mX9_rule_b37 v1 v2 (0 : Int32) r1.2))
set_option maxHeartbeats 1000000 in
theorem rmX9_rule_b26 {X : GX} {p : Program} {l : Launch} {e : Env} {s : State} {m : MethodId} {args : Array Value} {below : List Frame} {meth : Method} {c : Code} {f : AH} {n : Nat} {r : Int32 × RS9} {v1 : Int32} {v2 : Int32} {s1 : Int32} {s2 : Int32} {s3 : Int32} {σ : RS9} (C : CC X p l (RM 11 0 0) s m args meth c RX9 cX9_rule 3 (some .int)) (h : mX9_rule_b26 v1 v2 s1 s2 s3 σ = some r) : AW X p l e (RM 11 0 0) s m args below meth c 3 (ZM X below args s 0 0 (QMi f n r)) (rHm f σ) n 0 0 26 [some (.ref 181), some (.int v1), some (.int v2)] [.int s3, .int s2, .int s1, .ref 181] := by
  have h : ((mX9_isIn s1 s2 s3 σ).bind fun r1 => (if r1.1 = (0 : Int32) then mX9_rule_b37 v1 v2 (2 : Int32) r1.2 else mX9_rule_b37 v1 v2 (0 : Int32) r1.2)) = some r := h
  obtain ⟨r1, h1, h⟩ := Option.bind_eq_some_iff.mp h
  refine aw_callS C [.int s1, .int s2, .int s3] ms_X9_141 (rmX9_isIn h1) rfl dX9_rule_26 (Nat.le_of_ble_eq_true rfl) (Nat.le_of_ble_eq_true rfl) rfl (Nat.le_of_ble_eq_true rfl) (Nat.le_of_ble_eq_true rfl) (Nat.le_of_ble_eq_true rfl) (fun v9 f9 n9 hh => ?_)
  obtain ⟨rfl, rfl, rfl⟩ := hh
  refine aw_if_ne C 36 dX9_rule_29 (by decide) (fun q => ?_) (fun q => ?_)
  · rw [if_neg q] at h
    refine aw_iconst C 0 dX9_rule_36 ki_0 ?_
    refine aw_fl [some (.ref 181), some (.int v1), some (.int v2)] ⟨rfl, ⟨rfl, ⟨rfl, trivial⟩⟩⟩ ?_
    exact rmX9_rule_b37 C h
  · rw [if_pos q] at h
    refine aw_iconst C 2 dX9_rule_32 ki_2 ?_
    refine aw_goto C 37 dX9_rule_33 (by decide) ?_
    refine aw_fl [some (.ref 181), some (.int v1), some (.int v2)] ⟨rfl, ⟨rfl, ⟨rfl, trivial⟩⟩⟩ ?_
    exact rmX9_rule_b37 C h
def mX9_rule (v1 : Int32) (v2 : Int32) (σ : RS9) : Option (Int32 × RS9) := ((mX9_isIn v1 (0 : Int32) (1 : Int32) σ).bind fun r1 => (if r1.1 = (0 : Int32) then mX9_rule_b37 v1 v2 (1 : Int32) r1.2 else (if v1 = (0 : Int32) then mX9_rule_b26 v1 v2 v2 v1 (1 : Int32) r1.2 else mX9_rule_b26 v1 v2 v2 v1 (40 : Int32) r1.2)))
set_option maxHeartbeats 1000000 in
theorem rmX9_rule {X : GX} {l : Launch} {f : AH} {n : Nat} {r : Int32 × RS9} {v1 : Int32} {v2 : Int32} {σ : RS9} (h : mX9_rule v1 v2 σ = some r) : AM X l yX9_rule cX9_rule 3 (some .int) 11 0 0 [.ref 181, .int v1, .int v2] (rHm f σ) n (QMi f n r) := by
  have h : ((mX9_isIn v1 (0 : Int32) (1 : Int32) σ).bind fun r1 => (if r1.1 = (0 : Int32) then mX9_rule_b37 v1 v2 (1 : Int32) r1.2 else (if v1 = (0 : Int32) then mX9_rule_b26 v1 v2 v2 v1 (1 : Int32) r1.2 else mX9_rule_b26 v1 v2 v2 v1 (40 : Int32) r1.2))) = some r := h
  refine AM.of (by decide +kernel) rfl (Nat.le_of_ble_eq_true rfl) (fun p e s m args below meth c C _ => ?_)
  refine aw_nl [some (.ref 181), some (.int v1), some (.int v2)] rfl ?_
  refine aw_ald_n C dX9_rule_0 rfl ?_
  refine aw_iload_n C dX9_rule_1 rfl ?_
  refine aw_iconst C 0 dX9_rule_2 ki_0 ?_
  refine aw_iconst C 1 dX9_rule_3 ki_1 ?_
  obtain ⟨r1, h1, h⟩ := Option.bind_eq_some_iff.mp h
  refine aw_callS C [.int v1, .int (0 : Int32), .int (1 : Int32)] ms_X9_141 (rmX9_isIn h1) rfl dX9_rule_4 (Nat.le_of_ble_eq_true rfl) (Nat.le_of_ble_eq_true rfl) rfl (Nat.le_of_ble_eq_true rfl) (Nat.le_of_ble_eq_true rfl) (Nat.le_of_ble_eq_true rfl) (fun v9 f9 n9 hh => ?_)
  obtain ⟨rfl, rfl, rfl⟩ := hh
  refine aw_if_ne C 14 dX9_rule_7 (by decide) (fun q => ?_) (fun q => ?_)
  · rw [if_neg q] at h
    refine aw_iload_n C dX9_rule_14 rfl ?_
    refine aw_iload_n C dX9_rule_15 rfl ?_
    refine aw_iload_n C dX9_rule_16 rfl ?_
    refine aw_if_ne C 24 dX9_rule_17 (by decide) (fun q => ?_) (fun q => ?_)
    · rw [if_neg q] at h
      refine aw_bipush C 40 dX9_rule_24 kb_40 ?_
      refine aw_fl [some (.ref 181), some (.int v1), some (.int v2)] ⟨rfl, ⟨rfl, ⟨rfl, trivial⟩⟩⟩ ?_
      exact rmX9_rule_b26 C h
    · rw [if_pos q] at h
      refine aw_iconst C 1 dX9_rule_20 ki_1 ?_
      refine aw_goto C 26 dX9_rule_21 (by decide) ?_
      refine aw_fl [some (.ref 181), some (.int v1), some (.int v2)] ⟨rfl, ⟨rfl, ⟨rfl, trivial⟩⟩⟩ ?_
      exact rmX9_rule_b26 C h
  · rw [if_pos q] at h
    refine aw_iconst C 1 dX9_rule_10 ki_1 ?_
    refine aw_goto C 37 dX9_rule_11 (by decide) ?_
    refine aw_fl [some (.ref 181), some (.int v1), some (.int v2)] ⟨rfl, ⟨rfl, ⟨rfl, trivial⟩⟩⟩ ?_
    exact rmX9_rule_b37 C h
def mX9_lock_b57 (s0 : Int32) (σ : RS9) : Option (Int32 × RS9) := some (s0, σ)
set_option maxHeartbeats 1000000 in
theorem rmX9_lock_b57 {X : GX} {p : Program} {l : Launch} {e : Env} {s : State} {m : MethodId} {args : Array Value} {below : List Frame} {meth : Method} {c : Code} {f : AH} {n : Nat} {r : Int32 × RS9} {s0 : Int32} {σ : RS9} (C : CC X p l (RM 11 0 0) s m args meth c RX9 cX9_lock 2 (some .int)) (h : mX9_lock_b57 s0 σ = some r) : AW X p l e (RM 11 0 0) s m args below meth c 2 (ZM X below args s 0 0 (QMi f n r)) (rHm f σ) n 0 0 57 [none, none] [.int s0] := by
  have h : some (s0, σ) = some r := h
  cases h
  exact aw_iret C rfl rfl dX9_lock_57 (Nat.le_refl _) (Nat.le_refl _) ⟨rfl, rfl, rfl⟩
def mX9_lock_b19 (v1 : Int32) (s1 : Int32) (σ : RS9) : Option (Int32 × RS9) := (if s1 ≤ (0 : Int32) then ((mX9_putsAside (rSf σ 0 s1)).bind fun r1 => ((mX9_lock0 (0 : Int32) v1 r1.2).bind fun r2 => ((mX9_isDone r2.1 (2 : Int32) r2.2).bind fun r3 => (if r3.1 = (0 : Int32) then mX9_lock_b57 (0 : Int32) r3.2 else mX9_lock_b57 (r3.2.1 33) r3.2)))) else some ((0 : Int32), (rSf σ 0 s1)))
set_option maxHeartbeats 1000000 in
theorem rmX9_lock_b19 {X : GX} {p : Program} {l : Launch} {e : Env} {s : State} {m : MethodId} {args : Array Value} {below : List Frame} {meth : Method} {c : Code} {f : AH} {n : Nat} {r : Int32 × RS9} {v1 : Int32} {s1 : Int32} {σ : RS9} (C : CC X p l (RM 11 0 0) s m args meth c RX9 cX9_lock 2 (some .int)) (h : mX9_lock_b19 v1 s1 σ = some r) : AW X p l e (RM 11 0 0) s m args below meth c 2 (ZM X below args s 0 0 (QMi f n r)) (rHm f σ) n 0 0 19 [some (.ref 181), some (.int v1)] [.int s1, .ref 181] := by
  have h : (if s1 ≤ (0 : Int32) then ((mX9_putsAside (rSf σ 0 s1)).bind fun r1 => ((mX9_lock0 (0 : Int32) v1 r1.2).bind fun r2 => ((mX9_isDone r2.1 (2 : Int32) r2.2).bind fun r3 => (if r3.1 = (0 : Int32) then mX9_lock_b57 (0 : Int32) r3.2 else mX9_lock_b57 (r3.2.1 33) r3.2)))) else some ((0 : Int32), (rSf σ 0 s1))) = some r := h
  refine am_put C gf_X9_138 nf9_0 rfl rfl dX9_lock_19 ?_
  refine aw_ald_n C dX9_lock_22 rfl ?_
  refine aw_get C (v := .int s1) gf_X9_138 (hm_M f (rSf σ 0 s1)) rfl dX9_lock_23 ?_
  refine aw_if_le C 31 dX9_lock_26 (by decide) (fun q => ?_) (fun q => ?_)
  · rw [if_pos q] at h
    refine aw_ald_n C dX9_lock_31 rfl ?_
    obtain ⟨r1, h1, h⟩ := Option.bind_eq_some_iff.mp h
    refine aw_callV C (ci := 9) (b := 181) [] mv_X9_420 rfl rfl (hm_M f (rSf σ 0 s1)) (rmX9_putsAside h1) rfl dX9_lock_32 (Nat.le_of_ble_eq_true rfl) (Nat.le_of_ble_eq_true rfl) rfl (Nat.le_of_ble_eq_true rfl) (Nat.le_of_ble_eq_true rfl) (Nat.le_of_ble_eq_true rfl) (fun v9 f9 n9 hh => ?_)
    obtain ⟨rfl, rfl, rfl⟩ := hh
    refine aw_ald_n C dX9_lock_35 rfl ?_
    refine aw_ald_n C dX9_lock_36 rfl ?_
    refine aw_iconst C 0 dX9_lock_37 ki_0 ?_
    refine aw_iload_n C dX9_lock_38 rfl ?_
    obtain ⟨r2, h2, h⟩ := Option.bind_eq_some_iff.mp h
    refine aw_callV C (ci := 9) (b := 181) [.int (0 : Int32), .int v1] mv_X9_355 rfl rfl (hm_M f r1.2) (rmX9_lock0 h2) rfl dX9_lock_39 (Nat.le_of_ble_eq_true rfl) (Nat.le_of_ble_eq_true rfl) rfl (Nat.le_of_ble_eq_true rfl) (Nat.le_of_ble_eq_true rfl) (Nat.le_of_ble_eq_true rfl) (fun v9 f9 n9 hh => ?_)
    obtain ⟨rfl, rfl, rfl⟩ := hh
    refine aw_iconst C 2 dX9_lock_42 ki_2 ?_
    obtain ⟨r3, h3, h⟩ := Option.bind_eq_some_iff.mp h
    refine aw_callV C (ci := 9) (b := 181) [.int r2.1, .int (2 : Int32)] mv_X9_429 rfl rfl (hm_M f r2.2) (rmX9_isDone h3) rfl dX9_lock_43 (Nat.le_of_ble_eq_true rfl) (Nat.le_of_ble_eq_true rfl) rfl (Nat.le_of_ble_eq_true rfl) (Nat.le_of_ble_eq_true rfl) (Nat.le_of_ble_eq_true rfl) (fun v9 f9 n9 hh => ?_)
    obtain ⟨rfl, rfl, rfl⟩ := hh
    refine aw_if_eq C 56 dX9_lock_46 (by decide) (fun q => ?_) (fun q => ?_)
    · rw [if_pos q] at h
      refine aw_iconst C 0 dX9_lock_56 ki_0 ?_
      refine aw_fl [none, none] trivial ?_
      exact rmX9_lock_b57 C h
    · rw [if_neg q] at h
      refine aw_ald_n C dX9_lock_49 rfl ?_
      refine aw_get C (v := .int (r3.2.1 33)) gf_X9_204 (hm_M f r3.2) rfl dX9_lock_50 ?_
      refine aw_goto C 57 dX9_lock_53 (by decide) ?_
      refine aw_fl [none, none] trivial ?_
      exact rmX9_lock_b57 C h
  · rw [if_neg q] at h
    refine aw_iconst C 0 dX9_lock_29 ki_0 ?_
    cases h
    exact aw_iret C rfl rfl dX9_lock_30 (Nat.le_refl _) (Nat.le_refl _) ⟨rfl, rfl, rfl⟩
def mX9_lock (σ : RS9) : Option (Int32 × RS9) := ((mX9_took σ).bind fun r1 => ((mX9_isWord r1.1 r1.2).bind fun r2 => (if r2.1 = (0 : Int32) then mX9_lock_b19 r1.1 (1 : Int32) r2.2 else mX9_lock_b19 r1.1 (0 : Int32) r2.2)))
set_option maxHeartbeats 1000000 in
theorem rmX9_lock {X : GX} {l : Launch} {f : AH} {n : Nat} {r : Int32 × RS9} {σ : RS9} (h : mX9_lock σ = some r) : AM X l yX9_lock cX9_lock 2 (some .int) 11 0 0 [.ref 181] (rHm f σ) n (QMi f n r) := by
  have h : ((mX9_took σ).bind fun r1 => ((mX9_isWord r1.1 r1.2).bind fun r2 => (if r2.1 = (0 : Int32) then mX9_lock_b19 r1.1 (1 : Int32) r2.2 else mX9_lock_b19 r1.1 (0 : Int32) r2.2))) = some r := h
  refine AM.of (by decide +kernel) rfl (Nat.le_of_ble_eq_true rfl) (fun p e s m args below meth c C _ => ?_)
  refine aw_nl [some (.ref 181), none] rfl ?_
  refine aw_ald_n C dX9_lock_0 rfl ?_
  obtain ⟨r1, h1, h⟩ := Option.bind_eq_some_iff.mp h
  refine aw_callV C (ci := 9) (b := 181) [] mv_X9_426 rfl rfl (hm_M f σ) (rmX9_took h1) rfl dX9_lock_1 (Nat.le_of_ble_eq_true rfl) (Nat.le_of_ble_eq_true rfl) rfl (Nat.le_of_ble_eq_true rfl) (Nat.le_of_ble_eq_true rfl) (Nat.le_of_ble_eq_true rfl) (fun v9 f9 n9 hh => ?_)
  obtain ⟨rfl, rfl, rfl⟩ := hh
  refine aw_istore_n C dX9_lock_4 (by decide) rfl ?_
  refine aw_nl [some (.ref 181), some (.int r1.1)] rfl ?_
  refine aw_ald_n C dX9_lock_5 rfl ?_
  refine aw_ald_n C dX9_lock_6 rfl ?_
  refine aw_iload_n C dX9_lock_7 rfl ?_
  obtain ⟨r2, h2, h⟩ := Option.bind_eq_some_iff.mp h
  refine aw_callV C (ci := 9) (b := 181) [.int r1.1] mv_X9_432 rfl rfl (hm_M f r1.2) (rmX9_isWord h2) rfl dX9_lock_8 (Nat.le_of_ble_eq_true rfl) (Nat.le_of_ble_eq_true rfl) rfl (Nat.le_of_ble_eq_true rfl) (Nat.le_of_ble_eq_true rfl) (Nat.le_of_ble_eq_true rfl) (fun v9 f9 n9 hh => ?_)
  obtain ⟨rfl, rfl, rfl⟩ := hh
  refine aw_if_eq C 18 dX9_lock_11 (by decide) (fun q => ?_) (fun q => ?_)
  · rw [if_pos q] at h
    refine aw_iconst C 1 dX9_lock_18 ki_1 ?_
    refine aw_fl [some (.ref 181), some (.int r1.1)] ⟨rfl, ⟨rfl, trivial⟩⟩ ?_
    exact rmX9_lock_b19 C h
  · rw [if_neg q] at h
    refine aw_iconst C 0 dX9_lock_14 ki_0 ?_
    refine aw_goto C 19 dX9_lock_15 (by decide) ?_
    refine aw_fl [some (.ref 181), some (.int r1.1)] ⟨rfl, ⟨rfl, trivial⟩⟩ ?_
    exact rmX9_lock_b19 C h
def mX9_unlock_b24 (s0 : Int32) (σ : RS9) : Option (Int32 × RS9) := some (s0, σ)
set_option maxHeartbeats 1000000 in
theorem rmX9_unlock_b24 {X : GX} {p : Program} {l : Launch} {e : Env} {s : State} {m : MethodId} {args : Array Value} {below : List Frame} {meth : Method} {c : Code} {f : AH} {n : Nat} {r : Int32 × RS9} {s0 : Int32} {σ : RS9} (C : CC X p l (RM 11 0 0) s m args meth c RX9 cX9_unlock 1 (some .int)) (h : mX9_unlock_b24 s0 σ = some r) : AW X p l e (RM 11 0 0) s m args below meth c 1 (ZM X below args s 0 0 (QMi f n r)) (rHm f σ) n 0 0 24 [none] [.int s0] := by
  have h : some (s0, σ) = some r := h
  cases h
  exact aw_iret C rfl rfl dX9_unlock_24 (Nat.le_refl _) (Nat.le_refl _) ⟨rfl, rfl, rfl⟩
def mX9_unlock (σ : RS9) : Option (Int32 × RS9) := ((mX9_putsAside σ).bind fun r1 => ((mX9_unlocks r1.2).bind fun r2 => ((mX9_isDone r2.1 (0 : Int32) r2.2).bind fun r3 => (if r3.1 = (0 : Int32) then mX9_unlock_b24 (0 : Int32) r3.2 else mX9_unlock_b24 (r3.2.1 33) r3.2))))
set_option maxHeartbeats 1000000 in
theorem rmX9_unlock {X : GX} {l : Launch} {f : AH} {n : Nat} {r : Int32 × RS9} {σ : RS9} (h : mX9_unlock σ = some r) : AM X l yX9_unlock cX9_unlock 1 (some .int) 11 0 0 [.ref 181] (rHm f σ) n (QMi f n r) := by
  have h : ((mX9_putsAside σ).bind fun r1 => ((mX9_unlocks r1.2).bind fun r2 => ((mX9_isDone r2.1 (0 : Int32) r2.2).bind fun r3 => (if r3.1 = (0 : Int32) then mX9_unlock_b24 (0 : Int32) r3.2 else mX9_unlock_b24 (r3.2.1 33) r3.2)))) = some r := h
  refine AM.of (by decide +kernel) rfl (Nat.le_of_ble_eq_true rfl) (fun p e s m args below meth c C _ => ?_)
  refine aw_nl [some (.ref 181)] rfl ?_
  refine aw_ald_n C dX9_unlock_0 rfl ?_
  obtain ⟨r1, h1, h⟩ := Option.bind_eq_some_iff.mp h
  refine aw_callV C (ci := 9) (b := 181) [] mv_X9_420 rfl rfl (hm_M f σ) (rmX9_putsAside h1) rfl dX9_unlock_1 (Nat.le_of_ble_eq_true rfl) (Nat.le_of_ble_eq_true rfl) rfl (Nat.le_of_ble_eq_true rfl) (Nat.le_of_ble_eq_true rfl) (Nat.le_of_ble_eq_true rfl) (fun v9 f9 n9 hh => ?_)
  obtain ⟨rfl, rfl, rfl⟩ := hh
  refine aw_ald_n C dX9_unlock_4 rfl ?_
  refine aw_ald_n C dX9_unlock_5 rfl ?_
  obtain ⟨r2, h2, h⟩ := Option.bind_eq_some_iff.mp h
  refine aw_callV C (ci := 9) (b := 181) [] mv_X9_399 rfl rfl (hm_M f r1.2) (rmX9_unlocks h2) rfl dX9_unlock_6 (Nat.le_of_ble_eq_true rfl) (Nat.le_of_ble_eq_true rfl) rfl (Nat.le_of_ble_eq_true rfl) (Nat.le_of_ble_eq_true rfl) (Nat.le_of_ble_eq_true rfl) (fun v9 f9 n9 hh => ?_)
  obtain ⟨rfl, rfl, rfl⟩ := hh
  refine aw_iconst C 0 dX9_unlock_9 ki_0 ?_
  obtain ⟨r3, h3, h⟩ := Option.bind_eq_some_iff.mp h
  refine aw_callV C (ci := 9) (b := 181) [.int r2.1, .int (0 : Int32)] mv_X9_429 rfl rfl (hm_M f r2.2) (rmX9_isDone h3) rfl dX9_unlock_10 (Nat.le_of_ble_eq_true rfl) (Nat.le_of_ble_eq_true rfl) rfl (Nat.le_of_ble_eq_true rfl) (Nat.le_of_ble_eq_true rfl) (Nat.le_of_ble_eq_true rfl) (fun v9 f9 n9 hh => ?_)
  obtain ⟨rfl, rfl, rfl⟩ := hh
  refine aw_if_eq C 23 dX9_unlock_13 (by decide) (fun q => ?_) (fun q => ?_)
  · rw [if_pos q] at h
    refine aw_iconst C 0 dX9_unlock_23 ki_0 ?_
    refine aw_fl [none] trivial ?_
    exact rmX9_unlock_b24 C h
  · rw [if_neg q] at h
    refine aw_ald_n C dX9_unlock_16 rfl ?_
    refine aw_get C (v := .int (r3.2.1 33)) gf_X9_204 (hm_M f r3.2) rfl dX9_unlock_17 ?_
    refine aw_goto C 24 dX9_unlock_20 (by decide) ?_
    refine aw_fl [none] trivial ?_
    exact rmX9_unlock_b24 C h
def mX9_tell0 (v1 : Int32) (v2 : Int32) (σ : RS9) : Option (Int32 × RS9) := ((mX9_isPieceThere v1 σ).bind fun r1 => (if r1.1 = (0 : Int32) then some ((1 : Int32), r1.2) else ((mX9_escapedFor v1 v2 r1.2).bind fun r2 => (if r2.1 = (-1 : Int32) then some ((2 : Int32), r2.2) else ((mX9_tells v1 v2 r2.2).bind fun r3 => ((mX9_builtMany r3.2).bind fun r4 => (if r4.1 ≤ (600 : Int32) then ((mX9_holdsTold v1 r4.2).bind fun r5 => ((mX9_remembersPair v1 v2 r5.2).bind fun r6 => some ((0 : Int32), r6.2))) else some ((3 : Int32), r4.2))))))))
set_option maxHeartbeats 1000000 in
theorem rmX9_tell0 {X : GX} {l : Launch} {f : AH} {n : Nat} {r : Int32 × RS9} {v1 : Int32} {v2 : Int32} {σ : RS9} (h : mX9_tell0 v1 v2 σ = some r) : AM X l yX9_tell0 cX9_tell0 3 (some .int) 10 0 0 [.ref 181, .int v1, .int v2] (rHm f σ) n (QMi f n r) := by
  have h : ((mX9_isPieceThere v1 σ).bind fun r1 => (if r1.1 = (0 : Int32) then some ((1 : Int32), r1.2) else ((mX9_escapedFor v1 v2 r1.2).bind fun r2 => (if r2.1 = (-1 : Int32) then some ((2 : Int32), r2.2) else ((mX9_tells v1 v2 r2.2).bind fun r3 => ((mX9_builtMany r3.2).bind fun r4 => (if r4.1 ≤ (600 : Int32) then ((mX9_holdsTold v1 r4.2).bind fun r5 => ((mX9_remembersPair v1 v2 r5.2).bind fun r6 => some ((0 : Int32), r6.2))) else some ((3 : Int32), r4.2)))))))) = some r := h
  refine AM.of (by decide +kernel) rfl (Nat.le_of_ble_eq_true rfl) (fun p e s m args below meth c C _ => ?_)
  refine aw_nl [some (.ref 181), some (.int v1), some (.int v2)] rfl ?_
  refine aw_ald_n C dX9_tell0_0 rfl ?_
  refine aw_iload_n C dX9_tell0_1 rfl ?_
  obtain ⟨r1, h1, h⟩ := Option.bind_eq_some_iff.mp h
  refine aw_callV C (ci := 9) (b := 181) [.int v1] mv_X9_293 rfl rfl (hm_M f σ) (rmX9_isPieceThere h1) rfl dX9_tell0_2 (Nat.le_of_ble_eq_true rfl) (Nat.le_of_ble_eq_true rfl) rfl (Nat.le_of_ble_eq_true rfl) (Nat.le_of_ble_eq_true rfl) (Nat.le_of_ble_eq_true rfl) (fun v9 f9 n9 hh => ?_)
  obtain ⟨rfl, rfl, rfl⟩ := hh
  refine aw_if_ne C 10 dX9_tell0_5 (by decide) (fun q => ?_) (fun q => ?_)
  · rw [if_neg q] at h
    refine aw_ald_n C dX9_tell0_10 rfl ?_
    refine aw_iload_n C dX9_tell0_11 rfl ?_
    refine aw_iload_n C dX9_tell0_12 rfl ?_
    obtain ⟨r2, h2, h⟩ := Option.bind_eq_some_iff.mp h
    refine aw_callV C (ci := 9) (b := 181) [.int v1, .int v2] mv_X9_287 rfl rfl (hm_M f r1.2) (rmX9_escapedFor h2) rfl dX9_tell0_13 (Nat.le_of_ble_eq_true rfl) (Nat.le_of_ble_eq_true rfl) rfl (Nat.le_of_ble_eq_true rfl) (Nat.le_of_ble_eq_true rfl) (Nat.le_of_ble_eq_true rfl) (fun v9 f9 n9 hh => ?_)
    obtain ⟨rfl, rfl, rfl⟩ := hh
    refine aw_iconst C (-1) dX9_tell0_16 ki_m1 ?_
    refine aw_icmp_ne C 22 dX9_tell0_17 (by decide) (fun q => ?_) (fun q => ?_)
    · rw [if_neg q] at h
      refine aw_ald_n C dX9_tell0_22 rfl ?_
      refine aw_iload_n C dX9_tell0_23 rfl ?_
      refine aw_iload_n C dX9_tell0_24 rfl ?_
      obtain ⟨r3, h3, h⟩ := Option.bind_eq_some_iff.mp h
      refine aw_callV C (ci := 9) (b := 181) [.int v1, .int v2] mv_X9_296 rfl rfl (hm_M f r2.2) (rmX9_tells h3) rfl dX9_tell0_25 (Nat.le_of_ble_eq_true rfl) (Nat.le_of_ble_eq_true rfl) rfl (Nat.le_of_ble_eq_true rfl) (Nat.le_of_ble_eq_true rfl) (Nat.le_of_ble_eq_true rfl) (fun v9 f9 n9 hh => ?_)
      obtain ⟨rfl, rfl, rfl⟩ := hh
      refine aw_ald_n C dX9_tell0_28 rfl ?_
      obtain ⟨r4, h4, h⟩ := Option.bind_eq_some_iff.mp h
      refine aw_callV C (ci := 9) (b := 181) [] mv_X9_300 rfl rfl (hm_M f r3.2) (rmX9_builtMany h4) rfl dX9_tell0_29 (Nat.le_of_ble_eq_true rfl) (Nat.le_of_ble_eq_true rfl) rfl (Nat.le_of_ble_eq_true rfl) (Nat.le_of_ble_eq_true rfl) (Nat.le_of_ble_eq_true rfl) (fun v9 f9 n9 hh => ?_)
      obtain ⟨rfl, rfl, rfl⟩ := hh
      refine aw_sipush C 600 dX9_tell0_32 ks_600 ?_
      refine aw_icmp_le C 40 dX9_tell0_35 (by decide) (fun q => ?_) (fun q => ?_)
      · rw [if_pos q] at h
        refine aw_ald_n C dX9_tell0_40 rfl ?_
        refine aw_iload_n C dX9_tell0_41 rfl ?_
        obtain ⟨r5, h5, h⟩ := Option.bind_eq_some_iff.mp h
        refine aw_callV C (ci := 9) (b := 181) [.int v1] mv_X9_283 rfl rfl (hm_M f r4.2) (rmX9_holdsTold h5) rfl dX9_tell0_42 (Nat.le_of_ble_eq_true rfl) (Nat.le_of_ble_eq_true rfl) rfl (Nat.le_of_ble_eq_true rfl) (Nat.le_of_ble_eq_true rfl) (Nat.le_of_ble_eq_true rfl) (fun v9 f9 n9 hh => ?_)
        obtain ⟨rfl, rfl, rfl⟩ := hh
        refine aw_ald_n C dX9_tell0_45 rfl ?_
        refine aw_iload_n C dX9_tell0_46 rfl ?_
        refine aw_iload_n C dX9_tell0_47 rfl ?_
        obtain ⟨r6, h6, h⟩ := Option.bind_eq_some_iff.mp h
        refine aw_callV C (ci := 9) (b := 181) [.int v1, .int v2] mv_X9_303 rfl rfl (hm_M f r5.2) (rmX9_remembersPair h6) rfl dX9_tell0_48 (Nat.le_of_ble_eq_true rfl) (Nat.le_of_ble_eq_true rfl) rfl (Nat.le_of_ble_eq_true rfl) (Nat.le_of_ble_eq_true rfl) (Nat.le_of_ble_eq_true rfl) (fun v9 f9 n9 hh => ?_)
        obtain ⟨rfl, rfl, rfl⟩ := hh
        refine aw_iconst C 0 dX9_tell0_51 ki_0 ?_
        cases h
        exact aw_iret C rfl rfl dX9_tell0_52 (Nat.le_refl _) (Nat.le_refl _) ⟨rfl, rfl, rfl⟩
      · rw [if_neg q] at h
        refine aw_iconst C 3 dX9_tell0_38 ki_3 ?_
        cases h
        exact aw_iret C rfl rfl dX9_tell0_39 (Nat.le_refl _) (Nat.le_refl _) ⟨rfl, rfl, rfl⟩
    · rw [if_pos q] at h
      refine aw_iconst C 2 dX9_tell0_20 ki_2 ?_
      cases h
      exact aw_iret C rfl rfl dX9_tell0_21 (Nat.le_refl _) (Nat.le_refl _) ⟨rfl, rfl, rfl⟩
  · rw [if_pos q] at h
    refine aw_iconst C 1 dX9_tell0_8 ki_1 ?_
    cases h
    exact aw_iret C rfl rfl dX9_tell0_9 (Nat.le_refl _) (Nat.le_refl _) ⟨rfl, rfl, rfl⟩
def mX9_tell_b55 (s0 : Int32) (σ : RS9) : Option (Int32 × RS9) := some (s0, σ)
set_option maxHeartbeats 1000000 in
theorem rmX9_tell_b55 {X : GX} {p : Program} {l : Launch} {e : Env} {s : State} {m : MethodId} {args : Array Value} {below : List Frame} {meth : Method} {c : Code} {f : AH} {n : Nat} {r : Int32 × RS9} {s0 : Int32} {σ : RS9} (C : CC X p l (RM 11 0 0) s m args meth c RX9 cX9_tell 3 (some .int)) (h : mX9_tell_b55 s0 σ = some r) : AW X p l e (RM 11 0 0) s m args below meth c 3 (ZM X below args s 0 0 (QMi f n r)) (rHm f σ) n 0 0 55 [none, none, none] [.int s0] := by
  have h : some (s0, σ) = some r := h
  cases h
  exact aw_iret C rfl rfl dX9_tell_55 (Nat.le_refl _) (Nat.le_refl _) ⟨rfl, rfl, rfl⟩
def mX9_tell_b17 (v1 : Int32) (v2 : Int32) (s1 : Int32) (σ : RS9) : Option (Int32 × RS9) := (if s1 ≤ (0 : Int32) then ((mX9_putsAside (rSf σ 0 s1)).bind fun r1 => ((mX9_tell0 v1 v2 r1.2).bind fun r2 => ((mX9_isDone r2.1 (2 : Int32) r2.2).bind fun r3 => (if r3.1 = (0 : Int32) then mX9_tell_b55 (0 : Int32) r3.2 else ((mX9_builtMany r3.2).bind fun r4 => mX9_tell_b55 r4.1 r4.2))))) else some ((0 : Int32), (rSf σ 0 s1)))
set_option maxHeartbeats 1000000 in
theorem rmX9_tell_b17 {X : GX} {p : Program} {l : Launch} {e : Env} {s : State} {m : MethodId} {args : Array Value} {below : List Frame} {meth : Method} {c : Code} {f : AH} {n : Nat} {r : Int32 × RS9} {v1 : Int32} {v2 : Int32} {s1 : Int32} {σ : RS9} (C : CC X p l (RM 11 0 0) s m args meth c RX9 cX9_tell 3 (some .int)) (h : mX9_tell_b17 v1 v2 s1 σ = some r) : AW X p l e (RM 11 0 0) s m args below meth c 3 (ZM X below args s 0 0 (QMi f n r)) (rHm f σ) n 0 0 17 [some (.ref 181), some (.int v1), some (.int v2)] [.int s1, .ref 181] := by
  have h : (if s1 ≤ (0 : Int32) then ((mX9_putsAside (rSf σ 0 s1)).bind fun r1 => ((mX9_tell0 v1 v2 r1.2).bind fun r2 => ((mX9_isDone r2.1 (2 : Int32) r2.2).bind fun r3 => (if r3.1 = (0 : Int32) then mX9_tell_b55 (0 : Int32) r3.2 else ((mX9_builtMany r3.2).bind fun r4 => mX9_tell_b55 r4.1 r4.2))))) else some ((0 : Int32), (rSf σ 0 s1))) = some r := h
  refine am_put C gf_X9_138 nf9_0 rfl rfl dX9_tell_17 ?_
  refine aw_ald_n C dX9_tell_20 rfl ?_
  refine aw_get C (v := .int s1) gf_X9_138 (hm_M f (rSf σ 0 s1)) rfl dX9_tell_21 ?_
  refine aw_if_le C 29 dX9_tell_24 (by decide) (fun q => ?_) (fun q => ?_)
  · rw [if_pos q] at h
    refine aw_ald_n C dX9_tell_29 rfl ?_
    obtain ⟨r1, h1, h⟩ := Option.bind_eq_some_iff.mp h
    refine aw_callV C (ci := 9) (b := 181) [] mv_X9_420 rfl rfl (hm_M f (rSf σ 0 s1)) (rmX9_putsAside h1) rfl dX9_tell_30 (Nat.le_of_ble_eq_true rfl) (Nat.le_of_ble_eq_true rfl) rfl (Nat.le_of_ble_eq_true rfl) (Nat.le_of_ble_eq_true rfl) (Nat.le_of_ble_eq_true rfl) (fun v9 f9 n9 hh => ?_)
    obtain ⟨rfl, rfl, rfl⟩ := hh
    refine aw_ald_n C dX9_tell_33 rfl ?_
    refine aw_ald_n C dX9_tell_34 rfl ?_
    refine aw_iload_n C dX9_tell_35 rfl ?_
    refine aw_iload_n C dX9_tell_36 rfl ?_
    obtain ⟨r2, h2, h⟩ := Option.bind_eq_some_iff.mp h
    refine aw_callV C (ci := 9) (b := 181) [.int v1, .int v2] mv_X9_438 rfl rfl (hm_M f r1.2) (rmX9_tell0 h2) rfl dX9_tell_37 (Nat.le_of_ble_eq_true rfl) (Nat.le_of_ble_eq_true rfl) rfl (Nat.le_of_ble_eq_true rfl) (Nat.le_of_ble_eq_true rfl) (Nat.le_of_ble_eq_true rfl) (fun v9 f9 n9 hh => ?_)
    obtain ⟨rfl, rfl, rfl⟩ := hh
    refine aw_iconst C 2 dX9_tell_40 ki_2 ?_
    obtain ⟨r3, h3, h⟩ := Option.bind_eq_some_iff.mp h
    refine aw_callV C (ci := 9) (b := 181) [.int r2.1, .int (2 : Int32)] mv_X9_429 rfl rfl (hm_M f r2.2) (rmX9_isDone h3) rfl dX9_tell_41 (Nat.le_of_ble_eq_true rfl) (Nat.le_of_ble_eq_true rfl) rfl (Nat.le_of_ble_eq_true rfl) (Nat.le_of_ble_eq_true rfl) (Nat.le_of_ble_eq_true rfl) (fun v9 f9 n9 hh => ?_)
    obtain ⟨rfl, rfl, rfl⟩ := hh
    refine aw_if_eq C 54 dX9_tell_44 (by decide) (fun q => ?_) (fun q => ?_)
    · rw [if_pos q] at h
      refine aw_iconst C 0 dX9_tell_54 ki_0 ?_
      refine aw_fl [none, none, none] trivial ?_
      exact rmX9_tell_b55 C h
    · rw [if_neg q] at h
      refine aw_ald_n C dX9_tell_47 rfl ?_
      obtain ⟨r4, h4, h⟩ := Option.bind_eq_some_iff.mp h
      refine aw_callV C (ci := 9) (b := 181) [] mv_X9_300 rfl rfl (hm_M f r3.2) (rmX9_builtMany h4) rfl dX9_tell_48 (Nat.le_of_ble_eq_true rfl) (Nat.le_of_ble_eq_true rfl) rfl (Nat.le_of_ble_eq_true rfl) (Nat.le_of_ble_eq_true rfl) (Nat.le_of_ble_eq_true rfl) (fun v9 f9 n9 hh => ?_)
      obtain ⟨rfl, rfl, rfl⟩ := hh
      refine aw_goto C 55 dX9_tell_51 (by decide) ?_
      refine aw_fl [none, none, none] trivial ?_
      exact rmX9_tell_b55 C h
  · rw [if_neg q] at h
    refine aw_iconst C 0 dX9_tell_27 ki_0 ?_
    cases h
    exact aw_iret C rfl rfl dX9_tell_28 (Nat.le_refl _) (Nat.le_refl _) ⟨rfl, rfl, rfl⟩
def mX9_tell (v1 : Int32) (σ : RS9) : Option (Int32 × RS9) := ((mX9_tookTold σ).bind fun r1 => (if r1.1 ≤ (60 : Int32) then mX9_tell_b17 v1 r1.1 (0 : Int32) r1.2 else mX9_tell_b17 v1 r1.1 (1 : Int32) r1.2))
set_option maxHeartbeats 1000000 in
theorem rmX9_tell {X : GX} {l : Launch} {f : AH} {n : Nat} {r : Int32 × RS9} {v1 : Int32} {σ : RS9} (h : mX9_tell v1 σ = some r) : AM X l yX9_tell cX9_tell 3 (some .int) 11 0 0 [.ref 181, .int v1] (rHm f σ) n (QMi f n r) := by
  have h : ((mX9_tookTold σ).bind fun r1 => (if r1.1 ≤ (60 : Int32) then mX9_tell_b17 v1 r1.1 (0 : Int32) r1.2 else mX9_tell_b17 v1 r1.1 (1 : Int32) r1.2)) = some r := h
  refine AM.of (by decide +kernel) rfl (Nat.le_of_ble_eq_true rfl) (fun p e s m args below meth c C _ => ?_)
  refine aw_nl [some (.ref 181), some (.int v1), none] rfl ?_
  refine aw_ald_n C dX9_tell_0 rfl ?_
  obtain ⟨r1, h1, h⟩ := Option.bind_eq_some_iff.mp h
  refine aw_callV C (ci := 9) (b := 181) [] mv_X9_435 rfl rfl (hm_M f σ) (rmX9_tookTold h1) rfl dX9_tell_1 (Nat.le_of_ble_eq_true rfl) (Nat.le_of_ble_eq_true rfl) rfl (Nat.le_of_ble_eq_true rfl) (Nat.le_of_ble_eq_true rfl) (Nat.le_of_ble_eq_true rfl) (fun v9 f9 n9 hh => ?_)
  obtain ⟨rfl, rfl, rfl⟩ := hh
  refine aw_istore_n C dX9_tell_4 (by decide) rfl ?_
  refine aw_nl [some (.ref 181), some (.int v1), some (.int r1.1)] rfl ?_
  refine aw_ald_n C dX9_tell_5 rfl ?_
  refine aw_iload_n C dX9_tell_6 rfl ?_
  refine aw_bipush C 60 dX9_tell_7 kb_60 ?_
  refine aw_icmp_le C 16 dX9_tell_9 (by decide) (fun q => ?_) (fun q => ?_)
  · rw [if_pos q] at h
    refine aw_iconst C 0 dX9_tell_16 ki_0 ?_
    refine aw_fl [some (.ref 181), some (.int v1), some (.int r1.1)] ⟨rfl, ⟨rfl, ⟨rfl, trivial⟩⟩⟩ ?_
    exact rmX9_tell_b17 C h
  · rw [if_neg q] at h
    refine aw_iconst C 1 dX9_tell_12 ki_1 ?_
    refine aw_goto C 17 dX9_tell_13 (by decide) ?_
    refine aw_fl [some (.ref 181), some (.int v1), some (.int r1.1)] ⟨rfl, ⟨rfl, ⟨rfl, trivial⟩⟩⟩ ?_
    exact rmX9_tell_b17 C h
def mX9_free_b25 (s0 : Int32) (σ : RS9) : Option (Int32 × RS9) := some (s0, σ)
set_option maxHeartbeats 1000000 in
theorem rmX9_free_b25 {X : GX} {p : Program} {l : Launch} {e : Env} {s : State} {m : MethodId} {args : Array Value} {below : List Frame} {meth : Method} {c : Code} {f : AH} {n : Nat} {r : Int32 × RS9} {s0 : Int32} {σ : RS9} (C : CC X p l (RM 11 0 0) s m args meth c RX9 cX9_free 2 (some .int)) (h : mX9_free_b25 s0 σ = some r) : AW X p l e (RM 11 0 0) s m args below meth c 2 (ZM X below args s 0 0 (QMi f n r)) (rHm f σ) n 0 0 25 [none, none] [.int s0] := by
  have h : some (s0, σ) = some r := h
  cases h
  exact aw_iret C rfl rfl dX9_free_25 (Nat.le_refl _) (Nat.le_refl _) ⟨rfl, rfl, rfl⟩
def mX9_free (v1 : Int32) (σ : RS9) : Option (Int32 × RS9) := ((mX9_putsAside σ).bind fun r1 => ((mX9_free0 v1 r1.2).bind fun r2 => ((mX9_isDone r2.1 (1 : Int32) r2.2).bind fun r3 => (if r3.1 = (0 : Int32) then mX9_free_b25 (0 : Int32) r3.2 else ((mX9_builtMany r3.2).bind fun r4 => mX9_free_b25 r4.1 r4.2)))))
set_option maxHeartbeats 1000000 in
theorem rmX9_free {X : GX} {l : Launch} {f : AH} {n : Nat} {r : Int32 × RS9} {v1 : Int32} {σ : RS9} (h : mX9_free v1 σ = some r) : AM X l yX9_free cX9_free 2 (some .int) 11 0 0 [.ref 181, .int v1] (rHm f σ) n (QMi f n r) := by
  have h : ((mX9_putsAside σ).bind fun r1 => ((mX9_free0 v1 r1.2).bind fun r2 => ((mX9_isDone r2.1 (1 : Int32) r2.2).bind fun r3 => (if r3.1 = (0 : Int32) then mX9_free_b25 (0 : Int32) r3.2 else ((mX9_builtMany r3.2).bind fun r4 => mX9_free_b25 r4.1 r4.2))))) = some r := h
  refine AM.of (by decide +kernel) rfl (Nat.le_of_ble_eq_true rfl) (fun p e s m args below meth c C _ => ?_)
  refine aw_nl [some (.ref 181), some (.int v1)] rfl ?_
  refine aw_ald_n C dX9_free_0 rfl ?_
  obtain ⟨r1, h1, h⟩ := Option.bind_eq_some_iff.mp h
  refine aw_callV C (ci := 9) (b := 181) [] mv_X9_420 rfl rfl (hm_M f σ) (rmX9_putsAside h1) rfl dX9_free_1 (Nat.le_of_ble_eq_true rfl) (Nat.le_of_ble_eq_true rfl) rfl (Nat.le_of_ble_eq_true rfl) (Nat.le_of_ble_eq_true rfl) (Nat.le_of_ble_eq_true rfl) (fun v9 f9 n9 hh => ?_)
  obtain ⟨rfl, rfl, rfl⟩ := hh
  refine aw_ald_n C dX9_free_4 rfl ?_
  refine aw_ald_n C dX9_free_5 rfl ?_
  refine aw_iload_n C dX9_free_6 rfl ?_
  obtain ⟨r2, h2, h⟩ := Option.bind_eq_some_iff.mp h
  refine aw_callV C (ci := 9) (b := 181) [.int v1] mv_X9_367 rfl rfl (hm_M f r1.2) (rmX9_free0 h2) rfl dX9_free_7 (Nat.le_of_ble_eq_true rfl) (Nat.le_of_ble_eq_true rfl) rfl (Nat.le_of_ble_eq_true rfl) (Nat.le_of_ble_eq_true rfl) (Nat.le_of_ble_eq_true rfl) (fun v9 f9 n9 hh => ?_)
  obtain ⟨rfl, rfl, rfl⟩ := hh
  refine aw_iconst C 1 dX9_free_10 ki_1 ?_
  obtain ⟨r3, h3, h⟩ := Option.bind_eq_some_iff.mp h
  refine aw_callV C (ci := 9) (b := 181) [.int r2.1, .int (1 : Int32)] mv_X9_429 rfl rfl (hm_M f r2.2) (rmX9_isDone h3) rfl dX9_free_11 (Nat.le_of_ble_eq_true rfl) (Nat.le_of_ble_eq_true rfl) rfl (Nat.le_of_ble_eq_true rfl) (Nat.le_of_ble_eq_true rfl) (Nat.le_of_ble_eq_true rfl) (fun v9 f9 n9 hh => ?_)
  obtain ⟨rfl, rfl, rfl⟩ := hh
  refine aw_if_eq C 24 dX9_free_14 (by decide) (fun q => ?_) (fun q => ?_)
  · rw [if_pos q] at h
    refine aw_iconst C 0 dX9_free_24 ki_0 ?_
    refine aw_fl [none, none] trivial ?_
    exact rmX9_free_b25 C h
  · rw [if_neg q] at h
    refine aw_ald_n C dX9_free_17 rfl ?_
    obtain ⟨r4, h4, h⟩ := Option.bind_eq_some_iff.mp h
    refine aw_callV C (ci := 9) (b := 181) [] mv_X9_300 rfl rfl (hm_M f r3.2) (rmX9_builtMany h4) rfl dX9_free_18 (Nat.le_of_ble_eq_true rfl) (Nat.le_of_ble_eq_true rfl) rfl (Nat.le_of_ble_eq_true rfl) (Nat.le_of_ble_eq_true rfl) (Nat.le_of_ble_eq_true rfl) (fun v9 f9 n9 hh => ?_)
    obtain ⟨rfl, rfl, rfl⟩ := hh
    refine aw_goto C 25 dX9_free_21 (by decide) ?_
    refine aw_fl [none, none] trivial ?_
    exact rmX9_free_b25 C h
