def mX9_builtMany_l9 : Nat → Int32 → Int32 → RS9 → Option (Int32 × RS9)
  | 0, _, _, _ => none
  | d + 1, v1, v2, σ => (if (σ.1 33) ≤ v2 then some (v1, σ) else ((mX9_builtOf v2 σ).bind fun r1 => rCk (rIn v2 (rLen 35)) (rCk (rIn v2 (rLen 34)) (mX9_builtMany_l9 d (v1 + (r1.1 - ((rGa r1.2 35 v2) - (rGa r1.2 34 v2)))) (v2 + (1 : Int32)) r1.2))))
set_option maxHeartbeats 1000000 in
theorem rmX9_builtMany_l9 {X : GX} {p : Program} {l : Launch} {e : Env} {s : State} {m : MethodId} {args : Array Value} {below : List Frame} {meth : Method} {c : Code} {f : AH} {n : Nat} {r : Int32 × RS9} (C : CC X p l (RM 9 0 0) s m args meth c RX9 cX9_builtMany 3 (some .int)) : ∀ (d : Nat) (v1 : Int32) (v2 : Int32) (σ : RS9) (_ : mX9_builtMany_l9 d v1 v2 σ = some r), AW X p l e (RM 9 0 0) s m args below meth c 3 (ZM X below args s 0 0 (QMi f n r)) (rHm f σ) n 0 0 9 [some (.ref 181), some (.int v1), some (.int v2)] [] := by
  intro d
  induction d with
  | zero =>
    intro v1 v2 σ h
    exact nomatch (show (none : Option (Int32 × RS9)) = some r from h)
  | succ d ih =>
    intro v1 v2 σ h
    have h : (if (σ.1 33) ≤ v2 then some (v1, σ) else ((mX9_builtOf v2 σ).bind fun r1 => rCk (rIn v2 (rLen 35)) (rCk (rIn v2 (rLen 34)) (mX9_builtMany_l9 d (v1 + (r1.1 - ((rGa r1.2 35 v2) - (rGa r1.2 34 v2)))) (v2 + (1 : Int32)) r1.2)))) = some r := h
    refine aw_iload_n C dX9_builtMany_9 rfl ?_
    refine aw_ald_n C dX9_builtMany_10 rfl ?_
    refine aw_get C (v := .int (σ.1 33)) gf_X9_204 (hm_M f σ) rfl dX9_builtMany_11 ?_
    refine aw_icmp_ge C 45 dX9_builtMany_14 (by decide) (fun q => ?_) (fun q => ?_)
    · rw [if_pos q] at h
      refine aw_iload_n C dX9_builtMany_45 rfl ?_
      cases h
      exact aw_iret C rfl rfl dX9_builtMany_46 (Nat.le_refl _) (Nat.le_refl _) ⟨rfl, rfl, rfl⟩
    · rw [if_neg q] at h
      refine aw_iload_n C dX9_builtMany_17 rfl ?_
      refine aw_ald_n C dX9_builtMany_18 rfl ?_
      refine aw_iload_n C dX9_builtMany_19 rfl ?_
      obtain ⟨r1, h1, h⟩ := Option.bind_eq_some_iff.mp h
      refine aw_callV C (ci := 9) (b := 181) [.int v2] mv_X9_290 rfl rfl (hm_M f σ) (rmX9_builtOf h1) rfl dX9_builtMany_20 (Nat.le_of_ble_eq_true rfl) (Nat.le_of_ble_eq_true rfl) rfl (Nat.le_of_ble_eq_true rfl) (Nat.le_of_ble_eq_true rfl) (Nat.le_of_ble_eq_true rfl) (fun v9 f9 n9 hh => ?_)
      obtain ⟨rfl, rfl, rfl⟩ := hh
      refine aw_ald_n C dX9_builtMany_23 rfl ?_
      refine aw_get C (v := .ref (rAid 35)) gf_X9_84 (hm_M f r1.2) rfl dX9_builtMany_24 ?_
      refine aw_iload_n C dX9_builtMany_27 rfl ?_
      obtain ⟨hb2, h⟩ := ck_some h
      refine am_iald C (rGa r1.2 35 v2) rfl (inb_vp hb2) rfl dX9_builtMany_28 ?_
      refine aw_ald_n C dX9_builtMany_29 rfl ?_
      refine aw_get C (v := .ref (rAid 34)) gf_X9_81 (hm_M f r1.2) rfl dX9_builtMany_30 ?_
      refine aw_iload_n C dX9_builtMany_33 rfl ?_
      obtain ⟨hb3, h⟩ := ck_some h
      refine am_iald C (rGa r1.2 34 v2) rfl (inb_vp hb3) rfl dX9_builtMany_34 ?_
      refine aw_isub C dX9_builtMany_35 ?_
      refine aw_isub C dX9_builtMany_36 ?_
      refine aw_iadd C dX9_builtMany_37 ?_
      refine aw_istore_n C dX9_builtMany_38 (by decide) rfl ?_
      refine aw_nl [some (.ref 181), some (.int (v1 + (r1.1 - ((rGa r1.2 35 v2) - (rGa r1.2 34 v2))))), some (.int v2)] rfl ?_
      refine aw_iinc C (v2 + (1 : Int32)) dX9_builtMany_39 rfl (by rw [ki_1]) (by decide) rfl ?_
      refine aw_nl [some (.ref 181), some (.int (v1 + (r1.1 - ((rGa r1.2 35 v2) - (rGa r1.2 34 v2))))), some (.int (v2 + (1 : Int32)))] rfl ?_
      refine aw_goto C 9 dX9_builtMany_42 (by decide) ?_
      refine aw_fl [some (.ref 181), some (.int (v1 + (r1.1 - ((rGa r1.2 35 v2) - (rGa r1.2 34 v2))))), some (.int (v2 + (1 : Int32)))] ⟨rfl, ⟨rfl, ⟨rfl, trivial⟩⟩⟩ ?_
      exact ih (v1 + (r1.1 - ((rGa r1.2 35 v2) - (rGa r1.2 34 v2)))) (v2 + (1 : Int32)) r1.2 h
def mX9_builtMany (σ : RS9) : Option (Int32 × RS9) := rCk (rIn (0 : Int32) (rLen 1)) (mX9_builtMany_l9 rFU (rGa σ 1 (0 : Int32)) (0 : Int32) σ)
set_option maxHeartbeats 1000000 in
theorem rmX9_builtMany {X : GX} {l : Launch} {f : AH} {n : Nat} {r : Int32 × RS9} {σ : RS9} (h : mX9_builtMany σ = some r) : AM X l yX9_builtMany cX9_builtMany 3 (some .int) 9 0 0 [.ref 181] (rHm f σ) n (QMi f n r) := by
  have h : rCk (rIn (0 : Int32) (rLen 1)) (mX9_builtMany_l9 rFU (rGa σ 1 (0 : Int32)) (0 : Int32) σ) = some r := h
  refine AM.of (by decide +kernel) rfl (Nat.le_of_ble_eq_true rfl) (fun p e s m args below meth c C _ => ?_)
  refine aw_nl [some (.ref 181), none, none] rfl ?_
  refine aw_ald_n C dX9_builtMany_0 rfl ?_
  refine aw_get C (v := .ref (rAid 1)) gf_X9_7 (hm_M f σ) rfl dX9_builtMany_1 ?_
  refine aw_iconst C 0 dX9_builtMany_4 ki_0 ?_
  obtain ⟨hb1, h⟩ := ck_some h
  refine am_iald C (rGa σ 1 (0 : Int32)) rfl (inb_vp hb1) rfl dX9_builtMany_5 ?_
  refine aw_istore_n C dX9_builtMany_6 (by decide) rfl ?_
  refine aw_nl [some (.ref 181), some (.int (rGa σ 1 (0 : Int32))), none] rfl ?_
  refine aw_iconst C 0 dX9_builtMany_7 ki_0 ?_
  refine aw_istore_n C dX9_builtMany_8 (by decide) rfl ?_
  refine aw_nl [some (.ref 181), some (.int (rGa σ 1 (0 : Int32))), some (.int (0 : Int32))] rfl ?_
  refine aw_fl [some (.ref 181), some (.int (rGa σ 1 (0 : Int32))), some (.int (0 : Int32))] ⟨rfl, ⟨rfl, ⟨rfl, trivial⟩⟩⟩ ?_
  exact rmX9_builtMany_l9 C rFU (rGa σ 1 (0 : Int32)) (0 : Int32) σ h
def mX9_free0_b50 (s0 : Int32) (σ : RS9) : Option (Int32 × RS9) := some (s0, σ)
set_option maxHeartbeats 1000000 in
theorem rmX9_free0_b50 {X : GX} {p : Program} {l : Launch} {e : Env} {s : State} {m : MethodId} {args : Array Value} {below : List Frame} {meth : Method} {c : Code} {f : AH} {n : Nat} {r : Int32 × RS9} {s0 : Int32} {σ : RS9} (C : CC X p l (RM 10 0 0) s m args meth c RX9 cX9_free0 2 (some .int)) (h : mX9_free0_b50 s0 σ = some r) : AW X p l e (RM 10 0 0) s m args below meth c 2 (ZM X below args s 0 0 (QMi f n r)) (rHm f σ) n 0 0 50 [none, none] [.int s0] := by
  have h : some (s0, σ) = some r := h
  cases h
  exact aw_iret C rfl rfl dX9_free0_50 (Nat.le_refl _) (Nat.le_refl _) ⟨rfl, rfl, rfl⟩
def mX9_free0 (v1 : Int32) (σ : RS9) : Option (Int32 × RS9) := ((mX9_isPieceThere v1 σ).bind fun r1 => (if r1.1 = (0 : Int32) then some ((1 : Int32), r1.2) else ((mX9_toldOf v1 r1.2).bind fun r2 => (if r2.1 = (-1 : Int32) then some ((4 : Int32), r2.2) else rCk (rIn ((443 : Int32) + ((61 : Int32) * v1)) (rLen 1)) (((mX9_builtMany (rSa r2.2 1 ((443 : Int32) + ((61 : Int32) * v1)) (-1 : Int32))).bind fun r4 => (if r4.1 ≤ (600 : Int32) then mX9_free0_b50 (0 : Int32) r4.2 else mX9_free0_b50 (3 : Int32) r4.2)))))))
set_option maxHeartbeats 1000000 in
theorem rmX9_free0 {X : GX} {l : Launch} {f : AH} {n : Nat} {r : Int32 × RS9} {v1 : Int32} {σ : RS9} (h : mX9_free0 v1 σ = some r) : AM X l yX9_free0 cX9_free0 2 (some .int) 10 0 0 [.ref 181, .int v1] (rHm f σ) n (QMi f n r) := by
  have h : ((mX9_isPieceThere v1 σ).bind fun r1 => (if r1.1 = (0 : Int32) then some ((1 : Int32), r1.2) else ((mX9_toldOf v1 r1.2).bind fun r2 => (if r2.1 = (-1 : Int32) then some ((4 : Int32), r2.2) else rCk (rIn ((443 : Int32) + ((61 : Int32) * v1)) (rLen 1)) (((mX9_builtMany (rSa r2.2 1 ((443 : Int32) + ((61 : Int32) * v1)) (-1 : Int32))).bind fun r4 => (if r4.1 ≤ (600 : Int32) then mX9_free0_b50 (0 : Int32) r4.2 else mX9_free0_b50 (3 : Int32) r4.2))))))) = some r := h
  refine AM.of (by decide +kernel) rfl (Nat.le_of_ble_eq_true rfl) (fun p e s m args below meth c C _ => ?_)
  refine aw_nl [some (.ref 181), some (.int v1)] rfl ?_
  refine aw_ald_n C dX9_free0_0 rfl ?_
  refine aw_iload_n C dX9_free0_1 rfl ?_
  obtain ⟨r1, h1, h⟩ := Option.bind_eq_some_iff.mp h
  refine aw_callV C (ci := 9) (b := 181) [.int v1] mv_X9_293 rfl rfl (hm_M f σ) (rmX9_isPieceThere h1) rfl dX9_free0_2 (Nat.le_of_ble_eq_true rfl) (Nat.le_of_ble_eq_true rfl) rfl (Nat.le_of_ble_eq_true rfl) (Nat.le_of_ble_eq_true rfl) (Nat.le_of_ble_eq_true rfl) (fun v9 f9 n9 hh => ?_)
  obtain ⟨rfl, rfl, rfl⟩ := hh
  refine aw_if_ne C 10 dX9_free0_5 (by decide) (fun q => ?_) (fun q => ?_)
  · rw [if_neg q] at h
    refine aw_ald_n C dX9_free0_10 rfl ?_
    refine aw_iload_n C dX9_free0_11 rfl ?_
    obtain ⟨r2, h2, h⟩ := Option.bind_eq_some_iff.mp h
    refine aw_callV C (ci := 9) (b := 181) [.int v1] mv_X9_247 rfl rfl (hm_M f r1.2) (rmX9_toldOf h2) rfl dX9_free0_12 (Nat.le_of_ble_eq_true rfl) (Nat.le_of_ble_eq_true rfl) rfl (Nat.le_of_ble_eq_true rfl) (Nat.le_of_ble_eq_true rfl) (Nat.le_of_ble_eq_true rfl) (fun v9 f9 n9 hh => ?_)
    obtain ⟨rfl, rfl, rfl⟩ := hh
    refine aw_iconst C (-1) dX9_free0_15 ki_m1 ?_
    refine aw_icmp_ne C 21 dX9_free0_16 (by decide) (fun q => ?_) (fun q => ?_)
    · rw [if_neg q] at h
      refine aw_ald_n C dX9_free0_21 rfl ?_
      refine aw_get C (v := .ref (rAid 1)) gf_X9_7 (hm_M f r2.2) rfl dX9_free0_22 ?_
      refine aw_sipush C 443 dX9_free0_25 ks_443 ?_
      refine aw_bipush C 61 dX9_free0_28 kb_61 ?_
      refine aw_iload_n C dX9_free0_30 rfl ?_
      refine aw_imul C dX9_free0_31 ?_
      refine aw_iadd C dX9_free0_32 ?_
      refine aw_iconst C (-1) dX9_free0_33 ki_m1 ?_
      obtain ⟨hb3, h⟩ := ck_some h
      refine am_iast C rfl (inb_vp hb3) dX9_free0_34 ?_
      refine aw_ald_n C dX9_free0_35 rfl ?_
      obtain ⟨r4, h4, h⟩ := Option.bind_eq_some_iff.mp h
      refine aw_callV C (ci := 9) (b := 181) [] mv_X9_300 rfl rfl (hm_M f (rSa r2.2 1 ((443 : Int32) + ((61 : Int32) * v1)) (-1 : Int32))) (rmX9_builtMany h4) rfl dX9_free0_36 (Nat.le_of_ble_eq_true rfl) (Nat.le_of_ble_eq_true rfl) rfl (Nat.le_of_ble_eq_true rfl) (Nat.le_of_ble_eq_true rfl) (Nat.le_of_ble_eq_true rfl) (fun v9 f9 n9 hh => ?_)
      obtain ⟨rfl, rfl, rfl⟩ := hh
      refine aw_sipush C 600 dX9_free0_39 ks_600 ?_
      refine aw_icmp_le C 49 dX9_free0_42 (by decide) (fun q => ?_) (fun q => ?_)
      · rw [if_pos q] at h
        refine aw_iconst C 0 dX9_free0_49 ki_0 ?_
        refine aw_fl [none, none] trivial ?_
        exact rmX9_free0_b50 C h
      · rw [if_neg q] at h
        refine aw_iconst C 3 dX9_free0_45 ki_3 ?_
        refine aw_goto C 50 dX9_free0_46 (by decide) ?_
        refine aw_fl [none, none] trivial ?_
        exact rmX9_free0_b50 C h
    · rw [if_pos q] at h
      refine aw_iconst C 4 dX9_free0_19 ki_4 ?_
      cases h
      exact aw_iret C rfl rfl dX9_free0_20 (Nat.le_refl _) (Nat.le_refl _) ⟨rfl, rfl, rfl⟩
  · rw [if_pos q] at h
    refine aw_iconst C 1 dX9_free0_8 ki_1 ?_
    cases h
    exact aw_iret C rfl rfl dX9_free0_9 (Nat.le_refl _) (Nat.le_refl _) ⟨rfl, rfl, rfl⟩
def mX9_spread0_b113 (s0 : Int32) (σ : RS9) : Option (Int32 × RS9) := some (s0, σ)
set_option maxHeartbeats 1000000 in
theorem rmX9_spread0_b113 {X : GX} {p : Program} {l : Launch} {e : Env} {s : State} {m : MethodId} {args : Array Value} {below : List Frame} {meth : Method} {c : Code} {f : AH} {n : Nat} {r : Int32 × RS9} {s0 : Int32} {σ : RS9} (C : CC X p l (RM 10 0 0) s m args meth c RX9 cX9_spread0 4 (some .int)) (h : mX9_spread0_b113 s0 σ = some r) : AW X p l e (RM 10 0 0) s m args below meth c 4 (ZM X below args s 0 0 (QMi f n r)) (rHm f σ) n 0 0 113 [none, none, none, none] [.int s0] := by
  have h : some (s0, σ) = some r := h
  cases h
  exact aw_iret C rfl rfl dX9_spread0_113 (Nat.le_refl _) (Nat.le_refl _) ⟨rfl, rfl, rfl⟩
def mX9_spread0_b92 (rec39 : Int32 → Int32 → Int32 → RS9 → Option (Int32 × RS9)) (v1 : Int32) (v2 : Int32) (v3 : Int32) (σ : RS9) : Option (Int32 × RS9) := rec39 v1 v2 (v3 + (1 : Int32)) σ
set_option maxHeartbeats 1000000 in
theorem rmX9_spread0_b92 {X : GX} {p : Program} {l : Launch} {e : Env} {s : State} {m : MethodId} {args : Array Value} {below : List Frame} {meth : Method} {c : Code} {f : AH} {n : Nat} {r : Int32 × RS9} {rec39 : Int32 → Int32 → Int32 → RS9 → Option (Int32 × RS9)} {v1 : Int32} {v2 : Int32} {v3 : Int32} {σ : RS9} (C : CC X p l (RM 10 0 0) s m args meth c RX9 cX9_spread0 4 (some .int)) (Hr39 : ∀ (v1 : Int32) (v2 : Int32) (v3 : Int32) (σ : RS9), rec39 v1 v2 v3 σ = some r → AW X p l e (RM 10 0 0) s m args below meth c 4 (ZM X below args s 0 0 (QMi f n r)) (rHm f σ) n 0 0 39 [some (.ref 181), some (.int v1), some (.int v2), some (.int v3)] []) (h : mX9_spread0_b92 rec39 v1 v2 v3 σ = some r) : AW X p l e (RM 10 0 0) s m args below meth c 4 (ZM X below args s 0 0 (QMi f n r)) (rHm f σ) n 0 0 92 [some (.ref 181), some (.int v1), some (.int v2), some (.int v3)] [] := by
  have h : rec39 v1 v2 (v3 + (1 : Int32)) σ = some r := h
  refine aw_iinc C (v3 + (1 : Int32)) dX9_spread0_92 rfl (by rw [ki_1]) (by decide) rfl ?_
  refine aw_nl [some (.ref 181), some (.int v1), some (.int v2), some (.int (v3 + (1 : Int32)))] rfl ?_
  refine aw_goto C 39 dX9_spread0_95 (by decide) ?_
  refine aw_fl [some (.ref 181), some (.int v1), some (.int v2), some (.int (v3 + (1 : Int32)))] ⟨rfl, ⟨rfl, ⟨rfl, ⟨rfl, trivial⟩⟩⟩⟩ ?_
  exact Hr39 v1 v2 (v3 + (1 : Int32)) σ h
def mX9_spread0_l39 : Nat → Int32 → Int32 → Int32 → RS9 → Option (Int32 × RS9)
  | 0, _, _, _, _ => none
  | d + 1, v1, v2, v3, σ => (if (σ.1 33) ≤ v3 then ((mX9_builtMany σ).bind fun r1 => (if r1.1 ≤ (600 : Int32) then mX9_spread0_b113 (0 : Int32) r1.2 else mX9_spread0_b113 (3 : Int32) r1.2)) else ((mX9_areLike v1 v3 σ).bind fun r2 => (if r2.1 = (0 : Int32) then mX9_spread0_b92 (fun v1 v2 v3 σ => mX9_spread0_l39 d v1 v2 v3 σ) v1 v2 v3 r2.2 else (if v3 = v1 then mX9_spread0_b92 (fun v1 v2 v3 σ => mX9_spread0_l39 d v1 v2 v3 σ) v1 v2 v3 r2.2 else ((mX9_escapedFor v3 v2 r2.2).bind fun r3 => (if r3.1 = (-1 : Int32) then some ((2 : Int32), r3.2) else ((mX9_tells v3 v2 r3.2).bind fun r4 => mX9_spread0_b92 (fun v1 v2 v3 σ => mX9_spread0_l39 d v1 v2 v3 σ) v1 v2 v3 (rSf r4.2 57 ((r4.2.1 57) + (1 : Int32))))))))))
set_option maxHeartbeats 1000000 in
theorem rmX9_spread0_l39 {X : GX} {p : Program} {l : Launch} {e : Env} {s : State} {m : MethodId} {args : Array Value} {below : List Frame} {meth : Method} {c : Code} {f : AH} {n : Nat} {r : Int32 × RS9} (C : CC X p l (RM 10 0 0) s m args meth c RX9 cX9_spread0 4 (some .int)) : ∀ (d : Nat) (v1 : Int32) (v2 : Int32) (v3 : Int32) (σ : RS9) (_ : mX9_spread0_l39 d v1 v2 v3 σ = some r), AW X p l e (RM 10 0 0) s m args below meth c 4 (ZM X below args s 0 0 (QMi f n r)) (rHm f σ) n 0 0 39 [some (.ref 181), some (.int v1), some (.int v2), some (.int v3)] [] := by
  intro d
  induction d with
  | zero =>
    intro v1 v2 v3 σ h
    exact nomatch (show (none : Option (Int32 × RS9)) = some r from h)
  | succ d ih =>
    intro v1 v2 v3 σ h
    have h : (if (σ.1 33) ≤ v3 then ((mX9_builtMany σ).bind fun r1 => (if r1.1 ≤ (600 : Int32) then mX9_spread0_b113 (0 : Int32) r1.2 else mX9_spread0_b113 (3 : Int32) r1.2)) else ((mX9_areLike v1 v3 σ).bind fun r2 => (if r2.1 = (0 : Int32) then mX9_spread0_b92 (fun v1 v2 v3 σ => mX9_spread0_l39 d v1 v2 v3 σ) v1 v2 v3 r2.2 else (if v3 = v1 then mX9_spread0_b92 (fun v1 v2 v3 σ => mX9_spread0_l39 d v1 v2 v3 σ) v1 v2 v3 r2.2 else ((mX9_escapedFor v3 v2 r2.2).bind fun r3 => (if r3.1 = (-1 : Int32) then some ((2 : Int32), r3.2) else ((mX9_tells v3 v2 r3.2).bind fun r4 => mX9_spread0_b92 (fun v1 v2 v3 σ => mX9_spread0_l39 d v1 v2 v3 σ) v1 v2 v3 (rSf r4.2 57 ((r4.2.1 57) + (1 : Int32)))))))))) = some r := h
    refine aw_iload_n C dX9_spread0_39 rfl ?_
    refine aw_ald_n C dX9_spread0_40 rfl ?_
    refine aw_get C (v := .int (σ.1 33)) gf_X9_204 (hm_M f σ) rfl dX9_spread0_41 ?_
    refine aw_icmp_ge C 98 dX9_spread0_44 (by decide) (fun q => ?_) (fun q => ?_)
    · rw [if_pos q] at h
      refine aw_ald_n C dX9_spread0_98 rfl ?_
      obtain ⟨r1, h1, h⟩ := Option.bind_eq_some_iff.mp h
      refine aw_callV C (ci := 9) (b := 181) [] mv_X9_300 rfl rfl (hm_M f σ) (rmX9_builtMany h1) rfl dX9_spread0_99 (Nat.le_of_ble_eq_true rfl) (Nat.le_of_ble_eq_true rfl) rfl (Nat.le_of_ble_eq_true rfl) (Nat.le_of_ble_eq_true rfl) (Nat.le_of_ble_eq_true rfl) (fun v9 f9 n9 hh => ?_)
      obtain ⟨rfl, rfl, rfl⟩ := hh
      refine aw_sipush C 600 dX9_spread0_102 ks_600 ?_
      refine aw_icmp_le C 112 dX9_spread0_105 (by decide) (fun q => ?_) (fun q => ?_)
      · rw [if_pos q] at h
        refine aw_iconst C 0 dX9_spread0_112 ki_0 ?_
        refine aw_fl [none, none, none, none] trivial ?_
        exact rmX9_spread0_b113 C h
      · rw [if_neg q] at h
        refine aw_iconst C 3 dX9_spread0_108 ki_3 ?_
        refine aw_goto C 113 dX9_spread0_109 (by decide) ?_
        refine aw_fl [none, none, none, none] trivial ?_
        exact rmX9_spread0_b113 C h
    · rw [if_neg q] at h
      refine aw_ald_n C dX9_spread0_47 rfl ?_
      refine aw_iload_n C dX9_spread0_48 rfl ?_
      refine aw_iload_n C dX9_spread0_49 rfl ?_
      obtain ⟨r2, h2, h⟩ := Option.bind_eq_some_iff.mp h
      refine aw_callV C (ci := 9) (b := 181) [.int v1, .int v3] mv_X9_309 rfl rfl (hm_M f σ) (rmX9_areLike h2) rfl dX9_spread0_50 (Nat.le_of_ble_eq_true rfl) (Nat.le_of_ble_eq_true rfl) rfl (Nat.le_of_ble_eq_true rfl) (Nat.le_of_ble_eq_true rfl) (Nat.le_of_ble_eq_true rfl) (fun v9 f9 n9 hh => ?_)
      obtain ⟨rfl, rfl, rfl⟩ := hh
      refine aw_if_eq C 92 dX9_spread0_53 (by decide) (fun q => ?_) (fun q => ?_)
      · rw [if_pos q] at h
        refine aw_fl [some (.ref 181), some (.int v1), some (.int v2), some (.int v3)] ⟨rfl, ⟨rfl, ⟨rfl, ⟨rfl, trivial⟩⟩⟩⟩ ?_
        exact rmX9_spread0_b92 C (fun v1 v2 v3 σ h => ih v1 v2 v3 σ h) h
      · rw [if_neg q] at h
        refine aw_iload_n C dX9_spread0_56 rfl ?_
        refine aw_iload_n C dX9_spread0_57 rfl ?_
        refine aw_icmp_ne C 64 dX9_spread0_58 (by decide) (fun q => ?_) (fun q => ?_)
        · rw [if_neg q] at h
          refine aw_ald_n C dX9_spread0_64 rfl ?_
          refine aw_iload_n C dX9_spread0_65 rfl ?_
          refine aw_iload_n C dX9_spread0_66 rfl ?_
          obtain ⟨r3, h3, h⟩ := Option.bind_eq_some_iff.mp h
          refine aw_callV C (ci := 9) (b := 181) [.int v3, .int v2] mv_X9_287 rfl rfl (hm_M f r2.2) (rmX9_escapedFor h3) rfl dX9_spread0_67 (Nat.le_of_ble_eq_true rfl) (Nat.le_of_ble_eq_true rfl) rfl (Nat.le_of_ble_eq_true rfl) (Nat.le_of_ble_eq_true rfl) (Nat.le_of_ble_eq_true rfl) (fun v9 f9 n9 hh => ?_)
          obtain ⟨rfl, rfl, rfl⟩ := hh
          refine aw_iconst C (-1) dX9_spread0_70 ki_m1 ?_
          refine aw_icmp_ne C 76 dX9_spread0_71 (by decide) (fun q => ?_) (fun q => ?_)
          · rw [if_neg q] at h
            refine aw_ald_n C dX9_spread0_76 rfl ?_
            refine aw_iload_n C dX9_spread0_77 rfl ?_
            refine aw_iload_n C dX9_spread0_78 rfl ?_
            obtain ⟨r4, h4, h⟩ := Option.bind_eq_some_iff.mp h
            refine aw_callV C (ci := 9) (b := 181) [.int v3, .int v2] mv_X9_296 rfl rfl (hm_M f r3.2) (rmX9_tells h4) rfl dX9_spread0_79 (Nat.le_of_ble_eq_true rfl) (Nat.le_of_ble_eq_true rfl) rfl (Nat.le_of_ble_eq_true rfl) (Nat.le_of_ble_eq_true rfl) (Nat.le_of_ble_eq_true rfl) (fun v9 f9 n9 hh => ?_)
            obtain ⟨rfl, rfl, rfl⟩ := hh
            refine aw_ald_n C dX9_spread0_82 rfl ?_
            refine aw_dup C dX9_spread0_83 rfl ?_
            refine aw_get C (v := .int (r4.2.1 57)) gf_X9_306 (hm_M f r4.2) rfl dX9_spread0_84 ?_
            refine aw_iconst C 1 dX9_spread0_87 ki_1 ?_
            refine aw_iadd C dX9_spread0_88 ?_
            refine am_put C gf_X9_306 nf9_57 rfl rfl dX9_spread0_89 ?_
            refine aw_fl [some (.ref 181), some (.int v1), some (.int v2), some (.int v3)] ⟨rfl, ⟨rfl, ⟨rfl, ⟨rfl, trivial⟩⟩⟩⟩ ?_
            exact rmX9_spread0_b92 C (fun v1 v2 v3 σ h => ih v1 v2 v3 σ h) h
          · rw [if_pos q] at h
            refine aw_iconst C 2 dX9_spread0_74 ki_2 ?_
            cases h
            exact aw_iret C rfl rfl dX9_spread0_75 (Nat.le_refl _) (Nat.le_refl _) ⟨rfl, rfl, rfl⟩
        · rw [if_pos q] at h
          refine aw_goto C 92 dX9_spread0_61 (by decide) ?_
          refine aw_fl [some (.ref 181), some (.int v1), some (.int v2), some (.int v3)] ⟨rfl, ⟨rfl, ⟨rfl, ⟨rfl, trivial⟩⟩⟩⟩ ?_
          exact rmX9_spread0_b92 C (fun v1 v2 v3 σ h => ih v1 v2 v3 σ h) h
def mX9_spread0 (v1 : Int32) (σ : RS9) : Option (Int32 × RS9) := ((mX9_isPieceThere v1 (rSf σ 57 (0 : Int32))).bind fun r1 => (if r1.1 = (0 : Int32) then some ((1 : Int32), r1.2) else ((mX9_toldOf v1 r1.2).bind fun r2 => (if r2.1 = (-1 : Int32) then some ((4 : Int32), r2.2) else ((mX9_toldOf v1 r2.2).bind fun r3 => ((mX9_holdsTold v1 r3.2).bind fun r4 => mX9_spread0_l39 rFU v1 r3.1 (0 : Int32) r4.2))))))
set_option maxHeartbeats 1000000 in
theorem rmX9_spread0 {X : GX} {l : Launch} {f : AH} {n : Nat} {r : Int32 × RS9} {v1 : Int32} {σ : RS9} (h : mX9_spread0 v1 σ = some r) : AM X l yX9_spread0 cX9_spread0 4 (some .int) 10 0 0 [.ref 181, .int v1] (rHm f σ) n (QMi f n r) := by
  have h : ((mX9_isPieceThere v1 (rSf σ 57 (0 : Int32))).bind fun r1 => (if r1.1 = (0 : Int32) then some ((1 : Int32), r1.2) else ((mX9_toldOf v1 r1.2).bind fun r2 => (if r2.1 = (-1 : Int32) then some ((4 : Int32), r2.2) else ((mX9_toldOf v1 r2.2).bind fun r3 => ((mX9_holdsTold v1 r3.2).bind fun r4 => mX9_spread0_l39 rFU v1 r3.1 (0 : Int32) r4.2)))))) = some r := h
  refine AM.of (by decide +kernel) rfl (Nat.le_of_ble_eq_true rfl) (fun p e s m args below meth c C _ => ?_)
  refine aw_nl [some (.ref 181), some (.int v1), none, none] rfl ?_
  refine aw_ald_n C dX9_spread0_0 rfl ?_
  refine aw_iconst C 0 dX9_spread0_1 ki_0 ?_
  refine am_put C gf_X9_306 nf9_57 rfl rfl dX9_spread0_2 ?_
  refine aw_ald_n C dX9_spread0_5 rfl ?_
  refine aw_iload_n C dX9_spread0_6 rfl ?_
  obtain ⟨r1, h1, h⟩ := Option.bind_eq_some_iff.mp h
  refine aw_callV C (ci := 9) (b := 181) [.int v1] mv_X9_293 rfl rfl (hm_M f (rSf σ 57 (0 : Int32))) (rmX9_isPieceThere h1) rfl dX9_spread0_7 (Nat.le_of_ble_eq_true rfl) (Nat.le_of_ble_eq_true rfl) rfl (Nat.le_of_ble_eq_true rfl) (Nat.le_of_ble_eq_true rfl) (Nat.le_of_ble_eq_true rfl) (fun v9 f9 n9 hh => ?_)
  obtain ⟨rfl, rfl, rfl⟩ := hh
  refine aw_if_ne C 15 dX9_spread0_10 (by decide) (fun q => ?_) (fun q => ?_)
  · rw [if_neg q] at h
    refine aw_ald_n C dX9_spread0_15 rfl ?_
    refine aw_iload_n C dX9_spread0_16 rfl ?_
    obtain ⟨r2, h2, h⟩ := Option.bind_eq_some_iff.mp h
    refine aw_callV C (ci := 9) (b := 181) [.int v1] mv_X9_247 rfl rfl (hm_M f r1.2) (rmX9_toldOf h2) rfl dX9_spread0_17 (Nat.le_of_ble_eq_true rfl) (Nat.le_of_ble_eq_true rfl) rfl (Nat.le_of_ble_eq_true rfl) (Nat.le_of_ble_eq_true rfl) (Nat.le_of_ble_eq_true rfl) (fun v9 f9 n9 hh => ?_)
    obtain ⟨rfl, rfl, rfl⟩ := hh
    refine aw_iconst C (-1) dX9_spread0_20 ki_m1 ?_
    refine aw_icmp_ne C 26 dX9_spread0_21 (by decide) (fun q => ?_) (fun q => ?_)
    · rw [if_neg q] at h
      refine aw_ald_n C dX9_spread0_26 rfl ?_
      refine aw_iload_n C dX9_spread0_27 rfl ?_
      obtain ⟨r3, h3, h⟩ := Option.bind_eq_some_iff.mp h
      refine aw_callV C (ci := 9) (b := 181) [.int v1] mv_X9_247 rfl rfl (hm_M f r2.2) (rmX9_toldOf h3) rfl dX9_spread0_28 (Nat.le_of_ble_eq_true rfl) (Nat.le_of_ble_eq_true rfl) rfl (Nat.le_of_ble_eq_true rfl) (Nat.le_of_ble_eq_true rfl) (Nat.le_of_ble_eq_true rfl) (fun v9 f9 n9 hh => ?_)
      obtain ⟨rfl, rfl, rfl⟩ := hh
      refine aw_istore_n C dX9_spread0_31 (by decide) rfl ?_
      refine aw_nl [some (.ref 181), some (.int v1), some (.int r3.1), none] rfl ?_
      refine aw_ald_n C dX9_spread0_32 rfl ?_
      refine aw_iload_n C dX9_spread0_33 rfl ?_
      obtain ⟨r4, h4, h⟩ := Option.bind_eq_some_iff.mp h
      refine aw_callV C (ci := 9) (b := 181) [.int v1] mv_X9_283 rfl rfl (hm_M f r3.2) (rmX9_holdsTold h4) rfl dX9_spread0_34 (Nat.le_of_ble_eq_true rfl) (Nat.le_of_ble_eq_true rfl) rfl (Nat.le_of_ble_eq_true rfl) (Nat.le_of_ble_eq_true rfl) (Nat.le_of_ble_eq_true rfl) (fun v9 f9 n9 hh => ?_)
      obtain ⟨rfl, rfl, rfl⟩ := hh
      refine aw_iconst C 0 dX9_spread0_37 ki_0 ?_
      refine aw_istore_n C dX9_spread0_38 (by decide) rfl ?_
      refine aw_nl [some (.ref 181), some (.int v1), some (.int r3.1), some (.int (0 : Int32))] rfl ?_
      refine aw_fl [some (.ref 181), some (.int v1), some (.int r3.1), some (.int (0 : Int32))] ⟨rfl, ⟨rfl, ⟨rfl, ⟨rfl, trivial⟩⟩⟩⟩ ?_
      exact rmX9_spread0_l39 C rFU v1 r3.1 (0 : Int32) r4.2 h
    · rw [if_pos q] at h
      refine aw_iconst C 4 dX9_spread0_24 ki_4 ?_
      cases h
      exact aw_iret C rfl rfl dX9_spread0_25 (Nat.le_refl _) (Nat.le_refl _) ⟨rfl, rfl, rfl⟩
  · rw [if_pos q] at h
    refine aw_iconst C 1 dX9_spread0_13 ki_1 ?_
    cases h
    exact aw_iret C rfl rfl dX9_spread0_14 (Nat.le_refl _) (Nat.le_refl _) ⟨rfl, rfl, rfl⟩
def mX9_pieceText_b35 (s0 : Int32) (σ : RS9) : Option (Int32 × RS9) := some (s0, σ)
set_option maxHeartbeats 1000000 in
theorem rmX9_pieceText_b35 {X : GX} {p : Program} {l : Launch} {e : Env} {s : State} {m : MethodId} {args : Array Value} {below : List Frame} {meth : Method} {c : Code} {f : AH} {n : Nat} {r : Int32 × RS9} {s0 : Int32} {σ : RS9} (C : CC X p l (RM 11 0 0) s m args meth c RX9 cX9_pieceText 3 (some .int)) (h : mX9_pieceText_b35 s0 σ = some r) : AW X p l e (RM 11 0 0) s m args below meth c 3 (ZM X below args s 0 0 (QMi f n r)) (rHm f σ) n 0 0 35 [none, none, none] [.int s0] := by
  have h : some (s0, σ) = some r := h
  cases h
  exact aw_iret C rfl rfl dX9_pieceText_35 (Nat.le_refl _) (Nat.le_refl _) ⟨rfl, rfl, rfl⟩
def mX9_pieceText (v1 : Int32) (σ : RS9) : Option (Int32 × RS9) := ((mX9_number (0 : Int32) (39 : Int32) σ).bind fun r1 => (if (r1.2.1 12) = (-1 : Int32) then (if v1 = (0 : Int32) then ((mX9_spread0 r1.1 r1.2).bind fun r2 => mX9_pieceText_b35 r2.1 r2.2) else ((mX9_free0 r1.1 r1.2).bind fun r3 => mX9_pieceText_b35 r3.1 r3.2)) else some ((0 : Int32), r1.2)))
set_option maxHeartbeats 1000000 in
theorem rmX9_pieceText {X : GX} {l : Launch} {f : AH} {n : Nat} {r : Int32 × RS9} {v1 : Int32} {σ : RS9} (h : mX9_pieceText v1 σ = some r) : AM X l yX9_pieceText cX9_pieceText 3 (some .int) 11 0 0 [.ref 181, .int v1] (rHm f σ) n (QMi f n r) := by
  have h : ((mX9_number (0 : Int32) (39 : Int32) σ).bind fun r1 => (if (r1.2.1 12) = (-1 : Int32) then (if v1 = (0 : Int32) then ((mX9_spread0 r1.1 r1.2).bind fun r2 => mX9_pieceText_b35 r2.1 r2.2) else ((mX9_free0 r1.1 r1.2).bind fun r3 => mX9_pieceText_b35 r3.1 r3.2)) else some ((0 : Int32), r1.2))) = some r := h
  refine AM.of (by decide +kernel) rfl (Nat.le_of_ble_eq_true rfl) (fun p e s m args below meth c C _ => ?_)
  refine aw_nl [some (.ref 181), some (.int v1), none] rfl ?_
  refine aw_ald_n C dX9_pieceText_0 rfl ?_
  refine aw_iconst C 0 dX9_pieceText_1 ki_0 ?_
  refine aw_bipush C 39 dX9_pieceText_2 kb_39 ?_
  obtain ⟨r1, h1, h⟩ := Option.bind_eq_some_iff.mp h
  refine aw_callV C (ci := 9) (b := 181) [.int (0 : Int32), .int (39 : Int32)] mv_X9_358 rfl rfl (hm_M f σ) (rmX9_number h1) rfl dX9_pieceText_4 (Nat.le_of_ble_eq_true rfl) (Nat.le_of_ble_eq_true rfl) rfl (Nat.le_of_ble_eq_true rfl) (Nat.le_of_ble_eq_true rfl) (Nat.le_of_ble_eq_true rfl) (fun v9 f9 n9 hh => ?_)
  obtain ⟨rfl, rfl, rfl⟩ := hh
  refine aw_istore_n C dX9_pieceText_7 (by decide) rfl ?_
  refine aw_nl [some (.ref 181), some (.int v1), some (.int r1.1)] rfl ?_
  refine aw_ald_n C dX9_pieceText_8 rfl ?_
  refine aw_get C (v := .int (r1.2.1 12)) gf_X9_26 (hm_M f r1.2) rfl dX9_pieceText_9 ?_
  refine aw_iconst C (-1) dX9_pieceText_12 ki_m1 ?_
  refine aw_icmp_eq C 18 dX9_pieceText_13 (by decide) (fun q => ?_) (fun q => ?_)
  · rw [if_pos q] at h
    refine aw_iload_n C dX9_pieceText_18 rfl ?_
    refine aw_if_eq C 30 dX9_pieceText_19 (by decide) (fun q => ?_) (fun q => ?_)
    · rw [if_pos q] at h
      refine aw_ald_n C dX9_pieceText_30 rfl ?_
      refine aw_iload_n C dX9_pieceText_31 rfl ?_
      obtain ⟨r2, h2, h⟩ := Option.bind_eq_some_iff.mp h
      refine aw_callV C (ci := 9) (b := 181) [.int r1.1] mv_X9_370 rfl rfl (hm_M f r1.2) (rmX9_spread0 h2) rfl dX9_pieceText_32 (Nat.le_of_ble_eq_true rfl) (Nat.le_of_ble_eq_true rfl) rfl (Nat.le_of_ble_eq_true rfl) (Nat.le_of_ble_eq_true rfl) (Nat.le_of_ble_eq_true rfl) (fun v9 f9 n9 hh => ?_)
      obtain ⟨rfl, rfl, rfl⟩ := hh
      refine aw_fl [none, none, none] trivial ?_
      exact rmX9_pieceText_b35 C h
    · rw [if_neg q] at h
      refine aw_ald_n C dX9_pieceText_22 rfl ?_
      refine aw_iload_n C dX9_pieceText_23 rfl ?_
      obtain ⟨r3, h3, h⟩ := Option.bind_eq_some_iff.mp h
      refine aw_callV C (ci := 9) (b := 181) [.int r1.1] mv_X9_367 rfl rfl (hm_M f r1.2) (rmX9_free0 h3) rfl dX9_pieceText_24 (Nat.le_of_ble_eq_true rfl) (Nat.le_of_ble_eq_true rfl) rfl (Nat.le_of_ble_eq_true rfl) (Nat.le_of_ble_eq_true rfl) (Nat.le_of_ble_eq_true rfl) (fun v9 f9 n9 hh => ?_)
      obtain ⟨rfl, rfl, rfl⟩ := hh
      refine aw_goto C 35 dX9_pieceText_27 (by decide) ?_
      refine aw_fl [none, none, none] trivial ?_
      exact rmX9_pieceText_b35 C h
  · rw [if_neg q] at h
    refine aw_iconst C 0 dX9_pieceText_16 ki_0 ?_
    cases h
    exact aw_iret C rfl rfl dX9_pieceText_17 (Nat.le_refl _) (Nat.le_refl _) ⟨rfl, rfl, rfl⟩
def mX9_swap0_b195 (s0 : Int32) (σ : RS9) : Option (Int32 × RS9) := some (s0, σ)
set_option maxHeartbeats 1000000 in
theorem rmX9_swap0_b195 {X : GX} {p : Program} {l : Launch} {e : Env} {s : State} {m : MethodId} {args : Array Value} {below : List Frame} {meth : Method} {c : Code} {f : AH} {n : Nat} {r : Int32 × RS9} {s0 : Int32} {σ : RS9} (C : CC X p l (RM 10 0 0) s m args meth c RX9 cX9_swap0 6 (some .int)) (h : mX9_swap0_b195 s0 σ = some r) : AW X p l e (RM 10 0 0) s m args below meth c 6 (ZM X below args s 0 0 (QMi f n r)) (rHm f σ) n 0 0 195 [none, none, none, none, none, none] [.int s0] := by
  have h : some (s0, σ) = some r := h
  cases h
  exact aw_iret C rfl rfl dX9_swap0_195 (Nat.le_refl _) (Nat.le_refl _) ⟨rfl, rfl, rfl⟩
def mX9_swap0_l136 : Nat → Int32 → Int32 → Int32 → RS9 → Option (Int32 × RS9)
  | 0, _, _, _, _ => none
  | d + 1, v2, v3, v5, σ => (if v3 ≤ v5 then ((mX9_escapedFor v2 v3 σ).bind fun r1 => (if r1.1 = (-1 : Int32) then some ((2 : Int32), r1.2) else ((mX9_tells v2 v3 r1.2).bind fun r2 => ((mX9_builtMany r2.2).bind fun r3 => (if r3.1 ≤ (600 : Int32) then mX9_swap0_b195 (0 : Int32) r3.2 else mX9_swap0_b195 (3 : Int32) r3.2))))) else rCk (rIn v5 (rLen 58)) (rCk (rIn v5 (rLen 53)) (mX9_swap0_l136 d v2 v3 (v5 + (1 : Int32)) (rSa σ 53 v5 (rGa σ 58 v5)))))
set_option maxHeartbeats 1000000 in
theorem rmX9_swap0_l136 {X : GX} {p : Program} {l : Launch} {e : Env} {s : State} {m : MethodId} {args : Array Value} {below : List Frame} {meth : Method} {c : Code} {f : AH} {n : Nat} {r : Int32 × RS9} (C : CC X p l (RM 10 0 0) s m args meth c RX9 cX9_swap0 6 (some .int)) : ∀ (d : Nat) (v2 : Int32) (v3 : Int32) (v5 : Int32) (σ : RS9) (_ : mX9_swap0_l136 d v2 v3 v5 σ = some r), AW X p l e (RM 10 0 0) s m args below meth c 6 (ZM X below args s 0 0 (QMi f n r)) (rHm f σ) n 0 0 136 [some (.ref 181), none, some (.int v2), some (.int v3), none, some (.int v5)] [] := by
  intro d
  induction d with
  | zero =>
    intro v2 v3 v5 σ h
    exact nomatch (show (none : Option (Int32 × RS9)) = some r from h)
  | succ d ih =>
    intro v2 v3 v5 σ h
    have h : (if v3 ≤ v5 then ((mX9_escapedFor v2 v3 σ).bind fun r1 => (if r1.1 = (-1 : Int32) then some ((2 : Int32), r1.2) else ((mX9_tells v2 v3 r1.2).bind fun r2 => ((mX9_builtMany r2.2).bind fun r3 => (if r3.1 ≤ (600 : Int32) then mX9_swap0_b195 (0 : Int32) r3.2 else mX9_swap0_b195 (3 : Int32) r3.2))))) else rCk (rIn v5 (rLen 58)) (rCk (rIn v5 (rLen 53)) (mX9_swap0_l136 d v2 v3 (v5 + (1 : Int32)) (rSa σ 53 v5 (rGa σ 58 v5))))) = some r := h
    refine aw_iload C dX9_swap0_136 rfl ?_
    refine aw_iload_n C dX9_swap0_138 rfl ?_
    refine aw_icmp_ge C 162 dX9_swap0_139 (by decide) (fun q => ?_) (fun q => ?_)
    · rw [if_pos q] at h
      refine aw_ald_n C dX9_swap0_162 rfl ?_
      refine aw_iload_n C dX9_swap0_163 rfl ?_
      refine aw_iload_n C dX9_swap0_164 rfl ?_
      obtain ⟨r1, h1, h⟩ := Option.bind_eq_some_iff.mp h
      refine aw_callV C (ci := 9) (b := 181) [.int v2, .int v3] mv_X9_287 rfl rfl (hm_M f σ) (rmX9_escapedFor h1) rfl dX9_swap0_165 (Nat.le_of_ble_eq_true rfl) (Nat.le_of_ble_eq_true rfl) rfl (Nat.le_of_ble_eq_true rfl) (Nat.le_of_ble_eq_true rfl) (Nat.le_of_ble_eq_true rfl) (fun v9 f9 n9 hh => ?_)
      obtain ⟨rfl, rfl, rfl⟩ := hh
      refine aw_iconst C (-1) dX9_swap0_168 ki_m1 ?_
      refine aw_icmp_ne C 174 dX9_swap0_169 (by decide) (fun q => ?_) (fun q => ?_)
      · rw [if_neg q] at h
        refine aw_ald_n C dX9_swap0_174 rfl ?_
        refine aw_iload_n C dX9_swap0_175 rfl ?_
        refine aw_iload_n C dX9_swap0_176 rfl ?_
        obtain ⟨r2, h2, h⟩ := Option.bind_eq_some_iff.mp h
        refine aw_callV C (ci := 9) (b := 181) [.int v2, .int v3] mv_X9_296 rfl rfl (hm_M f r1.2) (rmX9_tells h2) rfl dX9_swap0_177 (Nat.le_of_ble_eq_true rfl) (Nat.le_of_ble_eq_true rfl) rfl (Nat.le_of_ble_eq_true rfl) (Nat.le_of_ble_eq_true rfl) (Nat.le_of_ble_eq_true rfl) (fun v9 f9 n9 hh => ?_)
        obtain ⟨rfl, rfl, rfl⟩ := hh
        refine aw_ald_n C dX9_swap0_180 rfl ?_
        obtain ⟨r3, h3, h⟩ := Option.bind_eq_some_iff.mp h
        refine aw_callV C (ci := 9) (b := 181) [] mv_X9_300 rfl rfl (hm_M f r2.2) (rmX9_builtMany h3) rfl dX9_swap0_181 (Nat.le_of_ble_eq_true rfl) (Nat.le_of_ble_eq_true rfl) rfl (Nat.le_of_ble_eq_true rfl) (Nat.le_of_ble_eq_true rfl) (Nat.le_of_ble_eq_true rfl) (fun v9 f9 n9 hh => ?_)
        obtain ⟨rfl, rfl, rfl⟩ := hh
        refine aw_sipush C 600 dX9_swap0_184 ks_600 ?_
        refine aw_icmp_le C 194 dX9_swap0_187 (by decide) (fun q => ?_) (fun q => ?_)
        · rw [if_pos q] at h
          refine aw_iconst C 0 dX9_swap0_194 ki_0 ?_
          refine aw_fl [none, none, none, none, none, none] trivial ?_
          exact rmX9_swap0_b195 C h
        · rw [if_neg q] at h
          refine aw_iconst C 3 dX9_swap0_190 ki_3 ?_
          refine aw_goto C 195 dX9_swap0_191 (by decide) ?_
          refine aw_fl [none, none, none, none, none, none] trivial ?_
          exact rmX9_swap0_b195 C h
      · rw [if_pos q] at h
        refine aw_iconst C 2 dX9_swap0_172 ki_2 ?_
        cases h
        exact aw_iret C rfl rfl dX9_swap0_173 (Nat.le_refl _) (Nat.le_refl _) ⟨rfl, rfl, rfl⟩
    · rw [if_neg q] at h
      refine aw_ald_n C dX9_swap0_142 rfl ?_
      refine aw_get C (v := .ref (rAid 53)) gf_X9_132 (hm_M f σ) rfl dX9_swap0_143 ?_
      refine aw_iload C dX9_swap0_146 rfl ?_
      refine aw_ald_n C dX9_swap0_148 rfl ?_
      refine aw_get C (v := .ref (rAid 58)) gf_X9_135 (hm_M f σ) rfl dX9_swap0_149 ?_
      refine aw_iload C dX9_swap0_152 rfl ?_
      obtain ⟨hb4, h⟩ := ck_some h
      refine am_iald C (rGa σ 58 v5) rfl (inb_vp hb4) rfl dX9_swap0_154 ?_
      obtain ⟨hb5, h⟩ := ck_some h
      refine am_iast C rfl (inb_vp hb5) dX9_swap0_155 ?_
      refine aw_iinc C (v5 + (1 : Int32)) dX9_swap0_156 rfl (by rw [ki_1]) (by decide) rfl ?_
      refine aw_nl [some (.ref 181), none, some (.int v2), some (.int v3), none, some (.int (v5 + (1 : Int32)))] rfl ?_
      refine aw_goto C 136 dX9_swap0_159 (by decide) ?_
      refine aw_fl [some (.ref 181), none, some (.int v2), some (.int v3), none, some (.int (v5 + (1 : Int32)))] ⟨rfl, ⟨rfl, ⟨rfl, ⟨rfl, trivial⟩⟩⟩⟩ ?_
      exact ih v2 v3 (v5 + (1 : Int32)) (rSa σ 53 v5 (rGa σ 58 v5)) h
def mX9_swap0_l86 : Nat → Int32 → Int32 → Int32 → Int32 → Int32 → RS9 → Option (Int32 × RS9)
  | 0, _, _, _, _, _, _ => none
  | d + 1, v1, v2, v3, v4, v5, σ => (if v4 ≤ v5 then ((mX9_escapedFor v1 v4 σ).bind fun r1 => (if r1.1 = (-1 : Int32) then some ((2 : Int32), r1.2) else ((mX9_tells v1 v4 r1.2).bind fun r2 => mX9_swap0_l136 rFU v2 v3 (0 : Int32) r2.2))) else ((mX9_nowByte v2 v5 σ).bind fun r3 => rCk (rIn v5 (rLen 53)) (mX9_swap0_l86 d v1 v2 v3 v4 (v5 + (1 : Int32)) (rSa r3.2 53 v5 r3.1))))
set_option maxHeartbeats 1000000 in
theorem rmX9_swap0_l86 {X : GX} {p : Program} {l : Launch} {e : Env} {s : State} {m : MethodId} {args : Array Value} {below : List Frame} {meth : Method} {c : Code} {f : AH} {n : Nat} {r : Int32 × RS9} (C : CC X p l (RM 10 0 0) s m args meth c RX9 cX9_swap0 6 (some .int)) : ∀ (d : Nat) (v1 : Int32) (v2 : Int32) (v3 : Int32) (v4 : Int32) (v5 : Int32) (σ : RS9) (_ : mX9_swap0_l86 d v1 v2 v3 v4 v5 σ = some r), AW X p l e (RM 10 0 0) s m args below meth c 6 (ZM X below args s 0 0 (QMi f n r)) (rHm f σ) n 0 0 86 [some (.ref 181), some (.int v1), some (.int v2), some (.int v3), some (.int v4), some (.int v5)] [] := by
  intro d
  induction d with
  | zero =>
    intro v1 v2 v3 v4 v5 σ h
    exact nomatch (show (none : Option (Int32 × RS9)) = some r from h)
  | succ d ih =>
    intro v1 v2 v3 v4 v5 σ h
    have h : (if v4 ≤ v5 then ((mX9_escapedFor v1 v4 σ).bind fun r1 => (if r1.1 = (-1 : Int32) then some ((2 : Int32), r1.2) else ((mX9_tells v1 v4 r1.2).bind fun r2 => mX9_swap0_l136 rFU v2 v3 (0 : Int32) r2.2))) else ((mX9_nowByte v2 v5 σ).bind fun r3 => rCk (rIn v5 (rLen 53)) (mX9_swap0_l86 d v1 v2 v3 v4 (v5 + (1 : Int32)) (rSa r3.2 53 v5 r3.1)))) = some r := h
    refine aw_iload C dX9_swap0_86 rfl ?_
    refine aw_iload C dX9_swap0_88 rfl ?_
    refine aw_icmp_ge C 113 dX9_swap0_90 (by decide) (fun q => ?_) (fun q => ?_)
    · rw [if_pos q] at h
      refine aw_ald_n C dX9_swap0_113 rfl ?_
      refine aw_iload_n C dX9_swap0_114 rfl ?_
      refine aw_iload C dX9_swap0_115 rfl ?_
      obtain ⟨r1, h1, h⟩ := Option.bind_eq_some_iff.mp h
      refine aw_callV C (ci := 9) (b := 181) [.int v1, .int v4] mv_X9_287 rfl rfl (hm_M f σ) (rmX9_escapedFor h1) rfl dX9_swap0_117 (Nat.le_of_ble_eq_true rfl) (Nat.le_of_ble_eq_true rfl) rfl (Nat.le_of_ble_eq_true rfl) (Nat.le_of_ble_eq_true rfl) (Nat.le_of_ble_eq_true rfl) (fun v9 f9 n9 hh => ?_)
      obtain ⟨rfl, rfl, rfl⟩ := hh
      refine aw_iconst C (-1) dX9_swap0_120 ki_m1 ?_
      refine aw_icmp_ne C 126 dX9_swap0_121 (by decide) (fun q => ?_) (fun q => ?_)
      · rw [if_neg q] at h
        refine aw_ald_n C dX9_swap0_126 rfl ?_
        refine aw_iload_n C dX9_swap0_127 rfl ?_
        refine aw_iload C dX9_swap0_128 rfl ?_
        obtain ⟨r2, h2, h⟩ := Option.bind_eq_some_iff.mp h
        refine aw_callV C (ci := 9) (b := 181) [.int v1, .int v4] mv_X9_296 rfl rfl (hm_M f r1.2) (rmX9_tells h2) rfl dX9_swap0_130 (Nat.le_of_ble_eq_true rfl) (Nat.le_of_ble_eq_true rfl) rfl (Nat.le_of_ble_eq_true rfl) (Nat.le_of_ble_eq_true rfl) (Nat.le_of_ble_eq_true rfl) (fun v9 f9 n9 hh => ?_)
        obtain ⟨rfl, rfl, rfl⟩ := hh
        refine aw_iconst C 0 dX9_swap0_133 ki_0 ?_
        refine aw_istore C dX9_swap0_134 (by decide) rfl ?_
        refine aw_nl [some (.ref 181), some (.int v1), some (.int v2), some (.int v3), some (.int v4), some (.int (0 : Int32))] rfl ?_
        refine aw_fl [some (.ref 181), none, some (.int v2), some (.int v3), none, some (.int (0 : Int32))] ⟨rfl, ⟨rfl, ⟨rfl, ⟨rfl, trivial⟩⟩⟩⟩ ?_
        exact rmX9_swap0_l136 C rFU v2 v3 (0 : Int32) r2.2 h
      · rw [if_pos q] at h
        refine aw_iconst C 2 dX9_swap0_124 ki_2 ?_
        cases h
        exact aw_iret C rfl rfl dX9_swap0_125 (Nat.le_refl _) (Nat.le_refl _) ⟨rfl, rfl, rfl⟩
    · rw [if_neg q] at h
      refine aw_ald_n C dX9_swap0_93 rfl ?_
      refine aw_get C (v := .ref (rAid 53)) gf_X9_132 (hm_M f σ) rfl dX9_swap0_94 ?_
      refine aw_iload C dX9_swap0_97 rfl ?_
      refine aw_ald_n C dX9_swap0_99 rfl ?_
      refine aw_iload_n C dX9_swap0_100 rfl ?_
      refine aw_iload C dX9_swap0_101 rfl ?_
      obtain ⟨r3, h3, h⟩ := Option.bind_eq_some_iff.mp h
      refine aw_callV C (ci := 9) (b := 181) [.int v2, .int v5] mv_X9_316 rfl rfl (hm_M f σ) (rmX9_nowByte h3) rfl dX9_swap0_103 (Nat.le_of_ble_eq_true rfl) (Nat.le_of_ble_eq_true rfl) rfl (Nat.le_of_ble_eq_true rfl) (Nat.le_of_ble_eq_true rfl) (Nat.le_of_ble_eq_true rfl) (fun v9 f9 n9 hh => ?_)
      obtain ⟨rfl, rfl, rfl⟩ := hh
      obtain ⟨hb4, h⟩ := ck_some h
      refine am_iast C rfl (inb_vp hb4) dX9_swap0_106 ?_
      refine aw_iinc C (v5 + (1 : Int32)) dX9_swap0_107 rfl (by rw [ki_1]) (by decide) rfl ?_
      refine aw_nl [some (.ref 181), some (.int v1), some (.int v2), some (.int v3), some (.int v4), some (.int (v5 + (1 : Int32)))] rfl ?_
      refine aw_goto C 86 dX9_swap0_110 (by decide) ?_
      refine aw_fl [some (.ref 181), some (.int v1), some (.int v2), some (.int v3), some (.int v4), some (.int (v5 + (1 : Int32)))] ⟨rfl, ⟨rfl, ⟨rfl, ⟨rfl, ⟨rfl, ⟨rfl, trivial⟩⟩⟩⟩⟩⟩ ?_
      exact ih v1 v2 v3 v4 (v5 + (1 : Int32)) (rSa r3.2 53 v5 r3.1) h
def mX9_swap0_l57 : Nat → Int32 → Int32 → Int32 → Int32 → Int32 → RS9 → Option (Int32 × RS9)
  | 0, _, _, _, _, _, _ => none
  | d + 1, v1, v2, v3, v4, v5, σ => (if v3 ≤ v5 then mX9_swap0_l86 rFU v1 v2 v3 v4 (0 : Int32) σ else ((mX9_nowByte v1 v5 σ).bind fun r1 => rCk (rIn v5 (rLen 58)) (mX9_swap0_l57 d v1 v2 v3 v4 (v5 + (1 : Int32)) (rSa r1.2 58 v5 r1.1))))
set_option maxHeartbeats 1000000 in
theorem rmX9_swap0_l57 {X : GX} {p : Program} {l : Launch} {e : Env} {s : State} {m : MethodId} {args : Array Value} {below : List Frame} {meth : Method} {c : Code} {f : AH} {n : Nat} {r : Int32 × RS9} (C : CC X p l (RM 10 0 0) s m args meth c RX9 cX9_swap0 6 (some .int)) : ∀ (d : Nat) (v1 : Int32) (v2 : Int32) (v3 : Int32) (v4 : Int32) (v5 : Int32) (σ : RS9) (_ : mX9_swap0_l57 d v1 v2 v3 v4 v5 σ = some r), AW X p l e (RM 10 0 0) s m args below meth c 6 (ZM X below args s 0 0 (QMi f n r)) (rHm f σ) n 0 0 57 [some (.ref 181), some (.int v1), some (.int v2), some (.int v3), some (.int v4), some (.int v5)] [] := by
  intro d
  induction d with
  | zero =>
    intro v1 v2 v3 v4 v5 σ h
    exact nomatch (show (none : Option (Int32 × RS9)) = some r from h)
  | succ d ih =>
    intro v1 v2 v3 v4 v5 σ h
    have h : (if v3 ≤ v5 then mX9_swap0_l86 rFU v1 v2 v3 v4 (0 : Int32) σ else ((mX9_nowByte v1 v5 σ).bind fun r1 => rCk (rIn v5 (rLen 58)) (mX9_swap0_l57 d v1 v2 v3 v4 (v5 + (1 : Int32)) (rSa r1.2 58 v5 r1.1)))) = some r := h
    refine aw_iload C dX9_swap0_57 rfl ?_
    refine aw_iload_n C dX9_swap0_59 rfl ?_
    refine aw_icmp_ge C 83 dX9_swap0_60 (by decide) (fun q => ?_) (fun q => ?_)
    · rw [if_pos q] at h
      refine aw_iconst C 0 dX9_swap0_83 ki_0 ?_
      refine aw_istore C dX9_swap0_84 (by decide) rfl ?_
      refine aw_nl [some (.ref 181), some (.int v1), some (.int v2), some (.int v3), some (.int v4), some (.int (0 : Int32))] rfl ?_
      refine aw_fl [some (.ref 181), some (.int v1), some (.int v2), some (.int v3), some (.int v4), some (.int (0 : Int32))] ⟨rfl, ⟨rfl, ⟨rfl, ⟨rfl, ⟨rfl, ⟨rfl, trivial⟩⟩⟩⟩⟩⟩ ?_
      exact rmX9_swap0_l86 C rFU v1 v2 v3 v4 (0 : Int32) σ h
    · rw [if_neg q] at h
      refine aw_ald_n C dX9_swap0_63 rfl ?_
      refine aw_get C (v := .ref (rAid 58)) gf_X9_135 (hm_M f σ) rfl dX9_swap0_64 ?_
      refine aw_iload C dX9_swap0_67 rfl ?_
      refine aw_ald_n C dX9_swap0_69 rfl ?_
      refine aw_iload_n C dX9_swap0_70 rfl ?_
      refine aw_iload C dX9_swap0_71 rfl ?_
      obtain ⟨r1, h1, h⟩ := Option.bind_eq_some_iff.mp h
      refine aw_callV C (ci := 9) (b := 181) [.int v1, .int v5] mv_X9_316 rfl rfl (hm_M f σ) (rmX9_nowByte h1) rfl dX9_swap0_73 (Nat.le_of_ble_eq_true rfl) (Nat.le_of_ble_eq_true rfl) rfl (Nat.le_of_ble_eq_true rfl) (Nat.le_of_ble_eq_true rfl) (Nat.le_of_ble_eq_true rfl) (fun v9 f9 n9 hh => ?_)
      obtain ⟨rfl, rfl, rfl⟩ := hh
      obtain ⟨hb2, h⟩ := ck_some h
      refine am_iast C rfl (inb_vp hb2) dX9_swap0_76 ?_
      refine aw_iinc C (v5 + (1 : Int32)) dX9_swap0_77 rfl (by rw [ki_1]) (by decide) rfl ?_
      refine aw_nl [some (.ref 181), some (.int v1), some (.int v2), some (.int v3), some (.int v4), some (.int (v5 + (1 : Int32)))] rfl ?_
      refine aw_goto C 57 dX9_swap0_80 (by decide) ?_
      refine aw_fl [some (.ref 181), some (.int v1), some (.int v2), some (.int v3), some (.int v4), some (.int (v5 + (1 : Int32)))] ⟨rfl, ⟨rfl, ⟨rfl, ⟨rfl, ⟨rfl, ⟨rfl, trivial⟩⟩⟩⟩⟩⟩ ?_
      exact ih v1 v2 v3 v4 (v5 + (1 : Int32)) (rSa r1.2 58 v5 r1.1) h
def mX9_swap0_b51 (σ : RS9) : Option (Int32 × RS9) := some ((8 : Int32), σ)
set_option maxHeartbeats 1000000 in
theorem rmX9_swap0_b51 {X : GX} {p : Program} {l : Launch} {e : Env} {s : State} {m : MethodId} {args : Array Value} {below : List Frame} {meth : Method} {c : Code} {f : AH} {n : Nat} {r : Int32 × RS9} {σ : RS9} (C : CC X p l (RM 10 0 0) s m args meth c RX9 cX9_swap0 6 (some .int)) (h : mX9_swap0_b51 σ = some r) : AW X p l e (RM 10 0 0) s m args below meth c 6 (ZM X below args s 0 0 (QMi f n r)) (rHm f σ) n 0 0 51 [none, none, none, none, none, none] [] := by
  have h : some ((8 : Int32), σ) = some r := h
  refine aw_bipush C 8 dX9_swap0_51 kb_8 ?_
  cases h
  exact aw_iret C rfl rfl dX9_swap0_53 (Nat.le_refl _) (Nat.le_refl _) ⟨rfl, rfl, rfl⟩
def mX9_swap0_b16 (σ : RS9) : Option (Int32 × RS9) := some ((1 : Int32), σ)
set_option maxHeartbeats 1000000 in
theorem rmX9_swap0_b16 {X : GX} {p : Program} {l : Launch} {e : Env} {s : State} {m : MethodId} {args : Array Value} {below : List Frame} {meth : Method} {c : Code} {f : AH} {n : Nat} {r : Int32 × RS9} {σ : RS9} (C : CC X p l (RM 10 0 0) s m args meth c RX9 cX9_swap0 6 (some .int)) (h : mX9_swap0_b16 σ = some r) : AW X p l e (RM 10 0 0) s m args below meth c 6 (ZM X below args s 0 0 (QMi f n r)) (rHm f σ) n 0 0 16 [none, none, none, none, none, none] [] := by
  have h : some ((1 : Int32), σ) = some r := h
  refine aw_iconst C 1 dX9_swap0_16 ki_1 ?_
  cases h
  exact aw_iret C rfl rfl dX9_swap0_17 (Nat.le_refl _) (Nat.le_refl _) ⟨rfl, rfl, rfl⟩
def mX9_swap0 (v1 : Int32) (v2 : Int32) (σ : RS9) : Option (Int32 × RS9) := ((mX9_isPieceThere v1 σ).bind fun r1 => (if r1.1 = (0 : Int32) then mX9_swap0_b16 r1.2 else ((mX9_isPieceThere v2 r1.2).bind fun r2 => (if r2.1 = (0 : Int32) then mX9_swap0_b16 r2.2 else (if v1 = v2 then some ((5 : Int32), r2.2) else ((mX9_nowMany v1 r2.2).bind fun r3 => ((mX9_nowMany v2 r3.2).bind fun r4 => (if (60 : Int32) < r3.1 then mX9_swap0_b51 r4.2 else (if r4.1 ≤ (60 : Int32) then mX9_swap0_l57 rFU v1 v2 r3.1 r4.1 (0 : Int32) r4.2 else mX9_swap0_b51 r4.2)))))))))
set_option maxHeartbeats 1000000 in
theorem rmX9_swap0 {X : GX} {l : Launch} {f : AH} {n : Nat} {r : Int32 × RS9} {v1 : Int32} {v2 : Int32} {σ : RS9} (h : mX9_swap0 v1 v2 σ = some r) : AM X l yX9_swap0 cX9_swap0 6 (some .int) 10 0 0 [.ref 181, .int v1, .int v2] (rHm f σ) n (QMi f n r) := by
  have h : ((mX9_isPieceThere v1 σ).bind fun r1 => (if r1.1 = (0 : Int32) then mX9_swap0_b16 r1.2 else ((mX9_isPieceThere v2 r1.2).bind fun r2 => (if r2.1 = (0 : Int32) then mX9_swap0_b16 r2.2 else (if v1 = v2 then some ((5 : Int32), r2.2) else ((mX9_nowMany v1 r2.2).bind fun r3 => ((mX9_nowMany v2 r3.2).bind fun r4 => (if (60 : Int32) < r3.1 then mX9_swap0_b51 r4.2 else (if r4.1 ≤ (60 : Int32) then mX9_swap0_l57 rFU v1 v2 r3.1 r4.1 (0 : Int32) r4.2 else mX9_swap0_b51 r4.2))))))))) = some r := h
  refine AM.of (by decide +kernel) rfl (Nat.le_of_ble_eq_true rfl) (fun p e s m args below meth c C _ => ?_)
  refine aw_nl [some (.ref 181), some (.int v1), some (.int v2), none, none, none] rfl ?_
  refine aw_ald_n C dX9_swap0_0 rfl ?_
  refine aw_iload_n C dX9_swap0_1 rfl ?_
  obtain ⟨r1, h1, h⟩ := Option.bind_eq_some_iff.mp h
  refine aw_callV C (ci := 9) (b := 181) [.int v1] mv_X9_293 rfl rfl (hm_M f σ) (rmX9_isPieceThere h1) rfl dX9_swap0_2 (Nat.le_of_ble_eq_true rfl) (Nat.le_of_ble_eq_true rfl) rfl (Nat.le_of_ble_eq_true rfl) (Nat.le_of_ble_eq_true rfl) (Nat.le_of_ble_eq_true rfl) (fun v9 f9 n9 hh => ?_)
  obtain ⟨rfl, rfl, rfl⟩ := hh
  refine aw_if_eq C 16 dX9_swap0_5 (by decide) (fun q => ?_) (fun q => ?_)
  · rw [if_pos q] at h
    refine aw_fl [none, none, none, none, none, none] trivial ?_
    exact rmX9_swap0_b16 C h
  · rw [if_neg q] at h
    refine aw_ald_n C dX9_swap0_8 rfl ?_
    refine aw_iload_n C dX9_swap0_9 rfl ?_
    obtain ⟨r2, h2, h⟩ := Option.bind_eq_some_iff.mp h
    refine aw_callV C (ci := 9) (b := 181) [.int v2] mv_X9_293 rfl rfl (hm_M f r1.2) (rmX9_isPieceThere h2) rfl dX9_swap0_10 (Nat.le_of_ble_eq_true rfl) (Nat.le_of_ble_eq_true rfl) rfl (Nat.le_of_ble_eq_true rfl) (Nat.le_of_ble_eq_true rfl) (Nat.le_of_ble_eq_true rfl) (fun v9 f9 n9 hh => ?_)
    obtain ⟨rfl, rfl, rfl⟩ := hh
    refine aw_if_ne C 18 dX9_swap0_13 (by decide) (fun q => ?_) (fun q => ?_)
    · rw [if_neg q] at h
      refine aw_iload_n C dX9_swap0_18 rfl ?_
      refine aw_iload_n C dX9_swap0_19 rfl ?_
      refine aw_icmp_ne C 25 dX9_swap0_20 (by decide) (fun q => ?_) (fun q => ?_)
      · rw [if_neg q] at h
        refine aw_ald_n C dX9_swap0_25 rfl ?_
        refine aw_iload_n C dX9_swap0_26 rfl ?_
        obtain ⟨r3, h3, h⟩ := Option.bind_eq_some_iff.mp h
        refine aw_callV C (ci := 9) (b := 181) [.int v1] mv_X9_313 rfl rfl (hm_M f r2.2) (rmX9_nowMany h3) rfl dX9_swap0_27 (Nat.le_of_ble_eq_true rfl) (Nat.le_of_ble_eq_true rfl) rfl (Nat.le_of_ble_eq_true rfl) (Nat.le_of_ble_eq_true rfl) (Nat.le_of_ble_eq_true rfl) (fun v9 f9 n9 hh => ?_)
        obtain ⟨rfl, rfl, rfl⟩ := hh
        refine aw_istore_n C dX9_swap0_30 (by decide) rfl ?_
        refine aw_nl [some (.ref 181), some (.int v1), some (.int v2), some (.int r3.1), none, none] rfl ?_
        refine aw_ald_n C dX9_swap0_31 rfl ?_
        refine aw_iload_n C dX9_swap0_32 rfl ?_
        obtain ⟨r4, h4, h⟩ := Option.bind_eq_some_iff.mp h
        refine aw_callV C (ci := 9) (b := 181) [.int v2] mv_X9_313 rfl rfl (hm_M f r3.2) (rmX9_nowMany h4) rfl dX9_swap0_33 (Nat.le_of_ble_eq_true rfl) (Nat.le_of_ble_eq_true rfl) rfl (Nat.le_of_ble_eq_true rfl) (Nat.le_of_ble_eq_true rfl) (Nat.le_of_ble_eq_true rfl) (fun v9 f9 n9 hh => ?_)
        obtain ⟨rfl, rfl, rfl⟩ := hh
        refine aw_istore C dX9_swap0_36 (by decide) rfl ?_
        refine aw_nl [some (.ref 181), some (.int v1), some (.int v2), some (.int r3.1), some (.int r4.1), none] rfl ?_
        refine aw_iload_n C dX9_swap0_38 rfl ?_
        refine aw_bipush C 60 dX9_swap0_39 kb_60 ?_
        refine aw_icmp_gt C 51 dX9_swap0_41 (by decide) (fun q => ?_) (fun q => ?_)
        · rw [if_pos q] at h
          refine aw_fl [none, none, none, none, none, none] trivial ?_
          exact rmX9_swap0_b51 C h
        · rw [if_neg q] at h
          refine aw_iload C dX9_swap0_44 rfl ?_
          refine aw_bipush C 60 dX9_swap0_46 kb_60 ?_
          refine aw_icmp_le C 54 dX9_swap0_48 (by decide) (fun q => ?_) (fun q => ?_)
          · rw [if_pos q] at h
            refine aw_iconst C 0 dX9_swap0_54 ki_0 ?_
            refine aw_istore C dX9_swap0_55 (by decide) rfl ?_
            refine aw_nl [some (.ref 181), some (.int v1), some (.int v2), some (.int r3.1), some (.int r4.1), some (.int (0 : Int32))] rfl ?_
            refine aw_fl [some (.ref 181), some (.int v1), some (.int v2), some (.int r3.1), some (.int r4.1), some (.int (0 : Int32))] ⟨rfl, ⟨rfl, ⟨rfl, ⟨rfl, ⟨rfl, ⟨rfl, trivial⟩⟩⟩⟩⟩⟩ ?_
            exact rmX9_swap0_l57 C rFU v1 v2 r3.1 r4.1 (0 : Int32) r4.2 h
          · rw [if_neg q] at h
            refine aw_fl [none, none, none, none, none, none] trivial ?_
            exact rmX9_swap0_b51 C h
      · rw [if_pos q] at h
        refine aw_iconst C 5 dX9_swap0_23 ki_5 ?_
        cases h
        exact aw_iret C rfl rfl dX9_swap0_24 (Nat.le_refl _) (Nat.le_refl _) ⟨rfl, rfl, rfl⟩
    · rw [if_pos q] at h
      refine aw_fl [none, none, none, none, none, none] trivial ?_
      exact rmX9_swap0_b16 C h
def mX9_swapText_b34 (s0 : Int32) (σ : RS9) : Option (Int32 × RS9) := some (s0, σ)
set_option maxHeartbeats 1000000 in
theorem rmX9_swapText_b34 {X : GX} {p : Program} {l : Launch} {e : Env} {s : State} {m : MethodId} {args : Array Value} {below : List Frame} {meth : Method} {c : Code} {f : AH} {n : Nat} {r : Int32 × RS9} {s0 : Int32} {σ : RS9} (C : CC X p l (RM 11 0 0) s m args meth c RX9 cX9_swapText 3 (some .int)) (h : mX9_swapText_b34 s0 σ = some r) : AW X p l e (RM 11 0 0) s m args below meth c 3 (ZM X below args s 0 0 (QMi f n r)) (rHm f σ) n 0 0 34 [none, none, none] [.int s0] := by
  have h : some (s0, σ) = some r := h
  cases h
  exact aw_iret C rfl rfl dX9_swapText_34 (Nat.le_refl _) (Nat.le_refl _) ⟨rfl, rfl, rfl⟩
def mX9_swapText (σ : RS9) : Option (Int32 × RS9) := ((mX9_number (0 : Int32) (39 : Int32) σ).bind fun r1 => ((mX9_number (0 : Int32) (39 : Int32) r1.2).bind fun r2 => (if (r2.2.1 12) = (-1 : Int32) then ((mX9_swap0 r1.1 r2.1 r2.2).bind fun r3 => mX9_swapText_b34 r3.1 r3.2) else mX9_swapText_b34 (0 : Int32) r2.2)))
set_option maxHeartbeats 1000000 in
theorem rmX9_swapText {X : GX} {l : Launch} {f : AH} {n : Nat} {r : Int32 × RS9} {σ : RS9} (h : mX9_swapText σ = some r) : AM X l yX9_swapText cX9_swapText 3 (some .int) 11 0 0 [.ref 181] (rHm f σ) n (QMi f n r) := by
  have h : ((mX9_number (0 : Int32) (39 : Int32) σ).bind fun r1 => ((mX9_number (0 : Int32) (39 : Int32) r1.2).bind fun r2 => (if (r2.2.1 12) = (-1 : Int32) then ((mX9_swap0 r1.1 r2.1 r2.2).bind fun r3 => mX9_swapText_b34 r3.1 r3.2) else mX9_swapText_b34 (0 : Int32) r2.2))) = some r := h
  refine AM.of (by decide +kernel) rfl (Nat.le_of_ble_eq_true rfl) (fun p e s m args below meth c C _ => ?_)
  refine aw_nl [some (.ref 181), none, none] rfl ?_
  refine aw_ald_n C dX9_swapText_0 rfl ?_
  refine aw_iconst C 0 dX9_swapText_1 ki_0 ?_
  refine aw_bipush C 39 dX9_swapText_2 kb_39 ?_
  obtain ⟨r1, h1, h⟩ := Option.bind_eq_some_iff.mp h
  refine aw_callV C (ci := 9) (b := 181) [.int (0 : Int32), .int (39 : Int32)] mv_X9_358 rfl rfl (hm_M f σ) (rmX9_number h1) rfl dX9_swapText_4 (Nat.le_of_ble_eq_true rfl) (Nat.le_of_ble_eq_true rfl) rfl (Nat.le_of_ble_eq_true rfl) (Nat.le_of_ble_eq_true rfl) (Nat.le_of_ble_eq_true rfl) (fun v9 f9 n9 hh => ?_)
  obtain ⟨rfl, rfl, rfl⟩ := hh
  refine aw_istore_n C dX9_swapText_7 (by decide) rfl ?_
  refine aw_nl [some (.ref 181), some (.int r1.1), none] rfl ?_
  refine aw_ald_n C dX9_swapText_8 rfl ?_
  refine aw_iconst C 0 dX9_swapText_9 ki_0 ?_
  refine aw_bipush C 39 dX9_swapText_10 kb_39 ?_
  obtain ⟨r2, h2, h⟩ := Option.bind_eq_some_iff.mp h
  refine aw_callV C (ci := 9) (b := 181) [.int (0 : Int32), .int (39 : Int32)] mv_X9_358 rfl rfl (hm_M f r1.2) (rmX9_number h2) rfl dX9_swapText_12 (Nat.le_of_ble_eq_true rfl) (Nat.le_of_ble_eq_true rfl) rfl (Nat.le_of_ble_eq_true rfl) (Nat.le_of_ble_eq_true rfl) (Nat.le_of_ble_eq_true rfl) (fun v9 f9 n9 hh => ?_)
  obtain ⟨rfl, rfl, rfl⟩ := hh
  refine aw_istore_n C dX9_swapText_15 (by decide) rfl ?_
  refine aw_nl [some (.ref 181), some (.int r1.1), some (.int r2.1)] rfl ?_
  refine aw_ald_n C dX9_swapText_16 rfl ?_
  refine aw_get C (v := .int (r2.2.1 12)) gf_X9_26 (hm_M f r2.2) rfl dX9_swapText_17 ?_
  refine aw_iconst C (-1) dX9_swapText_20 ki_m1 ?_
  refine aw_icmp_ne C 33 dX9_swapText_21 (by decide) (fun q => ?_) (fun q => ?_)
  · rw [if_neg q] at h
    refine aw_iconst C 0 dX9_swapText_33 ki_0 ?_
    refine aw_fl [none, none, none] trivial ?_
    exact rmX9_swapText_b34 C h
  · rw [if_pos q] at h
    refine aw_ald_n C dX9_swapText_24 rfl ?_
    refine aw_iload_n C dX9_swapText_25 rfl ?_
    refine aw_iload_n C dX9_swapText_26 rfl ?_
    obtain ⟨r3, h3, h⟩ := Option.bind_eq_some_iff.mp h
    refine aw_callV C (ci := 9) (b := 181) [.int r1.1, .int r2.1] mv_X9_364 rfl rfl (hm_M f r2.2) (rmX9_swap0 h3) rfl dX9_swapText_27 (Nat.le_of_ble_eq_true rfl) (Nat.le_of_ble_eq_true rfl) rfl (Nat.le_of_ble_eq_true rfl) (Nat.le_of_ble_eq_true rfl) (Nat.le_of_ble_eq_true rfl) (fun v9 f9 n9 hh => ?_)
    obtain ⟨rfl, rfl, rfl⟩ := hh
    refine aw_goto C 34 dX9_swapText_30 (by decide) ?_
    refine aw_fl [none, none, none] trivial ?_
    exact rmX9_swapText_b34 C h
