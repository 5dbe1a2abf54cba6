def mX9_has_l30 : Nat → Nat → Int32 → Int32 → RS9 → Option (Int32 × RS9)
  | 0, _, _, _, _ => none
  | d + 1, v1, v2, v3, σ => (if (strL v1) ≤ v3 then rCk (rNb (1 : Int32)) (some ((1 : Int32), (rSf σ 11 v2))) else rCk (rIn ((σ.1 11) + v3) (rLen 8)) (rCk (rIn v3 (sL9.getD v1 0)) ((if (rGa σ 8 ((σ.1 11) + v3)) = (strC v1 v3) then mX9_has_l30 d v1 v2 (v3 + (1 : Int32)) σ else rCk (rNb (0 : Int32)) (some ((0 : Int32), σ))))))
set_option maxHeartbeats 1000000 in
theorem rmX9_has_l30 {X : GX} {p : Program} {l : Launch} {e : Env} {s : State} {m : MethodId} {args : Array Value} {below : List Frame} {meth : Method} {c : Code} {f : AH} {n : Nat} {r : Int32 × RS9} (C : CC X p l (RM 4 0 0) s m args meth c RX9 cX9_has 4 (some .boolean)) : ∀ (d : Nat) (v1 : Nat) (v2 : Int32) (v3 : Int32) (σ : RS9) (_ : v1 < 15) (_ : mX9_has_l30 d v1 v2 v3 σ = some r), AW X p l e (RM 4 0 0) s m args below meth c 4 (ZM X below args s 0 0 (QMi f n r)) (rHm f σ) n 0 0 30 [some (.ref 181), some (.retAddr (X.2.2 (1000 + v1))), some (.int v2), some (.int v3)] [] := by
  intro d
  induction d with
  | zero =>
    intro v1 v2 v3 σ is1 h
    exact nomatch (show (none : Option (Int32 × RS9)) = some r from h)
  | succ d ih =>
    intro v1 v2 v3 σ is1 h
    have h : (if (strL v1) ≤ v3 then rCk (rNb (1 : Int32)) (some ((1 : Int32), (rSf σ 11 v2))) else rCk (rIn ((σ.1 11) + v3) (rLen 8)) (rCk (rIn v3 (sL9.getD v1 0)) ((if (rGa σ 8 ((σ.1 11) + v3)) = (strC v1 v3) then mX9_has_l30 d v1 v2 (v3 + (1 : Int32)) σ else rCk (rNb (0 : Int32)) (some ((0 : Int32), σ)))))) = some r := h
    refine aw_iload_n C dX9_has_30 rfl ?_
    refine aw_raw_n C dX9_has_31 rfl ?_
    refine am_slen C is1 dX9_has_32 (Nat.le_of_ble_eq_true rfl) (Nat.le_of_ble_eq_true rfl) (Nat.le_of_ble_eq_true rfl) (Nat.le_of_ble_eq_true rfl) (Nat.le_of_ble_eq_true rfl) ?_
    refine aw_icmp_ge C 65 dX9_has_35 (by decide) (fun q => ?_) (fun q => ?_)
    · rw [if_pos q] at h
      refine aw_ald_n C dX9_has_65 rfl ?_
      refine aw_iload_n C dX9_has_66 rfl ?_
      refine am_put C gf_X9_340 nf9_11 rfl rfl dX9_has_67 ?_
      refine aw_iconst C 1 dX9_has_70 ki_1 ?_
      obtain ⟨hb2, h⟩ := ck_some h
      cases h
      exact aw_iret C rfl (nb_nar hb2) dX9_has_71 (Nat.le_refl _) (Nat.le_refl _) ⟨rfl, rfl, rfl⟩
    · rw [if_neg q] at h
      refine aw_ald_n C dX9_has_38 rfl ?_
      refine aw_get C (v := .ref (rAid 8)) gf_X9_23 (hm_M f σ) rfl dX9_has_39 ?_
      refine aw_ald_n C dX9_has_42 rfl ?_
      refine aw_get C (v := .int (σ.1 11)) gf_X9_340 (hm_M f σ) rfl dX9_has_43 ?_
      refine aw_iload_n C dX9_has_46 rfl ?_
      refine aw_iadd C dX9_has_47 ?_
      obtain ⟨hb3, h⟩ := ck_some h
      refine am_iald C (rGa σ 8 ((σ.1 11) + v3)) rfl (inb_vp hb3) rfl dX9_has_48 ?_
      refine aw_raw_n C dX9_has_49 rfl ?_
      refine aw_iload_n C dX9_has_50 rfl ?_
      obtain ⟨hb5, h⟩ := ck_some h
      refine am_schr C is1 hb5 dX9_has_51 (Nat.le_of_ble_eq_true rfl) (Nat.le_of_ble_eq_true rfl) (Nat.le_of_ble_eq_true rfl) (Nat.le_of_ble_eq_true rfl) (Nat.le_of_ble_eq_true rfl) ?_
      refine aw_icmp_eq C 59 dX9_has_54 (by decide) (fun q => ?_) (fun q => ?_)
      · rw [if_pos q] at h
        refine aw_iinc C (v3 + (1 : Int32)) dX9_has_59 rfl (by rw [ki_1]) (by decide) rfl ?_
        refine aw_nl [some (.ref 181), some (.retAddr (X.2.2 (1000 + v1))), some (.int v2), some (.int (v3 + (1 : Int32)))] rfl ?_
        refine aw_goto C 30 dX9_has_62 (by decide) ?_
        refine aw_fl [some (.ref 181), some (.retAddr (X.2.2 (1000 + v1))), some (.int v2), some (.int (v3 + (1 : Int32)))] ⟨rfl, ⟨rfl, ⟨rfl, ⟨rfl, trivial⟩⟩⟩⟩ ?_
        exact ih v1 v2 (v3 + (1 : Int32)) σ is1 h
      · rw [if_neg q] at h
        refine aw_iconst C 0 dX9_has_57 ki_0 ?_
        obtain ⟨hb6, h⟩ := ck_some h
        cases h
        exact aw_iret C rfl (nb_nar hb6) dX9_has_58 (Nat.le_refl _) (Nat.le_refl _) ⟨rfl, rfl, rfl⟩
def mX9_has_b26 (σ : RS9) : Option (Int32 × RS9) := rCk (rNb (0 : Int32)) (some ((0 : Int32), σ))
set_option maxHeartbeats 1000000 in
theorem rmX9_has_b26 {X : GX} {p : Program} {l : Launch} {e : Env} {s : State} {m : MethodId} {args : Array Value} {below : List Frame} {meth : Method} {c : Code} {f : AH} {n : Nat} {r : Int32 × RS9} {σ : RS9} (C : CC X p l (RM 4 0 0) s m args meth c RX9 cX9_has 4 (some .boolean)) (h : mX9_has_b26 σ = some r) : AW X p l e (RM 4 0 0) s m args below meth c 4 (ZM X below args s 0 0 (QMi f n r)) (rHm f σ) n 0 0 26 [none, none, none, none] [] := by
  have h : rCk (rNb (0 : Int32)) (some ((0 : Int32), σ)) = some r := h
  refine aw_iconst C 0 dX9_has_26 ki_0 ?_
  obtain ⟨hb1, h⟩ := ck_some h
  cases h
  exact aw_iret C rfl (nb_nar hb1) dX9_has_27 (Nat.le_refl _) (Nat.le_refl _) ⟨rfl, rfl, rfl⟩
def mX9_has (v1 : Nat) (σ : RS9) : Option (Int32 × RS9) := ((mX9_wordEnd σ).bind fun r1 => (if (r1.2.1 12) = (-1 : Int32) then (if (r1.1 - (r1.2.1 11)) = (strL v1) then mX9_has_l30 rFU v1 r1.1 (0 : Int32) r1.2 else mX9_has_b26 r1.2) else mX9_has_b26 r1.2))
set_option maxHeartbeats 1000000 in
theorem rmX9_has {X : GX} {l : Launch} {f : AH} {n : Nat} {r : Int32 × RS9} {v1 : Nat} {σ : RS9} (is1 : v1 < 15) (h : mX9_has v1 σ = some r) : AM X l yX9_has cX9_has 4 (some .boolean) 4 0 0 [.ref 181, .retAddr (X.2.2 (1000 + v1))] (rHm f σ) n (QMi f n r) := by
  have h : ((mX9_wordEnd σ).bind fun r1 => (if (r1.2.1 12) = (-1 : Int32) then (if (r1.1 - (r1.2.1 11)) = (strL v1) then mX9_has_l30 rFU v1 r1.1 (0 : Int32) r1.2 else mX9_has_b26 r1.2) else mX9_has_b26 r1.2)) = some r := h
  refine AM.of (by decide +kernel) rfl (Nat.le_of_ble_eq_true rfl) (fun p e s m args below meth c C _ => ?_)
  refine aw_nl [some (.ref 181), some (.retAddr (X.2.2 (1000 + v1))), none, none] rfl ?_
  refine aw_ald_n C dX9_has_0 rfl ?_
  obtain ⟨r1, h1, h⟩ := Option.bind_eq_some_iff.mp h
  refine aw_callV C (ci := 9) (b := 181) [] mv_X9_349 rfl rfl (hm_M f σ) (rmX9_wordEnd h1) rfl dX9_has_1 (Nat.le_of_ble_eq_true rfl) (Nat.le_of_ble_eq_true rfl) rfl (Nat.le_of_ble_eq_true rfl) (Nat.le_of_ble_eq_true rfl) (Nat.le_of_ble_eq_true rfl) (fun v9 f9 n9 hh => ?_)
  obtain ⟨rfl, rfl, rfl⟩ := hh
  refine aw_istore_n C dX9_has_4 (by decide) rfl ?_
  refine aw_nl [some (.ref 181), some (.retAddr (X.2.2 (1000 + v1))), some (.int r1.1), none] rfl ?_
  refine aw_ald_n C dX9_has_5 rfl ?_
  refine aw_get C (v := .int (r1.2.1 12)) gf_X9_26 (hm_M f r1.2) rfl dX9_has_6 ?_
  refine aw_iconst C (-1) dX9_has_9 ki_m1 ?_
  refine aw_icmp_ne C 26 dX9_has_10 (by decide) (fun q => ?_) (fun q => ?_)
  · rw [if_neg q] at h
    refine aw_fl [none, none, none, none] trivial ?_
    exact rmX9_has_b26 C h
  · rw [if_pos q] at h
    refine aw_iload_n C dX9_has_13 rfl ?_
    refine aw_ald_n C dX9_has_14 rfl ?_
    refine aw_get C (v := .int (r1.2.1 11)) gf_X9_340 (hm_M f r1.2) rfl dX9_has_15 ?_
    refine aw_isub C dX9_has_18 ?_
    refine aw_raw_n C dX9_has_19 rfl ?_
    refine am_slen C is1 dX9_has_20 (Nat.le_of_ble_eq_true rfl) (Nat.le_of_ble_eq_true rfl) (Nat.le_of_ble_eq_true rfl) (Nat.le_of_ble_eq_true rfl) (Nat.le_of_ble_eq_true rfl) ?_
    refine aw_icmp_eq C 28 dX9_has_23 (by decide) (fun q => ?_) (fun q => ?_)
    · rw [if_pos q] at h
      refine aw_iconst C 0 dX9_has_28 ki_0 ?_
      refine aw_istore_n C dX9_has_29 (by decide) rfl ?_
      refine aw_nl [some (.ref 181), some (.retAddr (X.2.2 (1000 + v1))), some (.int r1.1), some (.int (0 : Int32))] rfl ?_
      refine aw_fl [some (.ref 181), some (.retAddr (X.2.2 (1000 + v1))), some (.int r1.1), some (.int (0 : Int32))] ⟨rfl, ⟨rfl, ⟨rfl, ⟨rfl, trivial⟩⟩⟩⟩ ?_
      exact rmX9_has_l30 C rFU v1 r1.1 (0 : Int32) r1.2 is1 h
    · rw [if_neg q] at h
      refine aw_fl [none, none, none, none] trivial ?_
      exact rmX9_has_b26 C h
def mX9_stands_l15 : Nat → Nat → Int32 → Nat → Int32 → RS9 → Option (Int32 × RS9)
  | 0, _, _, _, _, _ => none
  | d + 1, v0, v1, v3, v4, σ => (if (strL v3) ≤ v4 then rCk (rNb (1 : Int32)) (some ((1 : Int32), σ)) else rCk (rIn (v1 + v4) (rLen v0)) (rCk (rIn v4 (sL9.getD v3 0)) ((if (rGa σ v0 (v1 + v4)) = (strC v3 v4) then mX9_stands_l15 d v0 v1 v3 (v4 + (1 : Int32)) σ else rCk (rNb (0 : Int32)) (some ((0 : Int32), σ))))))
set_option maxHeartbeats 1000000 in
theorem rmX9_stands_l15 {X : GX} {p : Program} {l : Launch} {e : Env} {s : State} {m : MethodId} {args : Array Value} {below : List Frame} {meth : Method} {c : Code} {f : AH} {n : Nat} {r : Int32 × RS9} (C : CC X p l (RM 4 0 0) s m args meth c RX9 cX9_stands 5 (some .boolean)) : ∀ (d : Nat) (v0 : Nat) (v1 : Int32) (v3 : Nat) (v4 : Int32) (σ : RS9) (_ : rIsA v0 = true) (_ : v3 < 15) (_ : mX9_stands_l15 d v0 v1 v3 v4 σ = some r), AW X p l e (RM 4 0 0) s m args below meth c 5 (ZM X below args s 0 0 (QMi f n r)) (rHm f σ) n 0 0 15 [some (.ref (rAid v0)), some (.int v1), none, some (.retAddr (X.2.2 (1000 + v3))), some (.int v4)] [] := by
  intro d
  induction d with
  | zero =>
    intro v0 v1 v3 v4 σ ia0 is3 h
    exact nomatch (show (none : Option (Int32 × RS9)) = some r from h)
  | succ d ih =>
    intro v0 v1 v3 v4 σ ia0 is3 h
    have h : (if (strL v3) ≤ v4 then rCk (rNb (1 : Int32)) (some ((1 : Int32), σ)) else rCk (rIn (v1 + v4) (rLen v0)) (rCk (rIn v4 (sL9.getD v3 0)) ((if (rGa σ v0 (v1 + v4)) = (strC v3 v4) then mX9_stands_l15 d v0 v1 v3 (v4 + (1 : Int32)) σ else rCk (rNb (0 : Int32)) (some ((0 : Int32), σ)))))) = some r := h
    refine aw_iload C dX9_stands_15 rfl ?_
    refine aw_raw_n C dX9_stands_17 rfl ?_
    refine am_slen C is3 dX9_stands_18 (Nat.le_of_ble_eq_true rfl) (Nat.le_of_ble_eq_true rfl) (Nat.le_of_ble_eq_true rfl) (Nat.le_of_ble_eq_true rfl) (Nat.le_of_ble_eq_true rfl) ?_
    refine aw_icmp_ge C 47 dX9_stands_21 (by decide) (fun q => ?_) (fun q => ?_)
    · rw [if_pos q] at h
      refine aw_iconst C 1 dX9_stands_47 ki_1 ?_
      obtain ⟨hb2, h⟩ := ck_some h
      cases h
      exact aw_iret C rfl (nb_nar hb2) dX9_stands_48 (Nat.le_refl _) (Nat.le_refl _) ⟨rfl, rfl, rfl⟩
    · rw [if_neg q] at h
      refine aw_ald_n C dX9_stands_24 rfl ?_
      refine aw_iload_n C dX9_stands_25 rfl ?_
      refine aw_iload C dX9_stands_26 rfl ?_
      refine aw_iadd C dX9_stands_28 ?_
      obtain ⟨hb3, h⟩ := ck_some h
      refine am_iald C (rGa σ v0 (v1 + v4)) ia0 (inb_vp hb3) rfl dX9_stands_29 ?_
      refine aw_raw_n C dX9_stands_30 rfl ?_
      refine aw_iload C dX9_stands_31 rfl ?_
      obtain ⟨hb5, h⟩ := ck_some h
      refine am_schr C is3 hb5 dX9_stands_33 (Nat.le_of_ble_eq_true rfl) (Nat.le_of_ble_eq_true rfl) (Nat.le_of_ble_eq_true rfl) (Nat.le_of_ble_eq_true rfl) (Nat.le_of_ble_eq_true rfl) ?_
      refine aw_icmp_eq C 41 dX9_stands_36 (by decide) (fun q => ?_) (fun q => ?_)
      · rw [if_pos q] at h
        refine aw_iinc C (v4 + (1 : Int32)) dX9_stands_41 rfl (by rw [ki_1]) (by decide) rfl ?_
        refine aw_nl [some (.ref (rAid v0)), some (.int v1), none, some (.retAddr (X.2.2 (1000 + v3))), some (.int (v4 + (1 : Int32)))] rfl ?_
        refine aw_goto C 15 dX9_stands_44 (by decide) ?_
        refine aw_fl [some (.ref (rAid v0)), some (.int v1), none, some (.retAddr (X.2.2 (1000 + v3))), some (.int (v4 + (1 : Int32)))] ⟨rfl, ⟨rfl, ⟨rfl, ⟨rfl, trivial⟩⟩⟩⟩ ?_
        exact ih v0 v1 v3 (v4 + (1 : Int32)) σ ia0 is3 h
      · rw [if_neg q] at h
        refine aw_iconst C 0 dX9_stands_39 ki_0 ?_
        obtain ⟨hb6, h⟩ := ck_some h
        cases h
        exact aw_iret C rfl (nb_nar hb6) dX9_stands_40 (Nat.le_refl _) (Nat.le_refl _) ⟨rfl, rfl, rfl⟩
def mX9_stands (v0 : Nat) (v1 : Int32) (v2 : Int32) (v3 : Nat) (σ : RS9) : Option (Int32 × RS9) := (if (strL v3) ≤ (v2 - v1) then mX9_stands_l15 rFU v0 v1 v3 (0 : Int32) σ else rCk (rNb (0 : Int32)) (some ((0 : Int32), σ)))
set_option maxHeartbeats 1000000 in
theorem rmX9_stands {X : GX} {l : Launch} {f : AH} {n : Nat} {r : Int32 × RS9} {v0 : Nat} {v1 : Int32} {v2 : Int32} {v3 : Nat} {σ : RS9} (ia0 : rIsA v0 = true) (is3 : v3 < 15) (h : mX9_stands v0 v1 v2 v3 σ = some r) : AM X l yX9_stands cX9_stands 5 (some .boolean) 4 0 0 [.ref (rAid v0), .int v1, .int v2, .retAddr (X.2.2 (1000 + v3))] (rHm f σ) n (QMi f n r) := by
  have h : (if (strL v3) ≤ (v2 - v1) then mX9_stands_l15 rFU v0 v1 v3 (0 : Int32) σ else rCk (rNb (0 : Int32)) (some ((0 : Int32), σ))) = some r := h
  refine AM.of (by decide +kernel) rfl (Nat.le_of_ble_eq_true rfl) (fun p e s m args below meth c C _ => ?_)
  refine aw_nl [some (.ref (rAid v0)), some (.int v1), some (.int v2), some (.retAddr (X.2.2 (1000 + v3))), none] rfl ?_
  refine aw_iload_n C dX9_stands_0 rfl ?_
  refine aw_iload_n C dX9_stands_1 rfl ?_
  refine aw_isub C dX9_stands_2 ?_
  refine aw_raw_n C dX9_stands_3 rfl ?_
  refine am_slen C is3 dX9_stands_4 (Nat.le_of_ble_eq_true rfl) (Nat.le_of_ble_eq_true rfl) (Nat.le_of_ble_eq_true rfl) (Nat.le_of_ble_eq_true rfl) (Nat.le_of_ble_eq_true rfl) ?_
  refine aw_icmp_ge C 12 dX9_stands_7 (by decide) (fun q => ?_) (fun q => ?_)
  · rw [if_pos q] at h
    refine aw_iconst C 0 dX9_stands_12 ki_0 ?_
    refine aw_istore C dX9_stands_13 (by decide) rfl ?_
    refine aw_nl [some (.ref (rAid v0)), some (.int v1), some (.int v2), some (.retAddr (X.2.2 (1000 + v3))), some (.int (0 : Int32))] rfl ?_
    refine aw_fl [some (.ref (rAid v0)), some (.int v1), none, some (.retAddr (X.2.2 (1000 + v3))), some (.int (0 : Int32))] ⟨rfl, ⟨rfl, ⟨rfl, ⟨rfl, trivial⟩⟩⟩⟩ ?_
    exact rmX9_stands_l15 C rFU v0 v1 v3 (0 : Int32) σ ia0 is3 h
  · rw [if_neg q] at h
    refine aw_iconst C 0 dX9_stands_10 ki_0 ?_
    obtain ⟨hb2, h⟩ := ck_some h
    cases h
    exact aw_iret C rfl (nb_nar hb2) dX9_stands_11 (Nat.le_refl _) (Nat.le_refl _) ⟨rfl, rfl, rfl⟩
def mX9_means_b166 (s0 : Int32) (σ : RS9) : Option (Int32 × RS9) := (if s0 = (-1 : Int32) then some ((1 : Int32), σ) else some ((2 : Int32), (rSf σ 55 s0)))
set_option maxHeartbeats 1000000 in
theorem rmX9_means_b166 {X : GX} {p : Program} {l : Launch} {e : Env} {s : State} {m : MethodId} {args : Array Value} {below : List Frame} {meth : Method} {c : Code} {f : AH} {n : Nat} {r : Int32 × RS9} {s0 : Int32} {σ : RS9} (C : CC X p l (RM 5 0 0) s m args meth c RX9 cX9_means 7 (some .int)) (h : mX9_means_b166 s0 σ = some r) : AW X p l e (RM 5 0 0) s m args below meth c 7 (ZM X below args s 0 0 (QMi f n r)) (rHm f σ) n 0 0 166 [some (.ref 181), none, none, none, none, none, none] [.int s0] := by
  have h : (if s0 = (-1 : Int32) then some ((1 : Int32), σ) else some ((2 : Int32), (rSf σ 55 s0))) = some r := h
  refine aw_istore C dX9_means_166 (by decide) rfl ?_
  refine aw_nl [some (.ref 181), none, none, none, none, none, some (.int s0)] rfl ?_
  refine aw_iload C dX9_means_168 rfl ?_
  refine aw_iconst C (-1) dX9_means_170 ki_m1 ?_
  refine aw_icmp_ne C 176 dX9_means_171 (by decide) (fun q => ?_) (fun q => ?_)
  · rw [if_neg q] at h
    refine aw_ald_n C dX9_means_176 rfl ?_
    refine aw_iload C dX9_means_177 rfl ?_
    refine am_put C gf_X9_183 nf9_55 rfl rfl dX9_means_179 ?_
    refine aw_iconst C 2 dX9_means_182 ki_2 ?_
    cases h
    exact aw_iret C rfl rfl dX9_means_183 (Nat.le_refl _) (Nat.le_refl _) ⟨rfl, rfl, rfl⟩
  · rw [if_pos q] at h
    refine aw_iconst C 1 dX9_means_174 ki_1 ?_
    cases h
    exact aw_iret C rfl rfl dX9_means_175 (Nat.le_refl _) (Nat.le_refl _) ⟨rfl, rfl, rfl⟩
def mX9_means_b165 (σ : RS9) : Option (Int32 × RS9) := mX9_means_b166 (-1 : Int32) σ
set_option maxHeartbeats 1000000 in
theorem rmX9_means_b165 {X : GX} {p : Program} {l : Launch} {e : Env} {s : State} {m : MethodId} {args : Array Value} {below : List Frame} {meth : Method} {c : Code} {f : AH} {n : Nat} {r : Int32 × RS9} {σ : RS9} (C : CC X p l (RM 5 0 0) s m args meth c RX9 cX9_means 7 (some .int)) (h : mX9_means_b165 σ = some r) : AW X p l e (RM 5 0 0) s m args below meth c 7 (ZM X below args s 0 0 (QMi f n r)) (rHm f σ) n 0 0 165 [some (.ref 181), none, none, none, none, none, none] [] := by
  have h : mX9_means_b166 (-1 : Int32) σ = some r := h
  refine aw_iconst C (-1) dX9_means_165 ki_m1 ?_
  refine aw_fl [some (.ref 181), none, none, none, none, none, none] ⟨rfl, trivial⟩ ?_
  exact rmX9_means_b166 C h
def mX9_means_b132 (s0 : Int32) (σ : RS9) : Option (Int32 × RS9) := some (s0, σ)
set_option maxHeartbeats 1000000 in
theorem rmX9_means_b132 {X : GX} {p : Program} {l : Launch} {e : Env} {s : State} {m : MethodId} {args : Array Value} {below : List Frame} {meth : Method} {c : Code} {f : AH} {n : Nat} {r : Int32 × RS9} {s0 : Int32} {σ : RS9} (C : CC X p l (RM 5 0 0) s m args meth c RX9 cX9_means 7 (some .int)) (h : mX9_means_b132 s0 σ = some r) : AW X p l e (RM 5 0 0) s m args below meth c 7 (ZM X below args s 0 0 (QMi f n r)) (rHm f σ) n 0 0 132 [none, none, none, none, none, none, none] [.int s0] := by
  have h : some (s0, σ) = some r := h
  cases h
  exact aw_iret C rfl rfl dX9_means_132 (Nat.le_refl _) (Nat.le_refl _) ⟨rfl, rfl, rfl⟩
def mX9_means_b116 (v3 : Nat) (v4 : Int32) (σ : RS9) : Option (Int32 × RS9) := rCk (rIn v4 (rLen v3)) ((if (σ.1 55) = (rGa σ v3 v4) then mX9_means_b132 (1 : Int32) σ else mX9_means_b132 (4 : Int32) σ))
set_option maxHeartbeats 1000000 in
theorem rmX9_means_b116 {X : GX} {p : Program} {l : Launch} {e : Env} {s : State} {m : MethodId} {args : Array Value} {below : List Frame} {meth : Method} {c : Code} {f : AH} {n : Nat} {r : Int32 × RS9} {v3 : Nat} {v4 : Int32} {σ : RS9} (C : CC X p l (RM 5 0 0) s m args meth c RX9 cX9_means 7 (some .int)) (ia3 : rIsA v3 = true) (h : mX9_means_b116 v3 v4 σ = some r) : AW X p l e (RM 5 0 0) s m args below meth c 7 (ZM X below args s 0 0 (QMi f n r)) (rHm f σ) n 0 0 116 [some (.ref 181), none, none, some (.ref (rAid v3)), some (.int v4), none, none] [] := by
  have h : rCk (rIn v4 (rLen v3)) ((if (σ.1 55) = (rGa σ v3 v4) then mX9_means_b132 (1 : Int32) σ else mX9_means_b132 (4 : Int32) σ)) = some r := h
  refine aw_ald_n C dX9_means_116 rfl ?_
  refine aw_get C (v := .int (σ.1 55)) gf_X9_183 (hm_M f σ) rfl dX9_means_117 ?_
  refine aw_ald_n C dX9_means_120 rfl ?_
  refine aw_iload C dX9_means_121 rfl ?_
  obtain ⟨hb1, h⟩ := ck_some h
  refine am_iald C (rGa σ v3 v4) ia3 (inb_vp hb1) rfl dX9_means_123 ?_
  refine aw_icmp_eq C 131 dX9_means_124 (by decide) (fun q => ?_) (fun q => ?_)
  · rw [if_pos q] at h
    refine aw_iconst C 1 dX9_means_131 ki_1 ?_
    refine aw_fl [none, none, none, none, none, none, none] trivial ?_
    exact rmX9_means_b132 C h
  · rw [if_neg q] at h
    refine aw_iconst C 4 dX9_means_127 ki_4 ?_
    refine aw_goto C 132 dX9_means_128 (by decide) ?_
    refine aw_fl [none, none, none, none, none, none, none] trivial ?_
    exact rmX9_means_b132 C h
def mX9_means_b51 (s0 : Int32) (σ : RS9) : Option (Int32 × RS9) := some (s0, σ)
set_option maxHeartbeats 1000000 in
theorem rmX9_means_b51 {X : GX} {p : Program} {l : Launch} {e : Env} {s : State} {m : MethodId} {args : Array Value} {below : List Frame} {meth : Method} {c : Code} {f : AH} {n : Nat} {r : Int32 × RS9} {s0 : Int32} {σ : RS9} (C : CC X p l (RM 5 0 0) s m args meth c RX9 cX9_means 7 (some .int)) (h : mX9_means_b51 s0 σ = some r) : AW X p l e (RM 5 0 0) s m args below meth c 7 (ZM X below args s 0 0 (QMi f n r)) (rHm f σ) n 0 0 51 [none, none, none, none, none, none, none] [.int s0] := by
  have h : some (s0, σ) = some r := h
  cases h
  exact aw_iret C rfl rfl dX9_means_51 (Nat.le_refl _) (Nat.le_refl _) ⟨rfl, rfl, rfl⟩
def mX9_means_b50 (σ : RS9) : Option (Int32 × RS9) := mX9_means_b51 (1 : Int32) σ
set_option maxHeartbeats 1000000 in
theorem rmX9_means_b50 {X : GX} {p : Program} {l : Launch} {e : Env} {s : State} {m : MethodId} {args : Array Value} {below : List Frame} {meth : Method} {c : Code} {f : AH} {n : Nat} {r : Int32 × RS9} {σ : RS9} (C : CC X p l (RM 5 0 0) s m args meth c RX9 cX9_means 7 (some .int)) (h : mX9_means_b50 σ = some r) : AW X p l e (RM 5 0 0) s m args below meth c 7 (ZM X below args s 0 0 (QMi f n r)) (rHm f σ) n 0 0 50 [none, none, none, none, none, none, none] [] := by
  have h : mX9_means_b51 (1 : Int32) σ = some r := h
  refine aw_iconst C 1 dX9_means_50 ki_1 ?_
  refine aw_fl [none, none, none, none, none, none, none] trivial ?_
  exact rmX9_means_b51 C h
def mX9_means (v1 : Int32) (v2 : Int32) (v3 : Nat) (v4 : Int32) (v5 : Int32) (σ : RS9) : Option (Int32 × RS9) := rCk (rIn v4 (rLen v3)) ((if v1 = (1 : Int32) then (if v2 = (0 : Int32) then mX9_means_b50 (rSf σ 55 (rGa σ v3 v4)) else rCk (rIn v4 (rLen v3)) ((if (rGa σ v3 v4) = (34 : Int32) then (if v5 ≤ (v4 + (1 : Int32)) then mX9_means_b50 (rSf σ 55 (rGa σ v3 v4)) else rCk (rIn (v4 + (1 : Int32)) (rLen v3)) ((if (rGa σ v3 (v4 + (1 : Int32))) = (34 : Int32) then mX9_means_b51 (2 : Int32) (rSf σ 55 (rGa σ v3 v4)) else mX9_means_b50 (rSf σ 55 (rGa σ v3 v4))))) else mX9_means_b50 (rSf σ 55 (rGa σ v3 v4))))) else (if v1 = (2 : Int32) then ((mX9_stands v3 v4 v5 0 (rSf σ 55 (rGa σ v3 v4))).bind fun r5 => (if r5.1 = (0 : Int32) then ((mX9_stands v3 v4 v5 1 r5.2).bind fun r6 => (if r6.1 = (0 : Int32) then ((mX9_stands v3 v4 v5 2 r6.2).bind fun r7 => (if r7.1 = (0 : Int32) then mX9_means_b116 v3 v4 r7.2 else some ((5 : Int32), r7.2))) else mX9_means_b116 v3 v4 (rSf r6.2 55 (62 : Int32)))) else mX9_means_b116 v3 v4 (rSf r5.2 55 (60 : Int32)))) else rCk (rIn v4 (rLen v3)) ((if (rGa σ v3 v4) = (92 : Int32) then (if v5 ≤ (v4 + (1 : Int32)) then mX9_means_b165 (rSf σ 55 (rGa σ v3 v4)) else rCk (rIn (v4 + (1 : Int32)) (rLen v3)) (((mX9_backMeaning v1 (rGa σ v3 (v4 + (1 : Int32))) (rSf σ 55 (rGa σ v3 v4))).bind fun r4 => mX9_means_b166 r4.1 r4.2))) else mX9_means_b165 (rSf σ 55 (rGa σ v3 v4)))))))
set_option maxHeartbeats 1000000 in
theorem rmX9_means {X : GX} {l : Launch} {f : AH} {n : Nat} {r : Int32 × RS9} {v1 : Int32} {v2 : Int32} {v3 : Nat} {v4 : Int32} {v5 : Int32} {σ : RS9} (ia3 : rIsA v3 = true) (h : mX9_means v1 v2 v3 v4 v5 σ = some r) : AM X l yX9_means cX9_means 7 (some .int) 5 0 0 [.ref 181, .int v1, .int v2, .ref (rAid v3), .int v4, .int v5] (rHm f σ) n (QMi f n r) := by
  have h : rCk (rIn v4 (rLen v3)) ((if v1 = (1 : Int32) then (if v2 = (0 : Int32) then mX9_means_b50 (rSf σ 55 (rGa σ v3 v4)) else rCk (rIn v4 (rLen v3)) ((if (rGa σ v3 v4) = (34 : Int32) then (if v5 ≤ (v4 + (1 : Int32)) then mX9_means_b50 (rSf σ 55 (rGa σ v3 v4)) else rCk (rIn (v4 + (1 : Int32)) (rLen v3)) ((if (rGa σ v3 (v4 + (1 : Int32))) = (34 : Int32) then mX9_means_b51 (2 : Int32) (rSf σ 55 (rGa σ v3 v4)) else mX9_means_b50 (rSf σ 55 (rGa σ v3 v4))))) else mX9_means_b50 (rSf σ 55 (rGa σ v3 v4))))) else (if v1 = (2 : Int32) then ((mX9_stands v3 v4 v5 0 (rSf σ 55 (rGa σ v3 v4))).bind fun r5 => (if r5.1 = (0 : Int32) then ((mX9_stands v3 v4 v5 1 r5.2).bind fun r6 => (if r6.1 = (0 : Int32) then ((mX9_stands v3 v4 v5 2 r6.2).bind fun r7 => (if r7.1 = (0 : Int32) then mX9_means_b116 v3 v4 r7.2 else some ((5 : Int32), r7.2))) else mX9_means_b116 v3 v4 (rSf r6.2 55 (62 : Int32)))) else mX9_means_b116 v3 v4 (rSf r5.2 55 (60 : Int32)))) else rCk (rIn v4 (rLen v3)) ((if (rGa σ v3 v4) = (92 : Int32) then (if v5 ≤ (v4 + (1 : Int32)) then mX9_means_b165 (rSf σ 55 (rGa σ v3 v4)) else rCk (rIn (v4 + (1 : Int32)) (rLen v3)) (((mX9_backMeaning v1 (rGa σ v3 (v4 + (1 : Int32))) (rSf σ 55 (rGa σ v3 v4))).bind fun r4 => mX9_means_b166 r4.1 r4.2))) else mX9_means_b165 (rSf σ 55 (rGa σ v3 v4))))))) = some r := h
  refine AM.of (by decide +kernel) rfl (Nat.le_of_ble_eq_true rfl) (fun p e s m args below meth c C _ => ?_)
  refine aw_nl [some (.ref 181), some (.int v1), some (.int v2), some (.ref (rAid v3)), some (.int v4), some (.int v5), none] rfl ?_
  refine aw_ald_n C dX9_means_0 rfl ?_
  refine aw_ald_n C dX9_means_1 rfl ?_
  refine aw_iload C dX9_means_2 rfl ?_
  obtain ⟨hb1, h⟩ := ck_some h
  refine am_iald C (rGa σ v3 v4) ia3 (inb_vp hb1) rfl dX9_means_4 ?_
  refine am_put C gf_X9_183 nf9_55 rfl rfl dX9_means_5 ?_
  refine aw_iload_n C dX9_means_8 rfl ?_
  refine aw_iconst C 1 dX9_means_9 ki_1 ?_
  refine aw_icmp_ne C 52 dX9_means_10 (by decide) (fun q => ?_) (fun q => ?_)
  · rw [if_neg q] at h
    refine aw_iload_n C dX9_means_52 rfl ?_
    refine aw_iconst C 2 dX9_means_53 ki_2 ?_
    refine aw_icmp_ne C 133 dX9_means_54 (by decide) (fun q => ?_) (fun q => ?_)
    · rw [if_neg q] at h
      refine aw_ald_n C dX9_means_133 rfl ?_
      refine aw_iload C dX9_means_134 rfl ?_
      obtain ⟨hb2, h⟩ := ck_some h
      refine am_iald C (rGa σ v3 v4) ia3 (inb_vp hb2) rfl dX9_means_136 ?_
      refine aw_bipush C 92 dX9_means_137 kb_92 ?_
      refine aw_icmp_ne C 165 dX9_means_139 (by decide) (fun q => ?_) (fun q => ?_)
      · rw [if_neg q] at h
        refine aw_fl [some (.ref 181), none, none, none, none, none, none] ⟨rfl, trivial⟩ ?_
        exact rmX9_means_b165 C h
      · rw [if_pos q] at h
        refine aw_iload C dX9_means_142 rfl ?_
        refine aw_iconst C 1 dX9_means_144 ki_1 ?_
        refine aw_iadd C dX9_means_145 ?_
        refine aw_iload C dX9_means_146 rfl ?_
        refine aw_icmp_ge C 165 dX9_means_148 (by decide) (fun q => ?_) (fun q => ?_)
        · rw [if_pos q] at h
          refine aw_fl [some (.ref 181), none, none, none, none, none, none] ⟨rfl, trivial⟩ ?_
          exact rmX9_means_b165 C h
        · rw [if_neg q] at h
          refine aw_ald_n C dX9_means_151 rfl ?_
          refine aw_iload_n C dX9_means_152 rfl ?_
          refine aw_ald_n C dX9_means_153 rfl ?_
          refine aw_iload C dX9_means_154 rfl ?_
          refine aw_iconst C 1 dX9_means_156 ki_1 ?_
          refine aw_iadd C dX9_means_157 ?_
          obtain ⟨hb3, h⟩ := ck_some h
          refine am_iald C (rGa σ v3 (v4 + (1 : Int32))) ia3 (inb_vp hb3) rfl dX9_means_158 ?_
          obtain ⟨r4, h4, h⟩ := Option.bind_eq_some_iff.mp h
          refine aw_callV C (ci := 9) (b := 181) [.int v1, .int (rGa σ v3 (v4 + (1 : Int32)))] mv_X9_196 rfl rfl (hm_M f (rSf σ 55 (rGa σ v3 v4))) (rmX9_backMeaning h4) rfl dX9_means_159 (Nat.le_of_ble_eq_true rfl) (Nat.le_of_ble_eq_true rfl) rfl (Nat.le_of_ble_eq_true rfl) (Nat.le_of_ble_eq_true rfl) (Nat.le_of_ble_eq_true rfl) (fun v9 f9 n9 hh => ?_)
          obtain ⟨rfl, rfl, rfl⟩ := hh
          refine aw_goto C 166 dX9_means_162 (by decide) ?_
          refine aw_fl [some (.ref 181), none, none, none, none, none, none] ⟨rfl, trivial⟩ ?_
          exact rmX9_means_b166 C h
    · rw [if_pos q] at h
      refine aw_ald_n C dX9_means_57 rfl ?_
      refine aw_iload C dX9_means_58 rfl ?_
      refine aw_iload C dX9_means_60 rfl ?_
      refine aw_ldcK C (C.2.2.2.2.2.2.1.2.2.2.2.2.2.2.2.1.2 0 (by decide)) dX9_means_62 ?_
      obtain ⟨r5, h5, h⟩ := Option.bind_eq_some_iff.mp h
      refine aw_callS C [.ref (rAid v3), .int v4, .int v5, .retAddr (X.2.2 (1000 + 0))] ms_X9_188 (rmX9_stands ia3 (by decide) h5) rfl dX9_means_64 (Nat.le_of_ble_eq_true rfl) (Nat.le_of_ble_eq_true rfl) rfl (Nat.le_of_ble_eq_true rfl) (Nat.le_of_ble_eq_true rfl) (Nat.le_of_ble_eq_true rfl) (fun v9 f9 n9 hh => ?_)
      obtain ⟨rfl, rfl, rfl⟩ := hh
      refine aw_if_eq C 79 dX9_means_67 (by decide) (fun q => ?_) (fun q => ?_)
      · rw [if_pos q] at h
        refine aw_ald_n C dX9_means_79 rfl ?_
        refine aw_iload C dX9_means_80 rfl ?_
        refine aw_iload C dX9_means_82 rfl ?_
        refine aw_ldcK C (C.2.2.2.2.2.2.1.2.2.2.2.2.2.2.2.1.2 1 (by decide)) dX9_means_84 ?_
        obtain ⟨r6, h6, h⟩ := Option.bind_eq_some_iff.mp h
        refine aw_callS C [.ref (rAid v3), .int v4, .int v5, .retAddr (X.2.2 (1000 + 1))] ms_X9_188 (rmX9_stands ia3 (by decide) h6) rfl dX9_means_86 (Nat.le_of_ble_eq_true rfl) (Nat.le_of_ble_eq_true rfl) rfl (Nat.le_of_ble_eq_true rfl) (Nat.le_of_ble_eq_true rfl) (Nat.le_of_ble_eq_true rfl) (fun v9 f9 n9 hh => ?_)
        obtain ⟨rfl, rfl, rfl⟩ := hh
        refine aw_if_eq C 101 dX9_means_89 (by decide) (fun q => ?_) (fun q => ?_)
        · rw [if_pos q] at h
          refine aw_ald_n C dX9_means_101 rfl ?_
          refine aw_iload C dX9_means_102 rfl ?_
          refine aw_iload C dX9_means_104 rfl ?_
          refine aw_ldcK C (C.2.2.2.2.2.2.1.2.2.2.2.2.2.2.2.1.2 2 (by decide)) dX9_means_106 ?_
          obtain ⟨r7, h7, h⟩ := Option.bind_eq_some_iff.mp h
          refine aw_callS C [.ref (rAid v3), .int v4, .int v5, .retAddr (X.2.2 (1000 + 2))] ms_X9_188 (rmX9_stands ia3 (by decide) h7) rfl dX9_means_108 (Nat.le_of_ble_eq_true rfl) (Nat.le_of_ble_eq_true rfl) rfl (Nat.le_of_ble_eq_true rfl) (Nat.le_of_ble_eq_true rfl) (Nat.le_of_ble_eq_true rfl) (fun v9 f9 n9 hh => ?_)
          obtain ⟨rfl, rfl, rfl⟩ := hh
          refine aw_if_eq C 116 dX9_means_111 (by decide) (fun q => ?_) (fun q => ?_)
          · rw [if_pos q] at h
            refine aw_fl [some (.ref 181), none, none, some (.ref (rAid v3)), some (.int v4), none, none] ⟨rfl, ⟨rfl, ⟨rfl, trivial⟩⟩⟩ ?_
            exact rmX9_means_b116 C ia3 h
          · rw [if_neg q] at h
            refine aw_iconst C 5 dX9_means_114 ki_5 ?_
            cases h
            exact aw_iret C rfl rfl dX9_means_115 (Nat.le_refl _) (Nat.le_refl _) ⟨rfl, rfl, rfl⟩
        · rw [if_neg q] at h
          refine aw_ald_n C dX9_means_92 rfl ?_
          refine aw_bipush C 62 dX9_means_93 kb_62 ?_
          refine am_put C gf_X9_183 nf9_55 rfl rfl dX9_means_95 ?_
          refine aw_goto C 116 dX9_means_98 (by decide) ?_
          refine aw_fl [some (.ref 181), none, none, some (.ref (rAid v3)), some (.int v4), none, none] ⟨rfl, ⟨rfl, ⟨rfl, trivial⟩⟩⟩ ?_
          exact rmX9_means_b116 C ia3 h
      · rw [if_neg q] at h
        refine aw_ald_n C dX9_means_70 rfl ?_
        refine aw_bipush C 60 dX9_means_71 kb_60 ?_
        refine am_put C gf_X9_183 nf9_55 rfl rfl dX9_means_73 ?_
        refine aw_goto C 116 dX9_means_76 (by decide) ?_
        refine aw_fl [some (.ref 181), none, none, some (.ref (rAid v3)), some (.int v4), none, none] ⟨rfl, ⟨rfl, ⟨rfl, trivial⟩⟩⟩ ?_
        exact rmX9_means_b116 C ia3 h
  · rw [if_pos q] at h
    refine aw_iload_n C dX9_means_13 rfl ?_
    refine aw_if_eq C 50 dX9_means_14 (by decide) (fun q => ?_) (fun q => ?_)
    · rw [if_pos q] at h
      refine aw_fl [none, none, none, none, none, none, none] trivial ?_
      exact rmX9_means_b50 C h
    · rw [if_neg q] at h
      refine aw_ald_n C dX9_means_17 rfl ?_
      refine aw_iload C dX9_means_18 rfl ?_
      obtain ⟨hb8, h⟩ := ck_some h
      refine am_iald C (rGa σ v3 v4) ia3 (inb_vp hb8) rfl dX9_means_20 ?_
      refine aw_bipush C 34 dX9_means_21 kb_34 ?_
      refine aw_icmp_ne C 50 dX9_means_23 (by decide) (fun q => ?_) (fun q => ?_)
      · rw [if_neg q] at h
        refine aw_fl [none, none, none, none, none, none, none] trivial ?_
        exact rmX9_means_b50 C h
      · rw [if_pos q] at h
        refine aw_iload C dX9_means_26 rfl ?_
        refine aw_iconst C 1 dX9_means_28 ki_1 ?_
        refine aw_iadd C dX9_means_29 ?_
        refine aw_iload C dX9_means_30 rfl ?_
        refine aw_icmp_ge C 50 dX9_means_32 (by decide) (fun q => ?_) (fun q => ?_)
        · rw [if_pos q] at h
          refine aw_fl [none, none, none, none, none, none, none] trivial ?_
          exact rmX9_means_b50 C h
        · rw [if_neg q] at h
          refine aw_ald_n C dX9_means_35 rfl ?_
          refine aw_iload C dX9_means_36 rfl ?_
          refine aw_iconst C 1 dX9_means_38 ki_1 ?_
          refine aw_iadd C dX9_means_39 ?_
          obtain ⟨hb9, h⟩ := ck_some h
          refine am_iald C (rGa σ v3 (v4 + (1 : Int32))) ia3 (inb_vp hb9) rfl dX9_means_40 ?_
          refine aw_bipush C 34 dX9_means_41 kb_34 ?_
          refine aw_icmp_ne C 50 dX9_means_43 (by decide) (fun q => ?_) (fun q => ?_)
          · rw [if_neg q] at h
            refine aw_fl [none, none, none, none, none, none, none] trivial ?_
            exact rmX9_means_b50 C h
          · rw [if_pos q] at h
            refine aw_iconst C 2 dX9_means_46 ki_2 ?_
            refine aw_goto C 51 dX9_means_47 (by decide) ?_
            refine aw_fl [none, none, none, none, none, none, none] trivial ?_
            exact rmX9_means_b51 C h
def mX9_undoes_l7 : Nat → Int32 → Int32 → Nat → Nat → Nat → Int32 → Nat → Nat → Nat → Int32 → Int32 → RS9 → Option (Int32 × RS9)
  | 0, _, _, _, _, _, _, _, _, _, _, _, _ => none
  | d + 1, v1, v2, v3, v4, v5, v7, v8, v9, v10, v11, v12, σ => (if v7 ≤ v12 then some (v11, σ) else ((mX9_means v1 v2 v3 v12 v7 σ).bind fun r1 => rCk (rIn v11 (rLen v8)) (rCk (rIn v12 (rLen v4)) (rCk (rIn v11 (rLen v9)) (rCk (rIn ((v12 + r1.1) - (1 : Int32)) (rLen v5)) (rCk (rIn v11 (rLen v10)) (mX9_undoes_l7 d v1 v2 v3 v4 v5 v7 v8 v9 v10 (v11 + (1 : Int32)) (v12 + r1.1) (rSa (rSa (rSa r1.2 v8 v11 (r1.2.1 55)) v9 v11 (rGa (rSa r1.2 v8 v11 (r1.2.1 55)) v4 v12)) v10 v11 (rGa (rSa (rSa r1.2 v8 v11 (r1.2.1 55)) v9 v11 (rGa (rSa r1.2 v8 v11 (r1.2.1 55)) v4 v12)) v5 ((v12 + r1.1) - (1 : Int32)))))))))))
set_option maxHeartbeats 1000000 in
theorem rmX9_undoes_l7 {X : GX} {p : Program} {l : Launch} {e : Env} {s : State} {m : MethodId} {args : Array Value} {below : List Frame} {meth : Method} {c : Code} {f : AH} {n : Nat} {r : Int32 × RS9} (C : CC X p l (RM 6 0 0) s m args meth c RX9 cX9_undoes 14 (some .int)) : ∀ (d : Nat) (v1 : Int32) (v2 : Int32) (v3 : Nat) (v4 : Nat) (v5 : Nat) (v7 : Int32) (v8 : Nat) (v9 : Nat) (v10 : Nat) (v11 : Int32) (v12 : Int32) (σ : RS9) (_ : rIsA v3 = true) (_ : rIsA v4 = true) (_ : rIsA v5 = true) (_ : rIsA v8 = true) (_ : rIsA v9 = true) (_ : rIsA v10 = true) (_ : mX9_undoes_l7 d v1 v2 v3 v4 v5 v7 v8 v9 v10 v11 v12 σ = some r), AW X p l e (RM 6 0 0) s m args below meth c 14 (ZM X below args s 0 0 (QMi f n r)) (rHm f σ) n 0 0 7 [some (.ref 181), some (.int v1), some (.int v2), some (.ref (rAid v3)), some (.ref (rAid v4)), some (.ref (rAid v5)), none, some (.int v7), some (.ref (rAid v8)), some (.ref (rAid v9)), some (.ref (rAid v10)), some (.int v11), some (.int v12), none] [] := by
  intro d
  induction d with
  | zero =>
    intro v1 v2 v3 v4 v5 v7 v8 v9 v10 v11 v12 σ ia3 ia4 ia5 ia8 ia9 ia10 h
    exact nomatch (show (none : Option (Int32 × RS9)) = some r from h)
  | succ d ih =>
    intro v1 v2 v3 v4 v5 v7 v8 v9 v10 v11 v12 σ ia3 ia4 ia5 ia8 ia9 ia10 h
    have h : (if v7 ≤ v12 then some (v11, σ) else ((mX9_means v1 v2 v3 v12 v7 σ).bind fun r1 => rCk (rIn v11 (rLen v8)) (rCk (rIn v12 (rLen v4)) (rCk (rIn v11 (rLen v9)) (rCk (rIn ((v12 + r1.1) - (1 : Int32)) (rLen v5)) (rCk (rIn v11 (rLen v10)) (mX9_undoes_l7 d v1 v2 v3 v4 v5 v7 v8 v9 v10 (v11 + (1 : Int32)) (v12 + r1.1) (rSa (rSa (rSa r1.2 v8 v11 (r1.2.1 55)) v9 v11 (rGa (rSa r1.2 v8 v11 (r1.2.1 55)) v4 v12)) v10 v11 (rGa (rSa (rSa r1.2 v8 v11 (r1.2.1 55)) v9 v11 (rGa (rSa r1.2 v8 v11 (r1.2.1 55)) v4 v12)) v5 ((v12 + r1.1) - (1 : Int32))))))))))) = some r := h
    refine aw_iload C dX9_undoes_7 rfl ?_
    refine aw_iload C dX9_undoes_9 rfl ?_
    refine aw_icmp_ge C 74 dX9_undoes_11 (by decide) (fun q => ?_) (fun q => ?_)
    · rw [if_pos q] at h
      refine aw_iload C dX9_undoes_74 rfl ?_
      cases h
      exact aw_iret C rfl rfl dX9_undoes_76 (Nat.le_refl _) (Nat.le_refl _) ⟨rfl, rfl, rfl⟩
    · rw [if_neg q] at h
      refine aw_ald_n C dX9_undoes_14 rfl ?_
      refine aw_iload_n C dX9_undoes_15 rfl ?_
      refine aw_iload_n C dX9_undoes_16 rfl ?_
      refine aw_ald_n C dX9_undoes_17 rfl ?_
      refine aw_iload C dX9_undoes_18 rfl ?_
      refine aw_iload C dX9_undoes_20 rfl ?_
      obtain ⟨r1, h1, h⟩ := Option.bind_eq_some_iff.mp h
      refine aw_callV C (ci := 9) (b := 181) [.int v1, .int v2, .ref (rAid v3), .int v12, .int v7] mv_X9_200 rfl rfl (hm_M f σ) (rmX9_means ia3 h1) rfl dX9_undoes_22 (Nat.le_of_ble_eq_true rfl) (Nat.le_of_ble_eq_true rfl) rfl (Nat.le_of_ble_eq_true rfl) (Nat.le_of_ble_eq_true rfl) (Nat.le_of_ble_eq_true rfl) (fun v9 f9 n9 hh => ?_)
      obtain ⟨rfl, rfl, rfl⟩ := hh
      refine aw_istore C dX9_undoes_25 (by decide) rfl ?_
      refine aw_nl [some (.ref 181), some (.int v1), some (.int v2), some (.ref (rAid v3)), some (.ref (rAid v4)), some (.ref (rAid v5)), none, some (.int v7), some (.ref (rAid v8)), some (.ref (rAid v9)), some (.ref (rAid v10)), some (.int v11), some (.int v12), some (.int r1.1)] rfl ?_
      refine aw_ald C dX9_undoes_27 rfl ?_
      refine aw_iload C dX9_undoes_29 rfl ?_
      refine aw_ald_n C dX9_undoes_31 rfl ?_
      refine aw_get C (v := .int (r1.2.1 55)) gf_X9_183 (hm_M f r1.2) rfl dX9_undoes_32 ?_
      obtain ⟨hb2, h⟩ := ck_some h
      refine am_iast C ia8 (inb_vp hb2) dX9_undoes_35 ?_
      refine aw_ald C dX9_undoes_36 rfl ?_
      refine aw_iload C dX9_undoes_38 rfl ?_
      refine aw_ald C dX9_undoes_40 rfl ?_
      refine aw_iload C dX9_undoes_42 rfl ?_
      obtain ⟨hb3, h⟩ := ck_some h
      refine am_iald C (rGa (rSa r1.2 v8 v11 (r1.2.1 55)) v4 v12) ia4 (inb_vp hb3) rfl dX9_undoes_44 ?_
      obtain ⟨hb4, h⟩ := ck_some h
      refine am_iast C ia9 (inb_vp hb4) dX9_undoes_45 ?_
      refine aw_ald C dX9_undoes_46 rfl ?_
      refine aw_iload C dX9_undoes_48 rfl ?_
      refine aw_ald C dX9_undoes_50 rfl ?_
      refine aw_iload C dX9_undoes_52 rfl ?_
      refine aw_iload C dX9_undoes_54 rfl ?_
      refine aw_iadd C dX9_undoes_56 ?_
      refine aw_iconst C 1 dX9_undoes_57 ki_1 ?_
      refine aw_isub C dX9_undoes_58 ?_
      obtain ⟨hb5, h⟩ := ck_some h
      refine am_iald C (rGa (rSa (rSa r1.2 v8 v11 (r1.2.1 55)) v9 v11 (rGa (rSa r1.2 v8 v11 (r1.2.1 55)) v4 v12)) v5 ((v12 + r1.1) - (1 : Int32))) ia5 (inb_vp hb5) rfl dX9_undoes_59 ?_
      obtain ⟨hb6, h⟩ := ck_some h
      refine am_iast C ia10 (inb_vp hb6) dX9_undoes_60 ?_
      refine aw_iinc C (v11 + (1 : Int32)) dX9_undoes_61 rfl (by rw [ki_1]) (by decide) rfl ?_
      refine aw_nl [some (.ref 181), some (.int v1), some (.int v2), some (.ref (rAid v3)), some (.ref (rAid v4)), some (.ref (rAid v5)), none, some (.int v7), some (.ref (rAid v8)), some (.ref (rAid v9)), some (.ref (rAid v10)), some (.int (v11 + (1 : Int32))), some (.int v12), some (.int r1.1)] rfl ?_
      refine aw_iload C dX9_undoes_64 rfl ?_
      refine aw_iload C dX9_undoes_66 rfl ?_
      refine aw_iadd C dX9_undoes_68 ?_
      refine aw_istore C dX9_undoes_69 (by decide) rfl ?_
      refine aw_nl [some (.ref 181), some (.int v1), some (.int v2), some (.ref (rAid v3)), some (.ref (rAid v4)), some (.ref (rAid v5)), none, some (.int v7), some (.ref (rAid v8)), some (.ref (rAid v9)), some (.ref (rAid v10)), some (.int (v11 + (1 : Int32))), some (.int (v12 + r1.1)), some (.int r1.1)] rfl ?_
      refine aw_goto C 7 dX9_undoes_71 (by decide) ?_
      refine aw_fl [some (.ref 181), some (.int v1), some (.int v2), some (.ref (rAid v3)), some (.ref (rAid v4)), some (.ref (rAid v5)), none, some (.int v7), some (.ref (rAid v8)), some (.ref (rAid v9)), some (.ref (rAid v10)), some (.int (v11 + (1 : Int32))), some (.int (v12 + r1.1)), none] ⟨rfl, ⟨rfl, ⟨rfl, ⟨rfl, ⟨rfl, ⟨rfl, ⟨rfl, ⟨rfl, ⟨rfl, ⟨rfl, ⟨rfl, ⟨rfl, trivial⟩⟩⟩⟩⟩⟩⟩⟩⟩⟩⟩⟩ ?_
      exact ih v1 v2 v3 v4 v5 v7 v8 v9 v10 (v11 + (1 : Int32)) (v12 + r1.1) (rSa (rSa (rSa r1.2 v8 v11 (r1.2.1 55)) v9 v11 (rGa (rSa r1.2 v8 v11 (r1.2.1 55)) v4 v12)) v10 v11 (rGa (rSa (rSa r1.2 v8 v11 (r1.2.1 55)) v9 v11 (rGa (rSa r1.2 v8 v11 (r1.2.1 55)) v4 v12)) v5 ((v12 + r1.1) - (1 : Int32)))) ia3 ia4 ia5 ia8 ia9 ia10 h
def mX9_undoes (v1 : Int32) (v2 : Int32) (v3 : Nat) (v4 : Nat) (v5 : Nat) (v6 : Int32) (v7 : Int32) (v8 : Nat) (v9 : Nat) (v10 : Nat) (σ : RS9) : Option (Int32 × RS9) := mX9_undoes_l7 rFU v1 v2 v3 v4 v5 v7 v8 v9 v10 (0 : Int32) v6 σ
set_option maxHeartbeats 1000000 in
theorem rmX9_undoes {X : GX} {l : Launch} {f : AH} {n : Nat} {r : Int32 × RS9} {v1 : Int32} {v2 : Int32} {v3 : Nat} {v4 : Nat} {v5 : Nat} {v6 : Int32} {v7 : Int32} {v8 : Nat} {v9 : Nat} {v10 : Nat} {σ : RS9} (ia3 : rIsA v3 = true) (ia4 : rIsA v4 = true) (ia5 : rIsA v5 = true) (ia8 : rIsA v8 = true) (ia9 : rIsA v9 = true) (ia10 : rIsA v10 = true) (h : mX9_undoes v1 v2 v3 v4 v5 v6 v7 v8 v9 v10 σ = some r) : AM X l yX9_undoes cX9_undoes 14 (some .int) 6 0 0 [.ref 181, .int v1, .int v2, .ref (rAid v3), .ref (rAid v4), .ref (rAid v5), .int v6, .int v7, .ref (rAid v8), .ref (rAid v9), .ref (rAid v10)] (rHm f σ) n (QMi f n r) := by
  have h : mX9_undoes_l7 rFU v1 v2 v3 v4 v5 v7 v8 v9 v10 (0 : Int32) v6 σ = some r := h
  refine AM.of (by decide +kernel) rfl (Nat.le_of_ble_eq_true rfl) (fun p e s m args below meth c C _ => ?_)
  refine aw_nl [some (.ref 181), some (.int v1), some (.int v2), some (.ref (rAid v3)), some (.ref (rAid v4)), some (.ref (rAid v5)), some (.int v6), some (.int v7), some (.ref (rAid v8)), some (.ref (rAid v9)), some (.ref (rAid v10)), none, none, none] rfl ?_
  refine aw_iconst C 0 dX9_undoes_0 ki_0 ?_
  refine aw_istore C dX9_undoes_1 (by decide) rfl ?_
  refine aw_nl [some (.ref 181), some (.int v1), some (.int v2), some (.ref (rAid v3)), some (.ref (rAid v4)), some (.ref (rAid v5)), some (.int v6), some (.int v7), some (.ref (rAid v8)), some (.ref (rAid v9)), some (.ref (rAid v10)), some (.int (0 : Int32)), none, none] rfl ?_
  refine aw_iload C dX9_undoes_3 rfl ?_
  refine aw_istore C dX9_undoes_5 (by decide) rfl ?_
  refine aw_nl [some (.ref 181), some (.int v1), some (.int v2), some (.ref (rAid v3)), some (.ref (rAid v4)), some (.ref (rAid v5)), some (.int v6), some (.int v7), some (.ref (rAid v8)), some (.ref (rAid v9)), some (.ref (rAid v10)), some (.int (0 : Int32)), some (.int v6), none] rfl ?_
  refine aw_fl [some (.ref 181), some (.int v1), some (.int v2), some (.ref (rAid v3)), some (.ref (rAid v4)), some (.ref (rAid v5)), none, some (.int v7), some (.ref (rAid v8)), some (.ref (rAid v9)), some (.ref (rAid v10)), some (.int (0 : Int32)), some (.int v6), none] ⟨rfl, ⟨rfl, ⟨rfl, ⟨rfl, ⟨rfl, ⟨rfl, ⟨rfl, ⟨rfl, ⟨rfl, ⟨rfl, ⟨rfl, ⟨rfl, trivial⟩⟩⟩⟩⟩⟩⟩⟩⟩⟩⟩⟩ ?_
  exact rmX9_undoes_l7 C rFU v1 v2 v3 v4 v5 v7 v8 v9 v10 (0 : Int32) v6 σ ia3 ia4 ia5 ia8 ia9 ia10 h
