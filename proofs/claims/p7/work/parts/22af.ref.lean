def mX9_hasSign_b31 (σ : RS9) : Option (Int32 × RS9) := rCk (rNb (1 : Int32)) (some ((1 : Int32), σ))
set_option maxHeartbeats 1000000 in
theorem rmX9_hasSign_b31 {X : GX} {p : Program} {l : Launch} {e : Env} {s : State} {m : MethodId} {args : Array Value} {below : List Frame} {meth : Method} {c : Code} {f : AH} {n : Nat} {r : Int32 × RS9} {σ : RS9} (C : CC X p l (RM 0 0 0) s m args meth c RX9 cX9_hasSign 3 (some .boolean)) (h : mX9_hasSign_b31 σ = some r) : AW X p l e (RM 0 0 0) s m args below meth c 3 (ZM X below args s 0 0 (QMi f n r)) (rHm f σ) n 0 0 31 [none, none, none] [] := by
  have h : rCk (rNb (1 : Int32)) (some ((1 : Int32), σ)) = some r := h
  refine aw_iconst C 1 dX9_hasSign_31 ki_1 ?_
  obtain ⟨hb1, h⟩ := ck_some h
  cases h
  exact aw_iret C rfl (nb_nar hb1) dX9_hasSign_32 (Nat.le_refl _) (Nat.le_refl _) ⟨rfl, rfl, rfl⟩
def mX9_hasSign_l2 : Nat → Nat → Int32 → Int32 → RS9 → Option (Int32 × RS9)
  | 0, _, _, _, _ => none
  | d + 1, v0, v1, v2, σ => (if v1 ≤ v2 then rCk (rNb (0 : Int32)) (some ((0 : Int32), σ)) else rCk (rIn v2 (rLen v0)) ((if (rGa σ v0 v2) = (44 : Int32) then mX9_hasSign_b31 σ else rCk (rIn v2 (rLen v0)) ((if (rGa σ v0 v2) = (34 : Int32) then mX9_hasSign_b31 σ else rCk (rIn v2 (rLen v0)) ((if (rGa σ v0 v2) = (10 : Int32) then mX9_hasSign_b31 σ else mX9_hasSign_l2 d v0 v1 (v2 + (1 : Int32)) σ)))))))
set_option maxHeartbeats 1000000 in
theorem rmX9_hasSign_l2 {X : GX} {p : Program} {l : Launch} {e : Env} {s : State} {m : MethodId} {args : Array Value} {below : List Frame} {meth : Method} {c : Code} {f : AH} {n : Nat} {r : Int32 × RS9} (C : CC X p l (RM 0 0 0) s m args meth c RX9 cX9_hasSign 3 (some .boolean)) : ∀ (d : Nat) (v0 : Nat) (v1 : Int32) (v2 : Int32) (σ : RS9) (_ : rIsA v0 = true) (_ : mX9_hasSign_l2 d v0 v1 v2 σ = some r), AW X p l e (RM 0 0 0) s m args below meth c 3 (ZM X below args s 0 0 (QMi f n r)) (rHm f σ) n 0 0 2 [some (.ref (rAid v0)), some (.int v1), some (.int v2)] [] := by
  intro d
  induction d with
  | zero =>
    intro v0 v1 v2 σ ia0 h
    exact nomatch (show (none : Option (Int32 × RS9)) = some r from h)
  | succ d ih =>
    intro v0 v1 v2 σ ia0 h
    have h : (if v1 ≤ v2 then rCk (rNb (0 : Int32)) (some ((0 : Int32), σ)) else rCk (rIn v2 (rLen v0)) ((if (rGa σ v0 v2) = (44 : Int32) then mX9_hasSign_b31 σ else rCk (rIn v2 (rLen v0)) ((if (rGa σ v0 v2) = (34 : Int32) then mX9_hasSign_b31 σ else rCk (rIn v2 (rLen v0)) ((if (rGa σ v0 v2) = (10 : Int32) then mX9_hasSign_b31 σ else mX9_hasSign_l2 d v0 v1 (v2 + (1 : Int32)) σ))))))) = some r := h
    refine aw_iload_n C dX9_hasSign_2 rfl ?_
    refine aw_iload_n C dX9_hasSign_3 rfl ?_
    refine aw_icmp_ge C 39 dX9_hasSign_4 (by decide) (fun q => ?_) (fun q => ?_)
    · rw [if_pos q] at h
      refine aw_iconst C 0 dX9_hasSign_39 ki_0 ?_
      obtain ⟨hb1, h⟩ := ck_some h
      cases h
      exact aw_iret C rfl (nb_nar hb1) dX9_hasSign_40 (Nat.le_refl _) (Nat.le_refl _) ⟨rfl, rfl, rfl⟩
    · rw [if_neg q] at h
      refine aw_ald_n C dX9_hasSign_7 rfl ?_
      refine aw_iload_n C dX9_hasSign_8 rfl ?_
      obtain ⟨hb2, h⟩ := ck_some h
      refine am_iald C (rGa σ v0 v2) ia0 (inb_vp hb2) rfl dX9_hasSign_9 ?_
      refine aw_bipush C 44 dX9_hasSign_10 kb_44 ?_
      refine aw_icmp_eq C 31 dX9_hasSign_12 (by decide) (fun q => ?_) (fun q => ?_)
      · rw [if_pos q] at h
        refine aw_fl [none, none, none] trivial ?_
        exact rmX9_hasSign_b31 C h
      · rw [if_neg q] at h
        refine aw_ald_n C dX9_hasSign_15 rfl ?_
        refine aw_iload_n C dX9_hasSign_16 rfl ?_
        obtain ⟨hb3, h⟩ := ck_some h
        refine am_iald C (rGa σ v0 v2) ia0 (inb_vp hb3) rfl dX9_hasSign_17 ?_
        refine aw_bipush C 34 dX9_hasSign_18 kb_34 ?_
        refine aw_icmp_eq C 31 dX9_hasSign_20 (by decide) (fun q => ?_) (fun q => ?_)
        · rw [if_pos q] at h
          refine aw_fl [none, none, none] trivial ?_
          exact rmX9_hasSign_b31 C h
        · rw [if_neg q] at h
          refine aw_ald_n C dX9_hasSign_23 rfl ?_
          refine aw_iload_n C dX9_hasSign_24 rfl ?_
          obtain ⟨hb4, h⟩ := ck_some h
          refine am_iald C (rGa σ v0 v2) ia0 (inb_vp hb4) rfl dX9_hasSign_25 ?_
          refine aw_bipush C 10 dX9_hasSign_26 kb_10 ?_
          refine aw_icmp_ne C 33 dX9_hasSign_28 (by decide) (fun q => ?_) (fun q => ?_)
          · rw [if_neg q] at h
            refine aw_iinc C (v2 + (1 : Int32)) dX9_hasSign_33 rfl (by rw [ki_1]) (by decide) rfl ?_
            refine aw_nl [some (.ref (rAid v0)), some (.int v1), some (.int (v2 + (1 : Int32)))] rfl ?_
            refine aw_goto C 2 dX9_hasSign_36 (by decide) ?_
            refine aw_fl [some (.ref (rAid v0)), some (.int v1), some (.int (v2 + (1 : Int32)))] ⟨rfl, ⟨rfl, ⟨rfl, trivial⟩⟩⟩ ?_
            exact ih v0 v1 (v2 + (1 : Int32)) σ ia0 h
          · rw [if_pos q] at h
            refine aw_fl [none, none, none] trivial ?_
            exact rmX9_hasSign_b31 C h
def mX9_hasSign (v0 : Nat) (v1 : Int32) (σ : RS9) : Option (Int32 × RS9) := mX9_hasSign_l2 rFU v0 v1 (0 : Int32) σ
set_option maxHeartbeats 1000000 in
theorem rmX9_hasSign {X : GX} {l : Launch} {f : AH} {n : Nat} {r : Int32 × RS9} {v0 : Nat} {v1 : Int32} {σ : RS9} (ia0 : rIsA v0 = true) (h : mX9_hasSign v0 v1 σ = some r) : AM X l yX9_hasSign cX9_hasSign 3 (some .boolean) 0 0 0 [.ref (rAid v0), .int v1] (rHm f σ) n (QMi f n r) := by
  have h : mX9_hasSign_l2 rFU v0 v1 (0 : Int32) σ = some r := h
  refine AM.of (by decide +kernel) rfl (Nat.le_of_ble_eq_true rfl) (fun p e s m args below meth c C _ => ?_)
  refine aw_nl [some (.ref (rAid v0)), some (.int v1), none] rfl ?_
  refine aw_iconst C 0 dX9_hasSign_0 ki_0 ?_
  refine aw_istore_n C dX9_hasSign_1 (by decide) rfl ?_
  refine aw_nl [some (.ref (rAid v0)), some (.int v1), some (.int (0 : Int32))] rfl ?_
  refine aw_fl [some (.ref (rAid v0)), some (.int v1), some (.int (0 : Int32))] ⟨rfl, ⟨rfl, ⟨rfl, trivial⟩⟩⟩ ?_
  exact rmX9_hasSign_l2 C rFU v0 v1 (0 : Int32) σ ia0 h
def mX9_plain (v1 : Nat) (v2 : Int32) (σ : RS9) : Option (Int32 × RS9) := rCk (rIn (σ.1 56) (rLen v1)) (some ((0 : Int32), (rSf (rSa σ v1 (σ.1 56) v2) 56 ((σ.1 56) + (1 : Int32)))))
set_option maxHeartbeats 1000000 in
theorem rmX9_plain {X : GX} {l : Launch} {f : AH} {n : Nat} {r : Int32 × RS9} {v1 : Nat} {v2 : Int32} {σ : RS9} (ia1 : rIsA v1 = true) (h : mX9_plain v1 v2 σ = some r) : AM X l yX9_plain cX9_plain 3 none 0 0 0 [.ref 181, .ref (rAid v1), .int v2] (rHm f σ) n (QMv f n r) := by
  have h : rCk (rIn (σ.1 56) (rLen v1)) (some ((0 : Int32), (rSf (rSa σ v1 (σ.1 56) v2) 56 ((σ.1 56) + (1 : Int32))))) = some r := h
  refine AM.of (by decide +kernel) rfl (Nat.le_of_ble_eq_true rfl) (fun p e s m args below meth c C _ => ?_)
  refine aw_nl [some (.ref 181), some (.ref (rAid v1)), some (.int v2)] rfl ?_
  refine aw_ald_n C dX9_plain_0 rfl ?_
  refine aw_ald_n C dX9_plain_1 rfl ?_
  refine aw_get C (v := .int (σ.1 56)) gf_X9_254 (hm_M f σ) rfl dX9_plain_2 ?_
  refine aw_iload_n C dX9_plain_5 rfl ?_
  obtain ⟨hb1, h⟩ := ck_some h
  refine am_iast C ia1 (inb_vp hb1) dX9_plain_6 ?_
  refine aw_ald_n C dX9_plain_7 rfl ?_
  refine aw_dup C dX9_plain_8 rfl ?_
  refine aw_get C (v := .int (σ.1 56)) gf_X9_254 (hm_M f (rSa σ v1 (σ.1 56) v2)) rfl dX9_plain_9 ?_
  refine aw_iconst C 1 dX9_plain_12 ki_1 ?_
  refine aw_iadd C dX9_plain_13 ?_
  refine am_put C gf_X9_254 nf9_56 rfl rfl dX9_plain_14 ?_
  cases h
  exact aw_vret C rfl dX9_plain_17 (Nat.le_refl _) (Nat.le_refl _) ⟨rfl, rfl, rfl⟩
def mX9_puts (v1 : Nat) (v2 : Int32) (v3 : Int32) (σ : RS9) : Option (Int32 × RS9) := rCk (rIn (σ.1 56) (rLen v1)) (rCk (rIn ((σ.1 56) + (1 : Int32)) (rLen v1)) (some ((0 : Int32), (rSf (rSa (rSa σ v1 (σ.1 56) v2) v1 ((σ.1 56) + (1 : Int32)) v3) 56 ((σ.1 56) + (2 : Int32))))))
set_option maxHeartbeats 1000000 in
theorem rmX9_puts {X : GX} {l : Launch} {f : AH} {n : Nat} {r : Int32 × RS9} {v1 : Nat} {v2 : Int32} {v3 : Int32} {σ : RS9} (ia1 : rIsA v1 = true) (h : mX9_puts v1 v2 v3 σ = some r) : AM X l yX9_puts cX9_puts 4 none 0 0 0 [.ref 181, .ref (rAid v1), .int v2, .int v3] (rHm f σ) n (QMv f n r) := by
  have h : rCk (rIn (σ.1 56) (rLen v1)) (rCk (rIn ((σ.1 56) + (1 : Int32)) (rLen v1)) (some ((0 : Int32), (rSf (rSa (rSa σ v1 (σ.1 56) v2) v1 ((σ.1 56) + (1 : Int32)) v3) 56 ((σ.1 56) + (2 : Int32)))))) = some r := h
  refine AM.of (by decide +kernel) rfl (Nat.le_of_ble_eq_true rfl) (fun p e s m args below meth c C _ => ?_)
  refine aw_nl [some (.ref 181), some (.ref (rAid v1)), some (.int v2), some (.int v3)] rfl ?_
  refine aw_ald_n C dX9_puts_0 rfl ?_
  refine aw_ald_n C dX9_puts_1 rfl ?_
  refine aw_get C (v := .int (σ.1 56)) gf_X9_254 (hm_M f σ) rfl dX9_puts_2 ?_
  refine aw_iload_n C dX9_puts_5 rfl ?_
  obtain ⟨hb1, h⟩ := ck_some h
  refine am_iast C ia1 (inb_vp hb1) dX9_puts_6 ?_
  refine aw_ald_n C dX9_puts_7 rfl ?_
  refine aw_ald_n C dX9_puts_8 rfl ?_
  refine aw_get C (v := .int (σ.1 56)) gf_X9_254 (hm_M f (rSa σ v1 (σ.1 56) v2)) rfl dX9_puts_9 ?_
  refine aw_iconst C 1 dX9_puts_12 ki_1 ?_
  refine aw_iadd C dX9_puts_13 ?_
  refine aw_iload_n C dX9_puts_14 rfl ?_
  obtain ⟨hb2, h⟩ := ck_some h
  refine am_iast C ia1 (inb_vp hb2) dX9_puts_15 ?_
  refine aw_ald_n C dX9_puts_16 rfl ?_
  refine aw_dup C dX9_puts_17 rfl ?_
  refine aw_get C (v := .int (σ.1 56)) gf_X9_254 (hm_M f (rSa (rSa σ v1 (σ.1 56) v2) v1 ((σ.1 56) + (1 : Int32)) v3)) rfl dX9_puts_18 ?_
  refine aw_iconst C 2 dX9_puts_21 ki_2 ?_
  refine aw_iadd C dX9_puts_22 ?_
  refine am_put C gf_X9_254 nf9_56 rfl rfl dX9_puts_23 ?_
  cases h
  exact aw_vret C rfl dX9_puts_26 (Nat.le_refl _) (Nat.le_refl _) ⟨rfl, rfl, rfl⟩
def mX9_escapesBack_b85 (σ : RS9) : Option (Int32 × RS9) := some ((0 : Int32), σ)
set_option maxHeartbeats 1000000 in
theorem rmX9_escapesBack_b85 {X : GX} {p : Program} {l : Launch} {e : Env} {s : State} {m : MethodId} {args : Array Value} {below : List Frame} {meth : Method} {c : Code} {f : AH} {n : Nat} {r : Int32 × RS9} {σ : RS9} (C : CC X p l (RM 1 0 0) s m args meth c RX9 cX9_escapesBack 5 none) (h : mX9_escapesBack_b85 σ = some r) : AW X p l e (RM 1 0 0) s m args below meth c 5 (ZM X below args s 0 0 (QMv f n r)) (rHm f σ) n 0 0 85 [none, none, none, none, none] [] := by
  have h : some ((0 : Int32), σ) = some r := h
  cases h
  exact aw_vret C rfl dX9_escapesBack_85 (Nat.le_refl _) (Nat.le_refl _) ⟨rfl, rfl, rfl⟩
def mX9_escapesBack_b79 (v2 : Nat) (v3 : Int32) (σ : RS9) : Option (Int32 × RS9) := ((mX9_plain v2 v3 σ).bind fun r1 => mX9_escapesBack_b85 r1.2)
set_option maxHeartbeats 1000000 in
theorem rmX9_escapesBack_b79 {X : GX} {p : Program} {l : Launch} {e : Env} {s : State} {m : MethodId} {args : Array Value} {below : List Frame} {meth : Method} {c : Code} {f : AH} {n : Nat} {r : Int32 × RS9} {v2 : Nat} {v3 : Int32} {σ : RS9} (C : CC X p l (RM 1 0 0) s m args meth c RX9 cX9_escapesBack 5 none) (ia2 : rIsA v2 = true) (h : mX9_escapesBack_b79 v2 v3 σ = some r) : AW X p l e (RM 1 0 0) s m args below meth c 5 (ZM X below args s 0 0 (QMv f n r)) (rHm f σ) n 0 0 79 [some (.ref 181), none, some (.ref (rAid v2)), some (.int v3), none] [] := by
  have h : ((mX9_plain v2 v3 σ).bind fun r1 => mX9_escapesBack_b85 r1.2) = some r := h
  refine aw_ald_n C dX9_escapesBack_79 rfl ?_
  refine aw_ald_n C dX9_escapesBack_80 rfl ?_
  refine aw_iload_n C dX9_escapesBack_81 rfl ?_
  obtain ⟨r1, h1, h⟩ := Option.bind_eq_some_iff.mp h
  refine aw_callV C (ci := 9) (b := 181) [.ref (rAid v2), .int v3] mv_X9_261 rfl rfl (hm_M f σ) (rmX9_plain ia2 h1) rfl dX9_escapesBack_82 (Nat.le_of_ble_eq_true rfl) (Nat.le_of_ble_eq_true rfl) rfl (Nat.le_of_ble_eq_true rfl) (Nat.le_of_ble_eq_true rfl) (Nat.le_of_ble_eq_true rfl) (fun v9 f9 n9 hh => ?_)
  obtain ⟨rfl, rfl, rfl⟩ := hh
  refine aw_fl [none, none, none, none, none] trivial ?_
  exact rmX9_escapesBack_b85 C h
def mX9_escapesBack_b68 (v2 : Nat) (v3 : Int32) (σ : RS9) : Option (Int32 × RS9) := ((mX9_puts v2 (92 : Int32) v3 σ).bind fun r1 => mX9_escapesBack_b85 r1.2)
set_option maxHeartbeats 1000000 in
theorem rmX9_escapesBack_b68 {X : GX} {p : Program} {l : Launch} {e : Env} {s : State} {m : MethodId} {args : Array Value} {below : List Frame} {meth : Method} {c : Code} {f : AH} {n : Nat} {r : Int32 × RS9} {v2 : Nat} {v3 : Int32} {σ : RS9} (C : CC X p l (RM 1 0 0) s m args meth c RX9 cX9_escapesBack 5 none) (ia2 : rIsA v2 = true) (h : mX9_escapesBack_b68 v2 v3 σ = some r) : AW X p l e (RM 1 0 0) s m args below meth c 5 (ZM X below args s 0 0 (QMv f n r)) (rHm f σ) n 0 0 68 [some (.ref 181), none, some (.ref (rAid v2)), some (.int v3), none] [] := by
  have h : ((mX9_puts v2 (92 : Int32) v3 σ).bind fun r1 => mX9_escapesBack_b85 r1.2) = some r := h
  refine aw_ald_n C dX9_escapesBack_68 rfl ?_
  refine aw_ald_n C dX9_escapesBack_69 rfl ?_
  refine aw_bipush C 92 dX9_escapesBack_70 kb_92 ?_
  refine aw_iload_n C dX9_escapesBack_72 rfl ?_
  obtain ⟨r1, h1, h⟩ := Option.bind_eq_some_iff.mp h
  refine aw_callV C (ci := 9) (b := 181) [.ref (rAid v2), .int (92 : Int32), .int v3] mv_X9_265 rfl rfl (hm_M f σ) (rmX9_puts ia2 h1) rfl dX9_escapesBack_73 (Nat.le_of_ble_eq_true rfl) (Nat.le_of_ble_eq_true rfl) rfl (Nat.le_of_ble_eq_true rfl) (Nat.le_of_ble_eq_true rfl) (Nat.le_of_ble_eq_true rfl) (fun v9 f9 n9 hh => ?_)
  obtain ⟨rfl, rfl, rfl⟩ := hh
  refine aw_goto C 85 dX9_escapesBack_76 (by decide) ?_
  refine aw_fl [none, none, none, none, none] trivial ?_
  exact rmX9_escapesBack_b85 C h
def mX9_escapesBack_b53 (v1 : Int32) (v2 : Nat) (v3 : Int32) (v4 : Int32) (σ : RS9) : Option (Int32 × RS9) := (if v3 = (32 : Int32) then (if v1 = (0 : Int32) then (if v4 = (0 : Int32) then mX9_escapesBack_b79 v2 v3 σ else mX9_escapesBack_b68 v2 v3 σ) else mX9_escapesBack_b79 v2 v3 σ) else mX9_escapesBack_b79 v2 v3 σ)
set_option maxHeartbeats 1000000 in
theorem rmX9_escapesBack_b53 {X : GX} {p : Program} {l : Launch} {e : Env} {s : State} {m : MethodId} {args : Array Value} {below : List Frame} {meth : Method} {c : Code} {f : AH} {n : Nat} {r : Int32 × RS9} {v1 : Int32} {v2 : Nat} {v3 : Int32} {v4 : Int32} {σ : RS9} (C : CC X p l (RM 1 0 0) s m args meth c RX9 cX9_escapesBack 5 none) (ia2 : rIsA v2 = true) (h : mX9_escapesBack_b53 v1 v2 v3 v4 σ = some r) : AW X p l e (RM 1 0 0) s m args below meth c 5 (ZM X below args s 0 0 (QMv f n r)) (rHm f σ) n 0 0 53 [some (.ref 181), some (.int v1), some (.ref (rAid v2)), some (.int v3), some (.int v4)] [] := by
  have h : (if v3 = (32 : Int32) then (if v1 = (0 : Int32) then (if v4 = (0 : Int32) then mX9_escapesBack_b79 v2 v3 σ else mX9_escapesBack_b68 v2 v3 σ) else mX9_escapesBack_b79 v2 v3 σ) else mX9_escapesBack_b79 v2 v3 σ) = some r := h
  refine aw_iload_n C dX9_escapesBack_53 rfl ?_
  refine aw_bipush C 32 dX9_escapesBack_54 kb_32 ?_
  refine aw_icmp_ne C 79 dX9_escapesBack_56 (by decide) (fun q => ?_) (fun q => ?_)
  · rw [if_neg q] at h
    refine aw_fl [some (.ref 181), none, some (.ref (rAid v2)), some (.int v3), none] ⟨rfl, ⟨rfl, ⟨rfl, trivial⟩⟩⟩ ?_
    exact rmX9_escapesBack_b79 C ia2 h
  · rw [if_pos q] at h
    refine aw_iload_n C dX9_escapesBack_59 rfl ?_
    refine aw_if_ne C 79 dX9_escapesBack_60 (by decide) (fun q => ?_) (fun q => ?_)
    · rw [if_neg q] at h
      refine aw_fl [some (.ref 181), none, some (.ref (rAid v2)), some (.int v3), none] ⟨rfl, ⟨rfl, ⟨rfl, trivial⟩⟩⟩ ?_
      exact rmX9_escapesBack_b79 C ia2 h
    · rw [if_pos q] at h
      refine aw_iload C dX9_escapesBack_63 rfl ?_
      refine aw_if_eq C 79 dX9_escapesBack_65 (by decide) (fun q => ?_) (fun q => ?_)
      · rw [if_pos q] at h
        refine aw_fl [some (.ref 181), none, some (.ref (rAid v2)), some (.int v3), none] ⟨rfl, ⟨rfl, ⟨rfl, trivial⟩⟩⟩ ?_
        exact rmX9_escapesBack_b79 C ia2 h
      · rw [if_neg q] at h
        refine aw_fl [some (.ref 181), none, some (.ref (rAid v2)), some (.int v3), none] ⟨rfl, ⟨rfl, ⟨rfl, trivial⟩⟩⟩ ?_
        exact rmX9_escapesBack_b68 C ia2 h
def mX9_escapesBack (v1 : Int32) (v2 : Nat) (v3 : Int32) (v4 : Int32) (σ : RS9) : Option (Int32 × RS9) := (if v3 = (10 : Int32) then ((mX9_puts v2 (92 : Int32) (110 : Int32) σ).bind fun r2 => mX9_escapesBack_b85 r2.2) else (if v3 = (9 : Int32) then ((mX9_puts v2 (92 : Int32) (116 : Int32) σ).bind fun r1 => mX9_escapesBack_b85 r1.2) else (if v3 = (92 : Int32) then mX9_escapesBack_b68 v2 v3 σ else (if v3 = (34 : Int32) then (if v1 = (3 : Int32) then mX9_escapesBack_b68 v2 v3 σ else mX9_escapesBack_b53 v1 v2 v3 v4 σ) else mX9_escapesBack_b53 v1 v2 v3 v4 σ))))
set_option maxHeartbeats 1000000 in
theorem rmX9_escapesBack {X : GX} {l : Launch} {f : AH} {n : Nat} {r : Int32 × RS9} {v1 : Int32} {v2 : Nat} {v3 : Int32} {v4 : Int32} {σ : RS9} (ia2 : rIsA v2 = true) (h : mX9_escapesBack v1 v2 v3 v4 σ = some r) : AM X l yX9_escapesBack cX9_escapesBack 5 none 1 0 0 [.ref 181, .int v1, .ref (rAid v2), .int v3, .int v4] (rHm f σ) n (QMv f n r) := by
  have h : (if v3 = (10 : Int32) then ((mX9_puts v2 (92 : Int32) (110 : Int32) σ).bind fun r2 => mX9_escapesBack_b85 r2.2) else (if v3 = (9 : Int32) then ((mX9_puts v2 (92 : Int32) (116 : Int32) σ).bind fun r1 => mX9_escapesBack_b85 r1.2) else (if v3 = (92 : Int32) then mX9_escapesBack_b68 v2 v3 σ else (if v3 = (34 : Int32) then (if v1 = (3 : Int32) then mX9_escapesBack_b68 v2 v3 σ else mX9_escapesBack_b53 v1 v2 v3 v4 σ) else mX9_escapesBack_b53 v1 v2 v3 v4 σ)))) = some r := h
  refine AM.of (by decide +kernel) rfl (Nat.le_of_ble_eq_true rfl) (fun p e s m args below meth c C _ => ?_)
  refine aw_nl [some (.ref 181), some (.int v1), some (.ref (rAid v2)), some (.int v3), some (.int v4)] rfl ?_
  refine aw_iload_n C dX9_escapesBack_0 rfl ?_
  refine aw_bipush C 10 dX9_escapesBack_1 kb_10 ?_
  refine aw_icmp_ne C 18 dX9_escapesBack_3 (by decide) (fun q => ?_) (fun q => ?_)
  · rw [if_neg q] at h
    refine aw_iload_n C dX9_escapesBack_18 rfl ?_
    refine aw_bipush C 9 dX9_escapesBack_19 kb_9 ?_
    refine aw_icmp_ne C 36 dX9_escapesBack_21 (by decide) (fun q => ?_) (fun q => ?_)
    · rw [if_neg q] at h
      refine aw_iload_n C dX9_escapesBack_36 rfl ?_
      refine aw_bipush C 92 dX9_escapesBack_37 kb_92 ?_
      refine aw_icmp_eq C 68 dX9_escapesBack_39 (by decide) (fun q => ?_) (fun q => ?_)
      · rw [if_pos q] at h
        refine aw_fl [some (.ref 181), none, some (.ref (rAid v2)), some (.int v3), none] ⟨rfl, ⟨rfl, ⟨rfl, trivial⟩⟩⟩ ?_
        exact rmX9_escapesBack_b68 C ia2 h
      · rw [if_neg q] at h
        refine aw_iload_n C dX9_escapesBack_42 rfl ?_
        refine aw_bipush C 34 dX9_escapesBack_43 kb_34 ?_
        refine aw_icmp_ne C 53 dX9_escapesBack_45 (by decide) (fun q => ?_) (fun q => ?_)
        · rw [if_neg q] at h
          refine aw_fl [some (.ref 181), some (.int v1), some (.ref (rAid v2)), some (.int v3), some (.int v4)] ⟨rfl, ⟨rfl, ⟨rfl, ⟨rfl, ⟨rfl, trivial⟩⟩⟩⟩⟩ ?_
          exact rmX9_escapesBack_b53 C ia2 h
        · rw [if_pos q] at h
          refine aw_iload_n C dX9_escapesBack_48 rfl ?_
          refine aw_iconst C 3 dX9_escapesBack_49 ki_3 ?_
          refine aw_icmp_eq C 68 dX9_escapesBack_50 (by decide) (fun q => ?_) (fun q => ?_)
          · rw [if_pos q] at h
            refine aw_fl [some (.ref 181), none, some (.ref (rAid v2)), some (.int v3), none] ⟨rfl, ⟨rfl, ⟨rfl, trivial⟩⟩⟩ ?_
            exact rmX9_escapesBack_b68 C ia2 h
          · rw [if_neg q] at h
            refine aw_fl [some (.ref 181), some (.int v1), some (.ref (rAid v2)), some (.int v3), some (.int v4)] ⟨rfl, ⟨rfl, ⟨rfl, ⟨rfl, ⟨rfl, trivial⟩⟩⟩⟩⟩ ?_
            exact rmX9_escapesBack_b53 C ia2 h
    · rw [if_pos q] at h
      refine aw_ald_n C dX9_escapesBack_24 rfl ?_
      refine aw_ald_n C dX9_escapesBack_25 rfl ?_
      refine aw_bipush C 92 dX9_escapesBack_26 kb_92 ?_
      refine aw_bipush C 116 dX9_escapesBack_28 kb_116 ?_
      obtain ⟨r1, h1, h⟩ := Option.bind_eq_some_iff.mp h
      refine aw_callV C (ci := 9) (b := 181) [.ref (rAid v2), .int (92 : Int32), .int (116 : Int32)] mv_X9_265 rfl rfl (hm_M f σ) (rmX9_puts ia2 h1) rfl dX9_escapesBack_30 (Nat.le_of_ble_eq_true rfl) (Nat.le_of_ble_eq_true rfl) rfl (Nat.le_of_ble_eq_true rfl) (Nat.le_of_ble_eq_true rfl) (Nat.le_of_ble_eq_true rfl) (fun v9 f9 n9 hh => ?_)
      obtain ⟨rfl, rfl, rfl⟩ := hh
      refine aw_goto C 85 dX9_escapesBack_33 (by decide) ?_
      refine aw_fl [none, none, none, none, none] trivial ?_
      exact rmX9_escapesBack_b85 C h
  · rw [if_pos q] at h
    refine aw_ald_n C dX9_escapesBack_6 rfl ?_
    refine aw_ald_n C dX9_escapesBack_7 rfl ?_
    refine aw_bipush C 92 dX9_escapesBack_8 kb_92 ?_
    refine aw_bipush C 110 dX9_escapesBack_10 kb_110 ?_
    obtain ⟨r2, h2, h⟩ := Option.bind_eq_some_iff.mp h
    refine aw_callV C (ci := 9) (b := 181) [.ref (rAid v2), .int (92 : Int32), .int (110 : Int32)] mv_X9_265 rfl rfl (hm_M f σ) (rmX9_puts ia2 h2) rfl dX9_escapesBack_12 (Nat.le_of_ble_eq_true rfl) (Nat.le_of_ble_eq_true rfl) rfl (Nat.le_of_ble_eq_true rfl) (Nat.le_of_ble_eq_true rfl) (Nat.le_of_ble_eq_true rfl) (fun v9 f9 n9 hh => ?_)
    obtain ⟨rfl, rfl, rfl⟩ := hh
    refine aw_goto C 85 dX9_escapesBack_15 (by decide) ?_
    refine aw_fl [none, none, none, none, none] trivial ?_
    exact rmX9_escapesBack_b85 C h
def mX9_areLike_b82 (v3 : Int32) (σ : RS9) : Option (Int32 × RS9) := rCk (rNb v3) (some (v3, σ))
set_option maxHeartbeats 1000000 in
theorem rmX9_areLike_b82 {X : GX} {p : Program} {l : Launch} {e : Env} {s : State} {m : MethodId} {args : Array Value} {below : List Frame} {meth : Method} {c : Code} {f : AH} {n : Nat} {r : Int32 × RS9} {v3 : Int32} {σ : RS9} (C : CC X p l (RM 0 0 0) s m args meth c RX9 cX9_areLike 5 (some .boolean)) (h : mX9_areLike_b82 v3 σ = some r) : AW X p l e (RM 0 0 0) s m args below meth c 5 (ZM X below args s 0 0 (QMi f n r)) (rHm f σ) n 0 0 82 [none, none, none, some (.int v3), none] [] := by
  have h : rCk (rNb v3) (some (v3, σ)) = some r := h
  refine aw_iload_n C dX9_areLike_82 rfl ?_
  obtain ⟨hb1, h⟩ := ck_some h
  cases h
  exact aw_iret C rfl (nb_nar hb1) dX9_areLike_83 (Nat.le_refl _) (Nat.le_refl _) ⟨rfl, rfl, rfl⟩
def mX9_areLike_b75 (rec24 : Int32 → Int32 → Int32 → Int32 → RS9 → Option (Int32 × RS9)) (v1 : Int32) (v2 : Int32) (v4 : Int32) (s0 : Int32) (σ : RS9) : Option (Int32 × RS9) := rec24 v1 v2 s0 (v4 + (1 : Int32)) σ
set_option maxHeartbeats 1000000 in
theorem rmX9_areLike_b75 {X : GX} {p : Program} {l : Launch} {e : Env} {s : State} {m : MethodId} {args : Array Value} {below : List Frame} {meth : Method} {c : Code} {f : AH} {n : Nat} {r : Int32 × RS9} {rec24 : Int32 → Int32 → Int32 → Int32 → RS9 → Option (Int32 × RS9)} {v1 : Int32} {v2 : Int32} {v4 : Int32} {s0 : Int32} {σ : RS9} (C : CC X p l (RM 0 0 0) s m args meth c RX9 cX9_areLike 5 (some .boolean)) (Hr24 : ∀ (v1 : Int32) (v2 : Int32) (v3 : Int32) (v4 : Int32) (σ : RS9), rec24 v1 v2 v3 v4 σ = some r → AW X p l e (RM 0 0 0) s m args below meth c 5 (ZM X below args s 0 0 (QMi f n r)) (rHm f σ) n 0 0 24 [some (.ref 181), some (.int v1), some (.int v2), some (.int v3), some (.int v4)] []) (h : mX9_areLike_b75 rec24 v1 v2 v4 s0 σ = some r) : AW X p l e (RM 0 0 0) s m args below meth c 5 (ZM X below args s 0 0 (QMi f n r)) (rHm f σ) n 0 0 75 [some (.ref 181), some (.int v1), some (.int v2), none, some (.int v4)] [.int s0] := by
  have h : rec24 v1 v2 s0 (v4 + (1 : Int32)) σ = some r := h
  refine aw_istore_n C dX9_areLike_75 (by decide) rfl ?_
  refine aw_nl [some (.ref 181), some (.int v1), some (.int v2), some (.int s0), some (.int v4)] rfl ?_
  refine aw_iinc C (v4 + (1 : Int32)) dX9_areLike_76 rfl (by rw [ki_1]) (by decide) rfl ?_
  refine aw_nl [some (.ref 181), some (.int v1), some (.int v2), some (.int s0), some (.int (v4 + (1 : Int32)))] rfl ?_
  refine aw_goto C 24 dX9_areLike_79 (by decide) ?_
  refine aw_fl [some (.ref 181), some (.int v1), some (.int v2), some (.int s0), some (.int (v4 + (1 : Int32)))] ⟨rfl, ⟨rfl, ⟨rfl, ⟨rfl, ⟨rfl, trivial⟩⟩⟩⟩⟩ ?_
  exact Hr24 v1 v2 s0 (v4 + (1 : Int32)) σ h
def mX9_areLike_l24 : Nat → Int32 → Int32 → Int32 → Int32 → RS9 → Option (Int32 × RS9)
  | 0, _, _, _, _, _ => none
  | d + 1, v1, v2, v3, v4, σ => rCk (rIn v1 (rLen 42)) ((if (rGa σ 42 v1) ≤ v4 then mX9_areLike_b82 v3 σ else (if v3 = (0 : Int32) then mX9_areLike_b82 v3 σ else rCk (rIn v1 (rLen 41)) (rCk (rIn ((rGa σ 41 v1) + v4) (rLen 43)) (rCk (rIn v2 (rLen 41)) (rCk (rIn ((rGa σ 41 v2) + v4) (rLen 43)) ((if (rGa σ 43 ((rGa σ 41 v1) + v4)) = (rGa σ 43 ((rGa σ 41 v2) + v4)) then mX9_areLike_b75 (fun v1 v2 v3 v4 σ => mX9_areLike_l24 d v1 v2 v3 v4 σ) v1 v2 v4 (1 : Int32) σ else mX9_areLike_b75 (fun v1 v2 v3 v4 σ => mX9_areLike_l24 d v1 v2 v3 v4 σ) v1 v2 v4 (0 : Int32) σ))))))))
set_option maxHeartbeats 1000000 in
theorem rmX9_areLike_l24 {X : GX} {p : Program} {l : Launch} {e : Env} {s : State} {m : MethodId} {args : Array Value} {below : List Frame} {meth : Method} {c : Code} {f : AH} {n : Nat} {r : Int32 × RS9} (C : CC X p l (RM 0 0 0) s m args meth c RX9 cX9_areLike 5 (some .boolean)) : ∀ (d : Nat) (v1 : Int32) (v2 : Int32) (v3 : Int32) (v4 : Int32) (σ : RS9) (_ : mX9_areLike_l24 d v1 v2 v3 v4 σ = some r), AW X p l e (RM 0 0 0) s m args below meth c 5 (ZM X below args s 0 0 (QMi f n r)) (rHm f σ) n 0 0 24 [some (.ref 181), some (.int v1), some (.int v2), some (.int v3), some (.int v4)] [] := by
  intro d
  induction d with
  | zero =>
    intro v1 v2 v3 v4 σ h
    exact nomatch (show (none : Option (Int32 × RS9)) = some r from h)
  | succ d ih =>
    intro v1 v2 v3 v4 σ h
    have h : rCk (rIn v1 (rLen 42)) ((if (rGa σ 42 v1) ≤ v4 then mX9_areLike_b82 v3 σ else (if v3 = (0 : Int32) then mX9_areLike_b82 v3 σ else rCk (rIn v1 (rLen 41)) (rCk (rIn ((rGa σ 41 v1) + v4) (rLen 43)) (rCk (rIn v2 (rLen 41)) (rCk (rIn ((rGa σ 41 v2) + v4) (rLen 43)) ((if (rGa σ 43 ((rGa σ 41 v1) + v4)) = (rGa σ 43 ((rGa σ 41 v2) + v4)) then mX9_areLike_b75 (fun v1 v2 v3 v4 σ => mX9_areLike_l24 d v1 v2 v3 v4 σ) v1 v2 v4 (1 : Int32) σ else mX9_areLike_b75 (fun v1 v2 v3 v4 σ => mX9_areLike_l24 d v1 v2 v3 v4 σ) v1 v2 v4 (0 : Int32) σ)))))))) = some r := h
    refine aw_iload C dX9_areLike_24 rfl ?_
    refine aw_ald_n C dX9_areLike_26 rfl ?_
    refine aw_get C (v := .ref (rAid 42)) gf_X9_105 (hm_M f σ) rfl dX9_areLike_27 ?_
    refine aw_iload_n C dX9_areLike_30 rfl ?_
    obtain ⟨hb1, h⟩ := ck_some h
    refine am_iald C (rGa σ 42 v1) rfl (inb_vp hb1) rfl dX9_areLike_31 ?_
    refine aw_icmp_ge C 82 dX9_areLike_32 (by decide) (fun q => ?_) (fun q => ?_)
    · rw [if_pos q] at h
      refine aw_fl [none, none, none, some (.int v3), none] ⟨rfl, trivial⟩ ?_
      exact rmX9_areLike_b82 C h
    · rw [if_neg q] at h
      refine aw_iload_n C dX9_areLike_35 rfl ?_
      refine aw_if_eq C 82 dX9_areLike_36 (by decide) (fun q => ?_) (fun q => ?_)
      · rw [if_pos q] at h
        refine aw_fl [none, none, none, some (.int v3), none] ⟨rfl, trivial⟩ ?_
        exact rmX9_areLike_b82 C h
      · rw [if_neg q] at h
        refine aw_ald_n C dX9_areLike_39 rfl ?_
        refine aw_get C (v := .ref (rAid 43)) gf_X9_108 (hm_M f σ) rfl dX9_areLike_40 ?_
        refine aw_ald_n C dX9_areLike_43 rfl ?_
        refine aw_get C (v := .ref (rAid 41)) gf_X9_102 (hm_M f σ) rfl dX9_areLike_44 ?_
        refine aw_iload_n C dX9_areLike_47 rfl ?_
        obtain ⟨hb2, h⟩ := ck_some h
        refine am_iald C (rGa σ 41 v1) rfl (inb_vp hb2) rfl dX9_areLike_48 ?_
        refine aw_iload C dX9_areLike_49 rfl ?_
        refine aw_iadd C dX9_areLike_51 ?_
        obtain ⟨hb3, h⟩ := ck_some h
        refine am_iald C (rGa σ 43 ((rGa σ 41 v1) + v4)) rfl (inb_vp hb3) rfl dX9_areLike_52 ?_
        refine aw_ald_n C dX9_areLike_53 rfl ?_
        refine aw_get C (v := .ref (rAid 43)) gf_X9_108 (hm_M f σ) rfl dX9_areLike_54 ?_
        refine aw_ald_n C dX9_areLike_57 rfl ?_
        refine aw_get C (v := .ref (rAid 41)) gf_X9_102 (hm_M f σ) rfl dX9_areLike_58 ?_
        refine aw_iload_n C dX9_areLike_61 rfl ?_
        obtain ⟨hb4, h⟩ := ck_some h
        refine am_iald C (rGa σ 41 v2) rfl (inb_vp hb4) rfl dX9_areLike_62 ?_
        refine aw_iload C dX9_areLike_63 rfl ?_
        refine aw_iadd C dX9_areLike_65 ?_
        obtain ⟨hb5, h⟩ := ck_some h
        refine am_iald C (rGa σ 43 ((rGa σ 41 v2) + v4)) rfl (inb_vp hb5) rfl dX9_areLike_66 ?_
        refine aw_icmp_ne C 74 dX9_areLike_67 (by decide) (fun q => ?_) (fun q => ?_)
        · rw [if_neg q] at h
          refine aw_iconst C 0 dX9_areLike_74 ki_0 ?_
          refine aw_fl [some (.ref 181), some (.int v1), some (.int v2), none, some (.int v4)] ⟨rfl, ⟨rfl, ⟨rfl, ⟨rfl, trivial⟩⟩⟩⟩ ?_
          exact rmX9_areLike_b75 C (fun v1 v2 v3 v4 σ h => ih v1 v2 v3 v4 σ h) h
        · rw [if_pos q] at h
          refine aw_iconst C 1 dX9_areLike_70 ki_1 ?_
          refine aw_goto C 75 dX9_areLike_71 (by decide) ?_
          refine aw_fl [some (.ref 181), some (.int v1), some (.int v2), none, some (.int v4)] ⟨rfl, ⟨rfl, ⟨rfl, ⟨rfl, trivial⟩⟩⟩⟩ ?_
          exact rmX9_areLike_b75 C (fun v1 v2 v3 v4 σ h => ih v1 v2 v3 v4 σ h) h
def mX9_areLike_b20 (v1 : Int32) (v2 : Int32) (s0 : Int32) (σ : RS9) : Option (Int32 × RS9) := mX9_areLike_l24 rFU v1 v2 s0 (0 : Int32) σ
set_option maxHeartbeats 1000000 in
theorem rmX9_areLike_b20 {X : GX} {p : Program} {l : Launch} {e : Env} {s : State} {m : MethodId} {args : Array Value} {below : List Frame} {meth : Method} {c : Code} {f : AH} {n : Nat} {r : Int32 × RS9} {v1 : Int32} {v2 : Int32} {s0 : Int32} {σ : RS9} (C : CC X p l (RM 0 0 0) s m args meth c RX9 cX9_areLike 5 (some .boolean)) (h : mX9_areLike_b20 v1 v2 s0 σ = some r) : AW X p l e (RM 0 0 0) s m args below meth c 5 (ZM X below args s 0 0 (QMi f n r)) (rHm f σ) n 0 0 20 [some (.ref 181), some (.int v1), some (.int v2), none, none] [.int s0] := by
  have h : mX9_areLike_l24 rFU v1 v2 s0 (0 : Int32) σ = some r := h
  refine aw_istore_n C dX9_areLike_20 (by decide) rfl ?_
  refine aw_nl [some (.ref 181), some (.int v1), some (.int v2), some (.int s0), none] rfl ?_
  refine aw_iconst C 0 dX9_areLike_21 ki_0 ?_
  refine aw_istore C dX9_areLike_22 (by decide) rfl ?_
  refine aw_nl [some (.ref 181), some (.int v1), some (.int v2), some (.int s0), some (.int (0 : Int32))] rfl ?_
  refine aw_fl [some (.ref 181), some (.int v1), some (.int v2), some (.int s0), some (.int (0 : Int32))] ⟨rfl, ⟨rfl, ⟨rfl, ⟨rfl, ⟨rfl, trivial⟩⟩⟩⟩⟩ ?_
  exact rmX9_areLike_l24 C rFU v1 v2 s0 (0 : Int32) σ h
def mX9_areLike (v1 : Int32) (v2 : Int32) (σ : RS9) : Option (Int32 × RS9) := rCk (rIn v1 (rLen 42)) (rCk (rIn v2 (rLen 42)) ((if (rGa σ 42 v1) = (rGa σ 42 v2) then mX9_areLike_b20 v1 v2 (1 : Int32) σ else mX9_areLike_b20 v1 v2 (0 : Int32) σ)))
set_option maxHeartbeats 1000000 in
theorem rmX9_areLike {X : GX} {l : Launch} {f : AH} {n : Nat} {r : Int32 × RS9} {v1 : Int32} {v2 : Int32} {σ : RS9} (h : mX9_areLike v1 v2 σ = some r) : AM X l yX9_areLike cX9_areLike 5 (some .boolean) 0 0 0 [.ref 181, .int v1, .int v2] (rHm f σ) n (QMi f n r) := by
  have h : rCk (rIn v1 (rLen 42)) (rCk (rIn v2 (rLen 42)) ((if (rGa σ 42 v1) = (rGa σ 42 v2) then mX9_areLike_b20 v1 v2 (1 : Int32) σ else mX9_areLike_b20 v1 v2 (0 : Int32) σ))) = some r := h
  refine AM.of (by decide +kernel) rfl (Nat.le_of_ble_eq_true rfl) (fun p e s m args below meth c C _ => ?_)
  refine aw_nl [some (.ref 181), some (.int v1), some (.int v2), none, none] rfl ?_
  refine aw_ald_n C dX9_areLike_0 rfl ?_
  refine aw_get C (v := .ref (rAid 42)) gf_X9_105 (hm_M f σ) rfl dX9_areLike_1 ?_
  refine aw_iload_n C dX9_areLike_4 rfl ?_
  obtain ⟨hb1, h⟩ := ck_some h
  refine am_iald C (rGa σ 42 v1) rfl (inb_vp hb1) rfl dX9_areLike_5 ?_
  refine aw_ald_n C dX9_areLike_6 rfl ?_
  refine aw_get C (v := .ref (rAid 42)) gf_X9_105 (hm_M f σ) rfl dX9_areLike_7 ?_
  refine aw_iload_n C dX9_areLike_10 rfl ?_
  obtain ⟨hb2, h⟩ := ck_some h
  refine am_iald C (rGa σ 42 v2) rfl (inb_vp hb2) rfl dX9_areLike_11 ?_
  refine aw_icmp_ne C 19 dX9_areLike_12 (by decide) (fun q => ?_) (fun q => ?_)
  · rw [if_neg q] at h
    refine aw_iconst C 0 dX9_areLike_19 ki_0 ?_
    refine aw_fl [some (.ref 181), some (.int v1), some (.int v2), none, none] ⟨rfl, ⟨rfl, ⟨rfl, trivial⟩⟩⟩ ?_
    exact rmX9_areLike_b20 C h
  · rw [if_pos q] at h
    refine aw_iconst C 1 dX9_areLike_15 ki_1 ?_
    refine aw_goto C 20 dX9_areLike_16 (by decide) ?_
    refine aw_fl [some (.ref 181), some (.int v1), some (.int v2), none, none] ⟨rfl, ⟨rfl, ⟨rfl, trivial⟩⟩⟩ ?_
    exact rmX9_areLike_b20 C h
def mX9_tells_l16 : Nat → Int32 → Int32 → Int32 → RS9 → Option (Int32 × RS9)
  | 0, _, _, _, _ => none
  | d + 1, v1, v2, v3, σ => (if v2 ≤ v3 then some ((0 : Int32), σ) else rCk (rIn v3 (rLen 53)) (rCk (rIn ((((443 : Int32) + ((61 : Int32) * v1)) + (1 : Int32)) + v3) (rLen 1)) (mX9_tells_l16 d v1 v2 (v3 + (1 : Int32)) (rSa σ 1 ((((443 : Int32) + ((61 : Int32) * v1)) + (1 : Int32)) + v3) (rGa σ 53 v3)))))
set_option maxHeartbeats 1000000 in
theorem rmX9_tells_l16 {X : GX} {p : Program} {l : Launch} {e : Env} {s : State} {m : MethodId} {args : Array Value} {below : List Frame} {meth : Method} {c : Code} {f : AH} {n : Nat} {r : Int32 × RS9} (C : CC X p l (RM 0 0 0) s m args meth c RX9 cX9_tells 4 none) : ∀ (d : Nat) (v1 : Int32) (v2 : Int32) (v3 : Int32) (σ : RS9) (_ : mX9_tells_l16 d v1 v2 v3 σ = some r), AW X p l e (RM 0 0 0) s m args below meth c 4 (ZM X below args s 0 0 (QMv f n r)) (rHm f σ) n 0 0 16 [some (.ref 181), some (.int v1), some (.int v2), some (.int v3)] [] := by
  intro d
  induction d with
  | zero =>
    intro v1 v2 v3 σ h
    exact nomatch (show (none : Option (Int32 × RS9)) = some r from h)
  | succ d ih =>
    intro v1 v2 v3 σ h
    have h : (if v2 ≤ v3 then some ((0 : Int32), σ) else rCk (rIn v3 (rLen 53)) (rCk (rIn ((((443 : Int32) + ((61 : Int32) * v1)) + (1 : Int32)) + v3) (rLen 1)) (mX9_tells_l16 d v1 v2 (v3 + (1 : Int32)) (rSa σ 1 ((((443 : Int32) + ((61 : Int32) * v1)) + (1 : Int32)) + v3) (rGa σ 53 v3))))) = some r := h
    refine aw_iload_n C dX9_tells_16 rfl ?_
    refine aw_iload_n C dX9_tells_17 rfl ?_
    refine aw_icmp_ge C 50 dX9_tells_18 (by decide) (fun q => ?_) (fun q => ?_)
    · rw [if_pos q] at h
      cases h
      exact aw_vret C rfl dX9_tells_50 (Nat.le_refl _) (Nat.le_refl _) ⟨rfl, rfl, rfl⟩
    · rw [if_neg q] at h
      refine aw_ald_n C dX9_tells_21 rfl ?_
      refine aw_get C (v := .ref (rAid 1)) gf_X9_7 (hm_M f σ) rfl dX9_tells_22 ?_
      refine aw_sipush C 443 dX9_tells_25 ks_443 ?_
      refine aw_bipush C 61 dX9_tells_28 kb_61 ?_
      refine aw_iload_n C dX9_tells_30 rfl ?_
      refine aw_imul C dX9_tells_31 ?_
      refine aw_iadd C dX9_tells_32 ?_
      refine aw_iconst C 1 dX9_tells_33 ki_1 ?_
      refine aw_iadd C dX9_tells_34 ?_
      refine aw_iload_n C dX9_tells_35 rfl ?_
      refine aw_iadd C dX9_tells_36 ?_
      refine aw_ald_n C dX9_tells_37 rfl ?_
      refine aw_get C (v := .ref (rAid 53)) gf_X9_132 (hm_M f σ) rfl dX9_tells_38 ?_
      refine aw_iload_n C dX9_tells_41 rfl ?_
      obtain ⟨hb1, h⟩ := ck_some h
      refine am_iald C (rGa σ 53 v3) rfl (inb_vp hb1) rfl dX9_tells_42 ?_
      obtain ⟨hb2, h⟩ := ck_some h
      refine am_iast C rfl (inb_vp hb2) dX9_tells_43 ?_
      refine aw_iinc C (v3 + (1 : Int32)) dX9_tells_44 rfl (by rw [ki_1]) (by decide) rfl ?_
      refine aw_nl [some (.ref 181), some (.int v1), some (.int v2), some (.int (v3 + (1 : Int32)))] rfl ?_
      refine aw_goto C 16 dX9_tells_47 (by decide) ?_
      refine aw_fl [some (.ref 181), some (.int v1), some (.int v2), some (.int (v3 + (1 : Int32)))] ⟨rfl, ⟨rfl, ⟨rfl, ⟨rfl, trivial⟩⟩⟩⟩ ?_
      exact ih v1 v2 (v3 + (1 : Int32)) (rSa σ 1 ((((443 : Int32) + ((61 : Int32) * v1)) + (1 : Int32)) + v3) (rGa σ 53 v3)) h
def mX9_tells (v1 : Int32) (v2 : Int32) (σ : RS9) : Option (Int32 × RS9) := rCk (rIn ((443 : Int32) + ((61 : Int32) * v1)) (rLen 1)) (mX9_tells_l16 rFU v1 v2 (0 : Int32) (rSa σ 1 ((443 : Int32) + ((61 : Int32) * v1)) v2))
set_option maxHeartbeats 1000000 in
theorem rmX9_tells {X : GX} {l : Launch} {f : AH} {n : Nat} {r : Int32 × RS9} {v1 : Int32} {v2 : Int32} {σ : RS9} (h : mX9_tells v1 v2 σ = some r) : AM X l yX9_tells cX9_tells 4 none 0 0 0 [.ref 181, .int v1, .int v2] (rHm f σ) n (QMv f n r) := by
  have h : rCk (rIn ((443 : Int32) + ((61 : Int32) * v1)) (rLen 1)) (mX9_tells_l16 rFU v1 v2 (0 : Int32) (rSa σ 1 ((443 : Int32) + ((61 : Int32) * v1)) v2)) = some r := h
  refine AM.of (by decide +kernel) rfl (Nat.le_of_ble_eq_true rfl) (fun p e s m args below meth c C _ => ?_)
  refine aw_nl [some (.ref 181), some (.int v1), some (.int v2), none] rfl ?_
  refine aw_ald_n C dX9_tells_0 rfl ?_
  refine aw_get C (v := .ref (rAid 1)) gf_X9_7 (hm_M f σ) rfl dX9_tells_1 ?_
  refine aw_sipush C 443 dX9_tells_4 ks_443 ?_
  refine aw_bipush C 61 dX9_tells_7 kb_61 ?_
  refine aw_iload_n C dX9_tells_9 rfl ?_
  refine aw_imul C dX9_tells_10 ?_
  refine aw_iadd C dX9_tells_11 ?_
  refine aw_iload_n C dX9_tells_12 rfl ?_
  obtain ⟨hb1, h⟩ := ck_some h
  refine am_iast C rfl (inb_vp hb1) dX9_tells_13 ?_
  refine aw_iconst C 0 dX9_tells_14 ki_0 ?_
  refine aw_istore_n C dX9_tells_15 (by decide) rfl ?_
  refine aw_nl [some (.ref 181), some (.int v1), some (.int v2), some (.int (0 : Int32))] rfl ?_
  refine aw_fl [some (.ref 181), some (.int v1), some (.int v2), some (.int (0 : Int32))] ⟨rfl, ⟨rfl, ⟨rfl, ⟨rfl, trivial⟩⟩⟩⟩ ?_
  exact rmX9_tells_l16 C rFU v1 v2 (0 : Int32) (rSa σ 1 ((443 : Int32) + ((61 : Int32) * v1)) v2) h
def mX9_nowMany_b23 (s0 : Int32) (σ : RS9) : Option (Int32 × RS9) := some (s0, σ)
set_option maxHeartbeats 1000000 in
theorem rmX9_nowMany_b23 {X : GX} {p : Program} {l : Launch} {e : Env} {s : State} {m : MethodId} {args : Array Value} {below : List Frame} {meth : Method} {c : Code} {f : AH} {n : Nat} {r : Int32 × RS9} {s0 : Int32} {σ : RS9} (C : CC X p l (RM 1 0 0) s m args meth c RX9 cX9_nowMany 2 (some .int)) (h : mX9_nowMany_b23 s0 σ = some r) : AW X p l e (RM 1 0 0) s m args below meth c 2 (ZM X below args s 0 0 (QMi f n r)) (rHm f σ) n 0 0 23 [none, none] [.int s0] := by
  have h : some (s0, σ) = some r := h
  cases h
  exact aw_iret C rfl rfl dX9_nowMany_23 (Nat.le_refl _) (Nat.le_refl _) ⟨rfl, rfl, rfl⟩
def mX9_nowMany (v1 : Int32) (σ : RS9) : Option (Int32 × RS9) := ((mX9_toldOf v1 σ).bind fun r1 => (if r1.1 = (-1 : Int32) then rCk (rIn v1 (rLen 42)) (mX9_nowMany_b23 (rGa r1.2 42 v1) r1.2) else ((mX9_toldOf v1 r1.2).bind fun r2 => mX9_nowMany_b23 r2.1 r2.2)))
set_option maxHeartbeats 1000000 in
theorem rmX9_nowMany {X : GX} {l : Launch} {f : AH} {n : Nat} {r : Int32 × RS9} {v1 : Int32} {σ : RS9} (h : mX9_nowMany v1 σ = some r) : AM X l yX9_nowMany cX9_nowMany 2 (some .int) 1 0 0 [.ref 181, .int v1] (rHm f σ) n (QMi f n r) := by
  have h : ((mX9_toldOf v1 σ).bind fun r1 => (if r1.1 = (-1 : Int32) then rCk (rIn v1 (rLen 42)) (mX9_nowMany_b23 (rGa r1.2 42 v1) r1.2) else ((mX9_toldOf v1 r1.2).bind fun r2 => mX9_nowMany_b23 r2.1 r2.2))) = some r := h
  refine AM.of (by decide +kernel) rfl (Nat.le_of_ble_eq_true rfl) (fun p e s m args below meth c C _ => ?_)
  refine aw_nl [some (.ref 181), some (.int v1)] rfl ?_
  refine aw_ald_n C dX9_nowMany_0 rfl ?_
  refine aw_iload_n C dX9_nowMany_1 rfl ?_
  obtain ⟨r1, h1, h⟩ := Option.bind_eq_some_iff.mp h
  refine aw_callV C (ci := 9) (b := 181) [.int v1] mv_X9_247 rfl rfl (hm_M f σ) (rmX9_toldOf h1) rfl dX9_nowMany_2 (Nat.le_of_ble_eq_true rfl) (Nat.le_of_ble_eq_true rfl) rfl (Nat.le_of_ble_eq_true rfl) (Nat.le_of_ble_eq_true rfl) (Nat.le_of_ble_eq_true rfl) (fun v9 f9 n9 hh => ?_)
  obtain ⟨rfl, rfl, rfl⟩ := hh
  refine aw_iconst C (-1) dX9_nowMany_5 ki_m1 ?_
  refine aw_icmp_ne C 18 dX9_nowMany_6 (by decide) (fun q => ?_) (fun q => ?_)
  · rw [if_neg q] at h
    refine aw_ald_n C dX9_nowMany_18 rfl ?_
    refine aw_iload_n C dX9_nowMany_19 rfl ?_
    obtain ⟨r2, h2, h⟩ := Option.bind_eq_some_iff.mp h
    refine aw_callV C (ci := 9) (b := 181) [.int v1] mv_X9_247 rfl rfl (hm_M f r1.2) (rmX9_toldOf h2) rfl dX9_nowMany_20 (Nat.le_of_ble_eq_true rfl) (Nat.le_of_ble_eq_true rfl) rfl (Nat.le_of_ble_eq_true rfl) (Nat.le_of_ble_eq_true rfl) (Nat.le_of_ble_eq_true rfl) (fun v9 f9 n9 hh => ?_)
    obtain ⟨rfl, rfl, rfl⟩ := hh
    refine aw_fl [none, none] trivial ?_
    exact rmX9_nowMany_b23 C h
  · rw [if_pos q] at h
    refine aw_ald_n C dX9_nowMany_9 rfl ?_
    refine aw_get C (v := .ref (rAid 42)) gf_X9_105 (hm_M f r1.2) rfl dX9_nowMany_10 ?_
    refine aw_iload_n C dX9_nowMany_13 rfl ?_
    obtain ⟨hb3, h⟩ := ck_some h
    refine am_iald C (rGa r1.2 42 v1) rfl (inb_vp hb3) rfl dX9_nowMany_14 ?_
    refine aw_goto C 23 dX9_nowMany_15 (by decide) ?_
    refine aw_fl [none, none] trivial ?_
    exact rmX9_nowMany_b23 C h
def mX9_nowByte_b31 (s0 : Int32) (σ : RS9) : Option (Int32 × RS9) := some (s0, σ)
set_option maxHeartbeats 1000000 in
theorem rmX9_nowByte_b31 {X : GX} {p : Program} {l : Launch} {e : Env} {s : State} {m : MethodId} {args : Array Value} {below : List Frame} {meth : Method} {c : Code} {f : AH} {n : Nat} {r : Int32 × RS9} {s0 : Int32} {σ : RS9} (C : CC X p l (RM 1 0 0) s m args meth c RX9 cX9_nowByte 3 (some .int)) (h : mX9_nowByte_b31 s0 σ = some r) : AW X p l e (RM 1 0 0) s m args below meth c 3 (ZM X below args s 0 0 (QMi f n r)) (rHm f σ) n 0 0 31 [none, none, none] [.int s0] := by
  have h : some (s0, σ) = some r := h
  cases h
  exact aw_iret C rfl rfl dX9_nowByte_31 (Nat.le_refl _) (Nat.le_refl _) ⟨rfl, rfl, rfl⟩
def mX9_nowByte (v1 : Int32) (v2 : Int32) (σ : RS9) : Option (Int32 × RS9) := ((mX9_toldOf v1 σ).bind fun r1 => (if r1.1 = (-1 : Int32) then rCk (rIn v1 (rLen 41)) (rCk (rIn ((rGa r1.2 41 v1) + v2) (rLen 43)) (mX9_nowByte_b31 (rGa r1.2 43 ((rGa r1.2 41 v1) + v2)) r1.2)) else ((mX9_toldAt v1 v2 r1.2).bind fun r2 => mX9_nowByte_b31 r2.1 r2.2)))
set_option maxHeartbeats 1000000 in
theorem rmX9_nowByte {X : GX} {l : Launch} {f : AH} {n : Nat} {r : Int32 × RS9} {v1 : Int32} {v2 : Int32} {σ : RS9} (h : mX9_nowByte v1 v2 σ = some r) : AM X l yX9_nowByte cX9_nowByte 3 (some .int) 1 0 0 [.ref 181, .int v1, .int v2] (rHm f σ) n (QMi f n r) := by
  have h : ((mX9_toldOf v1 σ).bind fun r1 => (if r1.1 = (-1 : Int32) then rCk (rIn v1 (rLen 41)) (rCk (rIn ((rGa r1.2 41 v1) + v2) (rLen 43)) (mX9_nowByte_b31 (rGa r1.2 43 ((rGa r1.2 41 v1) + v2)) r1.2)) else ((mX9_toldAt v1 v2 r1.2).bind fun r2 => mX9_nowByte_b31 r2.1 r2.2))) = some r := h
  refine AM.of (by decide +kernel) rfl (Nat.le_of_ble_eq_true rfl) (fun p e s m args below meth c C _ => ?_)
  refine aw_nl [some (.ref 181), some (.int v1), some (.int v2)] rfl ?_
  refine aw_ald_n C dX9_nowByte_0 rfl ?_
  refine aw_iload_n C dX9_nowByte_1 rfl ?_
  obtain ⟨r1, h1, h⟩ := Option.bind_eq_some_iff.mp h
  refine aw_callV C (ci := 9) (b := 181) [.int v1] mv_X9_247 rfl rfl (hm_M f σ) (rmX9_toldOf h1) rfl dX9_nowByte_2 (Nat.le_of_ble_eq_true rfl) (Nat.le_of_ble_eq_true rfl) rfl (Nat.le_of_ble_eq_true rfl) (Nat.le_of_ble_eq_true rfl) (Nat.le_of_ble_eq_true rfl) (fun v9 f9 n9 hh => ?_)
  obtain ⟨rfl, rfl, rfl⟩ := hh
  refine aw_iconst C (-1) dX9_nowByte_5 ki_m1 ?_
  refine aw_icmp_ne C 25 dX9_nowByte_6 (by decide) (fun q => ?_) (fun q => ?_)
  · rw [if_neg q] at h
    refine aw_ald_n C dX9_nowByte_25 rfl ?_
    refine aw_iload_n C dX9_nowByte_26 rfl ?_
    refine aw_iload_n C dX9_nowByte_27 rfl ?_
    obtain ⟨r2, h2, h⟩ := Option.bind_eq_some_iff.mp h
    refine aw_callV C (ci := 9) (b := 181) [.int v1, .int v2] mv_X9_251 rfl rfl (hm_M f r1.2) (rmX9_toldAt h2) rfl dX9_nowByte_28 (Nat.le_of_ble_eq_true rfl) (Nat.le_of_ble_eq_true rfl) rfl (Nat.le_of_ble_eq_true rfl) (Nat.le_of_ble_eq_true rfl) (Nat.le_of_ble_eq_true rfl) (fun v9 f9 n9 hh => ?_)
    obtain ⟨rfl, rfl, rfl⟩ := hh
    refine aw_fl [none, none, none] trivial ?_
    exact rmX9_nowByte_b31 C h
  · rw [if_pos q] at h
    refine aw_ald_n C dX9_nowByte_9 rfl ?_
    refine aw_get C (v := .ref (rAid 43)) gf_X9_108 (hm_M f r1.2) rfl dX9_nowByte_10 ?_
    refine aw_ald_n C dX9_nowByte_13 rfl ?_
    refine aw_get C (v := .ref (rAid 41)) gf_X9_102 (hm_M f r1.2) rfl dX9_nowByte_14 ?_
    refine aw_iload_n C dX9_nowByte_17 rfl ?_
    obtain ⟨hb3, h⟩ := ck_some h
    refine am_iald C (rGa r1.2 41 v1) rfl (inb_vp hb3) rfl dX9_nowByte_18 ?_
    refine aw_iload_n C dX9_nowByte_19 rfl ?_
    refine aw_iadd C dX9_nowByte_20 ?_
    obtain ⟨hb4, h⟩ := ck_some h
    refine am_iald C (rGa r1.2 43 ((rGa r1.2 41 v1) + v2)) rfl (inb_vp hb4) rfl dX9_nowByte_21 ?_
    refine aw_goto C 31 dX9_nowByte_22 (by decide) ?_
    refine aw_fl [none, none, none] trivial ?_
    exact rmX9_nowByte_b31 C h
def mX9_toldMany_b27 (rec4 : Int32 → Int32 → RS9 → Option (Int32 × RS9)) (v2 : Int32) (s0 : Int32) (s1 : Int32) (σ : RS9) : Option (Int32 × RS9) := rec4 (s0 + s1) (v2 + (1 : Int32)) σ
set_option maxHeartbeats 1000000 in
theorem rmX9_toldMany_b27 {X : GX} {p : Program} {l : Launch} {e : Env} {s : State} {m : MethodId} {args : Array Value} {below : List Frame} {meth : Method} {c : Code} {f : AH} {n : Nat} {r : Int32 × RS9} {rec4 : Int32 → Int32 → RS9 → Option (Int32 × RS9)} {v2 : Int32} {s0 : Int32} {s1 : Int32} {σ : RS9} (C : CC X p l (RM 1 0 0) s m args meth c RX9 cX9_toldMany 3 (some .int)) (Hr4 : ∀ (v1 : Int32) (v2 : Int32) (σ : RS9), rec4 v1 v2 σ = some r → AW X p l e (RM 1 0 0) s m args below meth c 3 (ZM X below args s 0 0 (QMi f n r)) (rHm f σ) n 0 0 4 [some (.ref 181), some (.int v1), some (.int v2)] []) (h : mX9_toldMany_b27 rec4 v2 s0 s1 σ = some r) : AW X p l e (RM 1 0 0) s m args below meth c 3 (ZM X below args s 0 0 (QMi f n r)) (rHm f σ) n 0 0 27 [some (.ref 181), none, some (.int v2)] [.int s1, .int s0] := by
  have h : rec4 (s0 + s1) (v2 + (1 : Int32)) σ = some r := h
  refine aw_iadd C dX9_toldMany_27 ?_
  refine aw_istore_n C dX9_toldMany_28 (by decide) rfl ?_
  refine aw_nl [some (.ref 181), some (.int (s0 + s1)), some (.int v2)] rfl ?_
  refine aw_iinc C (v2 + (1 : Int32)) dX9_toldMany_29 rfl (by rw [ki_1]) (by decide) rfl ?_
  refine aw_nl [some (.ref 181), some (.int (s0 + s1)), some (.int (v2 + (1 : Int32)))] rfl ?_
  refine aw_goto C 4 dX9_toldMany_32 (by decide) ?_
  refine aw_fl [some (.ref 181), some (.int (s0 + s1)), some (.int (v2 + (1 : Int32)))] ⟨rfl, ⟨rfl, ⟨rfl, trivial⟩⟩⟩ ?_
  exact Hr4 (s0 + s1) (v2 + (1 : Int32)) σ h
def mX9_toldMany_l4 : Nat → Int32 → Int32 → RS9 → Option (Int32 × RS9)
  | 0, _, _, _ => none
  | d + 1, v1, v2, σ => (if (σ.1 33) ≤ v2 then some (v1, σ) else ((mX9_toldOf v2 σ).bind fun r1 => (if r1.1 = (-1 : Int32) then mX9_toldMany_b27 (fun v1 v2 σ => mX9_toldMany_l4 d v1 v2 σ) v2 v1 (0 : Int32) r1.2 else mX9_toldMany_b27 (fun v1 v2 σ => mX9_toldMany_l4 d v1 v2 σ) v2 v1 (1 : Int32) r1.2)))
set_option maxHeartbeats 1000000 in
theorem rmX9_toldMany_l4 {X : GX} {p : Program} {l : Launch} {e : Env} {s : State} {m : MethodId} {args : Array Value} {below : List Frame} {meth : Method} {c : Code} {f : AH} {n : Nat} {r : Int32 × RS9} (C : CC X p l (RM 1 0 0) s m args meth c RX9 cX9_toldMany 3 (some .int)) : ∀ (d : Nat) (v1 : Int32) (v2 : Int32) (σ : RS9) (_ : mX9_toldMany_l4 d v1 v2 σ = some r), AW X p l e (RM 1 0 0) s m args below meth c 3 (ZM X below args s 0 0 (QMi f n r)) (rHm f σ) n 0 0 4 [some (.ref 181), some (.int v1), some (.int v2)] [] := by
  intro d
  induction d with
  | zero =>
    intro v1 v2 σ h
    exact nomatch (show (none : Option (Int32 × RS9)) = some r from h)
  | succ d ih =>
    intro v1 v2 σ h
    have h : (if (σ.1 33) ≤ v2 then some (v1, σ) else ((mX9_toldOf v2 σ).bind fun r1 => (if r1.1 = (-1 : Int32) then mX9_toldMany_b27 (fun v1 v2 σ => mX9_toldMany_l4 d v1 v2 σ) v2 v1 (0 : Int32) r1.2 else mX9_toldMany_b27 (fun v1 v2 σ => mX9_toldMany_l4 d v1 v2 σ) v2 v1 (1 : Int32) r1.2))) = some r := h
    refine aw_iload_n C dX9_toldMany_4 rfl ?_
    refine aw_ald_n C dX9_toldMany_5 rfl ?_
    refine aw_get C (v := .int (σ.1 33)) gf_X9_204 (hm_M f σ) rfl dX9_toldMany_6 ?_
    refine aw_icmp_ge C 35 dX9_toldMany_9 (by decide) (fun q => ?_) (fun q => ?_)
    · rw [if_pos q] at h
      refine aw_iload_n C dX9_toldMany_35 rfl ?_
      cases h
      exact aw_iret C rfl rfl dX9_toldMany_36 (Nat.le_refl _) (Nat.le_refl _) ⟨rfl, rfl, rfl⟩
    · rw [if_neg q] at h
      refine aw_iload_n C dX9_toldMany_12 rfl ?_
      refine aw_ald_n C dX9_toldMany_13 rfl ?_
      refine aw_iload_n C dX9_toldMany_14 rfl ?_
      obtain ⟨r1, h1, h⟩ := Option.bind_eq_some_iff.mp h
      refine aw_callV C (ci := 9) (b := 181) [.int v2] mv_X9_247 rfl rfl (hm_M f σ) (rmX9_toldOf h1) rfl dX9_toldMany_15 (Nat.le_of_ble_eq_true rfl) (Nat.le_of_ble_eq_true rfl) rfl (Nat.le_of_ble_eq_true rfl) (Nat.le_of_ble_eq_true rfl) (Nat.le_of_ble_eq_true rfl) (fun v9 f9 n9 hh => ?_)
      obtain ⟨rfl, rfl, rfl⟩ := hh
      refine aw_iconst C (-1) dX9_toldMany_18 ki_m1 ?_
      refine aw_icmp_ne C 26 dX9_toldMany_19 (by decide) (fun q => ?_) (fun q => ?_)
      · rw [if_neg q] at h
        refine aw_iconst C 1 dX9_toldMany_26 ki_1 ?_
        refine aw_fl [some (.ref 181), none, some (.int v2)] ⟨rfl, ⟨rfl, trivial⟩⟩ ?_
        exact rmX9_toldMany_b27 C (fun v1 v2 σ h => ih v1 v2 σ h) h
      · rw [if_pos q] at h
        refine aw_iconst C 0 dX9_toldMany_22 ki_0 ?_
        refine aw_goto C 27 dX9_toldMany_23 (by decide) ?_
        refine aw_fl [some (.ref 181), none, some (.int v2)] ⟨rfl, ⟨rfl, trivial⟩⟩ ?_
        exact rmX9_toldMany_b27 C (fun v1 v2 σ h => ih v1 v2 σ h) h
def mX9_toldMany (σ : RS9) : Option (Int32 × RS9) := mX9_toldMany_l4 rFU (0 : Int32) (0 : Int32) σ
set_option maxHeartbeats 1000000 in
theorem rmX9_toldMany {X : GX} {l : Launch} {f : AH} {n : Nat} {r : Int32 × RS9} {σ : RS9} (h : mX9_toldMany σ = some r) : AM X l yX9_toldMany cX9_toldMany 3 (some .int) 1 0 0 [.ref 181] (rHm f σ) n (QMi f n r) := by
  have h : mX9_toldMany_l4 rFU (0 : Int32) (0 : Int32) σ = some r := h
  refine AM.of (by decide +kernel) rfl (Nat.le_of_ble_eq_true rfl) (fun p e s m args below meth c C _ => ?_)
  refine aw_nl [some (.ref 181), none, none] rfl ?_
  refine aw_iconst C 0 dX9_toldMany_0 ki_0 ?_
  refine aw_istore_n C dX9_toldMany_1 (by decide) rfl ?_
  refine aw_nl [some (.ref 181), some (.int (0 : Int32)), none] rfl ?_
  refine aw_iconst C 0 dX9_toldMany_2 ki_0 ?_
  refine aw_istore_n C dX9_toldMany_3 (by decide) rfl ?_
  refine aw_nl [some (.ref 181), some (.int (0 : Int32)), some (.int (0 : Int32))] rfl ?_
  refine aw_fl [some (.ref 181), some (.int (0 : Int32)), some (.int (0 : Int32))] ⟨rfl, ⟨rfl, ⟨rfl, trivial⟩⟩⟩ ?_
  exact rmX9_toldMany_l4 C rFU (0 : Int32) (0 : Int32) σ h
def mX9_wipe0_l11 : Nat → Int32 → RS9 → Option (Int32 × RS9)
  | 0, _, _ => none
  | d + 1, v1, σ => (if (40 : Int32) ≤ v1 then some ((0 : Int32), σ) else rCk (rIn ((443 : Int32) + ((61 : Int32) * v1)) (rLen 1)) (mX9_wipe0_l11 d (v1 + (1 : Int32)) (rSa σ 1 ((443 : Int32) + ((61 : Int32) * v1)) (-1 : Int32))))
set_option maxHeartbeats 1000000 in
theorem rmX9_wipe0_l11 {X : GX} {p : Program} {l : Launch} {e : Env} {s : State} {m : MethodId} {args : Array Value} {below : List Frame} {meth : Method} {c : Code} {f : AH} {n : Nat} {r : Int32 × RS9} (C : CC X p l (RM 2 0 0) s m args meth c RX9 cX9_wipe0 2 (some .int)) : ∀ (d : Nat) (v1 : Int32) (σ : RS9) (_ : mX9_wipe0_l11 d v1 σ = some r), AW X p l e (RM 2 0 0) s m args below meth c 2 (ZM X below args s 0 0 (QMi f n r)) (rHm f σ) n 0 0 11 [some (.ref 181), some (.int v1)] [] := by
  intro d
  induction d with
  | zero =>
    intro v1 σ h
    exact nomatch (show (none : Option (Int32 × RS9)) = some r from h)
  | succ d ih =>
    intro v1 σ h
    have h : (if (40 : Int32) ≤ v1 then some ((0 : Int32), σ) else rCk (rIn ((443 : Int32) + ((61 : Int32) * v1)) (rLen 1)) (mX9_wipe0_l11 d (v1 + (1 : Int32)) (rSa σ 1 ((443 : Int32) + ((61 : Int32) * v1)) (-1 : Int32)))) = some r := h
    refine aw_iload_n C dX9_wipe0_11 rfl ?_
    refine aw_bipush C 40 dX9_wipe0_12 kb_40 ?_
    refine aw_icmp_ge C 37 dX9_wipe0_14 (by decide) (fun q => ?_) (fun q => ?_)
    · rw [if_pos q] at h
      refine aw_iconst C 0 dX9_wipe0_37 ki_0 ?_
      cases h
      exact aw_iret C rfl rfl dX9_wipe0_38 (Nat.le_refl _) (Nat.le_refl _) ⟨rfl, rfl, rfl⟩
    · rw [if_neg q] at h
      refine aw_ald_n C dX9_wipe0_17 rfl ?_
      refine aw_get C (v := .ref (rAid 1)) gf_X9_7 (hm_M f σ) rfl dX9_wipe0_18 ?_
      refine aw_sipush C 443 dX9_wipe0_21 ks_443 ?_
      refine aw_bipush C 61 dX9_wipe0_24 kb_61 ?_
      refine aw_iload_n C dX9_wipe0_26 rfl ?_
      refine aw_imul C dX9_wipe0_27 ?_
      refine aw_iadd C dX9_wipe0_28 ?_
      refine aw_iconst C (-1) dX9_wipe0_29 ki_m1 ?_
      obtain ⟨hb1, h⟩ := ck_some h
      refine am_iast C rfl (inb_vp hb1) dX9_wipe0_30 ?_
      refine aw_iinc C (v1 + (1 : Int32)) dX9_wipe0_31 rfl (by rw [ki_1]) (by decide) rfl ?_
      refine aw_nl [some (.ref 181), some (.int (v1 + (1 : Int32)))] rfl ?_
      refine aw_goto C 11 dX9_wipe0_34 (by decide) ?_
      refine aw_fl [some (.ref 181), some (.int (v1 + (1 : Int32)))] ⟨rfl, ⟨rfl, trivial⟩⟩ ?_
      exact ih (v1 + (1 : Int32)) (rSa σ 1 ((443 : Int32) + ((61 : Int32) * v1)) (-1 : Int32)) h
def mX9_wipe0 (σ : RS9) : Option (Int32 × RS9) := ((mX9_toldMany σ).bind fun r1 => (if r1.1 = (0 : Int32) then some ((4 : Int32), r1.2) else mX9_wipe0_l11 rFU (0 : Int32) r1.2))
set_option maxHeartbeats 1000000 in
theorem rmX9_wipe0 {X : GX} {l : Launch} {f : AH} {n : Nat} {r : Int32 × RS9} {σ : RS9} (h : mX9_wipe0 σ = some r) : AM X l yX9_wipe0 cX9_wipe0 2 (some .int) 2 0 0 [.ref 181] (rHm f σ) n (QMi f n r) := by
  have h : ((mX9_toldMany σ).bind fun r1 => (if r1.1 = (0 : Int32) then some ((4 : Int32), r1.2) else mX9_wipe0_l11 rFU (0 : Int32) r1.2)) = some r := h
  refine AM.of (by decide +kernel) rfl (Nat.le_of_ble_eq_true rfl) (fun p e s m args below meth c C _ => ?_)
  refine aw_nl [some (.ref 181), none] rfl ?_
  refine aw_ald_n C dX9_wipe0_0 rfl ?_
  obtain ⟨r1, h1, h⟩ := Option.bind_eq_some_iff.mp h
  refine aw_callV C (ci := 9) (b := 181) [] mv_X9_319 rfl rfl (hm_M f σ) (rmX9_toldMany h1) rfl dX9_wipe0_1 (Nat.le_of_ble_eq_true rfl) (Nat.le_of_ble_eq_true rfl) rfl (Nat.le_of_ble_eq_true rfl) (Nat.le_of_ble_eq_true rfl) (Nat.le_of_ble_eq_true rfl) (fun v9 f9 n9 hh => ?_)
  obtain ⟨rfl, rfl, rfl⟩ := hh
  refine aw_if_ne C 9 dX9_wipe0_4 (by decide) (fun q => ?_) (fun q => ?_)
  · rw [if_neg q] at h
    refine aw_iconst C 0 dX9_wipe0_9 ki_0 ?_
    refine aw_istore_n C dX9_wipe0_10 (by decide) rfl ?_
    refine aw_nl [some (.ref 181), some (.int (0 : Int32))] rfl ?_
    refine aw_fl [some (.ref 181), some (.int (0 : Int32))] ⟨rfl, ⟨rfl, trivial⟩⟩ ?_
    exact rmX9_wipe0_l11 C rFU (0 : Int32) r1.2 h
  · rw [if_pos q] at h
    refine aw_iconst C 4 dX9_wipe0_7 ki_4 ?_
    cases h
    exact aw_iret C rfl rfl dX9_wipe0_8 (Nat.le_refl _) (Nat.le_refl _) ⟨rfl, rfl, rfl⟩
def mX9_fault (σ : RS9) : Option (Int32 × RS9) := some ((σ.1 12), (rSf σ 0 (0 : Int32)))
set_option maxHeartbeats 1000000 in
theorem rmX9_fault {X : GX} {l : Launch} {f : AH} {n : Nat} {r : Int32 × RS9} {σ : RS9} (h : mX9_fault σ = some r) : AM X l yX9_fault cX9_fault 1 (some .int) 0 0 0 [.ref 181] (rHm f σ) n (QMi f n r) := by
  have h : some ((σ.1 12), (rSf σ 0 (0 : Int32))) = some r := h
  refine AM.of (by decide +kernel) rfl (Nat.le_of_ble_eq_true rfl) (fun p e s m args below meth c C _ => ?_)
  refine aw_nl [some (.ref 181)] rfl ?_
  refine aw_ald_n C dX9_fault_0 rfl ?_
  refine aw_iconst C 0 dX9_fault_1 ki_0 ?_
  refine am_put C gf_X9_138 nf9_0 rfl rfl dX9_fault_2 ?_
  refine aw_ald_n C dX9_fault_5 rfl ?_
  refine aw_get C (v := .int (σ.1 12)) gf_X9_26 (hm_M f (rSf σ 0 (0 : Int32))) rfl dX9_fault_6 ?_
  cases h
  exact aw_iret C rfl rfl dX9_fault_9 (Nat.le_refl _) (Nat.le_refl _) ⟨rfl, rfl, rfl⟩
def mX9_why (σ : RS9) : Option (Int32 × RS9) := some ((σ.1 7), (rSf σ 0 (0 : Int32)))
set_option maxHeartbeats 1000000 in
theorem rmX9_why {X : GX} {l : Launch} {f : AH} {n : Nat} {r : Int32 × RS9} {σ : RS9} (h : mX9_why σ = some r) : AM X l yX9_why cX9_why 1 (some .int) 0 0 0 [.ref 181] (rHm f σ) n (QMi f n r) := by
  have h : some ((σ.1 7), (rSf σ 0 (0 : Int32))) = some r := h
  refine AM.of (by decide +kernel) rfl (Nat.le_of_ble_eq_true rfl) (fun p e s m args below meth c C _ => ?_)
  refine aw_nl [some (.ref 181)] rfl ?_
  refine aw_ald_n C dX9_why_0 rfl ?_
  refine aw_iconst C 0 dX9_why_1 ki_0 ?_
  refine am_put C gf_X9_138 nf9_0 rfl rfl dX9_why_2 ?_
  refine aw_ald_n C dX9_why_5 rfl ?_
  refine aw_get C (v := .int (σ.1 7)) gf_X9_328 (hm_M f (rSf σ 0 (0 : Int32))) rfl dX9_why_6 ?_
  cases h
  exact aw_iret C rfl rfl dX9_why_9 (Nat.le_refl _) (Nat.le_refl _) ⟨rfl, rfl, rfl⟩
def mX9_took (σ : RS9) : Option (Int32 × RS9) := some ((σ.1 9), (rSf σ 9 (0 : Int32)))
set_option maxHeartbeats 1000000 in
theorem rmX9_took {X : GX} {l : Launch} {f : AH} {n : Nat} {r : Int32 × RS9} {σ : RS9} (h : mX9_took σ = some r) : AM X l yX9_took cX9_took 2 (some .int) 0 0 0 [.ref 181] (rHm f σ) n (QMi f n r) := by
  have h : some ((σ.1 9), (rSf σ 9 (0 : Int32))) = some r := h
  refine AM.of (by decide +kernel) rfl (Nat.le_of_ble_eq_true rfl) (fun p e s m args below meth c C _ => ?_)
  refine aw_nl [some (.ref 181), none] rfl ?_
  refine aw_ald_n C dX9_took_0 rfl ?_
  refine aw_get C (v := .int (σ.1 9)) gf_X9_337 (hm_M f σ) rfl dX9_took_1 ?_
  refine aw_istore_n C dX9_took_4 (by decide) rfl ?_
  refine aw_nl [some (.ref 181), some (.int (σ.1 9))] rfl ?_
  refine aw_ald_n C dX9_took_5 rfl ?_
  refine aw_iconst C 0 dX9_took_6 ki_0 ?_
  refine am_put C gf_X9_337 nf9_9 rfl rfl dX9_took_7 ?_
  refine aw_iload_n C dX9_took_10 rfl ?_
  cases h
  exact aw_iret C rfl rfl dX9_took_11 (Nat.le_refl _) (Nat.le_refl _) ⟨rfl, rfl, rfl⟩
