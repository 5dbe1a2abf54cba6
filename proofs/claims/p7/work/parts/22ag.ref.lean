def mX9_remembers_l52 : Nat → Int32 → RS9 → Option (Int32 × RS9)
  | 0, _, _ => none
  | d + 1, v1, σ => (if (4347 : Int32) ≤ v1 then some ((0 : Int32), (rSf σ 5 ((σ.1 5) + (1 : Int32)))) else rCk (rIn v1 (rLen 2)) (rCk (rIn (((4347 : Int32) * (σ.1 5)) + v1) (rLen 4)) (mX9_remembers_l52 d (v1 + (1 : Int32)) (rSa σ 4 (((4347 : Int32) * (σ.1 5)) + v1) (rGa σ 2 v1)))))
set_option maxHeartbeats 1000000 in
theorem rmX9_remembers_l52 {X : GX} {p : Program} {l : Launch} {e : Env} {s : State} {m : MethodId} {args : Array Value} {below : List Frame} {meth : Method} {c : Code} {f : AH} {n : Nat} {r : Int32 × RS9} (C : CC X p l (RM 0 0 0) s m args meth c RX9 cX9_remembers 2 none) : ∀ (d : Nat) (v1 : Int32) (σ : RS9) (_ : mX9_remembers_l52 d v1 σ = some r), AW X p l e (RM 0 0 0) s m args below meth c 2 (ZM X below args s 0 0 (QMv f n r)) (rHm f σ) n 0 0 52 [some (.ref 181), some (.int v1)] [] := by
  intro d
  induction d with
  | zero =>
    intro v1 σ h
    exact nomatch (show (none : Option (Int32 × RS9)) = some r from h)
  | succ d ih =>
    intro v1 σ h
    have h : (if (4347 : Int32) ≤ v1 then some ((0 : Int32), (rSf σ 5 ((σ.1 5) + (1 : Int32)))) else rCk (rIn v1 (rLen 2)) (rCk (rIn (((4347 : Int32) * (σ.1 5)) + v1) (rLen 4)) (mX9_remembers_l52 d (v1 + (1 : Int32)) (rSa σ 4 (((4347 : Int32) * (σ.1 5)) + v1) (rGa σ 2 v1))))) = some r := h
    refine aw_iload_n C dX9_remembers_52 rfl ?_
    refine aw_sipush C 4347 dX9_remembers_53 ks_4347 ?_
    refine aw_icmp_ge C 86 dX9_remembers_56 (by decide) (fun q => ?_) (fun q => ?_)
    · rw [if_pos q] at h
      refine aw_ald_n C dX9_remembers_86 rfl ?_
      refine aw_dup C dX9_remembers_87 rfl ?_
      refine aw_get C (v := .int (σ.1 5)) gf_X9_325 (hm_M f σ) rfl dX9_remembers_88 ?_
      refine aw_iconst C 1 dX9_remembers_91 ki_1 ?_
      refine aw_iadd C dX9_remembers_92 ?_
      refine am_put C gf_X9_325 nf9_5 rfl rfl dX9_remembers_93 ?_
      cases h
      exact aw_vret C rfl dX9_remembers_96 (Nat.le_refl _) (Nat.le_refl _) ⟨rfl, rfl, rfl⟩
    · rw [if_neg q] at h
      refine aw_ald_n C dX9_remembers_59 rfl ?_
      refine aw_get C (v := .ref (rAid 4)) gf_X9_20 (hm_M f σ) rfl dX9_remembers_60 ?_
      refine aw_sipush C 4347 dX9_remembers_63 ks_4347 ?_
      refine aw_ald_n C dX9_remembers_66 rfl ?_
      refine aw_get C (v := .int (σ.1 5)) gf_X9_325 (hm_M f σ) rfl dX9_remembers_67 ?_
      refine aw_imul C dX9_remembers_70 ?_
      refine aw_iload_n C dX9_remembers_71 rfl ?_
      refine aw_iadd C dX9_remembers_72 ?_
      refine aw_ald_n C dX9_remembers_73 rfl ?_
      refine aw_get C (v := .ref (rAid 2)) gf_X9_13 (hm_M f σ) rfl dX9_remembers_74 ?_
      refine aw_iload_n C dX9_remembers_77 rfl ?_
      obtain ⟨hb1, h⟩ := ck_some h
      refine am_iald C (rGa σ 2 v1) rfl (inb_vp hb1) rfl dX9_remembers_78 ?_
      obtain ⟨hb2, h⟩ := ck_some h
      refine am_iast C rfl (inb_vp hb2) dX9_remembers_79 ?_
      refine aw_iinc C (v1 + (1 : Int32)) dX9_remembers_80 rfl (by rw [ki_1]) (by decide) rfl ?_
      refine aw_nl [some (.ref 181), some (.int (v1 + (1 : Int32)))] rfl ?_
      refine aw_goto C 52 dX9_remembers_83 (by decide) ?_
      refine aw_fl [some (.ref 181), some (.int (v1 + (1 : Int32)))] ⟨rfl, ⟨rfl, trivial⟩⟩ ?_
      exact ih (v1 + (1 : Int32)) (rSa σ 4 (((4347 : Int32) * (σ.1 5)) + v1) (rGa σ 2 v1)) h
def mX9_remembers_b50 (σ : RS9) : Option (Int32 × RS9) := mX9_remembers_l52 rFU (0 : Int32) σ
set_option maxHeartbeats 1000000 in
theorem rmX9_remembers_b50 {X : GX} {p : Program} {l : Launch} {e : Env} {s : State} {m : MethodId} {args : Array Value} {below : List Frame} {meth : Method} {c : Code} {f : AH} {n : Nat} {r : Int32 × RS9} {σ : RS9} (C : CC X p l (RM 0 0 0) s m args meth c RX9 cX9_remembers 2 none) (h : mX9_remembers_b50 σ = some r) : AW X p l e (RM 0 0 0) s m args below meth c 2 (ZM X below args s 0 0 (QMv f n r)) (rHm f σ) n 0 0 50 [some (.ref 181), none] [] := by
  have h : mX9_remembers_l52 rFU (0 : Int32) σ = some r := h
  refine aw_iconst C 0 dX9_remembers_50 ki_0 ?_
  refine aw_istore_n C dX9_remembers_51 (by decide) rfl ?_
  refine aw_nl [some (.ref 181), some (.int (0 : Int32))] rfl ?_
  refine aw_fl [some (.ref 181), some (.int (0 : Int32))] ⟨rfl, ⟨rfl, trivial⟩⟩ ?_
  exact rmX9_remembers_l52 C rFU (0 : Int32) σ h
def mX9_remembers_l11 : Nat → Int32 → RS9 → Option (Int32 × RS9)
  | 0, _, _ => none
  | d + 1, v1, σ => (if (30429 : Int32) ≤ v1 then mX9_remembers_b50 (rSf σ 5 ((σ.1 5) - (1 : Int32))) else rCk (rIn (v1 + (4347 : Int32)) (rLen 4)) (rCk (rIn v1 (rLen 4)) (mX9_remembers_l11 d (v1 + (1 : Int32)) (rSa σ 4 v1 (rGa σ 4 (v1 + (4347 : Int32)))))))
set_option maxHeartbeats 1000000 in
theorem rmX9_remembers_l11 {X : GX} {p : Program} {l : Launch} {e : Env} {s : State} {m : MethodId} {args : Array Value} {below : List Frame} {meth : Method} {c : Code} {f : AH} {n : Nat} {r : Int32 × RS9} (C : CC X p l (RM 0 0 0) s m args meth c RX9 cX9_remembers 2 none) : ∀ (d : Nat) (v1 : Int32) (σ : RS9) (_ : mX9_remembers_l11 d v1 σ = some r), AW X p l e (RM 0 0 0) s m args below meth c 2 (ZM X below args s 0 0 (QMv f n r)) (rHm f σ) n 0 0 11 [some (.ref 181), some (.int v1)] [] := by
  intro d
  induction d with
  | zero =>
    intro v1 σ h
    exact nomatch (show (none : Option (Int32 × RS9)) = some r from h)
  | succ d ih =>
    intro v1 σ h
    have h : (if (30429 : Int32) ≤ v1 then mX9_remembers_b50 (rSf σ 5 ((σ.1 5) - (1 : Int32))) else rCk (rIn (v1 + (4347 : Int32)) (rLen 4)) (rCk (rIn v1 (rLen 4)) (mX9_remembers_l11 d (v1 + (1 : Int32)) (rSa σ 4 v1 (rGa σ 4 (v1 + (4347 : Int32))))))) = some r := h
    refine aw_iload_n C dX9_remembers_11 rfl ?_
    refine aw_sipush C 30429 dX9_remembers_12 ks_30429 ?_
    refine aw_icmp_ge C 40 dX9_remembers_15 (by decide) (fun q => ?_) (fun q => ?_)
    · rw [if_pos q] at h
      refine aw_ald_n C dX9_remembers_40 rfl ?_
      refine aw_dup C dX9_remembers_41 rfl ?_
      refine aw_get C (v := .int (σ.1 5)) gf_X9_325 (hm_M f σ) rfl dX9_remembers_42 ?_
      refine aw_iconst C 1 dX9_remembers_45 ki_1 ?_
      refine aw_isub C dX9_remembers_46 ?_
      refine am_put C gf_X9_325 nf9_5 rfl rfl dX9_remembers_47 ?_
      refine aw_fl [some (.ref 181), none] ⟨rfl, trivial⟩ ?_
      exact rmX9_remembers_b50 C h
    · rw [if_neg q] at h
      refine aw_ald_n C dX9_remembers_18 rfl ?_
      refine aw_get C (v := .ref (rAid 4)) gf_X9_20 (hm_M f σ) rfl dX9_remembers_19 ?_
      refine aw_iload_n C dX9_remembers_22 rfl ?_
      refine aw_ald_n C dX9_remembers_23 rfl ?_
      refine aw_get C (v := .ref (rAid 4)) gf_X9_20 (hm_M f σ) rfl dX9_remembers_24 ?_
      refine aw_iload_n C dX9_remembers_27 rfl ?_
      refine aw_sipush C 4347 dX9_remembers_28 ks_4347 ?_
      refine aw_iadd C dX9_remembers_31 ?_
      obtain ⟨hb1, h⟩ := ck_some h
      refine am_iald C (rGa σ 4 (v1 + (4347 : Int32))) rfl (inb_vp hb1) rfl dX9_remembers_32 ?_
      obtain ⟨hb2, h⟩ := ck_some h
      refine am_iast C rfl (inb_vp hb2) dX9_remembers_33 ?_
      refine aw_iinc C (v1 + (1 : Int32)) dX9_remembers_34 rfl (by rw [ki_1]) (by decide) rfl ?_
      refine aw_nl [some (.ref 181), some (.int (v1 + (1 : Int32)))] rfl ?_
      refine aw_goto C 11 dX9_remembers_37 (by decide) ?_
      refine aw_fl [some (.ref 181), some (.int (v1 + (1 : Int32)))] ⟨rfl, ⟨rfl, trivial⟩⟩ ?_
      exact ih (v1 + (1 : Int32)) (rSa σ 4 v1 (rGa σ 4 (v1 + (4347 : Int32)))) h
def mX9_remembers (σ : RS9) : Option (Int32 × RS9) := (if (σ.1 5) = (8 : Int32) then mX9_remembers_l11 rFU (0 : Int32) σ else mX9_remembers_b50 σ)
set_option maxHeartbeats 1000000 in
theorem rmX9_remembers {X : GX} {l : Launch} {f : AH} {n : Nat} {r : Int32 × RS9} {σ : RS9} (h : mX9_remembers σ = some r) : AM X l yX9_remembers cX9_remembers 2 none 0 0 0 [.ref 181] (rHm f σ) n (QMv f n r) := by
  have h : (if (σ.1 5) = (8 : Int32) then mX9_remembers_l11 rFU (0 : Int32) σ else mX9_remembers_b50 σ) = some r := h
  refine AM.of (by decide +kernel) rfl (Nat.le_of_ble_eq_true rfl) (fun p e s m args below meth c C _ => ?_)
  refine aw_nl [some (.ref 181), none] rfl ?_
  refine aw_ald_n C dX9_remembers_0 rfl ?_
  refine aw_get C (v := .int (σ.1 5)) gf_X9_325 (hm_M f σ) rfl dX9_remembers_1 ?_
  refine aw_bipush C 8 dX9_remembers_4 kb_8 ?_
  refine aw_icmp_ne C 50 dX9_remembers_6 (by decide) (fun q => ?_) (fun q => ?_)
  · rw [if_neg q] at h
    refine aw_fl [some (.ref 181), none] ⟨rfl, trivial⟩ ?_
    exact rmX9_remembers_b50 C h
  · rw [if_pos q] at h
    refine aw_iconst C 0 dX9_remembers_9 ki_0 ?_
    refine aw_istore_n C dX9_remembers_10 (by decide) rfl ?_
    refine aw_nl [some (.ref 181), some (.int (0 : Int32))] rfl ?_
    refine aw_fl [some (.ref 181), some (.int (0 : Int32))] ⟨rfl, ⟨rfl, trivial⟩⟩ ?_
    exact rmX9_remembers_l11 C rFU (0 : Int32) σ h
def mX9_isWord_b39 (v2 : Int32) (σ : RS9) : Option (Int32 × RS9) := rCk (rNb v2) (some (v2, σ))
set_option maxHeartbeats 1000000 in
theorem rmX9_isWord_b39 {X : GX} {p : Program} {l : Launch} {e : Env} {s : State} {m : MethodId} {args : Array Value} {below : List Frame} {meth : Method} {c : Code} {f : AH} {n : Nat} {r : Int32 × RS9} {v2 : Int32} {σ : RS9} (C : CC X p l (RM 1 0 0) s m args meth c RX9 cX9_isWord 4 (some .boolean)) (h : mX9_isWord_b39 v2 σ = some r) : AW X p l e (RM 1 0 0) s m args below meth c 4 (ZM X below args s 0 0 (QMi f n r)) (rHm f σ) n 0 0 39 [none, none, some (.int v2), none] [] := by
  have h : rCk (rNb v2) (some (v2, σ)) = some r := h
  refine aw_iload_n C dX9_isWord_39 rfl ?_
  obtain ⟨hb1, h⟩ := ck_some h
  cases h
  exact aw_iret C rfl (nb_nar hb1) dX9_isWord_40 (Nat.le_refl _) (Nat.le_refl _) ⟨rfl, rfl, rfl⟩
def mX9_isWord_l10 : Nat → Int32 → Int32 → Int32 → RS9 → Option (Int32 × RS9)
  | 0, _, _, _, _ => none
  | d + 1, v1, v2, v3, σ => (if v1 ≤ v3 then mX9_isWord_b39 v2 σ else (if v2 = (0 : Int32) then mX9_isWord_b39 v2 σ else rCk (rIn v3 (rLen 8)) (((mX9_isIn (rGa σ 8 v3) (97 : Int32) (122 : Int32) σ).bind fun r2 => mX9_isWord_l10 d v1 r2.1 (v3 + (1 : Int32)) r2.2))))
set_option maxHeartbeats 1000000 in
theorem rmX9_isWord_l10 {X : GX} {p : Program} {l : Launch} {e : Env} {s : State} {m : MethodId} {args : Array Value} {below : List Frame} {meth : Method} {c : Code} {f : AH} {n : Nat} {r : Int32 × RS9} (C : CC X p l (RM 1 0 0) s m args meth c RX9 cX9_isWord 4 (some .boolean)) : ∀ (d : Nat) (v1 : Int32) (v2 : Int32) (v3 : Int32) (σ : RS9) (_ : mX9_isWord_l10 d v1 v2 v3 σ = some r), AW X p l e (RM 1 0 0) s m args below meth c 4 (ZM X below args s 0 0 (QMi f n r)) (rHm f σ) n 0 0 10 [some (.ref 181), some (.int v1), some (.int v2), some (.int v3)] [] := by
  intro d
  induction d with
  | zero =>
    intro v1 v2 v3 σ h
    exact nomatch (show (none : Option (Int32 × RS9)) = some r from h)
  | succ d ih =>
    intro v1 v2 v3 σ h
    have h : (if v1 ≤ v3 then mX9_isWord_b39 v2 σ else (if v2 = (0 : Int32) then mX9_isWord_b39 v2 σ else rCk (rIn v3 (rLen 8)) (((mX9_isIn (rGa σ 8 v3) (97 : Int32) (122 : Int32) σ).bind fun r2 => mX9_isWord_l10 d v1 r2.1 (v3 + (1 : Int32)) r2.2)))) = some r := h
    refine aw_iload_n C dX9_isWord_10 rfl ?_
    refine aw_iload_n C dX9_isWord_11 rfl ?_
    refine aw_icmp_ge C 39 dX9_isWord_12 (by decide) (fun q => ?_) (fun q => ?_)
    · rw [if_pos q] at h
      refine aw_fl [none, none, some (.int v2), none] ⟨rfl, trivial⟩ ?_
      exact rmX9_isWord_b39 C h
    · rw [if_neg q] at h
      refine aw_iload_n C dX9_isWord_15 rfl ?_
      refine aw_if_eq C 39 dX9_isWord_16 (by decide) (fun q => ?_) (fun q => ?_)
      · rw [if_pos q] at h
        refine aw_fl [none, none, some (.int v2), none] ⟨rfl, trivial⟩ ?_
        exact rmX9_isWord_b39 C h
      · rw [if_neg q] at h
        refine aw_ald_n C dX9_isWord_19 rfl ?_
        refine aw_get C (v := .ref (rAid 8)) gf_X9_23 (hm_M f σ) rfl dX9_isWord_20 ?_
        refine aw_iload_n C dX9_isWord_23 rfl ?_
        obtain ⟨hb1, h⟩ := ck_some h
        refine am_iald C (rGa σ 8 v3) rfl (inb_vp hb1) rfl dX9_isWord_24 ?_
        refine aw_bipush C 97 dX9_isWord_25 kb_97 ?_
        refine aw_bipush C 122 dX9_isWord_27 kb_122 ?_
        obtain ⟨r2, h2, h⟩ := Option.bind_eq_some_iff.mp h
        refine aw_callS C [.int (rGa σ 8 v3), .int (97 : Int32), .int (122 : Int32)] ms_X9_141 (rmX9_isIn h2) rfl dX9_isWord_29 (Nat.le_of_ble_eq_true rfl) (Nat.le_of_ble_eq_true rfl) rfl (Nat.le_of_ble_eq_true rfl) (Nat.le_of_ble_eq_true rfl) (Nat.le_of_ble_eq_true rfl) (fun v9 f9 n9 hh => ?_)
        obtain ⟨rfl, rfl, rfl⟩ := hh
        refine aw_istore_n C dX9_isWord_32 (by decide) rfl ?_
        refine aw_nl [some (.ref 181), some (.int v1), some (.int r2.1), some (.int v3)] rfl ?_
        refine aw_iinc C (v3 + (1 : Int32)) dX9_isWord_33 rfl (by rw [ki_1]) (by decide) rfl ?_
        refine aw_nl [some (.ref 181), some (.int v1), some (.int r2.1), some (.int (v3 + (1 : Int32)))] rfl ?_
        refine aw_goto C 10 dX9_isWord_36 (by decide) ?_
        refine aw_fl [some (.ref 181), some (.int v1), some (.int r2.1), some (.int (v3 + (1 : Int32)))] ⟨rfl, ⟨rfl, ⟨rfl, ⟨rfl, trivial⟩⟩⟩⟩ ?_
        exact ih v1 r2.1 (v3 + (1 : Int32)) r2.2 h
def mX9_isWord (v1 : Int32) (σ : RS9) : Option (Int32 × RS9) := ((mX9_isIn v1 (1 : Int32) (8 : Int32) σ).bind fun r1 => mX9_isWord_l10 rFU v1 r1.1 (0 : Int32) r1.2)
set_option maxHeartbeats 1000000 in
theorem rmX9_isWord {X : GX} {l : Launch} {f : AH} {n : Nat} {r : Int32 × RS9} {v1 : Int32} {σ : RS9} (h : mX9_isWord v1 σ = some r) : AM X l yX9_isWord cX9_isWord 4 (some .boolean) 1 0 0 [.ref 181, .int v1] (rHm f σ) n (QMi f n r) := by
  have h : ((mX9_isIn v1 (1 : Int32) (8 : Int32) σ).bind fun r1 => mX9_isWord_l10 rFU v1 r1.1 (0 : Int32) r1.2) = some r := h
  refine AM.of (by decide +kernel) rfl (Nat.le_of_ble_eq_true rfl) (fun p e s m args below meth c C _ => ?_)
  refine aw_nl [some (.ref 181), some (.int v1), none, none] rfl ?_
  refine aw_iload_n C dX9_isWord_0 rfl ?_
  refine aw_iconst C 1 dX9_isWord_1 ki_1 ?_
  refine aw_bipush C 8 dX9_isWord_2 kb_8 ?_
  obtain ⟨r1, h1, h⟩ := Option.bind_eq_some_iff.mp h
  refine aw_callS C [.int v1, .int (1 : Int32), .int (8 : Int32)] ms_X9_141 (rmX9_isIn h1) rfl dX9_isWord_4 (Nat.le_of_ble_eq_true rfl) (Nat.le_of_ble_eq_true rfl) rfl (Nat.le_of_ble_eq_true rfl) (Nat.le_of_ble_eq_true rfl) (Nat.le_of_ble_eq_true rfl) (fun v9 f9 n9 hh => ?_)
  obtain ⟨rfl, rfl, rfl⟩ := hh
  refine aw_istore_n C dX9_isWord_7 (by decide) rfl ?_
  refine aw_nl [some (.ref 181), some (.int v1), some (.int r1.1), none] rfl ?_
  refine aw_iconst C 0 dX9_isWord_8 ki_0 ?_
  refine aw_istore_n C dX9_isWord_9 (by decide) rfl ?_
  refine aw_nl [some (.ref 181), some (.int v1), some (.int r1.1), some (.int (0 : Int32))] rfl ?_
  refine aw_fl [some (.ref 181), some (.int v1), some (.int r1.1), some (.int (0 : Int32))] ⟨rfl, ⟨rfl, ⟨rfl, ⟨rfl, trivial⟩⟩⟩⟩ ?_
  exact rmX9_isWord_l10 C rFU v1 r1.1 (0 : Int32) r1.2 h
def mX9_tookTold_b36 (v1 : Int32) (σ : RS9) : Option (Int32 × RS9) := some (v1, σ)
set_option maxHeartbeats 1000000 in
theorem rmX9_tookTold_b36 {X : GX} {p : Program} {l : Launch} {e : Env} {s : State} {m : MethodId} {args : Array Value} {below : List Frame} {meth : Method} {c : Code} {f : AH} {n : Nat} {r : Int32 × RS9} {v1 : Int32} {σ : RS9} (C : CC X p l (RM 1 0 0) s m args meth c RX9 cX9_tookTold 3 (some .int)) (h : mX9_tookTold_b36 v1 σ = some r) : AW X p l e (RM 1 0 0) s m args below meth c 3 (ZM X below args s 0 0 (QMi f n r)) (rHm f σ) n 0 0 36 [none, some (.int v1), none] [] := by
  have h : some (v1, σ) = some r := h
  refine aw_iload_n C dX9_tookTold_36 rfl ?_
  cases h
  exact aw_iret C rfl rfl dX9_tookTold_37 (Nat.le_refl _) (Nat.le_refl _) ⟨rfl, rfl, rfl⟩
def mX9_tookTold_l7 : Nat → Int32 → Int32 → RS9 → Option (Int32 × RS9)
  | 0, _, _, _ => none
  | d + 1, v1, v2, σ => (if v1 ≤ v2 then mX9_tookTold_b36 v1 σ else (if (60 : Int32) < v1 then mX9_tookTold_b36 v1 σ else rCk (rIn v2 (rLen 8)) (rCk (rIn v2 (rLen 53)) (mX9_tookTold_l7 d v1 (v2 + (1 : Int32)) (rSa σ 53 v2 (rGa σ 8 v2))))))
set_option maxHeartbeats 1000000 in
theorem rmX9_tookTold_l7 {X : GX} {p : Program} {l : Launch} {e : Env} {s : State} {m : MethodId} {args : Array Value} {below : List Frame} {meth : Method} {c : Code} {f : AH} {n : Nat} {r : Int32 × RS9} (C : CC X p l (RM 1 0 0) s m args meth c RX9 cX9_tookTold 3 (some .int)) : ∀ (d : Nat) (v1 : Int32) (v2 : Int32) (σ : RS9) (_ : mX9_tookTold_l7 d v1 v2 σ = some r), AW X p l e (RM 1 0 0) s m args below meth c 3 (ZM X below args s 0 0 (QMi f n r)) (rHm f σ) n 0 0 7 [some (.ref 181), some (.int v1), some (.int v2)] [] := by
  intro d
  induction d with
  | zero =>
    intro v1 v2 σ h
    exact nomatch (show (none : Option (Int32 × RS9)) = some r from h)
  | succ d ih =>
    intro v1 v2 σ h
    have h : (if v1 ≤ v2 then mX9_tookTold_b36 v1 σ else (if (60 : Int32) < v1 then mX9_tookTold_b36 v1 σ else rCk (rIn v2 (rLen 8)) (rCk (rIn v2 (rLen 53)) (mX9_tookTold_l7 d v1 (v2 + (1 : Int32)) (rSa σ 53 v2 (rGa σ 8 v2)))))) = some r := h
    refine aw_iload_n C dX9_tookTold_7 rfl ?_
    refine aw_iload_n C dX9_tookTold_8 rfl ?_
    refine aw_icmp_ge C 36 dX9_tookTold_9 (by decide) (fun q => ?_) (fun q => ?_)
    · rw [if_pos q] at h
      refine aw_fl [none, some (.int v1), none] ⟨rfl, trivial⟩ ?_
      exact rmX9_tookTold_b36 C h
    · rw [if_neg q] at h
      refine aw_iload_n C dX9_tookTold_12 rfl ?_
      refine aw_bipush C 60 dX9_tookTold_13 kb_60 ?_
      refine aw_icmp_gt C 36 dX9_tookTold_15 (by decide) (fun q => ?_) (fun q => ?_)
      · rw [if_pos q] at h
        refine aw_fl [none, some (.int v1), none] ⟨rfl, trivial⟩ ?_
        exact rmX9_tookTold_b36 C h
      · rw [if_neg q] at h
        refine aw_ald_n C dX9_tookTold_18 rfl ?_
        refine aw_get C (v := .ref (rAid 53)) gf_X9_132 (hm_M f σ) rfl dX9_tookTold_19 ?_
        refine aw_iload_n C dX9_tookTold_22 rfl ?_
        refine aw_ald_n C dX9_tookTold_23 rfl ?_
        refine aw_get C (v := .ref (rAid 8)) gf_X9_23 (hm_M f σ) rfl dX9_tookTold_24 ?_
        refine aw_iload_n C dX9_tookTold_27 rfl ?_
        obtain ⟨hb1, h⟩ := ck_some h
        refine am_iald C (rGa σ 8 v2) rfl (inb_vp hb1) rfl dX9_tookTold_28 ?_
        obtain ⟨hb2, h⟩ := ck_some h
        refine am_iast C rfl (inb_vp hb2) dX9_tookTold_29 ?_
        refine aw_iinc C (v2 + (1 : Int32)) dX9_tookTold_30 rfl (by rw [ki_1]) (by decide) rfl ?_
        refine aw_nl [some (.ref 181), some (.int v1), some (.int (v2 + (1 : Int32)))] rfl ?_
        refine aw_goto C 7 dX9_tookTold_33 (by decide) ?_
        refine aw_fl [some (.ref 181), some (.int v1), some (.int (v2 + (1 : Int32)))] ⟨rfl, ⟨rfl, ⟨rfl, trivial⟩⟩⟩ ?_
        exact ih v1 (v2 + (1 : Int32)) (rSa σ 53 v2 (rGa σ 8 v2)) h
def mX9_tookTold (σ : RS9) : Option (Int32 × RS9) := ((mX9_took σ).bind fun r1 => mX9_tookTold_l7 rFU r1.1 (0 : Int32) r1.2)
set_option maxHeartbeats 1000000 in
theorem rmX9_tookTold {X : GX} {l : Launch} {f : AH} {n : Nat} {r : Int32 × RS9} {σ : RS9} (h : mX9_tookTold σ = some r) : AM X l yX9_tookTold cX9_tookTold 3 (some .int) 1 0 0 [.ref 181] (rHm f σ) n (QMi f n r) := by
  have h : ((mX9_took σ).bind fun r1 => mX9_tookTold_l7 rFU r1.1 (0 : Int32) r1.2) = some r := h
  refine AM.of (by decide +kernel) rfl (Nat.le_of_ble_eq_true rfl) (fun p e s m args below meth c C _ => ?_)
  refine aw_nl [some (.ref 181), none, none] rfl ?_
  refine aw_ald_n C dX9_tookTold_0 rfl ?_
  obtain ⟨r1, h1, h⟩ := Option.bind_eq_some_iff.mp h
  refine aw_callV C (ci := 9) (b := 181) [] mv_X9_426 rfl rfl (hm_M f σ) (rmX9_took h1) rfl dX9_tookTold_1 (Nat.le_of_ble_eq_true rfl) (Nat.le_of_ble_eq_true rfl) rfl (Nat.le_of_ble_eq_true rfl) (Nat.le_of_ble_eq_true rfl) (Nat.le_of_ble_eq_true rfl) (fun v9 f9 n9 hh => ?_)
  obtain ⟨rfl, rfl, rfl⟩ := hh
  refine aw_istore_n C dX9_tookTold_4 (by decide) rfl ?_
  refine aw_nl [some (.ref 181), some (.int r1.1), none] rfl ?_
  refine aw_iconst C 0 dX9_tookTold_5 ki_0 ?_
  refine aw_istore_n C dX9_tookTold_6 (by decide) rfl ?_
  refine aw_nl [some (.ref 181), some (.int r1.1), some (.int (0 : Int32))] rfl ?_
  refine aw_fl [some (.ref 181), some (.int r1.1), some (.int (0 : Int32))] ⟨rfl, ⟨rfl, ⟨rfl, trivial⟩⟩⟩ ?_
  exact rmX9_tookTold_l7 C rFU r1.1 (0 : Int32) r1.2 h
def mX9_remembersPair_b160 (σ : RS9) : Option (Int32 × RS9) := some ((0 : Int32), σ)
set_option maxHeartbeats 1000000 in
theorem rmX9_remembersPair_b160 {X : GX} {p : Program} {l : Launch} {e : Env} {s : State} {m : MethodId} {args : Array Value} {below : List Frame} {meth : Method} {c : Code} {f : AH} {n : Nat} {r : Int32 × RS9} {σ : RS9} (C : CC X p l (RM 0 0 0) s m args meth c RX9 cX9_remembersPair 4 none) (h : mX9_remembersPair_b160 σ = some r) : AW X p l e (RM 0 0 0) s m args below meth c 4 (ZM X below args s 0 0 (QMv f n r)) (rHm f σ) n 0 0 160 [none, none, none, none] [] := by
  have h : some ((0 : Int32), σ) = some r := h
  cases h
  exact aw_vret C rfl dX9_remembersPair_160 (Nat.le_refl _) (Nat.le_refl _) ⟨rfl, rfl, rfl⟩
def mX9_remembersPair_l110 : Nat → Int32 → Int32 → RS9 → Option (Int32 × RS9)
  | 0, _, _, _ => none
  | d + 1, v2, v3, σ => (if v2 ≤ v3 then rCk (rIn (42 : Int32) (rLen 1)) ((if (12 : Int32) ≤ (rGa σ 1 (42 : Int32)) then mX9_remembersPair_b160 σ else rCk (rIn (42 : Int32) (rLen 1)) (rCk (rIn (42 : Int32) (rLen 1)) (mX9_remembersPair_b160 (rSa σ 1 (42 : Int32) ((rGa σ 1 (42 : Int32)) + (1 : Int32))))))) else rCk (rIn v3 (rLen 53)) (rCk (rIn ((2945 : Int32) + v3) (rLen 1)) (mX9_remembersPair_l110 d v2 (v3 + (1 : Int32)) (rSa σ 1 ((2945 : Int32) + v3) (rGa σ 53 v3)))))
set_option maxHeartbeats 1000000 in
theorem rmX9_remembersPair_l110 {X : GX} {p : Program} {l : Launch} {e : Env} {s : State} {m : MethodId} {args : Array Value} {below : List Frame} {meth : Method} {c : Code} {f : AH} {n : Nat} {r : Int32 × RS9} (C : CC X p l (RM 0 0 0) s m args meth c RX9 cX9_remembersPair 4 none) : ∀ (d : Nat) (v2 : Int32) (v3 : Int32) (σ : RS9) (_ : mX9_remembersPair_l110 d v2 v3 σ = some r), AW X p l e (RM 0 0 0) s m args below meth c 4 (ZM X below args s 0 0 (QMv f n r)) (rHm f σ) n 0 0 110 [some (.ref 181), none, some (.int v2), some (.int v3)] [] := by
  intro d
  induction d with
  | zero =>
    intro v2 v3 σ h
    exact nomatch (show (none : Option (Int32 × RS9)) = some r from h)
  | succ d ih =>
    intro v2 v3 σ h
    have h : (if v2 ≤ v3 then rCk (rIn (42 : Int32) (rLen 1)) ((if (12 : Int32) ≤ (rGa σ 1 (42 : Int32)) then mX9_remembersPair_b160 σ else rCk (rIn (42 : Int32) (rLen 1)) (rCk (rIn (42 : Int32) (rLen 1)) (mX9_remembersPair_b160 (rSa σ 1 (42 : Int32) ((rGa σ 1 (42 : Int32)) + (1 : Int32))))))) else rCk (rIn v3 (rLen 53)) (rCk (rIn ((2945 : Int32) + v3) (rLen 1)) (mX9_remembersPair_l110 d v2 (v3 + (1 : Int32)) (rSa σ 1 ((2945 : Int32) + v3) (rGa σ 53 v3))))) = some r := h
    refine aw_iload_n C dX9_remembersPair_110 rfl ?_
    refine aw_iload_n C dX9_remembersPair_111 rfl ?_
    refine aw_icmp_ge C 137 dX9_remembersPair_112 (by decide) (fun q => ?_) (fun q => ?_)
    · rw [if_pos q] at h
      refine aw_ald_n C dX9_remembersPair_137 rfl ?_
      refine aw_get C (v := .ref (rAid 1)) gf_X9_7 (hm_M f σ) rfl dX9_remembersPair_138 ?_
      refine aw_bipush C 42 dX9_remembersPair_141 kb_42 ?_
      obtain ⟨hb1, h⟩ := ck_some h
      refine am_iald C (rGa σ 1 (42 : Int32)) rfl (inb_vp hb1) rfl dX9_remembersPair_143 ?_
      refine aw_bipush C 12 dX9_remembersPair_144 kb_12 ?_
      refine aw_icmp_ge C 160 dX9_remembersPair_146 (by decide) (fun q => ?_) (fun q => ?_)
      · rw [if_pos q] at h
        refine aw_fl [none, none, none, none] trivial ?_
        exact rmX9_remembersPair_b160 C h
      · rw [if_neg q] at h
        refine aw_ald_n C dX9_remembersPair_149 rfl ?_
        refine aw_get C (v := .ref (rAid 1)) gf_X9_7 (hm_M f σ) rfl dX9_remembersPair_150 ?_
        refine aw_bipush C 42 dX9_remembersPair_153 kb_42 ?_
        refine aw_dup2 C dX9_remembersPair_155 rfl rfl ?_
        obtain ⟨hb2, h⟩ := ck_some h
        refine am_iald C (rGa σ 1 (42 : Int32)) rfl (inb_vp hb2) rfl dX9_remembersPair_156 ?_
        refine aw_iconst C 1 dX9_remembersPair_157 ki_1 ?_
        refine aw_iadd C dX9_remembersPair_158 ?_
        obtain ⟨hb3, h⟩ := ck_some h
        refine am_iast C rfl (inb_vp hb3) dX9_remembersPair_159 ?_
        refine aw_fl [none, none, none, none] trivial ?_
        exact rmX9_remembersPair_b160 C h
    · rw [if_neg q] at h
      refine aw_ald_n C dX9_remembersPair_115 rfl ?_
      refine aw_get C (v := .ref (rAid 1)) gf_X9_7 (hm_M f σ) rfl dX9_remembersPair_116 ?_
      refine aw_sipush C 2945 dX9_remembersPair_119 ks_2945 ?_
      refine aw_iload_n C dX9_remembersPair_122 rfl ?_
      refine aw_iadd C dX9_remembersPair_123 ?_
      refine aw_ald_n C dX9_remembersPair_124 rfl ?_
      refine aw_get C (v := .ref (rAid 53)) gf_X9_132 (hm_M f σ) rfl dX9_remembersPair_125 ?_
      refine aw_iload_n C dX9_remembersPair_128 rfl ?_
      obtain ⟨hb4, h⟩ := ck_some h
      refine am_iald C (rGa σ 53 v3) rfl (inb_vp hb4) rfl dX9_remembersPair_129 ?_
      obtain ⟨hb5, h⟩ := ck_some h
      refine am_iast C rfl (inb_vp hb5) dX9_remembersPair_130 ?_
      refine aw_iinc C (v3 + (1 : Int32)) dX9_remembersPair_131 rfl (by rw [ki_1]) (by decide) rfl ?_
      refine aw_nl [some (.ref 181), none, some (.int v2), some (.int (v3 + (1 : Int32)))] rfl ?_
      refine aw_goto C 110 dX9_remembersPair_134 (by decide) ?_
      refine aw_fl [some (.ref 181), none, some (.int v2), some (.int (v3 + (1 : Int32)))] ⟨rfl, ⟨rfl, ⟨rfl, trivial⟩⟩⟩ ?_
      exact ih v2 (v3 + (1 : Int32)) (rSa σ 1 ((2945 : Int32) + v3) (rGa σ 53 v3)) h
def mX9_remembersPair_l60 : Nat → Int32 → Int32 → Int32 → RS9 → Option (Int32 × RS9)
  | 0, _, _, _, _ => none
  | d + 1, v1, v2, v3, σ => rCk (rIn v1 (rLen 42)) ((if (rGa σ 42 v1) ≤ v3 then rCk (rIn (2944 : Int32) (rLen 1)) (mX9_remembersPair_l110 rFU v2 (0 : Int32) (rSa σ 1 (2944 : Int32) v2)) else rCk (rIn v1 (rLen 41)) (rCk (rIn ((rGa σ 41 v1) + v3) (rLen 43)) (rCk (rIn ((2884 : Int32) + v3) (rLen 1)) (mX9_remembersPair_l60 d v1 v2 (v3 + (1 : Int32)) (rSa σ 1 ((2884 : Int32) + v3) (rGa σ 43 ((rGa σ 41 v1) + v3))))))))
set_option maxHeartbeats 1000000 in
theorem rmX9_remembersPair_l60 {X : GX} {p : Program} {l : Launch} {e : Env} {s : State} {m : MethodId} {args : Array Value} {below : List Frame} {meth : Method} {c : Code} {f : AH} {n : Nat} {r : Int32 × RS9} (C : CC X p l (RM 0 0 0) s m args meth c RX9 cX9_remembersPair 4 none) : ∀ (d : Nat) (v1 : Int32) (v2 : Int32) (v3 : Int32) (σ : RS9) (_ : mX9_remembersPair_l60 d v1 v2 v3 σ = some r), AW X p l e (RM 0 0 0) s m args below meth c 4 (ZM X below args s 0 0 (QMv f n r)) (rHm f σ) n 0 0 60 [some (.ref 181), some (.int v1), some (.int v2), some (.int v3)] [] := by
  intro d
  induction d with
  | zero =>
    intro v1 v2 v3 σ h
    exact nomatch (show (none : Option (Int32 × RS9)) = some r from h)
  | succ d ih =>
    intro v1 v2 v3 σ h
    have h : rCk (rIn v1 (rLen 42)) ((if (rGa σ 42 v1) ≤ v3 then rCk (rIn (2944 : Int32) (rLen 1)) (mX9_remembersPair_l110 rFU v2 (0 : Int32) (rSa σ 1 (2944 : Int32) v2)) else rCk (rIn v1 (rLen 41)) (rCk (rIn ((rGa σ 41 v1) + v3) (rLen 43)) (rCk (rIn ((2884 : Int32) + v3) (rLen 1)) (mX9_remembersPair_l60 d v1 v2 (v3 + (1 : Int32)) (rSa σ 1 ((2884 : Int32) + v3) (rGa σ 43 ((rGa σ 41 v1) + v3)))))))) = some r := h
    refine aw_iload_n C dX9_remembersPair_60 rfl ?_
    refine aw_ald_n C dX9_remembersPair_61 rfl ?_
    refine aw_get C (v := .ref (rAid 42)) gf_X9_105 (hm_M f σ) rfl dX9_remembersPair_62 ?_
    refine aw_iload_n C dX9_remembersPair_65 rfl ?_
    obtain ⟨hb1, h⟩ := ck_some h
    refine am_iald C (rGa σ 42 v1) rfl (inb_vp hb1) rfl dX9_remembersPair_66 ?_
    refine aw_icmp_ge C 99 dX9_remembersPair_67 (by decide) (fun q => ?_) (fun q => ?_)
    · rw [if_pos q] at h
      refine aw_ald_n C dX9_remembersPair_99 rfl ?_
      refine aw_get C (v := .ref (rAid 1)) gf_X9_7 (hm_M f σ) rfl dX9_remembersPair_100 ?_
      refine aw_sipush C 2944 dX9_remembersPair_103 ks_2944 ?_
      refine aw_iload_n C dX9_remembersPair_106 rfl ?_
      obtain ⟨hb2, h⟩ := ck_some h
      refine am_iast C rfl (inb_vp hb2) dX9_remembersPair_107 ?_
      refine aw_iconst C 0 dX9_remembersPair_108 ki_0 ?_
      refine aw_istore_n C dX9_remembersPair_109 (by decide) rfl ?_
      refine aw_nl [some (.ref 181), some (.int v1), some (.int v2), some (.int (0 : Int32))] rfl ?_
      refine aw_fl [some (.ref 181), none, some (.int v2), some (.int (0 : Int32))] ⟨rfl, ⟨rfl, ⟨rfl, trivial⟩⟩⟩ ?_
      exact rmX9_remembersPair_l110 C rFU v2 (0 : Int32) (rSa σ 1 (2944 : Int32) v2) h
    · rw [if_neg q] at h
      refine aw_ald_n C dX9_remembersPair_70 rfl ?_
      refine aw_get C (v := .ref (rAid 1)) gf_X9_7 (hm_M f σ) rfl dX9_remembersPair_71 ?_
      refine aw_sipush C 2884 dX9_remembersPair_74 ks_2884 ?_
      refine aw_iload_n C dX9_remembersPair_77 rfl ?_
      refine aw_iadd C dX9_remembersPair_78 ?_
      refine aw_ald_n C dX9_remembersPair_79 rfl ?_
      refine aw_get C (v := .ref (rAid 43)) gf_X9_108 (hm_M f σ) rfl dX9_remembersPair_80 ?_
      refine aw_ald_n C dX9_remembersPair_83 rfl ?_
      refine aw_get C (v := .ref (rAid 41)) gf_X9_102 (hm_M f σ) rfl dX9_remembersPair_84 ?_
      refine aw_iload_n C dX9_remembersPair_87 rfl ?_
      obtain ⟨hb3, h⟩ := ck_some h
      refine am_iald C (rGa σ 41 v1) rfl (inb_vp hb3) rfl dX9_remembersPair_88 ?_
      refine aw_iload_n C dX9_remembersPair_89 rfl ?_
      refine aw_iadd C dX9_remembersPair_90 ?_
      obtain ⟨hb4, h⟩ := ck_some h
      refine am_iald C (rGa σ 43 ((rGa σ 41 v1) + v3)) rfl (inb_vp hb4) rfl dX9_remembersPair_91 ?_
      obtain ⟨hb5, h⟩ := ck_some h
      refine am_iast C rfl (inb_vp hb5) dX9_remembersPair_92 ?_
      refine aw_iinc C (v3 + (1 : Int32)) dX9_remembersPair_93 rfl (by rw [ki_1]) (by decide) rfl ?_
      refine aw_nl [some (.ref 181), some (.int v1), some (.int v2), some (.int (v3 + (1 : Int32)))] rfl ?_
      refine aw_goto C 60 dX9_remembersPair_96 (by decide) ?_
      refine aw_fl [some (.ref 181), some (.int v1), some (.int v2), some (.int (v3 + (1 : Int32)))] ⟨rfl, ⟨rfl, ⟨rfl, ⟨rfl, trivial⟩⟩⟩⟩ ?_
      exact ih v1 v2 (v3 + (1 : Int32)) (rSa σ 1 ((2884 : Int32) + v3) (rGa σ 43 ((rGa σ 41 v1) + v3))) h
def mX9_remembersPair_l16 : Nat → Int32 → Int32 → Int32 → RS9 → Option (Int32 × RS9)
  | 0, _, _, _, _ => none
  | d + 1, v1, v2, v3, σ => (if v3 < (3005 : Int32) then rCk (rIn v1 (rLen 42)) (rCk (rIn (2883 : Int32) (rLen 1)) (mX9_remembersPair_l60 rFU v1 v2 (0 : Int32) (rSa σ 1 (2883 : Int32) (rGa σ 42 v1)))) else rCk (rIn (v3 - (122 : Int32)) (rLen 1)) (rCk (rIn v3 (rLen 1)) (mX9_remembersPair_l16 d v1 v2 (v3 + (-1 : Int32)) (rSa σ 1 v3 (rGa σ 1 (v3 - (122 : Int32)))))))
set_option maxHeartbeats 1000000 in
theorem rmX9_remembersPair_l16 {X : GX} {p : Program} {l : Launch} {e : Env} {s : State} {m : MethodId} {args : Array Value} {below : List Frame} {meth : Method} {c : Code} {f : AH} {n : Nat} {r : Int32 × RS9} (C : CC X p l (RM 0 0 0) s m args meth c RX9 cX9_remembersPair 4 none) : ∀ (d : Nat) (v1 : Int32) (v2 : Int32) (v3 : Int32) (σ : RS9) (_ : mX9_remembersPair_l16 d v1 v2 v3 σ = some r), AW X p l e (RM 0 0 0) s m args below meth c 4 (ZM X below args s 0 0 (QMv f n r)) (rHm f σ) n 0 0 16 [some (.ref 181), some (.int v1), some (.int v2), some (.int v3)] [] := by
  intro d
  induction d with
  | zero =>
    intro v1 v2 v3 σ h
    exact nomatch (show (none : Option (Int32 × RS9)) = some r from h)
  | succ d ih =>
    intro v1 v2 v3 σ h
    have h : (if v3 < (3005 : Int32) then rCk (rIn v1 (rLen 42)) (rCk (rIn (2883 : Int32) (rLen 1)) (mX9_remembersPair_l60 rFU v1 v2 (0 : Int32) (rSa σ 1 (2883 : Int32) (rGa σ 42 v1)))) else rCk (rIn (v3 - (122 : Int32)) (rLen 1)) (rCk (rIn v3 (rLen 1)) (mX9_remembersPair_l16 d v1 v2 (v3 + (-1 : Int32)) (rSa σ 1 v3 (rGa σ 1 (v3 - (122 : Int32))))))) = some r := h
    refine aw_iload_n C dX9_remembersPair_16 rfl ?_
    refine aw_sipush C 3005 dX9_remembersPair_17 ks_3005 ?_
    refine aw_icmp_lt C 44 dX9_remembersPair_20 (by decide) (fun q => ?_) (fun q => ?_)
    · rw [if_pos q] at h
      refine aw_ald_n C dX9_remembersPair_44 rfl ?_
      refine aw_get C (v := .ref (rAid 1)) gf_X9_7 (hm_M f σ) rfl dX9_remembersPair_45 ?_
      refine aw_sipush C 2883 dX9_remembersPair_48 ks_2883 ?_
      refine aw_ald_n C dX9_remembersPair_51 rfl ?_
      refine aw_get C (v := .ref (rAid 42)) gf_X9_105 (hm_M f σ) rfl dX9_remembersPair_52 ?_
      refine aw_iload_n C dX9_remembersPair_55 rfl ?_
      obtain ⟨hb1, h⟩ := ck_some h
      refine am_iald C (rGa σ 42 v1) rfl (inb_vp hb1) rfl dX9_remembersPair_56 ?_
      obtain ⟨hb2, h⟩ := ck_some h
      refine am_iast C rfl (inb_vp hb2) dX9_remembersPair_57 ?_
      refine aw_iconst C 0 dX9_remembersPair_58 ki_0 ?_
      refine aw_istore_n C dX9_remembersPair_59 (by decide) rfl ?_
      refine aw_nl [some (.ref 181), some (.int v1), some (.int v2), some (.int (0 : Int32))] rfl ?_
      refine aw_fl [some (.ref 181), some (.int v1), some (.int v2), some (.int (0 : Int32))] ⟨rfl, ⟨rfl, ⟨rfl, ⟨rfl, trivial⟩⟩⟩⟩ ?_
      exact rmX9_remembersPair_l60 C rFU v1 v2 (0 : Int32) (rSa σ 1 (2883 : Int32) (rGa σ 42 v1)) h
    · rw [if_neg q] at h
      refine aw_ald_n C dX9_remembersPair_23 rfl ?_
      refine aw_get C (v := .ref (rAid 1)) gf_X9_7 (hm_M f σ) rfl dX9_remembersPair_24 ?_
      refine aw_iload_n C dX9_remembersPair_27 rfl ?_
      refine aw_ald_n C dX9_remembersPair_28 rfl ?_
      refine aw_get C (v := .ref (rAid 1)) gf_X9_7 (hm_M f σ) rfl dX9_remembersPair_29 ?_
      refine aw_iload_n C dX9_remembersPair_32 rfl ?_
      refine aw_bipush C 122 dX9_remembersPair_33 kb_122 ?_
      refine aw_isub C dX9_remembersPair_35 ?_
      obtain ⟨hb3, h⟩ := ck_some h
      refine am_iald C (rGa σ 1 (v3 - (122 : Int32))) rfl (inb_vp hb3) rfl dX9_remembersPair_36 ?_
      obtain ⟨hb4, h⟩ := ck_some h
      refine am_iast C rfl (inb_vp hb4) dX9_remembersPair_37 ?_
      refine aw_iinc C (v3 + (-1 : Int32)) dX9_remembersPair_38 rfl (by rw [ki_m1]) (by decide) rfl ?_
      refine aw_nl [some (.ref 181), some (.int v1), some (.int v2), some (.int (v3 + (-1 : Int32)))] rfl ?_
      refine aw_goto C 16 dX9_remembersPair_41 (by decide) ?_
      refine aw_fl [some (.ref 181), some (.int v1), some (.int v2), some (.int (v3 + (-1 : Int32)))] ⟨rfl, ⟨rfl, ⟨rfl, ⟨rfl, trivial⟩⟩⟩⟩ ?_
      exact ih v1 v2 (v3 + (-1 : Int32)) (rSa σ 1 v3 (rGa σ 1 (v3 - (122 : Int32)))) h
def mX9_remembersPair (v1 : Int32) (v2 : Int32) (σ : RS9) : Option (Int32 × RS9) := rCk (rIn v1 (rLen 42)) ((if (rGa σ 42 v1) ≤ (60 : Int32) then mX9_remembersPair_l16 rFU v1 v2 (4346 : Int32) σ else some ((0 : Int32), σ)))
set_option maxHeartbeats 1000000 in
theorem rmX9_remembersPair {X : GX} {l : Launch} {f : AH} {n : Nat} {r : Int32 × RS9} {v1 : Int32} {v2 : Int32} {σ : RS9} (h : mX9_remembersPair v1 v2 σ = some r) : AM X l yX9_remembersPair cX9_remembersPair 4 none 0 0 0 [.ref 181, .int v1, .int v2] (rHm f σ) n (QMv f n r) := by
  have h : rCk (rIn v1 (rLen 42)) ((if (rGa σ 42 v1) ≤ (60 : Int32) then mX9_remembersPair_l16 rFU v1 v2 (4346 : Int32) σ else some ((0 : Int32), σ))) = some r := h
  refine AM.of (by decide +kernel) rfl (Nat.le_of_ble_eq_true rfl) (fun p e s m args below meth c C _ => ?_)
  refine aw_nl [some (.ref 181), some (.int v1), some (.int v2), none] rfl ?_
  refine aw_ald_n C dX9_remembersPair_0 rfl ?_
  refine aw_get C (v := .ref (rAid 42)) gf_X9_105 (hm_M f σ) rfl dX9_remembersPair_1 ?_
  refine aw_iload_n C dX9_remembersPair_4 rfl ?_
  obtain ⟨hb1, h⟩ := ck_some h
  refine am_iald C (rGa σ 42 v1) rfl (inb_vp hb1) rfl dX9_remembersPair_5 ?_
  refine aw_bipush C 60 dX9_remembersPair_6 kb_60 ?_
  refine aw_icmp_le C 12 dX9_remembersPair_8 (by decide) (fun q => ?_) (fun q => ?_)
  · rw [if_pos q] at h
    refine aw_sipush C 4346 dX9_remembersPair_12 ks_4346 ?_
    refine aw_istore_n C dX9_remembersPair_15 (by decide) rfl ?_
    refine aw_nl [some (.ref 181), some (.int v1), some (.int v2), some (.int (4346 : Int32))] rfl ?_
    refine aw_fl [some (.ref 181), some (.int v1), some (.int v2), some (.int (4346 : Int32))] ⟨rfl, ⟨rfl, ⟨rfl, ⟨rfl, trivial⟩⟩⟩⟩ ?_
    exact rmX9_remembersPair_l16 C rFU v1 v2 (4346 : Int32) σ h
  · rw [if_neg q] at h
    cases h
    exact aw_vret C rfl dX9_remembersPair_11 (Nat.le_refl _) (Nat.le_refl _) ⟨rfl, rfl, rfl⟩
def mX9_likeMany_b27 (rec4 : Int32 → Int32 → Int32 → RS9 → Option (Int32 × RS9)) (v1 : Int32) (v3 : Int32) (s0 : Int32) (s1 : Int32) (σ : RS9) : Option (Int32 × RS9) := rec4 v1 (s0 + s1) (v3 + (1 : Int32)) σ
set_option maxHeartbeats 1000000 in
theorem rmX9_likeMany_b27 {X : GX} {p : Program} {l : Launch} {e : Env} {s : State} {m : MethodId} {args : Array Value} {below : List Frame} {meth : Method} {c : Code} {f : AH} {n : Nat} {r : Int32 × RS9} {rec4 : Int32 → Int32 → Int32 → RS9 → Option (Int32 × RS9)} {v1 : Int32} {v3 : Int32} {s0 : Int32} {s1 : Int32} {σ : RS9} (C : CC X p l (RM 1 0 0) s m args meth c RX9 cX9_likeMany 4 (some .int)) (Hr4 : ∀ (v1 : Int32) (v2 : Int32) (v3 : Int32) (σ : RS9), rec4 v1 v2 v3 σ = some r → AW X p l e (RM 1 0 0) s m args below meth c 4 (ZM X below args s 0 0 (QMi f n r)) (rHm f σ) n 0 0 4 [some (.ref 181), some (.int v1), some (.int v2), some (.int v3)] []) (h : mX9_likeMany_b27 rec4 v1 v3 s0 s1 σ = some r) : AW X p l e (RM 1 0 0) s m args below meth c 4 (ZM X below args s 0 0 (QMi f n r)) (rHm f σ) n 0 0 27 [some (.ref 181), some (.int v1), none, some (.int v3)] [.int s1, .int s0] := by
  have h : rec4 v1 (s0 + s1) (v3 + (1 : Int32)) σ = some r := h
  refine aw_iadd C dX9_likeMany_27 ?_
  refine aw_istore_n C dX9_likeMany_28 (by decide) rfl ?_
  refine aw_nl [some (.ref 181), some (.int v1), some (.int (s0 + s1)), some (.int v3)] rfl ?_
  refine aw_iinc C (v3 + (1 : Int32)) dX9_likeMany_29 rfl (by rw [ki_1]) (by decide) rfl ?_
  refine aw_nl [some (.ref 181), some (.int v1), some (.int (s0 + s1)), some (.int (v3 + (1 : Int32)))] rfl ?_
  refine aw_goto C 4 dX9_likeMany_32 (by decide) ?_
  refine aw_fl [some (.ref 181), some (.int v1), some (.int (s0 + s1)), some (.int (v3 + (1 : Int32)))] ⟨rfl, ⟨rfl, ⟨rfl, ⟨rfl, trivial⟩⟩⟩⟩ ?_
  exact Hr4 v1 (s0 + s1) (v3 + (1 : Int32)) σ h
def mX9_likeMany_l4 : Nat → Int32 → Int32 → Int32 → RS9 → Option (Int32 × RS9)
  | 0, _, _, _, _ => none
  | d + 1, v1, v2, v3, σ => (if (σ.1 33) ≤ v3 then some (v2, σ) else ((mX9_areLike v1 v3 σ).bind fun r1 => (if r1.1 = (0 : Int32) then mX9_likeMany_b27 (fun v1 v2 v3 σ => mX9_likeMany_l4 d v1 v2 v3 σ) v1 v3 v2 (0 : Int32) r1.2 else mX9_likeMany_b27 (fun v1 v2 v3 σ => mX9_likeMany_l4 d v1 v2 v3 σ) v1 v3 v2 (1 : Int32) r1.2)))
set_option maxHeartbeats 1000000 in
theorem rmX9_likeMany_l4 {X : GX} {p : Program} {l : Launch} {e : Env} {s : State} {m : MethodId} {args : Array Value} {below : List Frame} {meth : Method} {c : Code} {f : AH} {n : Nat} {r : Int32 × RS9} (C : CC X p l (RM 1 0 0) s m args meth c RX9 cX9_likeMany 4 (some .int)) : ∀ (d : Nat) (v1 : Int32) (v2 : Int32) (v3 : Int32) (σ : RS9) (_ : mX9_likeMany_l4 d v1 v2 v3 σ = some r), AW X p l e (RM 1 0 0) s m args below meth c 4 (ZM X below args s 0 0 (QMi f n r)) (rHm f σ) n 0 0 4 [some (.ref 181), some (.int v1), some (.int v2), some (.int v3)] [] := by
  intro d
  induction d with
  | zero =>
    intro v1 v2 v3 σ h
    exact nomatch (show (none : Option (Int32 × RS9)) = some r from h)
  | succ d ih =>
    intro v1 v2 v3 σ h
    have h : (if (σ.1 33) ≤ v3 then some (v2, σ) else ((mX9_areLike v1 v3 σ).bind fun r1 => (if r1.1 = (0 : Int32) then mX9_likeMany_b27 (fun v1 v2 v3 σ => mX9_likeMany_l4 d v1 v2 v3 σ) v1 v3 v2 (0 : Int32) r1.2 else mX9_likeMany_b27 (fun v1 v2 v3 σ => mX9_likeMany_l4 d v1 v2 v3 σ) v1 v3 v2 (1 : Int32) r1.2))) = some r := h
    refine aw_iload_n C dX9_likeMany_4 rfl ?_
    refine aw_ald_n C dX9_likeMany_5 rfl ?_
    refine aw_get C (v := .int (σ.1 33)) gf_X9_204 (hm_M f σ) rfl dX9_likeMany_6 ?_
    refine aw_icmp_ge C 35 dX9_likeMany_9 (by decide) (fun q => ?_) (fun q => ?_)
    · rw [if_pos q] at h
      refine aw_iload_n C dX9_likeMany_35 rfl ?_
      cases h
      exact aw_iret C rfl rfl dX9_likeMany_36 (Nat.le_refl _) (Nat.le_refl _) ⟨rfl, rfl, rfl⟩
    · rw [if_neg q] at h
      refine aw_iload_n C dX9_likeMany_12 rfl ?_
      refine aw_ald_n C dX9_likeMany_13 rfl ?_
      refine aw_iload_n C dX9_likeMany_14 rfl ?_
      refine aw_iload_n C dX9_likeMany_15 rfl ?_
      obtain ⟨r1, h1, h⟩ := Option.bind_eq_some_iff.mp h
      refine aw_callV C (ci := 9) (b := 181) [.int v1, .int v3] mv_X9_309 rfl rfl (hm_M f σ) (rmX9_areLike h1) rfl dX9_likeMany_16 (Nat.le_of_ble_eq_true rfl) (Nat.le_of_ble_eq_true rfl) rfl (Nat.le_of_ble_eq_true rfl) (Nat.le_of_ble_eq_true rfl) (Nat.le_of_ble_eq_true rfl) (fun v9 f9 n9 hh => ?_)
      obtain ⟨rfl, rfl, rfl⟩ := hh
      refine aw_if_eq C 26 dX9_likeMany_19 (by decide) (fun q => ?_) (fun q => ?_)
      · rw [if_pos q] at h
        refine aw_iconst C 0 dX9_likeMany_26 ki_0 ?_
        refine aw_fl [some (.ref 181), some (.int v1), none, some (.int v3)] ⟨rfl, ⟨rfl, ⟨rfl, trivial⟩⟩⟩ ?_
        exact rmX9_likeMany_b27 C (fun v1 v2 v3 σ h => ih v1 v2 v3 σ h) h
      · rw [if_neg q] at h
        refine aw_iconst C 1 dX9_likeMany_22 ki_1 ?_
        refine aw_goto C 27 dX9_likeMany_23 (by decide) ?_
        refine aw_fl [some (.ref 181), some (.int v1), none, some (.int v3)] ⟨rfl, ⟨rfl, ⟨rfl, trivial⟩⟩⟩ ?_
        exact rmX9_likeMany_b27 C (fun v1 v2 v3 σ h => ih v1 v2 v3 σ h) h
def mX9_likeMany (v1 : Int32) (σ : RS9) : Option (Int32 × RS9) := mX9_likeMany_l4 rFU v1 (0 : Int32) (0 : Int32) σ
set_option maxHeartbeats 1000000 in
theorem rmX9_likeMany {X : GX} {l : Launch} {f : AH} {n : Nat} {r : Int32 × RS9} {v1 : Int32} {σ : RS9} (h : mX9_likeMany v1 σ = some r) : AM X l yX9_likeMany cX9_likeMany 4 (some .int) 1 0 0 [.ref 181, .int v1] (rHm f σ) n (QMi f n r) := by
  have h : mX9_likeMany_l4 rFU v1 (0 : Int32) (0 : Int32) σ = some r := h
  refine AM.of (by decide +kernel) rfl (Nat.le_of_ble_eq_true rfl) (fun p e s m args below meth c C _ => ?_)
  refine aw_nl [some (.ref 181), some (.int v1), none, none] rfl ?_
  refine aw_iconst C 0 dX9_likeMany_0 ki_0 ?_
  refine aw_istore_n C dX9_likeMany_1 (by decide) rfl ?_
  refine aw_nl [some (.ref 181), some (.int v1), some (.int (0 : Int32)), none] rfl ?_
  refine aw_iconst C 0 dX9_likeMany_2 ki_0 ?_
  refine aw_istore_n C dX9_likeMany_3 (by decide) rfl ?_
  refine aw_nl [some (.ref 181), some (.int v1), some (.int (0 : Int32)), some (.int (0 : Int32))] rfl ?_
  refine aw_fl [some (.ref 181), some (.int v1), some (.int (0 : Int32)), some (.int (0 : Int32))] ⟨rfl, ⟨rfl, ⟨rfl, ⟨rfl, trivial⟩⟩⟩⟩ ?_
  exact rmX9_likeMany_l4 C rFU v1 (0 : Int32) (0 : Int32) σ h
def mX9_wordsOf_b49 (rec4 : Int32 → Int32 → Int32 → RS9 → Option (Int32 × RS9)) (v1 : Int32) (v3 : Int32) (s0 : Int32) (s1 : Int32) (σ : RS9) : Option (Int32 × RS9) := rec4 v1 (s0 + s1) (v3 + (1 : Int32)) σ
set_option maxHeartbeats 1000000 in
theorem rmX9_wordsOf_b49 {X : GX} {p : Program} {l : Launch} {e : Env} {s : State} {m : MethodId} {args : Array Value} {below : List Frame} {meth : Method} {c : Code} {f : AH} {n : Nat} {r : Int32 × RS9} {rec4 : Int32 → Int32 → Int32 → RS9 → Option (Int32 × RS9)} {v1 : Int32} {v3 : Int32} {s0 : Int32} {s1 : Int32} {σ : RS9} (C : CC X p l (RM 2 0 0) s m args meth c RX9 cX9_wordsOf 4 (some .int)) (Hr4 : ∀ (v1 : Int32) (v2 : Int32) (v3 : Int32) (σ : RS9), rec4 v1 v2 v3 σ = some r → AW X p l e (RM 2 0 0) s m args below meth c 4 (ZM X below args s 0 0 (QMi f n r)) (rHm f σ) n 0 0 4 [some (.ref 181), some (.int v1), some (.int v2), some (.int v3)] []) (h : mX9_wordsOf_b49 rec4 v1 v3 s0 s1 σ = some r) : AW X p l e (RM 2 0 0) s m args below meth c 4 (ZM X below args s 0 0 (QMi f n r)) (rHm f σ) n 0 0 49 [some (.ref 181), some (.int v1), none, some (.int v3)] [.int s1, .int s0] := by
  have h : rec4 v1 (s0 + s1) (v3 + (1 : Int32)) σ = some r := h
  refine aw_iadd C dX9_wordsOf_49 ?_
  refine aw_istore_n C dX9_wordsOf_50 (by decide) rfl ?_
  refine aw_nl [some (.ref 181), some (.int v1), some (.int (s0 + s1)), some (.int v3)] rfl ?_
  refine aw_iinc C (v3 + (1 : Int32)) dX9_wordsOf_51 rfl (by rw [ki_1]) (by decide) rfl ?_
  refine aw_nl [some (.ref 181), some (.int v1), some (.int (s0 + s1)), some (.int (v3 + (1 : Int32)))] rfl ?_
  refine aw_goto C 4 dX9_wordsOf_54 (by decide) ?_
  refine aw_fl [some (.ref 181), some (.int v1), some (.int (s0 + s1)), some (.int (v3 + (1 : Int32)))] ⟨rfl, ⟨rfl, ⟨rfl, ⟨rfl, trivial⟩⟩⟩⟩ ?_
  exact Hr4 v1 (s0 + s1) (v3 + (1 : Int32)) σ h
def mX9_wordsOf_b48 (rec4 : Int32 → Int32 → Int32 → RS9 → Option (Int32 × RS9)) (v1 : Int32) (v3 : Int32) (s0 : Int32) (σ : RS9) : Option (Int32 × RS9) := mX9_wordsOf_b49 rec4 v1 v3 s0 (0 : Int32) σ
set_option maxHeartbeats 1000000 in
theorem rmX9_wordsOf_b48 {X : GX} {p : Program} {l : Launch} {e : Env} {s : State} {m : MethodId} {args : Array Value} {below : List Frame} {meth : Method} {c : Code} {f : AH} {n : Nat} {r : Int32 × RS9} {rec4 : Int32 → Int32 → Int32 → RS9 → Option (Int32 × RS9)} {v1 : Int32} {v3 : Int32} {s0 : Int32} {σ : RS9} (C : CC X p l (RM 2 0 0) s m args meth c RX9 cX9_wordsOf 4 (some .int)) (Hr4 : ∀ (v1 : Int32) (v2 : Int32) (v3 : Int32) (σ : RS9), rec4 v1 v2 v3 σ = some r → AW X p l e (RM 2 0 0) s m args below meth c 4 (ZM X below args s 0 0 (QMi f n r)) (rHm f σ) n 0 0 4 [some (.ref 181), some (.int v1), some (.int v2), some (.int v3)] []) (h : mX9_wordsOf_b48 rec4 v1 v3 s0 σ = some r) : AW X p l e (RM 2 0 0) s m args below meth c 4 (ZM X below args s 0 0 (QMi f n r)) (rHm f σ) n 0 0 48 [some (.ref 181), some (.int v1), none, some (.int v3)] [.int s0] := by
  have h : mX9_wordsOf_b49 rec4 v1 v3 s0 (0 : Int32) σ = some r := h
  refine aw_iconst C 0 dX9_wordsOf_48 ki_0 ?_
  refine aw_fl [some (.ref 181), some (.int v1), none, some (.int v3)] ⟨rfl, ⟨rfl, ⟨rfl, trivial⟩⟩⟩ ?_
  exact rmX9_wordsOf_b49 C Hr4 h
def mX9_wordsOf_b44 (rec4 : Int32 → Int32 → Int32 → RS9 → Option (Int32 × RS9)) (v1 : Int32) (v3 : Int32) (s0 : Int32) (σ : RS9) : Option (Int32 × RS9) := mX9_wordsOf_b49 rec4 v1 v3 s0 (1 : Int32) σ
set_option maxHeartbeats 1000000 in
theorem rmX9_wordsOf_b44 {X : GX} {p : Program} {l : Launch} {e : Env} {s : State} {m : MethodId} {args : Array Value} {below : List Frame} {meth : Method} {c : Code} {f : AH} {n : Nat} {r : Int32 × RS9} {rec4 : Int32 → Int32 → Int32 → RS9 → Option (Int32 × RS9)} {v1 : Int32} {v3 : Int32} {s0 : Int32} {σ : RS9} (C : CC X p l (RM 2 0 0) s m args meth c RX9 cX9_wordsOf 4 (some .int)) (Hr4 : ∀ (v1 : Int32) (v2 : Int32) (v3 : Int32) (σ : RS9), rec4 v1 v2 v3 σ = some r → AW X p l e (RM 2 0 0) s m args below meth c 4 (ZM X below args s 0 0 (QMi f n r)) (rHm f σ) n 0 0 4 [some (.ref 181), some (.int v1), some (.int v2), some (.int v3)] []) (h : mX9_wordsOf_b44 rec4 v1 v3 s0 σ = some r) : AW X p l e (RM 2 0 0) s m args below meth c 4 (ZM X below args s 0 0 (QMi f n r)) (rHm f σ) n 0 0 44 [some (.ref 181), some (.int v1), none, some (.int v3)] [.int s0] := by
  have h : mX9_wordsOf_b49 rec4 v1 v3 s0 (1 : Int32) σ = some r := h
  refine aw_iconst C 1 dX9_wordsOf_44 ki_1 ?_
  refine aw_goto C 49 dX9_wordsOf_45 (by decide) ?_
  refine aw_fl [some (.ref 181), some (.int v1), none, some (.int v3)] ⟨rfl, ⟨rfl, ⟨rfl, trivial⟩⟩⟩ ?_
  exact rmX9_wordsOf_b49 C Hr4 h
def mX9_wordsOf_l4 : Nat → Int32 → Int32 → Int32 → RS9 → Option (Int32 × RS9)
  | 0, _, _, _, _ => none
  | d + 1, v1, v2, v3, σ => ((mX9_nowMany v1 σ).bind fun r1 => (if r1.1 ≤ v3 then some (v2, r1.2) else ((mX9_nowByte v1 v3 r1.2).bind fun r2 => ((mX9_isLetter r2.1 r2.2).bind fun r3 => (if r3.1 = (0 : Int32) then mX9_wordsOf_b48 (fun v1 v2 v3 σ => mX9_wordsOf_l4 d v1 v2 v3 σ) v1 v3 v2 r3.2 else (if v3 = (0 : Int32) then mX9_wordsOf_b44 (fun v1 v2 v3 σ => mX9_wordsOf_l4 d v1 v2 v3 σ) v1 v3 v2 r3.2 else ((mX9_nowByte v1 (v3 - (1 : Int32)) r3.2).bind fun r4 => ((mX9_isLetter r4.1 r4.2).bind fun r5 => (if r5.1 = (0 : Int32) then mX9_wordsOf_b44 (fun v1 v2 v3 σ => mX9_wordsOf_l4 d v1 v2 v3 σ) v1 v3 v2 r5.2 else mX9_wordsOf_b48 (fun v1 v2 v3 σ => mX9_wordsOf_l4 d v1 v2 v3 σ) v1 v3 v2 r5.2)))))))))
set_option maxHeartbeats 1000000 in
theorem rmX9_wordsOf_l4 {X : GX} {p : Program} {l : Launch} {e : Env} {s : State} {m : MethodId} {args : Array Value} {below : List Frame} {meth : Method} {c : Code} {f : AH} {n : Nat} {r : Int32 × RS9} (C : CC X p l (RM 2 0 0) s m args meth c RX9 cX9_wordsOf 4 (some .int)) : ∀ (d : Nat) (v1 : Int32) (v2 : Int32) (v3 : Int32) (σ : RS9) (_ : mX9_wordsOf_l4 d v1 v2 v3 σ = some r), AW X p l e (RM 2 0 0) s m args below meth c 4 (ZM X below args s 0 0 (QMi f n r)) (rHm f σ) n 0 0 4 [some (.ref 181), some (.int v1), some (.int v2), some (.int v3)] [] := by
  intro d
  induction d with
  | zero =>
    intro v1 v2 v3 σ h
    exact nomatch (show (none : Option (Int32 × RS9)) = some r from h)
  | succ d ih =>
    intro v1 v2 v3 σ h
    have h : ((mX9_nowMany v1 σ).bind fun r1 => (if r1.1 ≤ v3 then some (v2, r1.2) else ((mX9_nowByte v1 v3 r1.2).bind fun r2 => ((mX9_isLetter r2.1 r2.2).bind fun r3 => (if r3.1 = (0 : Int32) then mX9_wordsOf_b48 (fun v1 v2 v3 σ => mX9_wordsOf_l4 d v1 v2 v3 σ) v1 v3 v2 r3.2 else (if v3 = (0 : Int32) then mX9_wordsOf_b44 (fun v1 v2 v3 σ => mX9_wordsOf_l4 d v1 v2 v3 σ) v1 v3 v2 r3.2 else ((mX9_nowByte v1 (v3 - (1 : Int32)) r3.2).bind fun r4 => ((mX9_isLetter r4.1 r4.2).bind fun r5 => (if r5.1 = (0 : Int32) then mX9_wordsOf_b44 (fun v1 v2 v3 σ => mX9_wordsOf_l4 d v1 v2 v3 σ) v1 v3 v2 r5.2 else mX9_wordsOf_b48 (fun v1 v2 v3 σ => mX9_wordsOf_l4 d v1 v2 v3 σ) v1 v3 v2 r5.2))))))))) = some r := h
    refine aw_iload_n C dX9_wordsOf_4 rfl ?_
    refine aw_ald_n C dX9_wordsOf_5 rfl ?_
    refine aw_iload_n C dX9_wordsOf_6 rfl ?_
    obtain ⟨r1, h1, h⟩ := Option.bind_eq_some_iff.mp h
    refine aw_callV C (ci := 9) (b := 181) [.int v1] mv_X9_313 rfl rfl (hm_M f σ) (rmX9_nowMany h1) rfl dX9_wordsOf_7 (Nat.le_of_ble_eq_true rfl) (Nat.le_of_ble_eq_true rfl) rfl (Nat.le_of_ble_eq_true rfl) (Nat.le_of_ble_eq_true rfl) (Nat.le_of_ble_eq_true rfl) (fun v9 f9 n9 hh => ?_)
    obtain ⟨rfl, rfl, rfl⟩ := hh
    refine aw_icmp_ge C 57 dX9_wordsOf_10 (by decide) (fun q => ?_) (fun q => ?_)
    · rw [if_pos q] at h
      refine aw_iload_n C dX9_wordsOf_57 rfl ?_
      cases h
      exact aw_iret C rfl rfl dX9_wordsOf_58 (Nat.le_refl _) (Nat.le_refl _) ⟨rfl, rfl, rfl⟩
    · rw [if_neg q] at h
      refine aw_iload_n C dX9_wordsOf_13 rfl ?_
      refine aw_ald_n C dX9_wordsOf_14 rfl ?_
      refine aw_iload_n C dX9_wordsOf_15 rfl ?_
      refine aw_iload_n C dX9_wordsOf_16 rfl ?_
      obtain ⟨r2, h2, h⟩ := Option.bind_eq_some_iff.mp h
      refine aw_callV C (ci := 9) (b := 181) [.int v1, .int v3] mv_X9_316 rfl rfl (hm_M f r1.2) (rmX9_nowByte h2) rfl dX9_wordsOf_17 (Nat.le_of_ble_eq_true rfl) (Nat.le_of_ble_eq_true rfl) rfl (Nat.le_of_ble_eq_true rfl) (Nat.le_of_ble_eq_true rfl) (Nat.le_of_ble_eq_true rfl) (fun v9 f9 n9 hh => ?_)
      obtain ⟨rfl, rfl, rfl⟩ := hh
      obtain ⟨r3, h3, h⟩ := Option.bind_eq_some_iff.mp h
      refine aw_callS C [.int r2.1] ms_X9_207 (rmX9_isLetter h3) rfl dX9_wordsOf_20 (Nat.le_of_ble_eq_true rfl) (Nat.le_of_ble_eq_true rfl) rfl (Nat.le_of_ble_eq_true rfl) (Nat.le_of_ble_eq_true rfl) (Nat.le_of_ble_eq_true rfl) (fun v9 f9 n9 hh => ?_)
      obtain ⟨rfl, rfl, rfl⟩ := hh
      refine aw_if_eq C 48 dX9_wordsOf_23 (by decide) (fun q => ?_) (fun q => ?_)
      · rw [if_pos q] at h
        refine aw_fl [some (.ref 181), some (.int v1), none, some (.int v3)] ⟨rfl, ⟨rfl, ⟨rfl, trivial⟩⟩⟩ ?_
        exact rmX9_wordsOf_b48 C (fun v1 v2 v3 σ h => ih v1 v2 v3 σ h) h
      · rw [if_neg q] at h
        refine aw_iload_n C dX9_wordsOf_26 rfl ?_
        refine aw_if_eq C 44 dX9_wordsOf_27 (by decide) (fun q => ?_) (fun q => ?_)
        · rw [if_pos q] at h
          refine aw_fl [some (.ref 181), some (.int v1), none, some (.int v3)] ⟨rfl, ⟨rfl, ⟨rfl, trivial⟩⟩⟩ ?_
          exact rmX9_wordsOf_b44 C (fun v1 v2 v3 σ h => ih v1 v2 v3 σ h) h
        · rw [if_neg q] at h
          refine aw_ald_n C dX9_wordsOf_30 rfl ?_
          refine aw_iload_n C dX9_wordsOf_31 rfl ?_
          refine aw_iload_n C dX9_wordsOf_32 rfl ?_
          refine aw_iconst C 1 dX9_wordsOf_33 ki_1 ?_
          refine aw_isub C dX9_wordsOf_34 ?_
          obtain ⟨r4, h4, h⟩ := Option.bind_eq_some_iff.mp h
          refine aw_callV C (ci := 9) (b := 181) [.int v1, .int (v3 - (1 : Int32))] mv_X9_316 rfl rfl (hm_M f r3.2) (rmX9_nowByte h4) rfl dX9_wordsOf_35 (Nat.le_of_ble_eq_true rfl) (Nat.le_of_ble_eq_true rfl) rfl (Nat.le_of_ble_eq_true rfl) (Nat.le_of_ble_eq_true rfl) (Nat.le_of_ble_eq_true rfl) (fun v9 f9 n9 hh => ?_)
          obtain ⟨rfl, rfl, rfl⟩ := hh
          obtain ⟨r5, h5, h⟩ := Option.bind_eq_some_iff.mp h
          refine aw_callS C [.int r4.1] ms_X9_207 (rmX9_isLetter h5) rfl dX9_wordsOf_38 (Nat.le_of_ble_eq_true rfl) (Nat.le_of_ble_eq_true rfl) rfl (Nat.le_of_ble_eq_true rfl) (Nat.le_of_ble_eq_true rfl) (Nat.le_of_ble_eq_true rfl) (fun v9 f9 n9 hh => ?_)
          obtain ⟨rfl, rfl, rfl⟩ := hh
          refine aw_if_ne C 48 dX9_wordsOf_41 (by decide) (fun q => ?_) (fun q => ?_)
          · rw [if_neg q] at h
            refine aw_fl [some (.ref 181), some (.int v1), none, some (.int v3)] ⟨rfl, ⟨rfl, ⟨rfl, trivial⟩⟩⟩ ?_
            exact rmX9_wordsOf_b48 C (fun v1 v2 v3 σ h => ih v1 v2 v3 σ h) h
          · rw [if_pos q] at h
            refine aw_fl [some (.ref 181), some (.int v1), none, some (.int v3)] ⟨rfl, ⟨rfl, ⟨rfl, trivial⟩⟩⟩ ?_
            exact rmX9_wordsOf_b44 C (fun v1 v2 v3 σ h => ih v1 v2 v3 σ h) h
def mX9_wordsOf (v1 : Int32) (σ : RS9) : Option (Int32 × RS9) := mX9_wordsOf_l4 rFU v1 (0 : Int32) (0 : Int32) σ
set_option maxHeartbeats 1000000 in
theorem rmX9_wordsOf {X : GX} {l : Launch} {f : AH} {n : Nat} {r : Int32 × RS9} {v1 : Int32} {σ : RS9} (h : mX9_wordsOf v1 σ = some r) : AM X l yX9_wordsOf cX9_wordsOf 4 (some .int) 2 0 0 [.ref 181, .int v1] (rHm f σ) n (QMi f n r) := by
  have h : mX9_wordsOf_l4 rFU v1 (0 : Int32) (0 : Int32) σ = some r := h
  refine AM.of (by decide +kernel) rfl (Nat.le_of_ble_eq_true rfl) (fun p e s m args below meth c C _ => ?_)
  refine aw_nl [some (.ref 181), some (.int v1), none, none] rfl ?_
  refine aw_iconst C 0 dX9_wordsOf_0 ki_0 ?_
  refine aw_istore_n C dX9_wordsOf_1 (by decide) rfl ?_
  refine aw_nl [some (.ref 181), some (.int v1), some (.int (0 : Int32)), none] rfl ?_
  refine aw_iconst C 0 dX9_wordsOf_2 ki_0 ?_
  refine aw_istore_n C dX9_wordsOf_3 (by decide) rfl ?_
  refine aw_nl [some (.ref 181), some (.int v1), some (.int (0 : Int32)), some (.int (0 : Int32))] rfl ?_
  refine aw_fl [some (.ref 181), some (.int v1), some (.int (0 : Int32)), some (.int (0 : Int32))] ⟨rfl, ⟨rfl, ⟨rfl, ⟨rfl, trivial⟩⟩⟩⟩ ?_
  exact rmX9_wordsOf_l4 C rFU v1 (0 : Int32) (0 : Int32) σ h
