/-! part 22ag.ref -/
section
def mX9_remembers_l52 : Nat → Int32 → RS9 → Option (Int32 × RS9)
  | 0, _, _ => none
  | d + 1, v1, σ => (if (4347 : Int32) ≤ v1 then some ((0 : Int32), (rSf σ 5 ((σ.1 5) + (1 : Int32)))) else rCk (rIn v1 (rLen 2)) (rCk (rIn (((4347 : Int32) * (σ.1 5)) + v1) (rLen 4)) (mX9_remembers_l52 d (v1 + (1 : Int32)) (rSa σ 4 (((4347 : Int32) * (σ.1 5)) + v1) (rGa σ 2 v1)))))
set_option maxHeartbeats 1000000 in
theorem rmX9_remembers_l52 {X : GX} {p : Program} {l : Launch} {e : Env} {s : State} {m : MethodId} {args : Array Value} {below : List Frame} {meth : Method} {c : Code} {f : AH} {n : Nat} {r : Int32 × RS9} (C : CC X p l (RM 0 0 0) s m args meth c RX9 cX9_remembers 2 none) : ∀ (d : Nat) (v1 : Int32) (σ : RS9) (_ : mX9_remembers_l52 d v1 σ = some r), AW X p l e (RM 0 0 0) s m args below meth c 2 (ZM X below args s 0 0 (QMv f n r)) (rHm f σ) n 0 0 52 [some (.ref 181), some (.int v1)] [] := by
  intro d
  induction d with
  | zero =>
    intro v1 σ h
    exact nomatch (show (none : Option (Int32 × RS9)) = some r from h)
  | succ d ih =>
    intro v1 σ h
    have h : (if (4347 : Int32) ≤ v1 then some ((0 : Int32), (rSf σ 5 ((σ.1 5) + (1 : Int32)))) else rCk (rIn v1 (rLen 2)) (rCk (rIn (((4347 : Int32) * (σ.1 5)) + v1) (rLen 4)) (mX9_remembers_l52 d (v1 + (1 : Int32)) (rSa σ 4 (((4347 : Int32) * (σ.1 5)) + v1) (rGa σ 2 v1))))) = some r := h
    refine aw_iload_n C dX9_remembers_52 rfl ?_
    refine aw_sipush C 4347 dX9_remembers_53 ks_4347 ?_
    refine aw_icmp_ge C 86 dX9_remembers_56 (by decide) (fun q => ?_) (fun q => ?_)
    · rw [if_pos q] at h
      refine aw_ald_n C dX9_remembers_86 rfl ?_
      refine aw_dup C dX9_remembers_87 rfl ?_
      refine aw_get C (v := .int (σ.1 5)) gf_X9_325 (hm_M f σ) rfl dX9_remembers_88 ?_
      refine aw_iconst C 1 dX9_remembers_91 ki_1 ?_
      refine aw_iadd C dX9_remembers_92 ?_
      refine am_put C gf_X9_325 nf9_5 rfl rfl dX9_remembers_93 ?_
      cases h
      exact aw_vret C rfl dX9_remembers_96 (Nat.le_refl _) (Nat.le_refl _) ⟨rfl, rfl, rfl⟩
    · rw [if_neg q] at h
      refine aw_ald_n C dX9_remembers_59 rfl ?_
      refine aw_get C (v := .ref (rAid 4)) gf_X9_20 (hm_M f σ) rfl dX9_remembers_60 ?_
      refine aw_sipush C 4347 dX9_remembers_63 ks_4347 ?_
      refine aw_ald_n C dX9_remembers_66 rfl ?_
      refine aw_get C (v := .int (σ.1 5)) gf_X9_325 (hm_M f σ) rfl dX9_remembers_67 ?_
      refine aw_imul C dX9_remembers_70 ?_
      refine aw_iload_n C dX9_remembers_71 rfl ?_
      refine aw_iadd C dX9_remembers_72 ?_
      refine aw_ald_n C dX9_remembers_73 rfl ?_
      refine aw_get C (v := .ref (rAid 2)) gf_X9_13 (hm_M f σ) rfl dX9_remembers_74 ?_
      refine aw_iload_n C dX9_remembers_77 rfl ?_
      obtain ⟨hb1, h⟩ := ck_some h
      refine am_iald C (rGa σ 2 v1) rfl (inb_vp hb1) rfl dX9_remembers_78 ?_
      obtain ⟨hb2, h⟩ := ck_some h
      refine am_iast C rfl (inb_vp hb2) dX9_remembers_79 ?_
      refine aw_iinc C (v1 + (1 : Int32)) dX9_remembers_80 rfl (by rw [ki_1]) (by decide) rfl ?_
      refine aw_nl [some (.ref 181), some (.int (v1 + (1 : Int32)))] rfl ?_
      refine aw_goto C 52 dX9_remembers_83 (by decide) ?_
      refine aw_fl [some (.ref 181), some (.int (v1 + (1 : Int32)))] ⟨rfl, ⟨rfl, trivial⟩⟩ ?_
      exact ih (v1 + (1 : Int32)) (rSa σ 4 (((4347 : Int32) * (σ.1 5)) + v1) (rGa σ 2 v1)) h
def mX9_remembers_b50 (σ : RS9) : Option (Int32 × RS9) := mX9_remembers_l52 rFU (0 : Int32) σ
set_option maxHeartbeats 1000000 in
theorem rmX9_remembers_b50 {X : GX} {p : Program} {l : Launch} {e : Env} {s : State} {m : MethodId} {args : Array Value} {below : List Frame} {meth : Method} {c : Code} {f : AH} {n : Nat} {r : Int32 × RS9} {σ : RS9} (C : CC X p l (RM 0 0 0) s m args meth c RX9 cX9_remembers 2 none) (h : mX9_remembers_b50 σ = some r) : AW X p l e (RM 0 0 0) s m args below meth c 2 (ZM X below args s 0 0 (QMv f n r)) (rHm f σ) n 0 0 50 [some (.ref 181), none] [] := by
  have h : mX9_remembers_l52 rFU (0 : Int32) σ = some r := h
  refine aw_iconst C 0 dX9_remembers_50 ki_0 ?_
  refine aw_istore_n C dX9_remembers_51 (by decide) rfl ?_
  refine aw_nl [some (.ref 181), some (.int (0 : Int32))] rfl ?_
  refine aw_fl [some (.ref 181), some (.int (0 : Int32))] ⟨rfl, ⟨rfl, trivial⟩⟩ ?_
  exact rmX9_remembers_l52 C rFU (0 : Int32) σ h
def mX9_remembers_l11 : Nat → Int32 → RS9 → Option (Int32 × RS9)
  | 0, _, _ => none
  | d + 1, v1, σ => (if (30429 : Int32) ≤ v1 then mX9_remembers_b50 (rSf σ 5 ((σ.1 5) - (1 : Int32))) else rCk (rIn (v1 + (4347 : Int32)) (rLen 4)) (rCk (rIn v1 (rLen 4)) (mX9_remembers_l11 d (v1 + (1 : Int32)) (rSa σ 4 v1 (rGa σ 4 (v1 + (4347 : Int32)))))))
set_option maxHeartbeats 1000000 in
theorem rmX9_remembers_l11 {X : GX} {p : Program} {l : Launch} {e : Env} {s : State} {m : MethodId} {args : Array Value} {below : List Frame} {meth : Method} {c : Code} {f : AH} {n : Nat} {r : Int32 × RS9} (C : CC X p l (RM 0 0 0) s m args meth c RX9 cX9_remembers 2 none) : ∀ (d : Nat) (v1 : Int32) (σ : RS9) (_ : mX9_remembers_l11 d v1 σ = some r), AW X p l e (RM 0 0 0) s m args below meth c 2 (ZM X below args s 0 0 (QMv f n r)) (rHm f σ) n 0 0 11 [some (.ref 181), some (.int v1)] [] := by
  intro d
  induction d with
  | zero =>
    intro v1 σ h
    exact nomatch (show (none : Option (Int32 × RS9)) = some r from h)
  | succ d ih =>
    intro v1 σ h
    have h : (if (30429 : Int32) ≤ v1 then mX9_remembers_b50 (rSf σ 5 ((σ.1 5) - (1 : Int32))) else rCk (rIn (v1 + (4347 : Int32)) (rLen 4)) (rCk (rIn v1 (rLen 4)) (mX9_remembers_l11 d (v1 + (1 : Int32)) (rSa σ 4 v1 (rGa σ 4 (v1 + (4347 : Int32))))))) = some r := h
    refine aw_iload_n C dX9_remembers_11 rfl ?_
    refine aw_sipush C 30429 dX9_remembers_12 ks_30429 ?_
    refine aw_icmp_ge C 40 dX9_remembers_15 (by decide) (fun q => ?_) (fun q => ?_)
    · rw [if_pos q] at h
      refine aw_ald_n C dX9_remembers_40 rfl ?_
      refine aw_dup C dX9_remembers_41 rfl ?_
      refine aw_get C (v := .int (σ.1 5)) gf_X9_325 (hm_M f σ) rfl dX9_remembers_42 ?_
      refine aw_iconst C 1 dX9_remembers_45 ki_1 ?_
      refine aw_isub C dX9_remembers_46 ?_
      refine am_put C gf_X9_325 nf9_5 rfl rfl dX9_remembers_47 ?_
      refine aw_fl [some (.ref 181), none] ⟨rfl, trivial⟩ ?_
      exact rmX9_remembers_b50 C h
    · rw [if_neg q] at h
      refine aw_ald_n C dX9_remembers_18 rfl ?_
      refine aw_get C (v := .ref (rAid 4)) gf_X9_20 (hm_M f σ) rfl dX9_remembers_19 ?_
      refine aw_iload_n C dX9_remembers_22 rfl ?_
      refine aw_ald_n C dX9_remembers_23 rfl ?_
      refine aw_get C (v := .ref (rAid 4)) gf_X9_20 (hm_M f σ) rfl dX9_remembers_24 ?_
      refine aw_iload_n C dX9_remembers_27 rfl ?_
      refine aw_sipush C 4347 dX9_remembers_28 ks_4347 ?_
      refine aw_iadd C dX9_remembers_31 ?_
      obtain ⟨hb1, h⟩ := ck_some h
      refine am_iald C (rGa σ 4 (v1 + (4347 : Int32))) rfl (inb_vp hb1) rfl dX9_remembers_32 ?_
      obtain ⟨hb2, h⟩ := ck_some h
      refine am_iast C rfl (inb_vp hb2) dX9_remembers_33 ?_
      refine aw_iinc C (v1 + (1 : Int32)) dX9_remembers_34 rfl (by rw [ki_1]) (by decide) rfl ?_
      refine aw_nl [some (.ref 181), some (.int (v1 + (1 : Int32)))] rfl ?_
      refine aw_goto C 11 dX9_remembers_37 (by decide) ?_
      refine aw_fl [some (.ref 181), some (.int (v1 + (1 : Int32)))] ⟨rfl, ⟨rfl, trivial⟩⟩ ?_
      exact ih (v1 + (1 : Int32)) (rSa σ 4 v1 (rGa σ 4 (v1 + (4347 : Int32)))) h
def mX9_remembers (σ : RS9) : Option (Int32 × RS9) := (if (σ.1 5) = (8 : Int32) then mX9_remembers_l11 rFU (0 : Int32) σ else mX9_remembers_b50 σ)
set_option maxHeartbeats 1000000 in
theorem rmX9_remembers {X : GX} {l : Launch} {f : AH} {n : Nat} {r : Int32 × RS9} {σ : RS9} (h : mX9_remembers σ = some r) : AM X l yX9_remembers cX9_remembers 2 none 0 0 0 [.ref 181] (rHm f σ) n (QMv f n r) := by
  have h : (if (σ.1 5) = (8 : Int32) then mX9_remembers_l11 rFU (0 : Int32) σ else mX9_remembers_b50 σ) = some r := h
  refine AM.of (by decide +kernel) rfl (Nat.le_of_ble_eq_true rfl) (fun p e s m args below meth c C _ => ?_)
  refine aw_nl [some (.ref 181), none] rfl ?_
  refine aw_ald_n C dX9_remembers_0 rfl ?_
  refine aw_get C (v := .int (σ.1 5)) gf_X9_325 (hm_M f σ) rfl dX9_remembers_1 ?_
  refine aw_bipush C 8 dX9_remembers_4 kb_8 ?_
  refine aw_icmp_ne C 50 dX9_remembers_6 (by decide) (fun q => ?_) (fun q => ?_)
  · rw [if_neg q] at h
    refine aw_fl [some (.ref 181), none] ⟨rfl, trivial⟩ ?_
    exact rmX9_remembers_b50 C h
  · rw [if_pos q] at h
    refine aw_iconst C 0 dX9_remembers_9 ki_0 ?_
    refine aw_istore_n C dX9_remembers_10 (by decide) rfl ?_
    refine aw_nl [some (.ref 181), some (.int (0 : Int32))] rfl ?_
    refine aw_fl [some (.ref 181), some (.int (0 : Int32))] ⟨rfl, ⟨rfl, trivial⟩⟩ ?_
    exact rmX9_remembers_l11 C rFU (0 : Int32) σ h
def mX9_isWord_b39 (v2 : Int32) (σ : RS9) : Option (Int32 × RS9) := rCk (rNb v2) (some (v2, σ))
set_option maxHeartbeats 1000000 in
theorem rmX9_isWord_b39 {X : GX} {p : Program} {l : Launch} {e : Env} {s : State} {m : MethodId} {args : Array Value} {below : List Frame} {meth : Method} {c : Code} {f : AH} {n : Nat} {r : Int32 × RS9} {v2 : Int32} {σ : RS9} (C : CC X p l (RM 1 0 0) s m args meth c RX9 cX9_isWord 4 (some .boolean)) (h : mX9_isWord_b39 v2 σ = some r) : AW X p l e (RM 1 0 0) s m args below meth c 4 (ZM X below args s 0 0 (QMi f n r)) (rHm f σ) n 0 0 39 [none, none, some (.int v2), none] [] := by
  have h : rCk (rNb v2) (some (v2, σ)) = some r := h
  refine aw_iload_n C dX9_isWord_39 rfl ?_
  obtain ⟨hb1, h⟩ := ck_some h
  cases h
  exact aw_iret C rfl (nb_nar hb1) dX9_isWord_40 (Nat.le_refl _) (Nat.le_refl _) ⟨rfl, rfl, rfl⟩
def mX9_isWord_l10 : Nat → Int32 → Int32 → Int32 → RS9 → Option (Int32 × RS9)
  | 0, _, _, _, _ => none
  | d + 1, v1, v2, v3, σ => (if v1 ≤ v3 then mX9_isWord_b39 v2 σ else (if v2 = (0 : Int32) then mX9_isWord_b39 v2 σ else rCk (rIn v3 (rLen 8)) (((mX9_isIn (rGa σ 8 v3) (97 : Int32) (122 : Int32) σ).bind fun r2 => mX9_isWord_l10 d v1 r2.1 (v3 + (1 : Int32)) r2.2))))
set_option maxHeartbeats 1000000 in
theorem rmX9_isWord_l10 {X : GX} {p : Program} {l : Launch} {e : Env} {s : State} {m : MethodId} {args : Array Value} {below : List Frame} {meth : Method} {c : Code} {f : AH} {n : Nat} {r : Int32 × RS9} (C : CC X p l (RM 1 0 0) s m args meth c RX9 cX9_isWord 4 (some .boolean)) : ∀ (d : Nat) (v1 : Int32) (v2 : Int32) (v3 : Int32) (σ : RS9) (_ : mX9_isWord_l10 d v1 v2 v3 σ = some r), AW X p l e (RM 1 0 0) s m args below meth c 4 (ZM X below args s 0 0 (QMi f n r)) (rHm f σ) n 0 0 10 [some (.ref 181), some (.int v1), some (.int v2), some (.int v3)] [] := by
  intro d
  induction d with
  | zero =>
    intro v1 v2 v3 σ h
    exact nomatch (show (none : Option (Int32 × RS9)) = some r from h)
  | succ d ih =>
    intro v1 v2 v3 σ h
    have h : (if v1 ≤ v3 then mX9_isWord_b39 v2 σ else (if v2 = (0 : Int32) then mX9_isWord_b39 v2 σ else rCk (rIn v3 (rLen 8)) (((mX9_isIn (rGa σ 8 v3) (97 : Int32) (122 : Int32) σ).bind fun r2 => mX9_isWord_l10 d v1 r2.1 (v3 + (1 : Int32)) r2.2)))) = some r := h
    refine aw_iload_n C dX9_isWord_10 rfl ?_
    refine aw_iload_n C dX9_isWord_11 rfl ?_
    refine aw_icmp_ge C 39 dX9_isWord_12 (by decide) (fun q => ?_) (fun q => ?_)
    · rw [if_pos q] at h
      refine aw_fl [none, none, some (.int v2), none] ⟨rfl, trivial⟩ ?_
      exact rmX9_isWord_b39 C h
    · rw [if_neg q] at h
      refine aw_iload_n C dX9_isWord_15 rfl ?_
      refine aw_if_eq C 39 dX9_isWord_16 (by decide) (fun q => ?_) (fun q => ?_)
      · rw [if_pos q] at h
        refine aw_fl [none, none, some (.int v2), none] ⟨rfl, trivial⟩ ?_
        exact rmX9_isWord_b39 C h
      · rw [if_neg q] at h
        refine aw_ald_n C dX9_isWord_19 rfl ?_
        refine aw_get C (v := .ref (rAid 8)) gf_X9_23 (hm_M f σ) rfl dX9_isWord_20 ?_
        refine aw_iload_n C dX9_isWord_23 rfl ?_
        obtain ⟨hb1, h⟩ := ck_some h
        refine am_iald C (rGa σ 8 v3) rfl (inb_vp hb1) rfl dX9_isWord_24 ?_
        refine aw_bipush C 97 dX9_isWord_25 kb_97 ?_
        refine aw_bipush C 122 dX9_isWord_27 kb_122 ?_
        obtain ⟨r2, h2, h⟩ := Option.bind_eq_some_iff.mp h
        refine aw_callS C [.int (rGa σ 8 v3), .int (97 : Int32), .int (122 : Int32)] ms_X9_141 (rmX9_isIn h2) rfl dX9_isWord_29 (Nat.le_of_ble_eq_true rfl) (Nat.le_of_ble_eq_true rfl) rfl (Nat.le_of_ble_eq_true rfl) (Nat.le_of_ble_eq_true rfl) (Nat.le_of_ble_eq_true rfl) (fun v9 f9 n9 hh => ?_)
        obtain ⟨rfl, rfl, rfl⟩ := hh
        refine aw_istore_n C dX9_isWord_32 (by decide) rfl ?_
        refine aw_nl [some (.ref 181), some (.int v1), some (.int r2.1), some (.int v3)] rfl ?_
        refine aw_iinc C (v3 + (1 : Int32)) dX9_isWord_33 rfl (by rw [ki_1]) (by decide) rfl ?_
        refine aw_nl [some (.ref 181), some (.int v1), some (.int r2.1), some (.int (v3 + (1 : Int32)))] rfl ?_
        refine aw_goto C 10 dX9_isWord_36 (by decide) ?_
        refine aw_fl [some (.ref 181), some (.int v1), some (.int r2.1), some (.int (v3 + (1 : Int32)))] ⟨rfl, ⟨rfl, ⟨rfl, ⟨rfl, trivial⟩⟩⟩⟩ ?_
        exact ih v1 r2.1 (v3 + (1 : Int32)) r2.2 h
def mX9_isWord (v1 : Int32) (σ : RS9) : Option (Int32 × RS9) := ((mX9_isIn v1 (1 : Int32) (8 : Int32) σ).bind fun r1 => mX9_isWord_l10 rFU v1 r1.1 (0 : Int32) r1.2)
set_option maxHeartbeats 1000000 in
theorem rmX9_isWord {X : GX} {l : Launch} {f : AH} {n : Nat} {r : Int32 × RS9} {v1 : Int32} {σ : RS9} (h : mX9_isWord v1 σ = some r) : AM X l yX9_isWord cX9_isWord 4 (some .boolean) 1 0 0 [.ref 181, .int v1] (rHm f σ) n (QMi f n r) := by
  have h : ((mX9_isIn v1 (1 : Int32) (8 : Int32) σ).bind fun r1 => mX9_isWord_l10 rFU v1 r1.1 (0 : Int32) r1.2) = some r := h
  refine AM.of (by decide +kernel) rfl (Nat.le_of_ble_eq_true rfl) (fun p e s m args below meth c C _ => ?_)
  refine aw_nl [some (.ref 181), some (.int v1), none, none] rfl ?_
  refine aw_iload_n C dX9_isWord_0 rfl ?_
  refine aw_iconst C 1 dX9_isWord_1 ki_1 ?_
  refine aw_bipush C 8 dX9_isWord_2 kb_8 ?_
  obtain ⟨r1, h1, h⟩ := Option.bind_eq_some_iff.mp h
  refine aw_callS C [.int v1, .int (1 : Int32), .int (8 : Int32)] ms_X9_141 (rmX9_isIn h1) rfl dX9_isWord_4 (Nat.le_of_ble_eq_true rfl) (Nat.le_of_ble_eq_true rfl) rfl (Nat.le_of_ble_eq_true rfl) (Nat.le_of_ble_eq_true rfl) (Nat.le_of_ble_eq_true rfl) (fun v9 f9 n9 hh => ?_)
  obtain ⟨rfl, rfl, rfl⟩ := hh
  refine aw_istore_n C dX9_isWord_7 (by decide) rfl ?_
  refine aw_nl [some (.ref 181), some (.int v1), some (.int r1.1), none] rfl ?_
  refine aw_iconst C 0 dX9_isWord_8 ki_0 ?_
  refine aw_istore_n C dX9_isWord_9 (by decide) rfl ?_
  refine aw_nl [some (.ref 181), some (.int v1), some (.int r1.1), some (.int (0 : Int32))] rfl ?_
  refine aw_fl [some (.ref 181), some (.int v1), some (.int r1.1), some (.int (0 : Int32))] ⟨rfl, ⟨rfl, ⟨rfl, ⟨rfl, trivial⟩⟩⟩⟩ ?_
  exact rmX9_isWord_l10 C rFU v1 r1.1 (0 : Int32) r1.2 h
def mX9_tookTold_b36 (v1 : Int32) (σ : RS9) : Option (Int32 × RS9) := some (v1, σ)
set_option maxHeartbeats 1000000 in
theorem rmX9_tookTold_b36 {X : GX} {p : Program} {l : Launch} {e : Env} {s : State} {m : MethodId} {args : Array Value} {below : List Frame} {meth : Method} {c : Code} {f : AH} {n : Nat} {r : Int32 × RS9} {v1 : Int32} {σ : RS9} (C : CC X p l (RM 1 0 0) s m args meth c RX9 cX9_tookTold 3 (some .int)) (h : mX9_tookTold_b36 v1 σ = some r) : AW X p l e (RM 1 0 0) s m args below meth c 3 (ZM X below args s 0 0 (QMi f n r)) (rHm f σ) n 0 0 36 [none, some (.int v1), none] [] := by
  have h : some (v1, σ) = some r := h
  refine aw_iload_n C dX9_tookTold_36 rfl ?_
  cases h
  exact aw_iret C rfl rfl dX9_tookTold_37 (Nat.le_refl _) (Nat.le_refl _) ⟨rfl, rfl, rfl⟩
def mX9_tookTold_l7 : Nat → Int32 → Int32 → RS9 → Option (Int32 × RS9)
  | 0, _, _, _ => none
  | d + 1, v1, v2, σ => (if v1 ≤ v2 then mX9_tookTold_b36 v1 σ else (if (60 : Int32) < v1 then mX9_tookTold_b36 v1 σ else rCk (rIn v2 (rLen 8)) (rCk (rIn v2 (rLen 53)) (mX9_tookTold_l7 d v1 (v2 + (1 : Int32)) (rSa σ 53 v2 (rGa σ 8 v2))))))
set_option maxHeartbeats 1000000 in
theorem rmX9_tookTold_l7 {X : GX} {p : Program} {l : Launch} {e : Env} {s : State} {m : MethodId} {args : Array Value} {below : List Frame} {meth : Method} {c : Code} {f : AH} {n : Nat} {r : Int32 × RS9} (C : CC X p l (RM 1 0 0) s m args meth c RX9 cX9_tookTold 3 (some .int)) : ∀ (d : Nat) (v1 : Int32) (v2 : Int32) (σ : RS9) (_ : mX9_tookTold_l7 d v1 v2 σ = some r), AW X p l e (RM 1 0 0) s m args below meth c 3 (ZM X below args s 0 0 (QMi f n r)) (rHm f σ) n 0 0 7 [some (.ref 181), some (.int v1), some (.int v2)] [] := by
  intro d
  induction d with
  | zero =>
    intro v1 v2 σ h
    exact nomatch (show (none : Option (Int32 × RS9)) = some r from h)
  | succ d ih =>
    intro v1 v2 σ h
    have h : (if v1 ≤ v2 then mX9_tookTold_b36 v1 σ else (if (60 : Int32) < v1 then mX9_tookTold_b36 v1 σ else rCk (rIn v2 (rLen 8)) (rCk (rIn v2 (rLen 53)) (mX9_tookTold_l7 d v1 (v2 + (1 : Int32)) (rSa σ 53 v2 (rGa σ 8 v2)))))) = some r := h
    refine aw_iload_n C dX9_tookTold_7 rfl ?_
    refine aw_iload_n C dX9_tookTold_8 rfl ?_
    refine aw_icmp_ge C 36 dX9_tookTold_9 (by decide) (fun q => ?_) (fun q => ?_)
    · rw [if_pos q] at h
      refine aw_fl [none, some (.int v1), none] ⟨rfl, trivial⟩ ?_
      exact rmX9_tookTold_b36 C h
    · rw [if_neg q] at h
      refine aw_iload_n C dX9_tookTold_12 rfl ?_
      refine aw_bipush C 60 dX9_tookTold_13 kb_60 ?_
      refine aw_icmp_gt C 36 dX9_tookTold_15 (by decide) (fun q => ?_) (fun q => ?_)
      · rw [if_pos q] at h
        refine aw_fl [none, some (.int v1), none] ⟨rfl, trivial⟩ ?_
        exact rmX9_tookTold_b36 C h
      · rw [if_neg q] at h
        refine aw_ald_n C dX9_tookTold_18 rfl ?_
        refine aw_get C (v := .ref (rAid 53)) gf_X9_132 (hm_M f σ) rfl dX9_tookTold_19 ?_
        refine aw_iload_n C dX9_tookTold_22 rfl ?_
        refine aw_ald_n C dX9_tookTold_23 rfl ?_
        refine aw_get C (v := .ref (rAid 8)) gf_X9_23 (hm_M f σ) rfl dX9_tookTold_24 ?_
        refine aw_iload_n C dX9_tookTold_27 rfl ?_
        obtain ⟨hb1, h⟩ := ck_some h
        refine am_iald C (rGa σ 8 v2) rfl (inb_vp hb1) rfl dX9_tookTold_28 ?_
        obtain ⟨hb2, h⟩ := ck_some h
        refine am_iast C rfl (inb_vp hb2) dX9_tookTold_29 ?_
        refine aw_iinc C (v2 + (1 : Int32)) dX9_tookTold_30 rfl (by rw [ki_1]) (by decide) rfl ?_
        refine aw_nl [some (.ref 181), some (.int v1), some (.int (v2 + (1 : Int32)))] rfl ?_
        refine aw_goto C 7 dX9_tookTold_33 (by decide) ?_
        refine aw_fl [some (.ref 181), some (.int v1), some (.int (v2 + (1 : Int32)))] ⟨rfl, ⟨rfl, ⟨rfl, trivial⟩⟩⟩ ?_
        exact ih v1 (v2 + (1 : Int32)) (rSa σ 53 v2 (rGa σ 8 v2)) h
def mX9_tookTold (σ : RS9) : Option (Int32 × RS9) := ((mX9_took σ).bind fun r1 => mX9_tookTold_l7 rFU r1.1 (0 : Int32) r1.2)
set_option maxHeartbeats 1000000 in
theorem rmX9_tookTold {X : GX} {l : Launch} {f : AH} {n : Nat} {r : Int32 × RS9} {σ : RS9} (h : mX9_tookTold σ = some r) : AM X l yX9_tookTold cX9_tookTold 3 (some .int) 1 0 0 [.ref 181] (rHm f σ) n (QMi f n r) := by
  have h : ((mX9_took σ).bind fun r1 => mX9_tookTold_l7 rFU r1.1 (0 : Int32) r1.2) = some r := h
  refine AM.of (by decide +kernel) rfl (Nat.le_of_ble_eq_true rfl) (fun p e s m args below meth c C _ => ?_)
  refine aw_nl [some (.ref 181), none, none] rfl ?_
  refine aw_ald_n C dX9_tookTold_0 rfl ?_
  obtain ⟨r1, h1, h⟩ := Option.bind_eq_some_iff.mp h
  refine aw_callV C (ci := 9) (b := 181) [] mv_X9_426 rfl rfl (hm_M f σ) (rmX9_took h1) rfl dX9_tookTold_1 (Nat.le_of_ble_eq_true rfl) (Nat.le_of_ble_eq_true rfl) rfl (Nat.le_of_ble_eq_true rfl) (Nat.le_of_ble_eq_true rfl) (Nat.le_of_ble_eq_true rfl) (fun v9 f9 n9 hh => ?_)
  obtain ⟨rfl, rfl, rfl⟩ := hh
  refine aw_istore_n C dX9_tookTold_4 (by decide) rfl ?_
  refine aw_nl [some (.ref 181), some (.int r1.1), none] rfl ?_
  refine aw_iconst C 0 dX9_tookTold_5 ki_0 ?_
  refine aw_istore_n C dX9_tookTold_6 (by decide) rfl ?_
  refine aw_nl [some (.ref 181), some (.int r1.1), some (.int (0 : Int32))] rfl ?_
  refine aw_fl [some (.ref 181), some (.int r1.1), some (.int (0 : Int32))] ⟨rfl, ⟨rfl, ⟨rfl, trivial⟩⟩⟩ ?_
  exact rmX9_tookTold_l7 C rFU r1.1 (0 : Int32) r1.2 h
def mX9_remembersPair_b160 (σ : RS9) : Option (Int32 × RS9) := some ((0 : Int32), σ)
set_option maxHeartbeats 1000000 in
theorem rmX9_remembersPair_b160 {X : GX} {p : Program} {l : Launch} {e : Env} {s : State} {m : MethodId} {args : Array Value} {below : List Frame} {meth : Method} {c : Code} {f : AH} {n : Nat} {r : Int32 × RS9} {σ : RS9} (C : CC X p l (RM 0 0 0) s m args meth c RX9 cX9_remembersPair 4 none) (h : mX9_remembersPair_b160 σ = some r) : AW X p l e (RM 0 0 0) s m args below meth c 4 (ZM X below args s 0 0 (QMv f n r)) (rHm f σ) n 0 0 160 [none, none, none, none] [] := by
  have h : some ((0 : Int32), σ) = some r := h
  cases h
  exact aw_vret C rfl dX9_remembersPair_160 (Nat.le_refl _) (Nat.le_refl _) ⟨rfl, rfl, rfl⟩
def mX9_remembersPair_l110 : Nat → Int32 → Int32 → RS9 → Option (Int32 × RS9)
  | 0, _, _, _ => none
  | d + 1, v2, v3, σ => (if v2 ≤ v3 then rCk (rIn (42 : Int32) (rLen 1)) ((if (12 : Int32) ≤ (rGa σ 1 (42 : Int32)) then mX9_remembersPair_b160 σ else rCk (rIn (42 : Int32) (rLen 1)) (rCk (rIn (42 : Int32) (rLen 1)) (mX9_remembersPair_b160 (rSa σ 1 (42 : Int32) ((rGa σ 1 (42 : Int32)) + (1 : Int32))))))) else rCk (rIn v3 (rLen 53)) (rCk (rIn ((2945 : Int32) + v3) (rLen 1)) (mX9_remembersPair_l110 d v2 (v3 + (1 : Int32)) (rSa σ 1 ((2945 : Int32) + v3) (rGa σ 53 v3)))))
set_option maxHeartbeats 1000000 in
theorem rmX9_remembersPair_l110 {X : GX} {p : Program} {l : Launch} {e : Env} {s : State} {m : MethodId} {args : Array Value} {below : List Frame} {meth : Method} {c : Code} {f : AH} {n : Nat} {r : Int32 × RS9} (C : CC X p l (RM 0 0 0) s m args meth c RX9 cX9_remembersPair 4 none) : ∀ (d : Nat) (v2 : Int32) (v3 : Int32) (σ : RS9) (_ : mX9_remembersPair_l110 d v2 v3 σ = some r), AW X p l e (RM 0 0 0) s m args below meth c 4 (ZM X below args s 0 0 (QMv f n r)) (rHm f σ) n 0 0 110 [some (.ref 181), none, some (.int v2), some (.int v3)] [] := by
  intro d
  induction d with
  | zero =>
    intro v2 v3 σ h
    exact nomatch (show (none : Option (Int32 × RS9)) = some r from h)
  | succ d ih =>
    intro v2 v3 σ h
    have h : (if v2 ≤ v3 then rCk (rIn (42 : Int32) (rLen 1)) ((if (12 : Int32) ≤ (rGa σ 1 (42 : Int32)) then mX9_remembersPair_b160 σ else rCk (rIn (42 : Int32) (rLen 1)) (rCk (rIn (42 : Int32) (rLen 1)) (mX9_remembersPair_b160 (rSa σ 1 (42 : Int32) ((rGa σ 1 (42 : Int32)) + (1 : Int32))))))) else rCk (rIn v3 (rLen 53)) (rCk (rIn ((2945 : Int32) + v3) (rLen 1)) (mX9_remembersPair_l110 d v2 (v3 + (1 : Int32)) (rSa σ 1 ((2945 : Int32) + v3) (rGa σ 53 v3))))) = some r := h
    refine aw_iload_n C dX9_remembersPair_110 rfl ?_
    refine aw_iload_n C dX9_remembersPair_111 rfl ?_
    refine aw_icmp_ge C 137 dX9_remembersPair_112 (by decide) (fun q => ?_) (fun q => ?_)
    · rw [if_pos q] at h
      refine aw_ald_n C dX9_remembersPair_137 rfl ?_
      refine aw_get C (v := .ref (rAid 1)) gf_X9_7 (hm_M f σ) rfl dX9_remembersPair_138 ?_
      refine aw_bipush C 42 dX9_remembersPair_141 kb_42 ?_
      obtain ⟨hb1, h⟩ := ck_some h
      refine am_iald C (rGa σ 1 (42 : Int32)) rfl (inb_vp hb1) rfl dX9_remembersPair_143 ?_
      refine aw_bipush C 12 dX9_remembersPair_144 kb_12 ?_
      refine aw_icmp_ge C 160 dX9_remembersPair_146 (by decide) (fun q => ?_) (fun q => ?_)
      · rw [if_pos q] at h
        refine aw_fl [none, none, none, none] trivial ?_
        exact rmX9_remembersPair_b160 C h
      · rw [if_neg q] at h
        refine aw_ald_n C dX9_remembersPair_149 rfl ?_
        refine aw_get C (v := .ref (rAid 1)) gf_X9_7 (hm_M f σ) rfl dX9_remembersPair_150 ?_
        refine aw_bipush C 42 dX9_remembersPair_153 kb_42 ?_
        refine aw_dup2 C dX9_remembersPair_155 rfl rfl ?_
        obtain ⟨hb2, h⟩ := ck_some h
        refine am_iald C (rGa σ 1 (42 : Int32)) rfl (inb_vp hb2) rfl dX9_remembersPair_156 ?_
        refine aw_iconst C 1 dX9_remembersPair_157 ki_1 ?_
        refine aw_iadd C dX9_remembersPair_158 ?_
        obtain ⟨hb3, h⟩ := ck_some h
        refine am_iast C rfl (inb_vp hb3) dX9_remembersPair_159 ?_
        refine aw_fl [none, none, none, none] trivial ?_
        exact rmX9_remembersPair_b160 C h
    · rw [if_neg q] at h
      refine aw_ald_n C dX9_remembersPair_115 rfl ?_
      refine aw_get C (v := .ref (rAid 1)) gf_X9_7 (hm_M f σ) rfl dX9_remembersPair_116 ?_
      refine aw_sipush C 2945 dX9_remembersPair_119 ks_2945 ?_
      refine aw_iload_n C dX9_remembersPair_122 rfl ?_
      refine aw_iadd C dX9_remembersPair_123 ?_
      refine aw_ald_n C dX9_remembersPair_124 rfl ?_
      refine aw_get C (v := .ref (rAid 53)) gf_X9_132 (hm_M f σ) rfl dX9_remembersPair_125 ?_
      refine aw_iload_n C dX9_remembersPair_128 rfl ?_
      obtain ⟨hb4, h⟩ := ck_some h
      refine am_iald C (rGa σ 53 v3) rfl (inb_vp hb4) rfl dX9_remembersPair_129 ?_
      obtain ⟨hb5, h⟩ := ck_some h
      refine am_iast C rfl (inb_vp hb5) dX9_remembersPair_130 ?_
      refine aw_iinc C (v3 + (1 : Int32)) dX9_remembersPair_131 rfl (by rw [ki_1]) (by decide) rfl ?_
      refine aw_nl [some (.ref 181), none, some (.int v2), some (.int (v3 + (1 : Int32)))] rfl ?_
      refine aw_goto C 110 dX9_remembersPair_134 (by decide) ?_
      refine aw_fl [some (.ref 181), none, some (.int v2), some (.int (v3 + (1 : Int32)))] ⟨rfl, ⟨rfl, ⟨rfl, trivial⟩⟩⟩ ?_
      exact ih v2 (v3 + (1 : Int32)) (rSa σ 1 ((2945 : Int32) + v3) (rGa σ 53 v3)) h
def mX9_remembersPair_l60 : Nat → Int32 → Int32 → Int32 → RS9 → Option (Int32 × RS9)
  | 0, _, _, _, _ => none
  | d + 1, v1, v2, v3, σ => rCk (rIn v1 (rLen 42)) ((if (rGa σ 42 v1) ≤ v3 then rCk (rIn (2944 : Int32) (rLen 1)) (mX9_remembersPair_l110 rFU v2 (0 : Int32) (rSa σ 1 (2944 : Int32) v2)) else rCk (rIn v1 (rLen 41)) (rCk (rIn ((rGa σ 41 v1) + v3) (rLen 43)) (rCk (rIn ((2884 : Int32) + v3) (rLen 1)) (mX9_remembersPair_l60 d v1 v2 (v3 + (1 : Int32)) (rSa σ 1 ((2884 : Int32) + v3) (rGa σ 43 ((rGa σ 41 v1) + v3))))))))
set_option maxHeartbeats 1000000 in
theorem rmX9_remembersPair_l60 {X : GX} {p : Program} {l : Launch} {e : Env} {s : State} {m : MethodId} {args : Array Value} {below : List Frame} {meth : Method} {c : Code} {f : AH} {n : Nat} {r : Int32 × RS9} (C : CC X p l (RM 0 0 0) s m args meth c RX9 cX9_remembersPair 4 none) : ∀ (d : Nat) (v1 : Int32) (v2 : Int32) (v3 : Int32) (σ : RS9) (_ : mX9_remembersPair_l60 d v1 v2 v3 σ = some r), AW X p l e (RM 0 0 0) s m args below meth c 4 (ZM X below args s 0 0 (QMv f n r)) (rHm f σ) n 0 0 60 [some (.ref 181), some (.int v1), some (.int v2), some (.int v3)] [] := by
  intro d
  induction d with
  | zero =>
    intro v1 v2 v3 σ h
    exact nomatch (show (none : Option (Int32 × RS9)) = some r from h)
  | succ d ih =>
    intro v1 v2 v3 σ h
    have h : rCk (rIn v1 (rLen 42)) ((if (rGa σ 42 v1) ≤ v3 then rCk (rIn (2944 : Int32) (rLen 1)) (mX9_remembersPair_l110 rFU v2 (0 : Int32) (rSa σ 1 (2944 : Int32) v2)) else rCk (rIn v1 (rLen 41)) (rCk (rIn ((rGa σ 41 v1) + v3) (rLen 43)) (rCk (rIn ((2884 : Int32) + v3) (rLen 1)) (mX9_remembersPair_l60 d v1 v2 (v3 + (1 : Int32)) (rSa σ 1 ((2884 : Int32) + v3) (rGa σ 43 ((rGa σ 41 v1) + v3)))))))) = some r := h
    refine aw_iload_n C dX9_remembersPair_60 rfl ?_
    refine aw_ald_n C dX9_remembersPair_61 rfl ?_
    refine aw_get C (v := .ref (rAid 42)) gf_X9_105 (hm_M f σ) rfl dX9_remembersPair_62 ?_
    refine aw_iload_n C dX9_remembersPair_65 rfl ?_
    obtain ⟨hb1, h⟩ := ck_some h
    refine am_iald C (rGa σ 42 v1) rfl (inb_vp hb1) rfl dX9_remembersPair_66 ?_
    refine aw_icmp_ge C 99 dX9_remembersPair_67 (by decide) (fun q => ?_) (fun q => ?_)
    · rw [if_pos q] at h
      refine aw_ald_n C dX9_remembersPair_99 rfl ?_
      refine aw_get C (v := .ref (rAid 1)) gf_X9_7 (hm_M f σ) rfl dX9_remembersPair_100 ?_
      refine aw_sipush C 2944 dX9_remembersPair_103 ks_2944 ?_
      refine aw_iload_n C dX9_remembersPair_106 rfl ?_
      obtain ⟨hb2, h⟩ := ck_some h
      refine am_iast C rfl (inb_vp hb2) dX9_remembersPair_107 ?_
      refine aw_iconst C 0 dX9_remembersPair_108 ki_0 ?_
      refine aw_istore_n C dX9_remembersPair_109 (by decide) rfl ?_
      refine aw_nl [some (.ref 181), some (.int v1), some (.int v2), some (.int (0 : Int32))] rfl ?_
      refine aw_fl [some (.ref 181), none, some (.int v2), some (.int (0 : Int32))] ⟨rfl, ⟨rfl, ⟨rfl, trivial⟩⟩⟩ ?_
      exact rmX9_remembersPair_l110 C rFU v2 (0 : Int32) (rSa σ 1 (2944 : Int32) v2) h
    · rw [if_neg q] at h
      refine aw_ald_n C dX9_remembersPair_70 rfl ?_
      refine aw_get C (v := .ref (rAid 1)) gf_X9_7 (hm_M f σ) rfl dX9_remembersPair_71 ?_
      refine aw_sipush C 2884 dX9_remembersPair_74 ks_2884 ?_
      refine aw_iload_n C dX9_remembersPair_77 rfl ?_
      refine aw_iadd C dX9_remembersPair_78 ?_
      refine aw_ald_n C dX9_remembersPair_79 rfl ?_
      refine aw_get C (v := .ref (rAid 43)) gf_X9_108 (hm_M f σ) rfl dX9_remembersPair_80 ?_
      refine aw_ald_n C dX9_remembersPair_83 rfl ?_
      refine aw_get C (v := .ref (rAid 41)) gf_X9_102 (hm_M f σ) rfl dX9_remembersPair_84 ?_
      refine aw_iload_n C dX9_remembersPair_87 rfl ?_
      obtain ⟨hb3, h⟩ := ck_some h
      refine am_iald C (rGa σ 41 v1) rfl (inb_vp hb3) rfl dX9_remembersPair_88 ?_
      refine aw_iload_n C dX9_remembersPair_89 rfl ?_
      refine aw_iadd C dX9_remembersPair_90 ?_
      obtain ⟨hb4, h⟩ := ck_some h
      refine am_iald C (rGa σ 43 ((rGa σ 41 v1) + v3)) rfl (inb_vp hb4) rfl dX9_remembersPair_91 ?_
      obtain ⟨hb5, h⟩ := ck_some h
      refine am_iast C rfl (inb_vp hb5) dX9_remembersPair_92 ?_
      refine aw_iinc C (v3 + (1 : Int32)) dX9_remembersPair_93 rfl (by rw [ki_1]) (by decide) rfl ?_
      refine aw_nl [some (.ref 181), some (.int v1), some (.int v2), some (.int (v3 + (1 : Int32)))] rfl ?_
      refine aw_goto C 60 dX9_remembersPair_96 (by decide) ?_
      refine aw_fl [some (.ref 181), some (.int v1), some (.int v2), some (.int (v3 + (1 : Int32)))] ⟨rfl, ⟨rfl, ⟨rfl, ⟨rfl, trivial⟩⟩⟩⟩ ?_
      exact ih v1 v2 (v3 + (1 : Int32)) (rSa σ 1 ((2884 : Int32) + v3) (rGa σ 43 ((rGa σ 41 v1) + v3))) h
def mX9_remembersPair_l16 : Nat → Int32 → Int32 → Int32 → RS9 → Option (Int32 × RS9)
  | 0, _, _, _, _ => none
  | d + 1, v1, v2, v3, σ => (if v3 < (3005 : Int32) then rCk (rIn v1 (rLen 42)) (rCk (rIn (2883 : Int32) (rLen 1)) (mX9_remembersPair_l60 rFU v1 v2 (0 : Int32) (rSa σ 1 (2883 : Int32) (rGa σ 42 v1)))) else rCk (rIn (v3 - (122 : Int32)) (rLen 1)) (rCk (rIn v3 (rLen 1)) (mX9_remembersPair_l16 d v1 v2 (v3 + (-1 : Int32)) (rSa σ 1 v3 (rGa σ 1 (v3 - (122 : Int32)))))))
set_option maxHeartbeats 1000000 in
theorem rmX9_remembersPair_l16 {X : GX} {p : Program} {l : Launch} {e : Env} {s : State} {m : MethodId} {args : Array Value} {below : List Frame} {meth : Method} {c : Code} {f : AH} {n : Nat} {r : Int32 × RS9} (C : CC X p l (RM 0 0 0) s m args meth c RX9 cX9_remembersPair 4 none) : ∀ (d : Nat) (v1 : Int32) (v2 : Int32) (v3 : Int32) (σ : RS9) (_ : mX9_remembersPair_l16 d v1 v2 v3 σ = some r), AW X p l e (RM 0 0 0) s m args below meth c 4 (ZM X below args s 0 0 (QMv f n r)) (rHm f σ) n 0 0 16 [some (.ref 181), some (.int v1), some (.int v2), some (.int v3)] [] := by
  intro d
  induction d with
  | zero =>
    intro v1 v2 v3 σ h
    exact nomatch (show (none : Option (Int32 × RS9)) = some r from h)
  | succ d ih =>
    intro v1 v2 v3 σ h
    have h : (if v3 < (3005 : Int32) then rCk (rIn v1 (rLen 42)) (rCk (rIn (2883 : Int32) (rLen 1)) (mX9_remembersPair_l60 rFU v1 v2 (0 : Int32) (rSa σ 1 (2883 : Int32) (rGa σ 42 v1)))) else rCk (rIn (v3 - (122 : Int32)) (rLen 1)) (rCk (rIn v3 (rLen 1)) (mX9_remembersPair_l16 d v1 v2 (v3 + (-1 : Int32)) (rSa σ 1 v3 (rGa σ 1 (v3 - (122 : Int32))))))) = some r := h
    refine aw_iload_n C dX9_remembersPair_16 rfl ?_
    refine aw_sipush C 3005 dX9_remembersPair_17 ks_3005 ?_
    refine aw_icmp_lt C 44 dX9_remembersPair_20 (by decide) (fun q => ?_) (fun q => ?_)
    · rw [if_pos q] at h
      refine aw_ald_n C dX9_remembersPair_44 rfl ?_
      refine aw_get C (v := .ref (rAid 1)) gf_X9_7 (hm_M f σ) rfl dX9_remembersPair_45 ?_
      refine aw_sipush C 2883 dX9_remembersPair_48 ks_2883 ?_
      refine aw_ald_n C dX9_remembersPair_51 rfl ?_
      refine aw_get C (v := .ref (rAid 42)) gf_X9_105 (hm_M f σ) rfl dX9_remembersPair_52 ?_
      refine aw_iload_n C dX9_remembersPair_55 rfl ?_
      obtain ⟨hb1, h⟩ := ck_some h
      refine am_iald C (rGa σ 42 v1) rfl (inb_vp hb1) rfl dX9_remembersPair_56 ?_
      obtain ⟨hb2, h⟩ := ck_some h
      refine am_iast C rfl (inb_vp hb2) dX9_remembersPair_57 ?_
      refine aw_iconst C 0 dX9_remembersPair_58 ki_0 ?_
      refine aw_istore_n C dX9_remembersPair_59 (by decide) rfl ?_
      refine aw_nl [some (.ref 181), some (.int v1), some (.int v2), some (.int (0 : Int32))] rfl ?_
      refine aw_fl [some (.ref 181), some (.int v1), some (.int v2), some (.int (0 : Int32))] ⟨rfl, ⟨rfl, ⟨rfl, ⟨rfl, trivial⟩⟩⟩⟩ ?_
      exact rmX9_remembersPair_l60 C rFU v1 v2 (0 : Int32) (rSa σ 1 (2883 : Int32) (rGa σ 42 v1)) h
    · rw [if_neg q] at h
      refine aw_ald_n C dX9_remembersPair_23 rfl ?_
      refine aw_get C (v := .ref (rAid 1)) gf_X9_7 (hm_M f σ) rfl dX9_remembersPair_24 ?_
      refine aw_iload_n C dX9_remembersPair_27 rfl ?_
      refine aw_ald_n C dX9_remembersPair_28 rfl ?_
      refine aw_get C (v := .ref (rAid 1)) gf_X9_7 (hm_M f σ) rfl dX9_remembersPair_29 ?_
      refine aw_iload_n C dX9_remembersPair_32 rfl ?_
      refine aw_bipush C 122 dX9_remembersPair_33 kb_122 ?_
      refine aw_isub C dX9_remembersPair_35 ?_
      obtain ⟨hb3, h⟩ := ck_some h
      refine am_iald C (rGa σ 1 (v3 - (122 : Int32))) rfl (inb_vp hb3) rfl dX9_remembersPair_36 ?_
      obtain ⟨hb4, h⟩ := ck_some h
      refine am_iast C rfl (inb_vp hb4) dX9_remembersPair_37 ?_
      refine aw_iinc C (v3 + (-1 : Int32)) dX9_remembersPair_38 rfl (by rw [ki_m1]) (by decide) rfl ?_
      refine aw_nl [some (.ref 181), some (.int v1), some (.int v2), some (.int (v3 + (-1 : Int32)))] rfl ?_
      refine aw_goto C 16 dX9_remembersPair_41 (by decide) ?_
      refine aw_fl [some (.ref 181), some (.int v1), some (.int v2), some (.int (v3 + (-1 : Int32)))] ⟨rfl, ⟨rfl, ⟨rfl, ⟨rfl, trivial⟩⟩⟩⟩ ?_
      exact ih v1 v2 (v3 + (-1 : Int32)) (rSa σ 1 v3 (rGa σ 1 (v3 - (122 : Int32)))) h
def mX9_remembersPair (v1 : Int32) (v2 : Int32) (σ : RS9) : Option (Int32 × RS9) := rCk (rIn v1 (rLen 42)) ((if (rGa σ 42 v1) ≤ (60 : Int32) then mX9_remembersPair_l16 rFU v1 v2 (4346 : Int32) σ else some ((0 : Int32), σ)))
set_option maxHeartbeats 1000000 in
theorem rmX9_remembersPair {X : GX} {l : Launch} {f : AH} {n : Nat} {r : Int32 × RS9} {v1 : Int32} {v2 : Int32} {σ : RS9} (h : mX9_remembersPair v1 v2 σ = some r) : AM X l yX9_remembersPair cX9_remembersPair 4 none 0 0 0 [.ref 181, .int v1, .int v2] (rHm f σ) n (QMv f n r) := by
  have h : rCk (rIn v1 (rLen 42)) ((if (rGa σ 42 v1) ≤ (60 : Int32) then mX9_remembersPair_l16 rFU v1 v2 (4346 : Int32) σ else some ((0 : Int32), σ))) = some r := h
  refine AM.of (by decide +kernel) rfl (Nat.le_of_ble_eq_true rfl) (fun p e s m args below meth c C _ => ?_)
  refine aw_nl [some (.ref 181), some (.int v1), some (.int v2), none] rfl ?_
  refine aw_ald_n C dX9_remembersPair_0 rfl ?_
  refine aw_get C (v := .ref (rAid 42)) gf_X9_105 (hm_M f σ) rfl dX9_remembersPair_1 ?_
  refine aw_iload_n C dX9_remembersPair_4 rfl ?_
  obtain ⟨hb1, h⟩ := ck_some h
  refine am_iald C (rGa σ 42 v1) rfl (inb_vp hb1) rfl dX9_remembersPair_5 ?_
  refine aw_bipush C 60 dX9_remembersPair_6 kb_60 ?_
  refine aw_icmp_le C 12 dX9_remembersPair_8 (by decide) (fun q => ?_) (fun q => ?_)
  · rw [if_pos q] at h
    refine aw_sipush C 4346 dX9_remembersPair_12 ks_4346 ?_
    refine aw_istore_n C dX9_remembersPair_15 (by decide) rfl ?_
    refine aw_nl [some (.ref 181), some (.int v1), some (.int v2), some (.int (4346 : Int32))] rfl ?_
    refine aw_fl [some (.ref 181), some (.int v1), some (.int v2), some (.int (4346 : Int32))] ⟨rfl, ⟨rfl, ⟨rfl, ⟨rfl, trivial⟩⟩⟩⟩ ?_
    exact rmX9_remembersPair_l16 C rFU v1 v2 (4346 : Int32) σ h
  · rw [if_neg q] at h
    cases h
    exact aw_vret C rfl dX9_remembersPair_11 (Nat.le_refl _) (Nat.le_refl _) ⟨rfl, rfl, rfl⟩
def mX9_likeMany_b27 (rec4 : Int32 → Int32 → Int32 → RS9 → Option (Int32 × RS9)) (v1 : Int32) (v3 : Int32) (s0 : Int32) (s1 : Int32) (σ : RS9) : Option (Int32 × RS9) := rec4 v1 (s0 + s1) (v3 + (1 : Int32)) σ
set_option maxHeartbeats 1000000 in
theorem rmX9_likeMany_b27 {X : GX} {p : Program} {l : Launch} {e : Env} {s : State} {m : MethodId} {args : Array Value} {below : List Frame} {meth : Method} {c : Code} {f : AH} {n : Nat} {r : Int32 × RS9} {rec4 : Int32 → Int32 → Int32 → RS9 → Option (Int32 × RS9)} {v1 : Int32} {v3 : Int32} {s0 : Int32} {s1 : Int32} {σ : RS9} (C : CC X p l (RM 1 0 0) s m args meth c RX9 cX9_likeMany 4 (some .int)) (Hr4 : ∀ (v1 : Int32) (v2 : Int32) (v3 : Int32) (σ : RS9), rec4 v1 v2 v3 σ = some r → AW X p l e (RM 1 0 0) s m args below meth c 4 (ZM X below args s 0 0 (QMi f n r)) (rHm f σ) n 0 0 4 [some (.ref 181), some (.int v1), some (.int v2), some (.int v3)] []) (h : mX9_likeMany_b27 rec4 v1 v3 s0 s1 σ = some r) : AW X p l e (RM 1 0 0) s m args below meth c 4 (ZM X below args s 0 0 (QMi f n r)) (rHm f σ) n 0 0 27 [some (.ref 181), some (.int v1), none, some (.int v3)] [.int s1, .int s0] := by
  have h : rec4 v1 (s0 + s1) (v3 + (1 : Int32)) σ = some r := h
  refine aw_iadd C dX9_likeMany_27 ?_
  refine aw_istore_n C dX9_likeMany_28 (by decide) rfl ?_
  refine aw_nl [some (.ref 181), some (.int v1), some (.int (s0 + s1)), some (.int v3)] rfl ?_
  refine aw_iinc C (v3 + (1 : Int32)) dX9_likeMany_29 rfl (by rw [ki_1]) (by decide) rfl ?_
  refine aw_nl [some (.ref 181), some (.int v1), some (.int (s0 + s1)), some (.int (v3 + (1 : Int32)))] rfl ?_
  refine aw_goto C 4 dX9_likeMany_32 (by decide) ?_
  refine aw_fl [some (.ref 181), some (.int v1), some (.int (s0 + s1)), some (.int (v3 + (1 : Int32)))] ⟨rfl, ⟨rfl, ⟨rfl, ⟨rfl, trivial⟩⟩⟩⟩ ?_
  exact Hr4 v1 (s0 + s1) (v3 + (1 : Int32)) σ h
def mX9_likeMany_l4 : Nat → Int32 → Int32 → Int32 → RS9 → Option (Int32 × RS9)
  | 0, _, _, _, _ => none
  | d + 1, v1, v2, v3, σ => (if (σ.1 33) ≤ v3 then some (v2, σ) else ((mX9_areLike v1 v3 σ).bind fun r1 => (if r1.1 = (0 : Int32) then mX9_likeMany_b27 (fun v1 v2 v3 σ => mX9_likeMany_l4 d v1 v2 v3 σ) v1 v3 v2 (0 : Int32) r1.2 else mX9_likeMany_b27 (fun v1 v2 v3 σ => mX9_likeMany_l4 d v1 v2 v3 σ) v1 v3 v2 (1 : Int32) r1.2)))
set_option maxHeartbeats 1000000 in
theorem rmX9_likeMany_l4 {X : GX} {p : Program} {l : Launch} {e : Env} {s : State} {m : MethodId} {args : Array Value} {below : List Frame} {meth : Method} {c : Code} {f : AH} {n : Nat} {r : Int32 × RS9} (C : CC X p l (RM 1 0 0) s m args meth c RX9 cX9_likeMany 4 (some .int)) : ∀ (d : Nat) (v1 : Int32) (v2 : Int32) (v3 : Int32) (σ : RS9) (_ : mX9_likeMany_l4 d v1 v2 v3 σ = some r), AW X p l e (RM 1 0 0) s m args below meth c 4 (ZM X below args s 0 0 (QMi f n r)) (rHm f σ) n 0 0 4 [some (.ref 181), some (.int v1), some (.int v2), some (.int v3)] [] := by
  intro d
  induction d with
  | zero =>
    intro v1 v2 v3 σ h
    exact nomatch (show (none : Option (Int32 × RS9)) = some r from h)
  | succ d ih =>
    intro v1 v2 v3 σ h
    have h : (if (σ.1 33) ≤ v3 then some (v2, σ) else ((mX9_areLike v1 v3 σ).bind fun r1 => (if r1.1 = (0 : Int32) then mX9_likeMany_b27 (fun v1 v2 v3 σ => mX9_likeMany_l4 d v1 v2 v3 σ) v1 v3 v2 (0 : Int32) r1.2 else mX9_likeMany_b27 (fun v1 v2 v3 σ => mX9_likeMany_l4 d v1 v2 v3 σ) v1 v3 v2 (1 : Int32) r1.2))) = some r := h
    refine aw_iload_n C dX9_likeMany_4 rfl ?_
    refine aw_ald_n C dX9_likeMany_5 rfl ?_
    refine aw_get C (v := .int (σ.1 33)) gf_X9_204 (hm_M f σ) rfl dX9_likeMany_6 ?_
    refine aw_icmp_ge C 35 dX9_likeMany_9 (by decide) (fun q => ?_) (fun q => ?_)
    · rw [if_pos q] at h
      refine aw_iload_n C dX9_likeMany_35 rfl ?_
      cases h
      exact aw_iret C rfl rfl dX9_likeMany_36 (Nat.le_refl _) (Nat.le_refl _) ⟨rfl, rfl, rfl⟩
    · rw [if_neg q] at h
      refine aw_iload_n C dX9_likeMany_12 rfl ?_
      refine aw_ald_n C dX9_likeMany_13 rfl ?_
      refine aw_iload_n C dX9_likeMany_14 rfl ?_
      refine aw_iload_n C dX9_likeMany_15 rfl ?_
      obtain ⟨r1, h1, h⟩ := Option.bind_eq_some_iff.mp h
      refine aw_callV C (ci := 9) (b := 181) [.int v1, .int v3] mv_X9_309 rfl rfl (hm_M f σ) (rmX9_areLike h1) rfl dX9_likeMany_16 (Nat.le_of_ble_eq_true rfl) (Nat.le_of_ble_eq_true rfl) rfl (Nat.le_of_ble_eq_true rfl) (Nat.le_of_ble_eq_true rfl) (Nat.le_of_ble_eq_true rfl) (fun v9 f9 n9 hh => ?_)
      obtain ⟨rfl, rfl, rfl⟩ := hh
      refine aw_if_eq C 26 dX9_likeMany_19 (by decide) (fun q => ?_) (fun q => ?_)
      · rw [if_pos q] at h
        refine aw_iconst C 0 dX9_likeMany_26 ki_0 ?_
        refine aw_fl [some (.ref 181), some (.int v1), none, some (.int v3)] ⟨rfl, ⟨rfl, ⟨rfl, trivial⟩⟩⟩ ?_
        exact rmX9_likeMany_b27 C (fun v1 v2 v3 σ h => ih v1 v2 v3 σ h) h
      · rw [if_neg q] at h
        refine aw_iconst C 1 dX9_likeMany_22 ki_1 ?_
        refine aw_goto C 27 dX9_likeMany_23 (by decide) ?_
        refine aw_fl [some (.ref 181), some (.int v1), none, some (.int v3)] ⟨rfl, ⟨rfl, ⟨rfl, trivial⟩⟩⟩ ?_
        exact rmX9_likeMany_b27 C (fun v1 v2 v3 σ h => ih v1 v2 v3 σ h) h
def mX9_likeMany (v1 : Int32) (σ : RS9) : Option (Int32 × RS9) := mX9_likeMany_l4 rFU v1 (0 : Int32) (0 : Int32) σ
set_option maxHeartbeats 1000000 in
theorem rmX9_likeMany {X : GX} {l : Launch} {f : AH} {n : Nat} {r : Int32 × RS9} {v1 : Int32} {σ : RS9} (h : mX9_likeMany v1 σ = some r) : AM X l yX9_likeMany cX9_likeMany 4 (some .int) 1 0 0 [.ref 181, .int v1] (rHm f σ) n (QMi f n r) := by
  have h : mX9_likeMany_l4 rFU v1 (0 : Int32) (0 : Int32) σ = some r := h
  refine AM.of (by decide +kernel) rfl (Nat.le_of_ble_eq_true rfl) (fun p e s m args below meth c C _ => ?_)
  refine aw_nl [some (.ref 181), some (.int v1), none, none] rfl ?_
  refine aw_iconst C 0 dX9_likeMany_0 ki_0 ?_
  refine aw_istore_n C dX9_likeMany_1 (by decide) rfl ?_
  refine aw_nl [some (.ref 181), some (.int v1), some (.int (0 : Int32)), none] rfl ?_
  refine aw_iconst C 0 dX9_likeMany_2 ki_0 ?_
  refine aw_istore_n C dX9_likeMany_3 (by decide) rfl ?_
  refine aw_nl [some (.ref 181), some (.int v1), some (.int (0 : Int32)), some (.int (0 : Int32))] rfl ?_
  refine aw_fl [some (.ref 181), some (.int v1), some (.int (0 : Int32)), some (.int (0 : Int32))] ⟨rfl, ⟨rfl, ⟨rfl, ⟨rfl, trivial⟩⟩⟩⟩ ?_
  exact rmX9_likeMany_l4 C rFU v1 (0 : Int32) (0 : Int32) σ h
def mX9_wordsOf_b49 (rec4 : Int32 → Int32 → Int32 → RS9 → Option (Int32 × RS9)) (v1 : Int32) (v3 : Int32) (s0 : Int32) (s1 : Int32) (σ : RS9) : Option (Int32 × RS9) := rec4 v1 (s0 + s1) (v3 + (1 : Int32)) σ
set_option maxHeartbeats 1000000 in
theorem rmX9_wordsOf_b49 {X : GX} {p : Program} {l : Launch} {e : Env} {s : State} {m : MethodId} {args : Array Value} {below : List Frame} {meth : Method} {c : Code} {f : AH} {n : Nat} {r : Int32 × RS9} {rec4 : Int32 → Int32 → Int32 → RS9 → Option (Int32 × RS9)} {v1 : Int32} {v3 : Int32} {s0 : Int32} {s1 : Int32} {σ : RS9} (C : CC X p l (RM 2 0 0) s m args meth c RX9 cX9_wordsOf 4 (some .int)) (Hr4 : ∀ (v1 : Int32) (v2 : Int32) (v3 : Int32) (σ : RS9), rec4 v1 v2 v3 σ = some r → AW X p l e (RM 2 0 0) s m args below meth c 4 (ZM X below args s 0 0 (QMi f n r)) (rHm f σ) n 0 0 4 [some (.ref 181), some (.int v1), some (.int v2), some (.int v3)] []) (h : mX9_wordsOf_b49 rec4 v1 v3 s0 s1 σ = some r) : AW X p l e (RM 2 0 0) s m args below meth c 4 (ZM X below args s 0 0 (QMi f n r)) (rHm f σ) n 0 0 49 [some (.ref 181), some (.int v1), none, some (.int v3)] [.int s1, .int s0] := by
  have h : rec4 v1 (s0 + s1) (v3 + (1 : Int32)) σ = some r := h
  refine aw_iadd C dX9_wordsOf_49 ?_
  refine aw_istore_n C dX9_wordsOf_50 (by decide) rfl ?_
  refine aw_nl [some (.ref 181), some (.int v1), some (.int (s0 + s1)), some (.int v3)] rfl ?_
  refine aw_iinc C (v3 + (1 : Int32)) dX9_wordsOf_51 rfl (by rw [ki_1]) (by decide) rfl ?_
  refine aw_nl [some (.ref 181), some (.int v1), some (.int (s0 + s1)), some (.int (v3 + (1 : Int32)))] rfl ?_
  refine aw_goto C 4 dX9_wordsOf_54 (by decide) ?_
  refine aw_fl [some (.ref 181), some (.int v1), some (.int (s0 + s1)), some (.int (v3 + (1 : Int32)))] ⟨rfl, ⟨rfl, ⟨rfl, ⟨rfl, trivial⟩⟩⟩⟩ ?_
  exact Hr4 v1 (s0 + s1) (v3 + (1 : Int32)) σ h
def mX9_wordsOf_b48 (rec4 : Int32 → Int32 → Int32 → RS9 → Option (Int32 × RS9)) (v1 : Int32) (v3 : Int32) (s0 : Int32) (σ : RS9) : Option (Int32 × RS9) := mX9_wordsOf_b49 rec4 v1 v3 s0 (0 : Int32) σ
set_option maxHeartbeats 1000000 in
theorem rmX9_wordsOf_b48 {X : GX} {p : Program} {l : Launch} {e : Env} {s : State} {m : MethodId} {args : Array Value} {below : List Frame} {meth : Method} {c : Code} {f : AH} {n : Nat} {r : Int32 × RS9} {rec4 : Int32 → Int32 → Int32 → RS9 → Option (Int32 × RS9)} {v1 : Int32} {v3 : Int32} {s0 : Int32} {σ : RS9} (C : CC X p l (RM 2 0 0) s m args meth c RX9 cX9_wordsOf 4 (some .int)) (Hr4 : ∀ (v1 : Int32) (v2 : Int32) (v3 : Int32) (σ : RS9), rec4 v1 v2 v3 σ = some r → AW X p l e (RM 2 0 0) s m args below meth c 4 (ZM X below args s 0 0 (QMi f n r)) (rHm f σ) n 0 0 4 [some (.ref 181), some (.int v1), some (.int v2), some (.int v3)] []) (h : mX9_wordsOf_b48 rec4 v1 v3 s0 σ = some r) : AW X p l e (RM 2 0 0) s m args below meth c 4 (ZM X below args s 0 0 (QMi f n r)) (rHm f σ) n 0 0 48 [some (.ref 181), some (.int v1), none, some (.int v3)] [.int s0] := by
  have h : mX9_wordsOf_b49 rec4 v1 v3 s0 (0 : Int32) σ = some r := h
  refine aw_iconst C 0 dX9_wordsOf_48 ki_0 ?_
  refine aw_fl [some (.ref 181), some (.int v1), none, some (.int v3)] ⟨rfl, ⟨rfl, ⟨rfl, trivial⟩⟩⟩ ?_
  exact rmX9_wordsOf_b49 C Hr4 h
def mX9_wordsOf_b44 (rec4 : Int32 → Int32 → Int32 → RS9 → Option (Int32 × RS9)) (v1 : Int32) (v3 : Int32) (s0 : Int32) (σ : RS9) : Option (Int32 × RS9) := mX9_wordsOf_b49 rec4 v1 v3 s0 (1 : Int32) σ
set_option maxHeartbeats 1000000 in
theorem rmX9_wordsOf_b44 {X : GX} {p : Program} {l : Launch} {e : Env} {s : State} {m : MethodId} {args : Array Value} {below : List Frame} {meth : Method} {c : Code} {f : AH} {n : Nat} {r : Int32 × RS9} {rec4 : Int32 → Int32 → Int32 → RS9 → Option (Int32 × RS9)} {v1 : Int32} {v3 : Int32} {s0 : Int32} {σ : RS9} (C : CC X p l (RM 2 0 0) s m args meth c RX9 cX9_wordsOf 4 (some .int)) (Hr4 : ∀ (v1 : Int32) (v2 : Int32) (v3 : Int32) (σ : RS9), rec4 v1 v2 v3 σ = some r → AW X p l e (RM 2 0 0) s m args below meth c 4 (ZM X below args s 0 0 (QMi f n r)) (rHm f σ) n 0 0 4 [some (.ref 181), some (.int v1), some (.int v2), some (.int v3)] []) (h : mX9_wordsOf_b44 rec4 v1 v3 s0 σ = some r) : AW X p l e (RM 2 0 0) s m args below meth c 4 (ZM X below args s 0 0 (QMi f n r)) (rHm f σ) n 0 0 44 [some (.ref 181), some (.int v1), none, some (.int v3)] [.int s0] := by
  have h : mX9_wordsOf_b49 rec4 v1 v3 s0 (1 : Int32) σ = some r := h
  refine aw_iconst C 1 dX9_wordsOf_44 ki_1 ?_
  refine aw_goto C 49 dX9_wordsOf_45 (by decide) ?_
  refine aw_fl [some (.ref 181), some (.int v1), none, some (.int v3)] ⟨rfl, ⟨rfl, ⟨rfl, trivial⟩⟩⟩ ?_
  exact rmX9_wordsOf_b49 C Hr4 h
def mX9_wordsOf_l4 : Nat → Int32 → Int32 → Int32 → RS9 → Option (Int32 × RS9)
  | 0, _, _, _, _ => none
  | d + 1, v1, v2, v3, σ => ((mX9_nowMany v1 σ).bind fun r1 => (if r1.1 ≤ v3 then some (v2, r1.2) else ((mX9_nowByte v1 v3 r1.2).bind fun r2 => ((mX9_isLetter r2.1 r2.2).bind fun r3 => (if r3.1 = (0 : Int32) then mX9_wordsOf_b48 (fun v1 v2 v3 σ => mX9_wordsOf_l4 d v1 v2 v3 σ) v1 v3 v2 r3.2 else (if v3 = (0 : Int32) then mX9_wordsOf_b44 (fun v1 v2 v3 σ => mX9_wordsOf_l4 d v1 v2 v3 σ) v1 v3 v2 r3.2 else ((mX9_nowByte v1 (v3 - (1 : Int32)) r3.2).bind fun r4 => ((mX9_isLetter r4.1 r4.2).bind fun r5 => (if r5.1 = (0 : Int32) then mX9_wordsOf_b44 (fun v1 v2 v3 σ => mX9_wordsOf_l4 d v1 v2 v3 σ) v1 v3 v2 r5.2 else mX9_wordsOf_b48 (fun v1 v2 v3 σ => mX9_wordsOf_l4 d v1 v2 v3 σ) v1 v3 v2 r5.2)))))))))
set_option maxHeartbeats 1000000 in
theorem rmX9_wordsOf_l4 {X : GX} {p : Program} {l : Launch} {e : Env} {s : State} {m : MethodId} {args : Array Value} {below : List Frame} {meth : Method} {c : Code} {f : AH} {n : Nat} {r : Int32 × RS9} (C : CC X p l (RM 2 0 0) s m args meth c RX9 cX9_wordsOf 4 (some .int)) : ∀ (d : Nat) (v1 : Int32) (v2 : Int32) (v3 : Int32) (σ : RS9) (_ : mX9_wordsOf_l4 d v1 v2 v3 σ = some r), AW X p l e (RM 2 0 0) s m args below meth c 4 (ZM X below args s 0 0 (QMi f n r)) (rHm f σ) n 0 0 4 [some (.ref 181), some (.int v1), some (.int v2), some (.int v3)] [] := by
  intro d
  induction d with
  | zero =>
    intro v1 v2 v3 σ h
    exact nomatch (show (none : Option (Int32 × RS9)) = some r from h)
  | succ d ih =>
    intro v1 v2 v3 σ h
    have h : ((mX9_nowMany v1 σ).bind fun r1 => (if r1.1 ≤ v3 then some (v2, r1.2) else ((mX9_nowByte v1 v3 r1.2).bind fun r2 => ((mX9_isLetter r2.1 r2.2).bind fun r3 => (if r3.1 = (0 : Int32) then mX9_wordsOf_b48 (fun v1 v2 v3 σ => mX9_wordsOf_l4 d v1 v2 v3 σ) v1 v3 v2 r3.2 else (if v3 = (0 : Int32) then mX9_wordsOf_b44 (fun v1 v2 v3 σ => mX9_wordsOf_l4 d v1 v2 v3 σ) v1 v3 v2 r3.2 else ((mX9_nowByte v1 (v3 - (1 : Int32)) r3.2).bind fun r4 => ((mX9_isLetter r4.1 r4.2).bind fun r5 => (if r5.1 = (0 : Int32) then mX9_wordsOf_b44 (fun v1 v2 v3 σ => mX9_wordsOf_l4 d v1 v2 v3 σ) v1 v3 v2 r5.2 else mX9_wordsOf_b48 (fun v1 v2 v3 σ => mX9_wordsOf_l4 d v1 v2 v3 σ) v1 v3 v2 r5.2))))))))) = some r := h
    refine aw_iload_n C dX9_wordsOf_4 rfl ?_
    refine aw_ald_n C dX9_wordsOf_5 rfl ?_
    refine aw_iload_n C dX9_wordsOf_6 rfl ?_
    obtain ⟨r1, h1, h⟩ := Option.bind_eq_some_iff.mp h
    refine aw_callV C (ci := 9) (b := 181) [.int v1] mv_X9_313 rfl rfl (hm_M f σ) (rmX9_nowMany h1) rfl dX9_wordsOf_7 (Nat.le_of_ble_eq_true rfl) (Nat.le_of_ble_eq_true rfl) rfl (Nat.le_of_ble_eq_true rfl) (Nat.le_of_ble_eq_true rfl) (Nat.le_of_ble_eq_true rfl) (fun v9 f9 n9 hh => ?_)
    obtain ⟨rfl, rfl, rfl⟩ := hh
    refine aw_icmp_ge C 57 dX9_wordsOf_10 (by decide) (fun q => ?_) (fun q => ?_)
    · rw [if_pos q] at h
      refine aw_iload_n C dX9_wordsOf_57 rfl ?_
      cases h
      exact aw_iret C rfl rfl dX9_wordsOf_58 (Nat.le_refl _) (Nat.le_refl _) ⟨rfl, rfl, rfl⟩
    · rw [if_neg q] at h
      refine aw_iload_n C dX9_wordsOf_13 rfl ?_
      refine aw_ald_n C dX9_wordsOf_14 rfl ?_
      refine aw_iload_n C dX9_wordsOf_15 rfl ?_
      refine aw_iload_n C dX9_wordsOf_16 rfl ?_
      obtain ⟨r2, h2, h⟩ := Option.bind_eq_some_iff.mp h
      refine aw_callV C (ci := 9) (b := 181) [.int v1, .int v3] mv_X9_316 rfl rfl (hm_M f r1.2) (rmX9_nowByte h2) rfl dX9_wordsOf_17 (Nat.le_of_ble_eq_true rfl) (Nat.le_of_ble_eq_true rfl) rfl (Nat.le_of_ble_eq_true rfl) (Nat.le_of_ble_eq_true rfl) (Nat.le_of_ble_eq_true rfl) (fun v9 f9 n9 hh => ?_)
      obtain ⟨rfl, rfl, rfl⟩ := hh
      obtain ⟨r3, h3, h⟩ := Option.bind_eq_some_iff.mp h
      refine aw_callS C [.int r2.1] ms_X9_207 (rmX9_isLetter h3) rfl dX9_wordsOf_20 (Nat.le_of_ble_eq_true rfl) (Nat.le_of_ble_eq_true rfl) rfl (Nat.le_of_ble_eq_true rfl) (Nat.le_of_ble_eq_true rfl) (Nat.le_of_ble_eq_true rfl) (fun v9 f9 n9 hh => ?_)
      obtain ⟨rfl, rfl, rfl⟩ := hh
      refine aw_if_eq C 48 dX9_wordsOf_23 (by decide) (fun q => ?_) (fun q => ?_)
      · rw [if_pos q] at h
        refine aw_fl [some (.ref 181), some (.int v1), none, some (.int v3)] ⟨rfl, ⟨rfl, ⟨rfl, trivial⟩⟩⟩ ?_
        exact rmX9_wordsOf_b48 C (fun v1 v2 v3 σ h => ih v1 v2 v3 σ h) h
      · rw [if_neg q] at h
        refine aw_iload_n C dX9_wordsOf_26 rfl ?_
        refine aw_if_eq C 44 dX9_wordsOf_27 (by decide) (fun q => ?_) (fun q => ?_)
        · rw [if_pos q] at h
          refine aw_fl [some (.ref 181), some (.int v1), none, some (.int v3)] ⟨rfl, ⟨rfl, ⟨rfl, trivial⟩⟩⟩ ?_
          exact rmX9_wordsOf_b44 C (fun v1 v2 v3 σ h => ih v1 v2 v3 σ h) h
        · rw [if_neg q] at h
          refine aw_ald_n C dX9_wordsOf_30 rfl ?_
          refine aw_iload_n C dX9_wordsOf_31 rfl ?_
          refine aw_iload_n C dX9_wordsOf_32 rfl ?_
          refine aw_iconst C 1 dX9_wordsOf_33 ki_1 ?_
          refine aw_isub C dX9_wordsOf_34 ?_
          obtain ⟨r4, h4, h⟩ := Option.bind_eq_some_iff.mp h
          refine aw_callV C (ci := 9) (b := 181) [.int v1, .int (v3 - (1 : Int32))] mv_X9_316 rfl rfl (hm_M f r3.2) (rmX9_nowByte h4) rfl dX9_wordsOf_35 (Nat.le_of_ble_eq_true rfl) (Nat.le_of_ble_eq_true rfl) rfl (Nat.le_of_ble_eq_true rfl) (Nat.le_of_ble_eq_true rfl) (Nat.le_of_ble_eq_true rfl) (fun v9 f9 n9 hh => ?_)
          obtain ⟨rfl, rfl, rfl⟩ := hh
          obtain ⟨r5, h5, h⟩ := Option.bind_eq_some_iff.mp h
          refine aw_callS C [.int r4.1] ms_X9_207 (rmX9_isLetter h5) rfl dX9_wordsOf_38 (Nat.le_of_ble_eq_true rfl) (Nat.le_of_ble_eq_true rfl) rfl (Nat.le_of_ble_eq_true rfl) (Nat.le_of_ble_eq_true rfl) (Nat.le_of_ble_eq_true rfl) (fun v9 f9 n9 hh => ?_)
          obtain ⟨rfl, rfl, rfl⟩ := hh
          refine aw_if_ne C 48 dX9_wordsOf_41 (by decide) (fun q => ?_) (fun q => ?_)
          · rw [if_neg q] at h
            refine aw_fl [some (.ref 181), some (.int v1), none, some (.int v3)] ⟨rfl, ⟨rfl, ⟨rfl, trivial⟩⟩⟩ ?_
            exact rmX9_wordsOf_b48 C (fun v1 v2 v3 σ h => ih v1 v2 v3 σ h) h
          · rw [if_pos q] at h
            refine aw_fl [some (.ref 181), some (.int v1), none, some (.int v3)] ⟨rfl, ⟨rfl, ⟨rfl, trivial⟩⟩⟩ ?_
            exact rmX9_wordsOf_b44 C (fun v1 v2 v3 σ h => ih v1 v2 v3 σ h) h
def mX9_wordsOf (v1 : Int32) (σ : RS9) : Option (Int32 × RS9) := mX9_wordsOf_l4 rFU v1 (0 : Int32) (0 : Int32) σ
set_option maxHeartbeats 1000000 in
theorem rmX9_wordsOf {X : GX} {l : Launch} {f : AH} {n : Nat} {r : Int32 × RS9} {v1 : Int32} {σ : RS9} (h : mX9_wordsOf v1 σ = some r) : AM X l yX9_wordsOf cX9_wordsOf 4 (some .int) 2 0 0 [.ref 181, .int v1] (rHm f σ) n (QMi f n r) := by
  have h : mX9_wordsOf_l4 rFU v1 (0 : Int32) (0 : Int32) σ = some r := h
  refine AM.of (by decide +kernel) rfl (Nat.le_of_ble_eq_true rfl) (fun p e s m args below meth c C _ => ?_)
  refine aw_nl [some (.ref 181), some (.int v1), none, none] rfl ?_
  refine aw_iconst C 0 dX9_wordsOf_0 ki_0 ?_
  refine aw_istore_n C dX9_wordsOf_1 (by decide) rfl ?_
  refine aw_nl [some (.ref 181), some (.int v1), some (.int (0 : Int32)), none] rfl ?_
  refine aw_iconst C 0 dX9_wordsOf_2 ki_0 ?_
  refine aw_istore_n C dX9_wordsOf_3 (by decide) rfl ?_
  refine aw_nl [some (.ref 181), some (.int v1), some (.int (0 : Int32)), some (.int (0 : Int32))] rfl ?_
  refine aw_fl [some (.ref 181), some (.int v1), some (.int (0 : Int32)), some (.int (0 : Int32))] ⟨rfl, ⟨rfl, ⟨rfl, ⟨rfl, trivial⟩⟩⟩⟩ ?_
  exact rmX9_wordsOf_l4 C rFU v1 (0 : Int32) (0 : Int32) σ h
end
/-! part 22ah.ref -/
section
def mX9_knownOf_b104 (rec2 : Int32 → Int32 → RS9 → Option (Int32 × RS9)) (v1 : Int32) (v2 : Int32) (v4 : Int32) (σ : RS9) : Option (Int32 × RS9) := (if v4 = (0 : Int32) then rec2 v1 (v2 + (1 : Int32)) σ else some (v2, σ))
set_option maxHeartbeats 1000000 in
theorem rmX9_knownOf_b104 {X : GX} {p : Program} {l : Launch} {e : Env} {s : State} {m : MethodId} {args : Array Value} {below : List Frame} {meth : Method} {c : Code} {f : AH} {n : Nat} {r : Int32 × RS9} {rec2 : Int32 → Int32 → RS9 → Option (Int32 × RS9)} {v1 : Int32} {v2 : Int32} {v4 : Int32} {σ : RS9} (C : CC X p l (RM 0 0 0) s m args meth c RX9 cX9_knownOf 6 (some .int)) (Hr2 : ∀ (v1 : Int32) (v2 : Int32) (σ : RS9), rec2 v1 v2 σ = some r → AW X p l e (RM 0 0 0) s m args below meth c 6 (ZM X below args s 0 0 (QMi f n r)) (rHm f σ) n 0 0 2 [some (.ref 181), some (.int v1), some (.int v2), none, none, none] []) (h : mX9_knownOf_b104 rec2 v1 v2 v4 σ = some r) : AW X p l e (RM 0 0 0) s m args below meth c 6 (ZM X below args s 0 0 (QMi f n r)) (rHm f σ) n 0 0 104 [some (.ref 181), some (.int v1), some (.int v2), none, some (.int v4), none] [] := by
  have h : (if v4 = (0 : Int32) then rec2 v1 (v2 + (1 : Int32)) σ else some (v2, σ)) = some r := h
  refine aw_iload C dX9_knownOf_104 rfl ?_
  refine aw_if_eq C 111 dX9_knownOf_106 (by decide) (fun q => ?_) (fun q => ?_)
  · rw [if_pos q] at h
    refine aw_iinc C (v2 + (1 : Int32)) dX9_knownOf_111 rfl (by rw [ki_1]) (by decide) rfl ?_
    refine aw_nl [some (.ref 181), some (.int v1), some (.int (v2 + (1 : Int32))), none, some (.int v4), none] rfl ?_
    refine aw_goto C 2 dX9_knownOf_114 (by decide) ?_
    refine aw_fl [some (.ref 181), some (.int v1), some (.int (v2 + (1 : Int32))), none, none, none] ⟨rfl, ⟨rfl, ⟨rfl, trivial⟩⟩⟩ ?_
    exact Hr2 v1 (v2 + (1 : Int32)) σ h
  · rw [if_neg q] at h
    refine aw_iload_n C dX9_knownOf_109 rfl ?_
    cases h
    exact aw_iret C rfl rfl dX9_knownOf_110 (Nat.le_refl _) (Nat.le_refl _) ⟨rfl, rfl, rfl⟩
def mX9_knownOf_b96 (rec2 : Int32 → Int32 → RS9 → Option (Int32 × RS9)) (rec47 : Int32 → Int32 → Int32 → Int32 → Int32 → RS9 → Option (Int32 × RS9)) (v1 : Int32) (v2 : Int32) (v3 : Int32) (v5 : Int32) (s0 : Int32) (σ : RS9) : Option (Int32 × RS9) := rec47 v1 v2 v3 s0 (v5 + (1 : Int32)) σ
set_option maxHeartbeats 1000000 in
theorem rmX9_knownOf_b96 {X : GX} {p : Program} {l : Launch} {e : Env} {s : State} {m : MethodId} {args : Array Value} {below : List Frame} {meth : Method} {c : Code} {f : AH} {n : Nat} {r : Int32 × RS9} {rec2 : Int32 → Int32 → RS9 → Option (Int32 × RS9)} {rec47 : Int32 → Int32 → Int32 → Int32 → Int32 → RS9 → Option (Int32 × RS9)} {v1 : Int32} {v2 : Int32} {v3 : Int32} {v5 : Int32} {s0 : Int32} {σ : RS9} (C : CC X p l (RM 0 0 0) s m args meth c RX9 cX9_knownOf 6 (some .int)) (Hr2 : ∀ (v1 : Int32) (v2 : Int32) (σ : RS9), rec2 v1 v2 σ = some r → AW X p l e (RM 0 0 0) s m args below meth c 6 (ZM X below args s 0 0 (QMi f n r)) (rHm f σ) n 0 0 2 [some (.ref 181), some (.int v1), some (.int v2), none, none, none] []) (Hr47 : ∀ (v1 : Int32) (v2 : Int32) (v3 : Int32) (v4 : Int32) (v5 : Int32) (σ : RS9), rec47 v1 v2 v3 v4 v5 σ = some r → AW X p l e (RM 0 0 0) s m args below meth c 6 (ZM X below args s 0 0 (QMi f n r)) (rHm f σ) n 0 0 47 [some (.ref 181), some (.int v1), some (.int v2), some (.int v3), some (.int v4), some (.int v5)] []) (h : mX9_knownOf_b96 rec2 rec47 v1 v2 v3 v5 s0 σ = some r) : AW X p l e (RM 0 0 0) s m args below meth c 6 (ZM X below args s 0 0 (QMi f n r)) (rHm f σ) n 0 0 96 [some (.ref 181), some (.int v1), some (.int v2), some (.int v3), none, some (.int v5)] [.int s0] := by
  have h : rec47 v1 v2 v3 s0 (v5 + (1 : Int32)) σ = some r := h
  refine aw_istore C dX9_knownOf_96 (by decide) rfl ?_
  refine aw_nl [some (.ref 181), some (.int v1), some (.int v2), some (.int v3), some (.int s0), some (.int v5)] rfl ?_
  refine aw_iinc C (v5 + (1 : Int32)) dX9_knownOf_98 rfl (by rw [ki_1]) (by decide) rfl ?_
  refine aw_nl [some (.ref 181), some (.int v1), some (.int v2), some (.int v3), some (.int s0), some (.int (v5 + (1 : Int32)))] rfl ?_
  refine aw_goto C 47 dX9_knownOf_101 (by decide) ?_
  refine aw_fl [some (.ref 181), some (.int v1), some (.int v2), some (.int v3), some (.int s0), some (.int (v5 + (1 : Int32)))] ⟨rfl, ⟨rfl, ⟨rfl, ⟨rfl, ⟨rfl, ⟨rfl, trivial⟩⟩⟩⟩⟩⟩ ?_
  exact Hr47 v1 v2 v3 s0 (v5 + (1 : Int32)) σ h
def mX9_knownOf_l47 (rec2 : Int32 → Int32 → RS9 → Option (Int32 × RS9)) : Nat → Int32 → Int32 → Int32 → Int32 → Int32 → RS9 → Option (Int32 × RS9)
  | 0, _, _, _, _, _, _ => none
  | d + 1, v1, v2, v3, v4, v5, σ => rCk (rIn v1 (rLen 42)) ((if (rGa σ 42 v1) ≤ v5 then mX9_knownOf_b104 rec2 v1 v2 v4 σ else (if v4 = (0 : Int32) then mX9_knownOf_b104 rec2 v1 v2 v4 σ else rCk (rIn ((v3 + (1 : Int32)) + v5) (rLen 1)) (rCk (rIn v1 (rLen 41)) (rCk (rIn ((rGa σ 41 v1) + v5) (rLen 43)) ((if (rGa σ 1 ((v3 + (1 : Int32)) + v5)) = (rGa σ 43 ((rGa σ 41 v1) + v5)) then mX9_knownOf_b96 rec2 (fun v1 v2 v3 v4 v5 σ => mX9_knownOf_l47 rec2 d v1 v2 v3 v4 v5 σ) v1 v2 v3 v5 (1 : Int32) σ else mX9_knownOf_b96 rec2 (fun v1 v2 v3 v4 v5 σ => mX9_knownOf_l47 rec2 d v1 v2 v3 v4 v5 σ) v1 v2 v3 v5 (0 : Int32) σ)))))))
set_option maxHeartbeats 1000000 in
theorem rmX9_knownOf_l47 {X : GX} {p : Program} {l : Launch} {e : Env} {s : State} {m : MethodId} {args : Array Value} {below : List Frame} {meth : Method} {c : Code} {f : AH} {n : Nat} {r : Int32 × RS9} {rec2 : Int32 → Int32 → RS9 → Option (Int32 × RS9)} (C : CC X p l (RM 0 0 0) s m args meth c RX9 cX9_knownOf 6 (some .int)) (Hr2 : ∀ (v1 : Int32) (v2 : Int32) (σ : RS9), rec2 v1 v2 σ = some r → AW X p l e (RM 0 0 0) s m args below meth c 6 (ZM X below args s 0 0 (QMi f n r)) (rHm f σ) n 0 0 2 [some (.ref 181), some (.int v1), some (.int v2), none, none, none] []) : ∀ (d : Nat) (v1 : Int32) (v2 : Int32) (v3 : Int32) (v4 : Int32) (v5 : Int32) (σ : RS9) (_ : mX9_knownOf_l47 rec2 d v1 v2 v3 v4 v5 σ = some r), AW X p l e (RM 0 0 0) s m args below meth c 6 (ZM X below args s 0 0 (QMi f n r)) (rHm f σ) n 0 0 47 [some (.ref 181), some (.int v1), some (.int v2), some (.int v3), some (.int v4), some (.int v5)] [] := by
  intro d
  induction d with
  | zero =>
    intro v1 v2 v3 v4 v5 σ h
    exact nomatch (show (none : Option (Int32 × RS9)) = some r from h)
  | succ d ih =>
    intro v1 v2 v3 v4 v5 σ h
    have h : rCk (rIn v1 (rLen 42)) ((if (rGa σ 42 v1) ≤ v5 then mX9_knownOf_b104 rec2 v1 v2 v4 σ else (if v4 = (0 : Int32) then mX9_knownOf_b104 rec2 v1 v2 v4 σ else rCk (rIn ((v3 + (1 : Int32)) + v5) (rLen 1)) (rCk (rIn v1 (rLen 41)) (rCk (rIn ((rGa σ 41 v1) + v5) (rLen 43)) ((if (rGa σ 1 ((v3 + (1 : Int32)) + v5)) = (rGa σ 43 ((rGa σ 41 v1) + v5)) then mX9_knownOf_b96 rec2 (fun v1 v2 v3 v4 v5 σ => mX9_knownOf_l47 rec2 d v1 v2 v3 v4 v5 σ) v1 v2 v3 v5 (1 : Int32) σ else mX9_knownOf_b96 rec2 (fun v1 v2 v3 v4 v5 σ => mX9_knownOf_l47 rec2 d v1 v2 v3 v4 v5 σ) v1 v2 v3 v5 (0 : Int32) σ))))))) = some r := h
    refine aw_iload C dX9_knownOf_47 rfl ?_
    refine aw_ald_n C dX9_knownOf_49 rfl ?_
    refine aw_get C (v := .ref (rAid 42)) gf_X9_105 (hm_M f σ) rfl dX9_knownOf_50 ?_
    refine aw_iload_n C dX9_knownOf_53 rfl ?_
    obtain ⟨hb1, h⟩ := ck_some h
    refine am_iald C (rGa σ 42 v1) rfl (inb_vp hb1) rfl dX9_knownOf_54 ?_
    refine aw_icmp_ge C 104 dX9_knownOf_55 (by decide) (fun q => ?_) (fun q => ?_)
    · rw [if_pos q] at h
      refine aw_fl [some (.ref 181), some (.int v1), some (.int v2), none, some (.int v4), none] ⟨rfl, ⟨rfl, ⟨rfl, ⟨rfl, trivial⟩⟩⟩⟩ ?_
      exact rmX9_knownOf_b104 C Hr2 h
    · rw [if_neg q] at h
      refine aw_iload C dX9_knownOf_58 rfl ?_
      refine aw_if_eq C 104 dX9_knownOf_60 (by decide) (fun q => ?_) (fun q => ?_)
      · rw [if_pos q] at h
        refine aw_fl [some (.ref 181), some (.int v1), some (.int v2), none, some (.int v4), none] ⟨rfl, ⟨rfl, ⟨rfl, ⟨rfl, trivial⟩⟩⟩⟩ ?_
        exact rmX9_knownOf_b104 C Hr2 h
      · rw [if_neg q] at h
        refine aw_ald_n C dX9_knownOf_63 rfl ?_
        refine aw_get C (v := .ref (rAid 1)) gf_X9_7 (hm_M f σ) rfl dX9_knownOf_64 ?_
        refine aw_iload_n C dX9_knownOf_67 rfl ?_
        refine aw_iconst C 1 dX9_knownOf_68 ki_1 ?_
        refine aw_iadd C dX9_knownOf_69 ?_
        refine aw_iload C dX9_knownOf_70 rfl ?_
        refine aw_iadd C dX9_knownOf_72 ?_
        obtain ⟨hb2, h⟩ := ck_some h
        refine am_iald C (rGa σ 1 ((v3 + (1 : Int32)) + v5)) rfl (inb_vp hb2) rfl dX9_knownOf_73 ?_
        refine aw_ald_n C dX9_knownOf_74 rfl ?_
        refine aw_get C (v := .ref (rAid 43)) gf_X9_108 (hm_M f σ) rfl dX9_knownOf_75 ?_
        refine aw_ald_n C dX9_knownOf_78 rfl ?_
        refine aw_get C (v := .ref (rAid 41)) gf_X9_102 (hm_M f σ) rfl dX9_knownOf_79 ?_
        refine aw_iload_n C dX9_knownOf_82 rfl ?_
        obtain ⟨hb3, h⟩ := ck_some h
        refine am_iald C (rGa σ 41 v1) rfl (inb_vp hb3) rfl dX9_knownOf_83 ?_
        refine aw_iload C dX9_knownOf_84 rfl ?_
        refine aw_iadd C dX9_knownOf_86 ?_
        obtain ⟨hb4, h⟩ := ck_some h
        refine am_iald C (rGa σ 43 ((rGa σ 41 v1) + v5)) rfl (inb_vp hb4) rfl dX9_knownOf_87 ?_
        refine aw_icmp_ne C 95 dX9_knownOf_88 (by decide) (fun q => ?_) (fun q => ?_)
        · rw [if_neg q] at h
          refine aw_iconst C 0 dX9_knownOf_95 ki_0 ?_
          refine aw_fl [some (.ref 181), some (.int v1), some (.int v2), some (.int v3), none, some (.int v5)] ⟨rfl, ⟨rfl, ⟨rfl, ⟨rfl, ⟨rfl, trivial⟩⟩⟩⟩⟩ ?_
          exact rmX9_knownOf_b96 C Hr2 (fun v1 v2 v3 v4 v5 σ h => ih v1 v2 v3 v4 v5 σ h) h
        · rw [if_pos q] at h
          refine aw_iconst C 1 dX9_knownOf_91 ki_1 ?_
          refine aw_goto C 96 dX9_knownOf_92 (by decide) ?_
          refine aw_fl [some (.ref 181), some (.int v1), some (.int v2), some (.int v3), none, some (.int v5)] ⟨rfl, ⟨rfl, ⟨rfl, ⟨rfl, ⟨rfl, trivial⟩⟩⟩⟩⟩ ?_
          exact rmX9_knownOf_b96 C Hr2 (fun v1 v2 v3 v4 v5 σ h => ih v1 v2 v3 v4 v5 σ h) h
def mX9_knownOf_b42 (rec2 : Int32 → Int32 → RS9 → Option (Int32 × RS9)) (v1 : Int32) (v2 : Int32) (v3 : Int32) (s0 : Int32) (σ : RS9) : Option (Int32 × RS9) := mX9_knownOf_l47 rec2 rFU v1 v2 v3 s0 (0 : Int32) σ
set_option maxHeartbeats 1000000 in
theorem rmX9_knownOf_b42 {X : GX} {p : Program} {l : Launch} {e : Env} {s : State} {m : MethodId} {args : Array Value} {below : List Frame} {meth : Method} {c : Code} {f : AH} {n : Nat} {r : Int32 × RS9} {rec2 : Int32 → Int32 → RS9 → Option (Int32 × RS9)} {v1 : Int32} {v2 : Int32} {v3 : Int32} {s0 : Int32} {σ : RS9} (C : CC X p l (RM 0 0 0) s m args meth c RX9 cX9_knownOf 6 (some .int)) (Hr2 : ∀ (v1 : Int32) (v2 : Int32) (σ : RS9), rec2 v1 v2 σ = some r → AW X p l e (RM 0 0 0) s m args below meth c 6 (ZM X below args s 0 0 (QMi f n r)) (rHm f σ) n 0 0 2 [some (.ref 181), some (.int v1), some (.int v2), none, none, none] []) (h : mX9_knownOf_b42 rec2 v1 v2 v3 s0 σ = some r) : AW X p l e (RM 0 0 0) s m args below meth c 6 (ZM X below args s 0 0 (QMi f n r)) (rHm f σ) n 0 0 42 [some (.ref 181), some (.int v1), some (.int v2), some (.int v3), none, none] [.int s0] := by
  have h : mX9_knownOf_l47 rec2 rFU v1 v2 v3 s0 (0 : Int32) σ = some r := h
  refine aw_istore C dX9_knownOf_42 (by decide) rfl ?_
  refine aw_nl [some (.ref 181), some (.int v1), some (.int v2), some (.int v3), some (.int s0), none] rfl ?_
  refine aw_iconst C 0 dX9_knownOf_44 ki_0 ?_
  refine aw_istore C dX9_knownOf_45 (by decide) rfl ?_
  refine aw_nl [some (.ref 181), some (.int v1), some (.int v2), some (.int v3), some (.int s0), some (.int (0 : Int32))] rfl ?_
  refine aw_fl [some (.ref 181), some (.int v1), some (.int v2), some (.int v3), some (.int s0), some (.int (0 : Int32))] ⟨rfl, ⟨rfl, ⟨rfl, ⟨rfl, ⟨rfl, ⟨rfl, trivial⟩⟩⟩⟩⟩⟩ ?_
  exact rmX9_knownOf_l47 C Hr2 rFU v1 v2 v3 s0 (0 : Int32) σ h
def mX9_knownOf_l2 : Nat → Int32 → Int32 → RS9 → Option (Int32 × RS9)
  | 0, _, _, _ => none
  | d + 1, v1, v2, σ => rCk (rIn (42 : Int32) (rLen 1)) ((if (rGa σ 1 (42 : Int32)) ≤ v2 then some ((-1 : Int32), σ) else rCk (rIn ((2883 : Int32) + ((122 : Int32) * v2)) (rLen 1)) (rCk (rIn v1 (rLen 42)) ((if (rGa σ 1 ((2883 : Int32) + ((122 : Int32) * v2))) = (rGa σ 42 v1) then mX9_knownOf_b42 (fun v1 v2 σ => mX9_knownOf_l2 d v1 v2 σ) v1 v2 ((2883 : Int32) + ((122 : Int32) * v2)) (1 : Int32) σ else mX9_knownOf_b42 (fun v1 v2 σ => mX9_knownOf_l2 d v1 v2 σ) v1 v2 ((2883 : Int32) + ((122 : Int32) * v2)) (0 : Int32) σ)))))
set_option maxHeartbeats 1000000 in
theorem rmX9_knownOf_l2 {X : GX} {p : Program} {l : Launch} {e : Env} {s : State} {m : MethodId} {args : Array Value} {below : List Frame} {meth : Method} {c : Code} {f : AH} {n : Nat} {r : Int32 × RS9} (C : CC X p l (RM 0 0 0) s m args meth c RX9 cX9_knownOf 6 (some .int)) : ∀ (d : Nat) (v1 : Int32) (v2 : Int32) (σ : RS9) (_ : mX9_knownOf_l2 d v1 v2 σ = some r), AW X p l e (RM 0 0 0) s m args below meth c 6 (ZM X below args s 0 0 (QMi f n r)) (rHm f σ) n 0 0 2 [some (.ref 181), some (.int v1), some (.int v2), none, none, none] [] := by
  intro d
  induction d with
  | zero =>
    intro v1 v2 σ h
    exact nomatch (show (none : Option (Int32 × RS9)) = some r from h)
  | succ d ih =>
    intro v1 v2 σ h
    have h : rCk (rIn (42 : Int32) (rLen 1)) ((if (rGa σ 1 (42 : Int32)) ≤ v2 then some ((-1 : Int32), σ) else rCk (rIn ((2883 : Int32) + ((122 : Int32) * v2)) (rLen 1)) (rCk (rIn v1 (rLen 42)) ((if (rGa σ 1 ((2883 : Int32) + ((122 : Int32) * v2))) = (rGa σ 42 v1) then mX9_knownOf_b42 (fun v1 v2 σ => mX9_knownOf_l2 d v1 v2 σ) v1 v2 ((2883 : Int32) + ((122 : Int32) * v2)) (1 : Int32) σ else mX9_knownOf_b42 (fun v1 v2 σ => mX9_knownOf_l2 d v1 v2 σ) v1 v2 ((2883 : Int32) + ((122 : Int32) * v2)) (0 : Int32) σ))))) = some r := h
    refine aw_iload_n C dX9_knownOf_2 rfl ?_
    refine aw_ald_n C dX9_knownOf_3 rfl ?_
    refine aw_get C (v := .ref (rAid 1)) gf_X9_7 (hm_M f σ) rfl dX9_knownOf_4 ?_
    refine aw_bipush C 42 dX9_knownOf_7 kb_42 ?_
    obtain ⟨hb1, h⟩ := ck_some h
    refine am_iald C (rGa σ 1 (42 : Int32)) rfl (inb_vp hb1) rfl dX9_knownOf_9 ?_
    refine aw_icmp_ge C 117 dX9_knownOf_10 (by decide) (fun q => ?_) (fun q => ?_)
    · rw [if_pos q] at h
      refine aw_iconst C (-1) dX9_knownOf_117 ki_m1 ?_
      cases h
      exact aw_iret C rfl rfl dX9_knownOf_118 (Nat.le_refl _) (Nat.le_refl _) ⟨rfl, rfl, rfl⟩
    · rw [if_neg q] at h
      refine aw_sipush C 2883 dX9_knownOf_13 ks_2883 ?_
      refine aw_bipush C 122 dX9_knownOf_16 kb_122 ?_
      refine aw_iload_n C dX9_knownOf_18 rfl ?_
      refine aw_imul C dX9_knownOf_19 ?_
      refine aw_iadd C dX9_knownOf_20 ?_
      refine aw_istore_n C dX9_knownOf_21 (by decide) rfl ?_
      refine aw_nl [some (.ref 181), some (.int v1), some (.int v2), some (.int ((2883 : Int32) + ((122 : Int32) * v2))), none, none] rfl ?_
      refine aw_ald_n C dX9_knownOf_22 rfl ?_
      refine aw_get C (v := .ref (rAid 1)) gf_X9_7 (hm_M f σ) rfl dX9_knownOf_23 ?_
      refine aw_iload_n C dX9_knownOf_26 rfl ?_
      obtain ⟨hb2, h⟩ := ck_some h
      refine am_iald C (rGa σ 1 ((2883 : Int32) + ((122 : Int32) * v2))) rfl (inb_vp hb2) rfl dX9_knownOf_27 ?_
      refine aw_ald_n C dX9_knownOf_28 rfl ?_
      refine aw_get C (v := .ref (rAid 42)) gf_X9_105 (hm_M f σ) rfl dX9_knownOf_29 ?_
      refine aw_iload_n C dX9_knownOf_32 rfl ?_
      obtain ⟨hb3, h⟩ := ck_some h
      refine am_iald C (rGa σ 42 v1) rfl (inb_vp hb3) rfl dX9_knownOf_33 ?_
      refine aw_icmp_ne C 41 dX9_knownOf_34 (by decide) (fun q => ?_) (fun q => ?_)
      · rw [if_neg q] at h
        refine aw_iconst C 0 dX9_knownOf_41 ki_0 ?_
        refine aw_fl [some (.ref 181), some (.int v1), some (.int v2), some (.int ((2883 : Int32) + ((122 : Int32) * v2))), none, none] ⟨rfl, ⟨rfl, ⟨rfl, ⟨rfl, trivial⟩⟩⟩⟩ ?_
        exact rmX9_knownOf_b42 C (fun v1 v2 σ h => ih v1 v2 σ h) h
      · rw [if_pos q] at h
        refine aw_iconst C 1 dX9_knownOf_37 ki_1 ?_
        refine aw_goto C 42 dX9_knownOf_38 (by decide) ?_
        refine aw_fl [some (.ref 181), some (.int v1), some (.int v2), some (.int ((2883 : Int32) + ((122 : Int32) * v2))), none, none] ⟨rfl, ⟨rfl, ⟨rfl, ⟨rfl, trivial⟩⟩⟩⟩ ?_
        exact rmX9_knownOf_b42 C (fun v1 v2 σ h => ih v1 v2 σ h) h
def mX9_knownOf (v1 : Int32) (σ : RS9) : Option (Int32 × RS9) := mX9_knownOf_l2 rFU v1 (0 : Int32) σ
set_option maxHeartbeats 1000000 in
theorem rmX9_knownOf {X : GX} {l : Launch} {f : AH} {n : Nat} {r : Int32 × RS9} {v1 : Int32} {σ : RS9} (h : mX9_knownOf v1 σ = some r) : AM X l yX9_knownOf cX9_knownOf 6 (some .int) 0 0 0 [.ref 181, .int v1] (rHm f σ) n (QMi f n r) := by
  have h : mX9_knownOf_l2 rFU v1 (0 : Int32) σ = some r := h
  refine AM.of (by decide +kernel) rfl (Nat.le_of_ble_eq_true rfl) (fun p e s m args below meth c C _ => ?_)
  refine aw_nl [some (.ref 181), some (.int v1), none, none, none, none] rfl ?_
  refine aw_iconst C 0 dX9_knownOf_0 ki_0 ?_
  refine aw_istore_n C dX9_knownOf_1 (by decide) rfl ?_
  refine aw_nl [some (.ref 181), some (.int v1), some (.int (0 : Int32)), none, none, none] rfl ?_
  refine aw_fl [some (.ref 181), some (.int v1), some (.int (0 : Int32)), none, none, none] ⟨rfl, ⟨rfl, ⟨rfl, trivial⟩⟩⟩ ?_
  exact rmX9_knownOf_l2 C rFU v1 (0 : Int32) σ h
def mX9_octet_b82 (s0 : Int32) (σ : RS9) : Option (Int32 × RS9) := some (s0, σ)
set_option maxHeartbeats 1000000 in
theorem rmX9_octet_b82 {X : GX} {p : Program} {l : Launch} {e : Env} {s : State} {m : MethodId} {args : Array Value} {below : List Frame} {meth : Method} {c : Code} {f : AH} {n : Nat} {r : Int32 × RS9} {s0 : Int32} {σ : RS9} (C : CC X p l (RM 2 0 0) s m args meth c RX9 cX9_octet 4 (some .int)) (h : mX9_octet_b82 s0 σ = some r) : AW X p l e (RM 2 0 0) s m args below meth c 4 (ZM X below args s 0 0 (QMi f n r)) (rHm f σ) n 0 0 82 [none, none, none, none] [.int s0] := by
  have h : some (s0, σ) = some r := h
  cases h
  exact aw_iret C rfl rfl dX9_octet_82 (Nat.le_refl _) (Nat.le_refl _) ⟨rfl, rfl, rfl⟩
def mX9_octet_b46 (v1 : Int32) (v2 : Int32) (v3 : Int32) (s0 : Int32) (s1 : Int32) (s2 : Int32) (σ : RS9) : Option (Int32 × RS9) := ((mX9_isIn s0 s1 (s2 - (1 : Int32)) σ).bind fun r1 => (if r1.1 = (0 : Int32) then some ((-1 : Int32), r1.2) else (if v3 = (0 : Int32) then rCk (rIn v1 (rLen 41)) (rCk (rIn ((rGa r1.2 41 v1) + v2) (rLen 43)) (mX9_octet_b82 (rGa r1.2 43 ((rGa r1.2 41 v1) + v2)) r1.2)) else ((mX9_nowByte v1 v2 r1.2).bind fun r4 => mX9_octet_b82 r4.1 r4.2))))
set_option maxHeartbeats 1000000 in
theorem rmX9_octet_b46 {X : GX} {p : Program} {l : Launch} {e : Env} {s : State} {m : MethodId} {args : Array Value} {below : List Frame} {meth : Method} {c : Code} {f : AH} {n : Nat} {r : Int32 × RS9} {v1 : Int32} {v2 : Int32} {v3 : Int32} {s0 : Int32} {s1 : Int32} {s2 : Int32} {σ : RS9} (C : CC X p l (RM 2 0 0) s m args meth c RX9 cX9_octet 4 (some .int)) (h : mX9_octet_b46 v1 v2 v3 s0 s1 s2 σ = some r) : AW X p l e (RM 2 0 0) s m args below meth c 4 (ZM X below args s 0 0 (QMi f n r)) (rHm f σ) n 0 0 46 [some (.ref 181), some (.int v1), some (.int v2), some (.int v3)] [.int s2, .int s1, .int s0] := by
  have h : ((mX9_isIn s0 s1 (s2 - (1 : Int32)) σ).bind fun r1 => (if r1.1 = (0 : Int32) then some ((-1 : Int32), r1.2) else (if v3 = (0 : Int32) then rCk (rIn v1 (rLen 41)) (rCk (rIn ((rGa r1.2 41 v1) + v2) (rLen 43)) (mX9_octet_b82 (rGa r1.2 43 ((rGa r1.2 41 v1) + v2)) r1.2)) else ((mX9_nowByte v1 v2 r1.2).bind fun r4 => mX9_octet_b82 r4.1 r4.2)))) = some r := h
  refine aw_iconst C 1 dX9_octet_46 ki_1 ?_
  refine aw_isub C dX9_octet_47 ?_
  obtain ⟨r1, h1, h⟩ := Option.bind_eq_some_iff.mp h
  refine aw_callS C [.int s0, .int s1, .int (s2 - (1 : Int32))] ms_X9_141 (rmX9_isIn h1) rfl dX9_octet_48 (Nat.le_of_ble_eq_true rfl) (Nat.le_of_ble_eq_true rfl) rfl (Nat.le_of_ble_eq_true rfl) (Nat.le_of_ble_eq_true rfl) (Nat.le_of_ble_eq_true rfl) (fun v9 f9 n9 hh => ?_)
  obtain ⟨rfl, rfl, rfl⟩ := hh
  refine aw_if_ne C 56 dX9_octet_51 (by decide) (fun q => ?_) (fun q => ?_)
  · rw [if_neg q] at h
    refine aw_iload_n C dX9_octet_56 rfl ?_
    refine aw_if_eq C 69 dX9_octet_57 (by decide) (fun q => ?_) (fun q => ?_)
    · rw [if_pos q] at h
      refine aw_ald_n C dX9_octet_69 rfl ?_
      refine aw_get C (v := .ref (rAid 43)) gf_X9_108 (hm_M f r1.2) rfl dX9_octet_70 ?_
      refine aw_ald_n C dX9_octet_73 rfl ?_
      refine aw_get C (v := .ref (rAid 41)) gf_X9_102 (hm_M f r1.2) rfl dX9_octet_74 ?_
      refine aw_iload_n C dX9_octet_77 rfl ?_
      obtain ⟨hb2, h⟩ := ck_some h
      refine am_iald C (rGa r1.2 41 v1) rfl (inb_vp hb2) rfl dX9_octet_78 ?_
      refine aw_iload_n C dX9_octet_79 rfl ?_
      refine aw_iadd C dX9_octet_80 ?_
      obtain ⟨hb3, h⟩ := ck_some h
      refine am_iald C (rGa r1.2 43 ((rGa r1.2 41 v1) + v2)) rfl (inb_vp hb3) rfl dX9_octet_81 ?_
      refine aw_fl [none, none, none, none] trivial ?_
      exact rmX9_octet_b82 C h
    · rw [if_neg q] at h
      refine aw_ald_n C dX9_octet_60 rfl ?_
      refine aw_iload_n C dX9_octet_61 rfl ?_
      refine aw_iload_n C dX9_octet_62 rfl ?_
      obtain ⟨r4, h4, h⟩ := Option.bind_eq_some_iff.mp h
      refine aw_callV C (ci := 9) (b := 181) [.int v1, .int v2] mv_X9_316 rfl rfl (hm_M f r1.2) (rmX9_nowByte h4) rfl dX9_octet_63 (Nat.le_of_ble_eq_true rfl) (Nat.le_of_ble_eq_true rfl) rfl (Nat.le_of_ble_eq_true rfl) (Nat.le_of_ble_eq_true rfl) (Nat.le_of_ble_eq_true rfl) (fun v9 f9 n9 hh => ?_)
      obtain ⟨rfl, rfl, rfl⟩ := hh
      refine aw_goto C 82 dX9_octet_66 (by decide) ?_
      refine aw_fl [none, none, none, none] trivial ?_
      exact rmX9_octet_b82 C h
  · rw [if_pos q] at h
    refine aw_iconst C (-1) dX9_octet_54 ki_m1 ?_
    cases h
    exact aw_iret C rfl rfl dX9_octet_55 (Nat.le_refl _) (Nat.le_refl _) ⟨rfl, rfl, rfl⟩
def mX9_octet_b14 (v1 : Int32) (v2 : Int32) (v3 : Int32) (s1 : Int32) (σ : RS9) : Option (Int32 × RS9) := (if s1 ≤ (0 : Int32) then (if v3 = (0 : Int32) then rCk (rIn v1 (rLen 42)) (mX9_octet_b46 v1 v2 v3 v2 (0 : Int32) (rGa σ 42 v1) (rSf σ 0 s1)) else ((mX9_nowMany v1 (rSf σ 0 s1)).bind fun r2 => mX9_octet_b46 v1 v2 v3 v2 (0 : Int32) r2.1 r2.2)) else some ((0 : Int32), (rSf σ 0 s1)))
set_option maxHeartbeats 1000000 in
theorem rmX9_octet_b14 {X : GX} {p : Program} {l : Launch} {e : Env} {s : State} {m : MethodId} {args : Array Value} {below : List Frame} {meth : Method} {c : Code} {f : AH} {n : Nat} {r : Int32 × RS9} {v1 : Int32} {v2 : Int32} {v3 : Int32} {s1 : Int32} {σ : RS9} (C : CC X p l (RM 2 0 0) s m args meth c RX9 cX9_octet 4 (some .int)) (h : mX9_octet_b14 v1 v2 v3 s1 σ = some r) : AW X p l e (RM 2 0 0) s m args below meth c 4 (ZM X below args s 0 0 (QMi f n r)) (rHm f σ) n 0 0 14 [some (.ref 181), some (.int v1), some (.int v2), some (.int v3)] [.int s1, .ref 181] := by
  have h : (if s1 ≤ (0 : Int32) then (if v3 = (0 : Int32) then rCk (rIn v1 (rLen 42)) (mX9_octet_b46 v1 v2 v3 v2 (0 : Int32) (rGa σ 42 v1) (rSf σ 0 s1)) else ((mX9_nowMany v1 (rSf σ 0 s1)).bind fun r2 => mX9_octet_b46 v1 v2 v3 v2 (0 : Int32) r2.1 r2.2)) else some ((0 : Int32), (rSf σ 0 s1))) = some r := h
  refine am_put C gf_X9_138 nf9_0 rfl rfl dX9_octet_14 ?_
  refine aw_ald_n C dX9_octet_17 rfl ?_
  refine aw_get C (v := .int s1) gf_X9_138 (hm_M f (rSf σ 0 s1)) rfl dX9_octet_18 ?_
  refine aw_if_le C 26 dX9_octet_21 (by decide) (fun q => ?_) (fun q => ?_)
  · rw [if_pos q] at h
    refine aw_iload_n C dX9_octet_26 rfl ?_
    refine aw_iconst C 0 dX9_octet_27 ki_0 ?_
    refine aw_iload_n C dX9_octet_28 rfl ?_
    refine aw_if_eq C 40 dX9_octet_29 (by decide) (fun q => ?_) (fun q => ?_)
    · rw [if_pos q] at h
      refine aw_ald_n C dX9_octet_40 rfl ?_
      refine aw_get C (v := .ref (rAid 42)) gf_X9_105 (hm_M f (rSf σ 0 s1)) rfl dX9_octet_41 ?_
      refine aw_iload_n C dX9_octet_44 rfl ?_
      obtain ⟨hb1, h⟩ := ck_some h
      refine am_iald C (rGa σ 42 v1) rfl (inb_vp hb1) rfl dX9_octet_45 ?_
      refine aw_fl [some (.ref 181), some (.int v1), some (.int v2), some (.int v3)] ⟨rfl, ⟨rfl, ⟨rfl, ⟨rfl, trivial⟩⟩⟩⟩ ?_
      exact rmX9_octet_b46 C h
    · rw [if_neg q] at h
      refine aw_ald_n C dX9_octet_32 rfl ?_
      refine aw_iload_n C dX9_octet_33 rfl ?_
      obtain ⟨r2, h2, h⟩ := Option.bind_eq_some_iff.mp h
      refine aw_callV C (ci := 9) (b := 181) [.int v1] mv_X9_313 rfl rfl (hm_M f (rSf σ 0 s1)) (rmX9_nowMany h2) rfl dX9_octet_34 (Nat.le_of_ble_eq_true rfl) (Nat.le_of_ble_eq_true rfl) rfl (Nat.le_of_ble_eq_true rfl) (Nat.le_of_ble_eq_true rfl) (Nat.le_of_ble_eq_true rfl) (fun v9 f9 n9 hh => ?_)
      obtain ⟨rfl, rfl, rfl⟩ := hh
      refine aw_goto C 46 dX9_octet_37 (by decide) ?_
      refine aw_fl [some (.ref 181), some (.int v1), some (.int v2), some (.int v3)] ⟨rfl, ⟨rfl, ⟨rfl, ⟨rfl, trivial⟩⟩⟩⟩ ?_
      exact rmX9_octet_b46 C h
  · rw [if_neg q] at h
    refine aw_iconst C 0 dX9_octet_24 ki_0 ?_
    cases h
    exact aw_iret C rfl rfl dX9_octet_25 (Nat.le_refl _) (Nat.le_refl _) ⟨rfl, rfl, rfl⟩
def mX9_octet (v1 : Int32) (v2 : Int32) (v3 : Int32) (σ : RS9) : Option (Int32 × RS9) := ((mX9_isPieceThere v1 σ).bind fun r1 => (if r1.1 = (0 : Int32) then mX9_octet_b14 v1 v2 v3 (1 : Int32) r1.2 else mX9_octet_b14 v1 v2 v3 (0 : Int32) r1.2))
set_option maxHeartbeats 1000000 in
theorem rmX9_octet {X : GX} {l : Launch} {f : AH} {n : Nat} {r : Int32 × RS9} {v1 : Int32} {v2 : Int32} {v3 : Int32} {σ : RS9} (h : mX9_octet v1 v2 v3 σ = some r) : AM X l yX9_octet cX9_octet 4 (some .int) 2 0 0 [.ref 181, .int v1, .int v2, .int v3] (rHm f σ) n (QMi f n r) := by
  have h : ((mX9_isPieceThere v1 σ).bind fun r1 => (if r1.1 = (0 : Int32) then mX9_octet_b14 v1 v2 v3 (1 : Int32) r1.2 else mX9_octet_b14 v1 v2 v3 (0 : Int32) r1.2)) = some r := h
  refine AM.of (by decide +kernel) rfl (Nat.le_of_ble_eq_true rfl) (fun p e s m args below meth c C _ => ?_)
  refine aw_nl [some (.ref 181), some (.int v1), some (.int v2), some (.int v3)] rfl ?_
  refine aw_ald_n C dX9_octet_0 rfl ?_
  refine aw_ald_n C dX9_octet_1 rfl ?_
  refine aw_iload_n C dX9_octet_2 rfl ?_
  obtain ⟨r1, h1, h⟩ := Option.bind_eq_some_iff.mp h
  refine aw_callV C (ci := 9) (b := 181) [.int v1] mv_X9_293 rfl rfl (hm_M f σ) (rmX9_isPieceThere h1) rfl dX9_octet_3 (Nat.le_of_ble_eq_true rfl) (Nat.le_of_ble_eq_true rfl) rfl (Nat.le_of_ble_eq_true rfl) (Nat.le_of_ble_eq_true rfl) (Nat.le_of_ble_eq_true rfl) (fun v9 f9 n9 hh => ?_)
  obtain ⟨rfl, rfl, rfl⟩ := hh
  refine aw_if_eq C 13 dX9_octet_6 (by decide) (fun q => ?_) (fun q => ?_)
  · rw [if_pos q] at h
    refine aw_iconst C 1 dX9_octet_13 ki_1 ?_
    refine aw_fl [some (.ref 181), some (.int v1), some (.int v2), some (.int v3)] ⟨rfl, ⟨rfl, ⟨rfl, ⟨rfl, trivial⟩⟩⟩⟩ ?_
    exact rmX9_octet_b14 C h
  · rw [if_neg q] at h
    refine aw_iconst C 0 dX9_octet_9 ki_0 ?_
    refine aw_goto C 14 dX9_octet_10 (by decide) ?_
    refine aw_fl [some (.ref 181), some (.int v1), some (.int v2), some (.int v3)] ⟨rfl, ⟨rfl, ⟨rfl, ⟨rfl, trivial⟩⟩⟩⟩ ?_
    exact rmX9_octet_b14 C h
def mX9_origin_b59 (s0 : Int32) (σ : RS9) : Option (Int32 × RS9) := some (s0, σ)
set_option maxHeartbeats 1000000 in
theorem rmX9_origin_b59 {X : GX} {p : Program} {l : Launch} {e : Env} {s : State} {m : MethodId} {args : Array Value} {below : List Frame} {meth : Method} {c : Code} {f : AH} {n : Nat} {r : Int32 × RS9} {s0 : Int32} {σ : RS9} (C : CC X p l (RM 2 0 0) s m args meth c RX9 cX9_origin 3 (some .int)) (h : mX9_origin_b59 s0 σ = some r) : AW X p l e (RM 2 0 0) s m args below meth c 3 (ZM X below args s 0 0 (QMi f n r)) (rHm f σ) n 0 0 59 [none, none, none] [.int s0] := by
  have h : some (s0, σ) = some r := h
  cases h
  exact aw_iret C rfl rfl dX9_origin_59 (Nat.le_refl _) (Nat.le_refl _) ⟨rfl, rfl, rfl⟩
def mX9_origin_b14 (v1 : Int32) (v2 : Int32) (s1 : Int32) (σ : RS9) : Option (Int32 × RS9) := (if s1 ≤ (0 : Int32) then rCk (rIn v1 (rLen 42)) (((mX9_isIn v2 (0 : Int32) ((rGa σ 42 v1) - (1 : Int32)) (rSf σ 0 s1)).bind fun r2 => (if r2.1 = (0 : Int32) then mX9_origin_b59 (-1 : Int32) r2.2 else rCk (rIn v1 (rLen 41)) (rCk (rIn ((rGa r2.2 41 v1) + v2) (rLen 44)) (mX9_origin_b59 (rGa r2.2 44 ((rGa r2.2 41 v1) + v2)) r2.2))))) else some ((0 : Int32), (rSf σ 0 s1)))
set_option maxHeartbeats 1000000 in
theorem rmX9_origin_b14 {X : GX} {p : Program} {l : Launch} {e : Env} {s : State} {m : MethodId} {args : Array Value} {below : List Frame} {meth : Method} {c : Code} {f : AH} {n : Nat} {r : Int32 × RS9} {v1 : Int32} {v2 : Int32} {s1 : Int32} {σ : RS9} (C : CC X p l (RM 2 0 0) s m args meth c RX9 cX9_origin 3 (some .int)) (h : mX9_origin_b14 v1 v2 s1 σ = some r) : AW X p l e (RM 2 0 0) s m args below meth c 3 (ZM X below args s 0 0 (QMi f n r)) (rHm f σ) n 0 0 14 [some (.ref 181), some (.int v1), some (.int v2)] [.int s1, .ref 181] := by
  have h : (if s1 ≤ (0 : Int32) then rCk (rIn v1 (rLen 42)) (((mX9_isIn v2 (0 : Int32) ((rGa σ 42 v1) - (1 : Int32)) (rSf σ 0 s1)).bind fun r2 => (if r2.1 = (0 : Int32) then mX9_origin_b59 (-1 : Int32) r2.2 else rCk (rIn v1 (rLen 41)) (rCk (rIn ((rGa r2.2 41 v1) + v2) (rLen 44)) (mX9_origin_b59 (rGa r2.2 44 ((rGa r2.2 41 v1) + v2)) r2.2))))) else some ((0 : Int32), (rSf σ 0 s1))) = some r := h
  refine am_put C gf_X9_138 nf9_0 rfl rfl dX9_origin_14 ?_
  refine aw_ald_n C dX9_origin_17 rfl ?_
  refine aw_get C (v := .int s1) gf_X9_138 (hm_M f (rSf σ 0 s1)) rfl dX9_origin_18 ?_
  refine aw_if_le C 26 dX9_origin_21 (by decide) (fun q => ?_) (fun q => ?_)
  · rw [if_pos q] at h
    refine aw_iload_n C dX9_origin_26 rfl ?_
    refine aw_iconst C 0 dX9_origin_27 ki_0 ?_
    refine aw_ald_n C dX9_origin_28 rfl ?_
    refine aw_get C (v := .ref (rAid 42)) gf_X9_105 (hm_M f (rSf σ 0 s1)) rfl dX9_origin_29 ?_
    refine aw_iload_n C dX9_origin_32 rfl ?_
    obtain ⟨hb1, h⟩ := ck_some h
    refine am_iald C (rGa σ 42 v1) rfl (inb_vp hb1) rfl dX9_origin_33 ?_
    refine aw_iconst C 1 dX9_origin_34 ki_1 ?_
    refine aw_isub C dX9_origin_35 ?_
    obtain ⟨r2, h2, h⟩ := Option.bind_eq_some_iff.mp h
    refine aw_callS C [.int v2, .int (0 : Int32), .int ((rGa σ 42 v1) - (1 : Int32))] ms_X9_141 (rmX9_isIn h2) rfl dX9_origin_36 (Nat.le_of_ble_eq_true rfl) (Nat.le_of_ble_eq_true rfl) rfl (Nat.le_of_ble_eq_true rfl) (Nat.le_of_ble_eq_true rfl) (Nat.le_of_ble_eq_true rfl) (fun v9 f9 n9 hh => ?_)
    obtain ⟨rfl, rfl, rfl⟩ := hh
    refine aw_if_eq C 58 dX9_origin_39 (by decide) (fun q => ?_) (fun q => ?_)
    · rw [if_pos q] at h
      refine aw_iconst C (-1) dX9_origin_58 ki_m1 ?_
      refine aw_fl [none, none, none] trivial ?_
      exact rmX9_origin_b59 C h
    · rw [if_neg q] at h
      refine aw_ald_n C dX9_origin_42 rfl ?_
      refine aw_get C (v := .ref (rAid 44)) gf_X9_111 (hm_M f r2.2) rfl dX9_origin_43 ?_
      refine aw_ald_n C dX9_origin_46 rfl ?_
      refine aw_get C (v := .ref (rAid 41)) gf_X9_102 (hm_M f r2.2) rfl dX9_origin_47 ?_
      refine aw_iload_n C dX9_origin_50 rfl ?_
      obtain ⟨hb3, h⟩ := ck_some h
      refine am_iald C (rGa r2.2 41 v1) rfl (inb_vp hb3) rfl dX9_origin_51 ?_
      refine aw_iload_n C dX9_origin_52 rfl ?_
      refine aw_iadd C dX9_origin_53 ?_
      obtain ⟨hb4, h⟩ := ck_some h
      refine am_iald C (rGa r2.2 44 ((rGa r2.2 41 v1) + v2)) rfl (inb_vp hb4) rfl dX9_origin_54 ?_
      refine aw_goto C 59 dX9_origin_55 (by decide) ?_
      refine aw_fl [none, none, none] trivial ?_
      exact rmX9_origin_b59 C h
  · rw [if_neg q] at h
    refine aw_iconst C 0 dX9_origin_24 ki_0 ?_
    cases h
    exact aw_iret C rfl rfl dX9_origin_25 (Nat.le_refl _) (Nat.le_refl _) ⟨rfl, rfl, rfl⟩
def mX9_origin (v1 : Int32) (v2 : Int32) (σ : RS9) : Option (Int32 × RS9) := ((mX9_isPieceThere v1 σ).bind fun r1 => (if r1.1 = (0 : Int32) then mX9_origin_b14 v1 v2 (1 : Int32) r1.2 else mX9_origin_b14 v1 v2 (0 : Int32) r1.2))
set_option maxHeartbeats 1000000 in
theorem rmX9_origin {X : GX} {l : Launch} {f : AH} {n : Nat} {r : Int32 × RS9} {v1 : Int32} {v2 : Int32} {σ : RS9} (h : mX9_origin v1 v2 σ = some r) : AM X l yX9_origin cX9_origin 3 (some .int) 2 0 0 [.ref 181, .int v1, .int v2] (rHm f σ) n (QMi f n r) := by
  have h : ((mX9_isPieceThere v1 σ).bind fun r1 => (if r1.1 = (0 : Int32) then mX9_origin_b14 v1 v2 (1 : Int32) r1.2 else mX9_origin_b14 v1 v2 (0 : Int32) r1.2)) = some r := h
  refine AM.of (by decide +kernel) rfl (Nat.le_of_ble_eq_true rfl) (fun p e s m args below meth c C _ => ?_)
  refine aw_nl [some (.ref 181), some (.int v1), some (.int v2)] rfl ?_
  refine aw_ald_n C dX9_origin_0 rfl ?_
  refine aw_ald_n C dX9_origin_1 rfl ?_
  refine aw_iload_n C dX9_origin_2 rfl ?_
  obtain ⟨r1, h1, h⟩ := Option.bind_eq_some_iff.mp h
  refine aw_callV C (ci := 9) (b := 181) [.int v1] mv_X9_293 rfl rfl (hm_M f σ) (rmX9_isPieceThere h1) rfl dX9_origin_3 (Nat.le_of_ble_eq_true rfl) (Nat.le_of_ble_eq_true rfl) rfl (Nat.le_of_ble_eq_true rfl) (Nat.le_of_ble_eq_true rfl) (Nat.le_of_ble_eq_true rfl) (fun v9 f9 n9 hh => ?_)
  obtain ⟨rfl, rfl, rfl⟩ := hh
  refine aw_if_eq C 13 dX9_origin_6 (by decide) (fun q => ?_) (fun q => ?_)
  · rw [if_pos q] at h
    refine aw_iconst C 1 dX9_origin_13 ki_1 ?_
    refine aw_fl [some (.ref 181), some (.int v1), some (.int v2)] ⟨rfl, ⟨rfl, ⟨rfl, trivial⟩⟩⟩ ?_
    exact rmX9_origin_b14 C h
  · rw [if_neg q] at h
    refine aw_iconst C 0 dX9_origin_9 ki_0 ?_
    refine aw_goto C 14 dX9_origin_10 (by decide) ?_
    refine aw_fl [some (.ref 181), some (.int v1), some (.int v2)] ⟨rfl, ⟨rfl, ⟨rfl, trivial⟩⟩⟩ ?_
    exact rmX9_origin_b14 C h
def mX9_key_b69 (s0 : Int32) (σ : RS9) : Option (Int32 × RS9) := some (s0, σ)
set_option maxHeartbeats 1000000 in
theorem rmX9_key_b69 {X : GX} {p : Program} {l : Launch} {e : Env} {s : State} {m : MethodId} {args : Array Value} {below : List Frame} {meth : Method} {c : Code} {f : AH} {n : Nat} {r : Int32 × RS9} {s0 : Int32} {σ : RS9} (C : CC X p l (RM 2 0 0) s m args meth c RX9 cX9_key 3 (some .int)) (h : mX9_key_b69 s0 σ = some r) : AW X p l e (RM 2 0 0) s m args below meth c 3 (ZM X below args s 0 0 (QMi f n r)) (rHm f σ) n 0 0 69 [none, none, none] [.int s0] := by
  have h : some (s0, σ) = some r := h
  cases h
  exact aw_iret C rfl rfl dX9_key_69 (Nat.le_refl _) (Nat.le_refl _) ⟨rfl, rfl, rfl⟩
def mX9_key_b27 (v1 : Int32) (v2 : Int32) (s1 : Int32) (σ : RS9) : Option (Int32 × RS9) := (if s1 ≤ (0 : Int32) then rCk (rIn (1 : Int32) (rLen 1)) ((if (rGa σ 1 (1 : Int32)) = (0 : Int32) then (if v2 = (0 : Int32) then rCk (rIn v1 (rLen 39)) (mX9_key_b69 (rGa σ 39 v1) (rSf σ 0 s1)) else rCk (rIn v1 (rLen 40)) (mX9_key_b69 (rGa σ 40 v1) (rSf σ 0 s1))) else some ((-1 : Int32), (rSf σ 0 s1)))) else some ((0 : Int32), (rSf σ 0 s1)))
set_option maxHeartbeats 1000000 in
theorem rmX9_key_b27 {X : GX} {p : Program} {l : Launch} {e : Env} {s : State} {m : MethodId} {args : Array Value} {below : List Frame} {meth : Method} {c : Code} {f : AH} {n : Nat} {r : Int32 × RS9} {v1 : Int32} {v2 : Int32} {s1 : Int32} {σ : RS9} (C : CC X p l (RM 2 0 0) s m args meth c RX9 cX9_key 3 (some .int)) (h : mX9_key_b27 v1 v2 s1 σ = some r) : AW X p l e (RM 2 0 0) s m args below meth c 3 (ZM X below args s 0 0 (QMi f n r)) (rHm f σ) n 0 0 27 [some (.ref 181), some (.int v1), some (.int v2)] [.int s1, .ref 181] := by
  have h : (if s1 ≤ (0 : Int32) then rCk (rIn (1 : Int32) (rLen 1)) ((if (rGa σ 1 (1 : Int32)) = (0 : Int32) then (if v2 = (0 : Int32) then rCk (rIn v1 (rLen 39)) (mX9_key_b69 (rGa σ 39 v1) (rSf σ 0 s1)) else rCk (rIn v1 (rLen 40)) (mX9_key_b69 (rGa σ 40 v1) (rSf σ 0 s1))) else some ((-1 : Int32), (rSf σ 0 s1)))) else some ((0 : Int32), (rSf σ 0 s1))) = some r := h
  refine am_put C gf_X9_138 nf9_0 rfl rfl dX9_key_27 ?_
  refine aw_ald_n C dX9_key_30 rfl ?_
  refine aw_get C (v := .int s1) gf_X9_138 (hm_M f (rSf σ 0 s1)) rfl dX9_key_31 ?_
  refine aw_if_le C 39 dX9_key_34 (by decide) (fun q => ?_) (fun q => ?_)
  · rw [if_pos q] at h
    refine aw_ald_n C dX9_key_39 rfl ?_
    refine aw_get C (v := .ref (rAid 1)) gf_X9_7 (hm_M f (rSf σ 0 s1)) rfl dX9_key_40 ?_
    refine aw_iconst C 1 dX9_key_43 ki_1 ?_
    obtain ⟨hb1, h⟩ := ck_some h
    refine am_iald C (rGa σ 1 (1 : Int32)) rfl (inb_vp hb1) rfl dX9_key_44 ?_
    refine aw_if_eq C 50 dX9_key_45 (by decide) (fun q => ?_) (fun q => ?_)
    · rw [if_pos q] at h
      refine aw_iload_n C dX9_key_50 rfl ?_
      refine aw_if_ne C 63 dX9_key_51 (by decide) (fun q => ?_) (fun q => ?_)
      · rw [if_neg q] at h
        refine aw_ald_n C dX9_key_63 rfl ?_
        refine aw_get C (v := .ref (rAid 40)) gf_X9_99 (hm_M f (rSf σ 0 s1)) rfl dX9_key_64 ?_
        refine aw_iload_n C dX9_key_67 rfl ?_
        obtain ⟨hb2, h⟩ := ck_some h
        refine am_iald C (rGa σ 40 v1) rfl (inb_vp hb2) rfl dX9_key_68 ?_
        refine aw_fl [none, none, none] trivial ?_
        exact rmX9_key_b69 C h
      · rw [if_pos q] at h
        refine aw_ald_n C dX9_key_54 rfl ?_
        refine aw_get C (v := .ref (rAid 39)) gf_X9_96 (hm_M f (rSf σ 0 s1)) rfl dX9_key_55 ?_
        refine aw_iload_n C dX9_key_58 rfl ?_
        obtain ⟨hb3, h⟩ := ck_some h
        refine am_iald C (rGa σ 39 v1) rfl (inb_vp hb3) rfl dX9_key_59 ?_
        refine aw_goto C 69 dX9_key_60 (by decide) ?_
        refine aw_fl [none, none, none] trivial ?_
        exact rmX9_key_b69 C h
    · rw [if_neg q] at h
      refine aw_iconst C (-1) dX9_key_48 ki_m1 ?_
      cases h
      exact aw_iret C rfl rfl dX9_key_49 (Nat.le_refl _) (Nat.le_refl _) ⟨rfl, rfl, rfl⟩
  · rw [if_neg q] at h
    refine aw_iconst C 0 dX9_key_37 ki_0 ?_
    cases h
    exact aw_iret C rfl rfl dX9_key_38 (Nat.le_refl _) (Nat.le_refl _) ⟨rfl, rfl, rfl⟩
def mX9_key (v1 : Int32) (v2 : Int32) (σ : RS9) : Option (Int32 × RS9) := ((mX9_isPieceThere v1 σ).bind fun r1 => (if r1.1 = (0 : Int32) then mX9_key_b27 v1 v2 (1 : Int32) r1.2 else ((mX9_isIn v2 (0 : Int32) (1 : Int32) r1.2).bind fun r2 => (if r2.1 = (0 : Int32) then mX9_key_b27 v1 v2 (2 : Int32) r2.2 else mX9_key_b27 v1 v2 (0 : Int32) r2.2))))
set_option maxHeartbeats 1000000 in
theorem rmX9_key {X : GX} {l : Launch} {f : AH} {n : Nat} {r : Int32 × RS9} {v1 : Int32} {v2 : Int32} {σ : RS9} (h : mX9_key v1 v2 σ = some r) : AM X l yX9_key cX9_key 3 (some .int) 2 0 0 [.ref 181, .int v1, .int v2] (rHm f σ) n (QMi f n r) := by
  have h : ((mX9_isPieceThere v1 σ).bind fun r1 => (if r1.1 = (0 : Int32) then mX9_key_b27 v1 v2 (1 : Int32) r1.2 else ((mX9_isIn v2 (0 : Int32) (1 : Int32) r1.2).bind fun r2 => (if r2.1 = (0 : Int32) then mX9_key_b27 v1 v2 (2 : Int32) r2.2 else mX9_key_b27 v1 v2 (0 : Int32) r2.2)))) = some r := h
  refine AM.of (by decide +kernel) rfl (Nat.le_of_ble_eq_true rfl) (fun p e s m args below meth c C _ => ?_)
  refine aw_nl [some (.ref 181), some (.int v1), some (.int v2)] rfl ?_
  refine aw_ald_n C dX9_key_0 rfl ?_
  refine aw_ald_n C dX9_key_1 rfl ?_
  refine aw_iload_n C dX9_key_2 rfl ?_
  obtain ⟨r1, h1, h⟩ := Option.bind_eq_some_iff.mp h
  refine aw_callV C (ci := 9) (b := 181) [.int v1] mv_X9_293 rfl rfl (hm_M f σ) (rmX9_isPieceThere h1) rfl dX9_key_3 (Nat.le_of_ble_eq_true rfl) (Nat.le_of_ble_eq_true rfl) rfl (Nat.le_of_ble_eq_true rfl) (Nat.le_of_ble_eq_true rfl) (Nat.le_of_ble_eq_true rfl) (fun v9 f9 n9 hh => ?_)
  obtain ⟨rfl, rfl, rfl⟩ := hh
  refine aw_if_ne C 13 dX9_key_6 (by decide) (fun q => ?_) (fun q => ?_)
  · rw [if_neg q] at h
    refine aw_iload_n C dX9_key_13 rfl ?_
    refine aw_iconst C 0 dX9_key_14 ki_0 ?_
    refine aw_iconst C 1 dX9_key_15 ki_1 ?_
    obtain ⟨r2, h2, h⟩ := Option.bind_eq_some_iff.mp h
    refine aw_callS C [.int v2, .int (0 : Int32), .int (1 : Int32)] ms_X9_141 (rmX9_isIn h2) rfl dX9_key_16 (Nat.le_of_ble_eq_true rfl) (Nat.le_of_ble_eq_true rfl) rfl (Nat.le_of_ble_eq_true rfl) (Nat.le_of_ble_eq_true rfl) (Nat.le_of_ble_eq_true rfl) (fun v9 f9 n9 hh => ?_)
    obtain ⟨rfl, rfl, rfl⟩ := hh
    refine aw_if_ne C 26 dX9_key_19 (by decide) (fun q => ?_) (fun q => ?_)
    · rw [if_neg q] at h
      refine aw_iconst C 0 dX9_key_26 ki_0 ?_
      refine aw_fl [some (.ref 181), some (.int v1), some (.int v2)] ⟨rfl, ⟨rfl, ⟨rfl, trivial⟩⟩⟩ ?_
      exact rmX9_key_b27 C h
    · rw [if_pos q] at h
      refine aw_iconst C 2 dX9_key_22 ki_2 ?_
      refine aw_goto C 27 dX9_key_23 (by decide) ?_
      refine aw_fl [some (.ref 181), some (.int v1), some (.int v2)] ⟨rfl, ⟨rfl, ⟨rfl, trivial⟩⟩⟩ ?_
      exact rmX9_key_b27 C h
  · rw [if_pos q] at h
    refine aw_iconst C 1 dX9_key_9 ki_1 ?_
    refine aw_goto C 27 dX9_key_10 (by decide) ?_
    refine aw_fl [some (.ref 181), some (.int v1), some (.int v2)] ⟨rfl, ⟨rfl, ⟨rfl, trivial⟩⟩⟩ ?_
    exact rmX9_key_b27 C h
def mX9_holder_l7 : Nat → Int32 → Int32 → RS9 → Option (Int32 × RS9)
  | 0, _, _, _ => none
  | d + 1, v1, v2, σ => (if (σ.1 33) ≤ v2 then some ((-1 : Int32), σ) else rCk (rIn v2 (rLen 34)) (rCk (rIn v2 (rLen 35)) (((mX9_isIn v1 (rGa σ 34 v2) ((rGa σ 35 v2) - (1 : Int32)) σ).bind fun r3 => (if r3.1 = (0 : Int32) then mX9_holder_l7 d v1 (v2 + (1 : Int32)) r3.2 else some (v2, r3.2))))))
set_option maxHeartbeats 1000000 in
theorem rmX9_holder_l7 {X : GX} {p : Program} {l : Launch} {e : Env} {s : State} {m : MethodId} {args : Array Value} {below : List Frame} {meth : Method} {c : Code} {f : AH} {n : Nat} {r : Int32 × RS9} (C : CC X p l (RM 1 0 0) s m args meth c RX9 cX9_holder 3 (some .int)) : ∀ (d : Nat) (v1 : Int32) (v2 : Int32) (σ : RS9) (_ : mX9_holder_l7 d v1 v2 σ = some r), AW X p l e (RM 1 0 0) s m args below meth c 3 (ZM X below args s 0 0 (QMi f n r)) (rHm f σ) n 0 0 7 [some (.ref 181), some (.int v1), some (.int v2)] [] := by
  intro d
  induction d with
  | zero =>
    intro v1 v2 σ h
    exact nomatch (show (none : Option (Int32 × RS9)) = some r from h)
  | succ d ih =>
    intro v1 v2 σ h
    have h : (if (σ.1 33) ≤ v2 then some ((-1 : Int32), σ) else rCk (rIn v2 (rLen 34)) (rCk (rIn v2 (rLen 35)) (((mX9_isIn v1 (rGa σ 34 v2) ((rGa σ 35 v2) - (1 : Int32)) σ).bind fun r3 => (if r3.1 = (0 : Int32) then mX9_holder_l7 d v1 (v2 + (1 : Int32)) r3.2 else some (v2, r3.2)))))) = some r := h
    refine aw_iload_n C dX9_holder_7 rfl ?_
    refine aw_ald_n C dX9_holder_8 rfl ?_
    refine aw_get C (v := .int (σ.1 33)) gf_X9_204 (hm_M f σ) rfl dX9_holder_9 ?_
    refine aw_icmp_ge C 44 dX9_holder_12 (by decide) (fun q => ?_) (fun q => ?_)
    · rw [if_pos q] at h
      refine aw_iconst C (-1) dX9_holder_44 ki_m1 ?_
      cases h
      exact aw_iret C rfl rfl dX9_holder_45 (Nat.le_refl _) (Nat.le_refl _) ⟨rfl, rfl, rfl⟩
    · rw [if_neg q] at h
      refine aw_iload_n C dX9_holder_15 rfl ?_
      refine aw_ald_n C dX9_holder_16 rfl ?_
      refine aw_get C (v := .ref (rAid 34)) gf_X9_81 (hm_M f σ) rfl dX9_holder_17 ?_
      refine aw_iload_n C dX9_holder_20 rfl ?_
      obtain ⟨hb1, h⟩ := ck_some h
      refine am_iald C (rGa σ 34 v2) rfl (inb_vp hb1) rfl dX9_holder_21 ?_
      refine aw_ald_n C dX9_holder_22 rfl ?_
      refine aw_get C (v := .ref (rAid 35)) gf_X9_84 (hm_M f σ) rfl dX9_holder_23 ?_
      refine aw_iload_n C dX9_holder_26 rfl ?_
      obtain ⟨hb2, h⟩ := ck_some h
      refine am_iald C (rGa σ 35 v2) rfl (inb_vp hb2) rfl dX9_holder_27 ?_
      refine aw_iconst C 1 dX9_holder_28 ki_1 ?_
      refine aw_isub C dX9_holder_29 ?_
      obtain ⟨r3, h3, h⟩ := Option.bind_eq_some_iff.mp h
      refine aw_callS C [.int v1, .int (rGa σ 34 v2), .int ((rGa σ 35 v2) - (1 : Int32))] ms_X9_141 (rmX9_isIn h3) rfl dX9_holder_30 (Nat.le_of_ble_eq_true rfl) (Nat.le_of_ble_eq_true rfl) rfl (Nat.le_of_ble_eq_true rfl) (Nat.le_of_ble_eq_true rfl) (Nat.le_of_ble_eq_true rfl) (fun v9 f9 n9 hh => ?_)
      obtain ⟨rfl, rfl, rfl⟩ := hh
      refine aw_if_eq C 38 dX9_holder_33 (by decide) (fun q => ?_) (fun q => ?_)
      · rw [if_pos q] at h
        refine aw_iinc C (v2 + (1 : Int32)) dX9_holder_38 rfl (by rw [ki_1]) (by decide) rfl ?_
        refine aw_nl [some (.ref 181), some (.int v1), some (.int (v2 + (1 : Int32)))] rfl ?_
        refine aw_goto C 7 dX9_holder_41 (by decide) ?_
        refine aw_fl [some (.ref 181), some (.int v1), some (.int (v2 + (1 : Int32)))] ⟨rfl, ⟨rfl, ⟨rfl, trivial⟩⟩⟩ ?_
        exact ih v1 (v2 + (1 : Int32)) r3.2 h
      · rw [if_neg q] at h
        refine aw_iload_n C dX9_holder_36 rfl ?_
        cases h
        exact aw_iret C rfl rfl dX9_holder_37 (Nat.le_refl _) (Nat.le_refl _) ⟨rfl, rfl, rfl⟩
def mX9_holder (v1 : Int32) (σ : RS9) : Option (Int32 × RS9) := mX9_holder_l7 rFU v1 (0 : Int32) (rSf σ 0 (0 : Int32))
set_option maxHeartbeats 1000000 in
theorem rmX9_holder {X : GX} {l : Launch} {f : AH} {n : Nat} {r : Int32 × RS9} {v1 : Int32} {σ : RS9} (h : mX9_holder v1 σ = some r) : AM X l yX9_holder cX9_holder 3 (some .int) 1 0 0 [.ref 181, .int v1] (rHm f σ) n (QMi f n r) := by
  have h : mX9_holder_l7 rFU v1 (0 : Int32) (rSf σ 0 (0 : Int32)) = some r := h
  refine AM.of (by decide +kernel) rfl (Nat.le_of_ble_eq_true rfl) (fun p e s m args below meth c C _ => ?_)
  refine aw_nl [some (.ref 181), some (.int v1), none] rfl ?_
  refine aw_ald_n C dX9_holder_0 rfl ?_
  refine aw_iconst C 0 dX9_holder_1 ki_0 ?_
  refine am_put C gf_X9_138 nf9_0 rfl rfl dX9_holder_2 ?_
  refine aw_iconst C 0 dX9_holder_5 ki_0 ?_
  refine aw_istore_n C dX9_holder_6 (by decide) rfl ?_
  refine aw_nl [some (.ref 181), some (.int v1), some (.int (0 : Int32))] rfl ?_
  refine aw_fl [some (.ref 181), some (.int v1), some (.int (0 : Int32))] ⟨rfl, ⟨rfl, ⟨rfl, trivial⟩⟩⟩ ?_
  exact rmX9_holder_l7 C rFU v1 (0 : Int32) (rSf σ 0 (0 : Int32)) h
def mX9_like_b64 (rec31 : Int32 → Int32 → Int32 → Int32 → RS9 → Option (Int32 × RS9)) (v1 : Int32) (v2 : Int32) (v3 : Int32) (v4 : Int32) (σ : RS9) : Option (Int32 × RS9) := rec31 v1 v2 v3 (v4 + (1 : Int32)) σ
set_option maxHeartbeats 1000000 in
theorem rmX9_like_b64 {X : GX} {p : Program} {l : Launch} {e : Env} {s : State} {m : MethodId} {args : Array Value} {below : List Frame} {meth : Method} {c : Code} {f : AH} {n : Nat} {r : Int32 × RS9} {rec31 : Int32 → Int32 → Int32 → Int32 → RS9 → Option (Int32 × RS9)} {v1 : Int32} {v2 : Int32} {v3 : Int32} {v4 : Int32} {σ : RS9} (C : CC X p l (RM 2 0 0) s m args meth c RX9 cX9_like 5 (some .int)) (Hr31 : ∀ (v1 : Int32) (v2 : Int32) (v3 : Int32) (v4 : Int32) (σ : RS9), rec31 v1 v2 v3 v4 σ = some r → AW X p l e (RM 2 0 0) s m args below meth c 5 (ZM X below args s 0 0 (QMi f n r)) (rHm f σ) n 0 0 31 [some (.ref 181), some (.int v1), some (.int v2), some (.int v3), some (.int v4)] []) (h : mX9_like_b64 rec31 v1 v2 v3 v4 σ = some r) : AW X p l e (RM 2 0 0) s m args below meth c 5 (ZM X below args s 0 0 (QMi f n r)) (rHm f σ) n 0 0 64 [some (.ref 181), some (.int v1), some (.int v2), some (.int v3), some (.int v4)] [] := by
  have h : rec31 v1 v2 v3 (v4 + (1 : Int32)) σ = some r := h
  refine aw_iinc C (v4 + (1 : Int32)) dX9_like_64 rfl (by rw [ki_1]) (by decide) rfl ?_
  refine aw_nl [some (.ref 181), some (.int v1), some (.int v2), some (.int v3), some (.int (v4 + (1 : Int32)))] rfl ?_
  refine aw_goto C 31 dX9_like_67 (by decide) ?_
  refine aw_fl [some (.ref 181), some (.int v1), some (.int v2), some (.int v3), some (.int (v4 + (1 : Int32)))] ⟨rfl, ⟨rfl, ⟨rfl, ⟨rfl, ⟨rfl, trivial⟩⟩⟩⟩⟩ ?_
  exact Hr31 v1 v2 v3 (v4 + (1 : Int32)) σ h
def mX9_like_l31 : Nat → Int32 → Int32 → Int32 → Int32 → RS9 → Option (Int32 × RS9)
  | 0, _, _, _, _, _ => none
  | d + 1, v1, v2, v3, v4, σ => (if (σ.1 33) ≤ v4 then some ((-1 : Int32), σ) else ((mX9_areLike v1 v4 σ).bind fun r1 => (if r1.1 = (0 : Int32) then mX9_like_b64 (fun v1 v2 v3 v4 σ => mX9_like_l31 d v1 v2 v3 v4 σ) v1 v2 v3 v4 r1.2 else (if v3 = v2 then some (v4, r1.2) else mX9_like_b64 (fun v1 v2 v3 v4 σ => mX9_like_l31 d v1 v2 v3 v4 σ) v1 v2 (v3 + (1 : Int32)) v4 r1.2))))
set_option maxHeartbeats 1000000 in
theorem rmX9_like_l31 {X : GX} {p : Program} {l : Launch} {e : Env} {s : State} {m : MethodId} {args : Array Value} {below : List Frame} {meth : Method} {c : Code} {f : AH} {n : Nat} {r : Int32 × RS9} (C : CC X p l (RM 2 0 0) s m args meth c RX9 cX9_like 5 (some .int)) : ∀ (d : Nat) (v1 : Int32) (v2 : Int32) (v3 : Int32) (v4 : Int32) (σ : RS9) (_ : mX9_like_l31 d v1 v2 v3 v4 σ = some r), AW X p l e (RM 2 0 0) s m args below meth c 5 (ZM X below args s 0 0 (QMi f n r)) (rHm f σ) n 0 0 31 [some (.ref 181), some (.int v1), some (.int v2), some (.int v3), some (.int v4)] [] := by
  intro d
  induction d with
  | zero =>
    intro v1 v2 v3 v4 σ h
    exact nomatch (show (none : Option (Int32 × RS9)) = some r from h)
  | succ d ih =>
    intro v1 v2 v3 v4 σ h
    have h : (if (σ.1 33) ≤ v4 then some ((-1 : Int32), σ) else ((mX9_areLike v1 v4 σ).bind fun r1 => (if r1.1 = (0 : Int32) then mX9_like_b64 (fun v1 v2 v3 v4 σ => mX9_like_l31 d v1 v2 v3 v4 σ) v1 v2 v3 v4 r1.2 else (if v3 = v2 then some (v4, r1.2) else mX9_like_b64 (fun v1 v2 v3 v4 σ => mX9_like_l31 d v1 v2 v3 v4 σ) v1 v2 (v3 + (1 : Int32)) v4 r1.2)))) = some r := h
    refine aw_iload C dX9_like_31 rfl ?_
    refine aw_ald_n C dX9_like_33 rfl ?_
    refine aw_get C (v := .int (σ.1 33)) gf_X9_204 (hm_M f σ) rfl dX9_like_34 ?_
    refine aw_icmp_ge C 70 dX9_like_37 (by decide) (fun q => ?_) (fun q => ?_)
    · rw [if_pos q] at h
      refine aw_iconst C (-1) dX9_like_70 ki_m1 ?_
      cases h
      exact aw_iret C rfl rfl dX9_like_71 (Nat.le_refl _) (Nat.le_refl _) ⟨rfl, rfl, rfl⟩
    · rw [if_neg q] at h
      refine aw_ald_n C dX9_like_40 rfl ?_
      refine aw_iload_n C dX9_like_41 rfl ?_
      refine aw_iload C dX9_like_42 rfl ?_
      obtain ⟨r1, h1, h⟩ := Option.bind_eq_some_iff.mp h
      refine aw_callV C (ci := 9) (b := 181) [.int v1, .int v4] mv_X9_309 rfl rfl (hm_M f σ) (rmX9_areLike h1) rfl dX9_like_44 (Nat.le_of_ble_eq_true rfl) (Nat.le_of_ble_eq_true rfl) rfl (Nat.le_of_ble_eq_true rfl) (Nat.le_of_ble_eq_true rfl) (Nat.le_of_ble_eq_true rfl) (fun v9 f9 n9 hh => ?_)
      obtain ⟨rfl, rfl, rfl⟩ := hh
      refine aw_if_ne C 53 dX9_like_47 (by decide) (fun q => ?_) (fun q => ?_)
      · rw [if_neg q] at h
        refine aw_iload_n C dX9_like_53 rfl ?_
        refine aw_iload_n C dX9_like_54 rfl ?_
        refine aw_icmp_ne C 61 dX9_like_55 (by decide) (fun q => ?_) (fun q => ?_)
        · rw [if_neg q] at h
          refine aw_iinc C (v3 + (1 : Int32)) dX9_like_61 rfl (by rw [ki_1]) (by decide) rfl ?_
          refine aw_nl [some (.ref 181), some (.int v1), some (.int v2), some (.int (v3 + (1 : Int32))), some (.int v4)] rfl ?_
          refine aw_fl [some (.ref 181), some (.int v1), some (.int v2), some (.int (v3 + (1 : Int32))), some (.int v4)] ⟨rfl, ⟨rfl, ⟨rfl, ⟨rfl, ⟨rfl, trivial⟩⟩⟩⟩⟩ ?_
          exact rmX9_like_b64 C (fun v1 v2 v3 v4 σ h => ih v1 v2 v3 v4 σ h) h
        · rw [if_pos q] at h
          refine aw_iload C dX9_like_58 rfl ?_
          cases h
          exact aw_iret C rfl rfl dX9_like_60 (Nat.le_refl _) (Nat.le_refl _) ⟨rfl, rfl, rfl⟩
      · rw [if_pos q] at h
        refine aw_goto C 64 dX9_like_50 (by decide) ?_
        refine aw_fl [some (.ref 181), some (.int v1), some (.int v2), some (.int v3), some (.int v4)] ⟨rfl, ⟨rfl, ⟨rfl, ⟨rfl, ⟨rfl, trivial⟩⟩⟩⟩⟩ ?_
        exact rmX9_like_b64 C (fun v1 v2 v3 v4 σ h => ih v1 v2 v3 v4 σ h) h
def mX9_like_b14 (v1 : Int32) (v2 : Int32) (s1 : Int32) (σ : RS9) : Option (Int32 × RS9) := (if s1 ≤ (0 : Int32) then mX9_like_l31 rFU v1 v2 (0 : Int32) (0 : Int32) (rSf σ 0 s1) else some ((0 : Int32), (rSf σ 0 s1)))
set_option maxHeartbeats 1000000 in
theorem rmX9_like_b14 {X : GX} {p : Program} {l : Launch} {e : Env} {s : State} {m : MethodId} {args : Array Value} {below : List Frame} {meth : Method} {c : Code} {f : AH} {n : Nat} {r : Int32 × RS9} {v1 : Int32} {v2 : Int32} {s1 : Int32} {σ : RS9} (C : CC X p l (RM 2 0 0) s m args meth c RX9 cX9_like 5 (some .int)) (h : mX9_like_b14 v1 v2 s1 σ = some r) : AW X p l e (RM 2 0 0) s m args below meth c 5 (ZM X below args s 0 0 (QMi f n r)) (rHm f σ) n 0 0 14 [some (.ref 181), some (.int v1), some (.int v2), none, none] [.int s1, .ref 181] := by
  have h : (if s1 ≤ (0 : Int32) then mX9_like_l31 rFU v1 v2 (0 : Int32) (0 : Int32) (rSf σ 0 s1) else some ((0 : Int32), (rSf σ 0 s1))) = some r := h
  refine am_put C gf_X9_138 nf9_0 rfl rfl dX9_like_14 ?_
  refine aw_ald_n C dX9_like_17 rfl ?_
  refine aw_get C (v := .int s1) gf_X9_138 (hm_M f (rSf σ 0 s1)) rfl dX9_like_18 ?_
  refine aw_if_le C 26 dX9_like_21 (by decide) (fun q => ?_) (fun q => ?_)
  · rw [if_pos q] at h
    refine aw_iconst C 0 dX9_like_26 ki_0 ?_
    refine aw_istore_n C dX9_like_27 (by decide) rfl ?_
    refine aw_nl [some (.ref 181), some (.int v1), some (.int v2), some (.int (0 : Int32)), none] rfl ?_
    refine aw_iconst C 0 dX9_like_28 ki_0 ?_
    refine aw_istore C dX9_like_29 (by decide) rfl ?_
    refine aw_nl [some (.ref 181), some (.int v1), some (.int v2), some (.int (0 : Int32)), some (.int (0 : Int32))] rfl ?_
    refine aw_fl [some (.ref 181), some (.int v1), some (.int v2), some (.int (0 : Int32)), some (.int (0 : Int32))] ⟨rfl, ⟨rfl, ⟨rfl, ⟨rfl, ⟨rfl, trivial⟩⟩⟩⟩⟩ ?_
    exact rmX9_like_l31 C rFU v1 v2 (0 : Int32) (0 : Int32) (rSf σ 0 s1) h
  · rw [if_neg q] at h
    refine aw_iconst C 0 dX9_like_24 ki_0 ?_
    cases h
    exact aw_iret C rfl rfl dX9_like_25 (Nat.le_refl _) (Nat.le_refl _) ⟨rfl, rfl, rfl⟩
def mX9_like (v1 : Int32) (v2 : Int32) (σ : RS9) : Option (Int32 × RS9) := ((mX9_isPieceThere v1 σ).bind fun r1 => (if r1.1 = (0 : Int32) then mX9_like_b14 v1 v2 (1 : Int32) r1.2 else mX9_like_b14 v1 v2 (0 : Int32) r1.2))
set_option maxHeartbeats 1000000 in
theorem rmX9_like {X : GX} {l : Launch} {f : AH} {n : Nat} {r : Int32 × RS9} {v1 : Int32} {v2 : Int32} {σ : RS9} (h : mX9_like v1 v2 σ = some r) : AM X l yX9_like cX9_like 5 (some .int) 2 0 0 [.ref 181, .int v1, .int v2] (rHm f σ) n (QMi f n r) := by
  have h : ((mX9_isPieceThere v1 σ).bind fun r1 => (if r1.1 = (0 : Int32) then mX9_like_b14 v1 v2 (1 : Int32) r1.2 else mX9_like_b14 v1 v2 (0 : Int32) r1.2)) = some r := h
  refine AM.of (by decide +kernel) rfl (Nat.le_of_ble_eq_true rfl) (fun p e s m args below meth c C _ => ?_)
  refine aw_nl [some (.ref 181), some (.int v1), some (.int v2), none, none] rfl ?_
  refine aw_ald_n C dX9_like_0 rfl ?_
  refine aw_ald_n C dX9_like_1 rfl ?_
  refine aw_iload_n C dX9_like_2 rfl ?_
  obtain ⟨r1, h1, h⟩ := Option.bind_eq_some_iff.mp h
  refine aw_callV C (ci := 9) (b := 181) [.int v1] mv_X9_293 rfl rfl (hm_M f σ) (rmX9_isPieceThere h1) rfl dX9_like_3 (Nat.le_of_ble_eq_true rfl) (Nat.le_of_ble_eq_true rfl) rfl (Nat.le_of_ble_eq_true rfl) (Nat.le_of_ble_eq_true rfl) (Nat.le_of_ble_eq_true rfl) (fun v9 f9 n9 hh => ?_)
  obtain ⟨rfl, rfl, rfl⟩ := hh
  refine aw_if_eq C 13 dX9_like_6 (by decide) (fun q => ?_) (fun q => ?_)
  · rw [if_pos q] at h
    refine aw_iconst C 1 dX9_like_13 ki_1 ?_
    refine aw_fl [some (.ref 181), some (.int v1), some (.int v2), none, none] ⟨rfl, ⟨rfl, ⟨rfl, trivial⟩⟩⟩ ?_
    exact rmX9_like_b14 C h
  · rw [if_neg q] at h
    refine aw_iconst C 0 dX9_like_9 ki_0 ?_
    refine aw_goto C 14 dX9_like_10 (by decide) ?_
    refine aw_fl [some (.ref 181), some (.int v1), some (.int v2), none, none] ⟨rfl, ⟨rfl, ⟨rfl, trivial⟩⟩⟩ ?_
    exact rmX9_like_b14 C h
end
/-! part 22ai.ref -/
section
def mX9_hasWord_b86 (rec2 : Int32 → Int32 → Int32 → RS9 → Option (Int32 × RS9)) (v1 : Int32) (v2 : Int32) (v3 : Int32) (v4 : Int32) (σ : RS9) : Option (Int32 × RS9) := (if v4 = (0 : Int32) then rec2 v1 v2 (v3 + (1 : Int32)) σ else rCk (rNb (1 : Int32)) (some ((1 : Int32), σ)))
set_option maxHeartbeats 1000000 in
theorem rmX9_hasWord_b86 {X : GX} {p : Program} {l : Launch} {e : Env} {s : State} {m : MethodId} {args : Array Value} {below : List Frame} {meth : Method} {c : Code} {f : AH} {n : Nat} {r : Int32 × RS9} {rec2 : Int32 → Int32 → Int32 → RS9 → Option (Int32 × RS9)} {v1 : Int32} {v2 : Int32} {v3 : Int32} {v4 : Int32} {σ : RS9} (C : CC X p l (RM 2 0 0) s m args meth c RX9 cX9_hasWord 7 (some .boolean)) (Hr2 : ∀ (v1 : Int32) (v2 : Int32) (v3 : Int32) (σ : RS9), rec2 v1 v2 v3 σ = some r → AW X p l e (RM 2 0 0) s m args below meth c 7 (ZM X below args s 0 0 (QMi f n r)) (rHm f σ) n 0 0 2 [some (.ref 181), some (.int v1), some (.int v2), some (.int v3), none, none, none] []) (h : mX9_hasWord_b86 rec2 v1 v2 v3 v4 σ = some r) : AW X p l e (RM 2 0 0) s m args below meth c 7 (ZM X below args s 0 0 (QMi f n r)) (rHm f σ) n 0 0 86 [some (.ref 181), some (.int v1), some (.int v2), some (.int v3), some (.int v4), none, none] [] := by
  have h : (if v4 = (0 : Int32) then rec2 v1 v2 (v3 + (1 : Int32)) σ else rCk (rNb (1 : Int32)) (some ((1 : Int32), σ))) = some r := h
  refine aw_iload C dX9_hasWord_86 rfl ?_
  refine aw_if_eq C 93 dX9_hasWord_88 (by decide) (fun q => ?_) (fun q => ?_)
  · rw [if_pos q] at h
    refine aw_iinc C (v3 + (1 : Int32)) dX9_hasWord_93 rfl (by rw [ki_1]) (by decide) rfl ?_
    refine aw_nl [some (.ref 181), some (.int v1), some (.int v2), some (.int (v3 + (1 : Int32))), some (.int v4), none, none] rfl ?_
    refine aw_goto C 2 dX9_hasWord_96 (by decide) ?_
    refine aw_fl [some (.ref 181), some (.int v1), some (.int v2), some (.int (v3 + (1 : Int32))), none, none, none] ⟨rfl, ⟨rfl, ⟨rfl, ⟨rfl, trivial⟩⟩⟩⟩ ?_
    exact Hr2 v1 v2 (v3 + (1 : Int32)) σ h
  · rw [if_neg q] at h
    refine aw_iconst C 1 dX9_hasWord_91 ki_1 ?_
    obtain ⟨hb1, h⟩ := ck_some h
    cases h
    exact aw_iret C rfl (nb_nar hb1) dX9_hasWord_92 (Nat.le_refl _) (Nat.le_refl _) ⟨rfl, rfl, rfl⟩
def mX9_hasWord_b78 (rec2 : Int32 → Int32 → Int32 → RS9 → Option (Int32 × RS9)) (rec19 : Int32 → Int32 → Int32 → Int32 → Int32 → RS9 → Option (Int32 × RS9)) (v1 : Int32) (v2 : Int32) (v3 : Int32) (v5 : Int32) (s0 : Int32) (σ : RS9) : Option (Int32 × RS9) := rec19 v1 v2 v3 s0 (v5 + (1 : Int32)) σ
set_option maxHeartbeats 1000000 in
theorem rmX9_hasWord_b78 {X : GX} {p : Program} {l : Launch} {e : Env} {s : State} {m : MethodId} {args : Array Value} {below : List Frame} {meth : Method} {c : Code} {f : AH} {n : Nat} {r : Int32 × RS9} {rec2 : Int32 → Int32 → Int32 → RS9 → Option (Int32 × RS9)} {rec19 : Int32 → Int32 → Int32 → Int32 → Int32 → RS9 → Option (Int32 × RS9)} {v1 : Int32} {v2 : Int32} {v3 : Int32} {v5 : Int32} {s0 : Int32} {σ : RS9} (C : CC X p l (RM 2 0 0) s m args meth c RX9 cX9_hasWord 7 (some .boolean)) (Hr2 : ∀ (v1 : Int32) (v2 : Int32) (v3 : Int32) (σ : RS9), rec2 v1 v2 v3 σ = some r → AW X p l e (RM 2 0 0) s m args below meth c 7 (ZM X below args s 0 0 (QMi f n r)) (rHm f σ) n 0 0 2 [some (.ref 181), some (.int v1), some (.int v2), some (.int v3), none, none, none] []) (Hr19 : ∀ (v1 : Int32) (v2 : Int32) (v3 : Int32) (v4 : Int32) (v5 : Int32) (σ : RS9), rec19 v1 v2 v3 v4 v5 σ = some r → AW X p l e (RM 2 0 0) s m args below meth c 7 (ZM X below args s 0 0 (QMi f n r)) (rHm f σ) n 0 0 19 [some (.ref 181), some (.int v1), some (.int v2), some (.int v3), some (.int v4), some (.int v5), none] []) (h : mX9_hasWord_b78 rec2 rec19 v1 v2 v3 v5 s0 σ = some r) : AW X p l e (RM 2 0 0) s m args below meth c 7 (ZM X below args s 0 0 (QMi f n r)) (rHm f σ) n 0 0 78 [some (.ref 181), some (.int v1), some (.int v2), some (.int v3), none, some (.int v5), none] [.int s0] := by
  have h : rec19 v1 v2 v3 s0 (v5 + (1 : Int32)) σ = some r := h
  refine aw_istore C dX9_hasWord_78 (by decide) rfl ?_
  refine aw_nl [some (.ref 181), some (.int v1), some (.int v2), some (.int v3), some (.int s0), some (.int v5), none] rfl ?_
  refine aw_iinc C (v5 + (1 : Int32)) dX9_hasWord_80 rfl (by rw [ki_1]) (by decide) rfl ?_
  refine aw_nl [some (.ref 181), some (.int v1), some (.int v2), some (.int v3), some (.int s0), some (.int (v5 + (1 : Int32))), none] rfl ?_
  refine aw_goto C 19 dX9_hasWord_83 (by decide) ?_
  refine aw_fl [some (.ref 181), some (.int v1), some (.int v2), some (.int v3), some (.int s0), some (.int (v5 + (1 : Int32))), none] ⟨rfl, ⟨rfl, ⟨rfl, ⟨rfl, ⟨rfl, ⟨rfl, trivial⟩⟩⟩⟩⟩⟩ ?_
  exact Hr19 v1 v2 v3 s0 (v5 + (1 : Int32)) σ h
def mX9_hasWord_b70 (rec2 : Int32 → Int32 → Int32 → RS9 → Option (Int32 × RS9)) (rec19 : Int32 → Int32 → Int32 → Int32 → Int32 → RS9 → Option (Int32 × RS9)) (v1 : Int32) (v2 : Int32) (v3 : Int32) (v5 : Int32) (s0 : Int32) (s1 : Int32) (σ : RS9) : Option (Int32 × RS9) := (if s0 = s1 then mX9_hasWord_b78 rec2 rec19 v1 v2 v3 v5 (1 : Int32) σ else mX9_hasWord_b78 rec2 rec19 v1 v2 v3 v5 (0 : Int32) σ)
set_option maxHeartbeats 1000000 in
theorem rmX9_hasWord_b70 {X : GX} {p : Program} {l : Launch} {e : Env} {s : State} {m : MethodId} {args : Array Value} {below : List Frame} {meth : Method} {c : Code} {f : AH} {n : Nat} {r : Int32 × RS9} {rec2 : Int32 → Int32 → Int32 → RS9 → Option (Int32 × RS9)} {rec19 : Int32 → Int32 → Int32 → Int32 → Int32 → RS9 → Option (Int32 × RS9)} {v1 : Int32} {v2 : Int32} {v3 : Int32} {v5 : Int32} {s0 : Int32} {s1 : Int32} {σ : RS9} (C : CC X p l (RM 2 0 0) s m args meth c RX9 cX9_hasWord 7 (some .boolean)) (Hr2 : ∀ (v1 : Int32) (v2 : Int32) (v3 : Int32) (σ : RS9), rec2 v1 v2 v3 σ = some r → AW X p l e (RM 2 0 0) s m args below meth c 7 (ZM X below args s 0 0 (QMi f n r)) (rHm f σ) n 0 0 2 [some (.ref 181), some (.int v1), some (.int v2), some (.int v3), none, none, none] []) (Hr19 : ∀ (v1 : Int32) (v2 : Int32) (v3 : Int32) (v4 : Int32) (v5 : Int32) (σ : RS9), rec19 v1 v2 v3 v4 v5 σ = some r → AW X p l e (RM 2 0 0) s m args below meth c 7 (ZM X below args s 0 0 (QMi f n r)) (rHm f σ) n 0 0 19 [some (.ref 181), some (.int v1), some (.int v2), some (.int v3), some (.int v4), some (.int v5), none] []) (h : mX9_hasWord_b70 rec2 rec19 v1 v2 v3 v5 s0 s1 σ = some r) : AW X p l e (RM 2 0 0) s m args below meth c 7 (ZM X below args s 0 0 (QMi f n r)) (rHm f σ) n 0 0 70 [some (.ref 181), some (.int v1), some (.int v2), some (.int v3), none, some (.int v5), none] [.int s1, .int s0] := by
  have h : (if s0 = s1 then mX9_hasWord_b78 rec2 rec19 v1 v2 v3 v5 (1 : Int32) σ else mX9_hasWord_b78 rec2 rec19 v1 v2 v3 v5 (0 : Int32) σ) = some r := h
  refine aw_icmp_ne C 77 dX9_hasWord_70 (by decide) (fun q => ?_) (fun q => ?_)
  · rw [if_neg q] at h
    refine aw_iconst C 0 dX9_hasWord_77 ki_0 ?_
    refine aw_fl [some (.ref 181), some (.int v1), some (.int v2), some (.int v3), none, some (.int v5), none] ⟨rfl, ⟨rfl, ⟨rfl, ⟨rfl, ⟨rfl, trivial⟩⟩⟩⟩⟩ ?_
    exact rmX9_hasWord_b78 C Hr2 Hr19 h
  · rw [if_pos q] at h
    refine aw_iconst C 1 dX9_hasWord_73 ki_1 ?_
    refine aw_goto C 78 dX9_hasWord_74 (by decide) ?_
    refine aw_fl [some (.ref 181), some (.int v1), some (.int v2), some (.int v3), none, some (.int v5), none] ⟨rfl, ⟨rfl, ⟨rfl, ⟨rfl, ⟨rfl, trivial⟩⟩⟩⟩⟩ ?_
    exact rmX9_hasWord_b78 C Hr2 Hr19 h
def mX9_hasWord_l19 (rec2 : Int32 → Int32 → Int32 → RS9 → Option (Int32 × RS9)) : Nat → Int32 → Int32 → Int32 → Int32 → Int32 → RS9 → Option (Int32 × RS9)
  | 0, _, _, _, _, _, _ => none
  | d + 1, v1, v2, v3, v4, v5, σ => (if v2 ≤ v5 then mX9_hasWord_b86 rec2 v1 v2 v3 v4 σ else (if v4 = (0 : Int32) then mX9_hasWord_b86 rec2 v1 v2 v3 v4 σ else ((mX9_nowByte v1 (v3 + v5) σ).bind fun r1 => rCk (rIn v5 (rLen 8)) (((mX9_isIn r1.1 (65 : Int32) (90 : Int32) r1.2).bind fun r3 => (if r3.1 = (0 : Int32) then mX9_hasWord_b70 rec2 (fun v1 v2 v3 v4 v5 σ => mX9_hasWord_l19 rec2 d v1 v2 v3 v4 v5 σ) v1 v2 v3 v5 (rGa r1.2 8 v5) r1.1 r3.2 else mX9_hasWord_b70 rec2 (fun v1 v2 v3 v4 v5 σ => mX9_hasWord_l19 rec2 d v1 v2 v3 v4 v5 σ) v1 v2 v3 v5 (rGa r1.2 8 v5) (r1.1 + (32 : Int32)) r3.2))))))
set_option maxHeartbeats 1000000 in
theorem rmX9_hasWord_l19 {X : GX} {p : Program} {l : Launch} {e : Env} {s : State} {m : MethodId} {args : Array Value} {below : List Frame} {meth : Method} {c : Code} {f : AH} {n : Nat} {r : Int32 × RS9} {rec2 : Int32 → Int32 → Int32 → RS9 → Option (Int32 × RS9)} (C : CC X p l (RM 2 0 0) s m args meth c RX9 cX9_hasWord 7 (some .boolean)) (Hr2 : ∀ (v1 : Int32) (v2 : Int32) (v3 : Int32) (σ : RS9), rec2 v1 v2 v3 σ = some r → AW X p l e (RM 2 0 0) s m args below meth c 7 (ZM X below args s 0 0 (QMi f n r)) (rHm f σ) n 0 0 2 [some (.ref 181), some (.int v1), some (.int v2), some (.int v3), none, none, none] []) : ∀ (d : Nat) (v1 : Int32) (v2 : Int32) (v3 : Int32) (v4 : Int32) (v5 : Int32) (σ : RS9) (_ : mX9_hasWord_l19 rec2 d v1 v2 v3 v4 v5 σ = some r), AW X p l e (RM 2 0 0) s m args below meth c 7 (ZM X below args s 0 0 (QMi f n r)) (rHm f σ) n 0 0 19 [some (.ref 181), some (.int v1), some (.int v2), some (.int v3), some (.int v4), some (.int v5), none] [] := by
  intro d
  induction d with
  | zero =>
    intro v1 v2 v3 v4 v5 σ h
    exact nomatch (show (none : Option (Int32 × RS9)) = some r from h)
  | succ d ih =>
    intro v1 v2 v3 v4 v5 σ h
    have h : (if v2 ≤ v5 then mX9_hasWord_b86 rec2 v1 v2 v3 v4 σ else (if v4 = (0 : Int32) then mX9_hasWord_b86 rec2 v1 v2 v3 v4 σ else ((mX9_nowByte v1 (v3 + v5) σ).bind fun r1 => rCk (rIn v5 (rLen 8)) (((mX9_isIn r1.1 (65 : Int32) (90 : Int32) r1.2).bind fun r3 => (if r3.1 = (0 : Int32) then mX9_hasWord_b70 rec2 (fun v1 v2 v3 v4 v5 σ => mX9_hasWord_l19 rec2 d v1 v2 v3 v4 v5 σ) v1 v2 v3 v5 (rGa r1.2 8 v5) r1.1 r3.2 else mX9_hasWord_b70 rec2 (fun v1 v2 v3 v4 v5 σ => mX9_hasWord_l19 rec2 d v1 v2 v3 v4 v5 σ) v1 v2 v3 v5 (rGa r1.2 8 v5) (r1.1 + (32 : Int32)) r3.2)))))) = some r := h
    refine aw_iload C dX9_hasWord_19 rfl ?_
    refine aw_iload_n C dX9_hasWord_21 rfl ?_
    refine aw_icmp_ge C 86 dX9_hasWord_22 (by decide) (fun q => ?_) (fun q => ?_)
    · rw [if_pos q] at h
      refine aw_fl [some (.ref 181), some (.int v1), some (.int v2), some (.int v3), some (.int v4), none, none] ⟨rfl, ⟨rfl, ⟨rfl, ⟨rfl, ⟨rfl, trivial⟩⟩⟩⟩⟩ ?_
      exact rmX9_hasWord_b86 C Hr2 h
    · rw [if_neg q] at h
      refine aw_iload C dX9_hasWord_25 rfl ?_
      refine aw_if_eq C 86 dX9_hasWord_27 (by decide) (fun q => ?_) (fun q => ?_)
      · rw [if_pos q] at h
        refine aw_fl [some (.ref 181), some (.int v1), some (.int v2), some (.int v3), some (.int v4), none, none] ⟨rfl, ⟨rfl, ⟨rfl, ⟨rfl, ⟨rfl, trivial⟩⟩⟩⟩⟩ ?_
        exact rmX9_hasWord_b86 C Hr2 h
      · rw [if_neg q] at h
        refine aw_ald_n C dX9_hasWord_30 rfl ?_
        refine aw_iload_n C dX9_hasWord_31 rfl ?_
        refine aw_iload_n C dX9_hasWord_32 rfl ?_
        refine aw_iload C dX9_hasWord_33 rfl ?_
        refine aw_iadd C dX9_hasWord_35 ?_
        obtain ⟨r1, h1, h⟩ := Option.bind_eq_some_iff.mp h
        refine aw_callV C (ci := 9) (b := 181) [.int v1, .int (v3 + v5)] mv_X9_316 rfl rfl (hm_M f σ) (rmX9_nowByte h1) rfl dX9_hasWord_36 (Nat.le_of_ble_eq_true rfl) (Nat.le_of_ble_eq_true rfl) rfl (Nat.le_of_ble_eq_true rfl) (Nat.le_of_ble_eq_true rfl) (Nat.le_of_ble_eq_true rfl) (fun v9 f9 n9 hh => ?_)
        obtain ⟨rfl, rfl, rfl⟩ := hh
        refine aw_istore C dX9_hasWord_39 (by decide) rfl ?_
        refine aw_nl [some (.ref 181), some (.int v1), some (.int v2), some (.int v3), some (.int v4), some (.int v5), some (.int r1.1)] rfl ?_
        refine aw_ald_n C dX9_hasWord_41 rfl ?_
        refine aw_get C (v := .ref (rAid 8)) gf_X9_23 (hm_M f r1.2) rfl dX9_hasWord_42 ?_
        refine aw_iload C dX9_hasWord_45 rfl ?_
        obtain ⟨hb2, h⟩ := ck_some h
        refine am_iald C (rGa r1.2 8 v5) rfl (inb_vp hb2) rfl dX9_hasWord_47 ?_
        refine aw_iload C dX9_hasWord_48 rfl ?_
        refine aw_bipush C 65 dX9_hasWord_50 kb_65 ?_
        refine aw_bipush C 90 dX9_hasWord_52 kb_90 ?_
        obtain ⟨r3, h3, h⟩ := Option.bind_eq_some_iff.mp h
        refine aw_callS C [.int r1.1, .int (65 : Int32), .int (90 : Int32)] ms_X9_141 (rmX9_isIn h3) rfl dX9_hasWord_54 (Nat.le_of_ble_eq_true rfl) (Nat.le_of_ble_eq_true rfl) rfl (Nat.le_of_ble_eq_true rfl) (Nat.le_of_ble_eq_true rfl) (Nat.le_of_ble_eq_true rfl) (fun v9 f9 n9 hh => ?_)
        obtain ⟨rfl, rfl, rfl⟩ := hh
        refine aw_if_eq C 68 dX9_hasWord_57 (by decide) (fun q => ?_) (fun q => ?_)
        · rw [if_pos q] at h
          refine aw_iload C dX9_hasWord_68 rfl ?_
          refine aw_fl [some (.ref 181), some (.int v1), some (.int v2), some (.int v3), none, some (.int v5), none] ⟨rfl, ⟨rfl, ⟨rfl, ⟨rfl, ⟨rfl, trivial⟩⟩⟩⟩⟩ ?_
          exact rmX9_hasWord_b70 C Hr2 (fun v1 v2 v3 v4 v5 σ h => ih v1 v2 v3 v4 v5 σ h) h
        · rw [if_neg q] at h
          refine aw_iload C dX9_hasWord_60 rfl ?_
          refine aw_bipush C 32 dX9_hasWord_62 kb_32 ?_
          refine aw_iadd C dX9_hasWord_64 ?_
          refine aw_goto C 70 dX9_hasWord_65 (by decide) ?_
          refine aw_fl [some (.ref 181), some (.int v1), some (.int v2), some (.int v3), none, some (.int v5), none] ⟨rfl, ⟨rfl, ⟨rfl, ⟨rfl, ⟨rfl, trivial⟩⟩⟩⟩⟩ ?_
          exact rmX9_hasWord_b70 C Hr2 (fun v1 v2 v3 v4 v5 σ h => ih v1 v2 v3 v4 v5 σ h) h
def mX9_hasWord_l2 : Nat → Int32 → Int32 → Int32 → RS9 → Option (Int32 × RS9)
  | 0, _, _, _, _ => none
  | d + 1, v1, v2, v3, σ => ((mX9_nowMany v1 σ).bind fun r1 => (if r1.1 < (v3 + v2) then rCk (rNb (0 : Int32)) (some ((0 : Int32), r1.2)) else mX9_hasWord_l19 (fun v1 v2 v3 σ => mX9_hasWord_l2 d v1 v2 v3 σ) rFU v1 v2 v3 (1 : Int32) (0 : Int32) r1.2))
set_option maxHeartbeats 1000000 in
theorem rmX9_hasWord_l2 {X : GX} {p : Program} {l : Launch} {e : Env} {s : State} {m : MethodId} {args : Array Value} {below : List Frame} {meth : Method} {c : Code} {f : AH} {n : Nat} {r : Int32 × RS9} (C : CC X p l (RM 2 0 0) s m args meth c RX9 cX9_hasWord 7 (some .boolean)) : ∀ (d : Nat) (v1 : Int32) (v2 : Int32) (v3 : Int32) (σ : RS9) (_ : mX9_hasWord_l2 d v1 v2 v3 σ = some r), AW X p l e (RM 2 0 0) s m args below meth c 7 (ZM X below args s 0 0 (QMi f n r)) (rHm f σ) n 0 0 2 [some (.ref 181), some (.int v1), some (.int v2), some (.int v3), none, none, none] [] := by
  intro d
  induction d with
  | zero =>
    intro v1 v2 v3 σ h
    exact nomatch (show (none : Option (Int32 × RS9)) = some r from h)
  | succ d ih =>
    intro v1 v2 v3 σ h
    have h : ((mX9_nowMany v1 σ).bind fun r1 => (if r1.1 < (v3 + v2) then rCk (rNb (0 : Int32)) (some ((0 : Int32), r1.2)) else mX9_hasWord_l19 (fun v1 v2 v3 σ => mX9_hasWord_l2 d v1 v2 v3 σ) rFU v1 v2 v3 (1 : Int32) (0 : Int32) r1.2)) = some r := h
    refine aw_iload_n C dX9_hasWord_2 rfl ?_
    refine aw_iload_n C dX9_hasWord_3 rfl ?_
    refine aw_iadd C dX9_hasWord_4 ?_
    refine aw_ald_n C dX9_hasWord_5 rfl ?_
    refine aw_iload_n C dX9_hasWord_6 rfl ?_
    obtain ⟨r1, h1, h⟩ := Option.bind_eq_some_iff.mp h
    refine aw_callV C (ci := 9) (b := 181) [.int v1] mv_X9_313 rfl rfl (hm_M f σ) (rmX9_nowMany h1) rfl dX9_hasWord_7 (Nat.le_of_ble_eq_true rfl) (Nat.le_of_ble_eq_true rfl) rfl (Nat.le_of_ble_eq_true rfl) (Nat.le_of_ble_eq_true rfl) (Nat.le_of_ble_eq_true rfl) (fun v9 f9 n9 hh => ?_)
    obtain ⟨rfl, rfl, rfl⟩ := hh
    refine aw_icmp_gt C 99 dX9_hasWord_10 (by decide) (fun q => ?_) (fun q => ?_)
    · rw [if_pos q] at h
      refine aw_iconst C 0 dX9_hasWord_99 ki_0 ?_
      obtain ⟨hb2, h⟩ := ck_some h
      cases h
      exact aw_iret C rfl (nb_nar hb2) dX9_hasWord_100 (Nat.le_refl _) (Nat.le_refl _) ⟨rfl, rfl, rfl⟩
    · rw [if_neg q] at h
      refine aw_iconst C 1 dX9_hasWord_13 ki_1 ?_
      refine aw_istore C dX9_hasWord_14 (by decide) rfl ?_
      refine aw_nl [some (.ref 181), some (.int v1), some (.int v2), some (.int v3), some (.int (1 : Int32)), none, none] rfl ?_
      refine aw_iconst C 0 dX9_hasWord_16 ki_0 ?_
      refine aw_istore C dX9_hasWord_17 (by decide) rfl ?_
      refine aw_nl [some (.ref 181), some (.int v1), some (.int v2), some (.int v3), some (.int (1 : Int32)), some (.int (0 : Int32)), none] rfl ?_
      refine aw_fl [some (.ref 181), some (.int v1), some (.int v2), some (.int v3), some (.int (1 : Int32)), some (.int (0 : Int32)), none] ⟨rfl, ⟨rfl, ⟨rfl, ⟨rfl, ⟨rfl, ⟨rfl, trivial⟩⟩⟩⟩⟩⟩ ?_
      exact rmX9_hasWord_l19 C (fun v1 v2 v3 σ h => ih v1 v2 v3 σ h) rFU v1 v2 v3 (1 : Int32) (0 : Int32) r1.2 h
def mX9_hasWord (v1 : Int32) (v2 : Int32) (σ : RS9) : Option (Int32 × RS9) := mX9_hasWord_l2 rFU v1 v2 (0 : Int32) σ
set_option maxHeartbeats 1000000 in
theorem rmX9_hasWord {X : GX} {l : Launch} {f : AH} {n : Nat} {r : Int32 × RS9} {v1 : Int32} {v2 : Int32} {σ : RS9} (h : mX9_hasWord v1 v2 σ = some r) : AM X l yX9_hasWord cX9_hasWord 7 (some .boolean) 2 0 0 [.ref 181, .int v1, .int v2] (rHm f σ) n (QMi f n r) := by
  have h : mX9_hasWord_l2 rFU v1 v2 (0 : Int32) σ = some r := h
  refine AM.of (by decide +kernel) rfl (Nat.le_of_ble_eq_true rfl) (fun p e s m args below meth c C _ => ?_)
  refine aw_nl [some (.ref 181), some (.int v1), some (.int v2), none, none, none, none] rfl ?_
  refine aw_iconst C 0 dX9_hasWord_0 ki_0 ?_
  refine aw_istore_n C dX9_hasWord_1 (by decide) rfl ?_
  refine aw_nl [some (.ref 181), some (.int v1), some (.int v2), some (.int (0 : Int32)), none, none, none] rfl ?_
  refine aw_fl [some (.ref 181), some (.int v1), some (.int v2), some (.int (0 : Int32)), none, none, none] ⟨rfl, ⟨rfl, ⟨rfl, ⟨rfl, trivial⟩⟩⟩⟩ ?_
  exact rmX9_hasWord_l2 C rFU v1 v2 (0 : Int32) σ h
def mX9_found_b64 (rec36 : Int32 → Int64 → Int32 → RS9 → Option (Int64 × RS9)) (v1 : Int32) (v4 : Int32) (s0 : Int64) (s1 : Int64) (σ : RS9) : Option (Int64 × RS9) := rec36 v1 (s0 ||| s1) (v4 + (1 : Int32)) σ
set_option maxHeartbeats 1000000 in
theorem rmX9_found_b64 {X : GX} {p : Program} {l : Launch} {e : Env} {s : State} {m : MethodId} {args : Array Value} {below : List Frame} {meth : Method} {c : Code} {f : AH} {n : Nat} {r : Int64 × RS9} {rec36 : Int32 → Int64 → Int32 → RS9 → Option (Int64 × RS9)} {v1 : Int32} {v4 : Int32} {s0 : Int64} {s1 : Int64} {σ : RS9} (C : CC X p l (RM 3 0 0) s m args meth c RX9 cX9_found 5 (some .long)) (Hr36 : ∀ (v1 : Int32) (v2 : Int64) (v4 : Int32) (σ : RS9), rec36 v1 v2 v4 σ = some r → AW X p l e (RM 3 0 0) s m args below meth c 5 (ZM X below args s 0 0 (QMl f n r)) (rHm f σ) n 0 0 36 [some (.ref 181), some (.int v1), some (.long v2), none, some (.int v4)] []) (h : mX9_found_b64 rec36 v1 v4 s0 s1 σ = some r) : AW X p l e (RM 3 0 0) s m args below meth c 5 (ZM X below args s 0 0 (QMl f n r)) (rHm f σ) n 0 0 64 [some (.ref 181), some (.int v1), none, none, some (.int v4)] [.long s1, .long s0] := by
  have h : rec36 v1 (s0 ||| s1) (v4 + (1 : Int32)) σ = some r := h
  refine aw_lor C dX9_found_64 ?_
  refine aw_lstore_n C dX9_found_65 (by decide) rfl ?_
  refine aw_nl [some (.ref 181), some (.int v1), some (.long (s0 ||| s1)), none, some (.int v4)] rfl ?_
  refine aw_iinc C (v4 + (1 : Int32)) dX9_found_66 rfl (by rw [ki_1]) (by decide) rfl ?_
  refine aw_nl [some (.ref 181), some (.int v1), some (.long (s0 ||| s1)), none, some (.int (v4 + (1 : Int32)))] rfl ?_
  refine aw_goto C 36 dX9_found_69 (by decide) ?_
  refine aw_fl [some (.ref 181), some (.int v1), some (.long (s0 ||| s1)), none, some (.int (v4 + (1 : Int32)))] ⟨rfl, ⟨rfl, ⟨rfl, ⟨rfl, trivial⟩⟩⟩⟩ ?_
  exact Hr36 v1 (s0 ||| s1) (v4 + (1 : Int32)) σ h
def mX9_found_l36 : Nat → Int32 → Int64 → Int32 → RS9 → Option (Int64 × RS9)
  | 0, _, _, _, _ => none
  | d + 1, v1, v2, v4, σ => (if (σ.1 33) ≤ v4 then some (v2, σ) else ((mX9_hasWord v4 v1 σ).bind fun r1 => (if r1.1 = (0 : Int32) then mX9_found_b64 (fun v1 v2 v4 σ => mX9_found_l36 d v1 v2 v4 σ) v1 v4 v2 (0 : Int64) r1.2 else mX9_found_b64 (fun v1 v2 v4 σ => mX9_found_l36 d v1 v2 v4 σ) v1 v4 v2 ((1 : Int64) <<< (v4.toInt64 &&& 63)) r1.2)))
set_option maxHeartbeats 1000000 in
theorem rmX9_found_l36 {X : GX} {p : Program} {l : Launch} {e : Env} {s : State} {m : MethodId} {args : Array Value} {below : List Frame} {meth : Method} {c : Code} {f : AH} {n : Nat} {r : Int64 × RS9} (C : CC X p l (RM 3 0 0) s m args meth c RX9 cX9_found 5 (some .long)) : ∀ (d : Nat) (v1 : Int32) (v2 : Int64) (v4 : Int32) (σ : RS9) (_ : mX9_found_l36 d v1 v2 v4 σ = some r), AW X p l e (RM 3 0 0) s m args below meth c 5 (ZM X below args s 0 0 (QMl f n r)) (rHm f σ) n 0 0 36 [some (.ref 181), some (.int v1), some (.long v2), none, some (.int v4)] [] := by
  intro d
  induction d with
  | zero =>
    intro v1 v2 v4 σ h
    exact nomatch (show (none : Option (Int64 × RS9)) = some r from h)
  | succ d ih =>
    intro v1 v2 v4 σ h
    have h : (if (σ.1 33) ≤ v4 then some (v2, σ) else ((mX9_hasWord v4 v1 σ).bind fun r1 => (if r1.1 = (0 : Int32) then mX9_found_b64 (fun v1 v2 v4 σ => mX9_found_l36 d v1 v2 v4 σ) v1 v4 v2 (0 : Int64) r1.2 else mX9_found_b64 (fun v1 v2 v4 σ => mX9_found_l36 d v1 v2 v4 σ) v1 v4 v2 ((1 : Int64) <<< (v4.toInt64 &&& 63)) r1.2))) = some r := h
    refine aw_iload C dX9_found_36 rfl ?_
    refine aw_ald_n C dX9_found_38 rfl ?_
    refine aw_get C (v := .int (σ.1 33)) gf_X9_204 (hm_M f σ) rfl dX9_found_39 ?_
    refine aw_icmp_ge C 72 dX9_found_42 (by decide) (fun q => ?_) (fun q => ?_)
    · rw [if_pos q] at h
      refine aw_lload_n C dX9_found_72 rfl ?_
      cases h
      exact aw_lret C rfl dX9_found_73 (Nat.le_refl _) (Nat.le_refl _) ⟨rfl, rfl, rfl⟩
    · rw [if_neg q] at h
      refine aw_lload_n C dX9_found_45 rfl ?_
      refine aw_ald_n C dX9_found_46 rfl ?_
      refine aw_iload C dX9_found_47 rfl ?_
      refine aw_iload_n C dX9_found_49 rfl ?_
      obtain ⟨r1, h1, h⟩ := Option.bind_eq_some_iff.mp h
      refine aw_callV C (ci := 9) (b := 181) [.int v4, .int v1] mv_X9_456 rfl rfl (hm_M f σ) (rmX9_hasWord h1) rfl dX9_found_50 (Nat.le_of_ble_eq_true rfl) (Nat.le_of_ble_eq_true rfl) rfl (Nat.le_of_ble_eq_true rfl) (Nat.le_of_ble_eq_true rfl) (Nat.le_of_ble_eq_true rfl) (fun v9 f9 n9 hh => ?_)
      obtain ⟨rfl, rfl, rfl⟩ := hh
      refine aw_if_eq C 63 dX9_found_53 (by decide) (fun q => ?_) (fun q => ?_)
      · rw [if_pos q] at h
        refine aw_lconst C 0 dX9_found_63 rfl ?_
        refine aw_fl [some (.ref 181), some (.int v1), none, none, some (.int v4)] ⟨rfl, ⟨rfl, ⟨rfl, trivial⟩⟩⟩ ?_
        exact rmX9_found_b64 C (fun v1 v2 v4 σ h => ih v1 v2 v4 σ h) h
      · rw [if_neg q] at h
        refine aw_lconst C 1 dX9_found_56 rfl ?_
        refine aw_iload C dX9_found_57 rfl ?_
        refine aw_lshl C dX9_found_59 ?_
        refine aw_goto C 64 dX9_found_60 (by decide) ?_
        refine aw_fl [some (.ref 181), some (.int v1), none, none, some (.int v4)] ⟨rfl, ⟨rfl, ⟨rfl, trivial⟩⟩⟩ ?_
        exact rmX9_found_b64 C (fun v1 v2 v4 σ h => ih v1 v2 v4 σ h) h
def mX9_found_b19 (v1 : Int32) (s1 : Int32) (σ : RS9) : Option (Int64 × RS9) := (if s1 ≤ (0 : Int32) then mX9_found_l36 rFU v1 (0 : Int64) (0 : Int32) (rSf σ 0 s1) else some ((0 : Int64), (rSf σ 0 s1)))
set_option maxHeartbeats 1000000 in
theorem rmX9_found_b19 {X : GX} {p : Program} {l : Launch} {e : Env} {s : State} {m : MethodId} {args : Array Value} {below : List Frame} {meth : Method} {c : Code} {f : AH} {n : Nat} {r : Int64 × RS9} {v1 : Int32} {s1 : Int32} {σ : RS9} (C : CC X p l (RM 3 0 0) s m args meth c RX9 cX9_found 5 (some .long)) (h : mX9_found_b19 v1 s1 σ = some r) : AW X p l e (RM 3 0 0) s m args below meth c 5 (ZM X below args s 0 0 (QMl f n r)) (rHm f σ) n 0 0 19 [some (.ref 181), some (.int v1), none, none, none] [.int s1, .ref 181] := by
  have h : (if s1 ≤ (0 : Int32) then mX9_found_l36 rFU v1 (0 : Int64) (0 : Int32) (rSf σ 0 s1) else some ((0 : Int64), (rSf σ 0 s1))) = some r := h
  refine am_put C gf_X9_138 nf9_0 rfl rfl dX9_found_19 ?_
  refine aw_ald_n C dX9_found_22 rfl ?_
  refine aw_get C (v := .int s1) gf_X9_138 (hm_M f (rSf σ 0 s1)) rfl dX9_found_23 ?_
  refine aw_if_le C 31 dX9_found_26 (by decide) (fun q => ?_) (fun q => ?_)
  · rw [if_pos q] at h
    refine aw_lconst C 0 dX9_found_31 rfl ?_
    refine aw_lstore_n C dX9_found_32 (by decide) rfl ?_
    refine aw_nl [some (.ref 181), some (.int v1), some (.long (0 : Int64)), none, none] rfl ?_
    refine aw_iconst C 0 dX9_found_33 ki_0 ?_
    refine aw_istore C dX9_found_34 (by decide) rfl ?_
    refine aw_nl [some (.ref 181), some (.int v1), some (.long (0 : Int64)), none, some (.int (0 : Int32))] rfl ?_
    refine aw_fl [some (.ref 181), some (.int v1), some (.long (0 : Int64)), none, some (.int (0 : Int32))] ⟨rfl, ⟨rfl, ⟨rfl, ⟨rfl, trivial⟩⟩⟩⟩ ?_
    exact rmX9_found_l36 C rFU v1 (0 : Int64) (0 : Int32) (rSf σ 0 s1) h
  · rw [if_neg q] at h
    refine aw_lconst C 0 dX9_found_29 rfl ?_
    cases h
    exact aw_lret C rfl dX9_found_30 (Nat.le_refl _) (Nat.le_refl _) ⟨rfl, rfl, rfl⟩
def mX9_found (σ : RS9) : Option (Int64 × RS9) := ((mX9_took σ).bind fun r1 => ((mX9_isWord r1.1 r1.2).bind fun r2 => (if r2.1 = (0 : Int32) then mX9_found_b19 r1.1 (1 : Int32) r2.2 else mX9_found_b19 r1.1 (0 : Int32) r2.2)))
set_option maxHeartbeats 1000000 in
theorem rmX9_found {X : GX} {l : Launch} {f : AH} {n : Nat} {r : Int64 × RS9} {σ : RS9} (h : mX9_found σ = some r) : AM X l yX9_found cX9_found 5 (some .long) 3 0 0 [.ref 181] (rHm f σ) n (QMl f n r) := by
  have h : ((mX9_took σ).bind fun r1 => ((mX9_isWord r1.1 r1.2).bind fun r2 => (if r2.1 = (0 : Int32) then mX9_found_b19 r1.1 (1 : Int32) r2.2 else mX9_found_b19 r1.1 (0 : Int32) r2.2))) = some r := h
  refine AM.of (by decide +kernel) rfl (Nat.le_of_ble_eq_true rfl) (fun p e s m args below meth c C _ => ?_)
  refine aw_nl [some (.ref 181), none, none, none, none] rfl ?_
  refine aw_ald_n C dX9_found_0 rfl ?_
  obtain ⟨r1, h1, h⟩ := Option.bind_eq_some_iff.mp h
  refine aw_callV C (ci := 9) (b := 181) [] mv_X9_426 rfl rfl (hm_M f σ) (rmX9_took h1) rfl dX9_found_1 (Nat.le_of_ble_eq_true rfl) (Nat.le_of_ble_eq_true rfl) rfl (Nat.le_of_ble_eq_true rfl) (Nat.le_of_ble_eq_true rfl) (Nat.le_of_ble_eq_true rfl) (fun v9 f9 n9 hh => ?_)
  obtain ⟨rfl, rfl, rfl⟩ := hh
  refine aw_istore_n C dX9_found_4 (by decide) rfl ?_
  refine aw_nl [some (.ref 181), some (.int r1.1), none, none, none] rfl ?_
  refine aw_ald_n C dX9_found_5 rfl ?_
  refine aw_ald_n C dX9_found_6 rfl ?_
  refine aw_iload_n C dX9_found_7 rfl ?_
  obtain ⟨r2, h2, h⟩ := Option.bind_eq_some_iff.mp h
  refine aw_callV C (ci := 9) (b := 181) [.int r1.1] mv_X9_432 rfl rfl (hm_M f r1.2) (rmX9_isWord h2) rfl dX9_found_8 (Nat.le_of_ble_eq_true rfl) (Nat.le_of_ble_eq_true rfl) rfl (Nat.le_of_ble_eq_true rfl) (Nat.le_of_ble_eq_true rfl) (Nat.le_of_ble_eq_true rfl) (fun v9 f9 n9 hh => ?_)
  obtain ⟨rfl, rfl, rfl⟩ := hh
  refine aw_if_eq C 18 dX9_found_11 (by decide) (fun q => ?_) (fun q => ?_)
  · rw [if_pos q] at h
    refine aw_iconst C 1 dX9_found_18 ki_1 ?_
    refine aw_fl [some (.ref 181), some (.int r1.1), none, none, none] ⟨rfl, ⟨rfl, trivial⟩⟩ ?_
    exact rmX9_found_b19 C h
  · rw [if_neg q] at h
    refine aw_iconst C 0 dX9_found_14 ki_0 ?_
    refine aw_goto C 19 dX9_found_15 (by decide) ?_
    refine aw_fl [some (.ref 181), some (.int r1.1), none, none, none] ⟨rfl, ⟨rfl, trivial⟩⟩ ?_
    exact rmX9_found_b19 C h
def mX9_memory_b77 (s0 : Int32) (σ : RS9) : Option (Int32 × RS9) := some (s0, σ)
set_option maxHeartbeats 1000000 in
theorem rmX9_memory_b77 {X : GX} {p : Program} {l : Launch} {e : Env} {s : State} {m : MethodId} {args : Array Value} {below : List Frame} {meth : Method} {c : Code} {f : AH} {n : Nat} {r : Int32 × RS9} {s0 : Int32} {σ : RS9} (C : CC X p l (RM 1 0 0) s m args meth c RX9 cX9_memory 5 (some .int)) (h : mX9_memory_b77 s0 σ = some r) : AW X p l e (RM 1 0 0) s m args below meth c 5 (ZM X below args s 0 0 (QMi f n r)) (rHm f σ) n 0 0 77 [none, none, none, none, none] [.int s0] := by
  have h : some (s0, σ) = some r := h
  cases h
  exact aw_iret C rfl rfl dX9_memory_77 (Nat.le_refl _) (Nat.le_refl _) ⟨rfl, rfl, rfl⟩
def mX9_memory_b42 (v3 : Int32) (s0 : Int32) (s1 : Int32) (σ : RS9) : Option (Int32 × RS9) := rCk (rIn (s0 + s1) (rLen 1)) (((mX9_isIn v3 (0 : Int32) ((rGa σ 1 (s0 + s1)) - (1 : Int32)) σ).bind fun r2 => (if r2.1 = (0 : Int32) then mX9_memory_b77 (-1 : Int32) r2.2 else rCk (rIn (((s0 + s1) + (1 : Int32)) + v3) (rLen 1)) (mX9_memory_b77 (rGa r2.2 1 (((s0 + s1) + (1 : Int32)) + v3)) r2.2))))
set_option maxHeartbeats 1000000 in
theorem rmX9_memory_b42 {X : GX} {p : Program} {l : Launch} {e : Env} {s : State} {m : MethodId} {args : Array Value} {below : List Frame} {meth : Method} {c : Code} {f : AH} {n : Nat} {r : Int32 × RS9} {v3 : Int32} {s0 : Int32} {s1 : Int32} {σ : RS9} (C : CC X p l (RM 1 0 0) s m args meth c RX9 cX9_memory 5 (some .int)) (h : mX9_memory_b42 v3 s0 s1 σ = some r) : AW X p l e (RM 1 0 0) s m args below meth c 5 (ZM X below args s 0 0 (QMi f n r)) (rHm f σ) n 0 0 42 [some (.ref 181), none, none, some (.int v3), none] [.int s1, .int s0] := by
  have h : rCk (rIn (s0 + s1) (rLen 1)) (((mX9_isIn v3 (0 : Int32) ((rGa σ 1 (s0 + s1)) - (1 : Int32)) σ).bind fun r2 => (if r2.1 = (0 : Int32) then mX9_memory_b77 (-1 : Int32) r2.2 else rCk (rIn (((s0 + s1) + (1 : Int32)) + v3) (rLen 1)) (mX9_memory_b77 (rGa r2.2 1 (((s0 + s1) + (1 : Int32)) + v3)) r2.2)))) = some r := h
  refine aw_iadd C dX9_memory_42 ?_
  refine aw_istore C dX9_memory_43 (by decide) rfl ?_
  refine aw_nl [some (.ref 181), none, none, some (.int v3), some (.int (s0 + s1))] rfl ?_
  refine aw_iload_n C dX9_memory_45 rfl ?_
  refine aw_iconst C 0 dX9_memory_46 ki_0 ?_
  refine aw_ald_n C dX9_memory_47 rfl ?_
  refine aw_get C (v := .ref (rAid 1)) gf_X9_7 (hm_M f σ) rfl dX9_memory_48 ?_
  refine aw_iload C dX9_memory_51 rfl ?_
  obtain ⟨hb1, h⟩ := ck_some h
  refine am_iald C (rGa σ 1 (s0 + s1)) rfl (inb_vp hb1) rfl dX9_memory_53 ?_
  refine aw_iconst C 1 dX9_memory_54 ki_1 ?_
  refine aw_isub C dX9_memory_55 ?_
  obtain ⟨r2, h2, h⟩ := Option.bind_eq_some_iff.mp h
  refine aw_callS C [.int v3, .int (0 : Int32), .int ((rGa σ 1 (s0 + s1)) - (1 : Int32))] ms_X9_141 (rmX9_isIn h2) rfl dX9_memory_56 (Nat.le_of_ble_eq_true rfl) (Nat.le_of_ble_eq_true rfl) rfl (Nat.le_of_ble_eq_true rfl) (Nat.le_of_ble_eq_true rfl) (Nat.le_of_ble_eq_true rfl) (fun v9 f9 n9 hh => ?_)
  obtain ⟨rfl, rfl, rfl⟩ := hh
  refine aw_if_eq C 76 dX9_memory_59 (by decide) (fun q => ?_) (fun q => ?_)
  · rw [if_pos q] at h
    refine aw_iconst C (-1) dX9_memory_76 ki_m1 ?_
    refine aw_fl [none, none, none, none, none] trivial ?_
    exact rmX9_memory_b77 C h
  · rw [if_neg q] at h
    refine aw_ald_n C dX9_memory_62 rfl ?_
    refine aw_get C (v := .ref (rAid 1)) gf_X9_7 (hm_M f r2.2) rfl dX9_memory_63 ?_
    refine aw_iload C dX9_memory_66 rfl ?_
    refine aw_iconst C 1 dX9_memory_68 ki_1 ?_
    refine aw_iadd C dX9_memory_69 ?_
    refine aw_iload_n C dX9_memory_70 rfl ?_
    refine aw_iadd C dX9_memory_71 ?_
    obtain ⟨hb3, h⟩ := ck_some h
    refine am_iald C (rGa r2.2 1 (((s0 + s1) + (1 : Int32)) + v3)) rfl (inb_vp hb3) rfl dX9_memory_72 ?_
    refine aw_goto C 77 dX9_memory_73 (by decide) ?_
    refine aw_fl [none, none, none, none, none] trivial ?_
    exact rmX9_memory_b77 C h
def mX9_memory (v1 : Int32) (v2 : Int32) (v3 : Int32) (σ : RS9) : Option (Int32 × RS9) := rCk (rIn (42 : Int32) (rLen 1)) (((mX9_isIn v1 (0 : Int32) ((rGa σ 1 (42 : Int32)) - (1 : Int32)) (rSf σ 0 (0 : Int32))).bind fun r2 => (if r2.1 = (0 : Int32) then some ((-1 : Int32), r2.2) else (if v2 = (0 : Int32) then mX9_memory_b42 v3 ((2883 : Int32) + ((122 : Int32) * v1)) (0 : Int32) r2.2 else mX9_memory_b42 v3 ((2883 : Int32) + ((122 : Int32) * v1)) (61 : Int32) r2.2))))
set_option maxHeartbeats 1000000 in
theorem rmX9_memory {X : GX} {l : Launch} {f : AH} {n : Nat} {r : Int32 × RS9} {v1 : Int32} {v2 : Int32} {v3 : Int32} {σ : RS9} (h : mX9_memory v1 v2 v3 σ = some r) : AM X l yX9_memory cX9_memory 5 (some .int) 1 0 0 [.ref 181, .int v1, .int v2, .int v3] (rHm f σ) n (QMi f n r) := by
  have h : rCk (rIn (42 : Int32) (rLen 1)) (((mX9_isIn v1 (0 : Int32) ((rGa σ 1 (42 : Int32)) - (1 : Int32)) (rSf σ 0 (0 : Int32))).bind fun r2 => (if r2.1 = (0 : Int32) then some ((-1 : Int32), r2.2) else (if v2 = (0 : Int32) then mX9_memory_b42 v3 ((2883 : Int32) + ((122 : Int32) * v1)) (0 : Int32) r2.2 else mX9_memory_b42 v3 ((2883 : Int32) + ((122 : Int32) * v1)) (61 : Int32) r2.2)))) = some r := h
  refine AM.of (by decide +kernel) rfl (Nat.le_of_ble_eq_true rfl) (fun p e s m args below meth c C _ => ?_)
  refine aw_nl [some (.ref 181), some (.int v1), some (.int v2), some (.int v3), none] rfl ?_
  refine aw_ald_n C dX9_memory_0 rfl ?_
  refine aw_iconst C 0 dX9_memory_1 ki_0 ?_
  refine am_put C gf_X9_138 nf9_0 rfl rfl dX9_memory_2 ?_
  refine aw_iload_n C dX9_memory_5 rfl ?_
  refine aw_iconst C 0 dX9_memory_6 ki_0 ?_
  refine aw_ald_n C dX9_memory_7 rfl ?_
  refine aw_get C (v := .ref (rAid 1)) gf_X9_7 (hm_M f (rSf σ 0 (0 : Int32))) rfl dX9_memory_8 ?_
  refine aw_bipush C 42 dX9_memory_11 kb_42 ?_
  obtain ⟨hb1, h⟩ := ck_some h
  refine am_iald C (rGa σ 1 (42 : Int32)) rfl (inb_vp hb1) rfl dX9_memory_13 ?_
  refine aw_iconst C 1 dX9_memory_14 ki_1 ?_
  refine aw_isub C dX9_memory_15 ?_
  obtain ⟨r2, h2, h⟩ := Option.bind_eq_some_iff.mp h
  refine aw_callS C [.int v1, .int (0 : Int32), .int ((rGa σ 1 (42 : Int32)) - (1 : Int32))] ms_X9_141 (rmX9_isIn h2) rfl dX9_memory_16 (Nat.le_of_ble_eq_true rfl) (Nat.le_of_ble_eq_true rfl) rfl (Nat.le_of_ble_eq_true rfl) (Nat.le_of_ble_eq_true rfl) (Nat.le_of_ble_eq_true rfl) (fun v9 f9 n9 hh => ?_)
  obtain ⟨rfl, rfl, rfl⟩ := hh
  refine aw_if_ne C 24 dX9_memory_19 (by decide) (fun q => ?_) (fun q => ?_)
  · rw [if_neg q] at h
    refine aw_sipush C 2883 dX9_memory_24 ks_2883 ?_
    refine aw_bipush C 122 dX9_memory_27 kb_122 ?_
    refine aw_iload_n C dX9_memory_29 rfl ?_
    refine aw_imul C dX9_memory_30 ?_
    refine aw_iadd C dX9_memory_31 ?_
    refine aw_iload_n C dX9_memory_32 rfl ?_
    refine aw_if_eq C 41 dX9_memory_33 (by decide) (fun q => ?_) (fun q => ?_)
    · rw [if_pos q] at h
      refine aw_iconst C 0 dX9_memory_41 ki_0 ?_
      refine aw_fl [some (.ref 181), none, none, some (.int v3), none] ⟨rfl, ⟨rfl, trivial⟩⟩ ?_
      exact rmX9_memory_b42 C h
    · rw [if_neg q] at h
      refine aw_bipush C 61 dX9_memory_36 kb_61 ?_
      refine aw_goto C 42 dX9_memory_38 (by decide) ?_
      refine aw_fl [some (.ref 181), none, none, some (.int v3), none] ⟨rfl, ⟨rfl, trivial⟩⟩ ?_
      exact rmX9_memory_b42 C h
  · rw [if_pos q] at h
    refine aw_iconst C (-1) dX9_memory_22 ki_m1 ?_
    cases h
    exact aw_iret C rfl rfl dX9_memory_23 (Nat.le_refl _) (Nat.le_refl _) ⟨rfl, rfl, rfl⟩
def mX9_isNow_b91 (v3 : Int32) (σ : RS9) : Option (Int32 × RS9) := rCk (rNb v3) (some (v3, σ))
set_option maxHeartbeats 1000000 in
theorem rmX9_isNow_b91 {X : GX} {p : Program} {l : Launch} {e : Env} {s : State} {m : MethodId} {args : Array Value} {below : List Frame} {meth : Method} {c : Code} {f : AH} {n : Nat} {r : Int32 × RS9} {v3 : Int32} {σ : RS9} (C : CC X p l (RM 0 0 0) s m args meth c RX9 cX9_isNow 5 (some .boolean)) (h : mX9_isNow_b91 v3 σ = some r) : AW X p l e (RM 0 0 0) s m args below meth c 5 (ZM X below args s 0 0 (QMi f n r)) (rHm f σ) n 0 0 91 [none, none, none, some (.int v3), none] [] := by
  have h : rCk (rNb v3) (some (v3, σ)) = some r := h
  refine aw_iload_n C dX9_isNow_91 rfl ?_
  obtain ⟨hb1, h⟩ := ck_some h
  cases h
  exact aw_iret C rfl (nb_nar hb1) dX9_isNow_92 (Nat.le_refl _) (Nat.le_refl _) ⟨rfl, rfl, rfl⟩
def mX9_isNow_b84 (rec33 : Int32 → Int32 → Int32 → Int32 → RS9 → Option (Int32 × RS9)) (v1 : Int32) (v2 : Int32) (v4 : Int32) (s0 : Int32) (σ : RS9) : Option (Int32 × RS9) := rec33 v1 v2 s0 (v4 + (1 : Int32)) σ
set_option maxHeartbeats 1000000 in
theorem rmX9_isNow_b84 {X : GX} {p : Program} {l : Launch} {e : Env} {s : State} {m : MethodId} {args : Array Value} {below : List Frame} {meth : Method} {c : Code} {f : AH} {n : Nat} {r : Int32 × RS9} {rec33 : Int32 → Int32 → Int32 → Int32 → RS9 → Option (Int32 × RS9)} {v1 : Int32} {v2 : Int32} {v4 : Int32} {s0 : Int32} {σ : RS9} (C : CC X p l (RM 0 0 0) s m args meth c RX9 cX9_isNow 5 (some .boolean)) (Hr33 : ∀ (v1 : Int32) (v2 : Int32) (v3 : Int32) (v4 : Int32) (σ : RS9), rec33 v1 v2 v3 v4 σ = some r → AW X p l e (RM 0 0 0) s m args below meth c 5 (ZM X below args s 0 0 (QMi f n r)) (rHm f σ) n 0 0 33 [some (.ref 181), some (.int v1), some (.int v2), some (.int v3), some (.int v4)] []) (h : mX9_isNow_b84 rec33 v1 v2 v4 s0 σ = some r) : AW X p l e (RM 0 0 0) s m args below meth c 5 (ZM X below args s 0 0 (QMi f n r)) (rHm f σ) n 0 0 84 [some (.ref 181), some (.int v1), some (.int v2), none, some (.int v4)] [.int s0] := by
  have h : rec33 v1 v2 s0 (v4 + (1 : Int32)) σ = some r := h
  refine aw_istore_n C dX9_isNow_84 (by decide) rfl ?_
  refine aw_nl [some (.ref 181), some (.int v1), some (.int v2), some (.int s0), some (.int v4)] rfl ?_
  refine aw_iinc C (v4 + (1 : Int32)) dX9_isNow_85 rfl (by rw [ki_1]) (by decide) rfl ?_
  refine aw_nl [some (.ref 181), some (.int v1), some (.int v2), some (.int s0), some (.int (v4 + (1 : Int32)))] rfl ?_
  refine aw_goto C 33 dX9_isNow_88 (by decide) ?_
  refine aw_fl [some (.ref 181), some (.int v1), some (.int v2), some (.int s0), some (.int (v4 + (1 : Int32)))] ⟨rfl, ⟨rfl, ⟨rfl, ⟨rfl, ⟨rfl, trivial⟩⟩⟩⟩⟩ ?_
  exact Hr33 v1 v2 s0 (v4 + (1 : Int32)) σ h
def mX9_isNow_l33 : Nat → Int32 → Int32 → Int32 → Int32 → RS9 → Option (Int32 × RS9)
  | 0, _, _, _, _, _ => none
  | d + 1, v1, v2, v3, v4, σ => rCk (rIn v1 (rLen 42)) ((if (rGa σ 42 v1) ≤ v4 then mX9_isNow_b91 v3 σ else (if v3 = (0 : Int32) then mX9_isNow_b91 v3 σ else rCk (rIn v1 (rLen 41)) (rCk (rIn ((rGa σ 41 v1) + v4) (rLen 43)) (rCk (rIn v2 (rLen 51)) (rCk (rIn ((rGa σ 51 v2) + v4) (rLen 50)) ((if (rGa σ 43 ((rGa σ 41 v1) + v4)) = (rGa σ 50 ((rGa σ 51 v2) + v4)) then mX9_isNow_b84 (fun v1 v2 v3 v4 σ => mX9_isNow_l33 d v1 v2 v3 v4 σ) v1 v2 v4 (1 : Int32) σ else mX9_isNow_b84 (fun v1 v2 v3 v4 σ => mX9_isNow_l33 d v1 v2 v3 v4 σ) v1 v2 v4 (0 : Int32) σ))))))))
set_option maxHeartbeats 1000000 in
theorem rmX9_isNow_l33 {X : GX} {p : Program} {l : Launch} {e : Env} {s : State} {m : MethodId} {args : Array Value} {below : List Frame} {meth : Method} {c : Code} {f : AH} {n : Nat} {r : Int32 × RS9} (C : CC X p l (RM 0 0 0) s m args meth c RX9 cX9_isNow 5 (some .boolean)) : ∀ (d : Nat) (v1 : Int32) (v2 : Int32) (v3 : Int32) (v4 : Int32) (σ : RS9) (_ : mX9_isNow_l33 d v1 v2 v3 v4 σ = some r), AW X p l e (RM 0 0 0) s m args below meth c 5 (ZM X below args s 0 0 (QMi f n r)) (rHm f σ) n 0 0 33 [some (.ref 181), some (.int v1), some (.int v2), some (.int v3), some (.int v4)] [] := by
  intro d
  induction d with
  | zero =>
    intro v1 v2 v3 v4 σ h
    exact nomatch (show (none : Option (Int32 × RS9)) = some r from h)
  | succ d ih =>
    intro v1 v2 v3 v4 σ h
    have h : rCk (rIn v1 (rLen 42)) ((if (rGa σ 42 v1) ≤ v4 then mX9_isNow_b91 v3 σ else (if v3 = (0 : Int32) then mX9_isNow_b91 v3 σ else rCk (rIn v1 (rLen 41)) (rCk (rIn ((rGa σ 41 v1) + v4) (rLen 43)) (rCk (rIn v2 (rLen 51)) (rCk (rIn ((rGa σ 51 v2) + v4) (rLen 50)) ((if (rGa σ 43 ((rGa σ 41 v1) + v4)) = (rGa σ 50 ((rGa σ 51 v2) + v4)) then mX9_isNow_b84 (fun v1 v2 v3 v4 σ => mX9_isNow_l33 d v1 v2 v3 v4 σ) v1 v2 v4 (1 : Int32) σ else mX9_isNow_b84 (fun v1 v2 v3 v4 σ => mX9_isNow_l33 d v1 v2 v3 v4 σ) v1 v2 v4 (0 : Int32) σ)))))))) = some r := h
    refine aw_iload C dX9_isNow_33 rfl ?_
    refine aw_ald_n C dX9_isNow_35 rfl ?_
    refine aw_get C (v := .ref (rAid 42)) gf_X9_105 (hm_M f σ) rfl dX9_isNow_36 ?_
    refine aw_iload_n C dX9_isNow_39 rfl ?_
    obtain ⟨hb1, h⟩ := ck_some h
    refine am_iald C (rGa σ 42 v1) rfl (inb_vp hb1) rfl dX9_isNow_40 ?_
    refine aw_icmp_ge C 91 dX9_isNow_41 (by decide) (fun q => ?_) (fun q => ?_)
    · rw [if_pos q] at h
      refine aw_fl [none, none, none, some (.int v3), none] ⟨rfl, trivial⟩ ?_
      exact rmX9_isNow_b91 C h
    · rw [if_neg q] at h
      refine aw_iload_n C dX9_isNow_44 rfl ?_
      refine aw_if_eq C 91 dX9_isNow_45 (by decide) (fun q => ?_) (fun q => ?_)
      · rw [if_pos q] at h
        refine aw_fl [none, none, none, some (.int v3), none] ⟨rfl, trivial⟩ ?_
        exact rmX9_isNow_b91 C h
      · rw [if_neg q] at h
        refine aw_ald_n C dX9_isNow_48 rfl ?_
        refine aw_get C (v := .ref (rAid 43)) gf_X9_108 (hm_M f σ) rfl dX9_isNow_49 ?_
        refine aw_ald_n C dX9_isNow_52 rfl ?_
        refine aw_get C (v := .ref (rAid 41)) gf_X9_102 (hm_M f σ) rfl dX9_isNow_53 ?_
        refine aw_iload_n C dX9_isNow_56 rfl ?_
        obtain ⟨hb2, h⟩ := ck_some h
        refine am_iald C (rGa σ 41 v1) rfl (inb_vp hb2) rfl dX9_isNow_57 ?_
        refine aw_iload C dX9_isNow_58 rfl ?_
        refine aw_iadd C dX9_isNow_60 ?_
        obtain ⟨hb3, h⟩ := ck_some h
        refine am_iald C (rGa σ 43 ((rGa σ 41 v1) + v4)) rfl (inb_vp hb3) rfl dX9_isNow_61 ?_
        refine aw_ald_n C dX9_isNow_62 rfl ?_
        refine aw_get C (v := .ref (rAid 50)) gf_X9_123 (hm_M f σ) rfl dX9_isNow_63 ?_
        refine aw_ald_n C dX9_isNow_66 rfl ?_
        refine aw_get C (v := .ref (rAid 51)) gf_X9_126 (hm_M f σ) rfl dX9_isNow_67 ?_
        refine aw_iload_n C dX9_isNow_70 rfl ?_
        obtain ⟨hb4, h⟩ := ck_some h
        refine am_iald C (rGa σ 51 v2) rfl (inb_vp hb4) rfl dX9_isNow_71 ?_
        refine aw_iload C dX9_isNow_72 rfl ?_
        refine aw_iadd C dX9_isNow_74 ?_
        obtain ⟨hb5, h⟩ := ck_some h
        refine am_iald C (rGa σ 50 ((rGa σ 51 v2) + v4)) rfl (inb_vp hb5) rfl dX9_isNow_75 ?_
        refine aw_icmp_ne C 83 dX9_isNow_76 (by decide) (fun q => ?_) (fun q => ?_)
        · rw [if_neg q] at h
          refine aw_iconst C 0 dX9_isNow_83 ki_0 ?_
          refine aw_fl [some (.ref 181), some (.int v1), some (.int v2), none, some (.int v4)] ⟨rfl, ⟨rfl, ⟨rfl, ⟨rfl, trivial⟩⟩⟩⟩ ?_
          exact rmX9_isNow_b84 C (fun v1 v2 v3 v4 σ h => ih v1 v2 v3 v4 σ h) h
        · rw [if_pos q] at h
          refine aw_iconst C 1 dX9_isNow_79 ki_1 ?_
          refine aw_goto C 84 dX9_isNow_80 (by decide) ?_
          refine aw_fl [some (.ref 181), some (.int v1), some (.int v2), none, some (.int v4)] ⟨rfl, ⟨rfl, ⟨rfl, ⟨rfl, trivial⟩⟩⟩⟩ ?_
          exact rmX9_isNow_b84 C (fun v1 v2 v3 v4 σ h => ih v1 v2 v3 v4 σ h) h
def mX9_isNow_b29 (v1 : Int32) (v2 : Int32) (s0 : Int32) (σ : RS9) : Option (Int32 × RS9) := mX9_isNow_l33 rFU v1 v2 s0 (0 : Int32) σ
set_option maxHeartbeats 1000000 in
theorem rmX9_isNow_b29 {X : GX} {p : Program} {l : Launch} {e : Env} {s : State} {m : MethodId} {args : Array Value} {below : List Frame} {meth : Method} {c : Code} {f : AH} {n : Nat} {r : Int32 × RS9} {v1 : Int32} {v2 : Int32} {s0 : Int32} {σ : RS9} (C : CC X p l (RM 0 0 0) s m args meth c RX9 cX9_isNow 5 (some .boolean)) (h : mX9_isNow_b29 v1 v2 s0 σ = some r) : AW X p l e (RM 0 0 0) s m args below meth c 5 (ZM X below args s 0 0 (QMi f n r)) (rHm f σ) n 0 0 29 [some (.ref 181), some (.int v1), some (.int v2), none, none] [.int s0] := by
  have h : mX9_isNow_l33 rFU v1 v2 s0 (0 : Int32) σ = some r := h
  refine aw_istore_n C dX9_isNow_29 (by decide) rfl ?_
  refine aw_nl [some (.ref 181), some (.int v1), some (.int v2), some (.int s0), none] rfl ?_
  refine aw_iconst C 0 dX9_isNow_30 ki_0 ?_
  refine aw_istore C dX9_isNow_31 (by decide) rfl ?_
  refine aw_nl [some (.ref 181), some (.int v1), some (.int v2), some (.int s0), some (.int (0 : Int32))] rfl ?_
  refine aw_fl [some (.ref 181), some (.int v1), some (.int v2), some (.int s0), some (.int (0 : Int32))] ⟨rfl, ⟨rfl, ⟨rfl, ⟨rfl, ⟨rfl, trivial⟩⟩⟩⟩⟩ ?_
  exact rmX9_isNow_l33 C rFU v1 v2 s0 (0 : Int32) σ h
def mX9_isNow (v1 : Int32) (v2 : Int32) (σ : RS9) : Option (Int32 × RS9) := rCk (rIn v1 (rLen 42)) (rCk (rIn (v2 + (1 : Int32)) (rLen 51)) (rCk (rIn v2 (rLen 51)) ((if (rGa σ 42 v1) = ((rGa σ 51 (v2 + (1 : Int32))) - (rGa σ 51 v2)) then mX9_isNow_b29 v1 v2 (1 : Int32) σ else mX9_isNow_b29 v1 v2 (0 : Int32) σ))))
set_option maxHeartbeats 1000000 in
theorem rmX9_isNow {X : GX} {l : Launch} {f : AH} {n : Nat} {r : Int32 × RS9} {v1 : Int32} {v2 : Int32} {σ : RS9} (h : mX9_isNow v1 v2 σ = some r) : AM X l yX9_isNow cX9_isNow 5 (some .boolean) 0 0 0 [.ref 181, .int v1, .int v2] (rHm f σ) n (QMi f n r) := by
  have h : rCk (rIn v1 (rLen 42)) (rCk (rIn (v2 + (1 : Int32)) (rLen 51)) (rCk (rIn v2 (rLen 51)) ((if (rGa σ 42 v1) = ((rGa σ 51 (v2 + (1 : Int32))) - (rGa σ 51 v2)) then mX9_isNow_b29 v1 v2 (1 : Int32) σ else mX9_isNow_b29 v1 v2 (0 : Int32) σ)))) = some r := h
  refine AM.of (by decide +kernel) rfl (Nat.le_of_ble_eq_true rfl) (fun p e s m args below meth c C _ => ?_)
  refine aw_nl [some (.ref 181), some (.int v1), some (.int v2), none, none] rfl ?_
  refine aw_ald_n C dX9_isNow_0 rfl ?_
  refine aw_get C (v := .ref (rAid 42)) gf_X9_105 (hm_M f σ) rfl dX9_isNow_1 ?_
  refine aw_iload_n C dX9_isNow_4 rfl ?_
  obtain ⟨hb1, h⟩ := ck_some h
  refine am_iald C (rGa σ 42 v1) rfl (inb_vp hb1) rfl dX9_isNow_5 ?_
  refine aw_ald_n C dX9_isNow_6 rfl ?_
  refine aw_get C (v := .ref (rAid 51)) gf_X9_126 (hm_M f σ) rfl dX9_isNow_7 ?_
  refine aw_iload_n C dX9_isNow_10 rfl ?_
  refine aw_iconst C 1 dX9_isNow_11 ki_1 ?_
  refine aw_iadd C dX9_isNow_12 ?_
  obtain ⟨hb2, h⟩ := ck_some h
  refine am_iald C (rGa σ 51 (v2 + (1 : Int32))) rfl (inb_vp hb2) rfl dX9_isNow_13 ?_
  refine aw_ald_n C dX9_isNow_14 rfl ?_
  refine aw_get C (v := .ref (rAid 51)) gf_X9_126 (hm_M f σ) rfl dX9_isNow_15 ?_
  refine aw_iload_n C dX9_isNow_18 rfl ?_
  obtain ⟨hb3, h⟩ := ck_some h
  refine am_iald C (rGa σ 51 v2) rfl (inb_vp hb3) rfl dX9_isNow_19 ?_
  refine aw_isub C dX9_isNow_20 ?_
  refine aw_icmp_ne C 28 dX9_isNow_21 (by decide) (fun q => ?_) (fun q => ?_)
  · rw [if_neg q] at h
    refine aw_iconst C 0 dX9_isNow_28 ki_0 ?_
    refine aw_fl [some (.ref 181), some (.int v1), some (.int v2), none, none] ⟨rfl, ⟨rfl, ⟨rfl, trivial⟩⟩⟩ ?_
    exact rmX9_isNow_b29 C h
  · rw [if_pos q] at h
    refine aw_iconst C 1 dX9_isNow_24 ki_1 ?_
    refine aw_goto C 29 dX9_isNow_25 (by decide) ?_
    refine aw_fl [some (.ref 181), some (.int v1), some (.int v2), none, none] ⟨rfl, ⟨rfl, ⟨rfl, trivial⟩⟩⟩ ?_
    exact rmX9_isNow_b29 C h
def mX9_image_l7 : Nat → Int32 → RS9 → Option (Int32 × RS9)
  | 0, _, _ => none
  | d + 1, v1, σ => (if (4347 : Int32) ≤ v1 then rCk (rNb (1 : Int32)) (some ((0 : Int32), (rSf σ 6 (1 : Int32)))) else rCk (rIn v1 (rLen 1)) (rCk (rIn v1 (rLen 3)) (mX9_image_l7 d (v1 + (1 : Int32)) (rSa σ 3 v1 (rGa σ 1 v1)))))
set_option maxHeartbeats 1000000 in
theorem rmX9_image_l7 {X : GX} {p : Program} {l : Launch} {e : Env} {s : State} {m : MethodId} {args : Array Value} {below : List Frame} {meth : Method} {c : Code} {f : AH} {n : Nat} {r : Int32 × RS9} (C : CC X p l (RM 0 0 0) s m args meth c RX9 cX9_image 2 none) : ∀ (d : Nat) (v1 : Int32) (σ : RS9) (_ : mX9_image_l7 d v1 σ = some r), AW X p l e (RM 0 0 0) s m args below meth c 2 (ZM X below args s 0 0 (QMv f n r)) (rHm f σ) n 0 0 7 [some (.ref 181), some (.int v1)] [] := by
  intro d
  induction d with
  | zero =>
    intro v1 σ h
    exact nomatch (show (none : Option (Int32 × RS9)) = some r from h)
  | succ d ih =>
    intro v1 σ h
    have h : (if (4347 : Int32) ≤ v1 then rCk (rNb (1 : Int32)) (some ((0 : Int32), (rSf σ 6 (1 : Int32)))) else rCk (rIn v1 (rLen 1)) (rCk (rIn v1 (rLen 3)) (mX9_image_l7 d (v1 + (1 : Int32)) (rSa σ 3 v1 (rGa σ 1 v1))))) = some r := h
    refine aw_iload_n C dX9_image_7 rfl ?_
    refine aw_sipush C 4347 dX9_image_8 ks_4347 ?_
    refine aw_icmp_ge C 32 dX9_image_11 (by decide) (fun q => ?_) (fun q => ?_)
    · rw [if_pos q] at h
      refine aw_ald_n C dX9_image_32 rfl ?_
      refine aw_iconst C 1 dX9_image_33 ki_1 ?_
      obtain ⟨hb1, h⟩ := ck_some h
      refine am_putZ C gf_X9_468 nf9_6 rfl rfl hb1 dX9_image_34 ?_
      cases h
      exact aw_vret C rfl dX9_image_37 (Nat.le_refl _) (Nat.le_refl _) ⟨rfl, rfl, rfl⟩
    · rw [if_neg q] at h
      refine aw_ald_n C dX9_image_14 rfl ?_
      refine aw_get C (v := .ref (rAid 3)) gf_X9_16 (hm_M f σ) rfl dX9_image_15 ?_
      refine aw_iload_n C dX9_image_18 rfl ?_
      refine aw_ald_n C dX9_image_19 rfl ?_
      refine aw_get C (v := .ref (rAid 1)) gf_X9_7 (hm_M f σ) rfl dX9_image_20 ?_
      refine aw_iload_n C dX9_image_23 rfl ?_
      obtain ⟨hb2, h⟩ := ck_some h
      refine am_iald C (rGa σ 1 v1) rfl (inb_vp hb2) rfl dX9_image_24 ?_
      obtain ⟨hb3, h⟩ := ck_some h
      refine am_iast C rfl (inb_vp hb3) dX9_image_25 ?_
      refine aw_iinc C (v1 + (1 : Int32)) dX9_image_26 rfl (by rw [ki_1]) (by decide) rfl ?_
      refine aw_nl [some (.ref 181), some (.int (v1 + (1 : Int32)))] rfl ?_
      refine aw_goto C 7 dX9_image_29 (by decide) ?_
      refine aw_fl [some (.ref 181), some (.int (v1 + (1 : Int32)))] ⟨rfl, ⟨rfl, trivial⟩⟩ ?_
      exact ih (v1 + (1 : Int32)) (rSa σ 3 v1 (rGa σ 1 v1)) h
def mX9_image (σ : RS9) : Option (Int32 × RS9) := mX9_image_l7 rFU (0 : Int32) (rSf σ 0 (0 : Int32))
set_option maxHeartbeats 1000000 in
theorem rmX9_image {X : GX} {l : Launch} {f : AH} {n : Nat} {r : Int32 × RS9} {σ : RS9} (h : mX9_image σ = some r) : AM X l yX9_image cX9_image 2 none 0 0 0 [.ref 181] (rHm f σ) n (QMv f n r) := by
  have h : mX9_image_l7 rFU (0 : Int32) (rSf σ 0 (0 : Int32)) = some r := h
  refine AM.of (by decide +kernel) rfl (Nat.le_of_ble_eq_true rfl) (fun p e s m args below meth c C _ => ?_)
  refine aw_nl [some (.ref 181), none] rfl ?_
  refine aw_ald_n C dX9_image_0 rfl ?_
  refine aw_iconst C 0 dX9_image_1 ki_0 ?_
  refine am_put C gf_X9_138 nf9_0 rfl rfl dX9_image_2 ?_
  refine aw_iconst C 0 dX9_image_5 ki_0 ?_
  refine aw_istore_n C dX9_image_6 (by decide) rfl ?_
  refine aw_nl [some (.ref 181), some (.int (0 : Int32))] rfl ?_
  refine aw_fl [some (.ref 181), some (.int (0 : Int32))] ⟨rfl, ⟨rfl, trivial⟩⟩ ?_
  exact rmX9_image_l7 C rFU (0 : Int32) (rSf σ 0 (0 : Int32)) h
def mX9_skeleton_l9 : Nat → Int32 → Int32 → RS9 → Option (Int32 × RS9)
  | 0, _, _, _ => none
  | d + 1, v1, v2, σ => (if (σ.1 33) ≤ v2 then some (v1, σ) else rCk (rIn v2 (rLen 35)) (rCk (rIn v2 (rLen 34)) (mX9_skeleton_l9 d (v1 - ((rGa σ 35 v2) - (rGa σ 34 v2))) (v2 + (1 : Int32)) σ)))
set_option maxHeartbeats 1000000 in
theorem rmX9_skeleton_l9 {X : GX} {p : Program} {l : Launch} {e : Env} {s : State} {m : MethodId} {args : Array Value} {below : List Frame} {meth : Method} {c : Code} {f : AH} {n : Nat} {r : Int32 × RS9} (C : CC X p l (RM 0 0 0) s m args meth c RX9 cX9_skeleton 3 (some .int)) : ∀ (d : Nat) (v1 : Int32) (v2 : Int32) (σ : RS9) (_ : mX9_skeleton_l9 d v1 v2 σ = some r), AW X p l e (RM 0 0 0) s m args below meth c 3 (ZM X below args s 0 0 (QMi f n r)) (rHm f σ) n 0 0 9 [some (.ref 181), some (.int v1), some (.int v2)] [] := by
  intro d
  induction d with
  | zero =>
    intro v1 v2 σ h
    exact nomatch (show (none : Option (Int32 × RS9)) = some r from h)
  | succ d ih =>
    intro v1 v2 σ h
    have h : (if (σ.1 33) ≤ v2 then some (v1, σ) else rCk (rIn v2 (rLen 35)) (rCk (rIn v2 (rLen 34)) (mX9_skeleton_l9 d (v1 - ((rGa σ 35 v2) - (rGa σ 34 v2))) (v2 + (1 : Int32)) σ))) = some r := h
    refine aw_iload_n C dX9_skeleton_9 rfl ?_
    refine aw_ald_n C dX9_skeleton_10 rfl ?_
    refine aw_get C (v := .int (σ.1 33)) gf_X9_204 (hm_M f σ) rfl dX9_skeleton_11 ?_
    refine aw_icmp_ge C 39 dX9_skeleton_14 (by decide) (fun q => ?_) (fun q => ?_)
    · rw [if_pos q] at h
      refine aw_iload_n C dX9_skeleton_39 rfl ?_
      cases h
      exact aw_iret C rfl rfl dX9_skeleton_40 (Nat.le_refl _) (Nat.le_refl _) ⟨rfl, rfl, rfl⟩
    · rw [if_neg q] at h
      refine aw_iload_n C dX9_skeleton_17 rfl ?_
      refine aw_ald_n C dX9_skeleton_18 rfl ?_
      refine aw_get C (v := .ref (rAid 35)) gf_X9_84 (hm_M f σ) rfl dX9_skeleton_19 ?_
      refine aw_iload_n C dX9_skeleton_22 rfl ?_
      obtain ⟨hb1, h⟩ := ck_some h
      refine am_iald C (rGa σ 35 v2) rfl (inb_vp hb1) rfl dX9_skeleton_23 ?_
      refine aw_ald_n C dX9_skeleton_24 rfl ?_
      refine aw_get C (v := .ref (rAid 34)) gf_X9_81 (hm_M f σ) rfl dX9_skeleton_25 ?_
      refine aw_iload_n C dX9_skeleton_28 rfl ?_
      obtain ⟨hb2, h⟩ := ck_some h
      refine am_iald C (rGa σ 34 v2) rfl (inb_vp hb2) rfl dX9_skeleton_29 ?_
      refine aw_isub C dX9_skeleton_30 ?_
      refine aw_isub C dX9_skeleton_31 ?_
      refine aw_istore_n C dX9_skeleton_32 (by decide) rfl ?_
      refine aw_nl [some (.ref 181), some (.int (v1 - ((rGa σ 35 v2) - (rGa σ 34 v2)))), some (.int v2)] rfl ?_
      refine aw_iinc C (v2 + (1 : Int32)) dX9_skeleton_33 rfl (by rw [ki_1]) (by decide) rfl ?_
      refine aw_nl [some (.ref 181), some (.int (v1 - ((rGa σ 35 v2) - (rGa σ 34 v2)))), some (.int (v2 + (1 : Int32)))] rfl ?_
      refine aw_goto C 9 dX9_skeleton_36 (by decide) ?_
      refine aw_fl [some (.ref 181), some (.int (v1 - ((rGa σ 35 v2) - (rGa σ 34 v2)))), some (.int (v2 + (1 : Int32)))] ⟨rfl, ⟨rfl, ⟨rfl, trivial⟩⟩⟩ ?_
      exact ih (v1 - ((rGa σ 35 v2) - (rGa σ 34 v2))) (v2 + (1 : Int32)) σ h
def mX9_skeleton (σ : RS9) : Option (Int32 × RS9) := rCk (rIn (0 : Int32) (rLen 1)) (mX9_skeleton_l9 rFU (rGa σ 1 (0 : Int32)) (0 : Int32) σ)
set_option maxHeartbeats 1000000 in
theorem rmX9_skeleton {X : GX} {l : Launch} {f : AH} {n : Nat} {r : Int32 × RS9} {σ : RS9} (h : mX9_skeleton σ = some r) : AM X l yX9_skeleton cX9_skeleton 3 (some .int) 0 0 0 [.ref 181] (rHm f σ) n (QMi f n r) := by
  have h : rCk (rIn (0 : Int32) (rLen 1)) (mX9_skeleton_l9 rFU (rGa σ 1 (0 : Int32)) (0 : Int32) σ) = some r := h
  refine AM.of (by decide +kernel) rfl (Nat.le_of_ble_eq_true rfl) (fun p e s m args below meth c C _ => ?_)
  refine aw_nl [some (.ref 181), none, none] rfl ?_
  refine aw_ald_n C dX9_skeleton_0 rfl ?_
  refine aw_get C (v := .ref (rAid 1)) gf_X9_7 (hm_M f σ) rfl dX9_skeleton_1 ?_
  refine aw_iconst C 0 dX9_skeleton_4 ki_0 ?_
  obtain ⟨hb1, h⟩ := ck_some h
  refine am_iald C (rGa σ 1 (0 : Int32)) rfl (inb_vp hb1) rfl dX9_skeleton_5 ?_
  refine aw_istore_n C dX9_skeleton_6 (by decide) rfl ?_
  refine aw_nl [some (.ref 181), some (.int (rGa σ 1 (0 : Int32))), none] rfl ?_
  refine aw_iconst C 0 dX9_skeleton_7 ki_0 ?_
  refine aw_istore_n C dX9_skeleton_8 (by decide) rfl ?_
  refine aw_nl [some (.ref 181), some (.int (rGa σ 1 (0 : Int32))), some (.int (0 : Int32))] rfl ?_
  refine aw_fl [some (.ref 181), some (.int (rGa σ 1 (0 : Int32))), some (.int (0 : Int32))] ⟨rfl, ⟨rfl, ⟨rfl, trivial⟩⟩⟩ ?_
  exact rmX9_skeleton_l9 C rFU (rGa σ 1 (0 : Int32)) (0 : Int32) σ h
end
/-! part 22aj.ref -/
section
def mX9_unlikeTexts_b59 (rec4 : Int32 → Int32 → RS9 → Option (Int32 × RS9)) (v2 : Int32) (s0 : Int32) (s1 : Int32) (σ : RS9) : Option (Int32 × RS9) := rec4 (s0 + s1) (v2 + (1 : Int32)) σ
set_option maxHeartbeats 1000000 in
theorem rmX9_unlikeTexts_b59 {X : GX} {p : Program} {l : Launch} {e : Env} {s : State} {m : MethodId} {args : Array Value} {below : List Frame} {meth : Method} {c : Code} {f : AH} {n : Nat} {r : Int32 × RS9} {rec4 : Int32 → Int32 → RS9 → Option (Int32 × RS9)} {v2 : Int32} {s0 : Int32} {s1 : Int32} {σ : RS9} (C : CC X p l (RM 1 0 0) s m args meth c RX9 cX9_unlikeTexts 5 (some .int)) (Hr4 : ∀ (v1 : Int32) (v2 : Int32) (σ : RS9), rec4 v1 v2 σ = some r → AW X p l e (RM 1 0 0) s m args below meth c 5 (ZM X below args s 0 0 (QMi f n r)) (rHm f σ) n 0 0 4 [some (.ref 181), some (.int v1), some (.int v2), none, none] []) (h : mX9_unlikeTexts_b59 rec4 v2 s0 s1 σ = some r) : AW X p l e (RM 1 0 0) s m args below meth c 5 (ZM X below args s 0 0 (QMi f n r)) (rHm f σ) n 0 0 59 [some (.ref 181), none, some (.int v2), none, none] [.int s1, .int s0] := by
  have h : rec4 (s0 + s1) (v2 + (1 : Int32)) σ = some r := h
  refine aw_iadd C dX9_unlikeTexts_59 ?_
  refine aw_istore_n C dX9_unlikeTexts_60 (by decide) rfl ?_
  refine aw_nl [some (.ref 181), some (.int (s0 + s1)), some (.int v2), none, none] rfl ?_
  refine aw_iinc C (v2 + (1 : Int32)) dX9_unlikeTexts_61 rfl (by rw [ki_1]) (by decide) rfl ?_
  refine aw_nl [some (.ref 181), some (.int (s0 + s1)), some (.int (v2 + (1 : Int32))), none, none] rfl ?_
  refine aw_goto C 4 dX9_unlikeTexts_64 (by decide) ?_
  refine aw_fl [some (.ref 181), some (.int (s0 + s1)), some (.int (v2 + (1 : Int32))), none, none] ⟨rfl, ⟨rfl, ⟨rfl, trivial⟩⟩⟩ ?_
  exact Hr4 (s0 + s1) (v2 + (1 : Int32)) σ h
def mX9_unlikeTexts_b42 (rec4 : Int32 → Int32 → RS9 → Option (Int32 × RS9)) (rec17 : Int32 → Int32 → Int32 → Int32 → RS9 → Option (Int32 × RS9)) (v1 : Int32) (v2 : Int32) (v4 : Int32) (s0 : Int32) (σ : RS9) : Option (Int32 × RS9) := rec17 v1 v2 s0 (v4 + (1 : Int32)) σ
set_option maxHeartbeats 1000000 in
theorem rmX9_unlikeTexts_b42 {X : GX} {p : Program} {l : Launch} {e : Env} {s : State} {m : MethodId} {args : Array Value} {below : List Frame} {meth : Method} {c : Code} {f : AH} {n : Nat} {r : Int32 × RS9} {rec4 : Int32 → Int32 → RS9 → Option (Int32 × RS9)} {rec17 : Int32 → Int32 → Int32 → Int32 → RS9 → Option (Int32 × RS9)} {v1 : Int32} {v2 : Int32} {v4 : Int32} {s0 : Int32} {σ : RS9} (C : CC X p l (RM 1 0 0) s m args meth c RX9 cX9_unlikeTexts 5 (some .int)) (Hr4 : ∀ (v1 : Int32) (v2 : Int32) (σ : RS9), rec4 v1 v2 σ = some r → AW X p l e (RM 1 0 0) s m args below meth c 5 (ZM X below args s 0 0 (QMi f n r)) (rHm f σ) n 0 0 4 [some (.ref 181), some (.int v1), some (.int v2), none, none] []) (Hr17 : ∀ (v1 : Int32) (v2 : Int32) (v3 : Int32) (v4 : Int32) (σ : RS9), rec17 v1 v2 v3 v4 σ = some r → AW X p l e (RM 1 0 0) s m args below meth c 5 (ZM X below args s 0 0 (QMi f n r)) (rHm f σ) n 0 0 17 [some (.ref 181), some (.int v1), some (.int v2), some (.int v3), some (.int v4)] []) (h : mX9_unlikeTexts_b42 rec4 rec17 v1 v2 v4 s0 σ = some r) : AW X p l e (RM 1 0 0) s m args below meth c 5 (ZM X below args s 0 0 (QMi f n r)) (rHm f σ) n 0 0 42 [some (.ref 181), some (.int v1), some (.int v2), none, some (.int v4)] [.int s0] := by
  have h : rec17 v1 v2 s0 (v4 + (1 : Int32)) σ = some r := h
  refine aw_istore_n C dX9_unlikeTexts_42 (by decide) rfl ?_
  refine aw_nl [some (.ref 181), some (.int v1), some (.int v2), some (.int s0), some (.int v4)] rfl ?_
  refine aw_iinc C (v4 + (1 : Int32)) dX9_unlikeTexts_43 rfl (by rw [ki_1]) (by decide) rfl ?_
  refine aw_nl [some (.ref 181), some (.int v1), some (.int v2), some (.int s0), some (.int (v4 + (1 : Int32)))] rfl ?_
  refine aw_goto C 17 dX9_unlikeTexts_46 (by decide) ?_
  refine aw_fl [some (.ref 181), some (.int v1), some (.int v2), some (.int s0), some (.int (v4 + (1 : Int32)))] ⟨rfl, ⟨rfl, ⟨rfl, ⟨rfl, ⟨rfl, trivial⟩⟩⟩⟩⟩ ?_
  exact Hr17 v1 v2 s0 (v4 + (1 : Int32)) σ h
def mX9_unlikeTexts_b41 (rec4 : Int32 → Int32 → RS9 → Option (Int32 × RS9)) (rec17 : Int32 → Int32 → Int32 → Int32 → RS9 → Option (Int32 × RS9)) (v1 : Int32) (v2 : Int32) (v4 : Int32) (σ : RS9) : Option (Int32 × RS9) := mX9_unlikeTexts_b42 rec4 rec17 v1 v2 v4 (0 : Int32) σ
set_option maxHeartbeats 1000000 in
theorem rmX9_unlikeTexts_b41 {X : GX} {p : Program} {l : Launch} {e : Env} {s : State} {m : MethodId} {args : Array Value} {below : List Frame} {meth : Method} {c : Code} {f : AH} {n : Nat} {r : Int32 × RS9} {rec4 : Int32 → Int32 → RS9 → Option (Int32 × RS9)} {rec17 : Int32 → Int32 → Int32 → Int32 → RS9 → Option (Int32 × RS9)} {v1 : Int32} {v2 : Int32} {v4 : Int32} {σ : RS9} (C : CC X p l (RM 1 0 0) s m args meth c RX9 cX9_unlikeTexts 5 (some .int)) (Hr4 : ∀ (v1 : Int32) (v2 : Int32) (σ : RS9), rec4 v1 v2 σ = some r → AW X p l e (RM 1 0 0) s m args below meth c 5 (ZM X below args s 0 0 (QMi f n r)) (rHm f σ) n 0 0 4 [some (.ref 181), some (.int v1), some (.int v2), none, none] []) (Hr17 : ∀ (v1 : Int32) (v2 : Int32) (v3 : Int32) (v4 : Int32) (σ : RS9), rec17 v1 v2 v3 v4 σ = some r → AW X p l e (RM 1 0 0) s m args below meth c 5 (ZM X below args s 0 0 (QMi f n r)) (rHm f σ) n 0 0 17 [some (.ref 181), some (.int v1), some (.int v2), some (.int v3), some (.int v4)] []) (h : mX9_unlikeTexts_b41 rec4 rec17 v1 v2 v4 σ = some r) : AW X p l e (RM 1 0 0) s m args below meth c 5 (ZM X below args s 0 0 (QMi f n r)) (rHm f σ) n 0 0 41 [some (.ref 181), some (.int v1), some (.int v2), none, some (.int v4)] [] := by
  have h : mX9_unlikeTexts_b42 rec4 rec17 v1 v2 v4 (0 : Int32) σ = some r := h
  refine aw_iconst C 0 dX9_unlikeTexts_41 ki_0 ?_
  refine aw_fl [some (.ref 181), some (.int v1), some (.int v2), none, some (.int v4)] ⟨rfl, ⟨rfl, ⟨rfl, ⟨rfl, trivial⟩⟩⟩⟩ ?_
  exact rmX9_unlikeTexts_b42 C Hr4 Hr17 h
def mX9_unlikeTexts_l17 (rec4 : Int32 → Int32 → RS9 → Option (Int32 × RS9)) : Nat → Int32 → Int32 → Int32 → Int32 → RS9 → Option (Int32 × RS9)
  | 0, _, _, _, _, _ => none
  | d + 1, v1, v2, v3, v4, σ => (if v2 ≤ v4 then (if v3 = (0 : Int32) then mX9_unlikeTexts_b59 rec4 v2 v1 (0 : Int32) σ else mX9_unlikeTexts_b59 rec4 v2 v1 (1 : Int32) σ) else (if v3 = (0 : Int32) then mX9_unlikeTexts_b41 rec4 (fun v1 v2 v3 v4 σ => mX9_unlikeTexts_l17 rec4 d v1 v2 v3 v4 σ) v1 v2 v4 σ else ((mX9_areLike v2 v4 σ).bind fun r1 => (if r1.1 = (0 : Int32) then mX9_unlikeTexts_b42 rec4 (fun v1 v2 v3 v4 σ => mX9_unlikeTexts_l17 rec4 d v1 v2 v3 v4 σ) v1 v2 v4 (1 : Int32) r1.2 else mX9_unlikeTexts_b41 rec4 (fun v1 v2 v3 v4 σ => mX9_unlikeTexts_l17 rec4 d v1 v2 v3 v4 σ) v1 v2 v4 r1.2))))
set_option maxHeartbeats 1000000 in
theorem rmX9_unlikeTexts_l17 {X : GX} {p : Program} {l : Launch} {e : Env} {s : State} {m : MethodId} {args : Array Value} {below : List Frame} {meth : Method} {c : Code} {f : AH} {n : Nat} {r : Int32 × RS9} {rec4 : Int32 → Int32 → RS9 → Option (Int32 × RS9)} (C : CC X p l (RM 1 0 0) s m args meth c RX9 cX9_unlikeTexts 5 (some .int)) (Hr4 : ∀ (v1 : Int32) (v2 : Int32) (σ : RS9), rec4 v1 v2 σ = some r → AW X p l e (RM 1 0 0) s m args below meth c 5 (ZM X below args s 0 0 (QMi f n r)) (rHm f σ) n 0 0 4 [some (.ref 181), some (.int v1), some (.int v2), none, none] []) : ∀ (d : Nat) (v1 : Int32) (v2 : Int32) (v3 : Int32) (v4 : Int32) (σ : RS9) (_ : mX9_unlikeTexts_l17 rec4 d v1 v2 v3 v4 σ = some r), AW X p l e (RM 1 0 0) s m args below meth c 5 (ZM X below args s 0 0 (QMi f n r)) (rHm f σ) n 0 0 17 [some (.ref 181), some (.int v1), some (.int v2), some (.int v3), some (.int v4)] [] := by
  intro d
  induction d with
  | zero =>
    intro v1 v2 v3 v4 σ h
    exact nomatch (show (none : Option (Int32 × RS9)) = some r from h)
  | succ d ih =>
    intro v1 v2 v3 v4 σ h
    have h : (if v2 ≤ v4 then (if v3 = (0 : Int32) then mX9_unlikeTexts_b59 rec4 v2 v1 (0 : Int32) σ else mX9_unlikeTexts_b59 rec4 v2 v1 (1 : Int32) σ) else (if v3 = (0 : Int32) then mX9_unlikeTexts_b41 rec4 (fun v1 v2 v3 v4 σ => mX9_unlikeTexts_l17 rec4 d v1 v2 v3 v4 σ) v1 v2 v4 σ else ((mX9_areLike v2 v4 σ).bind fun r1 => (if r1.1 = (0 : Int32) then mX9_unlikeTexts_b42 rec4 (fun v1 v2 v3 v4 σ => mX9_unlikeTexts_l17 rec4 d v1 v2 v3 v4 σ) v1 v2 v4 (1 : Int32) r1.2 else mX9_unlikeTexts_b41 rec4 (fun v1 v2 v3 v4 σ => mX9_unlikeTexts_l17 rec4 d v1 v2 v3 v4 σ) v1 v2 v4 r1.2)))) = some r := h
    refine aw_iload C dX9_unlikeTexts_17 rfl ?_
    refine aw_iload_n C dX9_unlikeTexts_19 rfl ?_
    refine aw_icmp_ge C 49 dX9_unlikeTexts_20 (by decide) (fun q => ?_) (fun q => ?_)
    · rw [if_pos q] at h
      refine aw_iload_n C dX9_unlikeTexts_49 rfl ?_
      refine aw_iload_n C dX9_unlikeTexts_50 rfl ?_
      refine aw_if_eq C 58 dX9_unlikeTexts_51 (by decide) (fun q => ?_) (fun q => ?_)
      · rw [if_pos q] at h
        refine aw_iconst C 0 dX9_unlikeTexts_58 ki_0 ?_
        refine aw_fl [some (.ref 181), none, some (.int v2), none, none] ⟨rfl, ⟨rfl, trivial⟩⟩ ?_
        exact rmX9_unlikeTexts_b59 C Hr4 h
      · rw [if_neg q] at h
        refine aw_iconst C 1 dX9_unlikeTexts_54 ki_1 ?_
        refine aw_goto C 59 dX9_unlikeTexts_55 (by decide) ?_
        refine aw_fl [some (.ref 181), none, some (.int v2), none, none] ⟨rfl, ⟨rfl, trivial⟩⟩ ?_
        exact rmX9_unlikeTexts_b59 C Hr4 h
    · rw [if_neg q] at h
      refine aw_iload_n C dX9_unlikeTexts_23 rfl ?_
      refine aw_if_eq C 41 dX9_unlikeTexts_24 (by decide) (fun q => ?_) (fun q => ?_)
      · rw [if_pos q] at h
        refine aw_fl [some (.ref 181), some (.int v1), some (.int v2), none, some (.int v4)] ⟨rfl, ⟨rfl, ⟨rfl, ⟨rfl, trivial⟩⟩⟩⟩ ?_
        exact rmX9_unlikeTexts_b41 C Hr4 (fun v1 v2 v3 v4 σ h => ih v1 v2 v3 v4 σ h) h
      · rw [if_neg q] at h
        refine aw_ald_n C dX9_unlikeTexts_27 rfl ?_
        refine aw_iload_n C dX9_unlikeTexts_28 rfl ?_
        refine aw_iload C dX9_unlikeTexts_29 rfl ?_
        obtain ⟨r1, h1, h⟩ := Option.bind_eq_some_iff.mp h
        refine aw_callV C (ci := 9) (b := 181) [.int v2, .int v4] mv_X9_309 rfl rfl (hm_M f σ) (rmX9_areLike h1) rfl dX9_unlikeTexts_31 (Nat.le_of_ble_eq_true rfl) (Nat.le_of_ble_eq_true rfl) rfl (Nat.le_of_ble_eq_true rfl) (Nat.le_of_ble_eq_true rfl) (Nat.le_of_ble_eq_true rfl) (fun v9 f9 n9 hh => ?_)
        obtain ⟨rfl, rfl, rfl⟩ := hh
        refine aw_if_ne C 41 dX9_unlikeTexts_34 (by decide) (fun q => ?_) (fun q => ?_)
        · rw [if_neg q] at h
          refine aw_fl [some (.ref 181), some (.int v1), some (.int v2), none, some (.int v4)] ⟨rfl, ⟨rfl, ⟨rfl, ⟨rfl, trivial⟩⟩⟩⟩ ?_
          exact rmX9_unlikeTexts_b41 C Hr4 (fun v1 v2 v3 v4 σ h => ih v1 v2 v3 v4 σ h) h
        · rw [if_pos q] at h
          refine aw_iconst C 1 dX9_unlikeTexts_37 ki_1 ?_
          refine aw_goto C 42 dX9_unlikeTexts_38 (by decide) ?_
          refine aw_fl [some (.ref 181), some (.int v1), some (.int v2), none, some (.int v4)] ⟨rfl, ⟨rfl, ⟨rfl, ⟨rfl, trivial⟩⟩⟩⟩ ?_
          exact rmX9_unlikeTexts_b42 C Hr4 (fun v1 v2 v3 v4 σ h => ih v1 v2 v3 v4 σ h) h
def mX9_unlikeTexts_l4 : Nat → Int32 → Int32 → RS9 → Option (Int32 × RS9)
  | 0, _, _, _ => none
  | d + 1, v1, v2, σ => (if (σ.1 33) ≤ v2 then some (v1, σ) else mX9_unlikeTexts_l17 (fun v1 v2 σ => mX9_unlikeTexts_l4 d v1 v2 σ) rFU v1 v2 (1 : Int32) (0 : Int32) σ)
set_option maxHeartbeats 1000000 in
theorem rmX9_unlikeTexts_l4 {X : GX} {p : Program} {l : Launch} {e : Env} {s : State} {m : MethodId} {args : Array Value} {below : List Frame} {meth : Method} {c : Code} {f : AH} {n : Nat} {r : Int32 × RS9} (C : CC X p l (RM 1 0 0) s m args meth c RX9 cX9_unlikeTexts 5 (some .int)) : ∀ (d : Nat) (v1 : Int32) (v2 : Int32) (σ : RS9) (_ : mX9_unlikeTexts_l4 d v1 v2 σ = some r), AW X p l e (RM 1 0 0) s m args below meth c 5 (ZM X below args s 0 0 (QMi f n r)) (rHm f σ) n 0 0 4 [some (.ref 181), some (.int v1), some (.int v2), none, none] [] := by
  intro d
  induction d with
  | zero =>
    intro v1 v2 σ h
    exact nomatch (show (none : Option (Int32 × RS9)) = some r from h)
  | succ d ih =>
    intro v1 v2 σ h
    have h : (if (σ.1 33) ≤ v2 then some (v1, σ) else mX9_unlikeTexts_l17 (fun v1 v2 σ => mX9_unlikeTexts_l4 d v1 v2 σ) rFU v1 v2 (1 : Int32) (0 : Int32) σ) = some r := h
    refine aw_iload_n C dX9_unlikeTexts_4 rfl ?_
    refine aw_ald_n C dX9_unlikeTexts_5 rfl ?_
    refine aw_get C (v := .int (σ.1 33)) gf_X9_204 (hm_M f σ) rfl dX9_unlikeTexts_6 ?_
    refine aw_icmp_ge C 67 dX9_unlikeTexts_9 (by decide) (fun q => ?_) (fun q => ?_)
    · rw [if_pos q] at h
      refine aw_iload_n C dX9_unlikeTexts_67 rfl ?_
      cases h
      exact aw_iret C rfl rfl dX9_unlikeTexts_68 (Nat.le_refl _) (Nat.le_refl _) ⟨rfl, rfl, rfl⟩
    · rw [if_neg q] at h
      refine aw_iconst C 1 dX9_unlikeTexts_12 ki_1 ?_
      refine aw_istore_n C dX9_unlikeTexts_13 (by decide) rfl ?_
      refine aw_nl [some (.ref 181), some (.int v1), some (.int v2), some (.int (1 : Int32)), none] rfl ?_
      refine aw_iconst C 0 dX9_unlikeTexts_14 ki_0 ?_
      refine aw_istore C dX9_unlikeTexts_15 (by decide) rfl ?_
      refine aw_nl [some (.ref 181), some (.int v1), some (.int v2), some (.int (1 : Int32)), some (.int (0 : Int32))] rfl ?_
      refine aw_fl [some (.ref 181), some (.int v1), some (.int v2), some (.int (1 : Int32)), some (.int (0 : Int32))] ⟨rfl, ⟨rfl, ⟨rfl, ⟨rfl, ⟨rfl, trivial⟩⟩⟩⟩⟩ ?_
      exact rmX9_unlikeTexts_l17 C (fun v1 v2 σ h => ih v1 v2 σ h) rFU v1 v2 (1 : Int32) (0 : Int32) σ h
def mX9_unlikeTexts (σ : RS9) : Option (Int32 × RS9) := mX9_unlikeTexts_l4 rFU (0 : Int32) (0 : Int32) σ
set_option maxHeartbeats 1000000 in
theorem rmX9_unlikeTexts {X : GX} {l : Launch} {f : AH} {n : Nat} {r : Int32 × RS9} {σ : RS9} (h : mX9_unlikeTexts σ = some r) : AM X l yX9_unlikeTexts cX9_unlikeTexts 5 (some .int) 1 0 0 [.ref 181] (rHm f σ) n (QMi f n r) := by
  have h : mX9_unlikeTexts_l4 rFU (0 : Int32) (0 : Int32) σ = some r := h
  refine AM.of (by decide +kernel) rfl (Nat.le_of_ble_eq_true rfl) (fun p e s m args below meth c C _ => ?_)
  refine aw_nl [some (.ref 181), none, none, none, none] rfl ?_
  refine aw_iconst C 0 dX9_unlikeTexts_0 ki_0 ?_
  refine aw_istore_n C dX9_unlikeTexts_1 (by decide) rfl ?_
  refine aw_nl [some (.ref 181), some (.int (0 : Int32)), none, none, none] rfl ?_
  refine aw_iconst C 0 dX9_unlikeTexts_2 ki_0 ?_
  refine aw_istore_n C dX9_unlikeTexts_3 (by decide) rfl ?_
  refine aw_nl [some (.ref 181), some (.int (0 : Int32)), some (.int (0 : Int32)), none, none] rfl ?_
  refine aw_fl [some (.ref 181), some (.int (0 : Int32)), some (.int (0 : Int32)), none, none] ⟨rfl, ⟨rfl, ⟨rfl, trivial⟩⟩⟩ ?_
  exact rmX9_unlikeTexts_l4 C rFU (0 : Int32) (0 : Int32) σ h
def mX9_allWords_l4 : Nat → Int32 → Int32 → RS9 → Option (Int32 × RS9)
  | 0, _, _, _ => none
  | d + 1, v1, v2, σ => (if (σ.1 33) ≤ v2 then some (v1, σ) else ((mX9_wordsOf v2 σ).bind fun r1 => mX9_allWords_l4 d (v1 + r1.1) (v2 + (1 : Int32)) r1.2))
set_option maxHeartbeats 1000000 in
theorem rmX9_allWords_l4 {X : GX} {p : Program} {l : Launch} {e : Env} {s : State} {m : MethodId} {args : Array Value} {below : List Frame} {meth : Method} {c : Code} {f : AH} {n : Nat} {r : Int32 × RS9} (C : CC X p l (RM 3 0 0) s m args meth c RX9 cX9_allWords 3 (some .int)) : ∀ (d : Nat) (v1 : Int32) (v2 : Int32) (σ : RS9) (_ : mX9_allWords_l4 d v1 v2 σ = some r), AW X p l e (RM 3 0 0) s m args below meth c 3 (ZM X below args s 0 0 (QMi f n r)) (rHm f σ) n 0 0 4 [some (.ref 181), some (.int v1), some (.int v2)] [] := by
  intro d
  induction d with
  | zero =>
    intro v1 v2 σ h
    exact nomatch (show (none : Option (Int32 × RS9)) = some r from h)
  | succ d ih =>
    intro v1 v2 σ h
    have h : (if (σ.1 33) ≤ v2 then some (v1, σ) else ((mX9_wordsOf v2 σ).bind fun r1 => mX9_allWords_l4 d (v1 + r1.1) (v2 + (1 : Int32)) r1.2)) = some r := h
    refine aw_iload_n C dX9_allWords_4 rfl ?_
    refine aw_ald_n C dX9_allWords_5 rfl ?_
    refine aw_get C (v := .int (σ.1 33)) gf_X9_204 (hm_M f σ) rfl dX9_allWords_6 ?_
    refine aw_icmp_ge C 26 dX9_allWords_9 (by decide) (fun q => ?_) (fun q => ?_)
    · rw [if_pos q] at h
      refine aw_iload_n C dX9_allWords_26 rfl ?_
      cases h
      exact aw_iret C rfl rfl dX9_allWords_27 (Nat.le_refl _) (Nat.le_refl _) ⟨rfl, rfl, rfl⟩
    · rw [if_neg q] at h
      refine aw_iload_n C dX9_allWords_12 rfl ?_
      refine aw_ald_n C dX9_allWords_13 rfl ?_
      refine aw_iload_n C dX9_allWords_14 rfl ?_
      obtain ⟨r1, h1, h⟩ := Option.bind_eq_some_iff.mp h
      refine aw_callV C (ci := 9) (b := 181) [.int v2] mv_X9_447 rfl rfl (hm_M f σ) (rmX9_wordsOf h1) rfl dX9_allWords_15 (Nat.le_of_ble_eq_true rfl) (Nat.le_of_ble_eq_true rfl) rfl (Nat.le_of_ble_eq_true rfl) (Nat.le_of_ble_eq_true rfl) (Nat.le_of_ble_eq_true rfl) (fun v9 f9 n9 hh => ?_)
      obtain ⟨rfl, rfl, rfl⟩ := hh
      refine aw_iadd C dX9_allWords_18 ?_
      refine aw_istore_n C dX9_allWords_19 (by decide) rfl ?_
      refine aw_nl [some (.ref 181), some (.int (v1 + r1.1)), some (.int v2)] rfl ?_
      refine aw_iinc C (v2 + (1 : Int32)) dX9_allWords_20 rfl (by rw [ki_1]) (by decide) rfl ?_
      refine aw_nl [some (.ref 181), some (.int (v1 + r1.1)), some (.int (v2 + (1 : Int32)))] rfl ?_
      refine aw_goto C 4 dX9_allWords_23 (by decide) ?_
      refine aw_fl [some (.ref 181), some (.int (v1 + r1.1)), some (.int (v2 + (1 : Int32)))] ⟨rfl, ⟨rfl, ⟨rfl, trivial⟩⟩⟩ ?_
      exact ih (v1 + r1.1) (v2 + (1 : Int32)) r1.2 h
def mX9_allWords (σ : RS9) : Option (Int32 × RS9) := mX9_allWords_l4 rFU (0 : Int32) (0 : Int32) σ
set_option maxHeartbeats 1000000 in
theorem rmX9_allWords {X : GX} {l : Launch} {f : AH} {n : Nat} {r : Int32 × RS9} {σ : RS9} (h : mX9_allWords σ = some r) : AM X l yX9_allWords cX9_allWords 3 (some .int) 3 0 0 [.ref 181] (rHm f σ) n (QMi f n r) := by
  have h : mX9_allWords_l4 rFU (0 : Int32) (0 : Int32) σ = some r := h
  refine AM.of (by decide +kernel) rfl (Nat.le_of_ble_eq_true rfl) (fun p e s m args below meth c C _ => ?_)
  refine aw_nl [some (.ref 181), none, none] rfl ?_
  refine aw_iconst C 0 dX9_allWords_0 ki_0 ?_
  refine aw_istore_n C dX9_allWords_1 (by decide) rfl ?_
  refine aw_nl [some (.ref 181), some (.int (0 : Int32)), none] rfl ?_
  refine aw_iconst C 0 dX9_allWords_2 ki_0 ?_
  refine aw_istore_n C dX9_allWords_3 (by decide) rfl ?_
  refine aw_nl [some (.ref 181), some (.int (0 : Int32)), some (.int (0 : Int32))] rfl ?_
  refine aw_fl [some (.ref 181), some (.int (0 : Int32)), some (.int (0 : Int32))] ⟨rfl, ⟨rfl, ⟨rfl, trivial⟩⟩⟩ ?_
  exact rmX9_allWords_l4 C rFU (0 : Int32) (0 : Int32) σ h
def mX9_longest_b29 (rec4 : Int32 → Int32 → RS9 → Option (Int32 × RS9)) (v1 : Int32) (v2 : Int32) (σ : RS9) : Option (Int32 × RS9) := rec4 v1 (v2 + (1 : Int32)) σ
set_option maxHeartbeats 1000000 in
theorem rmX9_longest_b29 {X : GX} {p : Program} {l : Launch} {e : Env} {s : State} {m : MethodId} {args : Array Value} {below : List Frame} {meth : Method} {c : Code} {f : AH} {n : Nat} {r : Int32 × RS9} {rec4 : Int32 → Int32 → RS9 → Option (Int32 × RS9)} {v1 : Int32} {v2 : Int32} {σ : RS9} (C : CC X p l (RM 0 0 0) s m args meth c RX9 cX9_longest 3 (some .int)) (Hr4 : ∀ (v1 : Int32) (v2 : Int32) (σ : RS9), rec4 v1 v2 σ = some r → AW X p l e (RM 0 0 0) s m args below meth c 3 (ZM X below args s 0 0 (QMi f n r)) (rHm f σ) n 0 0 4 [some (.ref 181), some (.int v1), some (.int v2)] []) (h : mX9_longest_b29 rec4 v1 v2 σ = some r) : AW X p l e (RM 0 0 0) s m args below meth c 3 (ZM X below args s 0 0 (QMi f n r)) (rHm f σ) n 0 0 29 [some (.ref 181), some (.int v1), some (.int v2)] [] := by
  have h : rec4 v1 (v2 + (1 : Int32)) σ = some r := h
  refine aw_iinc C (v2 + (1 : Int32)) dX9_longest_29 rfl (by rw [ki_1]) (by decide) rfl ?_
  refine aw_nl [some (.ref 181), some (.int v1), some (.int (v2 + (1 : Int32)))] rfl ?_
  refine aw_goto C 4 dX9_longest_32 (by decide) ?_
  refine aw_fl [some (.ref 181), some (.int v1), some (.int (v2 + (1 : Int32)))] ⟨rfl, ⟨rfl, ⟨rfl, trivial⟩⟩⟩ ?_
  exact Hr4 v1 (v2 + (1 : Int32)) σ h
def mX9_longest_l4 : Nat → Int32 → Int32 → RS9 → Option (Int32 × RS9)
  | 0, _, _, _ => none
  | d + 1, v1, v2, σ => (if (σ.1 33) ≤ v2 then some (v1, σ) else rCk (rIn v2 (rLen 42)) ((if (rGa σ 42 v2) ≤ v1 then mX9_longest_b29 (fun v1 v2 σ => mX9_longest_l4 d v1 v2 σ) v1 v2 σ else rCk (rIn v2 (rLen 42)) (mX9_longest_b29 (fun v1 v2 σ => mX9_longest_l4 d v1 v2 σ) (rGa σ 42 v2) v2 σ))))
set_option maxHeartbeats 1000000 in
theorem rmX9_longest_l4 {X : GX} {p : Program} {l : Launch} {e : Env} {s : State} {m : MethodId} {args : Array Value} {below : List Frame} {meth : Method} {c : Code} {f : AH} {n : Nat} {r : Int32 × RS9} (C : CC X p l (RM 0 0 0) s m args meth c RX9 cX9_longest 3 (some .int)) : ∀ (d : Nat) (v1 : Int32) (v2 : Int32) (σ : RS9) (_ : mX9_longest_l4 d v1 v2 σ = some r), AW X p l e (RM 0 0 0) s m args below meth c 3 (ZM X below args s 0 0 (QMi f n r)) (rHm f σ) n 0 0 4 [some (.ref 181), some (.int v1), some (.int v2)] [] := by
  intro d
  induction d with
  | zero =>
    intro v1 v2 σ h
    exact nomatch (show (none : Option (Int32 × RS9)) = some r from h)
  | succ d ih =>
    intro v1 v2 σ h
    have h : (if (σ.1 33) ≤ v2 then some (v1, σ) else rCk (rIn v2 (rLen 42)) ((if (rGa σ 42 v2) ≤ v1 then mX9_longest_b29 (fun v1 v2 σ => mX9_longest_l4 d v1 v2 σ) v1 v2 σ else rCk (rIn v2 (rLen 42)) (mX9_longest_b29 (fun v1 v2 σ => mX9_longest_l4 d v1 v2 σ) (rGa σ 42 v2) v2 σ)))) = some r := h
    refine aw_iload_n C dX9_longest_4 rfl ?_
    refine aw_ald_n C dX9_longest_5 rfl ?_
    refine aw_get C (v := .int (σ.1 33)) gf_X9_204 (hm_M f σ) rfl dX9_longest_6 ?_
    refine aw_icmp_ge C 35 dX9_longest_9 (by decide) (fun q => ?_) (fun q => ?_)
    · rw [if_pos q] at h
      refine aw_iload_n C dX9_longest_35 rfl ?_
      cases h
      exact aw_iret C rfl rfl dX9_longest_36 (Nat.le_refl _) (Nat.le_refl _) ⟨rfl, rfl, rfl⟩
    · rw [if_neg q] at h
      refine aw_ald_n C dX9_longest_12 rfl ?_
      refine aw_get C (v := .ref (rAid 42)) gf_X9_105 (hm_M f σ) rfl dX9_longest_13 ?_
      refine aw_iload_n C dX9_longest_16 rfl ?_
      obtain ⟨hb1, h⟩ := ck_some h
      refine am_iald C (rGa σ 42 v2) rfl (inb_vp hb1) rfl dX9_longest_17 ?_
      refine aw_iload_n C dX9_longest_18 rfl ?_
      refine aw_icmp_le C 29 dX9_longest_19 (by decide) (fun q => ?_) (fun q => ?_)
      · rw [if_pos q] at h
        refine aw_fl [some (.ref 181), some (.int v1), some (.int v2)] ⟨rfl, ⟨rfl, ⟨rfl, trivial⟩⟩⟩ ?_
        exact rmX9_longest_b29 C (fun v1 v2 σ h => ih v1 v2 σ h) h
      · rw [if_neg q] at h
        refine aw_ald_n C dX9_longest_22 rfl ?_
        refine aw_get C (v := .ref (rAid 42)) gf_X9_105 (hm_M f σ) rfl dX9_longest_23 ?_
        refine aw_iload_n C dX9_longest_26 rfl ?_
        obtain ⟨hb2, h⟩ := ck_some h
        refine am_iald C (rGa σ 42 v2) rfl (inb_vp hb2) rfl dX9_longest_27 ?_
        refine aw_istore_n C dX9_longest_28 (by decide) rfl ?_
        refine aw_nl [some (.ref 181), some (.int (rGa σ 42 v2)), some (.int v2)] rfl ?_
        refine aw_fl [some (.ref 181), some (.int (rGa σ 42 v2)), some (.int v2)] ⟨rfl, ⟨rfl, ⟨rfl, trivial⟩⟩⟩ ?_
        exact rmX9_longest_b29 C (fun v1 v2 σ h => ih v1 v2 σ h) h
def mX9_longest (σ : RS9) : Option (Int32 × RS9) := mX9_longest_l4 rFU (0 : Int32) (0 : Int32) σ
set_option maxHeartbeats 1000000 in
theorem rmX9_longest {X : GX} {l : Launch} {f : AH} {n : Nat} {r : Int32 × RS9} {σ : RS9} (h : mX9_longest σ = some r) : AM X l yX9_longest cX9_longest 3 (some .int) 0 0 0 [.ref 181] (rHm f σ) n (QMi f n r) := by
  have h : mX9_longest_l4 rFU (0 : Int32) (0 : Int32) σ = some r := h
  refine AM.of (by decide +kernel) rfl (Nat.le_of_ble_eq_true rfl) (fun p e s m args below meth c C _ => ?_)
  refine aw_nl [some (.ref 181), none, none] rfl ?_
  refine aw_iconst C 0 dX9_longest_0 ki_0 ?_
  refine aw_istore_n C dX9_longest_1 (by decide) rfl ?_
  refine aw_nl [some (.ref 181), some (.int (0 : Int32)), none] rfl ?_
  refine aw_iconst C 0 dX9_longest_2 ki_0 ?_
  refine aw_istore_n C dX9_longest_3 (by decide) rfl ?_
  refine aw_nl [some (.ref 181), some (.int (0 : Int32)), some (.int (0 : Int32))] rfl ?_
  refine aw_fl [some (.ref 181), some (.int (0 : Int32)), some (.int (0 : Int32))] ⟨rfl, ⟨rfl, ⟨rfl, trivial⟩⟩⟩ ?_
  exact rmX9_longest_l4 C rFU (0 : Int32) (0 : Int32) σ h
end
/-! part 22ca.ref -/
section
def mX9_has_l30 : Nat → Nat → Int32 → Int32 → RS9 → Option (Int32 × RS9)
  | 0, _, _, _, _ => none
  | d + 1, v1, v2, v3, σ => (if (strL v1) ≤ v3 then rCk (rNb (1 : Int32)) (some ((1 : Int32), (rSf σ 11 v2))) else rCk (rIn ((σ.1 11) + v3) (rLen 8)) (rCk (rIn v3 (sL9.getD v1 0)) ((if (rGa σ 8 ((σ.1 11) + v3)) = (strC v1 v3) then mX9_has_l30 d v1 v2 (v3 + (1 : Int32)) σ else rCk (rNb (0 : Int32)) (some ((0 : Int32), σ))))))
set_option maxHeartbeats 1000000 in
theorem rmX9_has_l30 {X : GX} {p : Program} {l : Launch} {e : Env} {s : State} {m : MethodId} {args : Array Value} {below : List Frame} {meth : Method} {c : Code} {f : AH} {n : Nat} {r : Int32 × RS9} (C : CC X p l (RM 4 0 0) s m args meth c RX9 cX9_has 4 (some .boolean)) : ∀ (d : Nat) (v1 : Nat) (v2 : Int32) (v3 : Int32) (σ : RS9) (_ : v1 < 15) (_ : mX9_has_l30 d v1 v2 v3 σ = some r), AW X p l e (RM 4 0 0) s m args below meth c 4 (ZM X below args s 0 0 (QMi f n r)) (rHm f σ) n 0 0 30 [some (.ref 181), some (.retAddr (X.2.2 (1000 + v1))), some (.int v2), some (.int v3)] [] := by
  intro d
  induction d with
  | zero =>
    intro v1 v2 v3 σ is1 h
    exact nomatch (show (none : Option (Int32 × RS9)) = some r from h)
  | succ d ih =>
    intro v1 v2 v3 σ is1 h
    have h : (if (strL v1) ≤ v3 then rCk (rNb (1 : Int32)) (some ((1 : Int32), (rSf σ 11 v2))) else rCk (rIn ((σ.1 11) + v3) (rLen 8)) (rCk (rIn v3 (sL9.getD v1 0)) ((if (rGa σ 8 ((σ.1 11) + v3)) = (strC v1 v3) then mX9_has_l30 d v1 v2 (v3 + (1 : Int32)) σ else rCk (rNb (0 : Int32)) (some ((0 : Int32), σ)))))) = some r := h
    refine aw_iload_n C dX9_has_30 rfl ?_
    refine aw_raw_n C dX9_has_31 rfl ?_
    refine am_slen C is1 dX9_has_32 (Nat.le_of_ble_eq_true rfl) (Nat.le_of_ble_eq_true rfl) (Nat.le_of_ble_eq_true rfl) (Nat.le_of_ble_eq_true rfl) (Nat.le_of_ble_eq_true rfl) ?_
    refine aw_icmp_ge C 65 dX9_has_35 (by decide) (fun q => ?_) (fun q => ?_)
    · rw [if_pos q] at h
      refine aw_ald_n C dX9_has_65 rfl ?_
      refine aw_iload_n C dX9_has_66 rfl ?_
      refine am_put C gf_X9_340 nf9_11 rfl rfl dX9_has_67 ?_
      refine aw_iconst C 1 dX9_has_70 ki_1 ?_
      obtain ⟨hb2, h⟩ := ck_some h
      cases h
      exact aw_iret C rfl (nb_nar hb2) dX9_has_71 (Nat.le_refl _) (Nat.le_refl _) ⟨rfl, rfl, rfl⟩
    · rw [if_neg q] at h
      refine aw_ald_n C dX9_has_38 rfl ?_
      refine aw_get C (v := .ref (rAid 8)) gf_X9_23 (hm_M f σ) rfl dX9_has_39 ?_
      refine aw_ald_n C dX9_has_42 rfl ?_
      refine aw_get C (v := .int (σ.1 11)) gf_X9_340 (hm_M f σ) rfl dX9_has_43 ?_
      refine aw_iload_n C dX9_has_46 rfl ?_
      refine aw_iadd C dX9_has_47 ?_
      obtain ⟨hb3, h⟩ := ck_some h
      refine am_iald C (rGa σ 8 ((σ.1 11) + v3)) rfl (inb_vp hb3) rfl dX9_has_48 ?_
      refine aw_raw_n C dX9_has_49 rfl ?_
      refine aw_iload_n C dX9_has_50 rfl ?_
      obtain ⟨hb5, h⟩ := ck_some h
      refine am_schr C is1 hb5 dX9_has_51 (Nat.le_of_ble_eq_true rfl) (Nat.le_of_ble_eq_true rfl) (Nat.le_of_ble_eq_true rfl) (Nat.le_of_ble_eq_true rfl) (Nat.le_of_ble_eq_true rfl) ?_
      refine aw_icmp_eq C 59 dX9_has_54 (by decide) (fun q => ?_) (fun q => ?_)
      · rw [if_pos q] at h
        refine aw_iinc C (v3 + (1 : Int32)) dX9_has_59 rfl (by rw [ki_1]) (by decide) rfl ?_
        refine aw_nl [some (.ref 181), some (.retAddr (X.2.2 (1000 + v1))), some (.int v2), some (.int (v3 + (1 : Int32)))] rfl ?_
        refine aw_goto C 30 dX9_has_62 (by decide) ?_
        refine aw_fl [some (.ref 181), some (.retAddr (X.2.2 (1000 + v1))), some (.int v2), some (.int (v3 + (1 : Int32)))] ⟨rfl, ⟨rfl, ⟨rfl, ⟨rfl, trivial⟩⟩⟩⟩ ?_
        exact ih v1 v2 (v3 + (1 : Int32)) σ is1 h
      · rw [if_neg q] at h
        refine aw_iconst C 0 dX9_has_57 ki_0 ?_
        obtain ⟨hb6, h⟩ := ck_some h
        cases h
        exact aw_iret C rfl (nb_nar hb6) dX9_has_58 (Nat.le_refl _) (Nat.le_refl _) ⟨rfl, rfl, rfl⟩
def mX9_has_b26 (σ : RS9) : Option (Int32 × RS9) := rCk (rNb (0 : Int32)) (some ((0 : Int32), σ))
set_option maxHeartbeats 1000000 in
theorem rmX9_has_b26 {X : GX} {p : Program} {l : Launch} {e : Env} {s : State} {m : MethodId} {args : Array Value} {below : List Frame} {meth : Method} {c : Code} {f : AH} {n : Nat} {r : Int32 × RS9} {σ : RS9} (C : CC X p l (RM 4 0 0) s m args meth c RX9 cX9_has 4 (some .boolean)) (h : mX9_has_b26 σ = some r) : AW X p l e (RM 4 0 0) s m args below meth c 4 (ZM X below args s 0 0 (QMi f n r)) (rHm f σ) n 0 0 26 [none, none, none, none] [] := by
  have h : rCk (rNb (0 : Int32)) (some ((0 : Int32), σ)) = some r := h
  refine aw_iconst C 0 dX9_has_26 ki_0 ?_
  obtain ⟨hb1, h⟩ := ck_some h
  cases h
  exact aw_iret C rfl (nb_nar hb1) dX9_has_27 (Nat.le_refl _) (Nat.le_refl _) ⟨rfl, rfl, rfl⟩
def mX9_has (v1 : Nat) (σ : RS9) : Option (Int32 × RS9) := ((mX9_wordEnd σ).bind fun r1 => (if (r1.2.1 12) = (-1 : Int32) then (if (r1.1 - (r1.2.1 11)) = (strL v1) then mX9_has_l30 rFU v1 r1.1 (0 : Int32) r1.2 else mX9_has_b26 r1.2) else mX9_has_b26 r1.2))
set_option maxHeartbeats 1000000 in
theorem rmX9_has {X : GX} {l : Launch} {f : AH} {n : Nat} {r : Int32 × RS9} {v1 : Nat} {σ : RS9} (is1 : v1 < 15) (h : mX9_has v1 σ = some r) : AM X l yX9_has cX9_has 4 (some .boolean) 4 0 0 [.ref 181, .retAddr (X.2.2 (1000 + v1))] (rHm f σ) n (QMi f n r) := by
  have h : ((mX9_wordEnd σ).bind fun r1 => (if (r1.2.1 12) = (-1 : Int32) then (if (r1.1 - (r1.2.1 11)) = (strL v1) then mX9_has_l30 rFU v1 r1.1 (0 : Int32) r1.2 else mX9_has_b26 r1.2) else mX9_has_b26 r1.2)) = some r := h
  refine AM.of (by decide +kernel) rfl (Nat.le_of_ble_eq_true rfl) (fun p e s m args below meth c C _ => ?_)
  refine aw_nl [some (.ref 181), some (.retAddr (X.2.2 (1000 + v1))), none, none] rfl ?_
  refine aw_ald_n C dX9_has_0 rfl ?_
  obtain ⟨r1, h1, h⟩ := Option.bind_eq_some_iff.mp h
  refine aw_callV C (ci := 9) (b := 181) [] mv_X9_349 rfl rfl (hm_M f σ) (rmX9_wordEnd h1) rfl dX9_has_1 (Nat.le_of_ble_eq_true rfl) (Nat.le_of_ble_eq_true rfl) rfl (Nat.le_of_ble_eq_true rfl) (Nat.le_of_ble_eq_true rfl) (Nat.le_of_ble_eq_true rfl) (fun v9 f9 n9 hh => ?_)
  obtain ⟨rfl, rfl, rfl⟩ := hh
  refine aw_istore_n C dX9_has_4 (by decide) rfl ?_
  refine aw_nl [some (.ref 181), some (.retAddr (X.2.2 (1000 + v1))), some (.int r1.1), none] rfl ?_
  refine aw_ald_n C dX9_has_5 rfl ?_
  refine aw_get C (v := .int (r1.2.1 12)) gf_X9_26 (hm_M f r1.2) rfl dX9_has_6 ?_
  refine aw_iconst C (-1) dX9_has_9 ki_m1 ?_
  refine aw_icmp_ne C 26 dX9_has_10 (by decide) (fun q => ?_) (fun q => ?_)
  · rw [if_neg q] at h
    refine aw_fl [none, none, none, none] trivial ?_
    exact rmX9_has_b26 C h
  · rw [if_pos q] at h
    refine aw_iload_n C dX9_has_13 rfl ?_
    refine aw_ald_n C dX9_has_14 rfl ?_
    refine aw_get C (v := .int (r1.2.1 11)) gf_X9_340 (hm_M f r1.2) rfl dX9_has_15 ?_
    refine aw_isub C dX9_has_18 ?_
    refine aw_raw_n C dX9_has_19 rfl ?_
    refine am_slen C is1 dX9_has_20 (Nat.le_of_ble_eq_true rfl) (Nat.le_of_ble_eq_true rfl) (Nat.le_of_ble_eq_true rfl) (Nat.le_of_ble_eq_true rfl) (Nat.le_of_ble_eq_true rfl) ?_
    refine aw_icmp_eq C 28 dX9_has_23 (by decide) (fun q => ?_) (fun q => ?_)
    · rw [if_pos q] at h
      refine aw_iconst C 0 dX9_has_28 ki_0 ?_
      refine aw_istore_n C dX9_has_29 (by decide) rfl ?_
      refine aw_nl [some (.ref 181), some (.retAddr (X.2.2 (1000 + v1))), some (.int r1.1), some (.int (0 : Int32))] rfl ?_
      refine aw_fl [some (.ref 181), some (.retAddr (X.2.2 (1000 + v1))), some (.int r1.1), some (.int (0 : Int32))] ⟨rfl, ⟨rfl, ⟨rfl, ⟨rfl, trivial⟩⟩⟩⟩ ?_
      exact rmX9_has_l30 C rFU v1 r1.1 (0 : Int32) r1.2 is1 h
    · rw [if_neg q] at h
      refine aw_fl [none, none, none, none] trivial ?_
      exact rmX9_has_b26 C h
def mX9_stands_l15 : Nat → Nat → Int32 → Nat → Int32 → RS9 → Option (Int32 × RS9)
  | 0, _, _, _, _, _ => none
  | d + 1, v0, v1, v3, v4, σ => (if (strL v3) ≤ v4 then rCk (rNb (1 : Int32)) (some ((1 : Int32), σ)) else rCk (rIn (v1 + v4) (rLen v0)) (rCk (rIn v4 (sL9.getD v3 0)) ((if (rGa σ v0 (v1 + v4)) = (strC v3 v4) then mX9_stands_l15 d v0 v1 v3 (v4 + (1 : Int32)) σ else rCk (rNb (0 : Int32)) (some ((0 : Int32), σ))))))
set_option maxHeartbeats 1000000 in
theorem rmX9_stands_l15 {X : GX} {p : Program} {l : Launch} {e : Env} {s : State} {m : MethodId} {args : Array Value} {below : List Frame} {meth : Method} {c : Code} {f : AH} {n : Nat} {r : Int32 × RS9} (C : CC X p l (RM 4 0 0) s m args meth c RX9 cX9_stands 5 (some .boolean)) : ∀ (d : Nat) (v0 : Nat) (v1 : Int32) (v3 : Nat) (v4 : Int32) (σ : RS9) (_ : rIsA v0 = true) (_ : v3 < 15) (_ : mX9_stands_l15 d v0 v1 v3 v4 σ = some r), AW X p l e (RM 4 0 0) s m args below meth c 5 (ZM X below args s 0 0 (QMi f n r)) (rHm f σ) n 0 0 15 [some (.ref (rAid v0)), some (.int v1), none, some (.retAddr (X.2.2 (1000 + v3))), some (.int v4)] [] := by
  intro d
  induction d with
  | zero =>
    intro v0 v1 v3 v4 σ ia0 is3 h
    exact nomatch (show (none : Option (Int32 × RS9)) = some r from h)
  | succ d ih =>
    intro v0 v1 v3 v4 σ ia0 is3 h
    have h : (if (strL v3) ≤ v4 then rCk (rNb (1 : Int32)) (some ((1 : Int32), σ)) else rCk (rIn (v1 + v4) (rLen v0)) (rCk (rIn v4 (sL9.getD v3 0)) ((if (rGa σ v0 (v1 + v4)) = (strC v3 v4) then mX9_stands_l15 d v0 v1 v3 (v4 + (1 : Int32)) σ else rCk (rNb (0 : Int32)) (some ((0 : Int32), σ)))))) = some r := h
    refine aw_iload C dX9_stands_15 rfl ?_
    refine aw_raw_n C dX9_stands_17 rfl ?_
    refine am_slen C is3 dX9_stands_18 (Nat.le_of_ble_eq_true rfl) (Nat.le_of_ble_eq_true rfl) (Nat.le_of_ble_eq_true rfl) (Nat.le_of_ble_eq_true rfl) (Nat.le_of_ble_eq_true rfl) ?_
    refine aw_icmp_ge C 47 dX9_stands_21 (by decide) (fun q => ?_) (fun q => ?_)
    · rw [if_pos q] at h
      refine aw_iconst C 1 dX9_stands_47 ki_1 ?_
      obtain ⟨hb2, h⟩ := ck_some h
      cases h
      exact aw_iret C rfl (nb_nar hb2) dX9_stands_48 (Nat.le_refl _) (Nat.le_refl _) ⟨rfl, rfl, rfl⟩
    · rw [if_neg q] at h
      refine aw_ald_n C dX9_stands_24 rfl ?_
      refine aw_iload_n C dX9_stands_25 rfl ?_
      refine aw_iload C dX9_stands_26 rfl ?_
      refine aw_iadd C dX9_stands_28 ?_
      obtain ⟨hb3, h⟩ := ck_some h
      refine am_iald C (rGa σ v0 (v1 + v4)) ia0 (inb_vp hb3) rfl dX9_stands_29 ?_
      refine aw_raw_n C dX9_stands_30 rfl ?_
      refine aw_iload C dX9_stands_31 rfl ?_
      obtain ⟨hb5, h⟩ := ck_some h
      refine am_schr C is3 hb5 dX9_stands_33 (Nat.le_of_ble_eq_true rfl) (Nat.le_of_ble_eq_true rfl) (Nat.le_of_ble_eq_true rfl) (Nat.le_of_ble_eq_true rfl) (Nat.le_of_ble_eq_true rfl) ?_
      refine aw_icmp_eq C 41 dX9_stands_36 (by decide) (fun q => ?_) (fun q => ?_)
      · rw [if_pos q] at h
        refine aw_iinc C (v4 + (1 : Int32)) dX9_stands_41 rfl (by rw [ki_1]) (by decide) rfl ?_
        refine aw_nl [some (.ref (rAid v0)), some (.int v1), none, some (.retAddr (X.2.2 (1000 + v3))), some (.int (v4 + (1 : Int32)))] rfl ?_
        refine aw_goto C 15 dX9_stands_44 (by decide) ?_
        refine aw_fl [some (.ref (rAid v0)), some (.int v1), none, some (.retAddr (X.2.2 (1000 + v3))), some (.int (v4 + (1 : Int32)))] ⟨rfl, ⟨rfl, ⟨rfl, ⟨rfl, trivial⟩⟩⟩⟩ ?_
        exact ih v0 v1 v3 (v4 + (1 : Int32)) σ ia0 is3 h
      · rw [if_neg q] at h
        refine aw_iconst C 0 dX9_stands_39 ki_0 ?_
        obtain ⟨hb6, h⟩ := ck_some h
        cases h
        exact aw_iret C rfl (nb_nar hb6) dX9_stands_40 (Nat.le_refl _) (Nat.le_refl _) ⟨rfl, rfl, rfl⟩
def mX9_stands (v0 : Nat) (v1 : Int32) (v2 : Int32) (v3 : Nat) (σ : RS9) : Option (Int32 × RS9) := (if (strL v3) ≤ (v2 - v1) then mX9_stands_l15 rFU v0 v1 v3 (0 : Int32) σ else rCk (rNb (0 : Int32)) (some ((0 : Int32), σ)))
set_option maxHeartbeats 1000000 in
theorem rmX9_stands {X : GX} {l : Launch} {f : AH} {n : Nat} {r : Int32 × RS9} {v0 : Nat} {v1 : Int32} {v2 : Int32} {v3 : Nat} {σ : RS9} (ia0 : rIsA v0 = true) (is3 : v3 < 15) (h : mX9_stands v0 v1 v2 v3 σ = some r) : AM X l yX9_stands cX9_stands 5 (some .boolean) 4 0 0 [.ref (rAid v0), .int v1, .int v2, .retAddr (X.2.2 (1000 + v3))] (rHm f σ) n (QMi f n r) := by
  have h : (if (strL v3) ≤ (v2 - v1) then mX9_stands_l15 rFU v0 v1 v3 (0 : Int32) σ else rCk (rNb (0 : Int32)) (some ((0 : Int32), σ))) = some r := h
  refine AM.of (by decide +kernel) rfl (Nat.le_of_ble_eq_true rfl) (fun p e s m args below meth c C _ => ?_)
  refine aw_nl [some (.ref (rAid v0)), some (.int v1), some (.int v2), some (.retAddr (X.2.2 (1000 + v3))), none] rfl ?_
  refine aw_iload_n C dX9_stands_0 rfl ?_
  refine aw_iload_n C dX9_stands_1 rfl ?_
  refine aw_isub C dX9_stands_2 ?_
  refine aw_raw_n C dX9_stands_3 rfl ?_
  refine am_slen C is3 dX9_stands_4 (Nat.le_of_ble_eq_true rfl) (Nat.le_of_ble_eq_true rfl) (Nat.le_of_ble_eq_true rfl) (Nat.le_of_ble_eq_true rfl) (Nat.le_of_ble_eq_true rfl) ?_
  refine aw_icmp_ge C 12 dX9_stands_7 (by decide) (fun q => ?_) (fun q => ?_)
  · rw [if_pos q] at h
    refine aw_iconst C 0 dX9_stands_12 ki_0 ?_
    refine aw_istore C dX9_stands_13 (by decide) rfl ?_
    refine aw_nl [some (.ref (rAid v0)), some (.int v1), some (.int v2), some (.retAddr (X.2.2 (1000 + v3))), some (.int (0 : Int32))] rfl ?_
    refine aw_fl [some (.ref (rAid v0)), some (.int v1), none, some (.retAddr (X.2.2 (1000 + v3))), some (.int (0 : Int32))] ⟨rfl, ⟨rfl, ⟨rfl, ⟨rfl, trivial⟩⟩⟩⟩ ?_
    exact rmX9_stands_l15 C rFU v0 v1 v3 (0 : Int32) σ ia0 is3 h
  · rw [if_neg q] at h
    refine aw_iconst C 0 dX9_stands_10 ki_0 ?_
    obtain ⟨hb2, h⟩ := ck_some h
    cases h
    exact aw_iret C rfl (nb_nar hb2) dX9_stands_11 (Nat.le_refl _) (Nat.le_refl _) ⟨rfl, rfl, rfl⟩
def mX9_means_b166 (s0 : Int32) (σ : RS9) : Option (Int32 × RS9) := (if s0 = (-1 : Int32) then some ((1 : Int32), σ) else some ((2 : Int32), (rSf σ 55 s0)))
set_option maxHeartbeats 1000000 in
theorem rmX9_means_b166 {X : GX} {p : Program} {l : Launch} {e : Env} {s : State} {m : MethodId} {args : Array Value} {below : List Frame} {meth : Method} {c : Code} {f : AH} {n : Nat} {r : Int32 × RS9} {s0 : Int32} {σ : RS9} (C : CC X p l (RM 5 0 0) s m args meth c RX9 cX9_means 7 (some .int)) (h : mX9_means_b166 s0 σ = some r) : AW X p l e (RM 5 0 0) s m args below meth c 7 (ZM X below args s 0 0 (QMi f n r)) (rHm f σ) n 0 0 166 [some (.ref 181), none, none, none, none, none, none] [.int s0] := by
  have h : (if s0 = (-1 : Int32) then some ((1 : Int32), σ) else some ((2 : Int32), (rSf σ 55 s0))) = some r := h
  refine aw_istore C dX9_means_166 (by decide) rfl ?_
  refine aw_nl [some (.ref 181), none, none, none, none, none, some (.int s0)] rfl ?_
  refine aw_iload C dX9_means_168 rfl ?_
  refine aw_iconst C (-1) dX9_means_170 ki_m1 ?_
  refine aw_icmp_ne C 176 dX9_means_171 (by decide) (fun q => ?_) (fun q => ?_)
  · rw [if_neg q] at h
    refine aw_ald_n C dX9_means_176 rfl ?_
    refine aw_iload C dX9_means_177 rfl ?_
    refine am_put C gf_X9_183 nf9_55 rfl rfl dX9_means_179 ?_
    refine aw_iconst C 2 dX9_means_182 ki_2 ?_
    cases h
    exact aw_iret C rfl rfl dX9_means_183 (Nat.le_refl _) (Nat.le_refl _) ⟨rfl, rfl, rfl⟩
  · rw [if_pos q] at h
    refine aw_iconst C 1 dX9_means_174 ki_1 ?_
    cases h
    exact aw_iret C rfl rfl dX9_means_175 (Nat.le_refl _) (Nat.le_refl _) ⟨rfl, rfl, rfl⟩
def mX9_means_b165 (σ : RS9) : Option (Int32 × RS9) := mX9_means_b166 (-1 : Int32) σ
set_option maxHeartbeats 1000000 in
theorem rmX9_means_b165 {X : GX} {p : Program} {l : Launch} {e : Env} {s : State} {m : MethodId} {args : Array Value} {below : List Frame} {meth : Method} {c : Code} {f : AH} {n : Nat} {r : Int32 × RS9} {σ : RS9} (C : CC X p l (RM 5 0 0) s m args meth c RX9 cX9_means 7 (some .int)) (h : mX9_means_b165 σ = some r) : AW X p l e (RM 5 0 0) s m args below meth c 7 (ZM X below args s 0 0 (QMi f n r)) (rHm f σ) n 0 0 165 [some (.ref 181), none, none, none, none, none, none] [] := by
  have h : mX9_means_b166 (-1 : Int32) σ = some r := h
  refine aw_iconst C (-1) dX9_means_165 ki_m1 ?_
  refine aw_fl [some (.ref 181), none, none, none, none, none, none] ⟨rfl, trivial⟩ ?_
  exact rmX9_means_b166 C h
def mX9_means_b132 (s0 : Int32) (σ : RS9) : Option (Int32 × RS9) := some (s0, σ)
set_option maxHeartbeats 1000000 in
theorem rmX9_means_b132 {X : GX} {p : Program} {l : Launch} {e : Env} {s : State} {m : MethodId} {args : Array Value} {below : List Frame} {meth : Method} {c : Code} {f : AH} {n : Nat} {r : Int32 × RS9} {s0 : Int32} {σ : RS9} (C : CC X p l (RM 5 0 0) s m args meth c RX9 cX9_means 7 (some .int)) (h : mX9_means_b132 s0 σ = some r) : AW X p l e (RM 5 0 0) s m args below meth c 7 (ZM X below args s 0 0 (QMi f n r)) (rHm f σ) n 0 0 132 [none, none, none, none, none, none, none] [.int s0] := by
  have h : some (s0, σ) = some r := h
  cases h
  exact aw_iret C rfl rfl dX9_means_132 (Nat.le_refl _) (Nat.le_refl _) ⟨rfl, rfl, rfl⟩
def mX9_means_b116 (v3 : Nat) (v4 : Int32) (σ : RS9) : Option (Int32 × RS9) := rCk (rIn v4 (rLen v3)) ((if (σ.1 55) = (rGa σ v3 v4) then mX9_means_b132 (1 : Int32) σ else mX9_means_b132 (4 : Int32) σ))
set_option maxHeartbeats 1000000 in
theorem rmX9_means_b116 {X : GX} {p : Program} {l : Launch} {e : Env} {s : State} {m : MethodId} {args : Array Value} {below : List Frame} {meth : Method} {c : Code} {f : AH} {n : Nat} {r : Int32 × RS9} {v3 : Nat} {v4 : Int32} {σ : RS9} (C : CC X p l (RM 5 0 0) s m args meth c RX9 cX9_means 7 (some .int)) (ia3 : rIsA v3 = true) (h : mX9_means_b116 v3 v4 σ = some r) : AW X p l e (RM 5 0 0) s m args below meth c 7 (ZM X below args s 0 0 (QMi f n r)) (rHm f σ) n 0 0 116 [some (.ref 181), none, none, some (.ref (rAid v3)), some (.int v4), none, none] [] := by
  have h : rCk (rIn v4 (rLen v3)) ((if (σ.1 55) = (rGa σ v3 v4) then mX9_means_b132 (1 : Int32) σ else mX9_means_b132 (4 : Int32) σ)) = some r := h
  refine aw_ald_n C dX9_means_116 rfl ?_
  refine aw_get C (v := .int (σ.1 55)) gf_X9_183 (hm_M f σ) rfl dX9_means_117 ?_
  refine aw_ald_n C dX9_means_120 rfl ?_
  refine aw_iload C dX9_means_121 rfl ?_
  obtain ⟨hb1, h⟩ := ck_some h
  refine am_iald C (rGa σ v3 v4) ia3 (inb_vp hb1) rfl dX9_means_123 ?_
  refine aw_icmp_eq C 131 dX9_means_124 (by decide) (fun q => ?_) (fun q => ?_)
  · rw [if_pos q] at h
    refine aw_iconst C 1 dX9_means_131 ki_1 ?_
    refine aw_fl [none, none, none, none, none, none, none] trivial ?_
    exact rmX9_means_b132 C h
  · rw [if_neg q] at h
    refine aw_iconst C 4 dX9_means_127 ki_4 ?_
    refine aw_goto C 132 dX9_means_128 (by decide) ?_
    refine aw_fl [none, none, none, none, none, none, none] trivial ?_
    exact rmX9_means_b132 C h
def mX9_means_b51 (s0 : Int32) (σ : RS9) : Option (Int32 × RS9) := some (s0, σ)
set_option maxHeartbeats 1000000 in
theorem rmX9_means_b51 {X : GX} {p : Program} {l : Launch} {e : Env} {s : State} {m : MethodId} {args : Array Value} {below : List Frame} {meth : Method} {c : Code} {f : AH} {n : Nat} {r : Int32 × RS9} {s0 : Int32} {σ : RS9} (C : CC X p l (RM 5 0 0) s m args meth c RX9 cX9_means 7 (some .int)) (h : mX9_means_b51 s0 σ = some r) : AW X p l e (RM 5 0 0) s m args below meth c 7 (ZM X below args s 0 0 (QMi f n r)) (rHm f σ) n 0 0 51 [none, none, none, none, none, none, none] [.int s0] := by
  have h : some (s0, σ) = some r := h
  cases h
  exact aw_iret C rfl rfl dX9_means_51 (Nat.le_refl _) (Nat.le_refl _) ⟨rfl, rfl, rfl⟩
def mX9_means_b50 (σ : RS9) : Option (Int32 × RS9) := mX9_means_b51 (1 : Int32) σ
set_option maxHeartbeats 1000000 in
theorem rmX9_means_b50 {X : GX} {p : Program} {l : Launch} {e : Env} {s : State} {m : MethodId} {args : Array Value} {below : List Frame} {meth : Method} {c : Code} {f : AH} {n : Nat} {r : Int32 × RS9} {σ : RS9} (C : CC X p l (RM 5 0 0) s m args meth c RX9 cX9_means 7 (some .int)) (h : mX9_means_b50 σ = some r) : AW X p l e (RM 5 0 0) s m args below meth c 7 (ZM X below args s 0 0 (QMi f n r)) (rHm f σ) n 0 0 50 [none, none, none, none, none, none, none] [] := by
  have h : mX9_means_b51 (1 : Int32) σ = some r := h
  refine aw_iconst C 1 dX9_means_50 ki_1 ?_
  refine aw_fl [none, none, none, none, none, none, none] trivial ?_
  exact rmX9_means_b51 C h
def mX9_means (v1 : Int32) (v2 : Int32) (v3 : Nat) (v4 : Int32) (v5 : Int32) (σ : RS9) : Option (Int32 × RS9) := rCk (rIn v4 (rLen v3)) ((if v1 = (1 : Int32) then (if v2 = (0 : Int32) then mX9_means_b50 (rSf σ 55 (rGa σ v3 v4)) else rCk (rIn v4 (rLen v3)) ((if (rGa σ v3 v4) = (34 : Int32) then (if v5 ≤ (v4 + (1 : Int32)) then mX9_means_b50 (rSf σ 55 (rGa σ v3 v4)) else rCk (rIn (v4 + (1 : Int32)) (rLen v3)) ((if (rGa σ v3 (v4 + (1 : Int32))) = (34 : Int32) then mX9_means_b51 (2 : Int32) (rSf σ 55 (rGa σ v3 v4)) else mX9_means_b50 (rSf σ 55 (rGa σ v3 v4))))) else mX9_means_b50 (rSf σ 55 (rGa σ v3 v4))))) else (if v1 = (2 : Int32) then ((mX9_stands v3 v4 v5 0 (rSf σ 55 (rGa σ v3 v4))).bind fun r5 => (if r5.1 = (0 : Int32) then ((mX9_stands v3 v4 v5 1 r5.2).bind fun r6 => (if r6.1 = (0 : Int32) then ((mX9_stands v3 v4 v5 2 r6.2).bind fun r7 => (if r7.1 = (0 : Int32) then mX9_means_b116 v3 v4 r7.2 else some ((5 : Int32), r7.2))) else mX9_means_b116 v3 v4 (rSf r6.2 55 (62 : Int32)))) else mX9_means_b116 v3 v4 (rSf r5.2 55 (60 : Int32)))) else rCk (rIn v4 (rLen v3)) ((if (rGa σ v3 v4) = (92 : Int32) then (if v5 ≤ (v4 + (1 : Int32)) then mX9_means_b165 (rSf σ 55 (rGa σ v3 v4)) else rCk (rIn (v4 + (1 : Int32)) (rLen v3)) (((mX9_backMeaning v1 (rGa σ v3 (v4 + (1 : Int32))) (rSf σ 55 (rGa σ v3 v4))).bind fun r4 => mX9_means_b166 r4.1 r4.2))) else mX9_means_b165 (rSf σ 55 (rGa σ v3 v4)))))))
set_option maxHeartbeats 1000000 in
theorem rmX9_means {X : GX} {l : Launch} {f : AH} {n : Nat} {r : Int32 × RS9} {v1 : Int32} {v2 : Int32} {v3 : Nat} {v4 : Int32} {v5 : Int32} {σ : RS9} (ia3 : rIsA v3 = true) (h : mX9_means v1 v2 v3 v4 v5 σ = some r) : AM X l yX9_means cX9_means 7 (some .int) 5 0 0 [.ref 181, .int v1, .int v2, .ref (rAid v3), .int v4, .int v5] (rHm f σ) n (QMi f n r) := by
  have h : rCk (rIn v4 (rLen v3)) ((if v1 = (1 : Int32) then (if v2 = (0 : Int32) then mX9_means_b50 (rSf σ 55 (rGa σ v3 v4)) else rCk (rIn v4 (rLen v3)) ((if (rGa σ v3 v4) = (34 : Int32) then (if v5 ≤ (v4 + (1 : Int32)) then mX9_means_b50 (rSf σ 55 (rGa σ v3 v4)) else rCk (rIn (v4 + (1 : Int32)) (rLen v3)) ((if (rGa σ v3 (v4 + (1 : Int32))) = (34 : Int32) then mX9_means_b51 (2 : Int32) (rSf σ 55 (rGa σ v3 v4)) else mX9_means_b50 (rSf σ 55 (rGa σ v3 v4))))) else mX9_means_b50 (rSf σ 55 (rGa σ v3 v4))))) else (if v1 = (2 : Int32) then ((mX9_stands v3 v4 v5 0 (rSf σ 55 (rGa σ v3 v4))).bind fun r5 => (if r5.1 = (0 : Int32) then ((mX9_stands v3 v4 v5 1 r5.2).bind fun r6 => (if r6.1 = (0 : Int32) then ((mX9_stands v3 v4 v5 2 r6.2).bind fun r7 => (if r7.1 = (0 : Int32) then mX9_means_b116 v3 v4 r7.2 else some ((5 : Int32), r7.2))) else mX9_means_b116 v3 v4 (rSf r6.2 55 (62 : Int32)))) else mX9_means_b116 v3 v4 (rSf r5.2 55 (60 : Int32)))) else rCk (rIn v4 (rLen v3)) ((if (rGa σ v3 v4) = (92 : Int32) then (if v5 ≤ (v4 + (1 : Int32)) then mX9_means_b165 (rSf σ 55 (rGa σ v3 v4)) else rCk (rIn (v4 + (1 : Int32)) (rLen v3)) (((mX9_backMeaning v1 (rGa σ v3 (v4 + (1 : Int32))) (rSf σ 55 (rGa σ v3 v4))).bind fun r4 => mX9_means_b166 r4.1 r4.2))) else mX9_means_b165 (rSf σ 55 (rGa σ v3 v4))))))) = some r := h
  refine AM.of (by decide +kernel) rfl (Nat.le_of_ble_eq_true rfl) (fun p e s m args below meth c C _ => ?_)
  refine aw_nl [some (.ref 181), some (.int v1), some (.int v2), some (.ref (rAid v3)), some (.int v4), some (.int v5), none] rfl ?_
  refine aw_ald_n C dX9_means_0 rfl ?_
  refine aw_ald_n C dX9_means_1 rfl ?_
  refine aw_iload C dX9_means_2 rfl ?_
  obtain ⟨hb1, h⟩ := ck_some h
  refine am_iald C (rGa σ v3 v4) ia3 (inb_vp hb1) rfl dX9_means_4 ?_
  refine am_put C gf_X9_183 nf9_55 rfl rfl dX9_means_5 ?_
  refine aw_iload_n C dX9_means_8 rfl ?_
  refine aw_iconst C 1 dX9_means_9 ki_1 ?_
  refine aw_icmp_ne C 52 dX9_means_10 (by decide) (fun q => ?_) (fun q => ?_)
  · rw [if_neg q] at h
    refine aw_iload_n C dX9_means_52 rfl ?_
    refine aw_iconst C 2 dX9_means_53 ki_2 ?_
    refine aw_icmp_ne C 133 dX9_means_54 (by decide) (fun q => ?_) (fun q => ?_)
    · rw [if_neg q] at h
      refine aw_ald_n C dX9_means_133 rfl ?_
      refine aw_iload C dX9_means_134 rfl ?_
      obtain ⟨hb2, h⟩ := ck_some h
      refine am_iald C (rGa σ v3 v4) ia3 (inb_vp hb2) rfl dX9_means_136 ?_
      refine aw_bipush C 92 dX9_means_137 kb_92 ?_
      refine aw_icmp_ne C 165 dX9_means_139 (by decide) (fun q => ?_) (fun q => ?_)
      · rw [if_neg q] at h
        refine aw_fl [some (.ref 181), none, none, none, none, none, none] ⟨rfl, trivial⟩ ?_
        exact rmX9_means_b165 C h
      · rw [if_pos q] at h
        refine aw_iload C dX9_means_142 rfl ?_
        refine aw_iconst C 1 dX9_means_144 ki_1 ?_
        refine aw_iadd C dX9_means_145 ?_
        refine aw_iload C dX9_means_146 rfl ?_
        refine aw_icmp_ge C 165 dX9_means_148 (by decide) (fun q => ?_) (fun q => ?_)
        · rw [if_pos q] at h
          refine aw_fl [some (.ref 181), none, none, none, none, none, none] ⟨rfl, trivial⟩ ?_
          exact rmX9_means_b165 C h
        · rw [if_neg q] at h
          refine aw_ald_n C dX9_means_151 rfl ?_
          refine aw_iload_n C dX9_means_152 rfl ?_
          refine aw_ald_n C dX9_means_153 rfl ?_
          refine aw_iload C dX9_means_154 rfl ?_
          refine aw_iconst C 1 dX9_means_156 ki_1 ?_
          refine aw_iadd C dX9_means_157 ?_
          obtain ⟨hb3, h⟩ := ck_some h
          refine am_iald C (rGa σ v3 (v4 + (1 : Int32))) ia3 (inb_vp hb3) rfl dX9_means_158 ?_
          obtain ⟨r4, h4, h⟩ := Option.bind_eq_some_iff.mp h
          refine aw_callV C (ci := 9) (b := 181) [.int v1, .int (rGa σ v3 (v4 + (1 : Int32)))] mv_X9_196 rfl rfl (hm_M f (rSf σ 55 (rGa σ v3 v4))) (rmX9_backMeaning h4) rfl dX9_means_159 (Nat.le_of_ble_eq_true rfl) (Nat.le_of_ble_eq_true rfl) rfl (Nat.le_of_ble_eq_true rfl) (Nat.le_of_ble_eq_true rfl) (Nat.le_of_ble_eq_true rfl) (fun v9 f9 n9 hh => ?_)
          obtain ⟨rfl, rfl, rfl⟩ := hh
          refine aw_goto C 166 dX9_means_162 (by decide) ?_
          refine aw_fl [some (.ref 181), none, none, none, none, none, none] ⟨rfl, trivial⟩ ?_
          exact rmX9_means_b166 C h
    · rw [if_pos q] at h
      refine aw_ald_n C dX9_means_57 rfl ?_
      refine aw_iload C dX9_means_58 rfl ?_
      refine aw_iload C dX9_means_60 rfl ?_
      refine aw_ldcK C (C.2.2.2.2.2.2.1.2.2.2.2.2.2.2.2.1.2 0 (by decide)) dX9_means_62 ?_
      obtain ⟨r5, h5, h⟩ := Option.bind_eq_some_iff.mp h
      refine aw_callS C [.ref (rAid v3), .int v4, .int v5, .retAddr (X.2.2 (1000 + 0))] ms_X9_188 (rmX9_stands ia3 (by decide) h5) rfl dX9_means_64 (Nat.le_of_ble_eq_true rfl) (Nat.le_of_ble_eq_true rfl) rfl (Nat.le_of_ble_eq_true rfl) (Nat.le_of_ble_eq_true rfl) (Nat.le_of_ble_eq_true rfl) (fun v9 f9 n9 hh => ?_)
      obtain ⟨rfl, rfl, rfl⟩ := hh
      refine aw_if_eq C 79 dX9_means_67 (by decide) (fun q => ?_) (fun q => ?_)
      · rw [if_pos q] at h
        refine aw_ald_n C dX9_means_79 rfl ?_
        refine aw_iload C dX9_means_80 rfl ?_
        refine aw_iload C dX9_means_82 rfl ?_
        refine aw_ldcK C (C.2.2.2.2.2.2.1.2.2.2.2.2.2.2.2.1.2 1 (by decide)) dX9_means_84 ?_
        obtain ⟨r6, h6, h⟩ := Option.bind_eq_some_iff.mp h
        refine aw_callS C [.ref (rAid v3), .int v4, .int v5, .retAddr (X.2.2 (1000 + 1))] ms_X9_188 (rmX9_stands ia3 (by decide) h6) rfl dX9_means_86 (Nat.le_of_ble_eq_true rfl) (Nat.le_of_ble_eq_true rfl) rfl (Nat.le_of_ble_eq_true rfl) (Nat.le_of_ble_eq_true rfl) (Nat.le_of_ble_eq_true rfl) (fun v9 f9 n9 hh => ?_)
        obtain ⟨rfl, rfl, rfl⟩ := hh
        refine aw_if_eq C 101 dX9_means_89 (by decide) (fun q => ?_) (fun q => ?_)
        · rw [if_pos q] at h
          refine aw_ald_n C dX9_means_101 rfl ?_
          refine aw_iload C dX9_means_102 rfl ?_
          refine aw_iload C dX9_means_104 rfl ?_
          refine aw_ldcK C (C.2.2.2.2.2.2.1.2.2.2.2.2.2.2.2.1.2 2 (by decide)) dX9_means_106 ?_
          obtain ⟨r7, h7, h⟩ := Option.bind_eq_some_iff.mp h
          refine aw_callS C [.ref (rAid v3), .int v4, .int v5, .retAddr (X.2.2 (1000 + 2))] ms_X9_188 (rmX9_stands ia3 (by decide) h7) rfl dX9_means_108 (Nat.le_of_ble_eq_true rfl) (Nat.le_of_ble_eq_true rfl) rfl (Nat.le_of_ble_eq_true rfl) (Nat.le_of_ble_eq_true rfl) (Nat.le_of_ble_eq_true rfl) (fun v9 f9 n9 hh => ?_)
          obtain ⟨rfl, rfl, rfl⟩ := hh
          refine aw_if_eq C 116 dX9_means_111 (by decide) (fun q => ?_) (fun q => ?_)
          · rw [if_pos q] at h
            refine aw_fl [some (.ref 181), none, none, some (.ref (rAid v3)), some (.int v4), none, none] ⟨rfl, ⟨rfl, ⟨rfl, trivial⟩⟩⟩ ?_
            exact rmX9_means_b116 C ia3 h
          · rw [if_neg q] at h
            refine aw_iconst C 5 dX9_means_114 ki_5 ?_
            cases h
            exact aw_iret C rfl rfl dX9_means_115 (Nat.le_refl _) (Nat.le_refl _) ⟨rfl, rfl, rfl⟩
        · rw [if_neg q] at h
          refine aw_ald_n C dX9_means_92 rfl ?_
          refine aw_bipush C 62 dX9_means_93 kb_62 ?_
          refine am_put C gf_X9_183 nf9_55 rfl rfl dX9_means_95 ?_
          refine aw_goto C 116 dX9_means_98 (by decide) ?_
          refine aw_fl [some (.ref 181), none, none, some (.ref (rAid v3)), some (.int v4), none, none] ⟨rfl, ⟨rfl, ⟨rfl, trivial⟩⟩⟩ ?_
          exact rmX9_means_b116 C ia3 h
      · rw [if_neg q] at h
        refine aw_ald_n C dX9_means_70 rfl ?_
        refine aw_bipush C 60 dX9_means_71 kb_60 ?_
        refine am_put C gf_X9_183 nf9_55 rfl rfl dX9_means_73 ?_
        refine aw_goto C 116 dX9_means_76 (by decide) ?_
        refine aw_fl [some (.ref 181), none, none, some (.ref (rAid v3)), some (.int v4), none, none] ⟨rfl, ⟨rfl, ⟨rfl, trivial⟩⟩⟩ ?_
        exact rmX9_means_b116 C ia3 h
  · rw [if_pos q] at h
    refine aw_iload_n C dX9_means_13 rfl ?_
    refine aw_if_eq C 50 dX9_means_14 (by decide) (fun q => ?_) (fun q => ?_)
    · rw [if_pos q] at h
      refine aw_fl [none, none, none, none, none, none, none] trivial ?_
      exact rmX9_means_b50 C h
    · rw [if_neg q] at h
      refine aw_ald_n C dX9_means_17 rfl ?_
      refine aw_iload C dX9_means_18 rfl ?_
      obtain ⟨hb8, h⟩ := ck_some h
      refine am_iald C (rGa σ v3 v4) ia3 (inb_vp hb8) rfl dX9_means_20 ?_
      refine aw_bipush C 34 dX9_means_21 kb_34 ?_
      refine aw_icmp_ne C 50 dX9_means_23 (by decide) (fun q => ?_) (fun q => ?_)
      · rw [if_neg q] at h
        refine aw_fl [none, none, none, none, none, none, none] trivial ?_
        exact rmX9_means_b50 C h
      · rw [if_pos q] at h
        refine aw_iload C dX9_means_26 rfl ?_
        refine aw_iconst C 1 dX9_means_28 ki_1 ?_
        refine aw_iadd C dX9_means_29 ?_
        refine aw_iload C dX9_means_30 rfl ?_
        refine aw_icmp_ge C 50 dX9_means_32 (by decide) (fun q => ?_) (fun q => ?_)
        · rw [if_pos q] at h
          refine aw_fl [none, none, none, none, none, none, none] trivial ?_
          exact rmX9_means_b50 C h
        · rw [if_neg q] at h
          refine aw_ald_n C dX9_means_35 rfl ?_
          refine aw_iload C dX9_means_36 rfl ?_
          refine aw_iconst C 1 dX9_means_38 ki_1 ?_
          refine aw_iadd C dX9_means_39 ?_
          obtain ⟨hb9, h⟩ := ck_some h
          refine am_iald C (rGa σ v3 (v4 + (1 : Int32))) ia3 (inb_vp hb9) rfl dX9_means_40 ?_
          refine aw_bipush C 34 dX9_means_41 kb_34 ?_
          refine aw_icmp_ne C 50 dX9_means_43 (by decide) (fun q => ?_) (fun q => ?_)
          · rw [if_neg q] at h
            refine aw_fl [none, none, none, none, none, none, none] trivial ?_
            exact rmX9_means_b50 C h
          · rw [if_pos q] at h
            refine aw_iconst C 2 dX9_means_46 ki_2 ?_
            refine aw_goto C 51 dX9_means_47 (by decide) ?_
            refine aw_fl [none, none, none, none, none, none, none] trivial ?_
            exact rmX9_means_b51 C h
def mX9_undoes_l7 : Nat → Int32 → Int32 → Nat → Nat → Nat → Int32 → Nat → Nat → Nat → Int32 → Int32 → RS9 → Option (Int32 × RS9)
  | 0, _, _, _, _, _, _, _, _, _, _, _, _ => none
  | d + 1, v1, v2, v3, v4, v5, v7, v8, v9, v10, v11, v12, σ => (if v7 ≤ v12 then some (v11, σ) else ((mX9_means v1 v2 v3 v12 v7 σ).bind fun r1 => rCk (rIn v11 (rLen v8)) (rCk (rIn v12 (rLen v4)) (rCk (rIn v11 (rLen v9)) (rCk (rIn ((v12 + r1.1) - (1 : Int32)) (rLen v5)) (rCk (rIn v11 (rLen v10)) (mX9_undoes_l7 d v1 v2 v3 v4 v5 v7 v8 v9 v10 (v11 + (1 : Int32)) (v12 + r1.1) (rSa (rSa (rSa r1.2 v8 v11 (r1.2.1 55)) v9 v11 (rGa (rSa r1.2 v8 v11 (r1.2.1 55)) v4 v12)) v10 v11 (rGa (rSa (rSa r1.2 v8 v11 (r1.2.1 55)) v9 v11 (rGa (rSa r1.2 v8 v11 (r1.2.1 55)) v4 v12)) v5 ((v12 + r1.1) - (1 : Int32)))))))))))
set_option maxHeartbeats 1000000 in
theorem rmX9_undoes_l7 {X : GX} {p : Program} {l : Launch} {e : Env} {s : State} {m : MethodId} {args : Array Value} {below : List Frame} {meth : Method} {c : Code} {f : AH} {n : Nat} {r : Int32 × RS9} (C : CC X p l (RM 6 0 0) s m args meth c RX9 cX9_undoes 14 (some .int)) : ∀ (d : Nat) (v1 : Int32) (v2 : Int32) (v3 : Nat) (v4 : Nat) (v5 : Nat) (v7 : Int32) (v8 : Nat) (v9 : Nat) (v10 : Nat) (v11 : Int32) (v12 : Int32) (σ : RS9) (_ : rIsA v3 = true) (_ : rIsA v4 = true) (_ : rIsA v5 = true) (_ : rIsA v8 = true) (_ : rIsA v9 = true) (_ : rIsA v10 = true) (_ : mX9_undoes_l7 d v1 v2 v3 v4 v5 v7 v8 v9 v10 v11 v12 σ = some r), AW X p l e (RM 6 0 0) s m args below meth c 14 (ZM X below args s 0 0 (QMi f n r)) (rHm f σ) n 0 0 7 [some (.ref 181), some (.int v1), some (.int v2), some (.ref (rAid v3)), some (.ref (rAid v4)), some (.ref (rAid v5)), none, some (.int v7), some (.ref (rAid v8)), some (.ref (rAid v9)), some (.ref (rAid v10)), some (.int v11), some (.int v12), none] [] := by
  intro d
  induction d with
  | zero =>
    intro v1 v2 v3 v4 v5 v7 v8 v9 v10 v11 v12 σ ia3 ia4 ia5 ia8 ia9 ia10 h
    exact nomatch (show (none : Option (Int32 × RS9)) = some r from h)
  | succ d ih =>
    intro v1 v2 v3 v4 v5 v7 v8 v9 v10 v11 v12 σ ia3 ia4 ia5 ia8 ia9 ia10 h
    have h : (if v7 ≤ v12 then some (v11, σ) else ((mX9_means v1 v2 v3 v12 v7 σ).bind fun r1 => rCk (rIn v11 (rLen v8)) (rCk (rIn v12 (rLen v4)) (rCk (rIn v11 (rLen v9)) (rCk (rIn ((v12 + r1.1) - (1 : Int32)) (rLen v5)) (rCk (rIn v11 (rLen v10)) (mX9_undoes_l7 d v1 v2 v3 v4 v5 v7 v8 v9 v10 (v11 + (1 : Int32)) (v12 + r1.1) (rSa (rSa (rSa r1.2 v8 v11 (r1.2.1 55)) v9 v11 (rGa (rSa r1.2 v8 v11 (r1.2.1 55)) v4 v12)) v10 v11 (rGa (rSa (rSa r1.2 v8 v11 (r1.2.1 55)) v9 v11 (rGa (rSa r1.2 v8 v11 (r1.2.1 55)) v4 v12)) v5 ((v12 + r1.1) - (1 : Int32))))))))))) = some r := h
    refine aw_iload C dX9_undoes_7 rfl ?_
    refine aw_iload C dX9_undoes_9 rfl ?_
    refine aw_icmp_ge C 74 dX9_undoes_11 (by decide) (fun q => ?_) (fun q => ?_)
    · rw [if_pos q] at h
      refine aw_iload C dX9_undoes_74 rfl ?_
      cases h
      exact aw_iret C rfl rfl dX9_undoes_76 (Nat.le_refl _) (Nat.le_refl _) ⟨rfl, rfl, rfl⟩
    · rw [if_neg q] at h
      refine aw_ald_n C dX9_undoes_14 rfl ?_
      refine aw_iload_n C dX9_undoes_15 rfl ?_
      refine aw_iload_n C dX9_undoes_16 rfl ?_
      refine aw_ald_n C dX9_undoes_17 rfl ?_
      refine aw_iload C dX9_undoes_18 rfl ?_
      refine aw_iload C dX9_undoes_20 rfl ?_
      obtain ⟨r1, h1, h⟩ := Option.bind_eq_some_iff.mp h
      refine aw_callV C (ci := 9) (b := 181) [.int v1, .int v2, .ref (rAid v3), .int v12, .int v7] mv_X9_200 rfl rfl (hm_M f σ) (rmX9_means ia3 h1) rfl dX9_undoes_22 (Nat.le_of_ble_eq_true rfl) (Nat.le_of_ble_eq_true rfl) rfl (Nat.le_of_ble_eq_true rfl) (Nat.le_of_ble_eq_true rfl) (Nat.le_of_ble_eq_true rfl) (fun v9 f9 n9 hh => ?_)
      obtain ⟨rfl, rfl, rfl⟩ := hh
      refine aw_istore C dX9_undoes_25 (by decide) rfl ?_
      refine aw_nl [some (.ref 181), some (.int v1), some (.int v2), some (.ref (rAid v3)), some (.ref (rAid v4)), some (.ref (rAid v5)), none, some (.int v7), some (.ref (rAid v8)), some (.ref (rAid v9)), some (.ref (rAid v10)), some (.int v11), some (.int v12), some (.int r1.1)] rfl ?_
      refine aw_ald C dX9_undoes_27 rfl ?_
      refine aw_iload C dX9_undoes_29 rfl ?_
      refine aw_ald_n C dX9_undoes_31 rfl ?_
      refine aw_get C (v := .int (r1.2.1 55)) gf_X9_183 (hm_M f r1.2) rfl dX9_undoes_32 ?_
      obtain ⟨hb2, h⟩ := ck_some h
      refine am_iast C ia8 (inb_vp hb2) dX9_undoes_35 ?_
      refine aw_ald C dX9_undoes_36 rfl ?_
      refine aw_iload C dX9_undoes_38 rfl ?_
      refine aw_ald C dX9_undoes_40 rfl ?_
      refine aw_iload C dX9_undoes_42 rfl ?_
      obtain ⟨hb3, h⟩ := ck_some h
      refine am_iald C (rGa (rSa r1.2 v8 v11 (r1.2.1 55)) v4 v12) ia4 (inb_vp hb3) rfl dX9_undoes_44 ?_
      obtain ⟨hb4, h⟩ := ck_some h
      refine am_iast C ia9 (inb_vp hb4) dX9_undoes_45 ?_
      refine aw_ald C dX9_undoes_46 rfl ?_
      refine aw_iload C dX9_undoes_48 rfl ?_
      refine aw_ald C dX9_undoes_50 rfl ?_
      refine aw_iload C dX9_undoes_52 rfl ?_
      refine aw_iload C dX9_undoes_54 rfl ?_
      refine aw_iadd C dX9_undoes_56 ?_
      refine aw_iconst C 1 dX9_undoes_57 ki_1 ?_
      refine aw_isub C dX9_undoes_58 ?_
      obtain ⟨hb5, h⟩ := ck_some h
      refine am_iald C (rGa (rSa (rSa r1.2 v8 v11 (r1.2.1 55)) v9 v11 (rGa (rSa r1.2 v8 v11 (r1.2.1 55)) v4 v12)) v5 ((v12 + r1.1) - (1 : Int32))) ia5 (inb_vp hb5) rfl dX9_undoes_59 ?_
      obtain ⟨hb6, h⟩ := ck_some h
      refine am_iast C ia10 (inb_vp hb6) dX9_undoes_60 ?_
      refine aw_iinc C (v11 + (1 : Int32)) dX9_undoes_61 rfl (by rw [ki_1]) (by decide) rfl ?_
      refine aw_nl [some (.ref 181), some (.int v1), some (.int v2), some (.ref (rAid v3)), some (.ref (rAid v4)), some (.ref (rAid v5)), none, some (.int v7), some (.ref (rAid v8)), some (.ref (rAid v9)), some (.ref (rAid v10)), some (.int (v11 + (1 : Int32))), some (.int v12), some (.int r1.1)] rfl ?_
      refine aw_iload C dX9_undoes_64 rfl ?_
      refine aw_iload C dX9_undoes_66 rfl ?_
      refine aw_iadd C dX9_undoes_68 ?_
      refine aw_istore C dX9_undoes_69 (by decide) rfl ?_
      refine aw_nl [some (.ref 181), some (.int v1), some (.int v2), some (.ref (rAid v3)), some (.ref (rAid v4)), some (.ref (rAid v5)), none, some (.int v7), some (.ref (rAid v8)), some (.ref (rAid v9)), some (.ref (rAid v10)), some (.int (v11 + (1 : Int32))), some (.int (v12 + r1.1)), some (.int r1.1)] rfl ?_
      refine aw_goto C 7 dX9_undoes_71 (by decide) ?_
      refine aw_fl [some (.ref 181), some (.int v1), some (.int v2), some (.ref (rAid v3)), some (.ref (rAid v4)), some (.ref (rAid v5)), none, some (.int v7), some (.ref (rAid v8)), some (.ref (rAid v9)), some (.ref (rAid v10)), some (.int (v11 + (1 : Int32))), some (.int (v12 + r1.1)), none] ⟨rfl, ⟨rfl, ⟨rfl, ⟨rfl, ⟨rfl, ⟨rfl, ⟨rfl, ⟨rfl, ⟨rfl, ⟨rfl, ⟨rfl, ⟨rfl, trivial⟩⟩⟩⟩⟩⟩⟩⟩⟩⟩⟩⟩ ?_
      exact ih v1 v2 v3 v4 v5 v7 v8 v9 v10 (v11 + (1 : Int32)) (v12 + r1.1) (rSa (rSa (rSa r1.2 v8 v11 (r1.2.1 55)) v9 v11 (rGa (rSa r1.2 v8 v11 (r1.2.1 55)) v4 v12)) v10 v11 (rGa (rSa (rSa r1.2 v8 v11 (r1.2.1 55)) v9 v11 (rGa (rSa r1.2 v8 v11 (r1.2.1 55)) v4 v12)) v5 ((v12 + r1.1) - (1 : Int32)))) ia3 ia4 ia5 ia8 ia9 ia10 h
def mX9_undoes (v1 : Int32) (v2 : Int32) (v3 : Nat) (v4 : Nat) (v5 : Nat) (v6 : Int32) (v7 : Int32) (v8 : Nat) (v9 : Nat) (v10 : Nat) (σ : RS9) : Option (Int32 × RS9) := mX9_undoes_l7 rFU v1 v2 v3 v4 v5 v7 v8 v9 v10 (0 : Int32) v6 σ
set_option maxHeartbeats 1000000 in
theorem rmX9_undoes {X : GX} {l : Launch} {f : AH} {n : Nat} {r : Int32 × RS9} {v1 : Int32} {v2 : Int32} {v3 : Nat} {v4 : Nat} {v5 : Nat} {v6 : Int32} {v7 : Int32} {v8 : Nat} {v9 : Nat} {v10 : Nat} {σ : RS9} (ia3 : rIsA v3 = true) (ia4 : rIsA v4 = true) (ia5 : rIsA v5 = true) (ia8 : rIsA v8 = true) (ia9 : rIsA v9 = true) (ia10 : rIsA v10 = true) (h : mX9_undoes v1 v2 v3 v4 v5 v6 v7 v8 v9 v10 σ = some r) : AM X l yX9_undoes cX9_undoes 14 (some .int) 6 0 0 [.ref 181, .int v1, .int v2, .ref (rAid v3), .ref (rAid v4), .ref (rAid v5), .int v6, .int v7, .ref (rAid v8), .ref (rAid v9), .ref (rAid v10)] (rHm f σ) n (QMi f n r) := by
  have h : mX9_undoes_l7 rFU v1 v2 v3 v4 v5 v7 v8 v9 v10 (0 : Int32) v6 σ = some r := h
  refine AM.of (by decide +kernel) rfl (Nat.le_of_ble_eq_true rfl) (fun p e s m args below meth c C _ => ?_)
  refine aw_nl [some (.ref 181), some (.int v1), some (.int v2), some (.ref (rAid v3)), some (.ref (rAid v4)), some (.ref (rAid v5)), some (.int v6), some (.int v7), some (.ref (rAid v8)), some (.ref (rAid v9)), some (.ref (rAid v10)), none, none, none] rfl ?_
  refine aw_iconst C 0 dX9_undoes_0 ki_0 ?_
  refine aw_istore C dX9_undoes_1 (by decide) rfl ?_
  refine aw_nl [some (.ref 181), some (.int v1), some (.int v2), some (.ref (rAid v3)), some (.ref (rAid v4)), some (.ref (rAid v5)), some (.int v6), some (.int v7), some (.ref (rAid v8)), some (.ref (rAid v9)), some (.ref (rAid v10)), some (.int (0 : Int32)), none, none] rfl ?_
  refine aw_iload C dX9_undoes_3 rfl ?_
  refine aw_istore C dX9_undoes_5 (by decide) rfl ?_
  refine aw_nl [some (.ref 181), some (.int v1), some (.int v2), some (.ref (rAid v3)), some (.ref (rAid v4)), some (.ref (rAid v5)), some (.int v6), some (.int v7), some (.ref (rAid v8)), some (.ref (rAid v9)), some (.ref (rAid v10)), some (.int (0 : Int32)), some (.int v6), none] rfl ?_
  refine aw_fl [some (.ref 181), some (.int v1), some (.int v2), some (.ref (rAid v3)), some (.ref (rAid v4)), some (.ref (rAid v5)), none, some (.int v7), some (.ref (rAid v8)), some (.ref (rAid v9)), some (.ref (rAid v10)), some (.int (0 : Int32)), some (.int v6), none] ⟨rfl, ⟨rfl, ⟨rfl, ⟨rfl, ⟨rfl, ⟨rfl, ⟨rfl, ⟨rfl, ⟨rfl, ⟨rfl, ⟨rfl, ⟨rfl, trivial⟩⟩⟩⟩⟩⟩⟩⟩⟩⟩⟩⟩ ?_
  exact rmX9_undoes_l7 C rFU v1 v2 v3 v4 v5 v7 v8 v9 v10 (0 : Int32) v6 σ ia3 ia4 ia5 ia8 ia9 ia10 h
end
