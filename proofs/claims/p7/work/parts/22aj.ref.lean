def mX9_unlikeTexts_b59 (rec4 : Int32 → Int32 → RS9 → Option (Int32 × RS9)) (v2 : Int32) (s0 : Int32) (s1 : Int32) (σ : RS9) : Option (Int32 × RS9) := rec4 (s0 + s1) (v2 + (1 : Int32)) σ
set_option maxHeartbeats 1000000 in
theorem rmX9_unlikeTexts_b59 {X : GX} {p : Program} {l : Launch} {e : Env} {s : State} {m : MethodId} {args : Array Value} {below : List Frame} {meth : Method} {c : Code} {f : AH} {n : Nat} {r : Int32 × RS9} {rec4 : Int32 → Int32 → RS9 → Option (Int32 × RS9)} {v2 : Int32} {s0 : Int32} {s1 : Int32} {σ : RS9} (C : CC X p l (RM 1 0 0) s m args meth c RX9 cX9_unlikeTexts 5 (some .int)) (Hr4 : ∀ (v1 : Int32) (v2 : Int32) (σ : RS9), rec4 v1 v2 σ = some r → AW X p l e (RM 1 0 0) s m args below meth c 5 (ZM X below args s 0 0 (QMi f n r)) (rHm f σ) n 0 0 4 [some (.ref 181), some (.int v1), some (.int v2), none, none] []) (h : mX9_unlikeTexts_b59 rec4 v2 s0 s1 σ = some r) : AW X p l e (RM 1 0 0) s m args below meth c 5 (ZM X below args s 0 0 (QMi f n r)) (rHm f σ) n 0 0 59 [some (.ref 181), none, some (.int v2), none, none] [.int s1, .int s0] := by
  have h : rec4 (s0 + s1) (v2 + (1 : Int32)) σ = some r := h
  refine aw_iadd C dX9_unlikeTexts_59 ?_
  refine aw_istore_n C dX9_unlikeTexts_60 (by decide) rfl ?_
  refine aw_nl [some (.ref 181), some (.int (s0 + s1)), some (.int v2), none, none] rfl ?_
  refine aw_iinc C (v2 + (1 : Int32)) dX9_unlikeTexts_61 rfl (by rw [ki_1]) (by decide) rfl ?_
  refine aw_nl [some (.ref 181), some (.int (s0 + s1)), some (.int (v2 + (1 : Int32))), none, none] rfl ?_
  refine aw_goto C 4 dX9_unlikeTexts_64 (by decide) ?_
  refine aw_fl [some (.ref 181), some (.int (s0 + s1)), some (.int (v2 + (1 : Int32))), none, none] ⟨rfl, ⟨rfl, ⟨rfl, trivial⟩⟩⟩ ?_
  exact Hr4 (s0 + s1) (v2 + (1 : Int32)) σ h
def mX9_unlikeTexts_b42 (rec4 : Int32 → Int32 → RS9 → Option (Int32 × RS9)) (rec17 : Int32 → Int32 → Int32 → Int32 → RS9 → Option (Int32 × RS9)) (v1 : Int32) (v2 : Int32) (v4 : Int32) (s0 : Int32) (σ : RS9) : Option (Int32 × RS9) := rec17 v1 v2 s0 (v4 + (1 : Int32)) σ
set_option maxHeartbeats 1000000 in
theorem rmX9_unlikeTexts_b42 {X : GX} {p : Program} {l : Launch} {e : Env} {s : State} {m : MethodId} {args : Array Value} {below : List Frame} {meth : Method} {c : Code} {f : AH} {n : Nat} {r : Int32 × RS9} {rec4 : Int32 → Int32 → RS9 → Option (Int32 × RS9)} {rec17 : Int32 → Int32 → Int32 → Int32 → RS9 → Option (Int32 × RS9)} {v1 : Int32} {v2 : Int32} {v4 : Int32} {s0 : Int32} {σ : RS9} (C : CC X p l (RM 1 0 0) s m args meth c RX9 cX9_unlikeTexts 5 (some .int)) (Hr4 : ∀ (v1 : Int32) (v2 : Int32) (σ : RS9), rec4 v1 v2 σ = some r → AW X p l e (RM 1 0 0) s m args below meth c 5 (ZM X below args s 0 0 (QMi f n r)) (rHm f σ) n 0 0 4 [some (.ref 181), some (.int v1), some (.int v2), none, none] []) (Hr17 : ∀ (v1 : Int32) (v2 : Int32) (v3 : Int32) (v4 : Int32) (σ : RS9), rec17 v1 v2 v3 v4 σ = some r → AW X p l e (RM 1 0 0) s m args below meth c 5 (ZM X below args s 0 0 (QMi f n r)) (rHm f σ) n 0 0 17 [some (.ref 181), some (.int v1), some (.int v2), some (.int v3), some (.int v4)] []) (h : mX9_unlikeTexts_b42 rec4 rec17 v1 v2 v4 s0 σ = some r) : AW X p l e (RM 1 0 0) s m args below meth c 5 (ZM X below args s 0 0 (QMi f n r)) (rHm f σ) n 0 0 42 [some (.ref 181), some (.int v1), some (.int v2), none, some (.int v4)] [.int s0] := by
  have h : rec17 v1 v2 s0 (v4 + (1 : Int32)) σ = some r := h
  refine aw_istore_n C dX9_unlikeTexts_42 (by decide) rfl ?_
  refine aw_nl [some (.ref 181), some (.int v1), some (.int v2), some (.int s0), some (.int v4)] rfl ?_
  refine aw_iinc C (v4 + (1 : Int32)) dX9_unlikeTexts_43 rfl (by rw [ki_1]) (by decide) rfl ?_
  refine aw_nl [some (.ref 181), some (.int v1), some (.int v2), some (.int s0), some (.int (v4 + (1 : Int32)))] rfl ?_
  refine aw_goto C 17 dX9_unlikeTexts_46 (by decide) ?_
  refine aw_fl [some (.ref 181), some (.int v1), some (.int v2), some (.int s0), some (.int (v4 + (1 : Int32)))] ⟨rfl, ⟨rfl, ⟨rfl, ⟨rfl, ⟨rfl, trivial⟩⟩⟩⟩⟩ ?_
  exact Hr17 v1 v2 s0 (v4 + (1 : Int32)) σ h
def mX9_unlikeTexts_b41 (rec4 : Int32 → Int32 → RS9 → Option (Int32 × RS9)) (rec17 : Int32 → Int32 → Int32 → Int32 → RS9 → Option (Int32 × RS9)) (v1 : Int32) (v2 : Int32) (v4 : Int32) (σ : RS9) : Option (Int32 × RS9) := mX9_unlikeTexts_b42 rec4 rec17 v1 v2 v4 (0 : Int32) σ
set_option maxHeartbeats 1000000 in
theorem rmX9_unlikeTexts_b41 {X : GX} {p : Program} {l : Launch} {e : Env} {s : State} {m : MethodId} {args : Array Value} {below : List Frame} {meth : Method} {c : Code} {f : AH} {n : Nat} {r : Int32 × RS9} {rec4 : Int32 → Int32 → RS9 → Option (Int32 × RS9)} {rec17 : Int32 → Int32 → Int32 → Int32 → RS9 → Option (Int32 × RS9)} {v1 : Int32} {v2 : Int32} {v4 : Int32} {σ : RS9} (C : CC X p l (RM 1 0 0) s m args meth c RX9 cX9_unlikeTexts 5 (some .int)) (Hr4 : ∀ (v1 : Int32) (v2 : Int32) (σ : RS9), rec4 v1 v2 σ = some r → AW X p l e (RM 1 0 0) s m args below meth c 5 (ZM X below args s 0 0 (QMi f n r)) (rHm f σ) n 0 0 4 [some (.ref 181), some (.int v1), some (.int v2), none, none] []) (Hr17 : ∀ (v1 : Int32) (v2 : Int32) (v3 : Int32) (v4 : Int32) (σ : RS9), rec17 v1 v2 v3 v4 σ = some r → AW X p l e (RM 1 0 0) s m args below meth c 5 (ZM X below args s 0 0 (QMi f n r)) (rHm f σ) n 0 0 17 [some (.ref 181), some (.int v1), some (.int v2), some (.int v3), some (.int v4)] []) (h : mX9_unlikeTexts_b41 rec4 rec17 v1 v2 v4 σ = some r) : AW X p l e (RM 1 0 0) s m args below meth c 5 (ZM X below args s 0 0 (QMi f n r)) (rHm f σ) n 0 0 41 [some (.ref 181), some (.int v1), some (.int v2), none, some (.int v4)] [] := by
  have h : mX9_unlikeTexts_b42 rec4 rec17 v1 v2 v4 (0 : Int32) σ = some r := h
  refine aw_iconst C 0 dX9_unlikeTexts_41 ki_0 ?_
  refine aw_fl [some (.ref 181), some (.int v1), some (.int v2), none, some (.int v4)] ⟨rfl, ⟨rfl, ⟨rfl, ⟨rfl, trivial⟩⟩⟩⟩ ?_
  exact rmX9_unlikeTexts_b42 C Hr4 Hr17 h
def mX9_unlikeTexts_l17 (rec4 : Int32 → Int32 → RS9 → Option (Int32 × RS9)) : Nat → Int32 → Int32 → Int32 → Int32 → RS9 → Option (Int32 × RS9)
  | 0, _, _, _, _, _ => none
  | d + 1, v1, v2, v3, v4, σ => (if v2 ≤ v4 then (if v3 = (0 : Int32) then mX9_unlikeTexts_b59 rec4 v2 v1 (0 : Int32) σ else mX9_unlikeTexts_b59 rec4 v2 v1 (1 : Int32) σ) else (if v3 = (0 : Int32) then mX9_unlikeTexts_b41 rec4 (fun v1 v2 v3 v4 σ => mX9_unlikeTexts_l17 rec4 d v1 v2 v3 v4 σ) v1 v2 v4 σ else ((mX9_areLike v2 v4 σ).bind fun r1 => (if r1.1 = (0 : Int32) then mX9_unlikeTexts_b42 rec4 (fun v1 v2 v3 v4 σ => mX9_unlikeTexts_l17 rec4 d v1 v2 v3 v4 σ) v1 v2 v4 (1 : Int32) r1.2 else mX9_unlikeTexts_b41 rec4 (fun v1 v2 v3 v4 σ => mX9_unlikeTexts_l17 rec4 d v1 v2 v3 v4 σ) v1 v2 v4 r1.2))))
set_option maxHeartbeats 1000000 in
theorem rmX9_unlikeTexts_l17 {X : GX} {p : Program} {l : Launch} {e : Env} {s : State} {m : MethodId} {args : Array Value} {below : List Frame} {meth : Method} {c : Code} {f : AH} {n : Nat} {r : Int32 × RS9} {rec4 : Int32 → Int32 → RS9 → Option (Int32 × RS9)} (C : CC X p l (RM 1 0 0) s m args meth c RX9 cX9_unlikeTexts 5 (some .int)) (Hr4 : ∀ (v1 : Int32) (v2 : Int32) (σ : RS9), rec4 v1 v2 σ = some r → AW X p l e (RM 1 0 0) s m args below meth c 5 (ZM X below args s 0 0 (QMi f n r)) (rHm f σ) n 0 0 4 [some (.ref 181), some (.int v1), some (.int v2), none, none] []) : ∀ (d : Nat) (v1 : Int32) (v2 : Int32) (v3 : Int32) (v4 : Int32) (σ : RS9) (_ : mX9_unlikeTexts_l17 rec4 d v1 v2 v3 v4 σ = some r), AW X p l e (RM 1 0 0) s m args below meth c 5 (ZM X below args s 0 0 (QMi f n r)) (rHm f σ) n 0 0 17 [some (.ref 181), some (.int v1), some (.int v2), some (.int v3), some (.int v4)] [] := by
  intro d
  induction d with
  | zero =>
    intro v1 v2 v3 v4 σ h
    exact nomatch (show (none : Option (Int32 × RS9)) = some r from h)
  | succ d ih =>
    intro v1 v2 v3 v4 σ h
    have h : (if v2 ≤ v4 then (if v3 = (0 : Int32) then mX9_unlikeTexts_b59 rec4 v2 v1 (0 : Int32) σ else mX9_unlikeTexts_b59 rec4 v2 v1 (1 : Int32) σ) else (if v3 = (0 : Int32) then mX9_unlikeTexts_b41 rec4 (fun v1 v2 v3 v4 σ => mX9_unlikeTexts_l17 rec4 d v1 v2 v3 v4 σ) v1 v2 v4 σ else ((mX9_areLike v2 v4 σ).bind fun r1 => (if r1.1 = (0 : Int32) then mX9_unlikeTexts_b42 rec4 (fun v1 v2 v3 v4 σ => mX9_unlikeTexts_l17 rec4 d v1 v2 v3 v4 σ) v1 v2 v4 (1 : Int32) r1.2 else mX9_unlikeTexts_b41 rec4 (fun v1 v2 v3 v4 σ => mX9_unlikeTexts_l17 rec4 d v1 v2 v3 v4 σ) v1 v2 v4 r1.2)))) = some r := h
    refine aw_iload C dX9_unlikeTexts_17 rfl ?_
    refine aw_iload_n C dX9_unlikeTexts_19 rfl ?_
    refine aw_icmp_ge C 49 dX9_unlikeTexts_20 (by decide) (fun q => ?_) (fun q => ?_)
    · rw [if_pos q] at h
      refine aw_iload_n C dX9_unlikeTexts_49 rfl ?_
      refine aw_iload_n C dX9_unlikeTexts_50 rfl ?_
      refine aw_if_eq C 58 dX9_unlikeTexts_51 (by decide) (fun q => ?_) (fun q => ?_)
      · rw [if_pos q] at h
        refine aw_iconst C 0 dX9_unlikeTexts_58 ki_0 ?_
        refine aw_fl [some (.ref 181), none, some (.int v2), none, none] ⟨rfl, ⟨rfl, trivial⟩⟩ ?_
        exact rmX9_unlikeTexts_b59 C Hr4 h
      · rw [if_neg q] at h
        refine aw_iconst C 1 dX9_unlikeTexts_54 ki_1 ?_
        refine aw_goto C 59 dX9_unlikeTexts_55 (by decide) ?_
        refine aw_fl [some (.ref 181), none, some (.int v2), none, none] ⟨rfl, ⟨rfl, trivial⟩⟩ ?_
        exact rmX9_unlikeTexts_b59 C Hr4 h
    · rw [if_neg q] at h
      refine aw_iload_n C dX9_unlikeTexts_23 rfl ?_
      refine aw_if_eq C 41 dX9_unlikeTexts_24 (by decide) (fun q => ?_) (fun q => ?_)
      · rw [if_pos q] at h
        refine aw_fl [some (.ref 181), some (.int v1), some (.int v2), none, some (.int v4)] ⟨rfl, ⟨rfl, ⟨rfl, ⟨rfl, trivial⟩⟩⟩⟩ ?_
        exact rmX9_unlikeTexts_b41 C Hr4 (fun v1 v2 v3 v4 σ h => ih v1 v2 v3 v4 σ h) h
      · rw [if_neg q] at h
        refine aw_ald_n C dX9_unlikeTexts_27 rfl ?_
        refine aw_iload_n C dX9_unlikeTexts_28 rfl ?_
        refine aw_iload C dX9_unlikeTexts_29 rfl ?_
        obtain ⟨r1, h1, h⟩ := Option.bind_eq_some_iff.mp h
        refine aw_callV C (ci := 9) (b := 181) [.int v2, .int v4] mv_X9_309 rfl rfl (hm_M f σ) (rmX9_areLike h1) rfl dX9_unlikeTexts_31 (Nat.le_of_ble_eq_true rfl) (Nat.le_of_ble_eq_true rfl) rfl (Nat.le_of_ble_eq_true rfl) (Nat.le_of_ble_eq_true rfl) (Nat.le_of_ble_eq_true rfl) (fun v9 f9 n9 hh => ?_)
        obtain ⟨rfl, rfl, rfl⟩ := hh
        refine aw_if_ne C 41 dX9_unlikeTexts_34 (by decide) (fun q => ?_) (fun q => ?_)
        · rw [if_neg q] at h
          refine aw_fl [some (.ref 181), some (.int v1), some (.int v2), none, some (.int v4)] ⟨rfl, ⟨rfl, ⟨rfl, ⟨rfl, trivial⟩⟩⟩⟩ ?_
          exact rmX9_unlikeTexts_b41 C Hr4 (fun v1 v2 v3 v4 σ h => ih v1 v2 v3 v4 σ h) h
        · rw [if_pos q] at h
          refine aw_iconst C 1 dX9_unlikeTexts_37 ki_1 ?_
          refine aw_goto C 42 dX9_unlikeTexts_38 (by decide) ?_
          refine aw_fl [some (.ref 181), some (.int v1), some (.int v2), none, some (.int v4)] ⟨rfl, ⟨rfl, ⟨rfl, ⟨rfl, trivial⟩⟩⟩⟩ ?_
          exact rmX9_unlikeTexts_b42 C Hr4 (fun v1 v2 v3 v4 σ h => ih v1 v2 v3 v4 σ h) h
def mX9_unlikeTexts_l4 : Nat → Int32 → Int32 → RS9 → Option (Int32 × RS9)
  | 0, _, _, _ => none
  | d + 1, v1, v2, σ => (if (σ.1 33) ≤ v2 then some (v1, σ) else mX9_unlikeTexts_l17 (fun v1 v2 σ => mX9_unlikeTexts_l4 d v1 v2 σ) rFU v1 v2 (1 : Int32) (0 : Int32) σ)
set_option maxHeartbeats 1000000 in
theorem rmX9_unlikeTexts_l4 {X : GX} {p : Program} {l : Launch} {e : Env} {s : State} {m : MethodId} {args : Array Value} {below : List Frame} {meth : Method} {c : Code} {f : AH} {n : Nat} {r : Int32 × RS9} (C : CC X p l (RM 1 0 0) s m args meth c RX9 cX9_unlikeTexts 5 (some .int)) : ∀ (d : Nat) (v1 : Int32) (v2 : Int32) (σ : RS9) (_ : mX9_unlikeTexts_l4 d v1 v2 σ = some r), AW X p l e (RM 1 0 0) s m args below meth c 5 (ZM X below args s 0 0 (QMi f n r)) (rHm f σ) n 0 0 4 [some (.ref 181), some (.int v1), some (.int v2), none, none] [] := by
  intro d
  induction d with
  | zero =>
    intro v1 v2 σ h
    exact nomatch (show (none : Option (Int32 × RS9)) = some r from h)
  | succ d ih =>
    intro v1 v2 σ h
    have h : (if (σ.1 33) ≤ v2 then some (v1, σ) else mX9_unlikeTexts_l17 (fun v1 v2 σ => mX9_unlikeTexts_l4 d v1 v2 σ) rFU v1 v2 (1 : Int32) (0 : Int32) σ) = some r := h
    refine aw_iload_n C dX9_unlikeTexts_4 rfl ?_
    refine aw_ald_n C dX9_unlikeTexts_5 rfl ?_
    refine aw_get C (v := .int (σ.1 33)) gf_X9_204 (hm_M f σ) rfl dX9_unlikeTexts_6 ?_
    refine aw_icmp_ge C 67 dX9_unlikeTexts_9 (by decide) (fun q => ?_) (fun q => ?_)
    · rw [if_pos q] at h
      refine aw_iload_n C dX9_unlikeTexts_67 rfl ?_
      cases h
      exact aw_iret C rfl rfl dX9_unlikeTexts_68 (Nat.le_refl _) (Nat.le_refl _) ⟨rfl, rfl, rfl⟩
    · rw [if_neg q] at h
      refine aw_iconst C 1 dX9_unlikeTexts_12 ki_1 ?_
      refine aw_istore_n C dX9_unlikeTexts_13 (by decide) rfl ?_
      refine aw_nl [some (.ref 181), some (.int v1), some (.int v2), some (.int (1 : Int32)), none] rfl ?_
      refine aw_iconst C 0 dX9_unlikeTexts_14 ki_0 ?_
      refine aw_istore C dX9_unlikeTexts_15 (by decide) rfl ?_
      refine aw_nl [some (.ref 181), some (.int v1), some (.int v2), some (.int (1 : Int32)), some (.int (0 : Int32))] rfl ?_
      refine aw_fl [some (.ref 181), some (.int v1), some (.int v2), some (.int (1 : Int32)), some (.int (0 : Int32))] ⟨rfl, ⟨rfl, ⟨rfl, ⟨rfl, ⟨rfl, trivial⟩⟩⟩⟩⟩ ?_
      exact rmX9_unlikeTexts_l17 C (fun v1 v2 σ h => ih v1 v2 σ h) rFU v1 v2 (1 : Int32) (0 : Int32) σ h
def mX9_unlikeTexts (σ : RS9) : Option (Int32 × RS9) := mX9_unlikeTexts_l4 rFU (0 : Int32) (0 : Int32) σ
set_option maxHeartbeats 1000000 in
theorem rmX9_unlikeTexts {X : GX} {l : Launch} {f : AH} {n : Nat} {r : Int32 × RS9} {σ : RS9} (h : mX9_unlikeTexts σ = some r) : AM X l yX9_unlikeTexts cX9_unlikeTexts 5 (some .int) 1 0 0 [.ref 181] (rHm f σ) n (QMi f n r) := by
  have h : mX9_unlikeTexts_l4 rFU (0 : Int32) (0 : Int32) σ = some r := h
  refine AM.of (by decide +kernel) rfl (Nat.le_of_ble_eq_true rfl) (fun p e s m args below meth c C _ => ?_)
  refine aw_nl [some (.ref 181), none, none, none, none] rfl ?_
  refine aw_iconst C 0 dX9_unlikeTexts_0 ki_0 ?_
  refine aw_istore_n C dX9_unlikeTexts_1 (by decide) rfl ?_
  refine aw_nl [some (.ref 181), some (.int (0 : Int32)), none, none, none] rfl ?_
  refine aw_iconst C 0 dX9_unlikeTexts_2 ki_0 ?_
  refine aw_istore_n C dX9_unlikeTexts_3 (by decide) rfl ?_
  refine aw_nl [some (.ref 181), some (.int (0 : Int32)), some (.int (0 : Int32)), none, none] rfl ?_
  refine aw_fl [some (.ref 181), some (.int (0 : Int32)), some (.int (0 : Int32)), none, none] ⟨rfl, ⟨rfl, ⟨rfl, trivial⟩⟩⟩ ?_
  exact rmX9_unlikeTexts_l4 C rFU (0 : Int32) (0 : Int32) σ h
def mX9_allWords_l4 : Nat → Int32 → Int32 → RS9 → Option (Int32 × RS9)
  | 0, _, _, _ => none
  | d + 1, v1, v2, σ => (if (σ.1 33) ≤ v2 then some (v1, σ) else ((mX9_wordsOf v2 σ).bind fun r1 => mX9_allWords_l4 d (v1 + r1.1) (v2 + (1 : Int32)) r1.2))
set_option maxHeartbeats 1000000 in
theorem rmX9_allWords_l4 {X : GX} {p : Program} {l : Launch} {e : Env} {s : State} {m : MethodId} {args : Array Value} {below : List Frame} {meth : Method} {c : Code} {f : AH} {n : Nat} {r : Int32 × RS9} (C : CC X p l (RM 3 0 0) s m args meth c RX9 cX9_allWords 3 (some .int)) : ∀ (d : Nat) (v1 : Int32) (v2 : Int32) (σ : RS9) (_ : mX9_allWords_l4 d v1 v2 σ = some r), AW X p l e (RM 3 0 0) s m args below meth c 3 (ZM X below args s 0 0 (QMi f n r)) (rHm f σ) n 0 0 4 [some (.ref 181), some (.int v1), some (.int v2)] [] := by
  intro d
  induction d with
  | zero =>
    intro v1 v2 σ h
    exact nomatch (show (none : Option (Int32 × RS9)) = some r from h)
  | succ d ih =>
    intro v1 v2 σ h
    have h : (if (σ.1 33) ≤ v2 then some (v1, σ) else ((mX9_wordsOf v2 σ).bind fun r1 => mX9_allWords_l4 d (v1 + r1.1) (v2 + (1 : Int32)) r1.2)) = some r := h
    refine aw_iload_n C dX9_allWords_4 rfl ?_
    refine aw_ald_n C dX9_allWords_5 rfl ?_
    refine aw_get C (v := .int (σ.1 33)) gf_X9_204 (hm_M f σ) rfl dX9_allWords_6 ?_
    refine aw_icmp_ge C 26 dX9_allWords_9 (by decide) (fun q => ?_) (fun q => ?_)
    · rw [if_pos q] at h
      refine aw_iload_n C dX9_allWords_26 rfl ?_
      cases h
      exact aw_iret C rfl rfl dX9_allWords_27 (Nat.le_refl _) (Nat.le_refl _) ⟨rfl, rfl, rfl⟩
    · rw [if_neg q] at h
      refine aw_iload_n C dX9_allWords_12 rfl ?_
      refine aw_ald_n C dX9_allWords_13 rfl ?_
      refine aw_iload_n C dX9_allWords_14 rfl ?_
      obtain ⟨r1, h1, h⟩ := Option.bind_eq_some_iff.mp h
      refine aw_callV C (ci := 9) (b := 181) [.int v2] mv_X9_447 rfl rfl (hm_M f σ) (rmX9_wordsOf h1) rfl dX9_allWords_15 (Nat.le_of_ble_eq_true rfl) (Nat.le_of_ble_eq_true rfl) rfl (Nat.le_of_ble_eq_true rfl) (Nat.le_of_ble_eq_true rfl) (Nat.le_of_ble_eq_true rfl) (fun v9 f9 n9 hh => ?_)
      obtain ⟨rfl, rfl, rfl⟩ := hh
      refine aw_iadd C dX9_allWords_18 ?_
      refine aw_istore_n C dX9_allWords_19 (by decide) rfl ?_
      refine aw_nl [some (.ref 181), some (.int (v1 + r1.1)), some (.int v2)] rfl ?_
      refine aw_iinc C (v2 + (1 : Int32)) dX9_allWords_20 rfl (by rw [ki_1]) (by decide) rfl ?_
      refine aw_nl [some (.ref 181), some (.int (v1 + r1.1)), some (.int (v2 + (1 : Int32)))] rfl ?_
      refine aw_goto C 4 dX9_allWords_23 (by decide) ?_
      refine aw_fl [some (.ref 181), some (.int (v1 + r1.1)), some (.int (v2 + (1 : Int32)))] ⟨rfl, ⟨rfl, ⟨rfl, trivial⟩⟩⟩ ?_
      exact ih (v1 + r1.1) (v2 + (1 : Int32)) r1.2 h
def mX9_allWords (σ : RS9) : Option (Int32 × RS9) := mX9_allWords_l4 rFU (0 : Int32) (0 : Int32) σ
set_option maxHeartbeats 1000000 in
theorem rmX9_allWords {X : GX} {l : Launch} {f : AH} {n : Nat} {r : Int32 × RS9} {σ : RS9} (h : mX9_allWords σ = some r) : AM X l yX9_allWords cX9_allWords 3 (some .int) 3 0 0 [.ref 181] (rHm f σ) n (QMi f n r) := by
  have h : mX9_allWords_l4 rFU (0 : Int32) (0 : Int32) σ = some r := h
  refine AM.of (by decide +kernel) rfl (Nat.le_of_ble_eq_true rfl) (fun p e s m args below meth c C _ => ?_)
  refine aw_nl [some (.ref 181), none, none] rfl ?_
  refine aw_iconst C 0 dX9_allWords_0 ki_0 ?_
  refine aw_istore_n C dX9_allWords_1 (by decide) rfl ?_
  refine aw_nl [some (.ref 181), some (.int (0 : Int32)), none] rfl ?_
  refine aw_iconst C 0 dX9_allWords_2 ki_0 ?_
  refine aw_istore_n C dX9_allWords_3 (by decide) rfl ?_
  refine aw_nl [some (.ref 181), some (.int (0 : Int32)), some (.int (0 : Int32))] rfl ?_
  refine aw_fl [some (.ref 181), some (.int (0 : Int32)), some (.int (0 : Int32))] ⟨rfl, ⟨rfl, ⟨rfl, trivial⟩⟩⟩ ?_
  exact rmX9_allWords_l4 C rFU (0 : Int32) (0 : Int32) σ h
def mX9_longest_b29 (rec4 : Int32 → Int32 → RS9 → Option (Int32 × RS9)) (v1 : Int32) (v2 : Int32) (σ : RS9) : Option (Int32 × RS9) := rec4 v1 (v2 + (1 : Int32)) σ
set_option maxHeartbeats 1000000 in
theorem rmX9_longest_b29 {X : GX} {p : Program} {l : Launch} {e : Env} {s : State} {m : MethodId} {args : Array Value} {below : List Frame} {meth : Method} {c : Code} {f : AH} {n : Nat} {r : Int32 × RS9} {rec4 : Int32 → Int32 → RS9 → Option (Int32 × RS9)} {v1 : Int32} {v2 : Int32} {σ : RS9} (C : CC X p l (RM 0 0 0) s m args meth c RX9 cX9_longest 3 (some .int)) (Hr4 : ∀ (v1 : Int32) (v2 : Int32) (σ : RS9), rec4 v1 v2 σ = some r → AW X p l e (RM 0 0 0) s m args below meth c 3 (ZM X below args s 0 0 (QMi f n r)) (rHm f σ) n 0 0 4 [some (.ref 181), some (.int v1), some (.int v2)] []) (h : mX9_longest_b29 rec4 v1 v2 σ = some r) : AW X p l e (RM 0 0 0) s m args below meth c 3 (ZM X below args s 0 0 (QMi f n r)) (rHm f σ) n 0 0 29 [some (.ref 181), some (.int v1), some (.int v2)] [] := by
  have h : rec4 v1 (v2 + (1 : Int32)) σ = some r := h
  refine aw_iinc C (v2 + (1 : Int32)) dX9_longest_29 rfl (by rw [ki_1]) (by decide) rfl ?_
  refine aw_nl [some (.ref 181), some (.int v1), some (.int (v2 + (1 : Int32)))] rfl ?_
  refine aw_goto C 4 dX9_longest_32 (by decide) ?_
  refine aw_fl [some (.ref 181), some (.int v1), some (.int (v2 + (1 : Int32)))] ⟨rfl, ⟨rfl, ⟨rfl, trivial⟩⟩⟩ ?_
  exact Hr4 v1 (v2 + (1 : Int32)) σ h
def mX9_longest_l4 : Nat → Int32 → Int32 → RS9 → Option (Int32 × RS9)
  | 0, _, _, _ => none
  | d + 1, v1, v2, σ => (if (σ.1 33) ≤ v2 then some (v1, σ) else rCk (rIn v2 (rLen 42)) ((if (rGa σ 42 v2) ≤ v1 then mX9_longest_b29 (fun v1 v2 σ => mX9_longest_l4 d v1 v2 σ) v1 v2 σ else rCk (rIn v2 (rLen 42)) (mX9_longest_b29 (fun v1 v2 σ => mX9_longest_l4 d v1 v2 σ) (rGa σ 42 v2) v2 σ))))
set_option maxHeartbeats 1000000 in
theorem rmX9_longest_l4 {X : GX} {p : Program} {l : Launch} {e : Env} {s : State} {m : MethodId} {args : Array Value} {below : List Frame} {meth : Method} {c : Code} {f : AH} {n : Nat} {r : Int32 × RS9} (C : CC X p l (RM 0 0 0) s m args meth c RX9 cX9_longest 3 (some .int)) : ∀ (d : Nat) (v1 : Int32) (v2 : Int32) (σ : RS9) (_ : mX9_longest_l4 d v1 v2 σ = some r), AW X p l e (RM 0 0 0) s m args below meth c 3 (ZM X below args s 0 0 (QMi f n r)) (rHm f σ) n 0 0 4 [some (.ref 181), some (.int v1), some (.int v2)] [] := by
  intro d
  induction d with
  | zero =>
    intro v1 v2 σ h
    exact nomatch (show (none : Option (Int32 × RS9)) = some r from h)
  | succ d ih =>
    intro v1 v2 σ h
    have h : (if (σ.1 33) ≤ v2 then some (v1, σ) else rCk (rIn v2 (rLen 42)) ((if (rGa σ 42 v2) ≤ v1 then mX9_longest_b29 (fun v1 v2 σ => mX9_longest_l4 d v1 v2 σ) v1 v2 σ else rCk (rIn v2 (rLen 42)) (mX9_longest_b29 (fun v1 v2 σ => mX9_longest_l4 d v1 v2 σ) (rGa σ 42 v2) v2 σ)))) = some r := h
    refine aw_iload_n C dX9_longest_4 rfl ?_
    refine aw_ald_n C dX9_longest_5 rfl ?_
    refine aw_get C (v := .int (σ.1 33)) gf_X9_204 (hm_M f σ) rfl dX9_longest_6 ?_
    refine aw_icmp_ge C 35 dX9_longest_9 (by decide) (fun q => ?_) (fun q => ?_)
    · rw [if_pos q] at h
      refine aw_iload_n C dX9_longest_35 rfl ?_
      cases h
      exact aw_iret C rfl rfl dX9_longest_36 (Nat.le_refl _) (Nat.le_refl _) ⟨rfl, rfl, rfl⟩
    · rw [if_neg q] at h
      refine aw_ald_n C dX9_longest_12 rfl ?_
      refine aw_get C (v := .ref (rAid 42)) gf_X9_105 (hm_M f σ) rfl dX9_longest_13 ?_
      refine aw_iload_n C dX9_longest_16 rfl ?_
      obtain ⟨hb1, h⟩ := ck_some h
      refine am_iald C (rGa σ 42 v2) rfl (inb_vp hb1) rfl dX9_longest_17 ?_
      refine aw_iload_n C dX9_longest_18 rfl ?_
      refine aw_icmp_le C 29 dX9_longest_19 (by decide) (fun q => ?_) (fun q => ?_)
      · rw [if_pos q] at h
        refine aw_fl [some (.ref 181), some (.int v1), some (.int v2)] ⟨rfl, ⟨rfl, ⟨rfl, trivial⟩⟩⟩ ?_
        exact rmX9_longest_b29 C (fun v1 v2 σ h => ih v1 v2 σ h) h
      · rw [if_neg q] at h
        refine aw_ald_n C dX9_longest_22 rfl ?_
        refine aw_get C (v := .ref (rAid 42)) gf_X9_105 (hm_M f σ) rfl dX9_longest_23 ?_
        refine aw_iload_n C dX9_longest_26 rfl ?_
        obtain ⟨hb2, h⟩ := ck_some h
        refine am_iald C (rGa σ 42 v2) rfl (inb_vp hb2) rfl dX9_longest_27 ?_
        refine aw_istore_n C dX9_longest_28 (by decide) rfl ?_
        refine aw_nl [some (.ref 181), some (.int (rGa σ 42 v2)), some (.int v2)] rfl ?_
        refine aw_fl [some (.ref 181), some (.int (rGa σ 42 v2)), some (.int v2)] ⟨rfl, ⟨rfl, ⟨rfl, trivial⟩⟩⟩ ?_
        exact rmX9_longest_b29 C (fun v1 v2 σ h => ih v1 v2 σ h) h
def mX9_longest (σ : RS9) : Option (Int32 × RS9) := mX9_longest_l4 rFU (0 : Int32) (0 : Int32) σ
set_option maxHeartbeats 1000000 in
theorem rmX9_longest {X : GX} {l : Launch} {f : AH} {n : Nat} {r : Int32 × RS9} {σ : RS9} (h : mX9_longest σ = some r) : AM X l yX9_longest cX9_longest 3 (some .int) 0 0 0 [.ref 181] (rHm f σ) n (QMi f n r) := by
  have h : mX9_longest_l4 rFU (0 : Int32) (0 : Int32) σ = some r := h
  refine AM.of (by decide +kernel) rfl (Nat.le_of_ble_eq_true rfl) (fun p e s m args below meth c C _ => ?_)
  refine aw_nl [some (.ref 181), none, none] rfl ?_
  refine aw_iconst C 0 dX9_longest_0 ki_0 ?_
  refine aw_istore_n C dX9_longest_1 (by decide) rfl ?_
  refine aw_nl [some (.ref 181), some (.int (0 : Int32)), none] rfl ?_
  refine aw_iconst C 0 dX9_longest_2 ki_0 ?_
  refine aw_istore_n C dX9_longest_3 (by decide) rfl ?_
  refine aw_nl [some (.ref 181), some (.int (0 : Int32)), some (.int (0 : Int32))] rfl ?_
  refine aw_fl [some (.ref 181), some (.int (0 : Int32)), some (.int (0 : Int32))] ⟨rfl, ⟨rfl, ⟨rfl, trivial⟩⟩⟩ ?_
  exact rmX9_longest_l4 C rFU (0 : Int32) (0 : Int32) σ h
