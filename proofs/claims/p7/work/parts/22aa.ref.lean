def mX9_feed_b76 (rec23 : Int32 → Int32 → Int32 → Int32 → Int32 → Int32 → RS9 → Option (Int32 × RS9)) (v1 : Int32) (v2 : Int32) (v3 : Int32) (v4 : Int32) (v5 : Int32) (v6 : Int32) (s0 : Int32) (σ : RS9) : Option (Int32 × RS9) := rCk (rIn (σ.1 9) (rLen 8)) (rec23 v1 v2 v3 v4 v5 (v6 + (1 : Int32)) (rSf (rSa σ 8 (σ.1 9) ((s0.toUInt32 >>> (((24 : Int32) - ((8 : Int32) * (v6 - v6 / (4 : Int32) * (4 : Int32)))).toUInt32 &&& Int32.toUInt32 31)).toInt32 &&& (255 : Int32))) 9 ((σ.1 9) + (1 : Int32))))
set_option maxHeartbeats 1000000 in
theorem rmX9_feed_b76 {X : GX} {p : Program} {l : Launch} {e : Env} {s : State} {m : MethodId} {args : Array Value} {below : List Frame} {meth : Method} {c : Code} {f : AH} {n : Nat} {r : Int32 × RS9} {rec23 : Int32 → Int32 → Int32 → Int32 → Int32 → Int32 → RS9 → Option (Int32 × RS9)} {v1 : Int32} {v2 : Int32} {v3 : Int32} {v4 : Int32} {v5 : Int32} {v6 : Int32} {s0 : Int32} {σ : RS9} (C : CC X p l (RM 0 0 0) s m args meth c RX9 cX9_feed 8 (some .int)) (Hr23 : ∀ (v1 : Int32) (v2 : Int32) (v3 : Int32) (v4 : Int32) (v5 : Int32) (v6 : Int32) (σ : RS9), rec23 v1 v2 v3 v4 v5 v6 σ = some r → AW X p l e (RM 0 0 0) s m args below meth c 8 (ZM X below args s 0 0 (QMi f n r)) (rHm f σ) n 0 0 23 [some (.ref 181), some (.int v1), some (.int v2), some (.int v3), some (.int v4), some (.int v5), some (.int v6), none] []) (h : mX9_feed_b76 rec23 v1 v2 v3 v4 v5 v6 s0 σ = some r) : AW X p l e (RM 0 0 0) s m args below meth c 8 (ZM X below args s 0 0 (QMi f n r)) (rHm f σ) n 0 0 76 [some (.ref 181), some (.int v1), some (.int v2), some (.int v3), some (.int v4), some (.int v5), some (.int v6), none] [.int s0] := by
  have h : rCk (rIn (σ.1 9) (rLen 8)) (rec23 v1 v2 v3 v4 v5 (v6 + (1 : Int32)) (rSf (rSa σ 8 (σ.1 9) ((s0.toUInt32 >>> (((24 : Int32) - ((8 : Int32) * (v6 - v6 / (4 : Int32) * (4 : Int32)))).toUInt32 &&& Int32.toUInt32 31)).toInt32 &&& (255 : Int32))) 9 ((σ.1 9) + (1 : Int32)))) = some r := h
  refine aw_istore C dX9_feed_76 (by decide) rfl ?_
  refine aw_nl [some (.ref 181), some (.int v1), some (.int v2), some (.int v3), some (.int v4), some (.int v5), some (.int v6), some (.int s0)] rfl ?_
  refine aw_ald_n C dX9_feed_78 rfl ?_
  refine aw_get C (v := .ref (rAid 8)) gf_X9_23 (hm_M f σ) rfl dX9_feed_79 ?_
  refine aw_ald_n C dX9_feed_82 rfl ?_
  refine aw_get C (v := .int (σ.1 9)) gf_X9_337 (hm_M f σ) rfl dX9_feed_83 ?_
  refine aw_iload C dX9_feed_86 rfl ?_
  refine aw_bipush C 24 dX9_feed_88 kb_24 ?_
  refine aw_bipush C 8 dX9_feed_90 kb_8 ?_
  refine aw_iload C dX9_feed_92 rfl ?_
  refine aw_iconst C 4 dX9_feed_94 ki_4 ?_
  refine aw_irem C dX9_feed_95 (by decide) ?_
  refine aw_imul C dX9_feed_96 ?_
  refine aw_isub C dX9_feed_97 ?_
  refine aw_iushr C dX9_feed_98 ?_
  refine aw_sipush C 255 dX9_feed_99 ks_255 ?_
  refine aw_iand C dX9_feed_102 ?_
  obtain ⟨hb1, h⟩ := ck_some h
  refine am_iast C rfl (inb_vp hb1) dX9_feed_103 ?_
  refine aw_ald_n C dX9_feed_104 rfl ?_
  refine aw_dup C dX9_feed_105 rfl ?_
  refine aw_get C (v := .int (σ.1 9)) gf_X9_337 (hm_M f (rSa σ 8 (σ.1 9) ((s0.toUInt32 >>> (((24 : Int32) - ((8 : Int32) * (v6 - v6 / (4 : Int32) * (4 : Int32)))).toUInt32 &&& Int32.toUInt32 31)).toInt32 &&& (255 : Int32)))) rfl dX9_feed_106 ?_
  refine aw_iconst C 1 dX9_feed_109 ki_1 ?_
  refine aw_iadd C dX9_feed_110 ?_
  refine am_put C gf_X9_337 nf9_9 rfl rfl dX9_feed_111 ?_
  refine aw_iinc C (v6 + (1 : Int32)) dX9_feed_114 rfl (by rw [ki_1]) (by decide) rfl ?_
  refine aw_nl [some (.ref 181), some (.int v1), some (.int v2), some (.int v3), some (.int v4), some (.int v5), some (.int (v6 + (1 : Int32))), some (.int s0)] rfl ?_
  refine aw_goto C 23 dX9_feed_117 (by decide) ?_
  refine aw_fl [some (.ref 181), some (.int v1), some (.int v2), some (.int v3), some (.int v4), some (.int v5), some (.int (v6 + (1 : Int32))), none] ⟨rfl, ⟨rfl, ⟨rfl, ⟨rfl, ⟨rfl, ⟨rfl, ⟨rfl, trivial⟩⟩⟩⟩⟩⟩⟩ ?_
  exact Hr23 v1 v2 v3 v4 v5 (v6 + (1 : Int32)) (rSf (rSa σ 8 (σ.1 9) ((s0.toUInt32 >>> (((24 : Int32) - ((8 : Int32) * (v6 - v6 / (4 : Int32) * (4 : Int32)))).toUInt32 &&& Int32.toUInt32 31)).toInt32 &&& (255 : Int32))) 9 ((σ.1 9) + (1 : Int32))) h
def mX9_feed_l23 : Nat → Int32 → Int32 → Int32 → Int32 → Int32 → Int32 → RS9 → Option (Int32 × RS9)
  | 0, _, _, _, _, _, _, _ => none
  | d + 1, v1, v2, v3, v4, v5, v6, σ => (if (20 : Int32) ≤ v6 then some ((σ.1 9), σ) else (if (4 : Int32) ≤ v6 then (if (8 : Int32) ≤ v6 then (if (12 : Int32) ≤ v6 then (if (16 : Int32) ≤ v6 then mX9_feed_b76 (fun v1 v2 v3 v4 v5 v6 σ => mX9_feed_l23 d v1 v2 v3 v4 v5 v6 σ) v1 v2 v3 v4 v5 v6 v5 σ else mX9_feed_b76 (fun v1 v2 v3 v4 v5 v6 σ => mX9_feed_l23 d v1 v2 v3 v4 v5 v6 σ) v1 v2 v3 v4 v5 v6 v4 σ) else mX9_feed_b76 (fun v1 v2 v3 v4 v5 v6 σ => mX9_feed_l23 d v1 v2 v3 v4 v5 v6 σ) v1 v2 v3 v4 v5 v6 v3 σ) else mX9_feed_b76 (fun v1 v2 v3 v4 v5 v6 σ => mX9_feed_l23 d v1 v2 v3 v4 v5 v6 σ) v1 v2 v3 v4 v5 v6 v2 σ) else mX9_feed_b76 (fun v1 v2 v3 v4 v5 v6 σ => mX9_feed_l23 d v1 v2 v3 v4 v5 v6 σ) v1 v2 v3 v4 v5 v6 v1 σ))
set_option maxHeartbeats 1000000 in
theorem rmX9_feed_l23 {X : GX} {p : Program} {l : Launch} {e : Env} {s : State} {m : MethodId} {args : Array Value} {below : List Frame} {meth : Method} {c : Code} {f : AH} {n : Nat} {r : Int32 × RS9} (C : CC X p l (RM 0 0 0) s m args meth c RX9 cX9_feed 8 (some .int)) : ∀ (d : Nat) (v1 : Int32) (v2 : Int32) (v3 : Int32) (v4 : Int32) (v5 : Int32) (v6 : Int32) (σ : RS9) (_ : mX9_feed_l23 d v1 v2 v3 v4 v5 v6 σ = some r), AW X p l e (RM 0 0 0) s m args below meth c 8 (ZM X below args s 0 0 (QMi f n r)) (rHm f σ) n 0 0 23 [some (.ref 181), some (.int v1), some (.int v2), some (.int v3), some (.int v4), some (.int v5), some (.int v6), none] [] := by
  intro d
  induction d with
  | zero =>
    intro v1 v2 v3 v4 v5 v6 σ h
    exact nomatch (show (none : Option (Int32 × RS9)) = some r from h)
  | succ d ih =>
    intro v1 v2 v3 v4 v5 v6 σ h
    have h : (if (20 : Int32) ≤ v6 then some ((σ.1 9), σ) else (if (4 : Int32) ≤ v6 then (if (8 : Int32) ≤ v6 then (if (12 : Int32) ≤ v6 then (if (16 : Int32) ≤ v6 then mX9_feed_b76 (fun v1 v2 v3 v4 v5 v6 σ => mX9_feed_l23 d v1 v2 v3 v4 v5 v6 σ) v1 v2 v3 v4 v5 v6 v5 σ else mX9_feed_b76 (fun v1 v2 v3 v4 v5 v6 σ => mX9_feed_l23 d v1 v2 v3 v4 v5 v6 σ) v1 v2 v3 v4 v5 v6 v4 σ) else mX9_feed_b76 (fun v1 v2 v3 v4 v5 v6 σ => mX9_feed_l23 d v1 v2 v3 v4 v5 v6 σ) v1 v2 v3 v4 v5 v6 v3 σ) else mX9_feed_b76 (fun v1 v2 v3 v4 v5 v6 σ => mX9_feed_l23 d v1 v2 v3 v4 v5 v6 σ) v1 v2 v3 v4 v5 v6 v2 σ) else mX9_feed_b76 (fun v1 v2 v3 v4 v5 v6 σ => mX9_feed_l23 d v1 v2 v3 v4 v5 v6 σ) v1 v2 v3 v4 v5 v6 v1 σ)) = some r := h
    refine aw_iload C dX9_feed_23 rfl ?_
    refine aw_bipush C 20 dX9_feed_25 kb_20 ?_
    refine aw_icmp_ge C 120 dX9_feed_27 (by decide) (fun q => ?_) (fun q => ?_)
    · rw [if_pos q] at h
      refine aw_ald_n C dX9_feed_120 rfl ?_
      refine aw_get C (v := .int (σ.1 9)) gf_X9_337 (hm_M f σ) rfl dX9_feed_121 ?_
      cases h
      exact aw_iret C rfl rfl dX9_feed_124 (Nat.le_refl _) (Nat.le_refl _) ⟨rfl, rfl, rfl⟩
    · rw [if_neg q] at h
      refine aw_iload C dX9_feed_30 rfl ?_
      refine aw_iconst C 4 dX9_feed_32 ki_4 ?_
      refine aw_icmp_ge C 40 dX9_feed_33 (by decide) (fun q => ?_) (fun q => ?_)
      · rw [if_pos q] at h
        refine aw_iload C dX9_feed_40 rfl ?_
        refine aw_bipush C 8 dX9_feed_42 kb_8 ?_
        refine aw_icmp_ge C 51 dX9_feed_44 (by decide) (fun q => ?_) (fun q => ?_)
        · rw [if_pos q] at h
          refine aw_iload C dX9_feed_51 rfl ?_
          refine aw_bipush C 12 dX9_feed_53 kb_12 ?_
          refine aw_icmp_ge C 62 dX9_feed_55 (by decide) (fun q => ?_) (fun q => ?_)
          · rw [if_pos q] at h
            refine aw_iload C dX9_feed_62 rfl ?_
            refine aw_bipush C 16 dX9_feed_64 kb_16 ?_
            refine aw_icmp_ge C 74 dX9_feed_66 (by decide) (fun q => ?_) (fun q => ?_)
            · rw [if_pos q] at h
              refine aw_iload C dX9_feed_74 rfl ?_
              refine aw_fl [some (.ref 181), some (.int v1), some (.int v2), some (.int v3), some (.int v4), some (.int v5), some (.int v6), none] ⟨rfl, ⟨rfl, ⟨rfl, ⟨rfl, ⟨rfl, ⟨rfl, ⟨rfl, trivial⟩⟩⟩⟩⟩⟩⟩ ?_
              exact rmX9_feed_b76 C (fun v1 v2 v3 v4 v5 v6 σ h => ih v1 v2 v3 v4 v5 v6 σ h) h
            · rw [if_neg q] at h
              refine aw_iload C dX9_feed_69 rfl ?_
              refine aw_goto C 76 dX9_feed_71 (by decide) ?_
              refine aw_fl [some (.ref 181), some (.int v1), some (.int v2), some (.int v3), some (.int v4), some (.int v5), some (.int v6), none] ⟨rfl, ⟨rfl, ⟨rfl, ⟨rfl, ⟨rfl, ⟨rfl, ⟨rfl, trivial⟩⟩⟩⟩⟩⟩⟩ ?_
              exact rmX9_feed_b76 C (fun v1 v2 v3 v4 v5 v6 σ h => ih v1 v2 v3 v4 v5 v6 σ h) h
          · rw [if_neg q] at h
            refine aw_iload_n C dX9_feed_58 rfl ?_
            refine aw_goto C 76 dX9_feed_59 (by decide) ?_
            refine aw_fl [some (.ref 181), some (.int v1), some (.int v2), some (.int v3), some (.int v4), some (.int v5), some (.int v6), none] ⟨rfl, ⟨rfl, ⟨rfl, ⟨rfl, ⟨rfl, ⟨rfl, ⟨rfl, trivial⟩⟩⟩⟩⟩⟩⟩ ?_
            exact rmX9_feed_b76 C (fun v1 v2 v3 v4 v5 v6 σ h => ih v1 v2 v3 v4 v5 v6 σ h) h
        · rw [if_neg q] at h
          refine aw_iload_n C dX9_feed_47 rfl ?_
          refine aw_goto C 76 dX9_feed_48 (by decide) ?_
          refine aw_fl [some (.ref 181), some (.int v1), some (.int v2), some (.int v3), some (.int v4), some (.int v5), some (.int v6), none] ⟨rfl, ⟨rfl, ⟨rfl, ⟨rfl, ⟨rfl, ⟨rfl, ⟨rfl, trivial⟩⟩⟩⟩⟩⟩⟩ ?_
          exact rmX9_feed_b76 C (fun v1 v2 v3 v4 v5 v6 σ h => ih v1 v2 v3 v4 v5 v6 σ h) h
      · rw [if_neg q] at h
        refine aw_iload_n C dX9_feed_36 rfl ?_
        refine aw_goto C 76 dX9_feed_37 (by decide) ?_
        refine aw_fl [some (.ref 181), some (.int v1), some (.int v2), some (.int v3), some (.int v4), some (.int v5), some (.int v6), none] ⟨rfl, ⟨rfl, ⟨rfl, ⟨rfl, ⟨rfl, ⟨rfl, ⟨rfl, trivial⟩⟩⟩⟩⟩⟩⟩ ?_
        exact rmX9_feed_b76 C (fun v1 v2 v3 v4 v5 v6 σ h => ih v1 v2 v3 v4 v5 v6 σ h) h
def mX9_feed (v1 : Int32) (v2 : Int32) (v3 : Int32) (v4 : Int32) (v5 : Int32) (σ : RS9) : Option (Int32 × RS9) := (if ((σ.1 9) + (20 : Int32)) ≤ (400 : Int32) then mX9_feed_l23 rFU v1 v2 v3 v4 v5 (0 : Int32) (rSf σ 0 (0 : Int32)) else some ((-1 : Int32), (rSf σ 0 (0 : Int32))))
set_option maxHeartbeats 1000000 in
theorem rmX9_feed {X : GX} {l : Launch} {f : AH} {n : Nat} {r : Int32 × RS9} {v1 : Int32} {v2 : Int32} {v3 : Int32} {v4 : Int32} {v5 : Int32} {σ : RS9} (h : mX9_feed v1 v2 v3 v4 v5 σ = some r) : AM X l yX9_feed cX9_feed 8 (some .int) 0 0 0 [.ref 181, .int v1, .int v2, .int v3, .int v4, .int v5] (rHm f σ) n (QMi f n r) := by
  have h : (if ((σ.1 9) + (20 : Int32)) ≤ (400 : Int32) then mX9_feed_l23 rFU v1 v2 v3 v4 v5 (0 : Int32) (rSf σ 0 (0 : Int32)) else some ((-1 : Int32), (rSf σ 0 (0 : Int32)))) = some r := h
  refine AM.of (by decide +kernel) rfl (Nat.le_of_ble_eq_true rfl) (fun p e s m args below meth c C _ => ?_)
  refine aw_nl [some (.ref 181), some (.int v1), some (.int v2), some (.int v3), some (.int v4), some (.int v5), none, none] rfl ?_
  refine aw_ald_n C dX9_feed_0 rfl ?_
  refine aw_iconst C 0 dX9_feed_1 ki_0 ?_
  refine am_put C gf_X9_138 nf9_0 rfl rfl dX9_feed_2 ?_
  refine aw_ald_n C dX9_feed_5 rfl ?_
  refine aw_get C (v := .int (σ.1 9)) gf_X9_337 (hm_M f (rSf σ 0 (0 : Int32))) rfl dX9_feed_6 ?_
  refine aw_bipush C 20 dX9_feed_9 kb_20 ?_
  refine aw_iadd C dX9_feed_11 ?_
  refine aw_sipush C 400 dX9_feed_12 ks_400 ?_
  refine aw_icmp_le C 20 dX9_feed_15 (by decide) (fun q => ?_) (fun q => ?_)
  · rw [if_pos q] at h
    refine aw_iconst C 0 dX9_feed_20 ki_0 ?_
    refine aw_istore C dX9_feed_21 (by decide) rfl ?_
    refine aw_nl [some (.ref 181), some (.int v1), some (.int v2), some (.int v3), some (.int v4), some (.int v5), some (.int (0 : Int32)), none] rfl ?_
    refine aw_fl [some (.ref 181), some (.int v1), some (.int v2), some (.int v3), some (.int v4), some (.int v5), some (.int (0 : Int32)), none] ⟨rfl, ⟨rfl, ⟨rfl, ⟨rfl, ⟨rfl, ⟨rfl, ⟨rfl, trivial⟩⟩⟩⟩⟩⟩⟩ ?_
    exact rmX9_feed_l23 C rFU v1 v2 v3 v4 v5 (0 : Int32) (rSf σ 0 (0 : Int32)) h
  · rw [if_neg q] at h
    refine aw_iconst C (-1) dX9_feed_18 ki_m1 ?_
    cases h
    exact aw_iret C rfl rfl dX9_feed_19 (Nat.le_refl _) (Nat.le_refl _) ⟨rfl, rfl, rfl⟩
def mX9_isIn_b15 (s0 : Int32) (σ : RS9) : Option (Int32 × RS9) := rCk (rNb s0) (some (s0, σ))
set_option maxHeartbeats 1000000 in
theorem rmX9_isIn_b15 {X : GX} {p : Program} {l : Launch} {e : Env} {s : State} {m : MethodId} {args : Array Value} {below : List Frame} {meth : Method} {c : Code} {f : AH} {n : Nat} {r : Int32 × RS9} {s0 : Int32} {σ : RS9} (C : CC X p l (RM 0 0 0) s m args meth c RX9 cX9_isIn 3 (some .boolean)) (h : mX9_isIn_b15 s0 σ = some r) : AW X p l e (RM 0 0 0) s m args below meth c 3 (ZM X below args s 0 0 (QMi f n r)) (rHm f σ) n 0 0 15 [none, none, none] [.int s0] := by
  have h : rCk (rNb s0) (some (s0, σ)) = some r := h
  obtain ⟨hb1, h⟩ := ck_some h
  cases h
  exact aw_iret C rfl (nb_nar hb1) dX9_isIn_15 (Nat.le_refl _) (Nat.le_refl _) ⟨rfl, rfl, rfl⟩
def mX9_isIn_b14 (σ : RS9) : Option (Int32 × RS9) := mX9_isIn_b15 (0 : Int32) σ
set_option maxHeartbeats 1000000 in
theorem rmX9_isIn_b14 {X : GX} {p : Program} {l : Launch} {e : Env} {s : State} {m : MethodId} {args : Array Value} {below : List Frame} {meth : Method} {c : Code} {f : AH} {n : Nat} {r : Int32 × RS9} {σ : RS9} (C : CC X p l (RM 0 0 0) s m args meth c RX9 cX9_isIn 3 (some .boolean)) (h : mX9_isIn_b14 σ = some r) : AW X p l e (RM 0 0 0) s m args below meth c 3 (ZM X below args s 0 0 (QMi f n r)) (rHm f σ) n 0 0 14 [none, none, none] [] := by
  have h : mX9_isIn_b15 (0 : Int32) σ = some r := h
  refine aw_iconst C 0 dX9_isIn_14 ki_0 ?_
  refine aw_fl [none, none, none] trivial ?_
  exact rmX9_isIn_b15 C h
def mX9_isIn (v0 : Int32) (v1 : Int32) (v2 : Int32) (σ : RS9) : Option (Int32 × RS9) := (if v0 < v1 then mX9_isIn_b14 σ else (if v2 < v0 then mX9_isIn_b14 σ else mX9_isIn_b15 (1 : Int32) σ))
set_option maxHeartbeats 1000000 in
theorem rmX9_isIn {X : GX} {l : Launch} {f : AH} {n : Nat} {r : Int32 × RS9} {v0 : Int32} {v1 : Int32} {v2 : Int32} {σ : RS9} (h : mX9_isIn v0 v1 v2 σ = some r) : AM X l yX9_isIn cX9_isIn 3 (some .boolean) 0 0 0 [.int v0, .int v1, .int v2] (rHm f σ) n (QMi f n r) := by
  have h : (if v0 < v1 then mX9_isIn_b14 σ else (if v2 < v0 then mX9_isIn_b14 σ else mX9_isIn_b15 (1 : Int32) σ)) = some r := h
  refine AM.of (by decide +kernel) rfl (Nat.le_of_ble_eq_true rfl) (fun p e s m args below meth c C _ => ?_)
  refine aw_nl [some (.int v0), some (.int v1), some (.int v2)] rfl ?_
  refine aw_iload_n C dX9_isIn_0 rfl ?_
  refine aw_iload_n C dX9_isIn_1 rfl ?_
  refine aw_icmp_lt C 14 dX9_isIn_2 (by decide) (fun q => ?_) (fun q => ?_)
  · rw [if_pos q] at h
    refine aw_fl [none, none, none] trivial ?_
    exact rmX9_isIn_b14 C h
  · rw [if_neg q] at h
    refine aw_iload_n C dX9_isIn_5 rfl ?_
    refine aw_iload_n C dX9_isIn_6 rfl ?_
    refine aw_icmp_gt C 14 dX9_isIn_7 (by decide) (fun q => ?_) (fun q => ?_)
    · rw [if_pos q] at h
      refine aw_fl [none, none, none] trivial ?_
      exact rmX9_isIn_b14 C h
    · rw [if_neg q] at h
      refine aw_iconst C 1 dX9_isIn_10 ki_1 ?_
      refine aw_goto C 15 dX9_isIn_11 (by decide) ?_
      refine aw_fl [none, none, none] trivial ?_
      exact rmX9_isIn_b15 C h
def mX9_end (v1 : Int32) (σ : RS9) : Option (Int32 × RS9) := ((mX9_isIn v1 (0 : Int32) (σ.1 9) (rSf σ 0 (0 : Int32))).bind fun r1 => (if r1.1 = (0 : Int32) then rCk (rNb (0 : Int32)) (some ((0 : Int32), r1.2)) else rCk (rNb (1 : Int32)) (some ((1 : Int32), (rSf r1.2 9 v1)))))
set_option maxHeartbeats 1000000 in
theorem rmX9_end {X : GX} {l : Launch} {f : AH} {n : Nat} {r : Int32 × RS9} {v1 : Int32} {σ : RS9} (h : mX9_end v1 σ = some r) : AM X l yX9_end cX9_end 2 (some .boolean) 1 0 0 [.ref 181, .int v1] (rHm f σ) n (QMi f n r) := by
  have h : ((mX9_isIn v1 (0 : Int32) (σ.1 9) (rSf σ 0 (0 : Int32))).bind fun r1 => (if r1.1 = (0 : Int32) then rCk (rNb (0 : Int32)) (some ((0 : Int32), r1.2)) else rCk (rNb (1 : Int32)) (some ((1 : Int32), (rSf r1.2 9 v1))))) = some r := h
  refine AM.of (by decide +kernel) rfl (Nat.le_of_ble_eq_true rfl) (fun p e s m args below meth c C _ => ?_)
  refine aw_nl [some (.ref 181), some (.int v1)] rfl ?_
  refine aw_ald_n C dX9_end_0 rfl ?_
  refine aw_iconst C 0 dX9_end_1 ki_0 ?_
  refine am_put C gf_X9_138 nf9_0 rfl rfl dX9_end_2 ?_
  refine aw_iload_n C dX9_end_5 rfl ?_
  refine aw_iconst C 0 dX9_end_6 ki_0 ?_
  refine aw_ald_n C dX9_end_7 rfl ?_
  refine aw_get C (v := .int (σ.1 9)) gf_X9_337 (hm_M f (rSf σ 0 (0 : Int32))) rfl dX9_end_8 ?_
  obtain ⟨r1, h1, h⟩ := Option.bind_eq_some_iff.mp h
  refine aw_callS C [.int v1, .int (0 : Int32), .int (σ.1 9)] ms_X9_141 (rmX9_isIn h1) rfl dX9_end_11 (Nat.le_of_ble_eq_true rfl) (Nat.le_of_ble_eq_true rfl) rfl (Nat.le_of_ble_eq_true rfl) (Nat.le_of_ble_eq_true rfl) (Nat.le_of_ble_eq_true rfl) (fun v9 f9 n9 hh => ?_)
  obtain ⟨rfl, rfl, rfl⟩ := hh
  refine aw_if_ne C 19 dX9_end_14 (by decide) (fun q => ?_) (fun q => ?_)
  · rw [if_neg q] at h
    refine aw_ald_n C dX9_end_19 rfl ?_
    refine aw_iload_n C dX9_end_20 rfl ?_
    refine am_put C gf_X9_337 nf9_9 rfl rfl dX9_end_21 ?_
    refine aw_iconst C 1 dX9_end_24 ki_1 ?_
    obtain ⟨hb2, h⟩ := ck_some h
    cases h
    exact aw_iret C rfl (nb_nar hb2) dX9_end_25 (Nat.le_refl _) (Nat.le_refl _) ⟨rfl, rfl, rfl⟩
  · rw [if_pos q] at h
    refine aw_iconst C 0 dX9_end_17 ki_0 ?_
    obtain ⟨hb3, h⟩ := ck_some h
    cases h
    exact aw_iret C rfl (nb_nar hb3) dX9_end_18 (Nat.le_refl _) (Nat.le_refl _) ⟨rfl, rfl, rfl⟩
def mX9_putsAside_l2 : Nat → Int32 → RS9 → Option (Int32 × RS9)
  | 0, _, _ => none
  | d + 1, v1, σ => (if (4347 : Int32) ≤ v1 then some ((0 : Int32), σ) else rCk (rIn v1 (rLen 1)) (rCk (rIn v1 (rLen 2)) (mX9_putsAside_l2 d (v1 + (1 : Int32)) (rSa σ 2 v1 (rGa σ 1 v1)))))
set_option maxHeartbeats 1000000 in
theorem rmX9_putsAside_l2 {X : GX} {p : Program} {l : Launch} {e : Env} {s : State} {m : MethodId} {args : Array Value} {below : List Frame} {meth : Method} {c : Code} {f : AH} {n : Nat} {r : Int32 × RS9} (C : CC X p l (RM 0 0 0) s m args meth c RX9 cX9_putsAside 2 none) : ∀ (d : Nat) (v1 : Int32) (σ : RS9) (_ : mX9_putsAside_l2 d v1 σ = some r), AW X p l e (RM 0 0 0) s m args below meth c 2 (ZM X below args s 0 0 (QMv f n r)) (rHm f σ) n 0 0 2 [some (.ref 181), some (.int v1)] [] := by
  intro d
  induction d with
  | zero =>
    intro v1 σ h
    exact nomatch (show (none : Option (Int32 × RS9)) = some r from h)
  | succ d ih =>
    intro v1 σ h
    have h : (if (4347 : Int32) ≤ v1 then some ((0 : Int32), σ) else rCk (rIn v1 (rLen 1)) (rCk (rIn v1 (rLen 2)) (mX9_putsAside_l2 d (v1 + (1 : Int32)) (rSa σ 2 v1 (rGa σ 1 v1))))) = some r := h
    refine aw_iload_n C dX9_putsAside_2 rfl ?_
    refine aw_sipush C 4347 dX9_putsAside_3 ks_4347 ?_
    refine aw_icmp_ge C 27 dX9_putsAside_6 (by decide) (fun q => ?_) (fun q => ?_)
    · rw [if_pos q] at h
      cases h
      exact aw_vret C rfl dX9_putsAside_27 (Nat.le_refl _) (Nat.le_refl _) ⟨rfl, rfl, rfl⟩
    · rw [if_neg q] at h
      refine aw_ald_n C dX9_putsAside_9 rfl ?_
      refine aw_get C (v := .ref (rAid 2)) gf_X9_13 (hm_M f σ) rfl dX9_putsAside_10 ?_
      refine aw_iload_n C dX9_putsAside_13 rfl ?_
      refine aw_ald_n C dX9_putsAside_14 rfl ?_
      refine aw_get C (v := .ref (rAid 1)) gf_X9_7 (hm_M f σ) rfl dX9_putsAside_15 ?_
      refine aw_iload_n C dX9_putsAside_18 rfl ?_
      obtain ⟨hb1, h⟩ := ck_some h
      refine am_iald C (rGa σ 1 v1) rfl (inb_vp hb1) rfl dX9_putsAside_19 ?_
      obtain ⟨hb2, h⟩ := ck_some h
      refine am_iast C rfl (inb_vp hb2) dX9_putsAside_20 ?_
      refine aw_iinc C (v1 + (1 : Int32)) dX9_putsAside_21 rfl (by rw [ki_1]) (by decide) rfl ?_
      refine aw_nl [some (.ref 181), some (.int (v1 + (1 : Int32)))] rfl ?_
      refine aw_goto C 2 dX9_putsAside_24 (by decide) ?_
      refine aw_fl [some (.ref 181), some (.int (v1 + (1 : Int32)))] ⟨rfl, ⟨rfl, trivial⟩⟩ ?_
      exact ih (v1 + (1 : Int32)) (rSa σ 2 v1 (rGa σ 1 v1)) h
def mX9_putsAside (σ : RS9) : Option (Int32 × RS9) := mX9_putsAside_l2 rFU (0 : Int32) σ
set_option maxHeartbeats 1000000 in
theorem rmX9_putsAside {X : GX} {l : Launch} {f : AH} {n : Nat} {r : Int32 × RS9} {σ : RS9} (h : mX9_putsAside σ = some r) : AM X l yX9_putsAside cX9_putsAside 2 none 0 0 0 [.ref 181] (rHm f σ) n (QMv f n r) := by
  have h : mX9_putsAside_l2 rFU (0 : Int32) σ = some r := h
  refine AM.of (by decide +kernel) rfl (Nat.le_of_ble_eq_true rfl) (fun p e s m args below meth c C _ => ?_)
  refine aw_nl [some (.ref 181), none] rfl ?_
  refine aw_iconst C 0 dX9_putsAside_0 ki_0 ?_
  refine aw_istore_n C dX9_putsAside_1 (by decide) rfl ?_
  refine aw_nl [some (.ref 181), some (.int (0 : Int32))] rfl ?_
  refine aw_fl [some (.ref 181), some (.int (0 : Int32))] ⟨rfl, ⟨rfl, trivial⟩⟩ ?_
  exact rmX9_putsAside_l2 C rFU (0 : Int32) σ h
def mX9_here_b38 (σ : RS9) : Option (Int32 × RS9) := some ((σ.1 11), σ)
set_option maxHeartbeats 1000000 in
theorem rmX9_here_b38 {X : GX} {p : Program} {l : Launch} {e : Env} {s : State} {m : MethodId} {args : Array Value} {below : List Frame} {meth : Method} {c : Code} {f : AH} {n : Nat} {r : Int32 × RS9} {σ : RS9} (C : CC X p l (RM 0 0 0) s m args meth c RX9 cX9_here 1 (some .int)) (h : mX9_here_b38 σ = some r) : AW X p l e (RM 0 0 0) s m args below meth c 1 (ZM X below args s 0 0 (QMi f n r)) (rHm f σ) n 0 0 38 [some (.ref 181)] [] := by
  have h : some ((σ.1 11), σ) = some r := h
  refine aw_ald_n C dX9_here_38 rfl ?_
  refine aw_get C (v := .int (σ.1 11)) gf_X9_340 (hm_M f σ) rfl dX9_here_39 ?_
  cases h
  exact aw_iret C rfl rfl dX9_here_42 (Nat.le_refl _) (Nat.le_refl _) ⟨rfl, rfl, rfl⟩
def mX9_here_l0 : Nat → RS9 → Option (Int32 × RS9)
  | 0, _ => none
  | d + 1, σ => (if (σ.1 10) ≤ (σ.1 11) then mX9_here_b38 σ else rCk (rIn (σ.1 11) (rLen 8)) ((if (rGa σ 8 (σ.1 11)) = (32 : Int32) then mX9_here_l0 d (rSf σ 11 ((σ.1 11) + (1 : Int32))) else mX9_here_b38 σ)))
set_option maxHeartbeats 1000000 in
theorem rmX9_here_l0 {X : GX} {p : Program} {l : Launch} {e : Env} {s : State} {m : MethodId} {args : Array Value} {below : List Frame} {meth : Method} {c : Code} {f : AH} {n : Nat} {r : Int32 × RS9} (C : CC X p l (RM 0 0 0) s m args meth c RX9 cX9_here 1 (some .int)) : ∀ (d : Nat) (σ : RS9) (_ : mX9_here_l0 d σ = some r), AW X p l e (RM 0 0 0) s m args below meth c 1 (ZM X below args s 0 0 (QMi f n r)) (rHm f σ) n 0 0 0 [some (.ref 181)] [] := by
  intro d
  induction d with
  | zero =>
    intro σ h
    exact nomatch (show (none : Option (Int32 × RS9)) = some r from h)
  | succ d ih =>
    intro σ h
    have h : (if (σ.1 10) ≤ (σ.1 11) then mX9_here_b38 σ else rCk (rIn (σ.1 11) (rLen 8)) ((if (rGa σ 8 (σ.1 11)) = (32 : Int32) then mX9_here_l0 d (rSf σ 11 ((σ.1 11) + (1 : Int32))) else mX9_here_b38 σ))) = some r := h
    refine aw_ald_n C dX9_here_0 rfl ?_
    refine aw_get C (v := .int (σ.1 11)) gf_X9_340 (hm_M f σ) rfl dX9_here_1 ?_
    refine aw_ald_n C dX9_here_4 rfl ?_
    refine aw_get C (v := .int (σ.1 10)) gf_X9_343 (hm_M f σ) rfl dX9_here_5 ?_
    refine aw_icmp_ge C 38 dX9_here_8 (by decide) (fun q => ?_) (fun q => ?_)
    · rw [if_pos q] at h
      refine aw_fl [some (.ref 181)] ⟨rfl, trivial⟩ ?_
      exact rmX9_here_b38 C h
    · rw [if_neg q] at h
      refine aw_ald_n C dX9_here_11 rfl ?_
      refine aw_get C (v := .ref (rAid 8)) gf_X9_23 (hm_M f σ) rfl dX9_here_12 ?_
      refine aw_ald_n C dX9_here_15 rfl ?_
      refine aw_get C (v := .int (σ.1 11)) gf_X9_340 (hm_M f σ) rfl dX9_here_16 ?_
      obtain ⟨hb1, h⟩ := ck_some h
      refine am_iald C (rGa σ 8 (σ.1 11)) rfl (inb_vp hb1) rfl dX9_here_19 ?_
      refine aw_bipush C 32 dX9_here_20 kb_32 ?_
      refine aw_icmp_ne C 38 dX9_here_22 (by decide) (fun q => ?_) (fun q => ?_)
      · rw [if_neg q] at h
        refine aw_fl [some (.ref 181)] ⟨rfl, trivial⟩ ?_
        exact rmX9_here_b38 C h
      · rw [if_pos q] at h
        refine aw_ald_n C dX9_here_25 rfl ?_
        refine aw_dup C dX9_here_26 rfl ?_
        refine aw_get C (v := .int (σ.1 11)) gf_X9_340 (hm_M f σ) rfl dX9_here_27 ?_
        refine aw_iconst C 1 dX9_here_30 ki_1 ?_
        refine aw_iadd C dX9_here_31 ?_
        refine am_put C gf_X9_340 nf9_11 rfl rfl dX9_here_32 ?_
        refine aw_goto C 0 dX9_here_35 (by decide) ?_
        refine aw_fl [some (.ref 181)] ⟨rfl, trivial⟩ ?_
        exact ih (rSf σ 11 ((σ.1 11) + (1 : Int32))) h
def mX9_here (σ : RS9) : Option (Int32 × RS9) := mX9_here_l0 rFU σ
set_option maxHeartbeats 1000000 in
theorem rmX9_here {X : GX} {l : Launch} {f : AH} {n : Nat} {r : Int32 × RS9} {σ : RS9} (h : mX9_here σ = some r) : AM X l yX9_here cX9_here 1 (some .int) 0 0 0 [.ref 181] (rHm f σ) n (QMi f n r) := by
  have h : mX9_here_l0 rFU σ = some r := h
  refine AM.of (by decide +kernel) rfl (Nat.le_of_ble_eq_true rfl) (fun p e s m args below meth c C _ => ?_)
  refine aw_nl [some (.ref 181)] rfl ?_
  refine aw_fl [some (.ref 181)] ⟨rfl, trivial⟩ ?_
  exact rmX9_here_l0 C rFU σ h
def mX9_wrong_b13 (σ : RS9) : Option (Int32 × RS9) := some ((0 : Int32), σ)
set_option maxHeartbeats 1000000 in
theorem rmX9_wrong_b13 {X : GX} {p : Program} {l : Launch} {e : Env} {s : State} {m : MethodId} {args : Array Value} {below : List Frame} {meth : Method} {c : Code} {f : AH} {n : Nat} {r : Int32 × RS9} {σ : RS9} (C : CC X p l (RM 0 0 0) s m args meth c RX9 cX9_wrong 2 none) (h : mX9_wrong_b13 σ = some r) : AW X p l e (RM 0 0 0) s m args below meth c 2 (ZM X below args s 0 0 (QMv f n r)) (rHm f σ) n 0 0 13 [none, none] [] := by
  have h : some ((0 : Int32), σ) = some r := h
  cases h
  exact aw_vret C rfl dX9_wrong_13 (Nat.le_refl _) (Nat.le_refl _) ⟨rfl, rfl, rfl⟩
def mX9_wrong (v1 : Int32) (σ : RS9) : Option (Int32 × RS9) := (if (σ.1 12) = (-1 : Int32) then mX9_wrong_b13 (rSf σ 12 v1) else mX9_wrong_b13 σ)
set_option maxHeartbeats 1000000 in
theorem rmX9_wrong {X : GX} {l : Launch} {f : AH} {n : Nat} {r : Int32 × RS9} {v1 : Int32} {σ : RS9} (h : mX9_wrong v1 σ = some r) : AM X l yX9_wrong cX9_wrong 2 none 0 0 0 [.ref 181, .int v1] (rHm f σ) n (QMv f n r) := by
  have h : (if (σ.1 12) = (-1 : Int32) then mX9_wrong_b13 (rSf σ 12 v1) else mX9_wrong_b13 σ) = some r := h
  refine AM.of (by decide +kernel) rfl (Nat.le_of_ble_eq_true rfl) (fun p e s m args below meth c C _ => ?_)
  refine aw_nl [some (.ref 181), some (.int v1)] rfl ?_
  refine aw_ald_n C dX9_wrong_0 rfl ?_
  refine aw_get C (v := .int (σ.1 12)) gf_X9_26 (hm_M f σ) rfl dX9_wrong_1 ?_
  refine aw_iconst C (-1) dX9_wrong_4 ki_m1 ?_
  refine aw_icmp_ne C 13 dX9_wrong_5 (by decide) (fun q => ?_) (fun q => ?_)
  · rw [if_neg q] at h
    refine aw_fl [none, none] trivial ?_
    exact rmX9_wrong_b13 C h
  · rw [if_pos q] at h
    refine aw_ald_n C dX9_wrong_8 rfl ?_
    refine aw_iload_n C dX9_wrong_9 rfl ?_
    refine am_put C gf_X9_26 nf9_12 rfl rfl dX9_wrong_10 ?_
    refine aw_fl [none, none] trivial ?_
    exact rmX9_wrong_b13 C h
def mX9_wordEnd_b35 (v1 : Int32) (σ : RS9) : Option (Int32 × RS9) := some (v1, σ)
set_option maxHeartbeats 1000000 in
theorem rmX9_wordEnd_b35 {X : GX} {p : Program} {l : Launch} {e : Env} {s : State} {m : MethodId} {args : Array Value} {below : List Frame} {meth : Method} {c : Code} {f : AH} {n : Nat} {r : Int32 × RS9} {v1 : Int32} {σ : RS9} (C : CC X p l (RM 1 0 0) s m args meth c RX9 cX9_wordEnd 2 (some .int)) (h : mX9_wordEnd_b35 v1 σ = some r) : AW X p l e (RM 1 0 0) s m args below meth c 2 (ZM X below args s 0 0 (QMi f n r)) (rHm f σ) n 0 0 35 [none, some (.int v1)] [] := by
  have h : some (v1, σ) = some r := h
  refine aw_iload_n C dX9_wordEnd_35 rfl ?_
  cases h
  exact aw_iret C rfl rfl dX9_wordEnd_36 (Nat.le_refl _) (Nat.le_refl _) ⟨rfl, rfl, rfl⟩
def mX9_wordEnd_l5 : Nat → Int32 → RS9 → Option (Int32 × RS9)
  | 0, _, _ => none
  | d + 1, v1, σ => (if (σ.1 10) ≤ v1 then mX9_wordEnd_b35 v1 σ else rCk (rIn v1 (rLen 8)) (((mX9_isIn (rGa σ 8 v1) (97 : Int32) (122 : Int32) σ).bind fun r2 => (if r2.1 = (0 : Int32) then mX9_wordEnd_b35 v1 r2.2 else mX9_wordEnd_l5 d (v1 + (1 : Int32)) r2.2))))
set_option maxHeartbeats 1000000 in
theorem rmX9_wordEnd_l5 {X : GX} {p : Program} {l : Launch} {e : Env} {s : State} {m : MethodId} {args : Array Value} {below : List Frame} {meth : Method} {c : Code} {f : AH} {n : Nat} {r : Int32 × RS9} (C : CC X p l (RM 1 0 0) s m args meth c RX9 cX9_wordEnd 2 (some .int)) : ∀ (d : Nat) (v1 : Int32) (σ : RS9) (_ : mX9_wordEnd_l5 d v1 σ = some r), AW X p l e (RM 1 0 0) s m args below meth c 2 (ZM X below args s 0 0 (QMi f n r)) (rHm f σ) n 0 0 5 [some (.ref 181), some (.int v1)] [] := by
  intro d
  induction d with
  | zero =>
    intro v1 σ h
    exact nomatch (show (none : Option (Int32 × RS9)) = some r from h)
  | succ d ih =>
    intro v1 σ h
    have h : (if (σ.1 10) ≤ v1 then mX9_wordEnd_b35 v1 σ else rCk (rIn v1 (rLen 8)) (((mX9_isIn (rGa σ 8 v1) (97 : Int32) (122 : Int32) σ).bind fun r2 => (if r2.1 = (0 : Int32) then mX9_wordEnd_b35 v1 r2.2 else mX9_wordEnd_l5 d (v1 + (1 : Int32)) r2.2)))) = some r := h
    refine aw_iload_n C dX9_wordEnd_5 rfl ?_
    refine aw_ald_n C dX9_wordEnd_6 rfl ?_
    refine aw_get C (v := .int (σ.1 10)) gf_X9_343 (hm_M f σ) rfl dX9_wordEnd_7 ?_
    refine aw_icmp_ge C 35 dX9_wordEnd_10 (by decide) (fun q => ?_) (fun q => ?_)
    · rw [if_pos q] at h
      refine aw_fl [none, some (.int v1)] ⟨rfl, trivial⟩ ?_
      exact rmX9_wordEnd_b35 C h
    · rw [if_neg q] at h
      refine aw_ald_n C dX9_wordEnd_13 rfl ?_
      refine aw_get C (v := .ref (rAid 8)) gf_X9_23 (hm_M f σ) rfl dX9_wordEnd_14 ?_
      refine aw_iload_n C dX9_wordEnd_17 rfl ?_
      obtain ⟨hb1, h⟩ := ck_some h
      refine am_iald C (rGa σ 8 v1) rfl (inb_vp hb1) rfl dX9_wordEnd_18 ?_
      refine aw_bipush C 97 dX9_wordEnd_19 kb_97 ?_
      refine aw_bipush C 122 dX9_wordEnd_21 kb_122 ?_
      obtain ⟨r2, h2, h⟩ := Option.bind_eq_some_iff.mp h
      refine aw_callS C [.int (rGa σ 8 v1), .int (97 : Int32), .int (122 : Int32)] ms_X9_141 (rmX9_isIn h2) rfl dX9_wordEnd_23 (Nat.le_of_ble_eq_true rfl) (Nat.le_of_ble_eq_true rfl) rfl (Nat.le_of_ble_eq_true rfl) (Nat.le_of_ble_eq_true rfl) (Nat.le_of_ble_eq_true rfl) (fun v9 f9 n9 hh => ?_)
      obtain ⟨rfl, rfl, rfl⟩ := hh
      refine aw_if_eq C 35 dX9_wordEnd_26 (by decide) (fun q => ?_) (fun q => ?_)
      · rw [if_pos q] at h
        refine aw_fl [none, some (.int v1)] ⟨rfl, trivial⟩ ?_
        exact rmX9_wordEnd_b35 C h
      · rw [if_neg q] at h
        refine aw_iinc C (v1 + (1 : Int32)) dX9_wordEnd_29 rfl (by rw [ki_1]) (by decide) rfl ?_
        refine aw_nl [some (.ref 181), some (.int (v1 + (1 : Int32)))] rfl ?_
        refine aw_goto C 5 dX9_wordEnd_32 (by decide) ?_
        refine aw_fl [some (.ref 181), some (.int (v1 + (1 : Int32)))] ⟨rfl, ⟨rfl, trivial⟩⟩ ?_
        exact ih (v1 + (1 : Int32)) r2.2 h
def mX9_wordEnd (σ : RS9) : Option (Int32 × RS9) := ((mX9_here σ).bind fun r1 => mX9_wordEnd_l5 rFU r1.1 r1.2)
set_option maxHeartbeats 1000000 in
theorem rmX9_wordEnd {X : GX} {l : Launch} {f : AH} {n : Nat} {r : Int32 × RS9} {σ : RS9} (h : mX9_wordEnd σ = some r) : AM X l yX9_wordEnd cX9_wordEnd 2 (some .int) 1 0 0 [.ref 181] (rHm f σ) n (QMi f n r) := by
  have h : ((mX9_here σ).bind fun r1 => mX9_wordEnd_l5 rFU r1.1 r1.2) = some r := h
  refine AM.of (by decide +kernel) rfl (Nat.le_of_ble_eq_true rfl) (fun p e s m args below meth c C _ => ?_)
  refine aw_nl [some (.ref 181), none] rfl ?_
  refine aw_ald_n C dX9_wordEnd_0 rfl ?_
  obtain ⟨r1, h1, h⟩ := Option.bind_eq_some_iff.mp h
  refine aw_callV C (ci := 9) (b := 181) [] mv_X9_346 rfl rfl (hm_M f σ) (rmX9_here h1) rfl dX9_wordEnd_1 (Nat.le_of_ble_eq_true rfl) (Nat.le_of_ble_eq_true rfl) rfl (Nat.le_of_ble_eq_true rfl) (Nat.le_of_ble_eq_true rfl) (Nat.le_of_ble_eq_true rfl) (fun v9 f9 n9 hh => ?_)
  obtain ⟨rfl, rfl, rfl⟩ := hh
  refine aw_istore_n C dX9_wordEnd_4 (by decide) rfl ?_
  refine aw_nl [some (.ref 181), some (.int r1.1)] rfl ?_
  refine aw_fl [some (.ref 181), some (.int r1.1)] ⟨rfl, ⟨rfl, trivial⟩⟩ ?_
  exact rmX9_wordEnd_l5 C rFU r1.1 r1.2 h
def mX9_number_b126 (v4 : Int32) (σ : RS9) : Option (Int32 × RS9) := some (v4, σ)
set_option maxHeartbeats 1000000 in
theorem rmX9_number_b126 {X : GX} {p : Program} {l : Launch} {e : Env} {s : State} {m : MethodId} {args : Array Value} {below : List Frame} {meth : Method} {c : Code} {f : AH} {n : Nat} {r : Int32 × RS9} {v4 : Int32} {σ : RS9} (C : CC X p l (RM 1 0 0) s m args meth c RX9 cX9_number 5 (some .int)) (h : mX9_number_b126 v4 σ = some r) : AW X p l e (RM 1 0 0) s m args below meth c 5 (ZM X below args s 0 0 (QMi f n r)) (rHm f σ) n 0 0 126 [none, none, none, none, some (.int v4)] [] := by
  have h : some (v4, σ) = some r := h
  refine aw_iload C dX9_number_126 rfl ?_
  cases h
  exact aw_iret C rfl rfl dX9_number_128 (Nat.le_refl _) (Nat.le_refl _) ⟨rfl, rfl, rfl⟩
def mX9_number_b121 (v3 : Int32) (v4 : Int32) (σ : RS9) : Option (Int32 × RS9) := ((mX9_wrong v3 σ).bind fun r1 => mX9_number_b126 v4 r1.2)
set_option maxHeartbeats 1000000 in
theorem rmX9_number_b121 {X : GX} {p : Program} {l : Launch} {e : Env} {s : State} {m : MethodId} {args : Array Value} {below : List Frame} {meth : Method} {c : Code} {f : AH} {n : Nat} {r : Int32 × RS9} {v3 : Int32} {v4 : Int32} {σ : RS9} (C : CC X p l (RM 1 0 0) s m args meth c RX9 cX9_number 5 (some .int)) (h : mX9_number_b121 v3 v4 σ = some r) : AW X p l e (RM 1 0 0) s m args below meth c 5 (ZM X below args s 0 0 (QMi f n r)) (rHm f σ) n 0 0 121 [some (.ref 181), none, none, some (.int v3), some (.int v4)] [] := by
  have h : ((mX9_wrong v3 σ).bind fun r1 => mX9_number_b126 v4 r1.2) = some r := h
  refine aw_ald_n C dX9_number_121 rfl ?_
  refine aw_iload_n C dX9_number_122 rfl ?_
  obtain ⟨r1, h1, h⟩ := Option.bind_eq_some_iff.mp h
  refine aw_callV C (ci := 9) (b := 181) [.int v3] mv_X9_352 rfl rfl (hm_M f σ) (rmX9_wrong h1) rfl dX9_number_123 (Nat.le_of_ble_eq_true rfl) (Nat.le_of_ble_eq_true rfl) rfl (Nat.le_of_ble_eq_true rfl) (Nat.le_of_ble_eq_true rfl) (Nat.le_of_ble_eq_true rfl) (fun v9 f9 n9 hh => ?_)
  obtain ⟨rfl, rfl, rfl⟩ := hh
  refine aw_fl [none, none, none, none, some (.int v4)] ⟨rfl, trivial⟩ ?_
  exact rmX9_number_b126 C h
def mX9_number_b91 (v1 : Int32) (v2 : Int32) (v3 : Int32) (v4 : Int32) (σ : RS9) : Option (Int32 × RS9) := (if (σ.1 11) = v3 then mX9_number_b121 v3 v4 σ else (if (2 : Int32) < ((σ.1 11) - v3) then mX9_number_b121 v3 v4 σ else (if v4 < v1 then mX9_number_b121 v3 v4 σ else (if v4 ≤ v2 then mX9_number_b126 v4 σ else mX9_number_b121 v3 v4 σ))))
set_option maxHeartbeats 1000000 in
theorem rmX9_number_b91 {X : GX} {p : Program} {l : Launch} {e : Env} {s : State} {m : MethodId} {args : Array Value} {below : List Frame} {meth : Method} {c : Code} {f : AH} {n : Nat} {r : Int32 × RS9} {v1 : Int32} {v2 : Int32} {v3 : Int32} {v4 : Int32} {σ : RS9} (C : CC X p l (RM 1 0 0) s m args meth c RX9 cX9_number 5 (some .int)) (h : mX9_number_b91 v1 v2 v3 v4 σ = some r) : AW X p l e (RM 1 0 0) s m args below meth c 5 (ZM X below args s 0 0 (QMi f n r)) (rHm f σ) n 0 0 91 [some (.ref 181), some (.int v1), some (.int v2), some (.int v3), some (.int v4)] [] := by
  have h : (if (σ.1 11) = v3 then mX9_number_b121 v3 v4 σ else (if (2 : Int32) < ((σ.1 11) - v3) then mX9_number_b121 v3 v4 σ else (if v4 < v1 then mX9_number_b121 v3 v4 σ else (if v4 ≤ v2 then mX9_number_b126 v4 σ else mX9_number_b121 v3 v4 σ)))) = some r := h
  refine aw_ald_n C dX9_number_91 rfl ?_
  refine aw_get C (v := .int (σ.1 11)) gf_X9_340 (hm_M f σ) rfl dX9_number_92 ?_
  refine aw_iload_n C dX9_number_95 rfl ?_
  refine aw_icmp_eq C 121 dX9_number_96 (by decide) (fun q => ?_) (fun q => ?_)
  · rw [if_pos q] at h
    refine aw_fl [some (.ref 181), none, none, some (.int v3), some (.int v4)] ⟨rfl, ⟨rfl, ⟨rfl, trivial⟩⟩⟩ ?_
    exact rmX9_number_b121 C h
  · rw [if_neg q] at h
    refine aw_ald_n C dX9_number_99 rfl ?_
    refine aw_get C (v := .int (σ.1 11)) gf_X9_340 (hm_M f σ) rfl dX9_number_100 ?_
    refine aw_iload_n C dX9_number_103 rfl ?_
    refine aw_isub C dX9_number_104 ?_
    refine aw_iconst C 2 dX9_number_105 ki_2 ?_
    refine aw_icmp_gt C 121 dX9_number_106 (by decide) (fun q => ?_) (fun q => ?_)
    · rw [if_pos q] at h
      refine aw_fl [some (.ref 181), none, none, some (.int v3), some (.int v4)] ⟨rfl, ⟨rfl, ⟨rfl, trivial⟩⟩⟩ ?_
      exact rmX9_number_b121 C h
    · rw [if_neg q] at h
      refine aw_iload C dX9_number_109 rfl ?_
      refine aw_iload_n C dX9_number_111 rfl ?_
      refine aw_icmp_lt C 121 dX9_number_112 (by decide) (fun q => ?_) (fun q => ?_)
      · rw [if_pos q] at h
        refine aw_fl [some (.ref 181), none, none, some (.int v3), some (.int v4)] ⟨rfl, ⟨rfl, ⟨rfl, trivial⟩⟩⟩ ?_
        exact rmX9_number_b121 C h
      · rw [if_neg q] at h
        refine aw_iload C dX9_number_115 rfl ?_
        refine aw_iload_n C dX9_number_117 rfl ?_
        refine aw_icmp_le C 126 dX9_number_118 (by decide) (fun q => ?_) (fun q => ?_)
        · rw [if_pos q] at h
          refine aw_fl [none, none, none, none, some (.int v4)] ⟨rfl, trivial⟩ ?_
          exact rmX9_number_b126 C h
        · rw [if_neg q] at h
          refine aw_fl [some (.ref 181), none, none, some (.int v3), some (.int v4)] ⟨rfl, ⟨rfl, ⟨rfl, trivial⟩⟩⟩ ?_
          exact rmX9_number_b121 C h
def mX9_number_l18 : Nat → Int32 → Int32 → Int32 → Int32 → RS9 → Option (Int32 × RS9)
  | 0, _, _, _, _, _ => none
  | d + 1, v1, v2, v3, v4, σ => (if (σ.1 10) ≤ (σ.1 11) then mX9_number_b91 v1 v2 v3 v4 σ else rCk (rIn (σ.1 11) (rLen 8)) (((mX9_isIn (rGa σ 8 (σ.1 11)) (48 : Int32) (57 : Int32) σ).bind fun r2 => (if r2.1 = (0 : Int32) then mX9_number_b91 v1 v2 v3 v4 r2.2 else (if (2 : Int32) < ((r2.2.1 11) - v3) then mX9_number_b91 v1 v2 v3 v4 r2.2 else rCk (rIn (r2.2.1 11) (rLen 8)) (mX9_number_l18 d v1 v2 v3 ((((10 : Int32) * v4) + (rGa r2.2 8 (r2.2.1 11))) - (48 : Int32)) (rSf r2.2 11 ((r2.2.1 11) + (1 : Int32)))))))))
set_option maxHeartbeats 1000000 in
theorem rmX9_number_l18 {X : GX} {p : Program} {l : Launch} {e : Env} {s : State} {m : MethodId} {args : Array Value} {below : List Frame} {meth : Method} {c : Code} {f : AH} {n : Nat} {r : Int32 × RS9} (C : CC X p l (RM 1 0 0) s m args meth c RX9 cX9_number 5 (some .int)) : ∀ (d : Nat) (v1 : Int32) (v2 : Int32) (v3 : Int32) (v4 : Int32) (σ : RS9) (_ : mX9_number_l18 d v1 v2 v3 v4 σ = some r), AW X p l e (RM 1 0 0) s m args below meth c 5 (ZM X below args s 0 0 (QMi f n r)) (rHm f σ) n 0 0 18 [some (.ref 181), some (.int v1), some (.int v2), some (.int v3), some (.int v4)] [] := by
  intro d
  induction d with
  | zero =>
    intro v1 v2 v3 v4 σ h
    exact nomatch (show (none : Option (Int32 × RS9)) = some r from h)
  | succ d ih =>
    intro v1 v2 v3 v4 σ h
    have h : (if (σ.1 10) ≤ (σ.1 11) then mX9_number_b91 v1 v2 v3 v4 σ else rCk (rIn (σ.1 11) (rLen 8)) (((mX9_isIn (rGa σ 8 (σ.1 11)) (48 : Int32) (57 : Int32) σ).bind fun r2 => (if r2.1 = (0 : Int32) then mX9_number_b91 v1 v2 v3 v4 r2.2 else (if (2 : Int32) < ((r2.2.1 11) - v3) then mX9_number_b91 v1 v2 v3 v4 r2.2 else rCk (rIn (r2.2.1 11) (rLen 8)) (mX9_number_l18 d v1 v2 v3 ((((10 : Int32) * v4) + (rGa r2.2 8 (r2.2.1 11))) - (48 : Int32)) (rSf r2.2 11 ((r2.2.1 11) + (1 : Int32))))))))) = some r := h
    refine aw_ald_n C dX9_number_18 rfl ?_
    refine aw_get C (v := .int (σ.1 11)) gf_X9_340 (hm_M f σ) rfl dX9_number_19 ?_
    refine aw_ald_n C dX9_number_22 rfl ?_
    refine aw_get C (v := .int (σ.1 10)) gf_X9_343 (hm_M f σ) rfl dX9_number_23 ?_
    refine aw_icmp_ge C 91 dX9_number_26 (by decide) (fun q => ?_) (fun q => ?_)
    · rw [if_pos q] at h
      refine aw_fl [some (.ref 181), some (.int v1), some (.int v2), some (.int v3), some (.int v4)] ⟨rfl, ⟨rfl, ⟨rfl, ⟨rfl, ⟨rfl, trivial⟩⟩⟩⟩⟩ ?_
      exact rmX9_number_b91 C h
    · rw [if_neg q] at h
      refine aw_ald_n C dX9_number_29 rfl ?_
      refine aw_get C (v := .ref (rAid 8)) gf_X9_23 (hm_M f σ) rfl dX9_number_30 ?_
      refine aw_ald_n C dX9_number_33 rfl ?_
      refine aw_get C (v := .int (σ.1 11)) gf_X9_340 (hm_M f σ) rfl dX9_number_34 ?_
      obtain ⟨hb1, h⟩ := ck_some h
      refine am_iald C (rGa σ 8 (σ.1 11)) rfl (inb_vp hb1) rfl dX9_number_37 ?_
      refine aw_bipush C 48 dX9_number_38 kb_48 ?_
      refine aw_bipush C 57 dX9_number_40 kb_57 ?_
      obtain ⟨r2, h2, h⟩ := Option.bind_eq_some_iff.mp h
      refine aw_callS C [.int (rGa σ 8 (σ.1 11)), .int (48 : Int32), .int (57 : Int32)] ms_X9_141 (rmX9_isIn h2) rfl dX9_number_42 (Nat.le_of_ble_eq_true rfl) (Nat.le_of_ble_eq_true rfl) rfl (Nat.le_of_ble_eq_true rfl) (Nat.le_of_ble_eq_true rfl) (Nat.le_of_ble_eq_true rfl) (fun v9 f9 n9 hh => ?_)
      obtain ⟨rfl, rfl, rfl⟩ := hh
      refine aw_if_eq C 91 dX9_number_45 (by decide) (fun q => ?_) (fun q => ?_)
      · rw [if_pos q] at h
        refine aw_fl [some (.ref 181), some (.int v1), some (.int v2), some (.int v3), some (.int v4)] ⟨rfl, ⟨rfl, ⟨rfl, ⟨rfl, ⟨rfl, trivial⟩⟩⟩⟩⟩ ?_
        exact rmX9_number_b91 C h
      · rw [if_neg q] at h
        refine aw_ald_n C dX9_number_48 rfl ?_
        refine aw_get C (v := .int (r2.2.1 11)) gf_X9_340 (hm_M f r2.2) rfl dX9_number_49 ?_
        refine aw_iload_n C dX9_number_52 rfl ?_
        refine aw_isub C dX9_number_53 ?_
        refine aw_iconst C 2 dX9_number_54 ki_2 ?_
        refine aw_icmp_gt C 91 dX9_number_55 (by decide) (fun q => ?_) (fun q => ?_)
        · rw [if_pos q] at h
          refine aw_fl [some (.ref 181), some (.int v1), some (.int v2), some (.int v3), some (.int v4)] ⟨rfl, ⟨rfl, ⟨rfl, ⟨rfl, ⟨rfl, trivial⟩⟩⟩⟩⟩ ?_
          exact rmX9_number_b91 C h
        · rw [if_neg q] at h
          refine aw_bipush C 10 dX9_number_58 kb_10 ?_
          refine aw_iload C dX9_number_60 rfl ?_
          refine aw_imul C dX9_number_62 ?_
          refine aw_ald_n C dX9_number_63 rfl ?_
          refine aw_get C (v := .ref (rAid 8)) gf_X9_23 (hm_M f r2.2) rfl dX9_number_64 ?_
          refine aw_ald_n C dX9_number_67 rfl ?_
          refine aw_get C (v := .int (r2.2.1 11)) gf_X9_340 (hm_M f r2.2) rfl dX9_number_68 ?_
          obtain ⟨hb3, h⟩ := ck_some h
          refine am_iald C (rGa r2.2 8 (r2.2.1 11)) rfl (inb_vp hb3) rfl dX9_number_71 ?_
          refine aw_iadd C dX9_number_72 ?_
          refine aw_bipush C 48 dX9_number_73 kb_48 ?_
          refine aw_isub C dX9_number_75 ?_
          refine aw_istore C dX9_number_76 (by decide) rfl ?_
          refine aw_nl [some (.ref 181), some (.int v1), some (.int v2), some (.int v3), some (.int ((((10 : Int32) * v4) + (rGa r2.2 8 (r2.2.1 11))) - (48 : Int32)))] rfl ?_
          refine aw_ald_n C dX9_number_78 rfl ?_
          refine aw_dup C dX9_number_79 rfl ?_
          refine aw_get C (v := .int (r2.2.1 11)) gf_X9_340 (hm_M f r2.2) rfl dX9_number_80 ?_
          refine aw_iconst C 1 dX9_number_83 ki_1 ?_
          refine aw_iadd C dX9_number_84 ?_
          refine am_put C gf_X9_340 nf9_11 rfl rfl dX9_number_85 ?_
          refine aw_goto C 18 dX9_number_88 (by decide) ?_
          refine aw_fl [some (.ref 181), some (.int v1), some (.int v2), some (.int v3), some (.int ((((10 : Int32) * v4) + (rGa r2.2 8 (r2.2.1 11))) - (48 : Int32)))] ⟨rfl, ⟨rfl, ⟨rfl, ⟨rfl, ⟨rfl, trivial⟩⟩⟩⟩⟩ ?_
          exact ih v1 v2 v3 ((((10 : Int32) * v4) + (rGa r2.2 8 (r2.2.1 11))) - (48 : Int32)) (rSf r2.2 11 ((r2.2.1 11) + (1 : Int32))) h
def mX9_number (v1 : Int32) (v2 : Int32) (σ : RS9) : Option (Int32 × RS9) := (if (σ.1 12) = (-1 : Int32) then ((mX9_here σ).bind fun r1 => mX9_number_l18 rFU v1 v2 r1.1 (0 : Int32) r1.2) else some ((0 : Int32), σ))
set_option maxHeartbeats 1000000 in
theorem rmX9_number {X : GX} {l : Launch} {f : AH} {n : Nat} {r : Int32 × RS9} {v1 : Int32} {v2 : Int32} {σ : RS9} (h : mX9_number v1 v2 σ = some r) : AM X l yX9_number cX9_number 5 (some .int) 1 0 0 [.ref 181, .int v1, .int v2] (rHm f σ) n (QMi f n r) := by
  have h : (if (σ.1 12) = (-1 : Int32) then ((mX9_here σ).bind fun r1 => mX9_number_l18 rFU v1 v2 r1.1 (0 : Int32) r1.2) else some ((0 : Int32), σ)) = some r := h
  refine AM.of (by decide +kernel) rfl (Nat.le_of_ble_eq_true rfl) (fun p e s m args below meth c C _ => ?_)
  refine aw_nl [some (.ref 181), some (.int v1), some (.int v2), none, none] rfl ?_
  refine aw_ald_n C dX9_number_0 rfl ?_
  refine aw_get C (v := .int (σ.1 12)) gf_X9_26 (hm_M f σ) rfl dX9_number_1 ?_
  refine aw_iconst C (-1) dX9_number_4 ki_m1 ?_
  refine aw_icmp_eq C 10 dX9_number_5 (by decide) (fun q => ?_) (fun q => ?_)
  · rw [if_pos q] at h
    refine aw_ald_n C dX9_number_10 rfl ?_
    obtain ⟨r1, h1, h⟩ := Option.bind_eq_some_iff.mp h
    refine aw_callV C (ci := 9) (b := 181) [] mv_X9_346 rfl rfl (hm_M f σ) (rmX9_here h1) rfl dX9_number_11 (Nat.le_of_ble_eq_true rfl) (Nat.le_of_ble_eq_true rfl) rfl (Nat.le_of_ble_eq_true rfl) (Nat.le_of_ble_eq_true rfl) (Nat.le_of_ble_eq_true rfl) (fun v9 f9 n9 hh => ?_)
    obtain ⟨rfl, rfl, rfl⟩ := hh
    refine aw_istore_n C dX9_number_14 (by decide) rfl ?_
    refine aw_nl [some (.ref 181), some (.int v1), some (.int v2), some (.int r1.1), none] rfl ?_
    refine aw_iconst C 0 dX9_number_15 ki_0 ?_
    refine aw_istore C dX9_number_16 (by decide) rfl ?_
    refine aw_nl [some (.ref 181), some (.int v1), some (.int v2), some (.int r1.1), some (.int (0 : Int32))] rfl ?_
    refine aw_fl [some (.ref 181), some (.int v1), some (.int v2), some (.int r1.1), some (.int (0 : Int32))] ⟨rfl, ⟨rfl, ⟨rfl, ⟨rfl, ⟨rfl, trivial⟩⟩⟩⟩⟩ ?_
    exact rmX9_number_l18 C rFU v1 v2 r1.1 (0 : Int32) r1.2 h
  · rw [if_neg q] at h
    refine aw_iconst C 0 dX9_number_8 ki_0 ?_
    cases h
    exact aw_iret C rfl rfl dX9_number_9 (Nat.le_refl _) (Nat.le_refl _) ⟨rfl, rfl, rfl⟩
def mX9_endOf_b32 (v5 : Int32) (σ : RS9) : Option (Int32 × RS9) := some (v5, σ)
set_option maxHeartbeats 1000000 in
theorem rmX9_endOf_b32 {X : GX} {p : Program} {l : Launch} {e : Env} {s : State} {m : MethodId} {args : Array Value} {below : List Frame} {meth : Method} {c : Code} {f : AH} {n : Nat} {r : Int32 × RS9} {v5 : Int32} {σ : RS9} (C : CC X p l (RM 0 0 0) s m args meth c RX9 cX9_endOf 6 (some .int)) (h : mX9_endOf_b32 v5 σ = some r) : AW X p l e (RM 0 0 0) s m args below meth c 6 (ZM X below args s 0 0 (QMi f n r)) (rHm f σ) n 0 0 32 [none, none, none, none, none, some (.int v5)] [] := by
  have h : some (v5, σ) = some r := h
  refine aw_iload C dX9_endOf_32 rfl ?_
  cases h
  exact aw_iret C rfl rfl dX9_endOf_34 (Nat.le_refl _) (Nat.le_refl _) ⟨rfl, rfl, rfl⟩
def mX9_endOf_l3 : Nat → Nat → Int32 → Int32 → Int32 → Int32 → RS9 → Option (Int32 × RS9)
  | 0, _, _, _, _, _, _ => none
  | d + 1, v0, v1, v3, v4, v5, σ => (if v1 ≤ v5 then mX9_endOf_b32 v5 σ else rCk (rIn v5 (rLen v0)) ((if (rGa σ v0 v5) = v3 then mX9_endOf_b32 v5 σ else rCk (rIn v5 (rLen v0)) ((if (rGa σ v0 v5) = v4 then mX9_endOf_b32 v5 σ else mX9_endOf_l3 d v0 v1 v3 v4 (v5 + (1 : Int32)) σ)))))
set_option maxHeartbeats 1000000 in
theorem rmX9_endOf_l3 {X : GX} {p : Program} {l : Launch} {e : Env} {s : State} {m : MethodId} {args : Array Value} {below : List Frame} {meth : Method} {c : Code} {f : AH} {n : Nat} {r : Int32 × RS9} (C : CC X p l (RM 0 0 0) s m args meth c RX9 cX9_endOf 6 (some .int)) : ∀ (d : Nat) (v0 : Nat) (v1 : Int32) (v3 : Int32) (v4 : Int32) (v5 : Int32) (σ : RS9) (_ : rIsA v0 = true) (_ : mX9_endOf_l3 d v0 v1 v3 v4 v5 σ = some r), AW X p l e (RM 0 0 0) s m args below meth c 6 (ZM X below args s 0 0 (QMi f n r)) (rHm f σ) n 0 0 3 [some (.ref (rAid v0)), some (.int v1), none, some (.int v3), some (.int v4), some (.int v5)] [] := by
  intro d
  induction d with
  | zero =>
    intro v0 v1 v3 v4 v5 σ ia0 h
    exact nomatch (show (none : Option (Int32 × RS9)) = some r from h)
  | succ d ih =>
    intro v0 v1 v3 v4 v5 σ ia0 h
    have h : (if v1 ≤ v5 then mX9_endOf_b32 v5 σ else rCk (rIn v5 (rLen v0)) ((if (rGa σ v0 v5) = v3 then mX9_endOf_b32 v5 σ else rCk (rIn v5 (rLen v0)) ((if (rGa σ v0 v5) = v4 then mX9_endOf_b32 v5 σ else mX9_endOf_l3 d v0 v1 v3 v4 (v5 + (1 : Int32)) σ))))) = some r := h
    refine aw_iload C dX9_endOf_3 rfl ?_
    refine aw_iload_n C dX9_endOf_5 rfl ?_
    refine aw_icmp_ge C 32 dX9_endOf_6 (by decide) (fun q => ?_) (fun q => ?_)
    · rw [if_pos q] at h
      refine aw_fl [none, none, none, none, none, some (.int v5)] ⟨rfl, trivial⟩ ?_
      exact rmX9_endOf_b32 C h
    · rw [if_neg q] at h
      refine aw_ald_n C dX9_endOf_9 rfl ?_
      refine aw_iload C dX9_endOf_10 rfl ?_
      obtain ⟨hb1, h⟩ := ck_some h
      refine am_iald C (rGa σ v0 v5) ia0 (inb_vp hb1) rfl dX9_endOf_12 ?_
      refine aw_iload_n C dX9_endOf_13 rfl ?_
      refine aw_icmp_eq C 32 dX9_endOf_14 (by decide) (fun q => ?_) (fun q => ?_)
      · rw [if_pos q] at h
        refine aw_fl [none, none, none, none, none, some (.int v5)] ⟨rfl, trivial⟩ ?_
        exact rmX9_endOf_b32 C h
      · rw [if_neg q] at h
        refine aw_ald_n C dX9_endOf_17 rfl ?_
        refine aw_iload C dX9_endOf_18 rfl ?_
        obtain ⟨hb2, h⟩ := ck_some h
        refine am_iald C (rGa σ v0 v5) ia0 (inb_vp hb2) rfl dX9_endOf_20 ?_
        refine aw_iload C dX9_endOf_21 rfl ?_
        refine aw_icmp_eq C 32 dX9_endOf_23 (by decide) (fun q => ?_) (fun q => ?_)
        · rw [if_pos q] at h
          refine aw_fl [none, none, none, none, none, some (.int v5)] ⟨rfl, trivial⟩ ?_
          exact rmX9_endOf_b32 C h
        · rw [if_neg q] at h
          refine aw_iinc C (v5 + (1 : Int32)) dX9_endOf_26 rfl (by rw [ki_1]) (by decide) rfl ?_
          refine aw_nl [some (.ref (rAid v0)), some (.int v1), none, some (.int v3), some (.int v4), some (.int (v5 + (1 : Int32)))] rfl ?_
          refine aw_goto C 3 dX9_endOf_29 (by decide) ?_
          refine aw_fl [some (.ref (rAid v0)), some (.int v1), none, some (.int v3), some (.int v4), some (.int (v5 + (1 : Int32)))] ⟨rfl, ⟨rfl, ⟨rfl, ⟨rfl, ⟨rfl, trivial⟩⟩⟩⟩⟩ ?_
          exact ih v0 v1 v3 v4 (v5 + (1 : Int32)) σ ia0 h
def mX9_endOf (v0 : Nat) (v1 : Int32) (v2 : Int32) (v3 : Int32) (v4 : Int32) (σ : RS9) : Option (Int32 × RS9) := mX9_endOf_l3 rFU v0 v1 v3 v4 v2 σ
set_option maxHeartbeats 1000000 in
theorem rmX9_endOf {X : GX} {l : Launch} {f : AH} {n : Nat} {r : Int32 × RS9} {v0 : Nat} {v1 : Int32} {v2 : Int32} {v3 : Int32} {v4 : Int32} {σ : RS9} (ia0 : rIsA v0 = true) (h : mX9_endOf v0 v1 v2 v3 v4 σ = some r) : AM X l yX9_endOf cX9_endOf 6 (some .int) 0 0 0 [.ref (rAid v0), .int v1, .int v2, .int v3, .int v4] (rHm f σ) n (QMi f n r) := by
  have h : mX9_endOf_l3 rFU v0 v1 v3 v4 v2 σ = some r := h
  refine AM.of (by decide +kernel) rfl (Nat.le_of_ble_eq_true rfl) (fun p e s m args below meth c C _ => ?_)
  refine aw_nl [some (.ref (rAid v0)), some (.int v1), some (.int v2), some (.int v3), some (.int v4), none] rfl ?_
  refine aw_iload_n C dX9_endOf_0 rfl ?_
  refine aw_istore C dX9_endOf_1 (by decide) rfl ?_
  refine aw_nl [some (.ref (rAid v0)), some (.int v1), some (.int v2), some (.int v3), some (.int v4), some (.int v2)] rfl ?_
  refine aw_fl [some (.ref (rAid v0)), some (.int v1), none, some (.int v3), some (.int v4), some (.int v2)] ⟨rfl, ⟨rfl, ⟨rfl, ⟨rfl, ⟨rfl, trivial⟩⟩⟩⟩⟩ ?_
  exact rmX9_endOf_l3 C rFU v0 v1 v3 v4 v2 σ ia0 h
def mX9_finds_b39 (s0 : Nat) (s1 : Int32) (s2 : Int32) (σ : RS9) : Option (Int32 × RS9) := rCk (rIn s1 (rLen s0)) (some ((0 : Int32), (rSf (rSa σ s0 s1 s2) 54 ((σ.1 54) + (1 : Int32)))))
set_option maxHeartbeats 1000000 in
theorem rmX9_finds_b39 {X : GX} {p : Program} {l : Launch} {e : Env} {s : State} {m : MethodId} {args : Array Value} {below : List Frame} {meth : Method} {c : Code} {f : AH} {n : Nat} {r : Int32 × RS9} {s0 : Nat} {s1 : Int32} {s2 : Int32} {σ : RS9} (C : CC X p l (RM 0 0 0) s m args meth c RX9 cX9_finds 7 none) (ias0 : rIsA s0 = true) (h : mX9_finds_b39 s0 s1 s2 σ = some r) : AW X p l e (RM 0 0 0) s m args below meth c 7 (ZM X below args s 0 0 (QMv f n r)) (rHm f σ) n 0 0 39 [some (.ref 181), none, none, none, none, none, none] [.int s2, .int s1, .ref (rAid s0)] := by
  have h : rCk (rIn s1 (rLen s0)) (some ((0 : Int32), (rSf (rSa σ s0 s1 s2) 54 ((σ.1 54) + (1 : Int32))))) = some r := h
  obtain ⟨hb1, h⟩ := ck_some h
  refine am_iast C ias0 (inb_vp hb1) dX9_finds_39 ?_
  refine aw_ald_n C dX9_finds_40 rfl ?_
  refine aw_dup C dX9_finds_41 rfl ?_
  refine aw_get C (v := .int (σ.1 54)) gf_X9_145 (hm_M f (rSa σ s0 s1 s2)) rfl dX9_finds_42 ?_
  refine aw_iconst C 1 dX9_finds_45 ki_1 ?_
  refine aw_iadd C dX9_finds_46 ?_
  refine am_put C gf_X9_145 nf9_54 rfl rfl dX9_finds_47 ?_
  cases h
  exact aw_vret C rfl dX9_finds_50 (Nat.le_refl _) (Nat.le_refl _) ⟨rfl, rfl, rfl⟩
def mX9_finds (v1 : Nat) (v2 : Nat) (v3 : Nat) (v4 : Int32) (v5 : Int32) (v6 : Int32) (σ : RS9) : Option (Int32 × RS9) := (if v4 < v5 then rCk (rIn (σ.1 54) (rLen v1)) (rCk (rIn (σ.1 54) (rLen v2)) ((if v6 = (0 : Int32) then mX9_finds_b39 v3 (σ.1 54) (0 : Int32) (rSa (rSa σ v1 (σ.1 54) v4) v2 (σ.1 54) v5) else mX9_finds_b39 v3 (σ.1 54) (1 : Int32) (rSa (rSa σ v1 (σ.1 54) v4) v2 (σ.1 54) v5)))) else some ((0 : Int32), σ))
set_option maxHeartbeats 1000000 in
theorem rmX9_finds {X : GX} {l : Launch} {f : AH} {n : Nat} {r : Int32 × RS9} {v1 : Nat} {v2 : Nat} {v3 : Nat} {v4 : Int32} {v5 : Int32} {v6 : Int32} {σ : RS9} (ia1 : rIsA v1 = true) (ia2 : rIsA v2 = true) (ia3 : rIsA v3 = true) (h : mX9_finds v1 v2 v3 v4 v5 v6 σ = some r) : AM X l yX9_finds cX9_finds 7 none 0 0 0 [.ref 181, .ref (rAid v1), .ref (rAid v2), .ref (rAid v3), .int v4, .int v5, .int v6] (rHm f σ) n (QMv f n r) := by
  have h : (if v4 < v5 then rCk (rIn (σ.1 54) (rLen v1)) (rCk (rIn (σ.1 54) (rLen v2)) ((if v6 = (0 : Int32) then mX9_finds_b39 v3 (σ.1 54) (0 : Int32) (rSa (rSa σ v1 (σ.1 54) v4) v2 (σ.1 54) v5) else mX9_finds_b39 v3 (σ.1 54) (1 : Int32) (rSa (rSa σ v1 (σ.1 54) v4) v2 (σ.1 54) v5)))) else some ((0 : Int32), σ)) = some r := h
  refine AM.of (by decide +kernel) rfl (Nat.le_of_ble_eq_true rfl) (fun p e s m args below meth c C _ => ?_)
  refine aw_nl [some (.ref 181), some (.ref (rAid v1)), some (.ref (rAid v2)), some (.ref (rAid v3)), some (.int v4), some (.int v5), some (.int v6)] rfl ?_
  refine aw_iload C dX9_finds_0 rfl ?_
  refine aw_iload C dX9_finds_2 rfl ?_
  refine aw_icmp_lt C 8 dX9_finds_4 (by decide) (fun q => ?_) (fun q => ?_)
  · rw [if_pos q] at h
    refine aw_ald_n C dX9_finds_8 rfl ?_
    refine aw_ald_n C dX9_finds_9 rfl ?_
    refine aw_get C (v := .int (σ.1 54)) gf_X9_145 (hm_M f σ) rfl dX9_finds_10 ?_
    refine aw_iload C dX9_finds_13 rfl ?_
    obtain ⟨hb1, h⟩ := ck_some h
    refine am_iast C ia1 (inb_vp hb1) dX9_finds_15 ?_
    refine aw_ald_n C dX9_finds_16 rfl ?_
    refine aw_ald_n C dX9_finds_17 rfl ?_
    refine aw_get C (v := .int (σ.1 54)) gf_X9_145 (hm_M f (rSa σ v1 (σ.1 54) v4)) rfl dX9_finds_18 ?_
    refine aw_iload C dX9_finds_21 rfl ?_
    obtain ⟨hb2, h⟩ := ck_some h
    refine am_iast C ia2 (inb_vp hb2) dX9_finds_23 ?_
    refine aw_ald_n C dX9_finds_24 rfl ?_
    refine aw_ald_n C dX9_finds_25 rfl ?_
    refine aw_get C (v := .int (σ.1 54)) gf_X9_145 (hm_M f (rSa (rSa σ v1 (σ.1 54) v4) v2 (σ.1 54) v5)) rfl dX9_finds_26 ?_
    refine aw_iload C dX9_finds_29 rfl ?_
    refine aw_if_eq C 38 dX9_finds_31 (by decide) (fun q => ?_) (fun q => ?_)
    · rw [if_pos q] at h
      refine aw_iconst C 0 dX9_finds_38 ki_0 ?_
      refine aw_fl [some (.ref 181), none, none, none, none, none, none] ⟨rfl, trivial⟩ ?_
      exact rmX9_finds_b39 C ia3 h
    · rw [if_neg q] at h
      refine aw_iconst C 1 dX9_finds_34 ki_1 ?_
      refine aw_goto C 39 dX9_finds_35 (by decide) ?_
      refine aw_fl [some (.ref 181), none, none, none, none, none, none] ⟨rfl, trivial⟩ ?_
      exact rmX9_finds_b39 C ia3 h
  · rw [if_neg q] at h
    cases h
    exact aw_vret C rfl dX9_finds_7 (Nat.le_refl _) (Nat.le_refl _) ⟨rfl, rfl, rfl⟩
