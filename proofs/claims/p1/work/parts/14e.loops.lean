section LPZ
variable {X : GX} {p : Program} {l : Launch} {e : Env} {R : Room} {s : State} {m : MethodId} {args : Array Value} {below : List Frame} {meth : Method} {c : Code} {ret : Option FieldType} {Z : State → Prop} {f : AH} {n cells slots : Nat}
theorem aw_aaldZ {own : String} {cc : ByteArray} {nL pc : Nat} {lo : List (Option Value)} {st : List Value} (C : CC X p l R s m args meth c own cc nL ret) {t i len : Nat} {x : Int32} {Cn : String} (ht : t < 5) (hty : tyN t = .object Cn) (hf : f i = some (.inl (t, len, .inr (.inr (fun _ => none))))) (hin : vp_in x len) (hd : decode cc pc = .ok (.aaload, 1))
    (kk : AW X p l e R s m args below meth c nL Z f n cells slots (pc + 1) lo (.null :: st)) : AW X p l e R s m args below meth c nL Z f n cells slots pc lo (.int x :: .ref i :: st) :=
  aw_aald C ht hty hf hin hd kk
theorem aw_aastZ {own : String} {cc : ByteArray} {nL pc : Nat} {lo : List (Option Value)} {st : List Value} (C : CC X p l R s m args meth c own cc nL ret) {t i len : Nat} {x : Int32} {Cn : String} (ht : t < 5) (hty : tyN t = .object Cn) (hf : f i = some (.inl (t, len, .inr (.inr (fun _ => none))))) (hin : vp_in x len) (hd : decode cc pc = .ok (.aastore, 1))
    (kk : AW X p l e R s m args below meth c nL Z f n cells slots (pc + 1) lo st) : AW X p l e R s m args below meth c nL Z f n cells slots pc lo (.null :: .int x :: .ref i :: st) := by
  refine aw_aastN C ht hty hf hin hd ?_
  have h : va_up (fun _ : Nat => (none : Option Nat)) x.toNatClampNeg none = fun _ => none := vu_id rfl
  rw [h, vu_id hf]; exact kk
theorem lz_locks (C : CC X p l R s m args meth c RX7 cX7_copyFrom 3 ret) {S T a b : Nat} {fs gs : List Value} (hS : f S = some (.inr (7, fs))) (hT : f T = some (.inr (7, gs))) (ha : fs[8]? = some (.ref a)) (hb : gs[8]? = some (.ref b)) (hfa : f a = some (.inl (2, 4, .inr (.inr (fun _ => none))))) (hfb : f b = some (.inl (2, 4, .inr (.inr (fun _ => none)))))
    (kk : AW X p l e R s m args below meth c 3 Z f n cells slots 102 [some (.ref S), some (.ref T), some (.int 4)] []) : ∀ d k : Nat, k + d = 4 → AW X p l e R s m args below meth c 3 Z f n cells slots 66 [some (.ref S), some (.ref T), some (.int (nI k))] [] := by
  intro d
  induction d with
  | zero =>
    intro k hk
    have hk2 : k = 4 := by omega
    subst hk2
    refine aw_iload_n C dX7_copyFrom_66 rfl ?_
    refine aw_ald_n C dX7_copyFrom_67 rfl ?_
    refine aw_get C gf_X7_30 hS ha dX7_copyFrom_68 ?_
    refine aw_alen C (by decide) hfa dX7_copyFrom_71 ?_
    exact aw_icmp_ge C 102 dX7_copyFrom_72 (by decide) (fun _ => kk) (fun q => absurd (by decide) q)
  | succ d ih =>
    intro k hk
    refine aw_iload_n C dX7_copyFrom_66 rfl ?_
    refine aw_ald_n C dX7_copyFrom_67 rfl ?_
    refine aw_get C gf_X7_30 hS ha dX7_copyFrom_68 ?_
    refine aw_alen C (by decide) hfa dX7_copyFrom_71 ?_
    refine aw_icmp_ge C 102 dX7_copyFrom_72 (by decide) (fun q => absurd q (nI_ge (a := k) (b := 4) (by omega) (by decide))) (fun _ => ?_)
    refine aw_iload_n C dX7_copyFrom_75 rfl ?_
    refine aw_ald_n C dX7_copyFrom_76 rfl ?_
    refine aw_get C gf_X7_30 hT hb dX7_copyFrom_77 ?_
    refine aw_alen C (by decide) hfb dX7_copyFrom_80 ?_
    refine aw_icmp_ge C 102 dX7_copyFrom_81 (by decide) (fun q => absurd q (nI_ge (a := k) (b := 4) (by omega) (by decide))) (fun _ => ?_)
    refine aw_ald_n C dX7_copyFrom_84 rfl ?_
    refine aw_get C gf_X7_30 hS ha dX7_copyFrom_85 ?_
    refine aw_iload_n C dX7_copyFrom_88 rfl ?_
    refine aw_ald_n C dX7_copyFrom_89 rfl ?_
    refine aw_get C gf_X7_30 hT hb dX7_copyFrom_90 ?_
    refine aw_iload_n C dX7_copyFrom_93 rfl ?_
    refine aw_aaldZ C (by decide) rfl hfb (vp_in_nI (by omega) (by decide)) dX7_copyFrom_94 ?_
    refine aw_aastZ C (by decide) rfl hfa (vp_in_nI (by omega) (by decide)) dX7_copyFrom_95 ?_
    refine aw_iinc C (nI (k + 1)) dX7_copyFrom_96 rfl (nI_inc k) (by decide) rfl ?_
    refine aw_goto C 66 dX7_copyFrom_99 (by decide) ?_
    exact ih (k + 1) (by omega)
theorem lz_told (C : CC X p l R s m args meth c RX7 cX7_copyFrom 3 ret) {S T a b : Nat} {fs gs : List Value} (hS : f S = some (.inr (7, fs))) (hT : f T = some (.inr (7, gs))) (ha : fs[9]? = some (.ref a)) (hb : gs[9]? = some (.ref b)) (hfa : f a = some (.inl (2, 40, .inr (.inr (fun _ => none))))) (hfb : f b = some (.inl (2, 40, .inr (.inr (fun _ => none)))))
    (kk : AW X p l e R s m args below meth c 3 Z f n cells slots 140 [some (.ref S), some (.ref T), some (.int 40)] []) : ∀ d k : Nat, k + d = 40 → AW X p l e R s m args below meth c 3 Z f n cells slots 104 [some (.ref S), some (.ref T), some (.int (nI k))] [] := by
  intro d
  induction d with
  | zero =>
    intro k hk
    have hk2 : k = 40 := by omega
    subst hk2
    refine aw_iload_n C dX7_copyFrom_104 rfl ?_
    refine aw_ald_n C dX7_copyFrom_105 rfl ?_
    refine aw_get C gf_X7_34 hS ha dX7_copyFrom_106 ?_
    refine aw_alen C (by decide) hfa dX7_copyFrom_109 ?_
    exact aw_icmp_ge C 140 dX7_copyFrom_110 (by decide) (fun _ => kk) (fun q => absurd (by decide) q)
  | succ d ih =>
    intro k hk
    refine aw_iload_n C dX7_copyFrom_104 rfl ?_
    refine aw_ald_n C dX7_copyFrom_105 rfl ?_
    refine aw_get C gf_X7_34 hS ha dX7_copyFrom_106 ?_
    refine aw_alen C (by decide) hfa dX7_copyFrom_109 ?_
    refine aw_icmp_ge C 140 dX7_copyFrom_110 (by decide) (fun q => absurd q (nI_ge (a := k) (b := 40) (by omega) (by decide))) (fun _ => ?_)
    refine aw_iload_n C dX7_copyFrom_113 rfl ?_
    refine aw_ald_n C dX7_copyFrom_114 rfl ?_
    refine aw_get C gf_X7_34 hT hb dX7_copyFrom_115 ?_
    refine aw_alen C (by decide) hfb dX7_copyFrom_118 ?_
    refine aw_icmp_ge C 140 dX7_copyFrom_119 (by decide) (fun q => absurd q (nI_ge (a := k) (b := 40) (by omega) (by decide))) (fun _ => ?_)
    refine aw_ald_n C dX7_copyFrom_122 rfl ?_
    refine aw_get C gf_X7_34 hS ha dX7_copyFrom_123 ?_
    refine aw_iload_n C dX7_copyFrom_126 rfl ?_
    refine aw_ald_n C dX7_copyFrom_127 rfl ?_
    refine aw_get C gf_X7_34 hT hb dX7_copyFrom_128 ?_
    refine aw_iload_n C dX7_copyFrom_131 rfl ?_
    refine aw_aaldZ C (by decide) rfl hfb (vp_in_nI (by omega) (by decide)) dX7_copyFrom_132 ?_
    refine aw_aastZ C (by decide) rfl hfa (vp_in_nI (by omega) (by decide)) dX7_copyFrom_133 ?_
    refine aw_iinc C (nI (k + 1)) dX7_copyFrom_134 rfl (nI_inc k) (by decide) rfl ?_
    refine aw_goto C 104 dX7_copyFrom_137 (by decide) ?_
    exact ih (k + 1) (by omega)
theorem lz_forget (C : CC X p l R s m args meth c RX7 cX7_forgetTold 2 ret) {S a : Nat} {fs : List Value} (hS : f S = some (.inr (7, fs))) (ha : fs[9]? = some (.ref a)) (hfa : f a = some (.inl (2, 40, .inr (.inr (fun _ => none)))))
    (kk : AW X p l e R s m args below meth c 2 Z f n cells slots 24 [some (.ref S), some (.int 40)] []) : ∀ d k : Nat, k + d = 40 → AW X p l e R s m args below meth c 2 Z f n cells slots 2 [some (.ref S), some (.int (nI k))] [] := by
  intro d
  induction d with
  | zero =>
    intro k hk
    have hk2 : k = 40 := by omega
    subst hk2
    refine aw_iload_n C dX7_forgetTold_2 rfl ?_
    refine aw_ald_n C dX7_forgetTold_3 rfl ?_
    refine aw_get C gf_X7_34 hS ha dX7_forgetTold_4 ?_
    refine aw_alen C (by decide) hfa dX7_forgetTold_7 ?_
    exact aw_icmp_ge C 24 dX7_forgetTold_8 (by decide) (fun _ => kk) (fun q => absurd (by decide) q)
  | succ d ih =>
    intro k hk
    refine aw_iload_n C dX7_forgetTold_2 rfl ?_
    refine aw_ald_n C dX7_forgetTold_3 rfl ?_
    refine aw_get C gf_X7_34 hS ha dX7_forgetTold_4 ?_
    refine aw_alen C (by decide) hfa dX7_forgetTold_7 ?_
    refine aw_icmp_ge C 24 dX7_forgetTold_8 (by decide) (fun q => absurd q (nI_ge (a := k) (b := 40) (by omega) (by decide))) (fun _ => ?_)
    refine aw_ald_n C dX7_forgetTold_11 rfl ?_
    refine aw_get C gf_X7_34 hS ha dX7_forgetTold_12 ?_
    refine aw_iload_n C dX7_forgetTold_15 rfl ?_
    refine aw_null C dX7_forgetTold_16 ?_
    refine aw_aastZ C (by decide) rfl hfa (vp_in_nI (by omega) (by decide)) dX7_forgetTold_17 ?_
    refine aw_iinc C (nI (k + 1)) dX7_forgetTold_18 rfl (nI_inc k) (by decide) rfl ?_
    refine aw_goto C 2 dX7_forgetTold_21 (by decide) ?_
    exact ih (k + 1) (by omega)
theorem lz_count (C : CC X p l R s m args meth c RX7 cX7_toldCount 3 ret) {S a : Nat} {fs : List Value} (hS : f S = some (.inr (7, fs))) (ha : fs[9]? = some (.ref a)) (hfa : f a = some (.inl (2, 40, .inr (.inr (fun _ => none)))))
    (kk : AW X p l e R s m args below meth c 3 Z f n cells slots 31 [some (.ref S), some (.int 0), some (.int 40)] []) : ∀ d k : Nat, k + d = 40 → AW X p l e R s m args below meth c 3 Z f n cells slots 4 [some (.ref S), some (.int 0), some (.int (nI k))] [] := by
  intro d
  induction d with
  | zero =>
    intro k hk
    have hk2 : k = 40 := by omega
    subst hk2
    refine aw_iload_n C dX7_toldCount_4 rfl ?_
    refine aw_ald_n C dX7_toldCount_5 rfl ?_
    refine aw_get C gf_X7_34 hS ha dX7_toldCount_6 ?_
    refine aw_alen C (by decide) hfa dX7_toldCount_9 ?_
    exact aw_icmp_ge C 31 dX7_toldCount_10 (by decide) (fun _ => kk) (fun q => absurd (by decide) q)
  | succ d ih =>
    intro k hk
    refine aw_iload_n C dX7_toldCount_4 rfl ?_
    refine aw_ald_n C dX7_toldCount_5 rfl ?_
    refine aw_get C gf_X7_34 hS ha dX7_toldCount_6 ?_
    refine aw_alen C (by decide) hfa dX7_toldCount_9 ?_
    refine aw_icmp_ge C 31 dX7_toldCount_10 (by decide) (fun q => absurd q (nI_ge (a := k) (b := 40) (by omega) (by decide))) (fun _ => ?_)
    refine aw_ald_n C dX7_toldCount_13 rfl ?_
    refine aw_get C gf_X7_34 hS ha dX7_toldCount_14 ?_
    refine aw_iload_n C dX7_toldCount_17 rfl ?_
    refine aw_aaldZ C (by decide) rfl hfa (vp_in_nI (by omega) (by decide)) dX7_toldCount_18 ?_
    refine aw_ifnull_n C 25 dX7_toldCount_19 (by decide) ?_
    refine aw_iinc C (nI (k + 1)) dX7_toldCount_25 rfl (nI_inc k) (by decide) rfl ?_
    refine aw_goto C 4 dX7_toldCount_28 (by decide) ?_
    exact ih (k + 1) (by omega)
end LPZ
