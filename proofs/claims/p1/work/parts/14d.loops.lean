section LPS
variable {X : GX} {p : Program} {l : Launch} {e : Env} {R : Room} {s : State} {m : MethodId} {args : Array Value} {below : List Frame} {meth : Method} {c : Code} {ret : Option FieldType} {Z : State → Prop} {f : AH} {n cells slots : Nat} {L : List (Nat × AE)}
theorem lp_X9_putsAside_w (C : CC X p l R s m args meth c RX9 cX9_putsAside 2 ret) {M a b : Nat} {fs : List Value} {g src : Nat → Int32} (hM : f M = some (.inr (9, fs))) (ha : fs[2]? = some (.ref a)) (hb : fs[1]? = some (.ref b)) (hMa : M ≠ a) (hba : b ≠ a) (hfb : f b = some (.inl (0, 4347, .inl src)))
    (kk : AW X p l e R s m args below meth c 2 Z (va_up f a (some (.inl (0, 4347, .inl (cpy src g 4347))))) n cells slots 27 [some (.ref M), some (.int 4347)] []) : ∀ d k : Nat, k + d = 4347 → AW X p l e R s m args below meth c 2 Z (va_up f a (some (.inl (0, 4347, .inl (cpy src g k))))) n cells slots 2 [some (.ref M), some (.int (nI k))] [] := by
  intro d
  induction d with
  | zero =>
    intro k hk
    have hk2 : k = 4347 := by omega
    subst hk2
    refine aw_iload_n C dX9_putsAside_2 rfl ?_
    refine aw_sipush C 4347 dX9_putsAside_3 ks_4347 ?_
    exact aw_icmp_ge C 27 dX9_putsAside_6 (by decide) (fun _ => kk) (fun q => absurd (by decide) q)
  | succ d ih =>
    intro k hk
    refine aw_iload_n C dX9_putsAside_2 rfl ?_
    refine aw_sipush C 4347 dX9_putsAside_3 ks_4347 ?_
    refine aw_icmp_ge C 27 dX9_putsAside_6 (by decide) (fun q => absurd q (nI_ge (a := k) (b := 4347) (by omega) (by decide))) (fun _ => ?_)
    refine aw_ald_n C dX9_putsAside_9 rfl ?_
    refine aw_get C gf_X9_13 ((vu_ne hMa).trans hM) ha dX9_putsAside_10 ?_
    refine aw_iload_n C dX9_putsAside_13 rfl ?_
    refine aw_ald_n C dX9_putsAside_14 rfl ?_
    refine aw_get C gf_X9_7 ((vu_ne hMa).trans hM) hb dX9_putsAside_15 ?_
    refine aw_iload_n C dX9_putsAside_18 rfl ?_
    refine aw_iald C ((vu_ne hba).trans hfb) (vp_in_nI (by omega) (by decide)) dX9_putsAside_19 ?_
    refine aw_iast C vu_eq (vp_in_nI (by omega) (by decide)) dX9_putsAside_20 ?_
    refine aw_iinc C (nI (k + 1)) dX9_putsAside_21 rfl (nI_inc k) (by decide) rfl ?_
    refine aw_goto C 2 dX9_putsAside_24 (by decide) ?_
    rw [vu_up, nI_clamp (by omega), cpy_s]
    exact ih (k + 1) (by omega)
theorem lp_X9_putsAside (C : CC X p l R s m args meth c RX9 cX9_putsAside 2 ret) {M a b : Nat} {fs : List Value} {g src : Nat → Int32} (l' : List (Nat × AE)) (hM : ovl f L M = some (.inr (9, fs))) (ha : fs[2]? = some (.ref a)) (hb : fs[1]? = some (.ref b)) (hMa : M ≠ a) (hba : b ≠ a) (hfa : ovl f L a = some (.inl (0, 4347, .inl g))) (hfb : ovl f L b = some (.inl (0, 4347, .inl src))) (hL : ins L a (.inl (0, 4347, .inl (cpy src g 4347))) = l')
    (kk : AW X p l e R s m args below meth c 2 Z (ovl f l') n cells slots 27 [some (.ref M), some (.int 4347)] []) : AW X p l e R s m args below meth c 2 Z (ovl f L) n cells slots 2 [some (.ref M), some (.int 0)] [] := by
  have h := lp_X9_putsAside_w (f := ovl f L) (g := g) (e := e) (below := below) (Z := Z) (n := n) (cells := cells) (slots := slots) C hM ha hb hMa hba hfb (by rw [ovl_ins, hL]; exact kk) 4347 0 rfl
  rw [cpy_0, vu_id hfa] at h
  exact h
theorem lp_X9_putsBack_w (C : CC X p l R s m args meth c RX9 cX9_putsBack 2 ret) {M a b : Nat} {fs : List Value} {g src : Nat → Int32} (hM : f M = some (.inr (9, fs))) (ha : fs[1]? = some (.ref a)) (hb : fs[2]? = some (.ref b)) (hMa : M ≠ a) (hba : b ≠ a) (hfb : f b = some (.inl (0, 4347, .inl src)))
    (kk : AW X p l e R s m args below meth c 2 Z (va_up f a (some (.inl (0, 4347, .inl (cpy src g 4347))))) n cells slots 27 [some (.ref M), some (.int 4347)] []) : ∀ d k : Nat, k + d = 4347 → AW X p l e R s m args below meth c 2 Z (va_up f a (some (.inl (0, 4347, .inl (cpy src g k))))) n cells slots 2 [some (.ref M), some (.int (nI k))] [] := by
  intro d
  induction d with
  | zero =>
    intro k hk
    have hk2 : k = 4347 := by omega
    subst hk2
    refine aw_iload_n C dX9_putsBack_2 rfl ?_
    refine aw_sipush C 4347 dX9_putsBack_3 ks_4347 ?_
    exact aw_icmp_ge C 27 dX9_putsBack_6 (by decide) (fun _ => kk) (fun q => absurd (by decide) q)
  | succ d ih =>
    intro k hk
    refine aw_iload_n C dX9_putsBack_2 rfl ?_
    refine aw_sipush C 4347 dX9_putsBack_3 ks_4347 ?_
    refine aw_icmp_ge C 27 dX9_putsBack_6 (by decide) (fun q => absurd q (nI_ge (a := k) (b := 4347) (by omega) (by decide))) (fun _ => ?_)
    refine aw_ald_n C dX9_putsBack_9 rfl ?_
    refine aw_get C gf_X9_7 ((vu_ne hMa).trans hM) ha dX9_putsBack_10 ?_
    refine aw_iload_n C dX9_putsBack_13 rfl ?_
    refine aw_ald_n C dX9_putsBack_14 rfl ?_
    refine aw_get C gf_X9_13 ((vu_ne hMa).trans hM) hb dX9_putsBack_15 ?_
    refine aw_iload_n C dX9_putsBack_18 rfl ?_
    refine aw_iald C ((vu_ne hba).trans hfb) (vp_in_nI (by omega) (by decide)) dX9_putsBack_19 ?_
    refine aw_iast C vu_eq (vp_in_nI (by omega) (by decide)) dX9_putsBack_20 ?_
    refine aw_iinc C (nI (k + 1)) dX9_putsBack_21 rfl (nI_inc k) (by decide) rfl ?_
    refine aw_goto C 2 dX9_putsBack_24 (by decide) ?_
    rw [vu_up, nI_clamp (by omega), cpy_s]
    exact ih (k + 1) (by omega)
theorem lp_X9_putsBack (C : CC X p l R s m args meth c RX9 cX9_putsBack 2 ret) {M a b : Nat} {fs : List Value} {g src : Nat → Int32} (l' : List (Nat × AE)) (hM : ovl f L M = some (.inr (9, fs))) (ha : fs[1]? = some (.ref a)) (hb : fs[2]? = some (.ref b)) (hMa : M ≠ a) (hba : b ≠ a) (hfa : ovl f L a = some (.inl (0, 4347, .inl g))) (hfb : ovl f L b = some (.inl (0, 4347, .inl src))) (hL : ins L a (.inl (0, 4347, .inl (cpy src g 4347))) = l')
    (kk : AW X p l e R s m args below meth c 2 Z (ovl f l') n cells slots 27 [some (.ref M), some (.int 4347)] []) : AW X p l e R s m args below meth c 2 Z (ovl f L) n cells slots 2 [some (.ref M), some (.int 0)] [] := by
  have h := lp_X9_putsBack_w (f := ovl f L) (g := g) (e := e) (below := below) (Z := Z) (n := n) (cells := cells) (slots := slots) C hM ha hb hMa hba hfb (by rw [ovl_ins, hL]; exact kk) 4347 0 rfl
  rw [cpy_0, vu_id hfa] at h
  exact h
theorem lp_X9_image_w (C : CC X p l R s m args meth c RX9 cX9_image 2 ret) {M a b : Nat} {fs : List Value} {g src : Nat → Int32} (hM : f M = some (.inr (9, fs))) (ha : fs[3]? = some (.ref a)) (hb : fs[1]? = some (.ref b)) (hMa : M ≠ a) (hba : b ≠ a) (hfb : f b = some (.inl (0, 4347, .inl src)))
    (kk : AW X p l e R s m args below meth c 2 Z (va_up f a (some (.inl (0, 4347, .inl (cpy src g 4347))))) n cells slots 32 [some (.ref M), some (.int 4347)] []) : ∀ d k : Nat, k + d = 4347 → AW X p l e R s m args below meth c 2 Z (va_up f a (some (.inl (0, 4347, .inl (cpy src g k))))) n cells slots 7 [some (.ref M), some (.int (nI k))] [] := by
  intro d
  induction d with
  | zero =>
    intro k hk
    have hk2 : k = 4347 := by omega
    subst hk2
    refine aw_iload_n C dX9_image_7 rfl ?_
    refine aw_sipush C 4347 dX9_image_8 ks_4347 ?_
    exact aw_icmp_ge C 32 dX9_image_11 (by decide) (fun _ => kk) (fun q => absurd (by decide) q)
  | succ d ih =>
    intro k hk
    refine aw_iload_n C dX9_image_7 rfl ?_
    refine aw_sipush C 4347 dX9_image_8 ks_4347 ?_
    refine aw_icmp_ge C 32 dX9_image_11 (by decide) (fun q => absurd q (nI_ge (a := k) (b := 4347) (by omega) (by decide))) (fun _ => ?_)
    refine aw_ald_n C dX9_image_14 rfl ?_
    refine aw_get C gf_X9_16 ((vu_ne hMa).trans hM) ha dX9_image_15 ?_
    refine aw_iload_n C dX9_image_18 rfl ?_
    refine aw_ald_n C dX9_image_19 rfl ?_
    refine aw_get C gf_X9_7 ((vu_ne hMa).trans hM) hb dX9_image_20 ?_
    refine aw_iload_n C dX9_image_23 rfl ?_
    refine aw_iald C ((vu_ne hba).trans hfb) (vp_in_nI (by omega) (by decide)) dX9_image_24 ?_
    refine aw_iast C vu_eq (vp_in_nI (by omega) (by decide)) dX9_image_25 ?_
    refine aw_iinc C (nI (k + 1)) dX9_image_26 rfl (nI_inc k) (by decide) rfl ?_
    refine aw_goto C 7 dX9_image_29 (by decide) ?_
    rw [vu_up, nI_clamp (by omega), cpy_s]
    exact ih (k + 1) (by omega)
theorem lp_X9_image (C : CC X p l R s m args meth c RX9 cX9_image 2 ret) {M a b : Nat} {fs : List Value} {g src : Nat → Int32} (l' : List (Nat × AE)) (hM : ovl f L M = some (.inr (9, fs))) (ha : fs[3]? = some (.ref a)) (hb : fs[1]? = some (.ref b)) (hMa : M ≠ a) (hba : b ≠ a) (hfa : ovl f L a = some (.inl (0, 4347, .inl g))) (hfb : ovl f L b = some (.inl (0, 4347, .inl src))) (hL : ins L a (.inl (0, 4347, .inl (cpy src g 4347))) = l')
    (kk : AW X p l e R s m args below meth c 2 Z (ovl f l') n cells slots 32 [some (.ref M), some (.int 4347)] []) : AW X p l e R s m args below meth c 2 Z (ovl f L) n cells slots 7 [some (.ref M), some (.int 0)] [] := by
  have h := lp_X9_image_w (f := ovl f L) (g := g) (e := e) (below := below) (Z := Z) (n := n) (cells := cells) (slots := slots) C hM ha hb hMa hba hfb (by rw [ovl_ins, hL]; exact kk) 4347 0 rfl
  rw [cpy_0, vu_id hfa] at h
  exact h
theorem lp_X9_remembers_w (C : CC X p l R s m args meth c RX9 cX9_remembers 2 ret) {M a b : Nat} {fs : List Value} {g src : Nat → Int32} (hM : f M = some (.inr (9, fs))) (ha : fs[4]? = some (.ref a)) (hb : fs[2]? = some (.ref b)) (hu : fs[5]? = some (.int 0)) (hMa : M ≠ a) (hba : b ≠ a) (hfb : f b = some (.inl (0, 4347, .inl src)))
    (kk : AW X p l e R s m args below meth c 2 Z (va_up f a (some (.inl (0, 34776, .inl (cpy src g 4347))))) n cells slots 86 [some (.ref M), some (.int 4347)] []) : ∀ d k : Nat, k + d = 4347 → AW X p l e R s m args below meth c 2 Z (va_up f a (some (.inl (0, 34776, .inl (cpy src g k))))) n cells slots 52 [some (.ref M), some (.int (nI k))] [] := by
  intro d
  induction d with
  | zero =>
    intro k hk
    have hk2 : k = 4347 := by omega
    subst hk2
    refine aw_iload_n C dX9_remembers_52 rfl ?_
    refine aw_sipush C 4347 dX9_remembers_53 ks_4347 ?_
    exact aw_icmp_ge C 86 dX9_remembers_56 (by decide) (fun _ => kk) (fun q => absurd (by decide) q)
  | succ d ih =>
    intro k hk
    refine aw_iload_n C dX9_remembers_52 rfl ?_
    refine aw_sipush C 4347 dX9_remembers_53 ks_4347 ?_
    refine aw_icmp_ge C 86 dX9_remembers_56 (by decide) (fun q => absurd q (nI_ge (a := k) (b := 4347) (by omega) (by decide))) (fun _ => ?_)
    refine aw_ald_n C dX9_remembers_59 rfl ?_
    refine aw_get C gf_X9_20 ((vu_ne hMa).trans hM) ha dX9_remembers_60 ?_
    refine aw_sipush C 4347 dX9_remembers_63 ks_4347 ?_
    refine aw_ald_n C dX9_remembers_66 rfl ?_
    refine aw_get C gf_X9_325 ((vu_ne hMa).trans hM) hu dX9_remembers_67 ?_
    refine ae_imul C 0 dX9_remembers_70 (by decide) ?_
    refine aw_iload_n C dX9_remembers_71 rfl ?_
    refine ae_iadd C (nI k) dX9_remembers_72 (Int32.zero_add _) ?_
    refine aw_ald_n C dX9_remembers_73 rfl ?_
    refine aw_get C gf_X9_13 ((vu_ne hMa).trans hM) hb dX9_remembers_74 ?_
    refine aw_iload_n C dX9_remembers_77 rfl ?_
    refine aw_iald C ((vu_ne hba).trans hfb) (vp_in_nI (by omega) (by decide)) dX9_remembers_78 ?_
    refine aw_iast C vu_eq (vp_in_nI (by omega) (by decide)) dX9_remembers_79 ?_
    refine aw_iinc C (nI (k + 1)) dX9_remembers_80 rfl (nI_inc k) (by decide) rfl ?_
    refine aw_goto C 52 dX9_remembers_83 (by decide) ?_
    rw [vu_up, nI_clamp (by omega), cpy_s]
    exact ih (k + 1) (by omega)
theorem lp_X9_remembers (C : CC X p l R s m args meth c RX9 cX9_remembers 2 ret) {M a b : Nat} {fs : List Value} {g src : Nat → Int32} (l' : List (Nat × AE)) (hM : ovl f L M = some (.inr (9, fs))) (ha : fs[4]? = some (.ref a)) (hb : fs[2]? = some (.ref b)) (hu : fs[5]? = some (.int 0)) (hMa : M ≠ a) (hba : b ≠ a) (hfa : ovl f L a = some (.inl (0, 34776, .inl g))) (hfb : ovl f L b = some (.inl (0, 4347, .inl src))) (hL : ins L a (.inl (0, 34776, .inl (cpy src g 4347))) = l')
    (kk : AW X p l e R s m args below meth c 2 Z (ovl f l') n cells slots 86 [some (.ref M), some (.int 4347)] []) : AW X p l e R s m args below meth c 2 Z (ovl f L) n cells slots 52 [some (.ref M), some (.int 0)] [] := by
  have h := lp_X9_remembers_w (f := ovl f L) (g := g) (e := e) (below := below) (Z := Z) (n := n) (cells := cells) (slots := slots) C hM ha hb hu hMa hba hfb (by rw [ovl_ins, hL]; exact kk) 4347 0 rfl
  rw [cpy_0, vu_id hfa] at h
  exact h
theorem lp_X9_cutsAnew_w (C : CC X p l R s m args meth c RX9 cX9_cutsAnew 2 ret) {M a : Nat} {fs : List Value} {g : Nat → Int32} (hM : f M = some (.inr (9, fs))) (ha : fs[1]? = some (.ref a)) (hMa : M ≠ a)
    (kk : AW X p l e R s m args below meth c 2 Z (va_up f a (some (.inl (0, 4347, .inl (tl g 40))))) n cells slots 32 [some (.ref M), some (.int 40)] []) : ∀ d k : Nat, k + d = 40 → AW X p l e R s m args below meth c 2 Z (va_up f a (some (.inl (0, 4347, .inl (tl g k))))) n cells slots 6 [some (.ref M), some (.int (nI k))] [] := by
  intro d
  induction d with
  | zero =>
    intro k hk
    have hk2 : k = 40 := by omega
    subst hk2
    refine aw_iload_n C dX9_cutsAnew_6 rfl ?_
    refine aw_bipush C 40 dX9_cutsAnew_7 kb_40 ?_
    exact aw_icmp_ge C 32 dX9_cutsAnew_9 (by decide) (fun _ => kk) (fun q => absurd (by decide) q)
  | succ d ih =>
    intro k hk
    refine aw_iload_n C dX9_cutsAnew_6 rfl ?_
    refine aw_bipush C 40 dX9_cutsAnew_7 kb_40 ?_
    refine aw_icmp_ge C 32 dX9_cutsAnew_9 (by decide) (fun q => absurd q (nI_ge (a := k) (b := 40) (by omega) (by decide))) (fun _ => ?_)
    refine aw_ald_n C dX9_cutsAnew_12 rfl ?_
    refine aw_get C gf_X9_7 ((vu_ne hMa).trans hM) ha dX9_cutsAnew_13 ?_
    refine aw_sipush C 443 dX9_cutsAnew_16 ks_443 ?_
    refine aw_bipush C 61 dX9_cutsAnew_19 kb_61 ?_
    refine aw_iload_n C dX9_cutsAnew_21 rfl ?_
    refine aw_imul C dX9_cutsAnew_22 ?_
    refine ae_iadd C (nI (443 + 61 * k)) dX9_cutsAnew_23 (tl_ix k) ?_
    refine aw_iconst C (-1) dX9_cutsAnew_24 ki_m1 ?_
    refine aw_iast C vu_eq (vp_in_nI (by omega) (by decide)) dX9_cutsAnew_25 ?_
    refine aw_iinc C (nI (k + 1)) dX9_cutsAnew_26 rfl (nI_inc k) (by decide) rfl ?_
    refine aw_goto C 6 dX9_cutsAnew_29 (by decide) ?_
    rw [vu_up, nI_clamp (by omega), tl_s]
    exact ih (k + 1) (by omega)
theorem lp_X9_cutsAnew (C : CC X p l R s m args meth c RX9 cX9_cutsAnew 2 ret) {M a : Nat} {fs : List Value} {g : Nat → Int32} (l' : List (Nat × AE)) (hM : ovl f L M = some (.inr (9, fs))) (ha : fs[1]? = some (.ref a)) (hMa : M ≠ a) (hfa : ovl f L a = some (.inl (0, 4347, .inl g))) (hL : ins L a (.inl (0, 4347, .inl (tl g 40))) = l')
    (kk : AW X p l e R s m args below meth c 2 Z (ovl f l') n cells slots 32 [some (.ref M), some (.int 40)] []) : AW X p l e R s m args below meth c 2 Z (ovl f L) n cells slots 6 [some (.ref M), some (.int 0)] [] := by
  have h := lp_X9_cutsAnew_w (f := ovl f L) (g := g) (e := e) (below := below) (Z := Z) (n := n) (cells := cells) (slots := slots) C hM ha hMa (by rw [ovl_ins, hL]; exact kk) 40 0 rfl
  rw [tl_0, vu_id hfa] at h
  exact h
theorem lp_X9_init_w (C : CC X p l R s m args meth c RX9 cX9_init 2 ret) {M a : Nat} {fs : List Value} {g : Nat → Int32} (hM : f M = some (.inr (9, fs))) (ha : fs[1]? = some (.ref a)) (hMa : M ≠ a)
    (kk : AW X p l e R s m args below meth c 2 Z (va_up f a (some (.inl (0, 4347, .inl (tl g 40))))) n cells slots 406 [some (.ref M), some (.int 40)] []) : ∀ d k : Nat, k + d = 40 → AW X p l e R s m args below meth c 2 Z (va_up f a (some (.inl (0, 4347, .inl (tl g k))))) n cells slots 380 [some (.ref M), some (.int (nI k))] [] := by
  intro d
  induction d with
  | zero =>
    intro k hk
    have hk2 : k = 40 := by omega
    subst hk2
    refine aw_iload_n C dX9_init_380 rfl ?_
    refine aw_bipush C 40 dX9_init_381 kb_40 ?_
    exact aw_icmp_ge C 406 dX9_init_383 (by decide) (fun _ => kk) (fun q => absurd (by decide) q)
  | succ d ih =>
    intro k hk
    refine aw_iload_n C dX9_init_380 rfl ?_
    refine aw_bipush C 40 dX9_init_381 kb_40 ?_
    refine aw_icmp_ge C 406 dX9_init_383 (by decide) (fun q => absurd q (nI_ge (a := k) (b := 40) (by omega) (by decide))) (fun _ => ?_)
    refine aw_ald_n C dX9_init_386 rfl ?_
    refine aw_get C gf_X9_7 ((vu_ne hMa).trans hM) ha dX9_init_387 ?_
    refine aw_sipush C 443 dX9_init_390 ks_443 ?_
    refine aw_bipush C 61 dX9_init_393 kb_61 ?_
    refine aw_iload_n C dX9_init_395 rfl ?_
    refine aw_imul C dX9_init_396 ?_
    refine ae_iadd C (nI (443 + 61 * k)) dX9_init_397 (tl_ix k) ?_
    refine aw_iconst C (-1) dX9_init_398 ki_m1 ?_
    refine aw_iast C vu_eq (vp_in_nI (by omega) (by decide)) dX9_init_399 ?_
    refine aw_iinc C (nI (k + 1)) dX9_init_400 rfl (nI_inc k) (by decide) rfl ?_
    refine aw_goto C 380 dX9_init_403 (by decide) ?_
    rw [vu_up, nI_clamp (by omega), tl_s]
    exact ih (k + 1) (by omega)
theorem lp_X9_init (C : CC X p l R s m args meth c RX9 cX9_init 2 ret) {M a : Nat} {fs : List Value} {g : Nat → Int32} (l' : List (Nat × AE)) (hM : ovl f L M = some (.inr (9, fs))) (ha : fs[1]? = some (.ref a)) (hMa : M ≠ a) (hfa : ovl f L a = some (.inl (0, 4347, .inl g))) (hL : ins L a (.inl (0, 4347, .inl (tl g 40))) = l')
    (kk : AW X p l e R s m args below meth c 2 Z (ovl f l') n cells slots 406 [some (.ref M), some (.int 40)] []) : AW X p l e R s m args below meth c 2 Z (ovl f L) n cells slots 380 [some (.ref M), some (.int 0)] [] := by
  have h := lp_X9_init_w (f := ovl f L) (g := g) (e := e) (below := below) (Z := Z) (n := n) (cells := cells) (slots := slots) C hM ha hMa (by rw [ovl_ins, hL]; exact kk) 40 0 rfl
  rw [tl_0, vu_id hfa] at h
  exact h
end LPS
