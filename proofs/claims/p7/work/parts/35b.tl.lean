theorem vu_up {α : Type} (f : Nat → α) (k : Nat) (v w : α) : va_up (va_up f k v) k w = va_up f k w := by
  funext j; unfold va_up; by_cases h : j = k <;> simp [h]
theorem vu_ne {α : Type} {f : Nat → α} {k j : Nat} {v : α} (h : j ≠ k) : va_up f k v j = f j := if_neg h
theorem vu_eq {α : Type} {f : Nat → α} {k : Nat} {v : α} : va_up f k v k = v := if_pos rfl
theorem vu_id {α : Type} {f : Nat → α} {k : Nat} {v : α} (h : f k = v) : va_up f k v = f := by
  funext j; unfold va_up; by_cases hj : j = k
  · rw [if_pos hj, hj, h]
  · rw [if_neg hj]
def tl (g : Nat → Int32) (k : Nat) : Nat → Int32 := fun j => if 443 ≤ j ∧ (j - 443) % 61 = 0 ∧ (j - 443) / 61 < k then -1 else g j
theorem tl_0 (g : Nat → Int32) : tl g 0 = g := by funext j; simp [tl]
theorem tl_s (g : Nat → Int32) (k : Nat) : upd (tl g k) (443 + 61 * k) (-1) = tl g (k + 1) := by
  funext j
  unfold upd tl
  by_cases h : j = 443 + 61 * k
  · subst h
    rw [if_pos rfl, if_pos ⟨by omega, by omega, by omega⟩]
  · rw [if_neg h]
    by_cases h2 : 443 ≤ j ∧ (j - 443) % 61 = 0 ∧ (j - 443) / 61 < k
    · rw [if_pos h2, if_pos ⟨h2.1, h2.2.1, by omega⟩]
    · rw [if_neg h2, if_neg (fun h3 => h2 ⟨h3.1, h3.2.1, by omega⟩)]
theorem ki1' : Int32.ofInt 1 = 1 := by decide
theorem nI_inc (k : Nat) : nI k + Int32.ofInt 1 = nI (k + 1) := by rw [ki1']; exact nI_1 k
theorem tl_ix (k : Nat) : (443 : Int32) + 61 * nI k = nI (443 + 61 * k) := by
  rw [← nI_add, ← pk_mul]; rfl
section LPS
variable {X : GX} {p : Program} {l : Launch} {e : Env} {R : Room} {s : State} {m : MethodId} {args : Array Value} {below : List Frame} {meth : Method} {c : Code} {ret : Option FieldType} {Z : State → Prop} {f : AH} {n cells slots : Nat} {L : List (Nat × AE)}
theorem lp_X9_init_w (C : CC X p l R s m args meth c RX9 cX9_init 2 ret) {M a : Nat} {fs : List Value} {g : Nat → Int32} (hM : f M = some (.inr (9, fs))) (ha : fs[1]? = some (.ref a)) (hMa : M ≠ a)
    (kk : AW X p l e R s m args below meth c 2 Z (va_up f a (some (.inl (0, 4347, .inl (tl g 40))))) n cells slots 406 [some (.ref M), some (.int 40)] []) : ∀ d k : Nat, k + d = 40 → AW X p l e R s m args below meth c 2 Z (va_up f a (some (.inl (0, 4347, .inl (tl g k))))) n cells slots 380 [some (.ref M), some (.int (nI k))] [] := by
  intro d
  induction d with
  | zero =>
    intro k hk
    have hk2 : k = 40 := by omega
    subst hk2
    refine aw_iload_n C dX9_init_380 rfl ?_
    refine aw_bipush C 40 dX9_init_381 kb_40 ?_
    exact aw_icmp_ge C 406 dX9_init_383 (by decide) (fun _ => kk) (fun q => absurd (by decide) q)
  | succ d ih =>
    intro k hk
    refine aw_iload_n C dX9_init_380 rfl ?_
    refine aw_bipush C 40 dX9_init_381 kb_40 ?_
    refine aw_icmp_ge C 406 dX9_init_383 (by decide) (fun q => absurd q (nI_ge (a := k) (b := 40) (by omega) (by decide))) (fun _ => ?_)
    refine aw_ald_n C dX9_init_386 rfl ?_
    refine aw_get C gf_X9_7 ((vu_ne hMa).trans hM) ha dX9_init_387 ?_
    refine aw_sipush C 443 dX9_init_390 ks_443 ?_
    refine aw_bipush C 61 dX9_init_393 kb_61 ?_
    refine aw_iload_n C dX9_init_395 rfl ?_
    refine aw_imul C dX9_init_396 ?_
    refine ae_iadd C (nI (443 + 61 * k)) dX9_init_397 (tl_ix k) ?_
    refine aw_iconst C (-1) dX9_init_398 ki_m1 ?_
    refine aw_iast C vu_eq (vp_in_nI (by omega) (by decide)) dX9_init_399 ?_
    refine aw_iinc C (nI (k + 1)) dX9_init_400 rfl (nI_inc k) (by decide) rfl ?_
    refine aw_goto C 380 dX9_init_403 (by decide) ?_
    rw [vu_up, nI_clamp (by omega), tl_s]
    exact ih (k + 1) (by omega)
theorem lp_X9_init (C : CC X p l R s m args meth c RX9 cX9_init 2 ret) {M a : Nat} {fs : List Value} {g : Nat → Int32} (l' : List (Nat × AE)) (hM : ovl f L M = some (.inr (9, fs))) (ha : fs[1]? = some (.ref a)) (hMa : M ≠ a) (hfa : ovl f L a = some (.inl (0, 4347, .inl g))) (hL : ins L a (.inl (0, 4347, .inl (tl g 40))) = l')
    (kk : AW X p l e R s m args below meth c 2 Z (ovl f l') n cells slots 406 [some (.ref M), some (.int 40)] []) : AW X p l e R s m args below meth c 2 Z (ovl f L) n cells slots 380 [some (.ref M), some (.int 0)] [] := by
  have h := lp_X9_init_w (f := ovl f L) (g := g) (e := e) (below := below) (Z := Z) (n := n) (cells := cells) (slots := slots) C hM ha hMa (by rw [ovl_ins, hL]; exact kk) 40 0 rfl
  rw [tl_0, vu_id hfa] at h
  exact h
end LPS
