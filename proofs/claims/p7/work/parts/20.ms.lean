/-! the reference: its numbers by field, its rows by field -/
abbrev RS9 : Type := (Nat → Int32) × (Nat → Nat → Int32)
def rIsA : Nat → Bool
  | 1 => true
  | 2 => true
  | 3 => true
  | 4 => true
  | 8 => true
  | 13 => true
  | 14 => true
  | 15 => true
  | 17 => true
  | 18 => true
  | 19 => true
  | 20 => true
  | 21 => true
  | 23 => true
  | 24 => true
  | 25 => true
  | 27 => true
  | 28 => true
  | 29 => true
  | 30 => true
  | 31 => true
  | 32 => true
  | 34 => true
  | 35 => true
  | 36 => true
  | 37 => true
  | 38 => true
  | 39 => true
  | 40 => true
  | 41 => true
  | 42 => true
  | 43 => true
  | 44 => true
  | 46 => true
  | 47 => true
  | 49 => true
  | 50 => true
  | 51 => true
  | 52 => true
  | 53 => true
  | 58 => true
  | _ => false
def rIsI : Nat → Bool
  | 0 => true
  | 5 => true
  | 6 => true
  | 7 => true
  | 9 => true
  | 10 => true
  | 11 => true
  | 12 => true
  | 16 => true
  | 22 => true
  | 26 => true
  | 33 => true
  | 45 => true
  | 48 => true
  | 54 => true
  | 55 => true
  | 56 => true
  | 57 => true
  | 59 => true
  | _ => false
def rAid : Nat → Nat
  | 1 => 182
  | 2 => 183
  | 3 => 184
  | 4 => 185
  | 8 => 186
  | 13 => 187
  | 14 => 188
  | 15 => 189
  | 17 => 190
  | 18 => 191
  | 19 => 192
  | 20 => 193
  | 21 => 194
  | 23 => 195
  | 24 => 196
  | 25 => 197
  | 27 => 198
  | 28 => 199
  | 29 => 200
  | 30 => 201
  | 31 => 202
  | 32 => 203
  | 34 => 204
  | 35 => 205
  | 36 => 206
  | 37 => 207
  | 38 => 208
  | 39 => 209
  | 40 => 210
  | 41 => 211
  | 42 => 212
  | 43 => 213
  | 44 => 214
  | 46 => 215
  | 47 => 216
  | 49 => 217
  | 50 => 218
  | 51 => 219
  | 52 => 220
  | 53 => 221
  | 58 => 222
  | _ => 0
def rLen : Nat → Nat
  | 1 => 4347
  | 2 => 4347
  | 3 => 4347
  | 4 => 34776
  | 8 => 400
  | 13 => 600
  | 14 => 600
  | 15 => 600
  | 17 => 600
  | 18 => 600
  | 19 => 600
  | 20 => 600
  | 21 => 600
  | 23 => 600
  | 24 => 600
  | 25 => 600
  | 27 => 600
  | 28 => 600
  | 29 => 600
  | 30 => 600
  | 31 => 600
  | 32 => 600
  | 34 => 40
  | 35 => 40
  | 36 => 40
  | 37 => 40
  | 38 => 40
  | 39 => 40
  | 40 => 40
  | 41 => 40
  | 42 => 40
  | 43 => 600
  | 44 => 600
  | 46 => 1400
  | 47 => 1400
  | 49 => 700
  | 50 => 700
  | 51 => 41
  | 52 => 40
  | 53 => 60
  | 58 => 60
  | _ => 0
def rIx : Nat → Option Nat
  | 182 => some 1
  | 183 => some 2
  | 184 => some 3
  | 185 => some 4
  | 186 => some 8
  | 187 => some 13
  | 188 => some 14
  | 189 => some 15
  | 190 => some 17
  | 191 => some 18
  | 192 => some 19
  | 193 => some 20
  | 194 => some 21
  | 195 => some 23
  | 196 => some 24
  | 197 => some 25
  | 198 => some 27
  | 199 => some 28
  | 200 => some 29
  | 201 => some 30
  | 202 => some 31
  | 203 => some 32
  | 204 => some 34
  | 205 => some 35
  | 206 => some 36
  | 207 => some 37
  | 208 => some 38
  | 209 => some 39
  | 210 => some 40
  | 211 => some 41
  | 212 => some 42
  | 213 => some 43
  | 214 => some 44
  | 215 => some 46
  | 216 => some 47
  | 217 => some 49
  | 218 => some 50
  | 219 => some 51
  | 220 => some 52
  | 221 => some 53
  | 222 => some 58
  | _ => none
def rMf (F : Nat → Int32) : List Value := .int (F 0) :: .ref 182 :: .ref 183 :: .ref 184 :: .ref 185 :: .int (F 5) :: .int (F 6) :: .int (F 7) :: .ref 186 :: .int (F 9) :: .int (F 10) :: .int (F 11) :: .int (F 12) :: .ref 187 :: .ref 188 :: .ref 189 :: .int (F 16) :: .ref 190 :: .ref 191 :: .ref 192 :: .ref 193 :: .ref 194 :: .int (F 22) :: .ref 195 :: .ref 196 :: .ref 197 :: .int (F 26) :: .ref 198 :: .ref 199 :: .ref 200 :: .ref 201 :: .ref 202 :: .ref 203 :: .int (F 33) :: .ref 204 :: .ref 205 :: .ref 206 :: .ref 207 :: .ref 208 :: .ref 209 :: .ref 210 :: .ref 211 :: .ref 212 :: .ref 213 :: .ref 214 :: .int (F 45) :: .ref 215 :: .ref 216 :: .int (F 48) :: .ref 217 :: .ref 218 :: .ref 219 :: .ref 220 :: .ref 221 :: .int (F 54) :: .int (F 55) :: .int (F 56) :: .int (F 57) :: .ref 222 :: .int (F 59) :: []
def rHm (f : AH) (σ : RS9) : AH := fun i => if i = 181 then some (.inr (9, rMf σ.1)) else match rIx i with
  | some k => some (.inl (0, rLen k, .inl (σ.2 k)))
  | none => f i
def rSf (σ : RS9) (k : Nat) (v : Int32) : RS9 := (fun j => if j = k then v else σ.1 j, σ.2)
def rSa (σ : RS9) (κ : Nat) (x v : Int32) : RS9 := (σ.1, fun j => if j = κ then upd (σ.2 j) x.toNatClampNeg v else σ.2 j)
def rGa (σ : RS9) (κ : Nat) (x : Int32) : Int32 := σ.2 κ x.toNatClampNeg
def rIn (x : Int32) (n : Nat) : Bool := !(decide (x < 0)) && decide (x.toNatClampNeg < n)
def rNb (x : Int32) : Bool := decide (x &&& 1 = x)
def rCk {α : Type} (b : Bool) (x : Option α) : Option α := bif b then x else none
def rFU : Nat := 40000
theorem ck_some {α : Type} {b : Bool} {x : Option α} {r : α} (h : rCk b x = some r) : b = true ∧ x = some r := by
  cases b
  · cases h
  · exact ⟨rfl, h⟩
theorem ck_t {α : Type} {b : Bool} {x : Option α} (h : b = true) : rCk b x = x := by rw [h]; rfl
theorem inb_vp {x : Int32} {n : Nat} (h : rIn x n = true) : vp_in x n := by
  simp only [rIn, Bool.and_eq_true, Bool.not_eq_true', decide_eq_false_iff_not, decide_eq_true_eq] at h
  exact fun q => q.elim h.1 (fun q => by omega)
theorem inb_nI {k n : Nat} (h : k < n) (hn : n < 2 ^ 31) : rIn (nI k) n = true := by
  simp only [rIn, Bool.and_eq_true, Bool.not_eq_true', decide_eq_false_iff_not, decide_eq_true_eq]
  exact ⟨nI_pos (by omega), by rw [nI_clamp (by omega)]; exact h⟩
theorem nb_nar {x : Int32} (h : rNb x = true) : narrow .boolean (.int x) = .int x := by
  have h2 : x &&& 1 = x := by simpa [rNb] using h
  show Value.int (x &&& 1) = .int x
  rw [h2]
theorem nb_01 {x : Int32} (h : rNb x = true) : x = 0 ∨ x = 1 := by
  have h2 : x &&& 1 = x := by simpa [rNb] using h
  obtain ⟨j, hj, hx⟩ := pk_andE x (m := 1) 1 (by decide)
  rw [h2] at hx
  have h3 : j = 0 ∨ j = 1 := by omega
  rcases h3 with rfl | rfl
  · exact Or.inl hx
  · exact Or.inr hx
theorem nb_fit {x : Int32} (h : rNb x = true) : fits .boolean (.int x) = true := by
  rcases nb_01 h with rfl | rfl <;> decide
theorem hm_M (f : AH) (σ : RS9) : rHm f σ 181 = some (.inr (9, rMf σ.1)) := rfl
theorem isA_lt {k : Nat} (h : rIsA k = true) : k < 60 := by
  by_cases hk : k < 60
  · exact hk
  · exfalso
    unfold rIsA at h
    split at h <;> first | omega | cases h
theorem isA_ai : ∀ k : Nat, rIsA k = true → rAid k ≠ 181 ∧ rIx (rAid k) = some k := by
  have h0 : ∀ k : Fin 60, rIsA k = true → rAid k ≠ 181 ∧ rIx (rAid k) = some (k : Nat) := by decide +kernel
  intro k h
  exact h0 ⟨k, isA_lt h⟩ h
theorem aid_inj {j k : Nat} (hj : rIsA j = true) (hk : rIsA k = true) (h : rAid j = rAid k) : j = k := by
  have a := (isA_ai j hj).2
  have b := (isA_ai k hk).2
  rw [h, b] at a
  exact (Option.some.inj a).symm
theorem ai_aid {i k : Nat} (h : rIx i = some k) : rAid k = i ∧ rIsA k = true := by
  unfold rIx at h
  split at h <;> first | (cases h; exact ⟨rfl, rfl⟩) | cases h
theorem hm_A (f : AH) (σ : RS9) {k : Nat} (h : rIsA k = true) : rHm f σ (rAid k) = some (.inl (0, rLen k, .inl (σ.2 k))) := by
  obtain ⟨h1, h2⟩ := isA_ai k h
  unfold rHm
  rw [if_neg h1, h2]
theorem hm_sa (f : AH) (σ : RS9) {k : Nat} (h : rIsA k = true) (x v : Int32) : va_up (rHm f σ) (rAid k) (some (.inl (0, rLen k, .inl (upd (σ.2 k) x.toNatClampNeg v)))) = rHm f (rSa σ k x v) := by
  obtain ⟨h1, h2⟩ := isA_ai k h
  funext i
  by_cases hi : i = rAid k
  · subst hi
    show (if rAid k = rAid k then _ else _) = _
    rw [if_pos rfl, hm_A f _ h]
    show _ = some (Sum.inl (0, rLen k, Sum.inl (if k = k then upd (σ.2 k) x.toNatClampNeg v else σ.2 k)))
    rw [if_pos rfl]
  · show (if i = rAid k then _ else rHm f σ i) = _
    rw [if_neg hi]
    unfold rHm
    by_cases hM : i = 181
    · rw [if_pos hM, if_pos hM]; rfl
    · rw [if_neg hM, if_neg hM]
      cases ha : rIx i with
      | none => rfl
      | some j =>
        have hj : j ≠ k := fun e => hi (by rw [← (ai_aid ha).1, e])
        show _ = some (Sum.inl (0, rLen j, Sum.inl (if j = k then upd (σ.2 j) x.toNatClampNeg v else σ.2 j)))
        rw [if_neg hj]
theorem mf_set (F : Nat → Int32) (k : Nat) (h : rIsI k = true) (v : Int32) : (rMf F).set k (.int v) = rMf (fun j => if j = k then v else F j) := by
  unfold rIsI at h
  split at h <;> first | rfl | cases h
theorem isI_lt {k : Nat} (h : rIsI k = true) : k < 60 := by
  unfold rIsI at h
  split at h <;> first | decide | cases h
theorem hm_sf (f : AH) (σ : RS9) {k : Nat} (h : rIsI k = true) (v : Int32) : va_up (rHm f σ) 181 (some (.inr (9, (rMf σ.1).set k (.int v)))) = rHm f (rSf σ k v) := by
  funext i
  by_cases hi : i = 181
  · subst hi
    show (if 181 = 181 then _ else _) = _
    rw [if_pos rfl, hm_M, mf_set _ _ h]
    rfl
  · show (if i = 181 then _ else rHm f σ i) = _
    rw [if_neg hi]
    unfold rHm
    rw [if_neg hi, if_neg hi]
    rfl
def QMi (f : AH) (n : Nat) (r : Int32 × RS9) : Option Value → AH → Nat → Prop := fun v' f' n' => v' = some (.int r.1) ∧ f' = rHm f r.2 ∧ n' = n
def QMv (f : AH) (n : Nat) (r : Int32 × RS9) : Option Value → AH → Nat → Prop := fun v' f' n' => v' = none ∧ f' = rHm f r.2 ∧ n' = n
def QMl (f : AH) (n : Nat) (r : Int64 × RS9) : Option Value → AH → Nat → Prop := fun v' f' n' => v' = some (.long r.1) ∧ f' = rHm f r.2 ∧ n' = n
/-- fewer locals -/
def SubL : List (Option Value) → List (Option Value) → Prop
  | [], _ => True
  | _ :: _, [] => False
  | none :: a, _ :: b => SubL a b
  | some v :: a, w :: b => w = some v ∧ SubL a b
theorem SubL.get : ∀ {a b : List (Option Value)}, SubL a b → ∀ (i : Nat) (v : Value), a[i]? = some (some v) → b[i]? = some (some v)
  | [], _, _, i, v, h => by simp at h
  | _ :: _, [], hs, _, _, _ => hs.elim
  | none :: a, _ :: b, hs, 0, v, h => by simp at h
  | none :: a, _ :: b, hs, i + 1, v, h => by
    have := SubL.get (a := a) (b := b) hs i v (by simpa using h)
    simpa using this
  | some w :: a, _ :: b, hs, 0, v, h => by
    have h2 : w = v := by simpa using h
    rw [hs.1, h2]; rfl
  | some w :: a, _ :: b, hs, i + 1, v, h => by
    have := SubL.get (a := a) (b := b) hs.2 i v (by simpa using h)
    simpa using this
section AMR
variable {X : GX} {p : Program} {l : Launch} {e : Env} {R : Room} {s : State} {m : MethodId} {args : Array Value} {below : List Frame} {meth : Method} {c : Code} {own : String} {cc : ByteArray} {nL : Nat} {ret : Option FieldType} {Z : State → Prop} {f : AH} {n cells slots pc : Nat} {lo : List (Option Value)} {st : List Value} {σ : RS9}
theorem aw_fl (lo' : List (Option Value)) (h : SubL lo' lo) (kk : AW X p l e R s m args below meth c nL Z f n cells slots pc lo' st) : AW X p l e R s m args below meth c nL Z f n cells slots pc lo st := aw_lo h.get kk
theorem am_put (C : CC X p l R s m args meth c own cc nL ret) {idx k : Nat} {v : Int32} (g : GF own idx 9 k) (nf : noFin 9 k) (hk : rIsI k = true) (ht : tyX9 k = .int) (hd : decode cc pc = .ok (.putfield idx, 3)) (kk : AW X p l e R s m args below meth c nL Z (rHm f (rSf σ k v)) n cells slots (pc + 3) lo st) : AW X p l e R s m args below meth c nL Z (rHm f σ) n cells slots pc lo (.int v :: .ref 181 :: st) := by
  refine aw_put C g cf9 nf (hm_M f σ) (isI_lt hk) (by rw [ht]; rfl) (by rw [ht]; rfl) hd ?_
  rw [hm_sf f σ hk]; exact kk
theorem am_putZ (C : CC X p l R s m args meth c own cc nL ret) {idx k : Nat} {v : Int32} (g : GF own idx 9 k) (nf : noFin 9 k) (hk : rIsI k = true) (ht : tyX9 k = .boolean) (hb : rNb v = true) (hd : decode cc pc = .ok (.putfield idx, 3)) (kk : AW X p l e R s m args below meth c nL Z (rHm f (rSf σ k v)) n cells slots (pc + 3) lo st) : AW X p l e R s m args below meth c nL Z (rHm f σ) n cells slots pc lo (.int v :: .ref 181 :: st) := by
  refine aw_put C g cf9 nf (hm_M f σ) (isI_lt hk) (by rw [ht]; exact nb_nar hb) (by rw [ht]; exact nb_fit hb) hd ?_
  rw [hm_sf f σ hk]; exact kk
theorem am_iald (C : CC X p l R s m args meth c own cc nL ret) {κ : Nat} {x : Int32} (w : Int32) (hk : rIsA κ = true) (hin : vp_in x (rLen κ)) (hw : rGa σ κ x = w) (hd : decode cc pc = .ok (.iaload, 1)) (kk : AW X p l e R s m args below meth c nL Z (rHm f σ) n cells slots (pc + 1) lo (.int w :: st)) : AW X p l e R s m args below meth c nL Z (rHm f σ) n cells slots pc lo (.int x :: .ref (rAid κ) :: st) := by
  subst hw
  exact aw_iald C (hm_A f σ hk) hin hd kk
theorem am_iast (C : CC X p l R s m args meth c own cc nL ret) {κ : Nat} {x v : Int32} (hk : rIsA κ = true) (hin : vp_in x (rLen κ)) (hd : decode cc pc = .ok (.iastore, 1)) (kk : AW X p l e R s m args below meth c nL Z (rHm f (rSa σ κ x v)) n cells slots (pc + 1) lo st) : AW X p l e R s m args below meth c nL Z (rHm f σ) n cells slots pc lo (.int v :: .int x :: .ref (rAid κ) :: st) := by
  refine aw_iast C (hm_A f σ hk) hin hd ?_
  rw [hm_sa f σ hk]; exact kk
theorem aw_dup2 (C : CC X p l R s m args meth c own cc nL ret) {va vb : Value} (hd : decode cc pc = .ok (.dup2, 1)) (ha : va.category = 1) (hb : vb.category = 1) (kk : AW X p l e R s m args below meth c nL Z f n cells slots (pc + 1) lo (va :: vb :: va :: vb :: st)) : AW X p l e R s m args below meth c nL Z f n cells slots pc lo (va :: vb :: st) := by
  intro H locs ls hR hn hS hl
  exact lv_dup2_11 C.1 C.2.1 hd (by rw [rn_cat]; exact ha) (by rw [rn_cat]; exact hb) (kk H locs ls hR hn hS hl)
theorem aw_acmp_ne (C : CC X p l R s m args meth c own cc nL ret) {x y : Nat} {off : Int} (tgt : Nat) (hd : decode cc pc = .ok (.if_acmp .ne off, 3)) (ht : (pc : Int) + off = (tgt : Int)) (hx : rIsA x = true) (hy : rIsA y = true) (k0 : ¬ x = y → AW X p l e R s m args below meth c nL Z f n cells slots tgt lo st) (k1 : x = y → AW X p l e R s m args below meth c nL Z f n cells slots (pc + 3) lo st) : AW X p l e R s m args below meth c nL Z f n cells slots pc lo (.ref (rAid y) :: .ref (rAid x) :: st) := by
  intro H locs ls hR hn hS hl
  refine lv_acmp_ne (rx := some (X.1 + rAid x)) (ry := some (X.1 + rAid y)) C.1 C.2.1 hd ht (fun q => k0 (fun e => q (by rw [e])) H locs ls hR hn hS hl) (fun q => k1 (aid_inj hx hy (by have := Option.some.inj q; omega)) H locs ls hR hn hS hl)
def strL (t : Nat) : Int32 := nI (sL9.getD t 0)
def strC (t : Nat) (x : Int32) : Int32 := (sB9.getD t []).getD x.toNatClampNeg 0 &&& 255
theorem sL9_b {t : Nat} (h : t < 15) : sL9.getD t 0 < 2 ^ 31 := by
  have h0 : ∀ k : Fin 15, sL9.getD (k : Nat) 0 < 2 ^ 31 := by decide
  exact h0 ⟨t, h⟩
theorem am_slen (C : CC X p l R s m args meth c RX9 cc nL ret) {t : Nat} (ht : t < 15) (hd : decode cc pc = .ok (.invokevirtual 173, 3)) (hfr : 2 ≤ R.frames) (hlo : 56 ≤ R.locals) (hstk : (st.map fun v => v.category).sum ≤ 8) (hc : cells + 0 ≤ R.cells) (hs : slots + 0 ≤ R.slots) (kk : AW X p l e R s m args below meth c nL Z f n cells slots (pc + 3) lo (.int (strL t) :: st)) : AW X p l e R s m args below meth c nL Z f n cells slots pc lo (.retAddr (X.2.2 (1000 + t)) :: st) := by
  refine aw_callK C [] mv_X9_173 (fun H locs hS => vk_recv (STA9 X s C.2.2.2.2.2.2.1) ht hS) (sk_len (STA9 X) ht (sL9_b ht)) rfl hd hfr hlo rfl hstk hc hs (fun v9 f9 n9 hh => ?_)
  obtain ⟨rfl, rfl, rfl⟩ := hh
  exact kk
theorem am_schr (C : CC X p l R s m args meth c RX9 cc nL ret) {t : Nat} {x : Int32} (ht : t < 15) (hb : rIn x (sL9.getD t 0) = true) (hd : decode cc pc = .ok (.invokevirtual 179, 3)) (hfr : 4 ≤ R.frames) (hlo : 129 ≤ R.locals) (hstk : (st.map fun v => v.category).sum ≤ 8) (hc : cells + 0 ≤ R.cells) (hs : slots + 0 ≤ R.slots) (kk : AW X p l e R s m args below meth c nL Z f n cells slots (pc + 3) lo (.int (strC t x) :: st)) : AW X p l e R s m args below meth c nL Z f n cells slots pc lo (.int x :: .retAddr (X.2.2 (1000 + t)) :: st) := by
  have hb2 := sL9_b ht
  obtain ⟨k, hk, hx⟩ := vp_in_of (inb_vp hb) hb2
  subst hx
  refine aw_callK C [.int (nI k)] mv_X9_179 (fun H locs hS => vk_recv (STA9 X s C.2.2.2.2.2.2.1) ht hS) (sk_chr (STA9 X) ht hk hb2) rfl hd hfr hlo rfl hstk hc hs (fun v9 f9 n9 hh => ?_)
  obtain ⟨rfl, rfl, rfl⟩ := hh
  have h9 : strC t (nI k) = (sB9.getD t []).getD k 0 &&& 255 := by unfold strC; rw [nI_clamp (by omega)]
  rw [h9] at kk
  exact kk
end AMR
theorem i32_ne {x : Int32} {k : Int} (c : Int32) (hc : c.toInt = k) (h : ¬ x = c) : x.toInt ≠ k := fun q => h (Int32.toInt_inj.mp (q.trans hc.symm))
theorem sw_out9 {x : Int32} (q0 : ¬ x = 0) (q1 : ¬ x = 1) (q2 : ¬ x = 2) (q3 : ¬ x = 3) (q4 : ¬ x = 4) (q5 : ¬ x = 5) (q6 : ¬ x = 6) (q7 : ¬ x = 7) (q8 : ¬ x = 8) : x.toInt < 0 ∨ 8 < x.toInt := by
  have h0 := i32_ne (k := 0) 0 (by decide) q0
  have h1 := i32_ne (k := 1) 1 (by decide) q1
  have h2 := i32_ne (k := 2) 2 (by decide) q2
  have h3 := i32_ne (k := 3) 3 (by decide) q3
  have h4 := i32_ne (k := 4) 4 (by decide) q4
  have h5 := i32_ne (k := 5) 5 (by decide) q5
  have h6 := i32_ne (k := 6) 6 (by decide) q6
  have h7 := i32_ne (k := 7) 7 (by decide) q7
  have h8 := i32_ne (k := 8) 8 (by decide) q8
  omega
theorem sw_out15 {x : Int32} (q0 : ¬ x = 0) (q1 : ¬ x = 1) (q2 : ¬ x = 2) (q3 : ¬ x = 3) (q4 : ¬ x = 4) (q5 : ¬ x = 5) (q6 : ¬ x = 6) (q7 : ¬ x = 7) (q8 : ¬ x = 8) (q9 : ¬ x = 9) (q10 : ¬ x = 10) (q11 : ¬ x = 11) (q12 : ¬ x = 12) (q13 : ¬ x = 13) (q14 : ¬ x = 14) : x.toInt < 0 ∨ 14 < x.toInt := by
  have h0 := i32_ne (k := 0) 0 (by decide) q0
  have h1 := i32_ne (k := 1) 1 (by decide) q1
  have h2 := i32_ne (k := 2) 2 (by decide) q2
  have h3 := i32_ne (k := 3) 3 (by decide) q3
  have h4 := i32_ne (k := 4) 4 (by decide) q4
  have h5 := i32_ne (k := 5) 5 (by decide) q5
  have h6 := i32_ne (k := 6) 6 (by decide) q6
  have h7 := i32_ne (k := 7) 7 (by decide) q7
  have h8 := i32_ne (k := 8) 8 (by decide) q8
  have h9 := i32_ne (k := 9) 9 (by decide) q9
  have h10 := i32_ne (k := 10) 10 (by decide) q10
  have h11 := i32_ne (k := 11) 11 (by decide) q11
  have h12 := i32_ne (k := 12) 12 (by decide) q12
  have h13 := i32_ne (k := 13) 13 (by decide) q13
  have h14 := i32_ne (k := 14) 14 (by decide) q14
  omega
