/-! part 34b.law -/
section
/-- the script: L ints at the cell b, that nothing here writes -/
def SC (X : GX) (b L : Nat) (xs : Nat → Int32) (s : State) : Prop := va_X b L xs s s.heap ∧ b < s.heap.size ∧ ¬ X.1 ≤ b ∧ X.1 = s.heap.size
section AWSC
variable {X : GX} {p : Program} {l : Launch} {e : Env} {R : Room} {s : State} {m : MethodId} {args : Array Value} {below : List Frame} {meth : Method} {c : Code} {own : String} {cc : ByteArray} {nL : Nat} {ret : Option FieldType} {Z : State → Prop} {f : AH} {n cells slots pc : Nat} {lo : List (Option Value)} {st : List Value}
theorem aw_sld (C : CC X p l R s m args meth c own cc nL ret) {b L k : Nat} {xs : Nat → Int32} (S0 : SC X b L xs s) {x : Int32} (w : Int32) (hin : vp_in x L) (hk : x.toNatClampNeg = k) (hw : xs k = w) (hd : decode cc pc = .ok (.iaload, 1)) (kk : AW X p l e R s m args below meth c nL Z f n cells slots (pc + 1) lo (.int w :: st)) : AW X p l e R s m args below meth c nL Z f n cells slots pc lo (.int x :: .retAddr b :: st) := by
  intro H locs ls hR hn hS hl
  subst hw; subst hk
  exact va_sld C.1 C.2.1 S0.1 S0.2.1 S0.2.2.1 hS hin hd (kk H locs ls hR hn hS hl)
theorem aw_slen (C : CC X p l R s m args meth c own cc nL ret) {b L : Nat} {xs : Nat → Int32} (S0 : SC X b L xs s) (hd : decode cc pc = .ok (.arraylength, 1)) (kk : AW X p l e R s m args below meth c nL Z f n cells slots (pc + 1) lo (.int (nI L) :: st)) : AW X p l e R s m args below meth c nL Z f n cells slots pc lo (.retAddr b :: st) := by
  intro H locs ls hR hn hS hl
  exact va_slen C.1 C.2.1 S0.1 S0.2.1 S0.2.2.1 hS hd (kk H locs ls hR hn hS hl)
end AWSC
theorem lw_gt {i L : Nat} (h : ¬ i + 6 ≤ L) (hL : L < 2 ^ 30 ∧ i < 2 ^ 30) : nI L - 6 < nI i := by
  apply Int32.lt_iff_toInt_lt.mpr
  have h1 := pk_sub_toInt (a := L) (b := 6) hL.1 (by decide)
  have h2 := nI_toInt (n := i) (by omega)
  have h3 : (nI L - 6).toInt = (L : Int) - 6 := h1
  rw [h3, h2]
  omega
theorem lw_ngt {i L : Nat} (h : i + 6 ≤ L) (hL : L < 2 ^ 30) : ¬ nI L - 6 < nI i := by
  intro q
  have q2 := Int32.lt_iff_toInt_lt.mp q
  have h1 := pk_sub_toInt (a := L) (b := 6) hL (by decide)
  have h2 := nI_toInt (n := i) (by omega)
  have h3 : (nI L - 6).toInt = (L : Int) - 6 := h1
  rw [h3, h2] at q2
  omega
/-! THE CLAIM OUT OF ONE WALK OF THE LAW'S BODY. Your part is whole_start (and what it stands on); all else here is the same for every law, but numbers. -/
def R_law : String := "PieceFilesLaw"
def lw_P (b : Addr) (xs : List Int32) (args : Array Value) (s : State) : Prop := args = #[.ref b] ∧ s.IntsAt b xs ∧ xs.length ≤ 3072 ∧ (Jvm.Cond.and given_1 narrow_1).before args s = true
def lw_Q (_ : Array Value) (s : State) (o : Outcome) (t : State) : Prop := o = .returned (some (.int 1)) ∧ Framed s o t [] 601024 7293034
def lw_Z (below : List Frame) (a : Array Value) (s : State) : State → Prop := fun t => ∃ o, t.status = .running ∧ Ended t below o ∧ lw_Q a s o t
/-- the law's own end, with 1 on the stack, nothing written that was there before, its room as the claim has it -/
theorem lw_ret {p : Program} {l : Launch} {e : Env} {s : State} {m : MethodId} {below : List Frame} {meth : Method} {c : Code} {b : Nat} (hx : p.tables.exec = Jvm.exec) (hb : c.code = code) (hr : meth.sig.returnType = ret) (hlocks : meth.locks = false) {pc : Nat} {H : Heap} {ls : Array Slot} (hdg : decode code pc = .ok (.ireturn, 1)) : W p l e room_1 s m #[Value.ref b] below meth c H [] 601024 7293034 (lw_Z below #[Value.ref b] s) (F0 m pc ls [.int 1]) := by
  intro T hT X
  obtain ⟨fs, hret, hrun, hended, hW, hframe⟩ := X.leave (v := some (.int 1)) (hlocks := hlocks) (fun h => by rw [hr] at h; cases h)
  have hmeth' : T.vm.method? m = some meth := X.method'
  refine ⟨T.setFrames fs, ?_, .returned (some (.int 1)), hrun, hended, rfl, ⟨_, rfl⟩, hW, hframe⟩
  jvm_step X.here [X.here.top, hx, hb, hdg, hmeth', hr, ret, narrow_b1]
  (try refine ⟨rfl, ?_⟩); (try refine ⟨rfl, ?_⟩)
  first | (intro acts; rw [hret _ acts rfl rfl rfl]) | rw [hret _ _ rfl rfl rfl]
  exact Steps.refl _
/-- what holds at the law's entry: the machine, the code, the tables' words (any of lw_tbl by 'hts w (by decide +kernel)'), the script of L ints xs at the cell b, what the Statement gives of the start (any of its parts by flat_of_before) -/
def lw_At (p : Program) (s : State) (m : MethodId) (meth : Method) (c : Code) (b L : Nat) (xs : Nat → Int32) : Prop :=
  p.tables.exec = Jvm.exec ∧ c.code = code ∧ meth.sig.returnType = ret ∧ c.maxLocals = 8 ∧ s.vm.findClass R_law = some m.cls ∧ (∀ w ∈ lw_tbl, w.before #[Value.ref b] s = true) ∧ va_X b L xs s s.heap ∧ b < s.heap.size ∧ meth.locks = false ∧ (Jvm.Cond.and given_1 narrow_1).before #[Value.ref b] s = true
abbrev oCell (g : Nat → Int64) : Option AE := some (.inl (4, 1, .inr (.inl g)))
/-- what every state between two calls is -/
def HXp (INV : AH → Nat → RS9 → Prop) : Prop := ∀ F n σ, INV F n σ → (∃ fs, F 0 = some (.inr (8, fs))) ∧ F = rHm F σ
theorem QW_out {α : Type} {cv : α → Int64} {code : String → Int32} {u : Nat} {g0 : Nat → Int64} {r : (α ⊕ String) × HpN} {v : Option Value} {f : AH} {n : Nat} (hu : r.2.1 u = oCell g0) (h : QW cv code u g0 r v f n) : ∃ (w : Int32) (g : Nat → Int64), v = some (.int w) ∧ f = va_up r.2.1 u (oCell g) ∧ r.2.2 ≤ n := by
  rcases h with ⟨v1, -, h2, h3, h4⟩ | ⟨E, -, h2, h3, h4⟩
  · exact ⟨_, _, h2, h3, Nat.le_of_eq h4.symm⟩
  · refine ⟨_, g0, h2, ?_, h4⟩
    rw [h3]
    funext j
    show _ = (if j = u then oCell g0 else r.2.1 j)
    by_cases hj : j = u
    · rw [if_pos hj, hj, hu]
    · rw [if_neg hj]
/-- answer and throw agree: what the wrapper gives, what the reference says -/
def CMPT {α : Type} (cv : α → Int64) (code : String → Int32) (r : α ⊕ String) (b : Int64) (t : Int32) : Prop := match r with
  | .inl v => t = 0 ∧ cv v = b
  | .inr E => t = code E ∧ code E ≠ 0
theorem QW_cmp {α : Type} {cv : α → Int64} {code : String → Int32} {u : Nat} {g0 : Nat → Int64} {r : (α ⊕ String) × HpN} {v : Option Value} {f : AH} {n : Nat} {b : Int64} {t : Int32} (hu : r.2.1 u = oCell g0) (h : QW cv code u g0 r v f n) (hc : CMPT cv code r.1 b t) : ∃ (w : Int32) (g : Nat → Int64), v = some (.int w) ∧ f = va_up r.2.1 u (oCell g) ∧ r.2.2 ≤ n ∧ t = w ∧ (w = 0 → g 0 = b) := by
  rcases h with ⟨v1, h1, h2, h3, h4⟩ | ⟨E, h1, h2, h3, h4⟩
  · rw [h1] at hc
    exact ⟨_, _, h2, h3, Nat.le_of_eq h4.symm, hc.1, fun _ => hc.2⟩
  · rw [h1] at hc
    refine ⟨_, g0, h2, ?_, h4, hc.1, fun q => absurd q hc.2⟩
    rw [h3]
    funext j
    show _ = (if j = u then oCell g0 else r.2.1 j)
    by_cases hj : j = u
    · rw [if_pos hj, hj, hu]
    · rw [if_neg hj]
theorem lg_same {x : Int64} : lg_cmp x x = 0 := by
  unfold lg_cmp
  rw [if_neg (fun h => absurd (Int64.lt_iff_toInt_lt.mp h) (Int.lt_irrefl _)), if_pos rfl]
def OP0 (INV : AH → Nat → RS9 → Prop) : Prop := ∀ (F : AH) (n : Nat) (σ : RS9) (a1 a2 a3 a4 a5 : Int32), INV F n σ → ∃ r r', mX8_feed 0 a1 a2 a3 a4 a5 F n = some r ∧ mX9_feed a1 a2 a3 a4 a5 σ = some r' ∧ r.2.1 = rHm r.2.1 σ ∧ INV (rHm r.2.1 r'.2) r.2.2 r'.2
set_option maxHeartbeats 1000000 in
theorem lo_0 {X : GX} {p : Program} {l : Launch} {e : Env} {s : State} {m : MethodId} {below : List Frame} {meth : Method} {c : Code} {b L i : Nat} {xs : Nat → Int32} {F : AH} {n cells slots : Nat} {σ : RS9} {INV : AH → Nat → RS9 → Prop} (C : CC X p l room_1 s m #[Value.ref b] meth c RL cL_law 8 ret) (S0 : SC X b L xs s) (hl0 : l.stackTraces = false) (hX : HXp INV) (H : OP0 INV) (hi : i + 6 ≤ L) (hL : L ≤ 3072) (hc : cells + 108 ≤ 601024) (hs : slots + 2412 ≤ 7293034) (hI : INV F n σ) (kk : ∀ F n σ, INV F n σ → AW X p l e room_1 s m #[Value.ref b] below meth c 8 (lw_Z below #[Value.ref b] s) F n (cells + 108) (slots + 2412) 1147 [some (.retAddr b), some (.ref 0), some (.ref 181), some (.ref 223), some (.int (nI i)), none, none, none] []) : AW X p l e room_1 s m #[Value.ref b] below meth c 8 (lw_Z below #[Value.ref b] s) F n cells slots 180 [some (.retAddr b), some (.ref 0), some (.ref 181), some (.ref 223), some (.int (nI i)), none, none, none] [] := by
  obtain ⟨fs, hx⟩ := (hX F n σ hI).1
  refine aw_ald_n C dL_law_180 rfl ?_
  refine aw_raw_n C dL_law_181 rfl ?_
  refine aw_iload C dL_law_182 rfl ?_
  refine aw_iconst C 1 dL_law_184 ki_1 ?_
  refine ae_iadd C (nI (i + 1)) dL_law_185 (nI_add i 1) ?_
  refine aw_sld C S0 (xs (i + 1)) (vp_in_nI (by omega) (by omega)) (nI_clamp (by omega)) rfl dL_law_186 ?_
  refine aw_raw_n C dL_law_187 rfl ?_
  refine aw_iload C dL_law_188 rfl ?_
  refine aw_iconst C 2 dL_law_190 ki_2 ?_
  refine ae_iadd C (nI (i + 2)) dL_law_191 (nI_add i 2) ?_
  refine aw_sld C S0 (xs (i + 2)) (vp_in_nI (by omega) (by omega)) (nI_clamp (by omega)) rfl dL_law_192 ?_
  refine aw_raw_n C dL_law_193 rfl ?_
  refine aw_iload C dL_law_194 rfl ?_
  refine aw_iconst C 3 dL_law_196 ki_3 ?_
  refine ae_iadd C (nI (i + 3)) dL_law_197 (nI_add i 3) ?_
  refine aw_sld C S0 (xs (i + 3)) (vp_in_nI (by omega) (by omega)) (nI_clamp (by omega)) rfl dL_law_198 ?_
  refine aw_raw_n C dL_law_199 rfl ?_
  refine aw_iload C dL_law_200 rfl ?_
  refine aw_iconst C 4 dL_law_202 ki_4 ?_
  refine ae_iadd C (nI (i + 4)) dL_law_203 (nI_add i 4) ?_
  refine aw_sld C S0 (xs (i + 4)) (vp_in_nI (by omega) (by omega)) (nI_clamp (by omega)) rfl dL_law_204 ?_
  refine aw_raw_n C dL_law_205 rfl ?_
  refine aw_iload C dL_law_206 rfl ?_
  refine aw_iconst C 5 dL_law_208 ki_5 ?_
  refine ae_iadd C (nI (i + 5)) dL_law_209 (nI_add i 5) ?_
  refine aw_sld C S0 (xs (i + 5)) (vp_in_nI (by omega) (by omega)) (nI_clamp (by omega)) rfl dL_law_210 ?_
  obtain ⟨r, r', h1, h2, e1, hJ⟩ := H F n σ (xs (i + 1)) (xs (i + 2)) (xs (i + 3)) (xs (i + 4)) (xs (i + 5)) hI
  refine aw_callV C (ci := 8) (b := 0) [.int (xs (i + 1)), .int (xs (i + 2)), .int (xs (i + 3)), .int (xs (i + 4)), .int (xs (i + 5))] mv_L_82 rfl rfl hx (rmX8_feed h1) rfl dL_law_211 (Nat.le_of_ble_eq_true rfl) (Nat.le_of_ble_eq_true rfl) rfl (Nat.le_of_ble_eq_true rfl) (show cells + 0 ≤ 601024 by omega) (show slots + 0 ≤ 7293034 by omega) (fun v9 f9 n9 hq => ?_)
  obtain ⟨rfl, rfl, rfl⟩ := hq
  refine aw_pop C dL_law_214 rfl ?_
  refine aw_ald_n C dL_law_215 rfl ?_
  refine aw_raw_n C dL_law_216 rfl ?_
  refine aw_iload C dL_law_217 rfl ?_
  refine aw_iconst C 1 dL_law_219 ki_1 ?_
  refine ae_iadd C (nI (i + 1)) dL_law_220 (nI_add i 1) ?_
  refine aw_sld C S0 (xs (i + 1)) (vp_in_nI (by omega) (by omega)) (nI_clamp (by omega)) rfl dL_law_221 ?_
  refine aw_raw_n C dL_law_222 rfl ?_
  refine aw_iload C dL_law_223 rfl ?_
  refine aw_iconst C 2 dL_law_225 ki_2 ?_
  refine ae_iadd C (nI (i + 2)) dL_law_226 (nI_add i 2) ?_
  refine aw_sld C S0 (xs (i + 2)) (vp_in_nI (by omega) (by omega)) (nI_clamp (by omega)) rfl dL_law_227 ?_
  refine aw_raw_n C dL_law_228 rfl ?_
  refine aw_iload C dL_law_229 rfl ?_
  refine aw_iconst C 3 dL_law_231 ki_3 ?_
  refine ae_iadd C (nI (i + 3)) dL_law_232 (nI_add i 3) ?_
  refine aw_sld C S0 (xs (i + 3)) (vp_in_nI (by omega) (by omega)) (nI_clamp (by omega)) rfl dL_law_233 ?_
  refine aw_raw_n C dL_law_234 rfl ?_
  refine aw_iload C dL_law_235 rfl ?_
  refine aw_iconst C 4 dL_law_237 ki_4 ?_
  refine ae_iadd C (nI (i + 4)) dL_law_238 (nI_add i 4) ?_
  refine aw_sld C S0 (xs (i + 4)) (vp_in_nI (by omega) (by omega)) (nI_clamp (by omega)) rfl dL_law_239 ?_
  refine aw_raw_n C dL_law_240 rfl ?_
  refine aw_iload C dL_law_241 rfl ?_
  refine aw_iconst C 5 dL_law_243 ki_5 ?_
  refine ae_iadd C (nI (i + 5)) dL_law_244 (nI_add i 5) ?_
  refine aw_sld C S0 (xs (i + 5)) (vp_in_nI (by omega) (by omega)) (nI_clamp (by omega)) rfl dL_law_245 ?_
  rw [e1]
  refine aw_callV C (ci := 9) (b := 181) [.int (xs (i + 1)), .int (xs (i + 2)), .int (xs (i + 3)), .int (xs (i + 4)), .int (xs (i + 5))] mv_L_86 rfl rfl (hm_M _ _) (rmX9_feed h2) rfl dL_law_246 (Nat.le_of_ble_eq_true rfl) (Nat.le_of_ble_eq_true rfl) rfl (Nat.le_of_ble_eq_true rfl) (show (cells + 0) + 0 ≤ 601024 by omega) (show (slots + 0) + 0 ≤ 7293034 by omega) (fun v9 f9 n9 hq => ?_)
  obtain ⟨rfl, rfl, rfl⟩ := hq
  refine aw_pop C dL_law_249 rfl ?_
  refine aw_goto C 1147 dL_law_250 (by decide) ?_
  refine aw_fl [some (.retAddr b), some (.ref 0), some (.ref 181), some (.ref 223), some (.int (nI i)), none, none, none] ⟨rfl, ⟨rfl, ⟨rfl, ⟨rfl, ⟨rfl, trivial⟩⟩⟩⟩⟩ ?_
  refine aw_wide (k := cells + 108) (j := slots + 2412) (by omega) (by omega) ?_
  exact kk _ _ _ hJ
def OP1 (INV : AH → Nat → RS9 → Prop) : Prop := ∀ (F : AH) (n : Nat) (σ : RS9) (a1 : Int32), INV F n σ → ∃ r r', mX8_end 0 a1 F n = some r ∧ mX9_end a1 σ = some r' ∧ r.2.1 = rHm r.2.1 σ ∧ INV (rHm r.2.1 r'.2) r.2.2 r'.2
set_option maxHeartbeats 1000000 in
theorem lo_1 {X : GX} {p : Program} {l : Launch} {e : Env} {s : State} {m : MethodId} {below : List Frame} {meth : Method} {c : Code} {b L i : Nat} {xs : Nat → Int32} {F : AH} {n cells slots : Nat} {σ : RS9} {INV : AH → Nat → RS9 → Prop} (C : CC X p l room_1 s m #[Value.ref b] meth c RL cL_law 8 ret) (S0 : SC X b L xs s) (hl0 : l.stackTraces = false) (hX : HXp INV) (H : OP1 INV) (hi : i + 6 ≤ L) (hL : L ≤ 3072) (hc : cells + 108 ≤ 601024) (hs : slots + 2412 ≤ 7293034) (hI : INV F n σ) (kk : ∀ F n σ, INV F n σ → AW X p l e room_1 s m #[Value.ref b] below meth c 8 (lw_Z below #[Value.ref b] s) F n (cells + 108) (slots + 2412) 1147 [some (.retAddr b), some (.ref 0), some (.ref 181), some (.ref 223), some (.int (nI i)), none, none, none] []) : AW X p l e room_1 s m #[Value.ref b] below meth c 8 (lw_Z below #[Value.ref b] s) F n cells slots 253 [some (.retAddr b), some (.ref 0), some (.ref 181), some (.ref 223), some (.int (nI i)), none, none, none] [] := by
  obtain ⟨fs, hx⟩ := (hX F n σ hI).1
  refine aw_ald_n C dL_law_253 rfl ?_
  refine aw_raw_n C dL_law_254 rfl ?_
  refine aw_iload C dL_law_255 rfl ?_
  refine aw_iconst C 1 dL_law_257 ki_1 ?_
  refine ae_iadd C (nI (i + 1)) dL_law_258 (nI_add i 1) ?_
  refine aw_sld C S0 (xs (i + 1)) (vp_in_nI (by omega) (by omega)) (nI_clamp (by omega)) rfl dL_law_259 ?_
  obtain ⟨r, r', h1, h2, e1, hJ⟩ := H F n σ (xs (i + 1)) hI
  refine aw_callV C (ci := 8) (b := 0) [.int (xs (i + 1))] mv_L_87 rfl rfl hx (rmX8_end h1) rfl dL_law_260 (Nat.le_of_ble_eq_true rfl) (Nat.le_of_ble_eq_true rfl) rfl (Nat.le_of_ble_eq_true rfl) (show cells + 0 ≤ 601024 by omega) (show slots + 0 ≤ 7293034 by omega) (fun v9 f9 n9 hq => ?_)
  obtain ⟨rfl, rfl, rfl⟩ := hq
  refine aw_pop C dL_law_263 rfl ?_
  refine aw_ald_n C dL_law_264 rfl ?_
  refine aw_raw_n C dL_law_265 rfl ?_
  refine aw_iload C dL_law_266 rfl ?_
  refine aw_iconst C 1 dL_law_268 ki_1 ?_
  refine ae_iadd C (nI (i + 1)) dL_law_269 (nI_add i 1) ?_
  refine aw_sld C S0 (xs (i + 1)) (vp_in_nI (by omega) (by omega)) (nI_clamp (by omega)) rfl dL_law_270 ?_
  rw [e1]
  refine aw_callV C (ci := 9) (b := 181) [.int (xs (i + 1))] mv_L_90 rfl rfl (hm_M _ _) (rmX9_end h2) rfl dL_law_271 (Nat.le_of_ble_eq_true rfl) (Nat.le_of_ble_eq_true rfl) rfl (Nat.le_of_ble_eq_true rfl) (show (cells + 0) + 0 ≤ 601024 by omega) (show (slots + 0) + 0 ≤ 7293034 by omega) (fun v9 f9 n9 hq => ?_)
  obtain ⟨rfl, rfl, rfl⟩ := hq
  refine aw_pop C dL_law_274 rfl ?_
  refine aw_goto C 1147 dL_law_275 (by decide) ?_
  refine aw_fl [some (.retAddr b), some (.ref 0), some (.ref 181), some (.ref 223), some (.int (nI i)), none, none, none] ⟨rfl, ⟨rfl, ⟨rfl, ⟨rfl, ⟨rfl, trivial⟩⟩⟩⟩⟩ ?_
  refine aw_wide (k := cells + 108) (j := slots + 2412) (by omega) (by omega) ?_
  exact kk _ _ _ hJ
def OP2 (INV : AH → Nat → RS9 → Prop) : Prop := ∀ (F : AH) (n : Nat) (σ : RS9), INV F n σ → ∃ r r' g0, mX8_acts 0 F n = some r ∧ (∀ E : String, r.1 = .inr E → E = eA) ∧ r.2.1 223 = oCell g0 ∧ mX9_acts σ = some r' ∧ ∀ g : Nat → Int64, va_up r.2.1 223 (oCell g) = rHm (va_up r.2.1 223 (oCell g)) σ ∧ ∀ n', r.2.2 ≤ n' → INV (rHm (va_up r.2.1 223 (oCell g)) r'.2) n' r'.2
set_option maxHeartbeats 1000000 in
theorem lo_2 {X : GX} {p : Program} {l : Launch} {e : Env} {s : State} {m : MethodId} {below : List Frame} {meth : Method} {c : Code} {b L i : Nat} {xs : Nat → Int32} {F : AH} {n cells slots : Nat} {σ : RS9} {INV : AH → Nat → RS9 → Prop} (C : CC X p l room_1 s m #[Value.ref b] meth c RL cL_law 8 ret) (S0 : SC X b L xs s) (hl0 : l.stackTraces = false) (hX : HXp INV) (H : OP2 INV) (hi : i + 6 ≤ L) (hL : L ≤ 3072) (hc : cells + 108 ≤ 601024) (hs : slots + 2412 ≤ 7293034) (hI : INV F n σ) (kk : ∀ F n σ, INV F n σ → AW X p l e room_1 s m #[Value.ref b] below meth c 8 (lw_Z below #[Value.ref b] s) F n (cells + 108) (slots + 2412) 1147 [some (.retAddr b), some (.ref 0), some (.ref 181), some (.ref 223), some (.int (nI i)), none, none, none] []) : AW X p l e room_1 s m #[Value.ref b] below meth c 8 (lw_Z below #[Value.ref b] s) F n cells slots 278 [some (.retAddr b), some (.ref 0), some (.ref 181), some (.ref 223), some (.int (nI i)), none, none, none] [] := by
  obtain ⟨fs, hx⟩ := (hX F n σ hI).1
  refine aw_ald_n C dL_law_278 rfl ?_
  refine aw_ald_n C dL_law_279 rfl ?_
  obtain ⟨r, r', g0, h1, hE, hu, h2, hJ⟩ := H F n σ hI
  refine aw_callSW C [.ref 0, .ref 223] mw_L_91 (wr_L_acts hl0 hx h1 hE (fun _ _ => hu)) rfl dL_law_280 (Nat.le_of_ble_eq_true rfl) (Nat.le_of_ble_eq_true rfl) rfl (Nat.le_of_ble_eq_true rfl) (show cells + 108 ≤ 601024 by omega) (show slots + 2412 ≤ 7293034 by omega) (fun v9 f9 n9 hq => ?_)
  obtain ⟨w, g, rfl, rfl, hn⟩ := QW_out hu hq
  refine aw_istore C dL_law_283 (by decide) rfl ?_
  refine aw_ald_n C dL_law_285 rfl ?_
  rw [(hJ g).1]
  refine aw_callV C (ci := 9) (b := 181) [] mv_L_96 rfl rfl (hm_M _ _) (rmX9_acts h2) rfl dL_law_286 (Nat.le_of_ble_eq_true rfl) (Nat.le_of_ble_eq_true rfl) rfl (Nat.le_of_ble_eq_true rfl) (show (cells + 108) + 0 ≤ 601024 by omega) (show (slots + 2412) + 0 ≤ 7293034 by omega) (fun v9 f9 n9 hq => ?_)
  obtain ⟨rfl, rfl, rfl⟩ := hq
  refine aw_istore C dL_law_289 (by decide) rfl ?_
  refine aw_goto C 1147 dL_law_291 (by decide) ?_
  refine aw_fl [some (.retAddr b), some (.ref 0), some (.ref 181), some (.ref 223), some (.int (nI i)), none, none, none] ⟨rfl, ⟨rfl, ⟨rfl, ⟨rfl, ⟨rfl, trivial⟩⟩⟩⟩⟩ ?_
  refine aw_wide (k := cells + 108) (j := slots + 2412) (by omega) (by omega) ?_
  exact kk _ _ _ ((hJ g).2 n9 hn)
def OP3 (INV : AH → Nat → RS9 → Prop) : Prop := ∀ (F : AH) (n : Nat) (σ : RS9), INV F n σ → ∃ r r', mX8_fault 0 F n = some r ∧ mX9_fault σ = some r' ∧ r.2.1 = rHm r.2.1 σ ∧ INV (rHm r.2.1 r'.2) r.2.2 r'.2
set_option maxHeartbeats 1000000 in
theorem lo_3 {X : GX} {p : Program} {l : Launch} {e : Env} {s : State} {m : MethodId} {below : List Frame} {meth : Method} {c : Code} {b L i : Nat} {xs : Nat → Int32} {F : AH} {n cells slots : Nat} {σ : RS9} {INV : AH → Nat → RS9 → Prop} (C : CC X p l room_1 s m #[Value.ref b] meth c RL cL_law 8 ret) (S0 : SC X b L xs s) (hl0 : l.stackTraces = false) (hX : HXp INV) (H : OP3 INV) (hi : i + 6 ≤ L) (hL : L ≤ 3072) (hc : cells + 108 ≤ 601024) (hs : slots + 2412 ≤ 7293034) (hI : INV F n σ) (kk : ∀ F n σ, INV F n σ → AW X p l e room_1 s m #[Value.ref b] below meth c 8 (lw_Z below #[Value.ref b] s) F n (cells + 108) (slots + 2412) 1147 [some (.retAddr b), some (.ref 0), some (.ref 181), some (.ref 223), some (.int (nI i)), none, none, none] []) : AW X p l e room_1 s m #[Value.ref b] below meth c 8 (lw_Z below #[Value.ref b] s) F n cells slots 294 [some (.retAddr b), some (.ref 0), some (.ref 181), some (.ref 223), some (.int (nI i)), none, none, none] [] := by
  obtain ⟨fs, hx⟩ := (hX F n σ hI).1
  refine aw_ald_n C dL_law_294 rfl ?_
  obtain ⟨r, r', h1, h2, e1, hJ⟩ := H F n σ hI
  refine aw_callV C (ci := 8) (b := 0) [] mv_L_97 rfl rfl hx (rmX8_fault h1) rfl dL_law_295 (Nat.le_of_ble_eq_true rfl) (Nat.le_of_ble_eq_true rfl) rfl (Nat.le_of_ble_eq_true rfl) (show cells + 0 ≤ 601024 by omega) (show slots + 0 ≤ 7293034 by omega) (fun v9 f9 n9 hq => ?_)
  obtain ⟨rfl, rfl, rfl⟩ := hq
  refine aw_pop C dL_law_298 rfl ?_
  refine aw_ald_n C dL_law_299 rfl ?_
  rw [e1]
  refine aw_callV C (ci := 9) (b := 181) [] mv_L_100 rfl rfl (hm_M _ _) (rmX9_fault h2) rfl dL_law_300 (Nat.le_of_ble_eq_true rfl) (Nat.le_of_ble_eq_true rfl) rfl (Nat.le_of_ble_eq_true rfl) (show (cells + 0) + 0 ≤ 601024 by omega) (show (slots + 0) + 0 ≤ 7293034 by omega) (fun v9 f9 n9 hq => ?_)
  obtain ⟨rfl, rfl, rfl⟩ := hq
  refine aw_pop C dL_law_303 rfl ?_
  refine aw_goto C 1147 dL_law_304 (by decide) ?_
  refine aw_fl [some (.retAddr b), some (.ref 0), some (.ref 181), some (.ref 223), some (.int (nI i)), none, none, none] ⟨rfl, ⟨rfl, ⟨rfl, ⟨rfl, ⟨rfl, trivial⟩⟩⟩⟩⟩ ?_
  refine aw_wide (k := cells + 108) (j := slots + 2412) (by omega) (by omega) ?_
  exact kk _ _ _ hJ
def OP4 (INV : AH → Nat → RS9 → Prop) : Prop := ∀ (F : AH) (n : Nat) (σ : RS9), INV F n σ → ∃ r r', mX8_why 0 F n = some r ∧ mX9_why σ = some r' ∧ r.2.1 = rHm r.2.1 σ ∧ INV (rHm r.2.1 r'.2) r.2.2 r'.2
set_option maxHeartbeats 1000000 in
theorem lo_4 {X : GX} {p : Program} {l : Launch} {e : Env} {s : State} {m : MethodId} {below : List Frame} {meth : Method} {c : Code} {b L i : Nat} {xs : Nat → Int32} {F : AH} {n cells slots : Nat} {σ : RS9} {INV : AH → Nat → RS9 → Prop} (C : CC X p l room_1 s m #[Value.ref b] meth c RL cL_law 8 ret) (S0 : SC X b L xs s) (hl0 : l.stackTraces = false) (hX : HXp INV) (H : OP4 INV) (hi : i + 6 ≤ L) (hL : L ≤ 3072) (hc : cells + 108 ≤ 601024) (hs : slots + 2412 ≤ 7293034) (hI : INV F n σ) (kk : ∀ F n σ, INV F n σ → AW X p l e room_1 s m #[Value.ref b] below meth c 8 (lw_Z below #[Value.ref b] s) F n (cells + 108) (slots + 2412) 1147 [some (.retAddr b), some (.ref 0), some (.ref 181), some (.ref 223), some (.int (nI i)), none, none, none] []) : AW X p l e room_1 s m #[Value.ref b] below meth c 8 (lw_Z below #[Value.ref b] s) F n cells slots 307 [some (.retAddr b), some (.ref 0), some (.ref 181), some (.ref 223), some (.int (nI i)), none, none, none] [] := by
  obtain ⟨fs, hx⟩ := (hX F n σ hI).1
  refine aw_ald_n C dL_law_307 rfl ?_
  obtain ⟨r, r', h1, h2, e1, hJ⟩ := H F n σ hI
  refine aw_callV C (ci := 8) (b := 0) [] mv_L_101 rfl rfl hx (rmX8_why h1) rfl dL_law_308 (Nat.le_of_ble_eq_true rfl) (Nat.le_of_ble_eq_true rfl) rfl (Nat.le_of_ble_eq_true rfl) (show cells + 0 ≤ 601024 by omega) (show slots + 0 ≤ 7293034 by omega) (fun v9 f9 n9 hq => ?_)
  obtain ⟨rfl, rfl, rfl⟩ := hq
  refine aw_pop C dL_law_311 rfl ?_
  refine aw_ald_n C dL_law_312 rfl ?_
  rw [e1]
  refine aw_callV C (ci := 9) (b := 181) [] mv_L_104 rfl rfl (hm_M _ _) (rmX9_why h2) rfl dL_law_313 (Nat.le_of_ble_eq_true rfl) (Nat.le_of_ble_eq_true rfl) rfl (Nat.le_of_ble_eq_true rfl) (show (cells + 0) + 0 ≤ 601024 by omega) (show (slots + 0) + 0 ≤ 7293034 by omega) (fun v9 f9 n9 hq => ?_)
  obtain ⟨rfl, rfl, rfl⟩ := hq
  refine aw_pop C dL_law_316 rfl ?_
  refine aw_goto C 1147 dL_law_317 (by decide) ?_
  refine aw_fl [some (.retAddr b), some (.ref 0), some (.ref 181), some (.ref 223), some (.int (nI i)), none, none, none] ⟨rfl, ⟨rfl, ⟨rfl, ⟨rfl, ⟨rfl, trivial⟩⟩⟩⟩⟩ ?_
  refine aw_wide (k := cells + 108) (j := slots + 2412) (by omega) (by omega) ?_
  exact kk _ _ _ hJ
def OP5 (INV : AH → Nat → RS9 → Prop) : Prop := ∀ (F : AH) (n : Nat) (σ : RS9), INV F n σ → ∃ r r', mX8_file 0 F n = some r ∧ mX9_file σ = some r' ∧ r.2.1 = rHm r.2.1 σ ∧ INV (rHm r.2.1 r'.2) r.2.2 r'.2
set_option maxHeartbeats 1000000 in
theorem lo_5 {X : GX} {p : Program} {l : Launch} {e : Env} {s : State} {m : MethodId} {below : List Frame} {meth : Method} {c : Code} {b L i : Nat} {xs : Nat → Int32} {F : AH} {n cells slots : Nat} {σ : RS9} {INV : AH → Nat → RS9 → Prop} (C : CC X p l room_1 s m #[Value.ref b] meth c RL cL_law 8 ret) (S0 : SC X b L xs s) (hl0 : l.stackTraces = false) (hX : HXp INV) (H : OP5 INV) (hi : i + 6 ≤ L) (hL : L ≤ 3072) (hc : cells + 108 ≤ 601024) (hs : slots + 2412 ≤ 7293034) (hI : INV F n σ) (kk : ∀ F n σ, INV F n σ → AW X p l e room_1 s m #[Value.ref b] below meth c 8 (lw_Z below #[Value.ref b] s) F n (cells + 108) (slots + 2412) 1147 [some (.retAddr b), some (.ref 0), some (.ref 181), some (.ref 223), some (.int (nI i)), none, none, none] []) : AW X p l e room_1 s m #[Value.ref b] below meth c 8 (lw_Z below #[Value.ref b] s) F n cells slots 320 [some (.retAddr b), some (.ref 0), some (.ref 181), some (.ref 223), some (.int (nI i)), none, none, none] [] := by
  obtain ⟨fs, hx⟩ := (hX F n σ hI).1
  refine aw_ald_n C dL_law_320 rfl ?_
  obtain ⟨r, r', h1, h2, e1, hJ⟩ := H F n σ hI
  refine aw_callV C (ci := 8) (b := 0) [] mv_L_105 rfl rfl hx (rmX8_file h1) rfl dL_law_321 (Nat.le_of_ble_eq_true rfl) (Nat.le_of_ble_eq_true rfl) rfl (Nat.le_of_ble_eq_true rfl) (show cells + 2 ≤ 601024 by omega) (show slots + 402 ≤ 7293034 by omega) (fun v9 f9 n9 hq => ?_)
  obtain ⟨rfl, rfl, rfl⟩ := hq
  refine aw_pop C dL_law_324 rfl ?_
  refine aw_ald_n C dL_law_325 rfl ?_
  rw [e1]
  refine aw_callV C (ci := 9) (b := 181) [] mv_L_108 rfl rfl (hm_M _ _) (rmX9_file h2) rfl dL_law_326 (Nat.le_of_ble_eq_true rfl) (Nat.le_of_ble_eq_true rfl) rfl (Nat.le_of_ble_eq_true rfl) (show (cells + 2) + 0 ≤ 601024 by omega) (show (slots + 402) + 0 ≤ 7293034 by omega) (fun v9 f9 n9 hq => ?_)
  obtain ⟨rfl, rfl, rfl⟩ := hq
  refine aw_pop C dL_law_329 rfl ?_
  refine aw_goto C 1147 dL_law_330 (by decide) ?_
  refine aw_fl [some (.retAddr b), some (.ref 0), some (.ref 181), some (.ref 223), some (.int (nI i)), none, none, none] ⟨rfl, ⟨rfl, ⟨rfl, ⟨rfl, ⟨rfl, trivial⟩⟩⟩⟩⟩ ?_
  refine aw_wide (k := cells + 108) (j := slots + 2412) (by omega) (by omega) ?_
  exact kk _ _ _ hJ
def OP6 (INV : AH → Nat → RS9 → Prop) : Prop := ∀ (F : AH) (n : Nat) (σ : RS9) (a1 a2 : Int32), (a2 = 0 ∨ a2 = 1) → INV F n σ → ∃ r r' g0, mX8_kind 0 a1 a2 F n = some r ∧ (∀ E : String, r.1 = .inr E → E = eA) ∧ r.2.1 223 = oCell g0 ∧ mX9_kind a1 a2 σ = some r' ∧ ∀ g : Nat → Int64, va_up r.2.1 223 (oCell g) = rHm (va_up r.2.1 223 (oCell g)) σ ∧ ∀ n', r.2.2 ≤ n' → INV (rHm (va_up r.2.1 223 (oCell g)) r'.2) n' r'.2
set_option maxHeartbeats 1000000 in
theorem lo_6 {X : GX} {p : Program} {l : Launch} {e : Env} {s : State} {m : MethodId} {below : List Frame} {meth : Method} {c : Code} {b L i : Nat} {xs : Nat → Int32} {F : AH} {n cells slots : Nat} {σ : RS9} {INV : AH → Nat → RS9 → Prop} (C : CC X p l room_1 s m #[Value.ref b] meth c RL cL_law 8 ret) (S0 : SC X b L xs s) (hl0 : l.stackTraces = false) (hX : HXp INV) (H : OP6 INV) (hi : i + 6 ≤ L) (hL : L ≤ 3072) (hc : cells + 108 ≤ 601024) (hs : slots + 2412 ≤ 7293034) (hI : INV F n σ) (kk : ∀ F n σ, INV F n σ → AW X p l e room_1 s m #[Value.ref b] below meth c 8 (lw_Z below #[Value.ref b] s) F n (cells + 108) (slots + 2412) 1147 [some (.retAddr b), some (.ref 0), some (.ref 181), some (.ref 223), some (.int (nI i)), none, none, none] []) : AW X p l e room_1 s m #[Value.ref b] below meth c 8 (lw_Z below #[Value.ref b] s) F n cells slots 333 [some (.retAddr b), some (.ref 0), some (.ref 181), some (.ref 223), some (.int (nI i)), none, none, none] [] := by
  obtain ⟨fs, hx⟩ := (hX F n σ hI).1
  refine aw_ald_n C dL_law_333 rfl ?_
  refine aw_raw_n C dL_law_334 rfl ?_
  refine aw_iload C dL_law_335 rfl ?_
  refine aw_iconst C 1 dL_law_337 ki_1 ?_
  refine ae_iadd C (nI (i + 1)) dL_law_338 (nI_add i 1) ?_
  refine aw_sld C S0 (xs (i + 1)) (vp_in_nI (by omega) (by omega)) (nI_clamp (by omega)) rfl dL_law_339 ?_
  refine aw_raw_n C dL_law_340 rfl ?_
  refine aw_iload C dL_law_341 rfl ?_
  refine aw_iconst C 2 dL_law_343 ki_2 ?_
  refine ae_iadd C (nI (i + 2)) dL_law_344 (nI_add i 2) ?_
  refine aw_sld C S0 (xs (i + 2)) (vp_in_nI (by omega) (by omega)) (nI_clamp (by omega)) rfl dL_law_345 ?_
  refine aw_if_eq C 353 dL_law_346 (by decide) (fun z2 => ?_) (fun z2 => ?_)
  · refine aw_iconst C 0 dL_law_353 ki_0 ?_
    refine aw_ald_n C dL_law_354 rfl ?_
    obtain ⟨r, r', g0, h1, hE, hu, h2, hJ⟩ := H F n σ (xs (i + 1)) (0) (by decide) hI
    refine aw_callSW C [.ref 0, .int (xs (i + 1)), .int (0), .ref 223] mw_L_109 (wr_L_kind hl0 hx h1 hE (fun _ _ => hu)) rfl dL_law_355 (Nat.le_of_ble_eq_true rfl) (Nat.le_of_ble_eq_true rfl) rfl (Nat.le_of_ble_eq_true rfl) (show cells + 5 ≤ 601024 by omega) (show slots + 130 ≤ 7293034 by omega) (fun v9 f9 n9 hq => ?_)
    obtain ⟨w, g, rfl, rfl, hn⟩ := QW_out hu hq
    refine aw_istore C dL_law_358 (by decide) rfl ?_
    refine aw_ald_n C dL_law_360 rfl ?_
    refine aw_raw_n C dL_law_361 rfl ?_
    refine aw_iload C dL_law_362 rfl ?_
    refine aw_iconst C 1 dL_law_364 ki_1 ?_
    refine ae_iadd C (nI (i + 1)) dL_law_365 (nI_add i 1) ?_
    refine aw_sld C S0 (xs (i + 1)) (vp_in_nI (by omega) (by omega)) (nI_clamp (by omega)) rfl dL_law_366 ?_
    refine aw_raw_n C dL_law_367 rfl ?_
    refine aw_iload C dL_law_368 rfl ?_
    refine aw_iconst C 2 dL_law_370 ki_2 ?_
    refine ae_iadd C (nI (i + 2)) dL_law_371 (nI_add i 2) ?_
    refine aw_sld C S0 (xs (i + 2)) (vp_in_nI (by omega) (by omega)) (nI_clamp (by omega)) rfl dL_law_372 ?_
    refine aw_if_eq C 380 dL_law_373 (by decide) (fun _ => ?_) (fun q2 => absurd z2 q2)
    refine aw_iconst C 0 dL_law_380 ki_0 ?_
    rw [(hJ g).1]
    refine aw_callV C (ci := 9) (b := 181) [.int (xs (i + 1)), .int (0)] mv_L_112 rfl rfl (hm_M _ _) (rmX9_kind h2) rfl dL_law_381 (Nat.le_of_ble_eq_true rfl) (Nat.le_of_ble_eq_true rfl) rfl (Nat.le_of_ble_eq_true rfl) (show (cells + 5) + 0 ≤ 601024 by omega) (show (slots + 130) + 0 ≤ 7293034 by omega) (fun v9 f9 n9 hq => ?_)
    obtain ⟨rfl, rfl, rfl⟩ := hq
    refine aw_istore C dL_law_384 (by decide) rfl ?_
    refine aw_goto C 1147 dL_law_386 (by decide) ?_
    refine aw_fl [some (.retAddr b), some (.ref 0), some (.ref 181), some (.ref 223), some (.int (nI i)), none, none, none] ⟨rfl, ⟨rfl, ⟨rfl, ⟨rfl, ⟨rfl, trivial⟩⟩⟩⟩⟩ ?_
    refine aw_wide (k := cells + 108) (j := slots + 2412) (by omega) (by omega) ?_
    exact kk _ _ _ ((hJ g).2 n9 hn)
  · refine aw_iconst C 1 dL_law_349 ki_1 ?_
    refine aw_goto C 354 dL_law_350 (by decide) ?_
    refine aw_ald_n C dL_law_354 rfl ?_
    obtain ⟨r, r', g0, h1, hE, hu, h2, hJ⟩ := H F n σ (xs (i + 1)) (1) (by decide) hI
    refine aw_callSW C [.ref 0, .int (xs (i + 1)), .int (1), .ref 223] mw_L_109 (wr_L_kind hl0 hx h1 hE (fun _ _ => hu)) rfl dL_law_355 (Nat.le_of_ble_eq_true rfl) (Nat.le_of_ble_eq_true rfl) rfl (Nat.le_of_ble_eq_true rfl) (show cells + 5 ≤ 601024 by omega) (show slots + 130 ≤ 7293034 by omega) (fun v9 f9 n9 hq => ?_)
    obtain ⟨w, g, rfl, rfl, hn⟩ := QW_out hu hq
    refine aw_istore C dL_law_358 (by decide) rfl ?_
    refine aw_ald_n C dL_law_360 rfl ?_
    refine aw_raw_n C dL_law_361 rfl ?_
    refine aw_iload C dL_law_362 rfl ?_
    refine aw_iconst C 1 dL_law_364 ki_1 ?_
    refine ae_iadd C (nI (i + 1)) dL_law_365 (nI_add i 1) ?_
    refine aw_sld C S0 (xs (i + 1)) (vp_in_nI (by omega) (by omega)) (nI_clamp (by omega)) rfl dL_law_366 ?_
    refine aw_raw_n C dL_law_367 rfl ?_
    refine aw_iload C dL_law_368 rfl ?_
    refine aw_iconst C 2 dL_law_370 ki_2 ?_
    refine ae_iadd C (nI (i + 2)) dL_law_371 (nI_add i 2) ?_
    refine aw_sld C S0 (xs (i + 2)) (vp_in_nI (by omega) (by omega)) (nI_clamp (by omega)) rfl dL_law_372 ?_
    refine aw_if_eq C 380 dL_law_373 (by decide) (fun q2 => absurd q2 z2) (fun _ => ?_)
    refine aw_iconst C 1 dL_law_376 ki_1 ?_
    refine aw_goto C 381 dL_law_377 (by decide) ?_
    rw [(hJ g).1]
    refine aw_callV C (ci := 9) (b := 181) [.int (xs (i + 1)), .int (1)] mv_L_112 rfl rfl (hm_M _ _) (rmX9_kind h2) rfl dL_law_381 (Nat.le_of_ble_eq_true rfl) (Nat.le_of_ble_eq_true rfl) rfl (Nat.le_of_ble_eq_true rfl) (show (cells + 5) + 0 ≤ 601024 by omega) (show (slots + 130) + 0 ≤ 7293034 by omega) (fun v9 f9 n9 hq => ?_)
    obtain ⟨rfl, rfl, rfl⟩ := hq
    refine aw_istore C dL_law_384 (by decide) rfl ?_
    refine aw_goto C 1147 dL_law_386 (by decide) ?_
    refine aw_fl [some (.retAddr b), some (.ref 0), some (.ref 181), some (.ref 223), some (.int (nI i)), none, none, none] ⟨rfl, ⟨rfl, ⟨rfl, ⟨rfl, ⟨rfl, trivial⟩⟩⟩⟩⟩ ?_
    refine aw_wide (k := cells + 108) (j := slots + 2412) (by omega) (by omega) ?_
    exact kk _ _ _ ((hJ g).2 n9 hn)
def OP7 (INV : AH → Nat → RS9 → Prop) : Prop := ∀ (F : AH) (n : Nat) (σ : RS9) (a1 a2 : Int32), INV F n σ → ∃ r r' g0, mX8_rule 0 a1 a2 F n = some r ∧ (∀ E : String, r.1 = .inr E → E = eN ∨ E = eA) ∧ r.2.1 223 = oCell g0 ∧ mX9_rule a1 a2 σ = some r' ∧ ∀ g : Nat → Int64, va_up r.2.1 223 (oCell g) = rHm (va_up r.2.1 223 (oCell g)) σ ∧ ∀ n', r.2.2 ≤ n' → INV (rHm (va_up r.2.1 223 (oCell g)) r'.2) n' r'.2
set_option maxHeartbeats 1000000 in
theorem lo_7 {X : GX} {p : Program} {l : Launch} {e : Env} {s : State} {m : MethodId} {below : List Frame} {meth : Method} {c : Code} {b L i : Nat} {xs : Nat → Int32} {F : AH} {n cells slots : Nat} {σ : RS9} {INV : AH → Nat → RS9 → Prop} (C : CC X p l room_1 s m #[Value.ref b] meth c RL cL_law 8 ret) (S0 : SC X b L xs s) (hl0 : l.stackTraces = false) (hX : HXp INV) (H : OP7 INV) (hi : i + 6 ≤ L) (hL : L ≤ 3072) (hc : cells + 108 ≤ 601024) (hs : slots + 2412 ≤ 7293034) (hI : INV F n σ) (kk : ∀ F n σ, INV F n σ → AW X p l e room_1 s m #[Value.ref b] below meth c 8 (lw_Z below #[Value.ref b] s) F n (cells + 108) (slots + 2412) 1147 [some (.retAddr b), some (.ref 0), some (.ref 181), some (.ref 223), some (.int (nI i)), none, none, none] []) : AW X p l e room_1 s m #[Value.ref b] below meth c 8 (lw_Z below #[Value.ref b] s) F n cells slots 389 [some (.retAddr b), some (.ref 0), some (.ref 181), some (.ref 223), some (.int (nI i)), none, none, none] [] := by
  obtain ⟨fs, hx⟩ := (hX F n σ hI).1
  refine aw_ald_n C dL_law_389 rfl ?_
  refine aw_raw_n C dL_law_390 rfl ?_
  refine aw_iload C dL_law_391 rfl ?_
  refine aw_iconst C 1 dL_law_393 ki_1 ?_
  refine ae_iadd C (nI (i + 1)) dL_law_394 (nI_add i 1) ?_
  refine aw_sld C S0 (xs (i + 1)) (vp_in_nI (by omega) (by omega)) (nI_clamp (by omega)) rfl dL_law_395 ?_
  refine aw_raw_n C dL_law_396 rfl ?_
  refine aw_iload C dL_law_397 rfl ?_
  refine aw_iconst C 2 dL_law_399 ki_2 ?_
  refine ae_iadd C (nI (i + 2)) dL_law_400 (nI_add i 2) ?_
  refine aw_sld C S0 (xs (i + 2)) (vp_in_nI (by omega) (by omega)) (nI_clamp (by omega)) rfl dL_law_401 ?_
  refine aw_ald_n C dL_law_402 rfl ?_
  obtain ⟨r, r', g0, h1, hE, hu, h2, hJ⟩ := H F n σ (xs (i + 1)) (xs (i + 2)) hI
  refine aw_callSW C [.ref 0, .int (xs (i + 1)), .int (xs (i + 2)), .ref 223] mw_L_113 (wr_L_rule hl0 hx h1 hE (fun _ _ => hu)) rfl dL_law_403 (Nat.le_of_ble_eq_true rfl) (Nat.le_of_ble_eq_true rfl) rfl (Nat.le_of_ble_eq_true rfl) (show cells + 5 ≤ 601024 by omega) (show slots + 130 ≤ 7293034 by omega) (fun v9 f9 n9 hq => ?_)
  obtain ⟨w, g, rfl, rfl, hn⟩ := QW_out hu hq
  refine aw_istore C dL_law_406 (by decide) rfl ?_
  refine aw_ald_n C dL_law_408 rfl ?_
  refine aw_raw_n C dL_law_409 rfl ?_
  refine aw_iload C dL_law_410 rfl ?_
  refine aw_iconst C 1 dL_law_412 ki_1 ?_
  refine ae_iadd C (nI (i + 1)) dL_law_413 (nI_add i 1) ?_
  refine aw_sld C S0 (xs (i + 1)) (vp_in_nI (by omega) (by omega)) (nI_clamp (by omega)) rfl dL_law_414 ?_
  refine aw_raw_n C dL_law_415 rfl ?_
  refine aw_iload C dL_law_416 rfl ?_
  refine aw_iconst C 2 dL_law_418 ki_2 ?_
  refine ae_iadd C (nI (i + 2)) dL_law_419 (nI_add i 2) ?_
  refine aw_sld C S0 (xs (i + 2)) (vp_in_nI (by omega) (by omega)) (nI_clamp (by omega)) rfl dL_law_420 ?_
  rw [(hJ g).1]
  refine aw_callV C (ci := 9) (b := 181) [.int (xs (i + 1)), .int (xs (i + 2))] mv_L_116 rfl rfl (hm_M _ _) (rmX9_rule h2) rfl dL_law_421 (Nat.le_of_ble_eq_true rfl) (Nat.le_of_ble_eq_true rfl) rfl (Nat.le_of_ble_eq_true rfl) (show (cells + 5) + 0 ≤ 601024 by omega) (show (slots + 130) + 0 ≤ 7293034 by omega) (fun v9 f9 n9 hq => ?_)
  obtain ⟨rfl, rfl, rfl⟩ := hq
  refine aw_istore C dL_law_424 (by decide) rfl ?_
  refine aw_goto C 1147 dL_law_426 (by decide) ?_
  refine aw_fl [some (.retAddr b), some (.ref 0), some (.ref 181), some (.ref 223), some (.int (nI i)), none, none, none] ⟨rfl, ⟨rfl, ⟨rfl, ⟨rfl, ⟨rfl, trivial⟩⟩⟩⟩⟩ ?_
  refine aw_wide (k := cells + 108) (j := slots + 2412) (by omega) (by omega) ?_
  exact kk _ _ _ ((hJ g).2 n9 hn)
def OP8 (INV : AH → Nat → RS9 → Prop) : Prop := ∀ (F : AH) (n : Nat) (σ : RS9), INV F n σ → ∃ r r' g0, mX8_lock 0 F n = some r ∧ (∀ E : String, r.1 = .inr E → E = eA ∨ E = eS) ∧ r.2.1 223 = oCell g0 ∧ mX9_lock σ = some r' ∧ ∀ g : Nat → Int64, va_up r.2.1 223 (oCell g) = rHm (va_up r.2.1 223 (oCell g)) σ ∧ ∀ n', r.2.2 ≤ n' → INV (rHm (va_up r.2.1 223 (oCell g)) r'.2) n' r'.2
set_option maxHeartbeats 1000000 in
theorem lo_8 {X : GX} {p : Program} {l : Launch} {e : Env} {s : State} {m : MethodId} {below : List Frame} {meth : Method} {c : Code} {b L i : Nat} {xs : Nat → Int32} {F : AH} {n cells slots : Nat} {σ : RS9} {INV : AH → Nat → RS9 → Prop} (C : CC X p l room_1 s m #[Value.ref b] meth c RL cL_law 8 ret) (S0 : SC X b L xs s) (hl0 : l.stackTraces = false) (hX : HXp INV) (H : OP8 INV) (hi : i + 6 ≤ L) (hL : L ≤ 3072) (hc : cells + 108 ≤ 601024) (hs : slots + 2412 ≤ 7293034) (hI : INV F n σ) (kk : ∀ F n σ, INV F n σ → AW X p l e room_1 s m #[Value.ref b] below meth c 8 (lw_Z below #[Value.ref b] s) F n (cells + 108) (slots + 2412) 1147 [some (.retAddr b), some (.ref 0), some (.ref 181), some (.ref 223), some (.int (nI i)), none, none, none] []) : AW X p l e room_1 s m #[Value.ref b] below meth c 8 (lw_Z below #[Value.ref b] s) F n cells slots 429 [some (.retAddr b), some (.ref 0), some (.ref 181), some (.ref 223), some (.int (nI i)), none, none, none] [] := by
  obtain ⟨fs, hx⟩ := (hX F n σ hI).1
  refine aw_ald_n C dL_law_429 rfl ?_
  refine aw_ald_n C dL_law_430 rfl ?_
  obtain ⟨r, r', g0, h1, hE, hu, h2, hJ⟩ := H F n σ hI
  refine aw_callSW C [.ref 0, .ref 223] mw_L_117 (wr_L_lock hl0 hx h1 hE (fun _ _ => hu)) rfl dL_law_431 (Nat.le_of_ble_eq_true rfl) (Nat.le_of_ble_eq_true rfl) rfl (Nat.le_of_ble_eq_true rfl) (show cells + 7 ≤ 601024 by omega) (show slots + 140 ≤ 7293034 by omega) (fun v9 f9 n9 hq => ?_)
  obtain ⟨w, g, rfl, rfl, hn⟩ := QW_out hu hq
  refine aw_istore C dL_law_434 (by decide) rfl ?_
  refine aw_ald_n C dL_law_436 rfl ?_
  rw [(hJ g).1]
  refine aw_callV C (ci := 9) (b := 181) [] mv_L_119 rfl rfl (hm_M _ _) (rmX9_lock h2) rfl dL_law_437 (Nat.le_of_ble_eq_true rfl) (Nat.le_of_ble_eq_true rfl) rfl (Nat.le_of_ble_eq_true rfl) (show (cells + 7) + 0 ≤ 601024 by omega) (show (slots + 140) + 0 ≤ 7293034 by omega) (fun v9 f9 n9 hq => ?_)
  obtain ⟨rfl, rfl, rfl⟩ := hq
  refine aw_istore C dL_law_440 (by decide) rfl ?_
  refine aw_goto C 1147 dL_law_442 (by decide) ?_
  refine aw_fl [some (.retAddr b), some (.ref 0), some (.ref 181), some (.ref 223), some (.int (nI i)), none, none, none] ⟨rfl, ⟨rfl, ⟨rfl, ⟨rfl, ⟨rfl, trivial⟩⟩⟩⟩⟩ ?_
  refine aw_wide (k := cells + 108) (j := slots + 2412) (by omega) (by omega) ?_
  exact kk _ _ _ ((hJ g).2 n9 hn)
def OP9 (INV : AH → Nat → RS9 → Prop) : Prop := ∀ (F : AH) (n : Nat) (σ : RS9), INV F n σ → ∃ r r', mX8_unlock 0 F n = some r ∧ mX9_unlock σ = some r' ∧ (∃ v, r.1 = .inl v) ∧ r.2.1 = rHm r.2.1 σ ∧ INV (rHm r.2.1 r'.2) r.2.2 r'.2
set_option maxHeartbeats 1000000 in
theorem lo_9 {X : GX} {p : Program} {l : Launch} {e : Env} {s : State} {m : MethodId} {below : List Frame} {meth : Method} {c : Code} {b L i : Nat} {xs : Nat → Int32} {F : AH} {n cells slots : Nat} {σ : RS9} {INV : AH → Nat → RS9 → Prop} (C : CC X p l room_1 s m #[Value.ref b] meth c RL cL_law 8 ret) (S0 : SC X b L xs s) (hl0 : l.stackTraces = false) (hX : HXp INV) (H : OP9 INV) (hi : i + 6 ≤ L) (hL : L ≤ 3072) (hc : cells + 108 ≤ 601024) (hs : slots + 2412 ≤ 7293034) (hI : INV F n σ) (kk : ∀ F n σ, INV F n σ → AW X p l e room_1 s m #[Value.ref b] below meth c 8 (lw_Z below #[Value.ref b] s) F n (cells + 108) (slots + 2412) 1147 [some (.retAddr b), some (.ref 0), some (.ref 181), some (.ref 223), some (.int (nI i)), none, none, none] []) : AW X p l e room_1 s m #[Value.ref b] below meth c 8 (lw_Z below #[Value.ref b] s) F n cells slots 445 [some (.retAddr b), some (.ref 0), some (.ref 181), some (.ref 223), some (.int (nI i)), none, none, none] [] := by
  obtain ⟨fs, hx⟩ := (hX F n σ hI).1
  refine aw_ald_n C dL_law_445 rfl ?_
  obtain ⟨r, r', h1, h2, ⟨v0, hv0⟩, e1, hJ⟩ := H F n σ hI
  refine ax_callV C (ci := 8) (b := 0) [] mv_L_120 rfl rfl hx (rmX8_unlock hl0 h1) rfl dL_law_446 (Nat.le_of_ble_eq_true rfl) (Nat.le_of_ble_eq_true rfl) rfl (Nat.le_of_ble_eq_true rfl) (show cells + 5 ≤ 601024 by omega) (show slots + 130 ≤ 7293034 by omega) (fun E9 f9 n9 hq => nomatch (hv0.symm.trans hq.1)) (fun v9 f9 n9 hq => ?_)
  obtain ⟨y1, e9, rfl, rfl, rfl⟩ := hq
  refine aw_pop C dL_law_449 rfl ?_
  refine aw_ald_n C dL_law_450 rfl ?_
  rw [e1]
  refine aw_callV C (ci := 9) (b := 181) [] mv_L_123 rfl rfl (hm_M _ _) (rmX9_unlock h2) rfl dL_law_451 (Nat.le_of_ble_eq_true rfl) (Nat.le_of_ble_eq_true rfl) rfl (Nat.le_of_ble_eq_true rfl) (show (cells + 5) + 0 ≤ 601024 by omega) (show (slots + 130) + 0 ≤ 7293034 by omega) (fun v9 f9 n9 hq => ?_)
  obtain ⟨rfl, rfl, rfl⟩ := hq
  refine aw_pop C dL_law_454 rfl ?_
  refine aw_goto C 1147 dL_law_455 (by decide) ?_
  refine aw_fl [some (.retAddr b), some (.ref 0), some (.ref 181), some (.ref 223), some (.int (nI i)), none, none, none] ⟨rfl, ⟨rfl, ⟨rfl, ⟨rfl, ⟨rfl, trivial⟩⟩⟩⟩⟩ ?_
  refine aw_wide (k := cells + 108) (j := slots + 2412) (by omega) (by omega) ?_
  exact kk _ _ _ hJ
def OP10 (INV : AH → Nat → RS9 → Prop) : Prop := ∀ (F : AH) (n : Nat) (σ : RS9) (a1 : Int32), INV F n σ → ∃ r r' g0, mX8_tell 0 a1 F n = some r ∧ (∀ E : String, r.1 = .inr E → E = eA ∨ E = eS) ∧ r.2.1 223 = oCell g0 ∧ mX9_tell a1 σ = some r' ∧ ∀ g : Nat → Int64, va_up r.2.1 223 (oCell g) = rHm (va_up r.2.1 223 (oCell g)) σ ∧ ∀ n', r.2.2 ≤ n' → INV (rHm (va_up r.2.1 223 (oCell g)) r'.2) n' r'.2
set_option maxHeartbeats 1000000 in
theorem lo_10 {X : GX} {p : Program} {l : Launch} {e : Env} {s : State} {m : MethodId} {below : List Frame} {meth : Method} {c : Code} {b L i : Nat} {xs : Nat → Int32} {F : AH} {n cells slots : Nat} {σ : RS9} {INV : AH → Nat → RS9 → Prop} (C : CC X p l room_1 s m #[Value.ref b] meth c RL cL_law 8 ret) (S0 : SC X b L xs s) (hl0 : l.stackTraces = false) (hX : HXp INV) (H : OP10 INV) (hi : i + 6 ≤ L) (hL : L ≤ 3072) (hc : cells + 108 ≤ 601024) (hs : slots + 2412 ≤ 7293034) (hI : INV F n σ) (kk : ∀ F n σ, INV F n σ → AW X p l e room_1 s m #[Value.ref b] below meth c 8 (lw_Z below #[Value.ref b] s) F n (cells + 108) (slots + 2412) 1147 [some (.retAddr b), some (.ref 0), some (.ref 181), some (.ref 223), some (.int (nI i)), none, none, none] []) : AW X p l e room_1 s m #[Value.ref b] below meth c 8 (lw_Z below #[Value.ref b] s) F n cells slots 458 [some (.retAddr b), some (.ref 0), some (.ref 181), some (.ref 223), some (.int (nI i)), none, none, none] [] := by
  obtain ⟨fs, hx⟩ := (hX F n σ hI).1
  refine aw_ald_n C dL_law_458 rfl ?_
  refine aw_raw_n C dL_law_459 rfl ?_
  refine aw_iload C dL_law_460 rfl ?_
  refine aw_iconst C 1 dL_law_462 ki_1 ?_
  refine ae_iadd C (nI (i + 1)) dL_law_463 (nI_add i 1) ?_
  refine aw_sld C S0 (xs (i + 1)) (vp_in_nI (by omega) (by omega)) (nI_clamp (by omega)) rfl dL_law_464 ?_
  refine aw_ald_n C dL_law_465 rfl ?_
  obtain ⟨r, r', g0, h1, hE, hu, h2, hJ⟩ := H F n σ (xs (i + 1)) hI
  refine aw_callSW C [.ref 0, .int (xs (i + 1)), .ref 223] mw_L_124 (wr_L_tell hl0 hx h1 hE (fun _ _ => hu)) rfl dL_law_466 (Nat.le_of_ble_eq_true rfl) (Nat.le_of_ble_eq_true rfl) rfl (Nat.le_of_ble_eq_true rfl) (show cells + 7 ≤ 601024 by omega) (show slots + 192 ≤ 7293034 by omega) (fun v9 f9 n9 hq => ?_)
  obtain ⟨w, g, rfl, rfl, hn⟩ := QW_out hu hq
  refine aw_istore C dL_law_469 (by decide) rfl ?_
  refine aw_ald_n C dL_law_471 rfl ?_
  refine aw_raw_n C dL_law_472 rfl ?_
  refine aw_iload C dL_law_473 rfl ?_
  refine aw_iconst C 1 dL_law_475 ki_1 ?_
  refine ae_iadd C (nI (i + 1)) dL_law_476 (nI_add i 1) ?_
  refine aw_sld C S0 (xs (i + 1)) (vp_in_nI (by omega) (by omega)) (nI_clamp (by omega)) rfl dL_law_477 ?_
  rw [(hJ g).1]
  refine aw_callV C (ci := 9) (b := 181) [.int (xs (i + 1))] mv_L_127 rfl rfl (hm_M _ _) (rmX9_tell h2) rfl dL_law_478 (Nat.le_of_ble_eq_true rfl) (Nat.le_of_ble_eq_true rfl) rfl (Nat.le_of_ble_eq_true rfl) (show (cells + 7) + 0 ≤ 601024 by omega) (show (slots + 192) + 0 ≤ 7293034 by omega) (fun v9 f9 n9 hq => ?_)
  obtain ⟨rfl, rfl, rfl⟩ := hq
  refine aw_istore C dL_law_481 (by decide) rfl ?_
  refine aw_goto C 1147 dL_law_483 (by decide) ?_
  refine aw_fl [some (.retAddr b), some (.ref 0), some (.ref 181), some (.ref 223), some (.int (nI i)), none, none, none] ⟨rfl, ⟨rfl, ⟨rfl, ⟨rfl, ⟨rfl, trivial⟩⟩⟩⟩⟩ ?_
  refine aw_wide (k := cells + 108) (j := slots + 2412) (by omega) (by omega) ?_
  exact kk _ _ _ ((hJ g).2 n9 hn)
def OP11 (INV : AH → Nat → RS9 → Prop) : Prop := ∀ (F : AH) (n : Nat) (σ : RS9) (a1 : Int32), INV F n σ → ∃ r r' g0, mX8_free 0 a1 F n = some r ∧ (∀ E : String, r.1 = .inr E → E = eS) ∧ r.2.1 223 = oCell g0 ∧ mX9_free a1 σ = some r' ∧ ∀ g : Nat → Int64, va_up r.2.1 223 (oCell g) = rHm (va_up r.2.1 223 (oCell g)) σ ∧ ∀ n', r.2.2 ≤ n' → INV (rHm (va_up r.2.1 223 (oCell g)) r'.2) n' r'.2
set_option maxHeartbeats 1000000 in
theorem lo_11 {X : GX} {p : Program} {l : Launch} {e : Env} {s : State} {m : MethodId} {below : List Frame} {meth : Method} {c : Code} {b L i : Nat} {xs : Nat → Int32} {F : AH} {n cells slots : Nat} {σ : RS9} {INV : AH → Nat → RS9 → Prop} (C : CC X p l room_1 s m #[Value.ref b] meth c RL cL_law 8 ret) (S0 : SC X b L xs s) (hl0 : l.stackTraces = false) (hX : HXp INV) (H : OP11 INV) (hi : i + 6 ≤ L) (hL : L ≤ 3072) (hc : cells + 108 ≤ 601024) (hs : slots + 2412 ≤ 7293034) (hI : INV F n σ) (kk : ∀ F n σ, INV F n σ → AW X p l e room_1 s m #[Value.ref b] below meth c 8 (lw_Z below #[Value.ref b] s) F n (cells + 108) (slots + 2412) 1147 [some (.retAddr b), some (.ref 0), some (.ref 181), some (.ref 223), some (.int (nI i)), none, none, none] []) : AW X p l e room_1 s m #[Value.ref b] below meth c 8 (lw_Z below #[Value.ref b] s) F n cells slots 486 [some (.retAddr b), some (.ref 0), some (.ref 181), some (.ref 223), some (.int (nI i)), none, none, none] [] := by
  obtain ⟨fs, hx⟩ := (hX F n σ hI).1
  refine aw_ald_n C dL_law_486 rfl ?_
  refine aw_raw_n C dL_law_487 rfl ?_
  refine aw_iload C dL_law_488 rfl ?_
  refine aw_iconst C 1 dL_law_490 ki_1 ?_
  refine ae_iadd C (nI (i + 1)) dL_law_491 (nI_add i 1) ?_
  refine aw_sld C S0 (xs (i + 1)) (vp_in_nI (by omega) (by omega)) (nI_clamp (by omega)) rfl dL_law_492 ?_
  refine aw_ald_n C dL_law_493 rfl ?_
  obtain ⟨r, r', g0, h1, hE, hu, h2, hJ⟩ := H F n σ (xs (i + 1)) hI
  refine aw_callSW C [.ref 0, .int (xs (i + 1)), .ref 223] mw_L_128 (wr_L_free hl0 hx h1 hE (fun _ _ => hu)) rfl dL_law_494 (Nat.le_of_ble_eq_true rfl) (Nat.le_of_ble_eq_true rfl) rfl (Nat.le_of_ble_eq_true rfl) (show cells + 5 ≤ 601024 by omega) (show slots + 130 ≤ 7293034 by omega) (fun v9 f9 n9 hq => ?_)
  obtain ⟨w, g, rfl, rfl, hn⟩ := QW_out hu hq
  refine aw_istore C dL_law_497 (by decide) rfl ?_
  refine aw_ald_n C dL_law_499 rfl ?_
  refine aw_raw_n C dL_law_500 rfl ?_
  refine aw_iload C dL_law_501 rfl ?_
  refine aw_iconst C 1 dL_law_503 ki_1 ?_
  refine ae_iadd C (nI (i + 1)) dL_law_504 (nI_add i 1) ?_
  refine aw_sld C S0 (xs (i + 1)) (vp_in_nI (by omega) (by omega)) (nI_clamp (by omega)) rfl dL_law_505 ?_
  rw [(hJ g).1]
  refine aw_callV C (ci := 9) (b := 181) [.int (xs (i + 1))] mv_L_130 rfl rfl (hm_M _ _) (rmX9_free h2) rfl dL_law_506 (Nat.le_of_ble_eq_true rfl) (Nat.le_of_ble_eq_true rfl) rfl (Nat.le_of_ble_eq_true rfl) (show (cells + 5) + 0 ≤ 601024 by omega) (show (slots + 130) + 0 ≤ 7293034 by omega) (fun v9 f9 n9 hq => ?_)
  obtain ⟨rfl, rfl, rfl⟩ := hq
  refine aw_istore C dL_law_509 (by decide) rfl ?_
  refine aw_goto C 1147 dL_law_511 (by decide) ?_
  refine aw_fl [some (.retAddr b), some (.ref 0), some (.ref 181), some (.ref 223), some (.int (nI i)), none, none, none] ⟨rfl, ⟨rfl, ⟨rfl, ⟨rfl, ⟨rfl, trivial⟩⟩⟩⟩⟩ ?_
  refine aw_wide (k := cells + 108) (j := slots + 2412) (by omega) (by omega) ?_
  exact kk _ _ _ ((hJ g).2 n9 hn)
def OP12 (INV : AH → Nat → RS9 → Prop) : Prop := ∀ (F : AH) (n : Nat) (σ : RS9) (a1 : Int32), INV F n σ → ∃ r r' g0, mX8_spread 0 a1 F n = some r ∧ (∀ E : String, r.1 = .inr E → E = eS) ∧ r.2.1 223 = oCell g0 ∧ mX9_spread a1 σ = some r' ∧ ∀ g : Nat → Int64, va_up r.2.1 223 (oCell g) = rHm (va_up r.2.1 223 (oCell g)) σ ∧ ∀ n', r.2.2 ≤ n' → INV (rHm (va_up r.2.1 223 (oCell g)) r'.2) n' r'.2
set_option maxHeartbeats 1000000 in
theorem lo_12 {X : GX} {p : Program} {l : Launch} {e : Env} {s : State} {m : MethodId} {below : List Frame} {meth : Method} {c : Code} {b L i : Nat} {xs : Nat → Int32} {F : AH} {n cells slots : Nat} {σ : RS9} {INV : AH → Nat → RS9 → Prop} (C : CC X p l room_1 s m #[Value.ref b] meth c RL cL_law 8 ret) (S0 : SC X b L xs s) (hl0 : l.stackTraces = false) (hX : HXp INV) (H : OP12 INV) (hi : i + 6 ≤ L) (hL : L ≤ 3072) (hc : cells + 108 ≤ 601024) (hs : slots + 2412 ≤ 7293034) (hI : INV F n σ) (kk : ∀ F n σ, INV F n σ → AW X p l e room_1 s m #[Value.ref b] below meth c 8 (lw_Z below #[Value.ref b] s) F n (cells + 108) (slots + 2412) 1147 [some (.retAddr b), some (.ref 0), some (.ref 181), some (.ref 223), some (.int (nI i)), none, none, none] []) : AW X p l e room_1 s m #[Value.ref b] below meth c 8 (lw_Z below #[Value.ref b] s) F n cells slots 514 [some (.retAddr b), some (.ref 0), some (.ref 181), some (.ref 223), some (.int (nI i)), none, none, none] [] := by
  obtain ⟨fs, hx⟩ := (hX F n σ hI).1
  refine aw_ald_n C dL_law_514 rfl ?_
  refine aw_raw_n C dL_law_515 rfl ?_
  refine aw_iload C dL_law_516 rfl ?_
  refine aw_iconst C 1 dL_law_518 ki_1 ?_
  refine ae_iadd C (nI (i + 1)) dL_law_519 (nI_add i 1) ?_
  refine aw_sld C S0 (xs (i + 1)) (vp_in_nI (by omega) (by omega)) (nI_clamp (by omega)) rfl dL_law_520 ?_
  refine aw_ald_n C dL_law_521 rfl ?_
  obtain ⟨r, r', g0, h1, hE, hu, h2, hJ⟩ := H F n σ (xs (i + 1)) hI
  refine aw_callSW C [.ref 0, .int (xs (i + 1)), .ref 223] mw_L_131 (wr_L_spread hl0 hx h1 hE (fun _ _ => hu)) rfl dL_law_522 (Nat.le_of_ble_eq_true rfl) (Nat.le_of_ble_eq_true rfl) rfl (Nat.le_of_ble_eq_true rfl) (show cells + 5 ≤ 601024 by omega) (show slots + 130 ≤ 7293034 by omega) (fun v9 f9 n9 hq => ?_)
  obtain ⟨w, g, rfl, rfl, hn⟩ := QW_out hu hq
  refine aw_istore C dL_law_525 (by decide) rfl ?_
  refine aw_ald_n C dL_law_527 rfl ?_
  refine aw_raw_n C dL_law_528 rfl ?_
  refine aw_iload C dL_law_529 rfl ?_
  refine aw_iconst C 1 dL_law_531 ki_1 ?_
  refine ae_iadd C (nI (i + 1)) dL_law_532 (nI_add i 1) ?_
  refine aw_sld C S0 (xs (i + 1)) (vp_in_nI (by omega) (by omega)) (nI_clamp (by omega)) rfl dL_law_533 ?_
  rw [(hJ g).1]
  refine aw_callV C (ci := 9) (b := 181) [.int (xs (i + 1))] mv_L_133 rfl rfl (hm_M _ _) (rmX9_spread h2) rfl dL_law_534 (Nat.le_of_ble_eq_true rfl) (Nat.le_of_ble_eq_true rfl) rfl (Nat.le_of_ble_eq_true rfl) (show (cells + 5) + 0 ≤ 601024 by omega) (show (slots + 130) + 0 ≤ 7293034 by omega) (fun v9 f9 n9 hq => ?_)
  obtain ⟨rfl, rfl, rfl⟩ := hq
  refine aw_istore C dL_law_537 (by decide) rfl ?_
  refine aw_goto C 1147 dL_law_539 (by decide) ?_
  refine aw_fl [some (.retAddr b), some (.ref 0), some (.ref 181), some (.ref 223), some (.int (nI i)), none, none, none] ⟨rfl, ⟨rfl, ⟨rfl, ⟨rfl, ⟨rfl, trivial⟩⟩⟩⟩⟩ ?_
  refine aw_wide (k := cells + 108) (j := slots + 2412) (by omega) (by omega) ?_
  exact kk _ _ _ ((hJ g).2 n9 hn)
def OP13 (INV : AH → Nat → RS9 → Prop) : Prop := ∀ (F : AH) (n : Nat) (σ : RS9) (a1 a2 : Int32), INV F n σ → ∃ r r' g0, mX8_swap 0 a1 a2 F n = some r ∧ (∀ E : String, r.1 = .inr E → E = eS) ∧ r.2.1 223 = oCell g0 ∧ mX9_swap a1 a2 σ = some r' ∧ ∀ g : Nat → Int64, va_up r.2.1 223 (oCell g) = rHm (va_up r.2.1 223 (oCell g)) σ ∧ ∀ n', r.2.2 ≤ n' → INV (rHm (va_up r.2.1 223 (oCell g)) r'.2) n' r'.2
set_option maxHeartbeats 1000000 in
theorem lo_13 {X : GX} {p : Program} {l : Launch} {e : Env} {s : State} {m : MethodId} {below : List Frame} {meth : Method} {c : Code} {b L i : Nat} {xs : Nat → Int32} {F : AH} {n cells slots : Nat} {σ : RS9} {INV : AH → Nat → RS9 → Prop} (C : CC X p l room_1 s m #[Value.ref b] meth c RL cL_law 8 ret) (S0 : SC X b L xs s) (hl0 : l.stackTraces = false) (hX : HXp INV) (H : OP13 INV) (hi : i + 6 ≤ L) (hL : L ≤ 3072) (hc : cells + 108 ≤ 601024) (hs : slots + 2412 ≤ 7293034) (hI : INV F n σ) (kk : ∀ F n σ, INV F n σ → AW X p l e room_1 s m #[Value.ref b] below meth c 8 (lw_Z below #[Value.ref b] s) F n (cells + 108) (slots + 2412) 1147 [some (.retAddr b), some (.ref 0), some (.ref 181), some (.ref 223), some (.int (nI i)), none, none, none] []) : AW X p l e room_1 s m #[Value.ref b] below meth c 8 (lw_Z below #[Value.ref b] s) F n cells slots 542 [some (.retAddr b), some (.ref 0), some (.ref 181), some (.ref 223), some (.int (nI i)), none, none, none] [] := by
  obtain ⟨fs, hx⟩ := (hX F n σ hI).1
  refine aw_ald_n C dL_law_542 rfl ?_
  refine aw_raw_n C dL_law_543 rfl ?_
  refine aw_iload C dL_law_544 rfl ?_
  refine aw_iconst C 1 dL_law_546 ki_1 ?_
  refine ae_iadd C (nI (i + 1)) dL_law_547 (nI_add i 1) ?_
  refine aw_sld C S0 (xs (i + 1)) (vp_in_nI (by omega) (by omega)) (nI_clamp (by omega)) rfl dL_law_548 ?_
  refine aw_raw_n C dL_law_549 rfl ?_
  refine aw_iload C dL_law_550 rfl ?_
  refine aw_iconst C 2 dL_law_552 ki_2 ?_
  refine ae_iadd C (nI (i + 2)) dL_law_553 (nI_add i 2) ?_
  refine aw_sld C S0 (xs (i + 2)) (vp_in_nI (by omega) (by omega)) (nI_clamp (by omega)) rfl dL_law_554 ?_
  refine aw_ald_n C dL_law_555 rfl ?_
  obtain ⟨r, r', g0, h1, hE, hu, h2, hJ⟩ := H F n σ (xs (i + 1)) (xs (i + 2)) hI
  refine aw_callSW C [.ref 0, .int (xs (i + 1)), .int (xs (i + 2)), .ref 223] mw_L_134 (wr_L_swap hl0 hx h1 hE (fun _ _ => hu)) rfl dL_law_556 (Nat.le_of_ble_eq_true rfl) (Nat.le_of_ble_eq_true rfl) rfl (Nat.le_of_ble_eq_true rfl) (show cells + 5 ≤ 601024 by omega) (show slots + 130 ≤ 7293034 by omega) (fun v9 f9 n9 hq => ?_)
  obtain ⟨w, g, rfl, rfl, hn⟩ := QW_out hu hq
  refine aw_istore C dL_law_559 (by decide) rfl ?_
  refine aw_ald_n C dL_law_561 rfl ?_
  refine aw_raw_n C dL_law_562 rfl ?_
  refine aw_iload C dL_law_563 rfl ?_
  refine aw_iconst C 1 dL_law_565 ki_1 ?_
  refine ae_iadd C (nI (i + 1)) dL_law_566 (nI_add i 1) ?_
  refine aw_sld C S0 (xs (i + 1)) (vp_in_nI (by omega) (by omega)) (nI_clamp (by omega)) rfl dL_law_567 ?_
  refine aw_raw_n C dL_law_568 rfl ?_
  refine aw_iload C dL_law_569 rfl ?_
  refine aw_iconst C 2 dL_law_571 ki_2 ?_
  refine ae_iadd C (nI (i + 2)) dL_law_572 (nI_add i 2) ?_
  refine aw_sld C S0 (xs (i + 2)) (vp_in_nI (by omega) (by omega)) (nI_clamp (by omega)) rfl dL_law_573 ?_
  rw [(hJ g).1]
  refine aw_callV C (ci := 9) (b := 181) [.int (xs (i + 1)), .int (xs (i + 2))] mv_L_136 rfl rfl (hm_M _ _) (rmX9_swap h2) rfl dL_law_574 (Nat.le_of_ble_eq_true rfl) (Nat.le_of_ble_eq_true rfl) rfl (Nat.le_of_ble_eq_true rfl) (show (cells + 5) + 0 ≤ 601024 by omega) (show (slots + 130) + 0 ≤ 7293034 by omega) (fun v9 f9 n9 hq => ?_)
  obtain ⟨rfl, rfl, rfl⟩ := hq
  refine aw_istore C dL_law_577 (by decide) rfl ?_
  refine aw_goto C 1147 dL_law_579 (by decide) ?_
  refine aw_fl [some (.retAddr b), some (.ref 0), some (.ref 181), some (.ref 223), some (.int (nI i)), none, none, none] ⟨rfl, ⟨rfl, ⟨rfl, ⟨rfl, ⟨rfl, trivial⟩⟩⟩⟩⟩ ?_
  refine aw_wide (k := cells + 108) (j := slots + 2412) (by omega) (by omega) ?_
  exact kk _ _ _ ((hJ g).2 n9 hn)
def OP14 (INV : AH → Nat → RS9 → Prop) : Prop := ∀ (F : AH) (n : Nat) (σ : RS9), INV F n σ → ∃ r r' g0, mX8_wipe 0 F n = some r ∧ (∀ E : String, r.1 = .inr E → E = eS) ∧ r.2.1 223 = oCell g0 ∧ mX9_wipe σ = some r' ∧ ∀ g : Nat → Int64, va_up r.2.1 223 (oCell g) = rHm (va_up r.2.1 223 (oCell g)) σ ∧ ∀ n', r.2.2 ≤ n' → INV (rHm (va_up r.2.1 223 (oCell g)) r'.2) n' r'.2
set_option maxHeartbeats 1000000 in
theorem lo_14 {X : GX} {p : Program} {l : Launch} {e : Env} {s : State} {m : MethodId} {below : List Frame} {meth : Method} {c : Code} {b L i : Nat} {xs : Nat → Int32} {F : AH} {n cells slots : Nat} {σ : RS9} {INV : AH → Nat → RS9 → Prop} (C : CC X p l room_1 s m #[Value.ref b] meth c RL cL_law 8 ret) (S0 : SC X b L xs s) (hl0 : l.stackTraces = false) (hX : HXp INV) (H : OP14 INV) (hi : i + 6 ≤ L) (hL : L ≤ 3072) (hc : cells + 108 ≤ 601024) (hs : slots + 2412 ≤ 7293034) (hI : INV F n σ) (kk : ∀ F n σ, INV F n σ → AW X p l e room_1 s m #[Value.ref b] below meth c 8 (lw_Z below #[Value.ref b] s) F n (cells + 108) (slots + 2412) 1147 [some (.retAddr b), some (.ref 0), some (.ref 181), some (.ref 223), some (.int (nI i)), none, none, none] []) : AW X p l e room_1 s m #[Value.ref b] below meth c 8 (lw_Z below #[Value.ref b] s) F n cells slots 582 [some (.retAddr b), some (.ref 0), some (.ref 181), some (.ref 223), some (.int (nI i)), none, none, none] [] := by
  obtain ⟨fs, hx⟩ := (hX F n σ hI).1
  refine aw_ald_n C dL_law_582 rfl ?_
  refine aw_ald_n C dL_law_583 rfl ?_
  obtain ⟨r, r', g0, h1, hE, hu, h2, hJ⟩ := H F n σ hI
  refine aw_callSW C [.ref 0, .ref 223] mw_L_137 (wr_L_wipe hl0 hx h1 hE (fun _ _ => hu)) rfl dL_law_584 (Nat.le_of_ble_eq_true rfl) (Nat.le_of_ble_eq_true rfl) rfl (Nat.le_of_ble_eq_true rfl) (show cells + 5 ≤ 601024 by omega) (show slots + 130 ≤ 7293034 by omega) (fun v9 f9 n9 hq => ?_)
  obtain ⟨w, g, rfl, rfl, hn⟩ := QW_out hu hq
  refine aw_istore C dL_law_587 (by decide) rfl ?_
  refine aw_ald_n C dL_law_589 rfl ?_
  rw [(hJ g).1]
  refine aw_callV C (ci := 9) (b := 181) [] mv_L_139 rfl rfl (hm_M _ _) (rmX9_wipe h2) rfl dL_law_590 (Nat.le_of_ble_eq_true rfl) (Nat.le_of_ble_eq_true rfl) rfl (Nat.le_of_ble_eq_true rfl) (show (cells + 5) + 0 ≤ 601024 by omega) (show (slots + 130) + 0 ≤ 7293034 by omega) (fun v9 f9 n9 hq => ?_)
  obtain ⟨rfl, rfl, rfl⟩ := hq
  refine aw_istore C dL_law_593 (by decide) rfl ?_
  refine aw_goto C 1147 dL_law_595 (by decide) ?_
  refine aw_fl [some (.retAddr b), some (.ref 0), some (.ref 181), some (.ref 223), some (.int (nI i)), none, none, none] ⟨rfl, ⟨rfl, ⟨rfl, ⟨rfl, ⟨rfl, trivial⟩⟩⟩⟩⟩ ?_
  refine aw_wide (k := cells + 108) (j := slots + 2412) (by omega) (by omega) ?_
  exact kk _ _ _ ((hJ g).2 n9 hn)
def OP15 (INV : AH → Nat → RS9 → Prop) : Prop := ∀ (F : AH) (n : Nat) (σ : RS9), INV F n σ → ∃ r r' g0, mX8_undo 0 F n = some r ∧ (∀ E : String, r.1 = .inr E → E = eS) ∧ r.2.1 223 = oCell g0 ∧ mX9_undo σ = some r' ∧ ∀ g : Nat → Int64, va_up r.2.1 223 (oCell g) = rHm (va_up r.2.1 223 (oCell g)) σ ∧ ∀ n', r.2.2 ≤ n' → INV (rHm (va_up r.2.1 223 (oCell g)) r'.2) n' r'.2
set_option maxHeartbeats 1000000 in
theorem lo_15 {X : GX} {p : Program} {l : Launch} {e : Env} {s : State} {m : MethodId} {below : List Frame} {meth : Method} {c : Code} {b L i : Nat} {xs : Nat → Int32} {F : AH} {n cells slots : Nat} {σ : RS9} {INV : AH → Nat → RS9 → Prop} (C : CC X p l room_1 s m #[Value.ref b] meth c RL cL_law 8 ret) (S0 : SC X b L xs s) (hl0 : l.stackTraces = false) (hX : HXp INV) (H : OP15 INV) (hi : i + 6 ≤ L) (hL : L ≤ 3072) (hc : cells + 108 ≤ 601024) (hs : slots + 2412 ≤ 7293034) (hI : INV F n σ) (kk : ∀ F n σ, INV F n σ → AW X p l e room_1 s m #[Value.ref b] below meth c 8 (lw_Z below #[Value.ref b] s) F n (cells + 108) (slots + 2412) 1147 [some (.retAddr b), some (.ref 0), some (.ref 181), some (.ref 223), some (.int (nI i)), none, none, none] []) : AW X p l e room_1 s m #[Value.ref b] below meth c 8 (lw_Z below #[Value.ref b] s) F n cells slots 598 [some (.retAddr b), some (.ref 0), some (.ref 181), some (.ref 223), some (.int (nI i)), none, none, none] [] := by
  obtain ⟨fs, hx⟩ := (hX F n σ hI).1
  refine aw_ald_n C dL_law_598 rfl ?_
  refine aw_ald_n C dL_law_599 rfl ?_
  obtain ⟨r, r', g0, h1, hE, hu, h2, hJ⟩ := H F n σ hI
  refine aw_callSW C [.ref 0, .ref 223] mw_L_140 (wr_L_undo hl0 hx h1 hE (fun _ _ => hu)) rfl dL_law_600 (Nat.le_of_ble_eq_true rfl) (Nat.le_of_ble_eq_true rfl) rfl (Nat.le_of_ble_eq_true rfl) (show cells + 1 ≤ 601024 by omega) (show slots + 6 ≤ 7293034 by omega) (fun v9 f9 n9 hq => ?_)
  obtain ⟨w, g, rfl, rfl, hn⟩ := QW_out hu hq
  refine aw_istore C dL_law_603 (by decide) rfl ?_
  refine aw_ald_n C dL_law_605 rfl ?_
  rw [(hJ g).1]
  refine aw_callV C (ci := 9) (b := 181) [] mv_L_142 rfl rfl (hm_M _ _) (rmX9_undo h2) rfl dL_law_606 (Nat.le_of_ble_eq_true rfl) (Nat.le_of_ble_eq_true rfl) rfl (Nat.le_of_ble_eq_true rfl) (show (cells + 1) + 0 ≤ 601024 by omega) (show (slots + 6) + 0 ≤ 7293034 by omega) (fun v9 f9 n9 hq => ?_)
  obtain ⟨rfl, rfl, rfl⟩ := hq
  refine aw_istore C dL_law_609 (by decide) rfl ?_
  refine aw_goto C 1147 dL_law_611 (by decide) ?_
  refine aw_fl [some (.retAddr b), some (.ref 0), some (.ref 181), some (.ref 223), some (.int (nI i)), none, none, none] ⟨rfl, ⟨rfl, ⟨rfl, ⟨rfl, ⟨rfl, trivial⟩⟩⟩⟩⟩ ?_
  refine aw_wide (k := cells + 108) (j := slots + 2412) (by omega) (by omega) ?_
  exact kk _ _ _ ((hJ g).2 n9 hn)
def OP16 (INV : AH → Nat → RS9 → Prop) : Prop := ∀ (F : AH) (n : Nat) (σ : RS9) (a1 a2 : Int32), INV F n σ → ∃ r r' g0, mX8_piece 0 a1 a2 F n = some r ∧ (∀ E : String, r.1 = .inr E → E = eI ∨ E = eN) ∧ r.2.1 223 = oCell g0 ∧ mX9_piece a1 a2 σ = some r' ∧ ∀ g : Nat → Int64, va_up r.2.1 223 (oCell g) = rHm (va_up r.2.1 223 (oCell g)) σ ∧ ∀ n', r.2.2 ≤ n' → INV (rHm (va_up r.2.1 223 (oCell g)) r'.2) n' r'.2
set_option maxHeartbeats 1000000 in
theorem lo_16 {X : GX} {p : Program} {l : Launch} {e : Env} {s : State} {m : MethodId} {below : List Frame} {meth : Method} {c : Code} {b L i : Nat} {xs : Nat → Int32} {F : AH} {n cells slots : Nat} {σ : RS9} {INV : AH → Nat → RS9 → Prop} (C : CC X p l room_1 s m #[Value.ref b] meth c RL cL_law 8 ret) (S0 : SC X b L xs s) (hl0 : l.stackTraces = false) (hX : HXp INV) (H : OP16 INV) (hi : i + 6 ≤ L) (hL : L ≤ 3072) (hc : cells + 108 ≤ 601024) (hs : slots + 2412 ≤ 7293034) (hI : INV F n σ) (kk : ∀ F n σ, INV F n σ → AW X p l e room_1 s m #[Value.ref b] below meth c 8 (lw_Z below #[Value.ref b] s) F n (cells + 108) (slots + 2412) 1147 [some (.retAddr b), some (.ref 0), some (.ref 181), some (.ref 223), some (.int (nI i)), none, none, none] []) : AW X p l e room_1 s m #[Value.ref b] below meth c 8 (lw_Z below #[Value.ref b] s) F n cells slots 614 [some (.retAddr b), some (.ref 0), some (.ref 181), some (.ref 223), some (.int (nI i)), none, none, none] [] := by
  obtain ⟨fs, hx⟩ := (hX F n σ hI).1
  refine aw_ald_n C dL_law_614 rfl ?_
  refine aw_raw_n C dL_law_615 rfl ?_
  refine aw_iload C dL_law_616 rfl ?_
  refine aw_iconst C 1 dL_law_618 ki_1 ?_
  refine ae_iadd C (nI (i + 1)) dL_law_619 (nI_add i 1) ?_
  refine aw_sld C S0 (xs (i + 1)) (vp_in_nI (by omega) (by omega)) (nI_clamp (by omega)) rfl dL_law_620 ?_
  refine aw_raw_n C dL_law_621 rfl ?_
  refine aw_iload C dL_law_622 rfl ?_
  refine aw_iconst C 2 dL_law_624 ki_2 ?_
  refine ae_iadd C (nI (i + 2)) dL_law_625 (nI_add i 2) ?_
  refine aw_sld C S0 (xs (i + 2)) (vp_in_nI (by omega) (by omega)) (nI_clamp (by omega)) rfl dL_law_626 ?_
  refine aw_ald_n C dL_law_627 rfl ?_
  obtain ⟨r, r', g0, h1, hE, hu, h2, hJ⟩ := H F n σ (xs (i + 1)) (xs (i + 2)) hI
  refine aw_callSW C [.ref 0, .int (xs (i + 1)), .int (xs (i + 2)), .ref 223] mw_L_143 (wr_L_piece hl0 hx h1 hE (fun _ _ => hu)) rfl dL_law_628 (Nat.le_of_ble_eq_true rfl) (Nat.le_of_ble_eq_true rfl) rfl (Nat.le_of_ble_eq_true rfl) (show cells + 2 ≤ 601024 by omega) (show slots + 12 ≤ 7293034 by omega) (fun v9 f9 n9 hq => ?_)
  obtain ⟨w, g, rfl, rfl, hn⟩ := QW_out hu hq
  refine aw_istore C dL_law_631 (by decide) rfl ?_
  refine aw_ald_n C dL_law_633 rfl ?_
  refine aw_raw_n C dL_law_634 rfl ?_
  refine aw_iload C dL_law_635 rfl ?_
  refine aw_iconst C 1 dL_law_637 ki_1 ?_
  refine ae_iadd C (nI (i + 1)) dL_law_638 (nI_add i 1) ?_
  refine aw_sld C S0 (xs (i + 1)) (vp_in_nI (by omega) (by omega)) (nI_clamp (by omega)) rfl dL_law_639 ?_
  refine aw_raw_n C dL_law_640 rfl ?_
  refine aw_iload C dL_law_641 rfl ?_
  refine aw_iconst C 2 dL_law_643 ki_2 ?_
  refine ae_iadd C (nI (i + 2)) dL_law_644 (nI_add i 2) ?_
  refine aw_sld C S0 (xs (i + 2)) (vp_in_nI (by omega) (by omega)) (nI_clamp (by omega)) rfl dL_law_645 ?_
  rw [(hJ g).1]
  refine aw_callV C (ci := 9) (b := 181) [.int (xs (i + 1)), .int (xs (i + 2))] mv_L_145 rfl rfl (hm_M _ _) (rmX9_piece h2) rfl dL_law_646 (Nat.le_of_ble_eq_true rfl) (Nat.le_of_ble_eq_true rfl) rfl (Nat.le_of_ble_eq_true rfl) (show (cells + 2) + 0 ≤ 601024 by omega) (show (slots + 12) + 0 ≤ 7293034 by omega) (fun v9 f9 n9 hq => ?_)
  obtain ⟨rfl, rfl, rfl⟩ := hq
  refine aw_istore C dL_law_649 (by decide) rfl ?_
  refine aw_goto C 1147 dL_law_651 (by decide) ?_
  refine aw_fl [some (.retAddr b), some (.ref 0), some (.ref 181), some (.ref 223), some (.int (nI i)), none, none, none] ⟨rfl, ⟨rfl, ⟨rfl, ⟨rfl, ⟨rfl, trivial⟩⟩⟩⟩⟩ ?_
  refine aw_wide (k := cells + 108) (j := slots + 2412) (by omega) (by omega) ?_
  exact kk _ _ _ ((hJ g).2 n9 hn)
def OP17 (INV : AH → Nat → RS9 → Prop) : Prop := ∀ (F : AH) (n : Nat) (σ : RS9) (a1 a2 a3 : Int32), (a3 = 0 ∨ a3 = 1) → INV F n σ → ∃ r r' g0, mX8_octet 0 a1 a2 a3 F n = some r ∧ (∀ E : String, r.1 = .inr E → E = eI) ∧ r.2.1 223 = oCell g0 ∧ mX9_octet a1 a2 a3 σ = some r' ∧ ∀ g : Nat → Int64, va_up r.2.1 223 (oCell g) = rHm (va_up r.2.1 223 (oCell g)) σ ∧ ∀ n', r.2.2 ≤ n' → INV (rHm (va_up r.2.1 223 (oCell g)) r'.2) n' r'.2
set_option maxHeartbeats 1000000 in
theorem lo_17 {X : GX} {p : Program} {l : Launch} {e : Env} {s : State} {m : MethodId} {below : List Frame} {meth : Method} {c : Code} {b L i : Nat} {xs : Nat → Int32} {F : AH} {n cells slots : Nat} {σ : RS9} {INV : AH → Nat → RS9 → Prop} (C : CC X p l room_1 s m #[Value.ref b] meth c RL cL_law 8 ret) (S0 : SC X b L xs s) (hl0 : l.stackTraces = false) (hX : HXp INV) (H : OP17 INV) (hi : i + 6 ≤ L) (hL : L ≤ 3072) (hc : cells + 108 ≤ 601024) (hs : slots + 2412 ≤ 7293034) (hI : INV F n σ) (kk : ∀ F n σ, INV F n σ → AW X p l e room_1 s m #[Value.ref b] below meth c 8 (lw_Z below #[Value.ref b] s) F n (cells + 108) (slots + 2412) 1147 [some (.retAddr b), some (.ref 0), some (.ref 181), some (.ref 223), some (.int (nI i)), none, none, none] []) : AW X p l e room_1 s m #[Value.ref b] below meth c 8 (lw_Z below #[Value.ref b] s) F n cells slots 654 [some (.retAddr b), some (.ref 0), some (.ref 181), some (.ref 223), some (.int (nI i)), none, none, none] [] := by
  obtain ⟨fs, hx⟩ := (hX F n σ hI).1
  refine aw_ald_n C dL_law_654 rfl ?_
  refine aw_raw_n C dL_law_655 rfl ?_
  refine aw_iload C dL_law_656 rfl ?_
  refine aw_iconst C 1 dL_law_658 ki_1 ?_
  refine ae_iadd C (nI (i + 1)) dL_law_659 (nI_add i 1) ?_
  refine aw_sld C S0 (xs (i + 1)) (vp_in_nI (by omega) (by omega)) (nI_clamp (by omega)) rfl dL_law_660 ?_
  refine aw_raw_n C dL_law_661 rfl ?_
  refine aw_iload C dL_law_662 rfl ?_
  refine aw_iconst C 2 dL_law_664 ki_2 ?_
  refine ae_iadd C (nI (i + 2)) dL_law_665 (nI_add i 2) ?_
  refine aw_sld C S0 (xs (i + 2)) (vp_in_nI (by omega) (by omega)) (nI_clamp (by omega)) rfl dL_law_666 ?_
  refine aw_raw_n C dL_law_667 rfl ?_
  refine aw_iload C dL_law_668 rfl ?_
  refine aw_iconst C 3 dL_law_670 ki_3 ?_
  refine ae_iadd C (nI (i + 3)) dL_law_671 (nI_add i 3) ?_
  refine aw_sld C S0 (xs (i + 3)) (vp_in_nI (by omega) (by omega)) (nI_clamp (by omega)) rfl dL_law_672 ?_
  refine aw_if_eq C 680 dL_law_673 (by decide) (fun z3 => ?_) (fun z3 => ?_)
  · refine aw_iconst C 0 dL_law_680 ki_0 ?_
    refine aw_ald_n C dL_law_681 rfl ?_
    obtain ⟨r, r', g0, h1, hE, hu, h2, hJ⟩ := H F n σ (xs (i + 1)) (xs (i + 2)) (0) (by decide) hI
    refine aw_callSW C [.ref 0, .int (xs (i + 1)), .int (xs (i + 2)), .int (0), .ref 223] mw_L_146 (wr_L_octet hl0 hx h1 hE (fun _ _ => hu)) rfl dL_law_682 (Nat.le_of_ble_eq_true rfl) (Nat.le_of_ble_eq_true rfl) rfl (Nat.le_of_ble_eq_true rfl) (show cells + 1 ≤ 601024 by omega) (show slots + 6 ≤ 7293034 by omega) (fun v9 f9 n9 hq => ?_)
    obtain ⟨w, g, rfl, rfl, hn⟩ := QW_out hu hq
    refine aw_istore C dL_law_685 (by decide) rfl ?_
    refine aw_ald_n C dL_law_687 rfl ?_
    refine aw_raw_n C dL_law_688 rfl ?_
    refine aw_iload C dL_law_689 rfl ?_
    refine aw_iconst C 1 dL_law_691 ki_1 ?_
    refine ae_iadd C (nI (i + 1)) dL_law_692 (nI_add i 1) ?_
    refine aw_sld C S0 (xs (i + 1)) (vp_in_nI (by omega) (by omega)) (nI_clamp (by omega)) rfl dL_law_693 ?_
    refine aw_raw_n C dL_law_694 rfl ?_
    refine aw_iload C dL_law_695 rfl ?_
    refine aw_iconst C 2 dL_law_697 ki_2 ?_
    refine ae_iadd C (nI (i + 2)) dL_law_698 (nI_add i 2) ?_
    refine aw_sld C S0 (xs (i + 2)) (vp_in_nI (by omega) (by omega)) (nI_clamp (by omega)) rfl dL_law_699 ?_
    refine aw_raw_n C dL_law_700 rfl ?_
    refine aw_iload C dL_law_701 rfl ?_
    refine aw_iconst C 3 dL_law_703 ki_3 ?_
    refine ae_iadd C (nI (i + 3)) dL_law_704 (nI_add i 3) ?_
    refine aw_sld C S0 (xs (i + 3)) (vp_in_nI (by omega) (by omega)) (nI_clamp (by omega)) rfl dL_law_705 ?_
    refine aw_if_eq C 713 dL_law_706 (by decide) (fun _ => ?_) (fun q2 => absurd z3 q2)
    refine aw_iconst C 0 dL_law_713 ki_0 ?_
    rw [(hJ g).1]
    refine aw_callV C (ci := 9) (b := 181) [.int (xs (i + 1)), .int (xs (i + 2)), .int (0)] mv_L_149 rfl rfl (hm_M _ _) (rmX9_octet h2) rfl dL_law_714 (Nat.le_of_ble_eq_true rfl) (Nat.le_of_ble_eq_true rfl) rfl (Nat.le_of_ble_eq_true rfl) (show (cells + 1) + 0 ≤ 601024 by omega) (show (slots + 6) + 0 ≤ 7293034 by omega) (fun v9 f9 n9 hq => ?_)
    obtain ⟨rfl, rfl, rfl⟩ := hq
    refine aw_istore C dL_law_717 (by decide) rfl ?_
    refine aw_goto C 1147 dL_law_719 (by decide) ?_
    refine aw_fl [some (.retAddr b), some (.ref 0), some (.ref 181), some (.ref 223), some (.int (nI i)), none, none, none] ⟨rfl, ⟨rfl, ⟨rfl, ⟨rfl, ⟨rfl, trivial⟩⟩⟩⟩⟩ ?_
    refine aw_wide (k := cells + 108) (j := slots + 2412) (by omega) (by omega) ?_
    exact kk _ _ _ ((hJ g).2 n9 hn)
  · refine aw_iconst C 1 dL_law_676 ki_1 ?_
    refine aw_goto C 681 dL_law_677 (by decide) ?_
    refine aw_ald_n C dL_law_681 rfl ?_
    obtain ⟨r, r', g0, h1, hE, hu, h2, hJ⟩ := H F n σ (xs (i + 1)) (xs (i + 2)) (1) (by decide) hI
    refine aw_callSW C [.ref 0, .int (xs (i + 1)), .int (xs (i + 2)), .int (1), .ref 223] mw_L_146 (wr_L_octet hl0 hx h1 hE (fun _ _ => hu)) rfl dL_law_682 (Nat.le_of_ble_eq_true rfl) (Nat.le_of_ble_eq_true rfl) rfl (Nat.le_of_ble_eq_true rfl) (show cells + 1 ≤ 601024 by omega) (show slots + 6 ≤ 7293034 by omega) (fun v9 f9 n9 hq => ?_)
    obtain ⟨w, g, rfl, rfl, hn⟩ := QW_out hu hq
    refine aw_istore C dL_law_685 (by decide) rfl ?_
    refine aw_ald_n C dL_law_687 rfl ?_
    refine aw_raw_n C dL_law_688 rfl ?_
    refine aw_iload C dL_law_689 rfl ?_
    refine aw_iconst C 1 dL_law_691 ki_1 ?_
    refine ae_iadd C (nI (i + 1)) dL_law_692 (nI_add i 1) ?_
    refine aw_sld C S0 (xs (i + 1)) (vp_in_nI (by omega) (by omega)) (nI_clamp (by omega)) rfl dL_law_693 ?_
    refine aw_raw_n C dL_law_694 rfl ?_
    refine aw_iload C dL_law_695 rfl ?_
    refine aw_iconst C 2 dL_law_697 ki_2 ?_
    refine ae_iadd C (nI (i + 2)) dL_law_698 (nI_add i 2) ?_
    refine aw_sld C S0 (xs (i + 2)) (vp_in_nI (by omega) (by omega)) (nI_clamp (by omega)) rfl dL_law_699 ?_
    refine aw_raw_n C dL_law_700 rfl ?_
    refine aw_iload C dL_law_701 rfl ?_
    refine aw_iconst C 3 dL_law_703 ki_3 ?_
    refine ae_iadd C (nI (i + 3)) dL_law_704 (nI_add i 3) ?_
    refine aw_sld C S0 (xs (i + 3)) (vp_in_nI (by omega) (by omega)) (nI_clamp (by omega)) rfl dL_law_705 ?_
    refine aw_if_eq C 713 dL_law_706 (by decide) (fun q2 => absurd q2 z3) (fun _ => ?_)
    refine aw_iconst C 1 dL_law_709 ki_1 ?_
    refine aw_goto C 714 dL_law_710 (by decide) ?_
    rw [(hJ g).1]
    refine aw_callV C (ci := 9) (b := 181) [.int (xs (i + 1)), .int (xs (i + 2)), .int (1)] mv_L_149 rfl rfl (hm_M _ _) (rmX9_octet h2) rfl dL_law_714 (Nat.le_of_ble_eq_true rfl) (Nat.le_of_ble_eq_true rfl) rfl (Nat.le_of_ble_eq_true rfl) (show (cells + 1) + 0 ≤ 601024 by omega) (show (slots + 6) + 0 ≤ 7293034 by omega) (fun v9 f9 n9 hq => ?_)
    obtain ⟨rfl, rfl, rfl⟩ := hq
    refine aw_istore C dL_law_717 (by decide) rfl ?_
    refine aw_goto C 1147 dL_law_719 (by decide) ?_
    refine aw_fl [some (.retAddr b), some (.ref 0), some (.ref 181), some (.ref 223), some (.int (nI i)), none, none, none] ⟨rfl, ⟨rfl, ⟨rfl, ⟨rfl, ⟨rfl, trivial⟩⟩⟩⟩⟩ ?_
    refine aw_wide (k := cells + 108) (j := slots + 2412) (by omega) (by omega) ?_
    exact kk _ _ _ ((hJ g).2 n9 hn)
def OP18 (INV : AH → Nat → RS9 → Prop) : Prop := ∀ (F : AH) (n : Nat) (σ : RS9) (a1 a2 : Int32), INV F n σ → ∃ r r' g0, mX8_origin 0 a1 a2 F n = some r ∧ (∀ E : String, r.1 = .inr E → E = eI) ∧ r.2.1 223 = oCell g0 ∧ mX9_origin a1 a2 σ = some r' ∧ ∀ g : Nat → Int64, va_up r.2.1 223 (oCell g) = rHm (va_up r.2.1 223 (oCell g)) σ ∧ ∀ n', r.2.2 ≤ n' → INV (rHm (va_up r.2.1 223 (oCell g)) r'.2) n' r'.2
set_option maxHeartbeats 1000000 in
theorem lo_18 {X : GX} {p : Program} {l : Launch} {e : Env} {s : State} {m : MethodId} {below : List Frame} {meth : Method} {c : Code} {b L i : Nat} {xs : Nat → Int32} {F : AH} {n cells slots : Nat} {σ : RS9} {INV : AH → Nat → RS9 → Prop} (C : CC X p l room_1 s m #[Value.ref b] meth c RL cL_law 8 ret) (S0 : SC X b L xs s) (hl0 : l.stackTraces = false) (hX : HXp INV) (H : OP18 INV) (hi : i + 6 ≤ L) (hL : L ≤ 3072) (hc : cells + 108 ≤ 601024) (hs : slots + 2412 ≤ 7293034) (hI : INV F n σ) (kk : ∀ F n σ, INV F n σ → AW X p l e room_1 s m #[Value.ref b] below meth c 8 (lw_Z below #[Value.ref b] s) F n (cells + 108) (slots + 2412) 1147 [some (.retAddr b), some (.ref 0), some (.ref 181), some (.ref 223), some (.int (nI i)), none, none, none] []) : AW X p l e room_1 s m #[Value.ref b] below meth c 8 (lw_Z below #[Value.ref b] s) F n cells slots 722 [some (.retAddr b), some (.ref 0), some (.ref 181), some (.ref 223), some (.int (nI i)), none, none, none] [] := by
  obtain ⟨fs, hx⟩ := (hX F n σ hI).1
  refine aw_ald_n C dL_law_722 rfl ?_
  refine aw_raw_n C dL_law_723 rfl ?_
  refine aw_iload C dL_law_724 rfl ?_
  refine aw_iconst C 1 dL_law_726 ki_1 ?_
  refine ae_iadd C (nI (i + 1)) dL_law_727 (nI_add i 1) ?_
  refine aw_sld C S0 (xs (i + 1)) (vp_in_nI (by omega) (by omega)) (nI_clamp (by omega)) rfl dL_law_728 ?_
  refine aw_raw_n C dL_law_729 rfl ?_
  refine aw_iload C dL_law_730 rfl ?_
  refine aw_iconst C 2 dL_law_732 ki_2 ?_
  refine ae_iadd C (nI (i + 2)) dL_law_733 (nI_add i 2) ?_
  refine aw_sld C S0 (xs (i + 2)) (vp_in_nI (by omega) (by omega)) (nI_clamp (by omega)) rfl dL_law_734 ?_
  refine aw_ald_n C dL_law_735 rfl ?_
  obtain ⟨r, r', g0, h1, hE, hu, h2, hJ⟩ := H F n σ (xs (i + 1)) (xs (i + 2)) hI
  refine aw_callSW C [.ref 0, .int (xs (i + 1)), .int (xs (i + 2)), .ref 223] mw_L_150 (wr_L_origin hl0 hx h1 hE (fun _ _ => hu)) rfl dL_law_736 (Nat.le_of_ble_eq_true rfl) (Nat.le_of_ble_eq_true rfl) rfl (Nat.le_of_ble_eq_true rfl) (show cells + 1 ≤ 601024 by omega) (show slots + 6 ≤ 7293034 by omega) (fun v9 f9 n9 hq => ?_)
  obtain ⟨w, g, rfl, rfl, hn⟩ := QW_out hu hq
  refine aw_istore C dL_law_739 (by decide) rfl ?_
  refine aw_ald_n C dL_law_741 rfl ?_
  refine aw_raw_n C dL_law_742 rfl ?_
  refine aw_iload C dL_law_743 rfl ?_
  refine aw_iconst C 1 dL_law_745 ki_1 ?_
  refine ae_iadd C (nI (i + 1)) dL_law_746 (nI_add i 1) ?_
  refine aw_sld C S0 (xs (i + 1)) (vp_in_nI (by omega) (by omega)) (nI_clamp (by omega)) rfl dL_law_747 ?_
  refine aw_raw_n C dL_law_748 rfl ?_
  refine aw_iload C dL_law_749 rfl ?_
  refine aw_iconst C 2 dL_law_751 ki_2 ?_
  refine ae_iadd C (nI (i + 2)) dL_law_752 (nI_add i 2) ?_
  refine aw_sld C S0 (xs (i + 2)) (vp_in_nI (by omega) (by omega)) (nI_clamp (by omega)) rfl dL_law_753 ?_
  rw [(hJ g).1]
  refine aw_callV C (ci := 9) (b := 181) [.int (xs (i + 1)), .int (xs (i + 2))] mv_L_152 rfl rfl (hm_M _ _) (rmX9_origin h2) rfl dL_law_754 (Nat.le_of_ble_eq_true rfl) (Nat.le_of_ble_eq_true rfl) rfl (Nat.le_of_ble_eq_true rfl) (show (cells + 1) + 0 ≤ 601024 by omega) (show (slots + 6) + 0 ≤ 7293034 by omega) (fun v9 f9 n9 hq => ?_)
  obtain ⟨rfl, rfl, rfl⟩ := hq
  refine aw_istore C dL_law_757 (by decide) rfl ?_
  refine aw_goto C 1147 dL_law_759 (by decide) ?_
  refine aw_fl [some (.retAddr b), some (.ref 0), some (.ref 181), some (.ref 223), some (.int (nI i)), none, none, none] ⟨rfl, ⟨rfl, ⟨rfl, ⟨rfl, ⟨rfl, trivial⟩⟩⟩⟩⟩ ?_
  refine aw_wide (k := cells + 108) (j := slots + 2412) (by omega) (by omega) ?_
  exact kk _ _ _ ((hJ g).2 n9 hn)
def OP19 (INV : AH → Nat → RS9 → Prop) : Prop := ∀ (F : AH) (n : Nat) (σ : RS9) (a1 a2 : Int32), INV F n σ → ∃ r r' g0, mX8_key 0 a1 a2 F n = some r ∧ (∀ E : String, r.1 = .inr E → E = eI ∨ E = eN) ∧ r.2.1 223 = oCell g0 ∧ mX9_key a1 a2 σ = some r' ∧ ∀ g : Nat → Int64, va_up r.2.1 223 (oCell g) = rHm (va_up r.2.1 223 (oCell g)) σ ∧ ∀ n', r.2.2 ≤ n' → INV (rHm (va_up r.2.1 223 (oCell g)) r'.2) n' r'.2
set_option maxHeartbeats 1000000 in
theorem lo_19 {X : GX} {p : Program} {l : Launch} {e : Env} {s : State} {m : MethodId} {below : List Frame} {meth : Method} {c : Code} {b L i : Nat} {xs : Nat → Int32} {F : AH} {n cells slots : Nat} {σ : RS9} {INV : AH → Nat → RS9 → Prop} (C : CC X p l room_1 s m #[Value.ref b] meth c RL cL_law 8 ret) (S0 : SC X b L xs s) (hl0 : l.stackTraces = false) (hX : HXp INV) (H : OP19 INV) (hi : i + 6 ≤ L) (hL : L ≤ 3072) (hc : cells + 108 ≤ 601024) (hs : slots + 2412 ≤ 7293034) (hI : INV F n σ) (kk : ∀ F n σ, INV F n σ → AW X p l e room_1 s m #[Value.ref b] below meth c 8 (lw_Z below #[Value.ref b] s) F n (cells + 108) (slots + 2412) 1147 [some (.retAddr b), some (.ref 0), some (.ref 181), some (.ref 223), some (.int (nI i)), none, none, none] []) : AW X p l e room_1 s m #[Value.ref b] below meth c 8 (lw_Z below #[Value.ref b] s) F n cells slots 762 [some (.retAddr b), some (.ref 0), some (.ref 181), some (.ref 223), some (.int (nI i)), none, none, none] [] := by
  obtain ⟨fs, hx⟩ := (hX F n σ hI).1
  refine aw_ald_n C dL_law_762 rfl ?_
  refine aw_raw_n C dL_law_763 rfl ?_
  refine aw_iload C dL_law_764 rfl ?_
  refine aw_iconst C 1 dL_law_766 ki_1 ?_
  refine ae_iadd C (nI (i + 1)) dL_law_767 (nI_add i 1) ?_
  refine aw_sld C S0 (xs (i + 1)) (vp_in_nI (by omega) (by omega)) (nI_clamp (by omega)) rfl dL_law_768 ?_
  refine aw_raw_n C dL_law_769 rfl ?_
  refine aw_iload C dL_law_770 rfl ?_
  refine aw_iconst C 2 dL_law_772 ki_2 ?_
  refine ae_iadd C (nI (i + 2)) dL_law_773 (nI_add i 2) ?_
  refine aw_sld C S0 (xs (i + 2)) (vp_in_nI (by omega) (by omega)) (nI_clamp (by omega)) rfl dL_law_774 ?_
  refine aw_ald_n C dL_law_775 rfl ?_
  obtain ⟨r, r', g0, h1, hE, hu, h2, hJ⟩ := H F n σ (xs (i + 1)) (xs (i + 2)) hI
  refine aw_callSW C [.ref 0, .int (xs (i + 1)), .int (xs (i + 2)), .ref 223] mw_L_153 (wr_L_key hl0 hx h1 hE (fun _ _ => hu)) rfl dL_law_776 (Nat.le_of_ble_eq_true rfl) (Nat.le_of_ble_eq_true rfl) rfl (Nat.le_of_ble_eq_true rfl) (show cells + 2 ≤ 601024 by omega) (show slots + 12 ≤ 7293034 by omega) (fun v9 f9 n9 hq => ?_)
  obtain ⟨w, g, rfl, rfl, hn⟩ := QW_out hu hq
  refine aw_istore C dL_law_779 (by decide) rfl ?_
  refine aw_ald_n C dL_law_781 rfl ?_
  refine aw_raw_n C dL_law_782 rfl ?_
  refine aw_iload C dL_law_783 rfl ?_
  refine aw_iconst C 1 dL_law_785 ki_1 ?_
  refine ae_iadd C (nI (i + 1)) dL_law_786 (nI_add i 1) ?_
  refine aw_sld C S0 (xs (i + 1)) (vp_in_nI (by omega) (by omega)) (nI_clamp (by omega)) rfl dL_law_787 ?_
  refine aw_raw_n C dL_law_788 rfl ?_
  refine aw_iload C dL_law_789 rfl ?_
  refine aw_iconst C 2 dL_law_791 ki_2 ?_
  refine ae_iadd C (nI (i + 2)) dL_law_792 (nI_add i 2) ?_
  refine aw_sld C S0 (xs (i + 2)) (vp_in_nI (by omega) (by omega)) (nI_clamp (by omega)) rfl dL_law_793 ?_
  rw [(hJ g).1]
  refine aw_callV C (ci := 9) (b := 181) [.int (xs (i + 1)), .int (xs (i + 2))] mv_L_155 rfl rfl (hm_M _ _) (rmX9_key h2) rfl dL_law_794 (Nat.le_of_ble_eq_true rfl) (Nat.le_of_ble_eq_true rfl) rfl (Nat.le_of_ble_eq_true rfl) (show (cells + 2) + 0 ≤ 601024 by omega) (show (slots + 12) + 0 ≤ 7293034 by omega) (fun v9 f9 n9 hq => ?_)
  obtain ⟨rfl, rfl, rfl⟩ := hq
  refine aw_istore C dL_law_797 (by decide) rfl ?_
  refine aw_goto C 1147 dL_law_799 (by decide) ?_
  refine aw_fl [some (.retAddr b), some (.ref 0), some (.ref 181), some (.ref 223), some (.int (nI i)), none, none, none] ⟨rfl, ⟨rfl, ⟨rfl, ⟨rfl, ⟨rfl, trivial⟩⟩⟩⟩⟩ ?_
  refine aw_wide (k := cells + 108) (j := slots + 2412) (by omega) (by omega) ?_
  exact kk _ _ _ ((hJ g).2 n9 hn)
def OP20 (INV : AH → Nat → RS9 → Prop) : Prop := ∀ (F : AH) (n : Nat) (σ : RS9) (a1 : Int32), INV F n σ → ∃ r r', mX8_holder 0 a1 F n = some r ∧ mX9_holder a1 σ = some r' ∧ r.2.1 = rHm r.2.1 σ ∧ INV (rHm r.2.1 r'.2) r.2.2 r'.2
set_option maxHeartbeats 1000000 in
theorem lo_20 {X : GX} {p : Program} {l : Launch} {e : Env} {s : State} {m : MethodId} {below : List Frame} {meth : Method} {c : Code} {b L i : Nat} {xs : Nat → Int32} {F : AH} {n cells slots : Nat} {σ : RS9} {INV : AH → Nat → RS9 → Prop} (C : CC X p l room_1 s m #[Value.ref b] meth c RL cL_law 8 ret) (S0 : SC X b L xs s) (hl0 : l.stackTraces = false) (hX : HXp INV) (H : OP20 INV) (hi : i + 6 ≤ L) (hL : L ≤ 3072) (hc : cells + 108 ≤ 601024) (hs : slots + 2412 ≤ 7293034) (hI : INV F n σ) (kk : ∀ F n σ, INV F n σ → AW X p l e room_1 s m #[Value.ref b] below meth c 8 (lw_Z below #[Value.ref b] s) F n (cells + 108) (slots + 2412) 1147 [some (.retAddr b), some (.ref 0), some (.ref 181), some (.ref 223), some (.int (nI i)), none, none, none] []) : AW X p l e room_1 s m #[Value.ref b] below meth c 8 (lw_Z below #[Value.ref b] s) F n cells slots 802 [some (.retAddr b), some (.ref 0), some (.ref 181), some (.ref 223), some (.int (nI i)), none, none, none] [] := by
  obtain ⟨fs, hx⟩ := (hX F n σ hI).1
  refine aw_ald_n C dL_law_802 rfl ?_
  refine aw_raw_n C dL_law_803 rfl ?_
  refine aw_iload C dL_law_804 rfl ?_
  refine aw_iconst C 1 dL_law_806 ki_1 ?_
  refine ae_iadd C (nI (i + 1)) dL_law_807 (nI_add i 1) ?_
  refine aw_sld C S0 (xs (i + 1)) (vp_in_nI (by omega) (by omega)) (nI_clamp (by omega)) rfl dL_law_808 ?_
  obtain ⟨r, r', h1, h2, e1, hJ⟩ := H F n σ (xs (i + 1)) hI
  refine aw_callV C (ci := 8) (b := 0) [.int (xs (i + 1))] mv_L_156 rfl rfl hx (rmX8_holder h1) rfl dL_law_809 (Nat.le_of_ble_eq_true rfl) (Nat.le_of_ble_eq_true rfl) rfl (Nat.le_of_ble_eq_true rfl) (show cells + 0 ≤ 601024 by omega) (show slots + 0 ≤ 7293034 by omega) (fun v9 f9 n9 hq => ?_)
  obtain ⟨rfl, rfl, rfl⟩ := hq
  refine aw_pop C dL_law_812 rfl ?_
  refine aw_ald_n C dL_law_813 rfl ?_
  refine aw_raw_n C dL_law_814 rfl ?_
  refine aw_iload C dL_law_815 rfl ?_
  refine aw_iconst C 1 dL_law_817 ki_1 ?_
  refine ae_iadd C (nI (i + 1)) dL_law_818 (nI_add i 1) ?_
  refine aw_sld C S0 (xs (i + 1)) (vp_in_nI (by omega) (by omega)) (nI_clamp (by omega)) rfl dL_law_819 ?_
  rw [e1]
  refine aw_callV C (ci := 9) (b := 181) [.int (xs (i + 1))] mv_L_159 rfl rfl (hm_M _ _) (rmX9_holder h2) rfl dL_law_820 (Nat.le_of_ble_eq_true rfl) (Nat.le_of_ble_eq_true rfl) rfl (Nat.le_of_ble_eq_true rfl) (show (cells + 0) + 0 ≤ 601024 by omega) (show (slots + 0) + 0 ≤ 7293034 by omega) (fun v9 f9 n9 hq => ?_)
  obtain ⟨rfl, rfl, rfl⟩ := hq
  refine aw_pop C dL_law_823 rfl ?_
  refine aw_goto C 1147 dL_law_824 (by decide) ?_
  refine aw_fl [some (.retAddr b), some (.ref 0), some (.ref 181), some (.ref 223), some (.int (nI i)), none, none, none] ⟨rfl, ⟨rfl, ⟨rfl, ⟨rfl, ⟨rfl, trivial⟩⟩⟩⟩⟩ ?_
  refine aw_wide (k := cells + 108) (j := slots + 2412) (by omega) (by omega) ?_
  exact kk _ _ _ hJ
def OP21 (INV : AH → Nat → RS9 → Prop) : Prop := ∀ (F : AH) (n : Nat) (σ : RS9) (a1 a2 : Int32), (a2 = 0 ∨ a2 = 1) → INV F n σ → ∃ r r', mX8_at 0 a1 a2 F n = some r ∧ mX9_at a1 a2 σ = some r' ∧ r.2.1 = rHm r.2.1 σ ∧ INV (rHm r.2.1 r'.2) r.2.2 r'.2
set_option maxHeartbeats 1000000 in
theorem lo_21 {X : GX} {p : Program} {l : Launch} {e : Env} {s : State} {m : MethodId} {below : List Frame} {meth : Method} {c : Code} {b L i : Nat} {xs : Nat → Int32} {F : AH} {n cells slots : Nat} {σ : RS9} {INV : AH → Nat → RS9 → Prop} (C : CC X p l room_1 s m #[Value.ref b] meth c RL cL_law 8 ret) (S0 : SC X b L xs s) (hl0 : l.stackTraces = false) (hX : HXp INV) (H : OP21 INV) (hi : i + 6 ≤ L) (hL : L ≤ 3072) (hc : cells + 108 ≤ 601024) (hs : slots + 2412 ≤ 7293034) (hI : INV F n σ) (kk : ∀ F n σ, INV F n σ → AW X p l e room_1 s m #[Value.ref b] below meth c 8 (lw_Z below #[Value.ref b] s) F n (cells + 108) (slots + 2412) 1147 [some (.retAddr b), some (.ref 0), some (.ref 181), some (.ref 223), some (.int (nI i)), none, none, none] []) : AW X p l e room_1 s m #[Value.ref b] below meth c 8 (lw_Z below #[Value.ref b] s) F n cells slots 827 [some (.retAddr b), some (.ref 0), some (.ref 181), some (.ref 223), some (.int (nI i)), none, none, none] [] := by
  obtain ⟨fs, hx⟩ := (hX F n σ hI).1
  refine aw_ald_n C dL_law_827 rfl ?_
  refine aw_raw_n C dL_law_828 rfl ?_
  refine aw_iload C dL_law_829 rfl ?_
  refine aw_iconst C 1 dL_law_831 ki_1 ?_
  refine ae_iadd C (nI (i + 1)) dL_law_832 (nI_add i 1) ?_
  refine aw_sld C S0 (xs (i + 1)) (vp_in_nI (by omega) (by omega)) (nI_clamp (by omega)) rfl dL_law_833 ?_
  refine aw_raw_n C dL_law_834 rfl ?_
  refine aw_iload C dL_law_835 rfl ?_
  refine aw_iconst C 2 dL_law_837 ki_2 ?_
  refine ae_iadd C (nI (i + 2)) dL_law_838 (nI_add i 2) ?_
  refine aw_sld C S0 (xs (i + 2)) (vp_in_nI (by omega) (by omega)) (nI_clamp (by omega)) rfl dL_law_839 ?_
  refine aw_if_eq C 847 dL_law_840 (by decide) (fun z2 => ?_) (fun z2 => ?_)
  · refine aw_iconst C 0 dL_law_847 ki_0 ?_
    obtain ⟨r, r', h1, h2, e1, hJ⟩ := H F n σ (xs (i + 1)) (0) (by decide) hI
    refine aw_callV C (ci := 8) (b := 0) [.int (xs (i + 1)), .int (0)] mv_L_160 rfl rfl hx (rmX8_at h1) rfl dL_law_848 (Nat.le_of_ble_eq_true rfl) (Nat.le_of_ble_eq_true rfl) rfl (Nat.le_of_ble_eq_true rfl) (show cells + 0 ≤ 601024 by omega) (show slots + 0 ≤ 7293034 by omega) (fun v9 f9 n9 hq => ?_)
    obtain ⟨rfl, rfl, rfl⟩ := hq
    refine aw_pop C dL_law_851 rfl ?_
    refine aw_ald_n C dL_law_852 rfl ?_
    refine aw_raw_n C dL_law_853 rfl ?_
    refine aw_iload C dL_law_854 rfl ?_
    refine aw_iconst C 1 dL_law_856 ki_1 ?_
    refine ae_iadd C (nI (i + 1)) dL_law_857 (nI_add i 1) ?_
    refine aw_sld C S0 (xs (i + 1)) (vp_in_nI (by omega) (by omega)) (nI_clamp (by omega)) rfl dL_law_858 ?_
    refine aw_raw_n C dL_law_859 rfl ?_
    refine aw_iload C dL_law_860 rfl ?_
    refine aw_iconst C 2 dL_law_862 ki_2 ?_
    refine ae_iadd C (nI (i + 2)) dL_law_863 (nI_add i 2) ?_
    refine aw_sld C S0 (xs (i + 2)) (vp_in_nI (by omega) (by omega)) (nI_clamp (by omega)) rfl dL_law_864 ?_
    refine aw_if_eq C 872 dL_law_865 (by decide) (fun _ => ?_) (fun q2 => absurd z2 q2)
    refine aw_iconst C 0 dL_law_872 ki_0 ?_
    rw [e1]
    refine aw_callV C (ci := 9) (b := 181) [.int (xs (i + 1)), .int (0)] mv_L_163 rfl rfl (hm_M _ _) (rmX9_at h2) rfl dL_law_873 (Nat.le_of_ble_eq_true rfl) (Nat.le_of_ble_eq_true rfl) rfl (Nat.le_of_ble_eq_true rfl) (show (cells + 0) + 0 ≤ 601024 by omega) (show (slots + 0) + 0 ≤ 7293034 by omega) (fun v9 f9 n9 hq => ?_)
    obtain ⟨rfl, rfl, rfl⟩ := hq
    refine aw_pop C dL_law_876 rfl ?_
    refine aw_goto C 1147 dL_law_877 (by decide) ?_
    refine aw_fl [some (.retAddr b), some (.ref 0), some (.ref 181), some (.ref 223), some (.int (nI i)), none, none, none] ⟨rfl, ⟨rfl, ⟨rfl, ⟨rfl, ⟨rfl, trivial⟩⟩⟩⟩⟩ ?_
    refine aw_wide (k := cells + 108) (j := slots + 2412) (by omega) (by omega) ?_
    exact kk _ _ _ hJ
  · refine aw_iconst C 1 dL_law_843 ki_1 ?_
    refine aw_goto C 848 dL_law_844 (by decide) ?_
    obtain ⟨r, r', h1, h2, e1, hJ⟩ := H F n σ (xs (i + 1)) (1) (by decide) hI
    refine aw_callV C (ci := 8) (b := 0) [.int (xs (i + 1)), .int (1)] mv_L_160 rfl rfl hx (rmX8_at h1) rfl dL_law_848 (Nat.le_of_ble_eq_true rfl) (Nat.le_of_ble_eq_true rfl) rfl (Nat.le_of_ble_eq_true rfl) (show cells + 0 ≤ 601024 by omega) (show slots + 0 ≤ 7293034 by omega) (fun v9 f9 n9 hq => ?_)
    obtain ⟨rfl, rfl, rfl⟩ := hq
    refine aw_pop C dL_law_851 rfl ?_
    refine aw_ald_n C dL_law_852 rfl ?_
    refine aw_raw_n C dL_law_853 rfl ?_
    refine aw_iload C dL_law_854 rfl ?_
    refine aw_iconst C 1 dL_law_856 ki_1 ?_
    refine ae_iadd C (nI (i + 1)) dL_law_857 (nI_add i 1) ?_
    refine aw_sld C S0 (xs (i + 1)) (vp_in_nI (by omega) (by omega)) (nI_clamp (by omega)) rfl dL_law_858 ?_
    refine aw_raw_n C dL_law_859 rfl ?_
    refine aw_iload C dL_law_860 rfl ?_
    refine aw_iconst C 2 dL_law_862 ki_2 ?_
    refine ae_iadd C (nI (i + 2)) dL_law_863 (nI_add i 2) ?_
    refine aw_sld C S0 (xs (i + 2)) (vp_in_nI (by omega) (by omega)) (nI_clamp (by omega)) rfl dL_law_864 ?_
    refine aw_if_eq C 872 dL_law_865 (by decide) (fun q2 => absurd q2 z2) (fun _ => ?_)
    refine aw_iconst C 1 dL_law_868 ki_1 ?_
    refine aw_goto C 873 dL_law_869 (by decide) ?_
    rw [e1]
    refine aw_callV C (ci := 9) (b := 181) [.int (xs (i + 1)), .int (1)] mv_L_163 rfl rfl (hm_M _ _) (rmX9_at h2) rfl dL_law_873 (Nat.le_of_ble_eq_true rfl) (Nat.le_of_ble_eq_true rfl) rfl (Nat.le_of_ble_eq_true rfl) (show (cells + 0) + 0 ≤ 601024 by omega) (show (slots + 0) + 0 ≤ 7293034 by omega) (fun v9 f9 n9 hq => ?_)
    obtain ⟨rfl, rfl, rfl⟩ := hq
    refine aw_pop C dL_law_876 rfl ?_
    refine aw_goto C 1147 dL_law_877 (by decide) ?_
    refine aw_fl [some (.retAddr b), some (.ref 0), some (.ref 181), some (.ref 223), some (.int (nI i)), none, none, none] ⟨rfl, ⟨rfl, ⟨rfl, ⟨rfl, ⟨rfl, trivial⟩⟩⟩⟩⟩ ?_
    refine aw_wide (k := cells + 108) (j := slots + 2412) (by omega) (by omega) ?_
    exact kk _ _ _ hJ
def OP22 (INV : AH → Nat → RS9 → Prop) : Prop := ∀ (F : AH) (n : Nat) (σ : RS9) (a1 a2 : Int32), INV F n σ → ∃ r r' g0, mX8_like 0 a1 a2 F n = some r ∧ (∀ E : String, r.1 = .inr E → E = eI) ∧ r.2.1 223 = oCell g0 ∧ mX9_like a1 a2 σ = some r' ∧ CMPT Int32.toInt64 wc_L_like r.1 (Int32.toInt64 r'.1) (r'.2.1 0) ∧ ∀ g : Nat → Int64, va_up r.2.1 223 (oCell g) = rHm (va_up r.2.1 223 (oCell g)) σ ∧ ∀ n', r.2.2 ≤ n' → INV (rHm (va_up r.2.1 223 (oCell g)) r'.2) n' r'.2
set_option maxHeartbeats 1000000 in
theorem lo_22 {X : GX} {p : Program} {l : Launch} {e : Env} {s : State} {m : MethodId} {below : List Frame} {meth : Method} {c : Code} {b L i : Nat} {xs : Nat → Int32} {F : AH} {n cells slots : Nat} {σ : RS9} {INV : AH → Nat → RS9 → Prop} (C : CC X p l room_1 s m #[Value.ref b] meth c RL cL_law 8 ret) (S0 : SC X b L xs s) (hl0 : l.stackTraces = false) (hX : HXp INV) (H : OP22 INV) (hi : i + 6 ≤ L) (hL : L ≤ 3072) (hc : cells + 108 ≤ 601024) (hs : slots + 2412 ≤ 7293034) (hI : INV F n σ) (kk : ∀ F n σ, INV F n σ → AW X p l e room_1 s m #[Value.ref b] below meth c 8 (lw_Z below #[Value.ref b] s) F n (cells + 108) (slots + 2412) 1147 [some (.retAddr b), some (.ref 0), some (.ref 181), some (.ref 223), some (.int (nI i)), none, none, none] []) : AW X p l e room_1 s m #[Value.ref b] below meth c 8 (lw_Z below #[Value.ref b] s) F n cells slots 880 [some (.retAddr b), some (.ref 0), some (.ref 181), some (.ref 223), some (.int (nI i)), none, none, none] [] := by
  obtain ⟨fs, hx⟩ := (hX F n σ hI).1
  refine aw_ald_n C dL_law_880 rfl ?_
  refine aw_raw_n C dL_law_881 rfl ?_
  refine aw_iload C dL_law_882 rfl ?_
  refine aw_iconst C 1 dL_law_884 ki_1 ?_
  refine ae_iadd C (nI (i + 1)) dL_law_885 (nI_add i 1) ?_
  refine aw_sld C S0 (xs (i + 1)) (vp_in_nI (by omega) (by omega)) (nI_clamp (by omega)) rfl dL_law_886 ?_
  refine aw_raw_n C dL_law_887 rfl ?_
  refine aw_iload C dL_law_888 rfl ?_
  refine aw_iconst C 2 dL_law_890 ki_2 ?_
  refine ae_iadd C (nI (i + 2)) dL_law_891 (nI_add i 2) ?_
  refine aw_sld C S0 (xs (i + 2)) (vp_in_nI (by omega) (by omega)) (nI_clamp (by omega)) rfl dL_law_892 ?_
  refine aw_ald_n C dL_law_893 rfl ?_
  obtain ⟨r, r', g0, h1, hE, hu, h2, hC, hJ⟩ := H F n σ (xs (i + 1)) (xs (i + 2)) hI
  refine aw_callSW C [.ref 0, .int (xs (i + 1)), .int (xs (i + 2)), .ref 223] mw_L_164 (wr_L_like hl0 hx h1 hE (fun _ _ => hu)) rfl dL_law_894 (Nat.le_of_ble_eq_true rfl) (Nat.le_of_ble_eq_true rfl) rfl (Nat.le_of_ble_eq_true rfl) (show cells + 1 ≤ 601024 by omega) (show slots + 6 ≤ 7293034 by omega) (fun v9 f9 n9 hq => ?_)
  obtain ⟨w, g, rfl, rfl, hn, ce, hg⟩ := QW_cmp hu hq hC
  refine aw_istore C dL_law_897 (by decide) rfl ?_
  refine aw_ald_n C dL_law_899 rfl ?_
  refine aw_raw_n C dL_law_900 rfl ?_
  refine aw_iload C dL_law_901 rfl ?_
  refine aw_iconst C 1 dL_law_903 ki_1 ?_
  refine ae_iadd C (nI (i + 1)) dL_law_904 (nI_add i 1) ?_
  refine aw_sld C S0 (xs (i + 1)) (vp_in_nI (by omega) (by omega)) (nI_clamp (by omega)) rfl dL_law_905 ?_
  refine aw_raw_n C dL_law_906 rfl ?_
  refine aw_iload C dL_law_907 rfl ?_
  refine aw_iconst C 2 dL_law_909 ki_2 ?_
  refine ae_iadd C (nI (i + 2)) dL_law_910 (nI_add i 2) ?_
  refine aw_sld C S0 (xs (i + 2)) (vp_in_nI (by omega) (by omega)) (nI_clamp (by omega)) rfl dL_law_911 ?_
  rw [(hJ g).1]
  refine aw_callV C (ci := 9) (b := 181) [.int (xs (i + 1)), .int (xs (i + 2))] mv_L_166 rfl rfl (hm_M _ _) (rmX9_like h2) rfl dL_law_912 (Nat.le_of_ble_eq_true rfl) (Nat.le_of_ble_eq_true rfl) rfl (Nat.le_of_ble_eq_true rfl) (show (cells + 1) + 0 ≤ 601024 by omega) (show (slots + 6) + 0 ≤ 7293034 by omega) (fun v9 f9 n9 hq => ?_)
  obtain ⟨rfl, rfl, rfl⟩ := hq
  refine aw_istore C dL_law_915 (by decide) rfl ?_
  refine aw_ald_n C dL_law_917 rfl ?_
  refine aw_callV C (ci := 9) (b := 181) [] mv_L_167 rfl rfl (hm_M _ _) (rmX9_thrown (show mX9_thrown r'.2 = some (r'.2.1 0, r'.2) from rfl)) rfl dL_law_918 (Nat.le_of_ble_eq_true rfl) (Nat.le_of_ble_eq_true rfl) rfl (Nat.le_of_ble_eq_true rfl) (show ((cells + 1) + 0) + 0 ≤ 601024 by omega) (show ((slots + 6) + 0) + 0 ≤ 7293034 by omega) (fun v9 f9 n9 hq => ?_)
  obtain ⟨rfl, rfl, rfl⟩ := hq
  refine aw_iload C dL_law_921 rfl ?_
  refine aw_icmp_eq C 928 dL_law_923 (by decide) (fun _ => ?_) (fun q2 => absurd ce q2)
  refine aw_iload C dL_law_928 rfl ?_
  refine aw_if_ne C 945 dL_law_930 (by decide) (fun _ => ?_) (fun zw => ?_)
  · refine aw_goto C 1147 dL_law_945 (by decide) ?_
    refine aw_fl [some (.retAddr b), some (.ref 0), some (.ref 181), some (.ref 223), some (.int (nI i)), none, none, none] ⟨rfl, ⟨rfl, ⟨rfl, ⟨rfl, ⟨rfl, trivial⟩⟩⟩⟩⟩ ?_
    refine aw_wide (k := cells + 108) (j := slots + 2412) (by omega) (by omega) ?_
    exact kk _ _ _ ((hJ g).2 n9 hn)
  · refine aw_ald_n C dL_law_933 rfl ?_
    refine aw_iconst C 0 dL_law_934 ki_0 ?_
    refine aw_lald C (g := g) rfl v1_in dL_law_935 ?_
    refine aw_iload C dL_law_936 rfl ?_
    refine aw_i2l C dL_law_938 ?_
    refine aw_lcmp C dL_law_939 ?_
    refine aw_if_eq C 945 dL_law_940 (by decide) (fun _ => ?_) (fun q2 => absurd (by rw [show g (Int32.toNatClampNeg 0) = _ from hg zw]; exact lg_same) q2)
    refine aw_goto C 1147 dL_law_945 (by decide) ?_
    refine aw_fl [some (.retAddr b), some (.ref 0), some (.ref 181), some (.ref 223), some (.int (nI i)), none, none, none] ⟨rfl, ⟨rfl, ⟨rfl, ⟨rfl, ⟨rfl, trivial⟩⟩⟩⟩⟩ ?_
    refine aw_wide (k := cells + 108) (j := slots + 2412) (by omega) (by omega) ?_
    exact kk _ _ _ ((hJ g).2 n9 hn)
def OP23 (INV : AH → Nat → RS9 → Prop) : Prop := ∀ (F : AH) (n : Nat) (σ : RS9) (a1 : Int32), INV F n σ → ∃ r r' g0, mX8_would 0 a1 F n = some r ∧ (∀ E : String, r.1 = .inr E → E = eI ∨ E = eA) ∧ r.2.1 223 = oCell g0 ∧ mX9_would a1 σ = some r' ∧ ∀ g : Nat → Int64, va_up r.2.1 223 (oCell g) = rHm (va_up r.2.1 223 (oCell g)) σ ∧ ∀ n', r.2.2 ≤ n' → INV (rHm (va_up r.2.1 223 (oCell g)) r'.2) n' r'.2
set_option maxHeartbeats 1000000 in
theorem lo_23 {X : GX} {p : Program} {l : Launch} {e : Env} {s : State} {m : MethodId} {below : List Frame} {meth : Method} {c : Code} {b L i : Nat} {xs : Nat → Int32} {F : AH} {n cells slots : Nat} {σ : RS9} {INV : AH → Nat → RS9 → Prop} (C : CC X p l room_1 s m #[Value.ref b] meth c RL cL_law 8 ret) (S0 : SC X b L xs s) (hl0 : l.stackTraces = false) (hX : HXp INV) (H : OP23 INV) (hi : i + 6 ≤ L) (hL : L ≤ 3072) (hc : cells + 108 ≤ 601024) (hs : slots + 2412 ≤ 7293034) (hI : INV F n σ) (kk : ∀ F n σ, INV F n σ → AW X p l e room_1 s m #[Value.ref b] below meth c 8 (lw_Z below #[Value.ref b] s) F n (cells + 108) (slots + 2412) 1147 [some (.retAddr b), some (.ref 0), some (.ref 181), some (.ref 223), some (.int (nI i)), none, none, none] []) : AW X p l e room_1 s m #[Value.ref b] below meth c 8 (lw_Z below #[Value.ref b] s) F n cells slots 948 [some (.retAddr b), some (.ref 0), some (.ref 181), some (.ref 223), some (.int (nI i)), none, none, none] [] := by
  obtain ⟨fs, hx⟩ := (hX F n σ hI).1
  refine aw_ald_n C dL_law_948 rfl ?_
  refine aw_raw_n C dL_law_949 rfl ?_
  refine aw_iload C dL_law_950 rfl ?_
  refine aw_iconst C 1 dL_law_952 ki_1 ?_
  refine ae_iadd C (nI (i + 1)) dL_law_953 (nI_add i 1) ?_
  refine aw_sld C S0 (xs (i + 1)) (vp_in_nI (by omega) (by omega)) (nI_clamp (by omega)) rfl dL_law_954 ?_
  refine aw_ald_n C dL_law_955 rfl ?_
  obtain ⟨r, r', g0, h1, hE, hu, h2, hJ⟩ := H F n σ (xs (i + 1)) hI
  refine aw_callSW C [.ref 0, .int (xs (i + 1)), .ref 223] mw_L_170 (wr_L_would hl0 hx h1 hE (fun _ _ => hu)) rfl dL_law_956 (Nat.le_of_ble_eq_true rfl) (Nat.le_of_ble_eq_true rfl) rfl (Nat.le_of_ble_eq_true rfl) (show cells + 4 ≤ 601024 by omega) (show slots + 74 ≤ 7293034 by omega) (fun v9 f9 n9 hq => ?_)
  obtain ⟨w, g, rfl, rfl, hn⟩ := QW_out hu hq
  refine aw_istore C dL_law_959 (by decide) rfl ?_
  refine aw_ald_n C dL_law_961 rfl ?_
  refine aw_raw_n C dL_law_962 rfl ?_
  refine aw_iload C dL_law_963 rfl ?_
  refine aw_iconst C 1 dL_law_965 ki_1 ?_
  refine ae_iadd C (nI (i + 1)) dL_law_966 (nI_add i 1) ?_
  refine aw_sld C S0 (xs (i + 1)) (vp_in_nI (by omega) (by omega)) (nI_clamp (by omega)) rfl dL_law_967 ?_
  rw [(hJ g).1]
  refine aw_callV C (ci := 9) (b := 181) [.int (xs (i + 1))] mv_L_172 rfl rfl (hm_M _ _) (rmX9_would h2) rfl dL_law_968 (Nat.le_of_ble_eq_true rfl) (Nat.le_of_ble_eq_true rfl) rfl (Nat.le_of_ble_eq_true rfl) (show (cells + 4) + 0 ≤ 601024 by omega) (show (slots + 74) + 0 ≤ 7293034 by omega) (fun v9 f9 n9 hq => ?_)
  obtain ⟨rfl, rfl, rfl⟩ := hq
  refine aw_istore C dL_law_971 (by decide) rfl ?_
  refine aw_goto C 1147 dL_law_973 (by decide) ?_
  refine aw_fl [some (.retAddr b), some (.ref 0), some (.ref 181), some (.ref 223), some (.int (nI i)), none, none, none] ⟨rfl, ⟨rfl, ⟨rfl, ⟨rfl, ⟨rfl, trivial⟩⟩⟩⟩⟩ ?_
  refine aw_wide (k := cells + 108) (j := slots + 2412) (by omega) (by omega) ?_
  exact kk _ _ _ ((hJ g).2 n9 hn)
def OP24 (INV : AH → Nat → RS9 → Prop) : Prop := ∀ (F : AH) (n : Nat) (σ : RS9), INV F n σ → ∃ r r' g0, mX8_found 0 F n = some r ∧ (∀ E : String, r.1 = .inr E → E = eA) ∧ r.2.1 223 = oCell g0 ∧ mX9_found σ = some r' ∧ ∀ g : Nat → Int64, va_up r.2.1 223 (oCell g) = rHm (va_up r.2.1 223 (oCell g)) σ ∧ ∀ n', r.2.2 ≤ n' → INV (rHm (va_up r.2.1 223 (oCell g)) r'.2) n' r'.2
set_option maxHeartbeats 1000000 in
theorem lo_24 {X : GX} {p : Program} {l : Launch} {e : Env} {s : State} {m : MethodId} {below : List Frame} {meth : Method} {c : Code} {b L i : Nat} {xs : Nat → Int32} {F : AH} {n cells slots : Nat} {σ : RS9} {INV : AH → Nat → RS9 → Prop} (C : CC X p l room_1 s m #[Value.ref b] meth c RL cL_law 8 ret) (S0 : SC X b L xs s) (hl0 : l.stackTraces = false) (hX : HXp INV) (H : OP24 INV) (hi : i + 6 ≤ L) (hL : L ≤ 3072) (hc : cells + 108 ≤ 601024) (hs : slots + 2412 ≤ 7293034) (hI : INV F n σ) (kk : ∀ F n σ, INV F n σ → AW X p l e room_1 s m #[Value.ref b] below meth c 8 (lw_Z below #[Value.ref b] s) F n (cells + 108) (slots + 2412) 1147 [some (.retAddr b), some (.ref 0), some (.ref 181), some (.ref 223), some (.int (nI i)), none, none, none] []) : AW X p l e room_1 s m #[Value.ref b] below meth c 8 (lw_Z below #[Value.ref b] s) F n cells slots 976 [some (.retAddr b), some (.ref 0), some (.ref 181), some (.ref 223), some (.int (nI i)), none, none, none] [] := by
  obtain ⟨fs, hx⟩ := (hX F n σ hI).1
  refine aw_ald_n C dL_law_976 rfl ?_
  refine aw_ald_n C dL_law_977 rfl ?_
  obtain ⟨r, r', g0, h1, hE, hu, h2, hJ⟩ := H F n σ hI
  refine aw_callSW C [.ref 0, .ref 223] mw_L_173 (wr_L_found hl0 hx h1 hE (fun _ _ => hu)) rfl dL_law_978 (Nat.le_of_ble_eq_true rfl) (Nat.le_of_ble_eq_true rfl) rfl (Nat.le_of_ble_eq_true rfl) (show cells + 3 ≤ 601024 by omega) (show slots + 16 ≤ 7293034 by omega) (fun v9 f9 n9 hq => ?_)
  obtain ⟨w, g, rfl, rfl, hn⟩ := QW_out hu hq
  refine aw_istore C dL_law_981 (by decide) rfl ?_
  refine aw_ald_n C dL_law_983 rfl ?_
  rw [(hJ g).1]
  refine aw_callV C (ci := 9) (b := 181) [] mv_L_175 rfl rfl (hm_M _ _) (rmX9_found h2) rfl dL_law_984 (Nat.le_of_ble_eq_true rfl) (Nat.le_of_ble_eq_true rfl) rfl (Nat.le_of_ble_eq_true rfl) (show (cells + 3) + 0 ≤ 601024 by omega) (show (slots + 16) + 0 ≤ 7293034 by omega) (fun v9 f9 n9 hq => ?_)
  obtain ⟨rfl, rfl, rfl⟩ := hq
  refine aw_lstore C dL_law_987 (by decide) rfl ?_
  refine aw_goto C 1147 dL_law_989 (by decide) ?_
  refine aw_fl [some (.retAddr b), some (.ref 0), some (.ref 181), some (.ref 223), some (.int (nI i)), none, none, none] ⟨rfl, ⟨rfl, ⟨rfl, ⟨rfl, ⟨rfl, trivial⟩⟩⟩⟩⟩ ?_
  refine aw_wide (k := cells + 108) (j := slots + 2412) (by omega) (by omega) ?_
  exact kk _ _ _ ((hJ g).2 n9 hn)
def OP25 (INV : AH → Nat → RS9 → Prop) : Prop := ∀ (F : AH) (n : Nat) (σ : RS9) (a1 a2 a3 : Int32), (a2 = 0 ∨ a2 = 1) → INV F n σ → ∃ r r', mX8_memory 0 a1 a2 a3 F n = some r ∧ mX9_memory a1 a2 a3 σ = some r' ∧ r.2.1 = rHm r.2.1 σ ∧ INV (rHm r.2.1 r'.2) r.2.2 r'.2
set_option maxHeartbeats 1000000 in
theorem lo_25 {X : GX} {p : Program} {l : Launch} {e : Env} {s : State} {m : MethodId} {below : List Frame} {meth : Method} {c : Code} {b L i : Nat} {xs : Nat → Int32} {F : AH} {n cells slots : Nat} {σ : RS9} {INV : AH → Nat → RS9 → Prop} (C : CC X p l room_1 s m #[Value.ref b] meth c RL cL_law 8 ret) (S0 : SC X b L xs s) (hl0 : l.stackTraces = false) (hX : HXp INV) (H : OP25 INV) (hi : i + 6 ≤ L) (hL : L ≤ 3072) (hc : cells + 108 ≤ 601024) (hs : slots + 2412 ≤ 7293034) (hI : INV F n σ) (kk : ∀ F n σ, INV F n σ → AW X p l e room_1 s m #[Value.ref b] below meth c 8 (lw_Z below #[Value.ref b] s) F n (cells + 108) (slots + 2412) 1147 [some (.retAddr b), some (.ref 0), some (.ref 181), some (.ref 223), some (.int (nI i)), none, none, none] []) : AW X p l e room_1 s m #[Value.ref b] below meth c 8 (lw_Z below #[Value.ref b] s) F n cells slots 992 [some (.retAddr b), some (.ref 0), some (.ref 181), some (.ref 223), some (.int (nI i)), none, none, none] [] := by
  obtain ⟨fs, hx⟩ := (hX F n σ hI).1
  refine aw_ald_n C dL_law_992 rfl ?_
  refine aw_raw_n C dL_law_993 rfl ?_
  refine aw_iload C dL_law_994 rfl ?_
  refine aw_iconst C 1 dL_law_996 ki_1 ?_
  refine ae_iadd C (nI (i + 1)) dL_law_997 (nI_add i 1) ?_
  refine aw_sld C S0 (xs (i + 1)) (vp_in_nI (by omega) (by omega)) (nI_clamp (by omega)) rfl dL_law_998 ?_
  refine aw_raw_n C dL_law_999 rfl ?_
  refine aw_iload C dL_law_1000 rfl ?_
  refine aw_iconst C 2 dL_law_1002 ki_2 ?_
  refine ae_iadd C (nI (i + 2)) dL_law_1003 (nI_add i 2) ?_
  refine aw_sld C S0 (xs (i + 2)) (vp_in_nI (by omega) (by omega)) (nI_clamp (by omega)) rfl dL_law_1004 ?_
  refine aw_if_eq C 1012 dL_law_1005 (by decide) (fun z2 => ?_) (fun z2 => ?_)
  · refine aw_iconst C 0 dL_law_1012 ki_0 ?_
    refine aw_raw_n C dL_law_1013 rfl ?_
    refine aw_iload C dL_law_1014 rfl ?_
    refine aw_iconst C 3 dL_law_1016 ki_3 ?_
    refine ae_iadd C (nI (i + 3)) dL_law_1017 (nI_add i 3) ?_
    refine aw_sld C S0 (xs (i + 3)) (vp_in_nI (by omega) (by omega)) (nI_clamp (by omega)) rfl dL_law_1018 ?_
    obtain ⟨r, r', h1, h2, e1, hJ⟩ := H F n σ (xs (i + 1)) (0) (xs (i + 3)) (by decide) hI
    refine aw_callV C (ci := 8) (b := 0) [.int (xs (i + 1)), .int (0), .int (xs (i + 3))] mv_L_176 rfl rfl hx (rmX8_memory h1) rfl dL_law_1019 (Nat.le_of_ble_eq_true rfl) (Nat.le_of_ble_eq_true rfl) rfl (Nat.le_of_ble_eq_true rfl) (show cells + 0 ≤ 601024 by omega) (show slots + 0 ≤ 7293034 by omega) (fun v9 f9 n9 hq => ?_)
    obtain ⟨rfl, rfl, rfl⟩ := hq
    refine aw_pop C dL_law_1022 rfl ?_
    refine aw_ald_n C dL_law_1023 rfl ?_
    refine aw_raw_n C dL_law_1024 rfl ?_
    refine aw_iload C dL_law_1025 rfl ?_
    refine aw_iconst C 1 dL_law_1027 ki_1 ?_
    refine ae_iadd C (nI (i + 1)) dL_law_1028 (nI_add i 1) ?_
    refine aw_sld C S0 (xs (i + 1)) (vp_in_nI (by omega) (by omega)) (nI_clamp (by omega)) rfl dL_law_1029 ?_
    refine aw_raw_n C dL_law_1030 rfl ?_
    refine aw_iload C dL_law_1031 rfl ?_
    refine aw_iconst C 2 dL_law_1033 ki_2 ?_
    refine ae_iadd C (nI (i + 2)) dL_law_1034 (nI_add i 2) ?_
    refine aw_sld C S0 (xs (i + 2)) (vp_in_nI (by omega) (by omega)) (nI_clamp (by omega)) rfl dL_law_1035 ?_
    refine aw_if_eq C 1043 dL_law_1036 (by decide) (fun _ => ?_) (fun q2 => absurd z2 q2)
    refine aw_iconst C 0 dL_law_1043 ki_0 ?_
    refine aw_raw_n C dL_law_1044 rfl ?_
    refine aw_iload C dL_law_1045 rfl ?_
    refine aw_iconst C 3 dL_law_1047 ki_3 ?_
    refine ae_iadd C (nI (i + 3)) dL_law_1048 (nI_add i 3) ?_
    refine aw_sld C S0 (xs (i + 3)) (vp_in_nI (by omega) (by omega)) (nI_clamp (by omega)) rfl dL_law_1049 ?_
    rw [e1]
    refine aw_callV C (ci := 9) (b := 181) [.int (xs (i + 1)), .int (0), .int (xs (i + 3))] mv_L_180 rfl rfl (hm_M _ _) (rmX9_memory h2) rfl dL_law_1050 (Nat.le_of_ble_eq_true rfl) (Nat.le_of_ble_eq_true rfl) rfl (Nat.le_of_ble_eq_true rfl) (show (cells + 0) + 0 ≤ 601024 by omega) (show (slots + 0) + 0 ≤ 7293034 by omega) (fun v9 f9 n9 hq => ?_)
    obtain ⟨rfl, rfl, rfl⟩ := hq
    refine aw_pop C dL_law_1053 rfl ?_
    refine aw_goto C 1147 dL_law_1054 (by decide) ?_
    refine aw_fl [some (.retAddr b), some (.ref 0), some (.ref 181), some (.ref 223), some (.int (nI i)), none, none, none] ⟨rfl, ⟨rfl, ⟨rfl, ⟨rfl, ⟨rfl, trivial⟩⟩⟩⟩⟩ ?_
    refine aw_wide (k := cells + 108) (j := slots + 2412) (by omega) (by omega) ?_
    exact kk _ _ _ hJ
  · refine aw_iconst C 1 dL_law_1008 ki_1 ?_
    refine aw_goto C 1013 dL_law_1009 (by decide) ?_
    refine aw_raw_n C dL_law_1013 rfl ?_
    refine aw_iload C dL_law_1014 rfl ?_
    refine aw_iconst C 3 dL_law_1016 ki_3 ?_
    refine ae_iadd C (nI (i + 3)) dL_law_1017 (nI_add i 3) ?_
    refine aw_sld C S0 (xs (i + 3)) (vp_in_nI (by omega) (by omega)) (nI_clamp (by omega)) rfl dL_law_1018 ?_
    obtain ⟨r, r', h1, h2, e1, hJ⟩ := H F n σ (xs (i + 1)) (1) (xs (i + 3)) (by decide) hI
    refine aw_callV C (ci := 8) (b := 0) [.int (xs (i + 1)), .int (1), .int (xs (i + 3))] mv_L_176 rfl rfl hx (rmX8_memory h1) rfl dL_law_1019 (Nat.le_of_ble_eq_true rfl) (Nat.le_of_ble_eq_true rfl) rfl (Nat.le_of_ble_eq_true rfl) (show cells + 0 ≤ 601024 by omega) (show slots + 0 ≤ 7293034 by omega) (fun v9 f9 n9 hq => ?_)
    obtain ⟨rfl, rfl, rfl⟩ := hq
    refine aw_pop C dL_law_1022 rfl ?_
    refine aw_ald_n C dL_law_1023 rfl ?_
    refine aw_raw_n C dL_law_1024 rfl ?_
    refine aw_iload C dL_law_1025 rfl ?_
    refine aw_iconst C 1 dL_law_1027 ki_1 ?_
    refine ae_iadd C (nI (i + 1)) dL_law_1028 (nI_add i 1) ?_
    refine aw_sld C S0 (xs (i + 1)) (vp_in_nI (by omega) (by omega)) (nI_clamp (by omega)) rfl dL_law_1029 ?_
    refine aw_raw_n C dL_law_1030 rfl ?_
    refine aw_iload C dL_law_1031 rfl ?_
    refine aw_iconst C 2 dL_law_1033 ki_2 ?_
    refine ae_iadd C (nI (i + 2)) dL_law_1034 (nI_add i 2) ?_
    refine aw_sld C S0 (xs (i + 2)) (vp_in_nI (by omega) (by omega)) (nI_clamp (by omega)) rfl dL_law_1035 ?_
    refine aw_if_eq C 1043 dL_law_1036 (by decide) (fun q2 => absurd q2 z2) (fun _ => ?_)
    refine aw_iconst C 1 dL_law_1039 ki_1 ?_
    refine aw_goto C 1044 dL_law_1040 (by decide) ?_
    refine aw_raw_n C dL_law_1044 rfl ?_
    refine aw_iload C dL_law_1045 rfl ?_
    refine aw_iconst C 3 dL_law_1047 ki_3 ?_
    refine ae_iadd C (nI (i + 3)) dL_law_1048 (nI_add i 3) ?_
    refine aw_sld C S0 (xs (i + 3)) (vp_in_nI (by omega) (by omega)) (nI_clamp (by omega)) rfl dL_law_1049 ?_
    rw [e1]
    refine aw_callV C (ci := 9) (b := 181) [.int (xs (i + 1)), .int (1), .int (xs (i + 3))] mv_L_180 rfl rfl (hm_M _ _) (rmX9_memory h2) rfl dL_law_1050 (Nat.le_of_ble_eq_true rfl) (Nat.le_of_ble_eq_true rfl) rfl (Nat.le_of_ble_eq_true rfl) (show (cells + 0) + 0 ≤ 601024 by omega) (show (slots + 0) + 0 ≤ 7293034 by omega) (fun v9 f9 n9 hq => ?_)
    obtain ⟨rfl, rfl, rfl⟩ := hq
    refine aw_pop C dL_law_1053 rfl ?_
    refine aw_goto C 1147 dL_law_1054 (by decide) ?_
    refine aw_fl [some (.retAddr b), some (.ref 0), some (.ref 181), some (.ref 223), some (.int (nI i)), none, none, none] ⟨rfl, ⟨rfl, ⟨rfl, ⟨rfl, ⟨rfl, trivial⟩⟩⟩⟩⟩ ?_
    refine aw_wide (k := cells + 108) (j := slots + 2412) (by omega) (by omega) ?_
    exact kk _ _ _ hJ
def OP26 (INV : AH → Nat → RS9 → Prop) : Prop := ∀ (F : AH) (n : Nat) (σ : RS9) (a1 : Int32), INV F n σ → ∃ r r' g0, mX8_kept 0 a1 F n = some r ∧ (∀ E : String, r.1 = .inr E → E = eI) ∧ r.2.1 223 = oCell g0 ∧ mX9_kept a1 σ = some r' ∧ ∀ g : Nat → Int64, va_up r.2.1 223 (oCell g) = rHm (va_up r.2.1 223 (oCell g)) σ ∧ ∀ n', r.2.2 ≤ n' → INV (rHm (va_up r.2.1 223 (oCell g)) r'.2) n' r'.2
set_option maxHeartbeats 1000000 in
theorem lo_26 {X : GX} {p : Program} {l : Launch} {e : Env} {s : State} {m : MethodId} {below : List Frame} {meth : Method} {c : Code} {b L i : Nat} {xs : Nat → Int32} {F : AH} {n cells slots : Nat} {σ : RS9} {INV : AH → Nat → RS9 → Prop} (C : CC X p l room_1 s m #[Value.ref b] meth c RL cL_law 8 ret) (S0 : SC X b L xs s) (hl0 : l.stackTraces = false) (hX : HXp INV) (H : OP26 INV) (hi : i + 6 ≤ L) (hL : L ≤ 3072) (hc : cells + 108 ≤ 601024) (hs : slots + 2412 ≤ 7293034) (hI : INV F n σ) (kk : ∀ F n σ, INV F n σ → AW X p l e room_1 s m #[Value.ref b] below meth c 8 (lw_Z below #[Value.ref b] s) F n (cells + 108) (slots + 2412) 1147 [some (.retAddr b), some (.ref 0), some (.ref 181), some (.ref 223), some (.int (nI i)), none, none, none] []) : AW X p l e room_1 s m #[Value.ref b] below meth c 8 (lw_Z below #[Value.ref b] s) F n cells slots 1057 [some (.retAddr b), some (.ref 0), some (.ref 181), some (.ref 223), some (.int (nI i)), none, none, none] [] := by
  obtain ⟨fs, hx⟩ := (hX F n σ hI).1
  refine aw_ald_n C dL_law_1057 rfl ?_
  refine aw_raw_n C dL_law_1058 rfl ?_
  refine aw_iload C dL_law_1059 rfl ?_
  refine aw_iconst C 1 dL_law_1061 ki_1 ?_
  refine ae_iadd C (nI (i + 1)) dL_law_1062 (nI_add i 1) ?_
  refine aw_sld C S0 (xs (i + 1)) (vp_in_nI (by omega) (by omega)) (nI_clamp (by omega)) rfl dL_law_1063 ?_
  refine aw_ald_n C dL_law_1064 rfl ?_
  obtain ⟨r, r', g0, h1, hE, hu, h2, hJ⟩ := H F n σ (xs (i + 1)) hI
  refine aw_callSW C [.ref 0, .int (xs (i + 1)), .ref 223] mw_L_181 (wr_L_kept hl0 hx h1 hE (fun _ _ => hu)) rfl dL_law_1065 (Nat.le_of_ble_eq_true rfl) (Nat.le_of_ble_eq_true rfl) rfl (Nat.le_of_ble_eq_true rfl) (show cells + 1 ≤ 601024 by omega) (show slots + 6 ≤ 7293034 by omega) (fun v9 f9 n9 hq => ?_)
  obtain ⟨w, g, rfl, rfl, hn⟩ := QW_out hu hq
  refine aw_istore C dL_law_1068 (by decide) rfl ?_
  refine aw_ald_n C dL_law_1070 rfl ?_
  refine aw_raw_n C dL_law_1071 rfl ?_
  refine aw_iload C dL_law_1072 rfl ?_
  refine aw_iconst C 1 dL_law_1074 ki_1 ?_
  refine ae_iadd C (nI (i + 1)) dL_law_1075 (nI_add i 1) ?_
  refine aw_sld C S0 (xs (i + 1)) (vp_in_nI (by omega) (by omega)) (nI_clamp (by omega)) rfl dL_law_1076 ?_
  rw [(hJ g).1]
  refine aw_callV C (ci := 9) (b := 181) [.int (xs (i + 1))] mv_L_183 rfl rfl (hm_M _ _) (rmX9_kept h2) rfl dL_law_1077 (Nat.le_of_ble_eq_true rfl) (Nat.le_of_ble_eq_true rfl) rfl (Nat.le_of_ble_eq_true rfl) (show (cells + 1) + 0 ≤ 601024 by omega) (show (slots + 6) + 0 ≤ 7293034 by omega) (fun v9 f9 n9 hq => ?_)
  obtain ⟨rfl, rfl, rfl⟩ := hq
  refine aw_istore C dL_law_1080 (by decide) rfl ?_
  refine aw_goto C 1147 dL_law_1082 (by decide) ?_
  refine aw_fl [some (.retAddr b), some (.ref 0), some (.ref 181), some (.ref 223), some (.int (nI i)), none, none, none] ⟨rfl, ⟨rfl, ⟨rfl, ⟨rfl, ⟨rfl, trivial⟩⟩⟩⟩⟩ ?_
  refine aw_wide (k := cells + 108) (j := slots + 2412) (by omega) (by omega) ?_
  exact kk _ _ _ ((hJ g).2 n9 hn)
def OP27 (INV : AH → Nat → RS9 → Prop) : Prop := ∀ (F : AH) (n : Nat) (σ : RS9), INV F n σ → ∃ r r', mX8_twice 0 F n = some r ∧ mX9_twice σ = some r' ∧ r.2.1 = rHm r.2.1 σ ∧ INV (rHm r.2.1 r'.2) r.2.2 r'.2
set_option maxHeartbeats 1000000 in
theorem lo_27 {X : GX} {p : Program} {l : Launch} {e : Env} {s : State} {m : MethodId} {below : List Frame} {meth : Method} {c : Code} {b L i : Nat} {xs : Nat → Int32} {F : AH} {n cells slots : Nat} {σ : RS9} {INV : AH → Nat → RS9 → Prop} (C : CC X p l room_1 s m #[Value.ref b] meth c RL cL_law 8 ret) (S0 : SC X b L xs s) (hl0 : l.stackTraces = false) (hX : HXp INV) (H : OP27 INV) (hi : i + 6 ≤ L) (hL : L ≤ 3072) (hc : cells + 108 ≤ 601024) (hs : slots + 2412 ≤ 7293034) (hI : INV F n σ) (kk : ∀ F n σ, INV F n σ → AW X p l e room_1 s m #[Value.ref b] below meth c 8 (lw_Z below #[Value.ref b] s) F n (cells + 108) (slots + 2412) 1147 [some (.retAddr b), some (.ref 0), some (.ref 181), some (.ref 223), some (.int (nI i)), none, none, none] []) : AW X p l e room_1 s m #[Value.ref b] below meth c 8 (lw_Z below #[Value.ref b] s) F n cells slots 1085 [some (.retAddr b), some (.ref 0), some (.ref 181), some (.ref 223), some (.int (nI i)), none, none, none] [] := by
  obtain ⟨fs, hx⟩ := (hX F n σ hI).1
  refine aw_ald_n C dL_law_1085 rfl ?_
  obtain ⟨r, r', h1, h2, e1, hJ⟩ := H F n σ hI
  refine aw_callV C (ci := 8) (b := 0) [] mv_L_184 rfl rfl hx (rmX8_twice h1) rfl dL_law_1086 (Nat.le_of_ble_eq_true rfl) (Nat.le_of_ble_eq_true rfl) rfl (Nat.le_of_ble_eq_true rfl) (show cells + 0 ≤ 601024 by omega) (show slots + 0 ≤ 7293034 by omega) (fun v9 f9 n9 hq => ?_)
  obtain ⟨rfl, rfl, rfl⟩ := hq
  refine aw_pop C dL_law_1089 rfl ?_
  refine aw_ald_n C dL_law_1090 rfl ?_
  rw [e1]
  refine aw_callV C (ci := 9) (b := 181) [] mv_L_188 rfl rfl (hm_M _ _) (rmX9_twice h2) rfl dL_law_1091 (Nat.le_of_ble_eq_true rfl) (Nat.le_of_ble_eq_true rfl) rfl (Nat.le_of_ble_eq_true rfl) (show (cells + 0) + 0 ≤ 601024 by omega) (show (slots + 0) + 0 ≤ 7293034 by omega) (fun v9 f9 n9 hq => ?_)
  obtain ⟨rfl, rfl, rfl⟩ := hq
  refine aw_pop C dL_law_1094 rfl ?_
  refine aw_goto C 1147 dL_law_1095 (by decide) ?_
  refine aw_fl [some (.retAddr b), some (.ref 0), some (.ref 181), some (.ref 223), some (.int (nI i)), none, none, none] ⟨rfl, ⟨rfl, ⟨rfl, ⟨rfl, ⟨rfl, trivial⟩⟩⟩⟩⟩ ?_
  refine aw_wide (k := cells + 108) (j := slots + 2412) (by omega) (by omega) ?_
  exact kk _ _ _ hJ
def OP28 (INV : AH → Nat → RS9 → Prop) : Prop := ∀ (F : AH) (n : Nat) (σ : RS9), INV F n σ → ∃ r r', mX8_image 0 F n = some r ∧ mX9_image σ = some r' ∧ r.2.1 = rHm r.2.1 σ ∧ INV (rHm r.2.1 r'.2) r.2.2 r'.2
set_option maxHeartbeats 1000000 in
theorem lo_28 {X : GX} {p : Program} {l : Launch} {e : Env} {s : State} {m : MethodId} {below : List Frame} {meth : Method} {c : Code} {b L i : Nat} {xs : Nat → Int32} {F : AH} {n cells slots : Nat} {σ : RS9} {INV : AH → Nat → RS9 → Prop} (C : CC X p l room_1 s m #[Value.ref b] meth c RL cL_law 8 ret) (S0 : SC X b L xs s) (hl0 : l.stackTraces = false) (hX : HXp INV) (H : OP28 INV) (hi : i + 6 ≤ L) (hL : L ≤ 3072) (hc : cells + 108 ≤ 601024) (hs : slots + 2412 ≤ 7293034) (hI : INV F n σ) (kk : ∀ F n σ, INV F n σ → AW X p l e room_1 s m #[Value.ref b] below meth c 8 (lw_Z below #[Value.ref b] s) F n (cells + 108) (slots + 2412) 1147 [some (.retAddr b), some (.ref 0), some (.ref 181), some (.ref 223), some (.int (nI i)), none, none, none] []) : AW X p l e room_1 s m #[Value.ref b] below meth c 8 (lw_Z below #[Value.ref b] s) F n cells slots 1098 [some (.retAddr b), some (.ref 0), some (.ref 181), some (.ref 223), some (.int (nI i)), none, none, none] [] := by
  obtain ⟨fs, hx⟩ := (hX F n σ hI).1
  refine aw_ald_n C dL_law_1098 rfl ?_
  obtain ⟨r, r', h1, h2, e1, hJ⟩ := H F n σ hI
  refine aw_callV C (ci := 8) (b := 0) [] mv_L_189 rfl rfl hx (rmX8_image h1) rfl dL_law_1099 (Nat.le_of_ble_eq_true rfl) (Nat.le_of_ble_eq_true rfl) rfl (Nat.le_of_ble_eq_true rfl) (show cells + 0 ≤ 601024 by omega) (show slots + 0 ≤ 7293034 by omega) (fun v9 f9 n9 hq => ?_)
  obtain ⟨rfl, rfl, rfl⟩ := hq
  refine aw_ald_n C dL_law_1102 rfl ?_
  rw [e1]
  refine aw_callV C (ci := 9) (b := 181) [] mv_L_192 rfl rfl (hm_M _ _) (rmX9_image h2) rfl dL_law_1103 (Nat.le_of_ble_eq_true rfl) (Nat.le_of_ble_eq_true rfl) rfl (Nat.le_of_ble_eq_true rfl) (show (cells + 0) + 0 ≤ 601024 by omega) (show (slots + 0) + 0 ≤ 7293034 by omega) (fun v9 f9 n9 hq => ?_)
  obtain ⟨rfl, rfl, rfl⟩ := hq
  refine aw_goto C 1147 dL_law_1106 (by decide) ?_
  refine aw_fl [some (.retAddr b), some (.ref 0), some (.ref 181), some (.ref 223), some (.int (nI i)), none, none, none] ⟨rfl, ⟨rfl, ⟨rfl, ⟨rfl, ⟨rfl, trivial⟩⟩⟩⟩⟩ ?_
  refine aw_wide (k := cells + 108) (j := slots + 2412) (by omega) (by omega) ?_
  exact kk _ _ _ hJ
def OP29 (INV : AH → Nat → RS9 → Prop) : Prop := ∀ (F : AH) (n : Nat) (σ : RS9), INV F n σ → ∃ r r', mX8_back 0 F n = some r ∧ mX9_back σ = some r' ∧ r.2.1 = rHm r.2.1 σ ∧ INV (rHm r.2.1 r'.2) r.2.2 r'.2
set_option maxHeartbeats 1000000 in
theorem lo_29 {X : GX} {p : Program} {l : Launch} {e : Env} {s : State} {m : MethodId} {below : List Frame} {meth : Method} {c : Code} {b L i : Nat} {xs : Nat → Int32} {F : AH} {n cells slots : Nat} {σ : RS9} {INV : AH → Nat → RS9 → Prop} (C : CC X p l room_1 s m #[Value.ref b] meth c RL cL_law 8 ret) (S0 : SC X b L xs s) (hl0 : l.stackTraces = false) (hX : HXp INV) (H : OP29 INV) (hi : i + 6 ≤ L) (hL : L ≤ 3072) (hc : cells + 108 ≤ 601024) (hs : slots + 2412 ≤ 7293034) (hI : INV F n σ) (kk : ∀ F n σ, INV F n σ → AW X p l e room_1 s m #[Value.ref b] below meth c 8 (lw_Z below #[Value.ref b] s) F n (cells + 108) (slots + 2412) 1147 [some (.retAddr b), some (.ref 0), some (.ref 181), some (.ref 223), some (.int (nI i)), none, none, none] []) : AW X p l e room_1 s m #[Value.ref b] below meth c 8 (lw_Z below #[Value.ref b] s) F n cells slots 1109 [some (.retAddr b), some (.ref 0), some (.ref 181), some (.ref 223), some (.int (nI i)), none, none, none] [] := by
  obtain ⟨fs, hx⟩ := (hX F n σ hI).1
  refine aw_ald_n C dL_law_1109 rfl ?_
  obtain ⟨r, r', h1, h2, e1, hJ⟩ := H F n σ hI
  refine aw_callV C (ci := 8) (b := 0) [] mv_L_193 rfl rfl hx (rmX8_back h1) rfl dL_law_1110 (Nat.le_of_ble_eq_true rfl) (Nat.le_of_ble_eq_true rfl) rfl (Nat.le_of_ble_eq_true rfl) (show cells + 0 ≤ 601024 by omega) (show slots + 0 ≤ 7293034 by omega) (fun v9 f9 n9 hq => ?_)
  obtain ⟨rfl, rfl, rfl⟩ := hq
  refine aw_pop C dL_law_1113 rfl ?_
  refine aw_ald_n C dL_law_1114 rfl ?_
  rw [e1]
  refine aw_callV C (ci := 9) (b := 181) [] mv_L_196 rfl rfl (hm_M _ _) (rmX9_back h2) rfl dL_law_1115 (Nat.le_of_ble_eq_true rfl) (Nat.le_of_ble_eq_true rfl) rfl (Nat.le_of_ble_eq_true rfl) (show (cells + 0) + 0 ≤ 601024 by omega) (show (slots + 0) + 0 ≤ 7293034 by omega) (fun v9 f9 n9 hq => ?_)
  obtain ⟨rfl, rfl, rfl⟩ := hq
  refine aw_pop C dL_law_1118 rfl ?_
  refine aw_goto C 1147 dL_law_1119 (by decide) ?_
  refine aw_fl [some (.retAddr b), some (.ref 0), some (.ref 181), some (.ref 223), some (.int (nI i)), none, none, none] ⟨rfl, ⟨rfl, ⟨rfl, ⟨rfl, ⟨rfl, trivial⟩⟩⟩⟩⟩ ?_
  refine aw_wide (k := cells + 108) (j := slots + 2412) (by omega) (by omega) ?_
  exact kk _ _ _ hJ
def OP30 (INV : AH → Nat → RS9 → Prop) : Prop := ∀ (F : AH) (n : Nat) (σ : RS9) (a1 : Int32), INV F n σ → ∃ r r', mX8_count 0 a1 F n = some r ∧ mX9_count a1 σ = some r' ∧ r.2.1 = rHm r.2.1 σ ∧ INV (rHm r.2.1 r'.2) r.2.2 r'.2
set_option maxHeartbeats 1000000 in
theorem lo_30 {X : GX} {p : Program} {l : Launch} {e : Env} {s : State} {m : MethodId} {below : List Frame} {meth : Method} {c : Code} {b L i : Nat} {xs : Nat → Int32} {F : AH} {n cells slots : Nat} {σ : RS9} {INV : AH → Nat → RS9 → Prop} (C : CC X p l room_1 s m #[Value.ref b] meth c RL cL_law 8 ret) (S0 : SC X b L xs s) (hl0 : l.stackTraces = false) (hX : HXp INV) (H : OP30 INV) (hi : i + 6 ≤ L) (hL : L ≤ 3072) (hc : cells + 108 ≤ 601024) (hs : slots + 2412 ≤ 7293034) (hI : INV F n σ) (kk : ∀ F n σ, INV F n σ → AW X p l e room_1 s m #[Value.ref b] below meth c 8 (lw_Z below #[Value.ref b] s) F n (cells + 108) (slots + 2412) 1147 [some (.retAddr b), some (.ref 0), some (.ref 181), some (.ref 223), some (.int (nI i)), none, none, none] []) : AW X p l e room_1 s m #[Value.ref b] below meth c 8 (lw_Z below #[Value.ref b] s) F n cells slots 1122 [some (.retAddr b), some (.ref 0), some (.ref 181), some (.ref 223), some (.int (nI i)), none, none, none] [] := by
  obtain ⟨fs, hx⟩ := (hX F n σ hI).1
  refine aw_ald_n C dL_law_1122 rfl ?_
  refine aw_raw_n C dL_law_1123 rfl ?_
  refine aw_iload C dL_law_1124 rfl ?_
  refine aw_iconst C 1 dL_law_1126 ki_1 ?_
  refine ae_iadd C (nI (i + 1)) dL_law_1127 (nI_add i 1) ?_
  refine aw_sld C S0 (xs (i + 1)) (vp_in_nI (by omega) (by omega)) (nI_clamp (by omega)) rfl dL_law_1128 ?_
  obtain ⟨r, r', h1, h2, e1, hJ⟩ := H F n σ (xs (i + 1)) hI
  refine aw_callV C (ci := 8) (b := 0) [.int (xs (i + 1))] mv_L_197 rfl rfl hx (rmX8_count h1) rfl dL_law_1129 (Nat.le_of_ble_eq_true rfl) (Nat.le_of_ble_eq_true rfl) rfl (Nat.le_of_ble_eq_true rfl) (show cells + 0 ≤ 601024 by omega) (show slots + 0 ≤ 7293034 by omega) (fun v9 f9 n9 hq => ?_)
  obtain ⟨rfl, rfl, rfl⟩ := hq
  refine aw_pop C dL_law_1132 rfl ?_
  refine aw_ald_n C dL_law_1133 rfl ?_
  refine aw_raw_n C dL_law_1134 rfl ?_
  refine aw_iload C dL_law_1135 rfl ?_
  refine aw_iconst C 1 dL_law_1137 ki_1 ?_
  refine ae_iadd C (nI (i + 1)) dL_law_1138 (nI_add i 1) ?_
  refine aw_sld C S0 (xs (i + 1)) (vp_in_nI (by omega) (by omega)) (nI_clamp (by omega)) rfl dL_law_1139 ?_
  rw [e1]
  refine aw_callV C (ci := 9) (b := 181) [.int (xs (i + 1))] mv_L_200 rfl rfl (hm_M _ _) (rmX9_count h2) rfl dL_law_1140 (Nat.le_of_ble_eq_true rfl) (Nat.le_of_ble_eq_true rfl) rfl (Nat.le_of_ble_eq_true rfl) (show (cells + 0) + 0 ≤ 601024 by omega) (show (slots + 0) + 0 ≤ 7293034 by omega) (fun v9 f9 n9 hq => ?_)
  obtain ⟨rfl, rfl, rfl⟩ := hq
  refine aw_pop C dL_law_1143 rfl ?_
  refine aw_goto C 1147 dL_law_1144 (by decide) ?_
  refine aw_fl [some (.retAddr b), some (.ref 0), some (.ref 181), some (.ref 223), some (.int (nI i)), none, none, none] ⟨rfl, ⟨rfl, ⟨rfl, ⟨rfl, ⟨rfl, trivial⟩⟩⟩⟩⟩ ?_
  refine aw_wide (k := cells + 108) (j := slots + 2412) (by omega) (by omega) ?_
  exact kk _ _ _ hJ
theorem al_ret {X : GX} {p : Program} {l : Launch} {e : Env} {s : State} {m : MethodId} {below : List Frame} {meth : Method} {c : Code} {b L : Nat} {xs : Nat → Int32} {f : AH} {n cells slots : Nat} {lo : List (Option Value)} (C : CC X p l room_1 s m #[Value.ref b] meth c RL cL_law 8 ret) (S0 : SC X b L xs s) (hc : cells ≤ 601024) (hs : slots ≤ 7293034) : AW X p l e room_1 s m #[Value.ref b] below meth c 8 (lw_Z below #[Value.ref b] s) f n cells slots 1154 lo [.int 1] := by
  intro H locs ls hR hn hS hl
  refine va_forget (fun q hq => ?_) ?_
  · have h : X.1 ≤ q.base := hS.2.2 q hq
    rw [← S0.2.2.2]; exact h
  refine W.widen hc hs ?_
  exact lw_ret C.1 C.2.1 C.2.2.2.2.2.2.2 C.2.2.2.2.2.1 dL_law_1154
set_option maxRecDepth 20000 in
theorem law_loop {X : GX} {p : Program} {l : Launch} {e : Env} {s : State} {m : MethodId} {below : List Frame} {meth : Method} {c : Code} {b L : Nat} {xs : Nat → Int32} {INV : AH → Nat → RS9 → Prop} (C : CC X p l room_1 s m #[Value.ref b] meth c RL cL_law 8 ret) (S0 : SC X b L xs s) (hl0 : l.stackTraces = false) (hX : HXp INV) (H0 : OP0 INV) (H1 : OP1 INV) (H2 : OP2 INV) (H3 : OP3 INV) (H4 : OP4 INV) (H5 : OP5 INV) (H6 : OP6 INV) (H7 : OP7 INV) (H8 : OP8 INV) (H9 : OP9 INV) (H10 : OP10 INV) (H11 : OP11 INV) (H12 : OP12 INV) (H13 : OP13 INV) (H14 : OP14 INV) (H15 : OP15 INV) (H16 : OP16 INV) (H17 : OP17 INV) (H18 : OP18 INV) (H19 : OP19 INV) (H20 : OP20 INV) (H21 : OP21 INV) (H22 : OP22 INV) (H23 : OP23 INV) (H24 : OP24 INV) (H25 : OP25 INV) (H26 : OP26 INV) (H27 : OP27 INV) (H28 : OP28 INV) (H29 : OP29 INV) (H30 : OP30 INV) (hL : L ≤ 3072) : ∀ (d i : Nat) (F : AH) (n : Nat) (σ : RS9) (cells slots : Nat), L + 6 ≤ i + 6 * (d + 1) → i ≤ L → cells + 108 * d ≤ 601024 → slots + 2412 * d ≤ 7293034 → INV F n σ → AW X p l e room_1 s m #[Value.ref b] below meth c 8 (lw_Z below #[Value.ref b] s) F n cells slots 23 [some (.retAddr b), some (.ref 0), some (.ref 181), some (.ref 223), some (.int (nI i)), none, none, none] [] := by
  intro d
  induction d with
  | zero =>
    intro i F n σ cells slots hd hi hc hs hI
    have hiL : i = L := by omega
    subst hiL
    refine aw_iload C dL_law_23 rfl ?_
    refine aw_raw_n C dL_law_25 rfl ?_
    refine aw_slen C S0 dL_law_26 ?_
    refine aw_bipush C 6 dL_law_27 kb_6 ?_
    refine aw_isub C dL_law_29 ?_
    refine aw_icmp_gt C 1153 dL_law_30 (by decide) (fun _ => ?_) (fun q => absurd (lw_gt (by omega) (by omega)) q)
    refine aw_iconst C 1 dL_law_1153 ki_1 ?_
    exact al_ret C S0 (by omega) (by omega)
  | succ d ih =>
    intro i F n σ cells slots hd hi hc hs hI
    refine aw_iload C dL_law_23 rfl ?_
    refine aw_raw_n C dL_law_25 rfl ?_
    refine aw_slen C S0 dL_law_26 ?_
    refine aw_bipush C 6 dL_law_27 kb_6 ?_
    refine aw_isub C dL_law_29 ?_
    by_cases h6 : i + 6 ≤ L
    · refine aw_icmp_gt C 1153 dL_law_30 (by decide) (fun q => absurd q (lw_ngt h6 (by omega))) (fun _ => ?_)
      refine aw_raw_n C dL_law_33 rfl ?_
      refine aw_iload C dL_law_34 rfl ?_
      refine aw_sld C S0 (xs i) (vp_in_nI (by omega) (by omega)) (nI_clamp (by omega)) rfl dL_law_36 ?_
      refine aw_bipush C 31 dL_law_37 kb_31 ?_
      have kk : ∀ F n σ, INV F n σ → AW X p l e room_1 s m #[Value.ref b] below meth c 8 (lw_Z below #[Value.ref b] s) F n (cells + 108) (slots + 2412) 1147 [some (.retAddr b), some (.ref 0), some (.ref 181), some (.ref 223), some (.int (nI i)), none, none, none] [] := by
        intro F n σ hI
        refine aw_iinc C (nI (i + 6)) dL_law_1147 rfl (by rw [ki_6]; exact nI_add i 6) (by decide) rfl ?_
        refine aw_goto C 23 dL_law_1150 (by decide) ?_
        exact ih (i + 6) F n σ _ _ (by omega) (by omega) (by omega) (by omega) hI
      obtain ⟨j, hj, hx⟩ := pk_andE (xs i) (m := 31) 5 (by decide)
      refine ae_iand C (nI j) dL_law_39 hx ?_
      match j, hj with
      | 0, _ => exact aw_tabIn C (off := 140) 180 dL_law_40 (by decide) (by decide) (by decide) (by decide) (lo_0 (cells := cells) (slots := slots) C S0 hl0 hX H0 h6 hL (by omega) (by omega) hI kk)
      | 1, _ => exact aw_tabIn C (off := 213) 253 dL_law_40 (by decide) (by decide) (by decide) (by decide) (lo_1 (cells := cells) (slots := slots) C S0 hl0 hX H1 h6 hL (by omega) (by omega) hI kk)
      | 2, _ => exact aw_tabIn C (off := 238) 278 dL_law_40 (by decide) (by decide) (by decide) (by decide) (lo_2 (cells := cells) (slots := slots) C S0 hl0 hX H2 h6 hL (by omega) (by omega) hI kk)
      | 3, _ => exact aw_tabIn C (off := 254) 294 dL_law_40 (by decide) (by decide) (by decide) (by decide) (lo_3 (cells := cells) (slots := slots) C S0 hl0 hX H3 h6 hL (by omega) (by omega) hI kk)
      | 4, _ => exact aw_tabIn C (off := 267) 307 dL_law_40 (by decide) (by decide) (by decide) (by decide) (lo_4 (cells := cells) (slots := slots) C S0 hl0 hX H4 h6 hL (by omega) (by omega) hI kk)
      | 5, _ => exact aw_tabIn C (off := 280) 320 dL_law_40 (by decide) (by decide) (by decide) (by decide) (lo_5 (cells := cells) (slots := slots) C S0 hl0 hX H5 h6 hL (by omega) (by omega) hI kk)
      | 6, _ => exact aw_tabIn C (off := 293) 333 dL_law_40 (by decide) (by decide) (by decide) (by decide) (lo_6 (cells := cells) (slots := slots) C S0 hl0 hX H6 h6 hL (by omega) (by omega) hI kk)
      | 7, _ => exact aw_tabIn C (off := 349) 389 dL_law_40 (by decide) (by decide) (by decide) (by decide) (lo_7 (cells := cells) (slots := slots) C S0 hl0 hX H7 h6 hL (by omega) (by omega) hI kk)
      | 8, _ => exact aw_tabIn C (off := 389) 429 dL_law_40 (by decide) (by decide) (by decide) (by decide) (lo_8 (cells := cells) (slots := slots) C S0 hl0 hX H8 h6 hL (by omega) (by omega) hI kk)
      | 9, _ => exact aw_tabIn C (off := 405) 445 dL_law_40 (by decide) (by decide) (by decide) (by decide) (lo_9 (cells := cells) (slots := slots) C S0 hl0 hX H9 h6 hL (by omega) (by omega) hI kk)
      | 10, _ => exact aw_tabIn C (off := 418) 458 dL_law_40 (by decide) (by decide) (by decide) (by decide) (lo_10 (cells := cells) (slots := slots) C S0 hl0 hX H10 h6 hL (by omega) (by omega) hI kk)
      | 11, _ => exact aw_tabIn C (off := 446) 486 dL_law_40 (by decide) (by decide) (by decide) (by decide) (lo_11 (cells := cells) (slots := slots) C S0 hl0 hX H11 h6 hL (by omega) (by omega) hI kk)
      | 12, _ => exact aw_tabIn C (off := 474) 514 dL_law_40 (by decide) (by decide) (by decide) (by decide) (lo_12 (cells := cells) (slots := slots) C S0 hl0 hX H12 h6 hL (by omega) (by omega) hI kk)
      | 13, _ => exact aw_tabIn C (off := 502) 542 dL_law_40 (by decide) (by decide) (by decide) (by decide) (lo_13 (cells := cells) (slots := slots) C S0 hl0 hX H13 h6 hL (by omega) (by omega) hI kk)
      | 14, _ => exact aw_tabIn C (off := 542) 582 dL_law_40 (by decide) (by decide) (by decide) (by decide) (lo_14 (cells := cells) (slots := slots) C S0 hl0 hX H14 h6 hL (by omega) (by omega) hI kk)
      | 15, _ => exact aw_tabIn C (off := 558) 598 dL_law_40 (by decide) (by decide) (by decide) (by decide) (lo_15 (cells := cells) (slots := slots) C S0 hl0 hX H15 h6 hL (by omega) (by omega) hI kk)
      | 16, _ => exact aw_tabIn C (off := 574) 614 dL_law_40 (by decide) (by decide) (by decide) (by decide) (lo_16 (cells := cells) (slots := slots) C S0 hl0 hX H16 h6 hL (by omega) (by omega) hI kk)
      | 17, _ => exact aw_tabIn C (off := 614) 654 dL_law_40 (by decide) (by decide) (by decide) (by decide) (lo_17 (cells := cells) (slots := slots) C S0 hl0 hX H17 h6 hL (by omega) (by omega) hI kk)
      | 18, _ => exact aw_tabIn C (off := 682) 722 dL_law_40 (by decide) (by decide) (by decide) (by decide) (lo_18 (cells := cells) (slots := slots) C S0 hl0 hX H18 h6 hL (by omega) (by omega) hI kk)
      | 19, _ => exact aw_tabIn C (off := 722) 762 dL_law_40 (by decide) (by decide) (by decide) (by decide) (lo_19 (cells := cells) (slots := slots) C S0 hl0 hX H19 h6 hL (by omega) (by omega) hI kk)
      | 20, _ => exact aw_tabIn C (off := 762) 802 dL_law_40 (by decide) (by decide) (by decide) (by decide) (lo_20 (cells := cells) (slots := slots) C S0 hl0 hX H20 h6 hL (by omega) (by omega) hI kk)
      | 21, _ => exact aw_tabIn C (off := 787) 827 dL_law_40 (by decide) (by decide) (by decide) (by decide) (lo_21 (cells := cells) (slots := slots) C S0 hl0 hX H21 h6 hL (by omega) (by omega) hI kk)
      | 22, _ => exact aw_tabIn C (off := 840) 880 dL_law_40 (by decide) (by decide) (by decide) (by decide) (lo_22 (cells := cells) (slots := slots) C S0 hl0 hX H22 h6 hL (by omega) (by omega) hI kk)
      | 23, _ => exact aw_tabIn C (off := 908) 948 dL_law_40 (by decide) (by decide) (by decide) (by decide) (lo_23 (cells := cells) (slots := slots) C S0 hl0 hX H23 h6 hL (by omega) (by omega) hI kk)
      | 24, _ => exact aw_tabIn C (off := 936) 976 dL_law_40 (by decide) (by decide) (by decide) (by decide) (lo_24 (cells := cells) (slots := slots) C S0 hl0 hX H24 h6 hL (by omega) (by omega) hI kk)
      | 25, _ => exact aw_tabIn C (off := 952) 992 dL_law_40 (by decide) (by decide) (by decide) (by decide) (lo_25 (cells := cells) (slots := slots) C S0 hl0 hX H25 h6 hL (by omega) (by omega) hI kk)
      | 26, _ => exact aw_tabIn C (off := 1017) 1057 dL_law_40 (by decide) (by decide) (by decide) (by decide) (lo_26 (cells := cells) (slots := slots) C S0 hl0 hX H26 h6 hL (by omega) (by omega) hI kk)
      | 27, _ => exact aw_tabIn C (off := 1045) 1085 dL_law_40 (by decide) (by decide) (by decide) (by decide) (lo_27 (cells := cells) (slots := slots) C S0 hl0 hX H27 h6 hL (by omega) (by omega) hI kk)
      | 28, _ => exact aw_tabIn C (off := 1058) 1098 dL_law_40 (by decide) (by decide) (by decide) (by decide) (lo_28 (cells := cells) (slots := slots) C S0 hl0 hX H28 h6 hL (by omega) (by omega) hI kk)
      | 29, _ => exact aw_tabIn C (off := 1069) 1109 dL_law_40 (by decide) (by decide) (by decide) (by decide) (lo_29 (cells := cells) (slots := slots) C S0 hl0 hX H29 h6 hL (by omega) (by omega) hI kk)
      | 30, _ => exact aw_tabIn C (off := 1082) 1122 dL_law_40 (by decide) (by decide) (by decide) (by decide) (lo_30 (cells := cells) (slots := slots) C S0 hl0 hX H30 h6 hL (by omega) (by omega) hI kk)
      | 31, _ => exact aw_tabOut C 1147 dL_law_40 (by decide) (by decide) (aw_wide (k := cells + 108) (j := slots + 2412) (by omega) (by omega) (kk F n σ hI))
      | k + 32, h => exact absurd h (by omega)
    · refine aw_icmp_gt C 1153 dL_law_30 (by decide) (fun _ => ?_) (fun q => absurd (lw_gt (by omega) (by omega)) q)
      refine aw_iconst C 1 dL_law_1153 ki_1 ?_
      exact al_ret C S0 (by omega) (by omega)
end
/-! part 35a.dec -/
section
theorem dX0_init_0 : decode cX0_init 0 = .ok (.aload_n 0, 1) := by decide +kernel
theorem dX0_init_1 : decode cX0_init 1 = .ok (.invokespecial 3, 3) := by decide +kernel
theorem dX0_init_12 : decode cX0_init 12 = .ok (.invokespecial 11, 3) := by decide +kernel
theorem dX0_init_15 : decode cX0_init 15 = .ok (.putfield 14, 3) := by decide +kernel
theorem dX0_init_18 : decode cX0_init 18 = .ok (.aload_n 0, 1) := by decide +kernel
theorem dX0_init_19 : decode cX0_init 19 = .ok (.new 9, 3) := by decide +kernel
theorem dX0_init_22 : decode cX0_init 22 = .ok (.dup, 1) := by decide +kernel
theorem dX0_init_23 : decode cX0_init 23 = .ok (.sipush 540, 3) := by decide +kernel
theorem dX0_init_26 : decode cX0_init 26 = .ok (.invokespecial 11, 3) := by decide +kernel
theorem dX0_init_29 : decode cX0_init 29 = .ok (.putfield 20, 3) := by decide +kernel
theorem dX0_init_32 : decode cX0_init 32 = .ok (.aload_n 0, 1) := by decide +kernel
theorem dX0_init_33 : decode cX0_init 33 = .ok (.new 9, 3) := by decide +kernel
theorem dX0_init_36 : decode cX0_init 36 = .ok (.dup, 1) := by decide +kernel
theorem dX0_init_37 : decode cX0_init 37 = .ok (.sipush 540, 3) := by decide +kernel
theorem dX0_init_4 : decode cX0_init 4 = .ok (.aload_n 0, 1) := by decide +kernel
theorem dX0_init_40 : decode cX0_init 40 = .ok (.invokespecial 11, 3) := by decide +kernel
theorem dX0_init_43 : decode cX0_init 43 = .ok (.putfield 23, 3) := by decide +kernel
theorem dX0_init_46 : decode cX0_init 46 = .ok (.return_, 1) := by decide +kernel
theorem dX0_init_5 : decode cX0_init 5 = .ok (.new 9, 3) := by decide +kernel
theorem dX0_init_8 : decode cX0_init 8 = .ok (.dup, 1) := by decide +kernel
theorem dX0_init_9 : decode cX0_init 9 = .ok (.sipush 600, 3) := by decide +kernel
theorem dX1_init_0 : decode cX1_init 0 = .ok (.aload_n 0, 1) := by decide +kernel
theorem dX1_init_1 : decode cX1_init 1 = .ok (.invokespecial 3, 3) := by decide +kernel
theorem dX1_init_102 : decode cX1_init 102 = .ok (.aload_n 0, 1) := by decide +kernel
theorem dX1_init_103 : decode cX1_init 103 = .ok (.getfield 41, 3) := by decide +kernel
theorem dX1_init_106 : decode cX1_init 106 = .ok (.iload_n 1, 1) := by decide +kernel
theorem dX1_init_107 : decode cX1_init 107 = .ok (.new 39, 3) := by decide +kernel
theorem dX1_init_110 : decode cX1_init 110 = .ok (.dup, 1) := by decide +kernel
theorem dX1_init_111 : decode cX1_init 111 = .ok (.invokespecial 45, 3) := by decide +kernel
theorem dX1_init_114 : decode cX1_init 114 = .ok (.aastore, 1) := by decide +kernel
theorem dX1_init_115 : decode cX1_init 115 = .ok (.iinc 1 1, 3) := by decide +kernel
theorem dX1_init_118 : decode cX1_init 118 = .ok (.goto (-25), 3) := by decide +kernel
theorem dX1_init_12 : decode cX1_init 12 = .ok (.invokespecial 11, 3) := by decide +kernel
theorem dX1_init_121 : decode cX1_init 121 = .ok (.return_, 1) := by decide +kernel
theorem dX1_init_15 : decode cX1_init 15 = .ok (.putfield 14, 3) := by decide +kernel
theorem dX1_init_18 : decode cX1_init 18 = .ok (.aload_n 0, 1) := by decide +kernel
theorem dX1_init_19 : decode cX1_init 19 = .ok (.new 9, 3) := by decide +kernel
theorem dX1_init_22 : decode cX1_init 22 = .ok (.dup, 1) := by decide +kernel
theorem dX1_init_23 : decode cX1_init 23 = .ok (.sipush 600, 3) := by decide +kernel
theorem dX1_init_26 : decode cX1_init 26 = .ok (.invokespecial 11, 3) := by decide +kernel
theorem dX1_init_29 : decode cX1_init 29 = .ok (.putfield 20, 3) := by decide +kernel
theorem dX1_init_32 : decode cX1_init 32 = .ok (.aload_n 0, 1) := by decide +kernel
theorem dX1_init_33 : decode cX1_init 33 = .ok (.new 9, 3) := by decide +kernel
theorem dX1_init_36 : decode cX1_init 36 = .ok (.dup, 1) := by decide +kernel
theorem dX1_init_37 : decode cX1_init 37 = .ok (.sipush 600, 3) := by decide +kernel
theorem dX1_init_4 : decode cX1_init 4 = .ok (.aload_n 0, 1) := by decide +kernel
theorem dX1_init_40 : decode cX1_init 40 = .ok (.invokespecial 11, 3) := by decide +kernel
theorem dX1_init_43 : decode cX1_init 43 = .ok (.putfield 23, 3) := by decide +kernel
theorem dX1_init_46 : decode cX1_init 46 = .ok (.aload_n 0, 1) := by decide +kernel
theorem dX1_init_47 : decode cX1_init 47 = .ok (.new 9, 3) := by decide +kernel
theorem dX1_init_5 : decode cX1_init 5 = .ok (.new 9, 3) := by decide +kernel
theorem dX1_init_50 : decode cX1_init 50 = .ok (.dup, 1) := by decide +kernel
theorem dX1_init_51 : decode cX1_init 51 = .ok (.sipush 600, 3) := by decide +kernel
theorem dX1_init_54 : decode cX1_init 54 = .ok (.invokespecial 11, 3) := by decide +kernel
theorem dX1_init_57 : decode cX1_init 57 = .ok (.putfield 26, 3) := by decide +kernel
theorem dX1_init_60 : decode cX1_init 60 = .ok (.aload_n 0, 1) := by decide +kernel
theorem dX1_init_61 : decode cX1_init 61 = .ok (.new 29, 3) := by decide +kernel
theorem dX1_init_64 : decode cX1_init 64 = .ok (.dup, 1) := by decide +kernel
theorem dX1_init_65 : decode cX1_init 65 = .ok (.invokespecial 31, 3) := by decide +kernel
theorem dX1_init_68 : decode cX1_init 68 = .ok (.putfield 32, 3) := by decide +kernel
theorem dX1_init_71 : decode cX1_init 71 = .ok (.aload_n 0, 1) := by decide +kernel
theorem dX1_init_72 : decode cX1_init 72 = .ok (.new 29, 3) := by decide +kernel
theorem dX1_init_75 : decode cX1_init 75 = .ok (.dup, 1) := by decide +kernel
theorem dX1_init_76 : decode cX1_init 76 = .ok (.invokespecial 31, 3) := by decide +kernel
theorem dX1_init_79 : decode cX1_init 79 = .ok (.putfield 36, 3) := by decide +kernel
theorem dX1_init_8 : decode cX1_init 8 = .ok (.dup, 1) := by decide +kernel
theorem dX1_init_82 : decode cX1_init 82 = .ok (.aload_n 0, 1) := by decide +kernel
theorem dX1_init_83 : decode cX1_init 83 = .ok (.bipush 40, 2) := by decide +kernel
theorem dX1_init_85 : decode cX1_init 85 = .ok (.anewarray 39, 3) := by decide +kernel
theorem dX1_init_88 : decode cX1_init 88 = .ok (.putfield 41, 3) := by decide +kernel
theorem dX1_init_9 : decode cX1_init 9 = .ok (.sipush 600, 3) := by decide +kernel
theorem dX1_init_91 : decode cX1_init 91 = .ok (.iconst 0, 1) := by decide +kernel
theorem dX1_init_92 : decode cX1_init 92 = .ok (.istore_n 1, 1) := by decide +kernel
theorem dX1_init_93 : decode cX1_init 93 = .ok (.iload_n 1, 1) := by decide +kernel
theorem dX1_init_94 : decode cX1_init 94 = .ok (.aload_n 0, 1) := by decide +kernel
theorem dX1_init_95 : decode cX1_init 95 = .ok (.getfield 41, 3) := by decide +kernel
theorem dX1_init_98 : decode cX1_init 98 = .ok (.arraylength, 1) := by decide +kernel
theorem dX1_init_99 : decode cX1_init 99 = .ok (.if_icmp .ge 22, 3) := by decide +kernel
theorem dX3_init_0 : decode cX3_init 0 = .ok (.aload_n 0, 1) := by decide +kernel
theorem dX3_init_1 : decode cX3_init 1 = .ok (.invokespecial 1, 3) := by decide +kernel
theorem dX3_init_4 : decode cX3_init 4 = .ok (.return_, 1) := by decide +kernel
theorem dX4_init_0 : decode cX4_init 0 = .ok (.aload_n 0, 1) := by decide +kernel
theorem dX4_init_1 : decode cX4_init 1 = .ok (.invokespecial 3, 3) := by decide +kernel
theorem dX4_init_10 : decode cX4_init 10 = .ok (.invokespecial 11, 3) := by decide +kernel
theorem dX4_init_13 : decode cX4_init 13 = .ok (.putfield 14, 3) := by decide +kernel
theorem dX4_init_16 : decode cX4_init 16 = .ok (.return_, 1) := by decide +kernel
theorem dX4_init_4 : decode cX4_init 4 = .ok (.aload_n 0, 1) := by decide +kernel
theorem dX4_init_5 : decode cX4_init 5 = .ok (.new 9, 3) := by decide +kernel
theorem dX4_init_8 : decode cX4_init 8 = .ok (.dup, 1) := by decide +kernel
theorem dX4_init_9 : decode cX4_init 9 = .ok (.iconst 0, 1) := by decide +kernel
theorem dX6_init_0 : decode cX6_init 0 = .ok (.aload_n 0, 1) := by decide +kernel
theorem dX6_init_1 : decode cX6_init 1 = .ok (.invokespecial 3, 3) := by decide +kernel
theorem dX6_init_10 : decode cX6_init 10 = .ok (.invokespecial 11, 3) := by decide +kernel
theorem dX6_init_13 : decode cX6_init 13 = .ok (.putfield 14, 3) := by decide +kernel
theorem dX6_init_16 : decode cX6_init 16 = .ok (.return_, 1) := by decide +kernel
theorem dX6_init_4 : decode cX6_init 4 = .ok (.aload_n 0, 1) := by decide +kernel
theorem dX6_init_5 : decode cX6_init 5 = .ok (.new 9, 3) := by decide +kernel
theorem dX6_init_8 : decode cX6_init 8 = .ok (.dup, 1) := by decide +kernel
theorem dX6_init_9 : decode cX6_init 9 = .ok (.iconst 0, 1) := by decide +kernel
theorem dX7_init_0 : decode cX7_init 0 = .ok (.aload_n 0, 1) := by decide +kernel
theorem dX7_init_1 : decode cX7_init 1 = .ok (.invokespecial 3, 3) := by decide +kernel
theorem dX7_init_10 : decode cX7_init 10 = .ok (.invokespecial 11, 3) := by decide +kernel
theorem dX7_init_13 : decode cX7_init 13 = .ok (.putfield 14, 3) := by decide +kernel
theorem dX7_init_16 : decode cX7_init 16 = .ok (.aload_n 0, 1) := by decide +kernel
theorem dX7_init_17 : decode cX7_init 17 = .ok (.iconst 0, 1) := by decide +kernel
theorem dX7_init_18 : decode cX7_init 18 = .ok (.putfield 20, 3) := by decide +kernel
theorem dX7_init_21 : decode cX7_init 21 = .ok (.aload_n 0, 1) := by decide +kernel
theorem dX7_init_22 : decode cX7_init 22 = .ok (.iconst (-1), 1) := by decide +kernel
theorem dX7_init_23 : decode cX7_init 23 = .ok (.putfield 24, 3) := by decide +kernel
theorem dX7_init_26 : decode cX7_init 26 = .ok (.aload_n 0, 1) := by decide +kernel
theorem dX7_init_27 : decode cX7_init 27 = .ok (.iconst 1, 1) := by decide +kernel
theorem dX7_init_28 : decode cX7_init 28 = .ok (.putfield 27, 3) := by decide +kernel
theorem dX7_init_31 : decode cX7_init 31 = .ok (.aload_n 0, 1) := by decide +kernel
theorem dX7_init_32 : decode cX7_init 32 = .ok (.iconst 4, 1) := by decide +kernel
theorem dX7_init_33 : decode cX7_init 33 = .ok (.anewarray 9, 3) := by decide +kernel
theorem dX7_init_36 : decode cX7_init 36 = .ok (.putfield 30, 3) := by decide +kernel
theorem dX7_init_39 : decode cX7_init 39 = .ok (.aload_n 0, 1) := by decide +kernel
theorem dX7_init_4 : decode cX7_init 4 = .ok (.aload_n 0, 1) := by decide +kernel
theorem dX7_init_40 : decode cX7_init 40 = .ok (.bipush 40, 2) := by decide +kernel
theorem dX7_init_42 : decode cX7_init 42 = .ok (.anewarray 9, 3) := by decide +kernel
theorem dX7_init_45 : decode cX7_init 45 = .ok (.putfield 34, 3) := by decide +kernel
theorem dX7_init_48 : decode cX7_init 48 = .ok (.return_, 1) := by decide +kernel
theorem dX7_init_5 : decode cX7_init 5 = .ok (.new 9, 3) := by decide +kernel
theorem dX7_init_8 : decode cX7_init 8 = .ok (.dup, 1) := by decide +kernel
theorem dX7_init_9 : decode cX7_init 9 = .ok (.iconst 0, 1) := by decide +kernel
theorem dX8_init_0 : decode cX8_init 0 = .ok (.aload_n 0, 1) := by decide +kernel
theorem dX8_init_1 : decode cX8_init 1 = .ok (.invokespecial 1, 3) := by decide +kernel
theorem dX8_init_101 : decode cX8_init 101 = .ok (.aload_n 0, 1) := by decide +kernel
theorem dX8_init_102 : decode cX8_init 102 = .ok (.new 35, 3) := by decide +kernel
theorem dX8_init_105 : decode cX8_init 105 = .ok (.dup, 1) := by decide +kernel
theorem dX8_init_106 : decode cX8_init 106 = .ok (.invokespecial 37, 3) := by decide +kernel
theorem dX8_init_109 : decode cX8_init 109 = .ok (.putfield 42, 3) := by decide +kernel
theorem dX8_init_112 : decode cX8_init 112 = .ok (.aload_n 0, 1) := by decide +kernel
theorem dX8_init_113 : decode cX8_init 113 = .ok (.new 45, 3) := by decide +kernel
theorem dX8_init_116 : decode cX8_init 116 = .ok (.dup, 1) := by decide +kernel
theorem dX8_init_117 : decode cX8_init 117 = .ok (.invokespecial 47, 3) := by decide +kernel
theorem dX8_init_12 : decode cX8_init 12 = .ok (.invokespecial 11, 3) := by decide +kernel
theorem dX8_init_120 : decode cX8_init 120 = .ok (.putfield 48, 3) := by decide +kernel
theorem dX8_init_123 : decode cX8_init 123 = .ok (.aload_n 0, 1) := by decide +kernel
theorem dX8_init_124 : decode cX8_init 124 = .ok (.new 52, 3) := by decide +kernel
theorem dX8_init_127 : decode cX8_init 127 = .ok (.dup, 1) := by decide +kernel
theorem dX8_init_128 : decode cX8_init 128 = .ok (.invokespecial 54, 3) := by decide +kernel
theorem dX8_init_131 : decode cX8_init 131 = .ok (.putfield 55, 3) := by decide +kernel
theorem dX8_init_134 : decode cX8_init 134 = .ok (.aload_n 0, 1) := by decide +kernel
theorem dX8_init_135 : decode cX8_init 135 = .ok (.iconst (-1), 1) := by decide +kernel
theorem dX8_init_136 : decode cX8_init 136 = .ok (.putfield 59, 3) := by decide +kernel
theorem dX8_init_139 : decode cX8_init 139 = .ok (.return_, 1) := by decide +kernel
theorem dX8_init_15 : decode cX8_init 15 = .ok (.putfield 14, 3) := by decide +kernel
theorem dX8_init_18 : decode cX8_init 18 = .ok (.aload_n 0, 1) := by decide +kernel
theorem dX8_init_19 : decode cX8_init 19 = .ok (.new 18, 3) := by decide +kernel
theorem dX8_init_22 : decode cX8_init 22 = .ok (.dup, 1) := by decide +kernel
theorem dX8_init_23 : decode cX8_init 23 = .ok (.invokespecial 20, 3) := by decide +kernel
theorem dX8_init_26 : decode cX8_init 26 = .ok (.putfield 21, 3) := by decide +kernel
theorem dX8_init_29 : decode cX8_init 29 = .ok (.aload_n 0, 1) := by decide +kernel
theorem dX8_init_30 : decode cX8_init 30 = .ok (.new 18, 3) := by decide +kernel
theorem dX8_init_33 : decode cX8_init 33 = .ok (.dup, 1) := by decide +kernel
theorem dX8_init_34 : decode cX8_init 34 = .ok (.invokespecial 20, 3) := by decide +kernel
theorem dX8_init_37 : decode cX8_init 37 = .ok (.putfield 25, 3) := by decide +kernel
theorem dX8_init_4 : decode cX8_init 4 = .ok (.aload_n 0, 1) := by decide +kernel
theorem dX8_init_40 : decode cX8_init 40 = .ok (.aload_n 0, 1) := by decide +kernel
theorem dX8_init_41 : decode cX8_init 41 = .ok (.new 18, 3) := by decide +kernel
theorem dX8_init_44 : decode cX8_init 44 = .ok (.dup, 1) := by decide +kernel
theorem dX8_init_45 : decode cX8_init 45 = .ok (.invokespecial 20, 3) := by decide +kernel
theorem dX8_init_48 : decode cX8_init 48 = .ok (.putfield 28, 3) := by decide +kernel
theorem dX8_init_5 : decode cX8_init 5 = .ok (.new 7, 3) := by decide +kernel
theorem dX8_init_51 : decode cX8_init 51 = .ok (.aload_n 0, 1) := by decide +kernel
theorem dX8_init_52 : decode cX8_init 52 = .ok (.bipush 8, 2) := by decide +kernel
theorem dX8_init_54 : decode cX8_init 54 = .ok (.anewarray 18, 3) := by decide +kernel
theorem dX8_init_57 : decode cX8_init 57 = .ok (.putfield 31, 3) := by decide +kernel
theorem dX8_init_60 : decode cX8_init 60 = .ok (.iconst 0, 1) := by decide +kernel
theorem dX8_init_61 : decode cX8_init 61 = .ok (.istore_n 1, 1) := by decide +kernel
theorem dX8_init_62 : decode cX8_init 62 = .ok (.iload_n 1, 1) := by decide +kernel
theorem dX8_init_63 : decode cX8_init 63 = .ok (.aload_n 0, 1) := by decide +kernel
theorem dX8_init_64 : decode cX8_init 64 = .ok (.getfield 31, 3) := by decide +kernel
theorem dX8_init_67 : decode cX8_init 67 = .ok (.arraylength, 1) := by decide +kernel
theorem dX8_init_68 : decode cX8_init 68 = .ok (.if_icmp .ge 22, 3) := by decide +kernel
theorem dX8_init_71 : decode cX8_init 71 = .ok (.aload_n 0, 1) := by decide +kernel
theorem dX8_init_72 : decode cX8_init 72 = .ok (.getfield 31, 3) := by decide +kernel
theorem dX8_init_75 : decode cX8_init 75 = .ok (.iload_n 1, 1) := by decide +kernel
theorem dX8_init_76 : decode cX8_init 76 = .ok (.new 18, 3) := by decide +kernel
theorem dX8_init_79 : decode cX8_init 79 = .ok (.dup, 1) := by decide +kernel
theorem dX8_init_8 : decode cX8_init 8 = .ok (.dup, 1) := by decide +kernel
theorem dX8_init_80 : decode cX8_init 80 = .ok (.invokespecial 20, 3) := by decide +kernel
theorem dX8_init_83 : decode cX8_init 83 = .ok (.aastore, 1) := by decide +kernel
theorem dX8_init_84 : decode cX8_init 84 = .ok (.iinc 1 1, 3) := by decide +kernel
theorem dX8_init_87 : decode cX8_init 87 = .ok (.goto (-25), 3) := by decide +kernel
theorem dX8_init_9 : decode cX8_init 9 = .ok (.sipush 400, 3) := by decide +kernel
theorem dX8_init_90 : decode cX8_init 90 = .ok (.aload_n 0, 1) := by decide +kernel
theorem dX8_init_91 : decode cX8_init 91 = .ok (.new 35, 3) := by decide +kernel
theorem dX8_init_94 : decode cX8_init 94 = .ok (.dup, 1) := by decide +kernel
theorem dX8_init_95 : decode cX8_init 95 = .ok (.invokespecial 37, 3) := by decide +kernel
theorem dX8_init_98 : decode cX8_init 98 = .ok (.putfield 38, 3) := by decide +kernel
theorem dX9_init_0 : decode cX9_init 0 = .ok (.aload_n 0, 1) := by decide +kernel
theorem dX9_init_1 : decode cX9_init 1 = .ok (.invokespecial 1, 3) := by decide +kernel
theorem dX9_init_10 : decode cX9_init 10 = .ok (.putfield 7, 3) := by decide +kernel
theorem dX9_init_102 : decode cX9_init 102 = .ok (.newarray .int, 2) := by decide +kernel
theorem dX9_init_104 : decode cX9_init 104 = .ok (.putfield 45, 3) := by decide +kernel
theorem dX9_init_107 : decode cX9_init 107 = .ok (.aload_n 0, 1) := by decide +kernel
theorem dX9_init_108 : decode cX9_init 108 = .ok (.sipush 600, 3) := by decide +kernel
theorem dX9_init_111 : decode cX9_init 111 = .ok (.newarray .int, 2) := by decide +kernel
theorem dX9_init_113 : decode cX9_init 113 = .ok (.putfield 48, 3) := by decide +kernel
theorem dX9_init_116 : decode cX9_init 116 = .ok (.aload_n 0, 1) := by decide +kernel
theorem dX9_init_117 : decode cX9_init 117 = .ok (.sipush 600, 3) := by decide +kernel
theorem dX9_init_120 : decode cX9_init 120 = .ok (.newarray .int, 2) := by decide +kernel
theorem dX9_init_122 : decode cX9_init 122 = .ok (.putfield 51, 3) := by decide +kernel
theorem dX9_init_125 : decode cX9_init 125 = .ok (.aload_n 0, 1) := by decide +kernel
theorem dX9_init_126 : decode cX9_init 126 = .ok (.sipush 600, 3) := by decide +kernel
theorem dX9_init_129 : decode cX9_init 129 = .ok (.newarray .int, 2) := by decide +kernel
theorem dX9_init_13 : decode cX9_init 13 = .ok (.aload_n 0, 1) := by decide +kernel
theorem dX9_init_131 : decode cX9_init 131 = .ok (.putfield 54, 3) := by decide +kernel
theorem dX9_init_134 : decode cX9_init 134 = .ok (.aload_n 0, 1) := by decide +kernel
theorem dX9_init_135 : decode cX9_init 135 = .ok (.sipush 600, 3) := by decide +kernel
theorem dX9_init_138 : decode cX9_init 138 = .ok (.newarray .int, 2) := by decide +kernel
theorem dX9_init_14 : decode cX9_init 14 = .ok (.sipush 4347, 3) := by decide +kernel
theorem dX9_init_140 : decode cX9_init 140 = .ok (.putfield 57, 3) := by decide +kernel
theorem dX9_init_143 : decode cX9_init 143 = .ok (.aload_n 0, 1) := by decide +kernel
theorem dX9_init_144 : decode cX9_init 144 = .ok (.sipush 600, 3) := by decide +kernel
theorem dX9_init_147 : decode cX9_init 147 = .ok (.newarray .int, 2) := by decide +kernel
theorem dX9_init_149 : decode cX9_init 149 = .ok (.putfield 60, 3) := by decide +kernel
theorem dX9_init_152 : decode cX9_init 152 = .ok (.aload_n 0, 1) := by decide +kernel
theorem dX9_init_153 : decode cX9_init 153 = .ok (.sipush 600, 3) := by decide +kernel
theorem dX9_init_156 : decode cX9_init 156 = .ok (.newarray .int, 2) := by decide +kernel
theorem dX9_init_158 : decode cX9_init 158 = .ok (.putfield 63, 3) := by decide +kernel
theorem dX9_init_161 : decode cX9_init 161 = .ok (.aload_n 0, 1) := by decide +kernel
theorem dX9_init_162 : decode cX9_init 162 = .ok (.sipush 600, 3) := by decide +kernel
theorem dX9_init_165 : decode cX9_init 165 = .ok (.newarray .int, 2) := by decide +kernel
theorem dX9_init_167 : decode cX9_init 167 = .ok (.putfield 66, 3) := by decide +kernel
theorem dX9_init_17 : decode cX9_init 17 = .ok (.newarray .int, 2) := by decide +kernel
theorem dX9_init_170 : decode cX9_init 170 = .ok (.aload_n 0, 1) := by decide +kernel
theorem dX9_init_171 : decode cX9_init 171 = .ok (.sipush 600, 3) := by decide +kernel
theorem dX9_init_174 : decode cX9_init 174 = .ok (.newarray .int, 2) := by decide +kernel
theorem dX9_init_176 : decode cX9_init 176 = .ok (.putfield 69, 3) := by decide +kernel
theorem dX9_init_179 : decode cX9_init 179 = .ok (.aload_n 0, 1) := by decide +kernel
theorem dX9_init_180 : decode cX9_init 180 = .ok (.sipush 600, 3) := by decide +kernel
theorem dX9_init_183 : decode cX9_init 183 = .ok (.newarray .int, 2) := by decide +kernel
theorem dX9_init_185 : decode cX9_init 185 = .ok (.putfield 72, 3) := by decide +kernel
theorem dX9_init_188 : decode cX9_init 188 = .ok (.aload_n 0, 1) := by decide +kernel
theorem dX9_init_189 : decode cX9_init 189 = .ok (.sipush 600, 3) := by decide +kernel
theorem dX9_init_19 : decode cX9_init 19 = .ok (.putfield 13, 3) := by decide +kernel
theorem dX9_init_192 : decode cX9_init 192 = .ok (.newarray .int, 2) := by decide +kernel
theorem dX9_init_194 : decode cX9_init 194 = .ok (.putfield 75, 3) := by decide +kernel
theorem dX9_init_197 : decode cX9_init 197 = .ok (.aload_n 0, 1) := by decide +kernel
theorem dX9_init_198 : decode cX9_init 198 = .ok (.sipush 600, 3) := by decide +kernel
theorem dX9_init_201 : decode cX9_init 201 = .ok (.newarray .int, 2) := by decide +kernel
theorem dX9_init_203 : decode cX9_init 203 = .ok (.putfield 78, 3) := by decide +kernel
theorem dX9_init_206 : decode cX9_init 206 = .ok (.aload_n 0, 1) := by decide +kernel
theorem dX9_init_207 : decode cX9_init 207 = .ok (.bipush 40, 2) := by decide +kernel
theorem dX9_init_209 : decode cX9_init 209 = .ok (.newarray .int, 2) := by decide +kernel
theorem dX9_init_211 : decode cX9_init 211 = .ok (.putfield 81, 3) := by decide +kernel
theorem dX9_init_214 : decode cX9_init 214 = .ok (.aload_n 0, 1) := by decide +kernel
theorem dX9_init_215 : decode cX9_init 215 = .ok (.bipush 40, 2) := by decide +kernel
theorem dX9_init_217 : decode cX9_init 217 = .ok (.newarray .int, 2) := by decide +kernel
theorem dX9_init_219 : decode cX9_init 219 = .ok (.putfield 84, 3) := by decide +kernel
theorem dX9_init_22 : decode cX9_init 22 = .ok (.aload_n 0, 1) := by decide +kernel
theorem dX9_init_222 : decode cX9_init 222 = .ok (.aload_n 0, 1) := by decide +kernel
theorem dX9_init_223 : decode cX9_init 223 = .ok (.bipush 40, 2) := by decide +kernel
theorem dX9_init_225 : decode cX9_init 225 = .ok (.newarray .int, 2) := by decide +kernel
theorem dX9_init_227 : decode cX9_init 227 = .ok (.putfield 87, 3) := by decide +kernel
theorem dX9_init_23 : decode cX9_init 23 = .ok (.sipush 4347, 3) := by decide +kernel
theorem dX9_init_230 : decode cX9_init 230 = .ok (.aload_n 0, 1) := by decide +kernel
theorem dX9_init_231 : decode cX9_init 231 = .ok (.bipush 40, 2) := by decide +kernel
theorem dX9_init_233 : decode cX9_init 233 = .ok (.newarray .int, 2) := by decide +kernel
theorem dX9_init_235 : decode cX9_init 235 = .ok (.putfield 90, 3) := by decide +kernel
theorem dX9_init_238 : decode cX9_init 238 = .ok (.aload_n 0, 1) := by decide +kernel
theorem dX9_init_239 : decode cX9_init 239 = .ok (.bipush 40, 2) := by decide +kernel
theorem dX9_init_241 : decode cX9_init 241 = .ok (.newarray .int, 2) := by decide +kernel
theorem dX9_init_243 : decode cX9_init 243 = .ok (.putfield 93, 3) := by decide +kernel
theorem dX9_init_246 : decode cX9_init 246 = .ok (.aload_n 0, 1) := by decide +kernel
theorem dX9_init_247 : decode cX9_init 247 = .ok (.bipush 40, 2) := by decide +kernel
theorem dX9_init_249 : decode cX9_init 249 = .ok (.newarray .int, 2) := by decide +kernel
theorem dX9_init_251 : decode cX9_init 251 = .ok (.putfield 96, 3) := by decide +kernel
theorem dX9_init_254 : decode cX9_init 254 = .ok (.aload_n 0, 1) := by decide +kernel
theorem dX9_init_255 : decode cX9_init 255 = .ok (.bipush 40, 2) := by decide +kernel
theorem dX9_init_257 : decode cX9_init 257 = .ok (.newarray .int, 2) := by decide +kernel
theorem dX9_init_259 : decode cX9_init 259 = .ok (.putfield 99, 3) := by decide +kernel
theorem dX9_init_26 : decode cX9_init 26 = .ok (.newarray .int, 2) := by decide +kernel
theorem dX9_init_262 : decode cX9_init 262 = .ok (.aload_n 0, 1) := by decide +kernel
theorem dX9_init_263 : decode cX9_init 263 = .ok (.bipush 40, 2) := by decide +kernel
theorem dX9_init_265 : decode cX9_init 265 = .ok (.newarray .int, 2) := by decide +kernel
theorem dX9_init_267 : decode cX9_init 267 = .ok (.putfield 102, 3) := by decide +kernel
theorem dX9_init_270 : decode cX9_init 270 = .ok (.aload_n 0, 1) := by decide +kernel
theorem dX9_init_271 : decode cX9_init 271 = .ok (.bipush 40, 2) := by decide +kernel
theorem dX9_init_273 : decode cX9_init 273 = .ok (.newarray .int, 2) := by decide +kernel
theorem dX9_init_275 : decode cX9_init 275 = .ok (.putfield 105, 3) := by decide +kernel
theorem dX9_init_278 : decode cX9_init 278 = .ok (.aload_n 0, 1) := by decide +kernel
theorem dX9_init_279 : decode cX9_init 279 = .ok (.sipush 600, 3) := by decide +kernel
theorem dX9_init_28 : decode cX9_init 28 = .ok (.putfield 16, 3) := by decide +kernel
theorem dX9_init_282 : decode cX9_init 282 = .ok (.newarray .int, 2) := by decide +kernel
theorem dX9_init_284 : decode cX9_init 284 = .ok (.putfield 108, 3) := by decide +kernel
theorem dX9_init_287 : decode cX9_init 287 = .ok (.aload_n 0, 1) := by decide +kernel
theorem dX9_init_288 : decode cX9_init 288 = .ok (.sipush 600, 3) := by decide +kernel
theorem dX9_init_291 : decode cX9_init 291 = .ok (.newarray .int, 2) := by decide +kernel
theorem dX9_init_293 : decode cX9_init 293 = .ok (.putfield 111, 3) := by decide +kernel
theorem dX9_init_296 : decode cX9_init 296 = .ok (.aload_n 0, 1) := by decide +kernel
theorem dX9_init_297 : decode cX9_init 297 = .ok (.sipush 1400, 3) := by decide +kernel
theorem dX9_init_300 : decode cX9_init 300 = .ok (.newarray .int, 2) := by decide +kernel
theorem dX9_init_302 : decode cX9_init 302 = .ok (.putfield 114, 3) := by decide +kernel
theorem dX9_init_305 : decode cX9_init 305 = .ok (.aload_n 0, 1) := by decide +kernel
theorem dX9_init_306 : decode cX9_init 306 = .ok (.sipush 1400, 3) := by decide +kernel
theorem dX9_init_309 : decode cX9_init 309 = .ok (.newarray .int, 2) := by decide +kernel
theorem dX9_init_31 : decode cX9_init 31 = .ok (.aload_n 0, 1) := by decide +kernel
theorem dX9_init_311 : decode cX9_init 311 = .ok (.putfield 117, 3) := by decide +kernel
theorem dX9_init_314 : decode cX9_init 314 = .ok (.aload_n 0, 1) := by decide +kernel
theorem dX9_init_315 : decode cX9_init 315 = .ok (.sipush 700, 3) := by decide +kernel
theorem dX9_init_318 : decode cX9_init 318 = .ok (.newarray .int, 2) := by decide +kernel
theorem dX9_init_32 : decode cX9_init 32 = .ok (.ldc 19, 2) := by decide +kernel
theorem dX9_init_320 : decode cX9_init 320 = .ok (.putfield 120, 3) := by decide +kernel
theorem dX9_init_323 : decode cX9_init 323 = .ok (.aload_n 0, 1) := by decide +kernel
theorem dX9_init_324 : decode cX9_init 324 = .ok (.sipush 700, 3) := by decide +kernel
theorem dX9_init_327 : decode cX9_init 327 = .ok (.newarray .int, 2) := by decide +kernel
theorem dX9_init_329 : decode cX9_init 329 = .ok (.putfield 123, 3) := by decide +kernel
theorem dX9_init_332 : decode cX9_init 332 = .ok (.aload_n 0, 1) := by decide +kernel
theorem dX9_init_333 : decode cX9_init 333 = .ok (.bipush 41, 2) := by decide +kernel
theorem dX9_init_335 : decode cX9_init 335 = .ok (.newarray .int, 2) := by decide +kernel
theorem dX9_init_337 : decode cX9_init 337 = .ok (.putfield 126, 3) := by decide +kernel
theorem dX9_init_34 : decode cX9_init 34 = .ok (.newarray .int, 2) := by decide +kernel
theorem dX9_init_340 : decode cX9_init 340 = .ok (.aload_n 0, 1) := by decide +kernel
theorem dX9_init_341 : decode cX9_init 341 = .ok (.bipush 40, 2) := by decide +kernel
theorem dX9_init_343 : decode cX9_init 343 = .ok (.newarray .int, 2) := by decide +kernel
theorem dX9_init_345 : decode cX9_init 345 = .ok (.putfield 129, 3) := by decide +kernel
theorem dX9_init_348 : decode cX9_init 348 = .ok (.aload_n 0, 1) := by decide +kernel
theorem dX9_init_349 : decode cX9_init 349 = .ok (.bipush 60, 2) := by decide +kernel
theorem dX9_init_351 : decode cX9_init 351 = .ok (.newarray .int, 2) := by decide +kernel
theorem dX9_init_353 : decode cX9_init 353 = .ok (.putfield 132, 3) := by decide +kernel
theorem dX9_init_356 : decode cX9_init 356 = .ok (.aload_n 0, 1) := by decide +kernel
theorem dX9_init_357 : decode cX9_init 357 = .ok (.bipush 60, 2) := by decide +kernel
theorem dX9_init_359 : decode cX9_init 359 = .ok (.newarray .int, 2) := by decide +kernel
theorem dX9_init_36 : decode cX9_init 36 = .ok (.putfield 20, 3) := by decide +kernel
theorem dX9_init_361 : decode cX9_init 361 = .ok (.putfield 135, 3) := by decide +kernel
theorem dX9_init_364 : decode cX9_init 364 = .ok (.aload_n 0, 1) := by decide +kernel
theorem dX9_init_365 : decode cX9_init 365 = .ok (.getfield 7, 3) := by decide +kernel
theorem dX9_init_368 : decode cX9_init 368 = .ok (.iconst 2, 1) := by decide +kernel
theorem dX9_init_369 : decode cX9_init 369 = .ok (.iconst (-1), 1) := by decide +kernel
theorem dX9_init_370 : decode cX9_init 370 = .ok (.iastore, 1) := by decide +kernel
theorem dX9_init_371 : decode cX9_init 371 = .ok (.aload_n 0, 1) := by decide +kernel
theorem dX9_init_372 : decode cX9_init 372 = .ok (.getfield 7, 3) := by decide +kernel
theorem dX9_init_375 : decode cX9_init 375 = .ok (.iconst 4, 1) := by decide +kernel
theorem dX9_init_376 : decode cX9_init 376 = .ok (.iconst 1, 1) := by decide +kernel
theorem dX9_init_377 : decode cX9_init 377 = .ok (.iastore, 1) := by decide +kernel
theorem dX9_init_378 : decode cX9_init 378 = .ok (.iconst 0, 1) := by decide +kernel
theorem dX9_init_379 : decode cX9_init 379 = .ok (.istore_n 1, 1) := by decide +kernel
theorem dX9_init_380 : decode cX9_init 380 = .ok (.iload_n 1, 1) := by decide +kernel
theorem dX9_init_381 : decode cX9_init 381 = .ok (.bipush 40, 2) := by decide +kernel
theorem dX9_init_383 : decode cX9_init 383 = .ok (.if_icmp .ge 23, 3) := by decide +kernel
theorem dX9_init_386 : decode cX9_init 386 = .ok (.aload_n 0, 1) := by decide +kernel
theorem dX9_init_387 : decode cX9_init 387 = .ok (.getfield 7, 3) := by decide +kernel
theorem dX9_init_39 : decode cX9_init 39 = .ok (.aload_n 0, 1) := by decide +kernel
theorem dX9_init_390 : decode cX9_init 390 = .ok (.sipush 443, 3) := by decide +kernel
theorem dX9_init_393 : decode cX9_init 393 = .ok (.bipush 61, 2) := by decide +kernel
theorem dX9_init_395 : decode cX9_init 395 = .ok (.iload_n 1, 1) := by decide +kernel
theorem dX9_init_396 : decode cX9_init 396 = .ok (.imul, 1) := by decide +kernel
theorem dX9_init_397 : decode cX9_init 397 = .ok (.iadd, 1) := by decide +kernel
theorem dX9_init_398 : decode cX9_init 398 = .ok (.iconst (-1), 1) := by decide +kernel
theorem dX9_init_399 : decode cX9_init 399 = .ok (.iastore, 1) := by decide +kernel
theorem dX9_init_4 : decode cX9_init 4 = .ok (.aload_n 0, 1) := by decide +kernel
theorem dX9_init_40 : decode cX9_init 40 = .ok (.sipush 400, 3) := by decide +kernel
theorem dX9_init_400 : decode cX9_init 400 = .ok (.iinc 1 1, 3) := by decide +kernel
theorem dX9_init_403 : decode cX9_init 403 = .ok (.goto (-23), 3) := by decide +kernel
theorem dX9_init_406 : decode cX9_init 406 = .ok (.return_, 1) := by decide +kernel
theorem dX9_init_43 : decode cX9_init 43 = .ok (.newarray .int, 2) := by decide +kernel
theorem dX9_init_45 : decode cX9_init 45 = .ok (.putfield 23, 3) := by decide +kernel
theorem dX9_init_48 : decode cX9_init 48 = .ok (.aload_n 0, 1) := by decide +kernel
theorem dX9_init_49 : decode cX9_init 49 = .ok (.iconst (-1), 1) := by decide +kernel
theorem dX9_init_5 : decode cX9_init 5 = .ok (.sipush 4347, 3) := by decide +kernel
theorem dX9_init_50 : decode cX9_init 50 = .ok (.putfield 26, 3) := by decide +kernel
theorem dX9_init_53 : decode cX9_init 53 = .ok (.aload_n 0, 1) := by decide +kernel
theorem dX9_init_54 : decode cX9_init 54 = .ok (.sipush 600, 3) := by decide +kernel
theorem dX9_init_57 : decode cX9_init 57 = .ok (.newarray .int, 2) := by decide +kernel
theorem dX9_init_59 : decode cX9_init 59 = .ok (.putfield 30, 3) := by decide +kernel
theorem dX9_init_62 : decode cX9_init 62 = .ok (.aload_n 0, 1) := by decide +kernel
theorem dX9_init_63 : decode cX9_init 63 = .ok (.sipush 600, 3) := by decide +kernel
theorem dX9_init_66 : decode cX9_init 66 = .ok (.newarray .int, 2) := by decide +kernel
theorem dX9_init_68 : decode cX9_init 68 = .ok (.putfield 33, 3) := by decide +kernel
theorem dX9_init_71 : decode cX9_init 71 = .ok (.aload_n 0, 1) := by decide +kernel
theorem dX9_init_72 : decode cX9_init 72 = .ok (.sipush 600, 3) := by decide +kernel
theorem dX9_init_75 : decode cX9_init 75 = .ok (.newarray .int, 2) := by decide +kernel
theorem dX9_init_77 : decode cX9_init 77 = .ok (.putfield 36, 3) := by decide +kernel
theorem dX9_init_8 : decode cX9_init 8 = .ok (.newarray .int, 2) := by decide +kernel
theorem dX9_init_80 : decode cX9_init 80 = .ok (.aload_n 0, 1) := by decide +kernel
theorem dX9_init_81 : decode cX9_init 81 = .ok (.sipush 600, 3) := by decide +kernel
theorem dX9_init_84 : decode cX9_init 84 = .ok (.newarray .int, 2) := by decide +kernel
theorem dX9_init_86 : decode cX9_init 86 = .ok (.putfield 39, 3) := by decide +kernel
theorem dX9_init_89 : decode cX9_init 89 = .ok (.aload_n 0, 1) := by decide +kernel
theorem dX9_init_90 : decode cX9_init 90 = .ok (.sipush 600, 3) := by decide +kernel
theorem dX9_init_93 : decode cX9_init 93 = .ok (.newarray .int, 2) := by decide +kernel
theorem dX9_init_95 : decode cX9_init 95 = .ok (.putfield 42, 3) := by decide +kernel
theorem dX9_init_98 : decode cX9_init 98 = .ok (.aload_n 0, 1) := by decide +kernel
theorem dX9_init_99 : decode cX9_init 99 = .ok (.sipush 600, 3) := by decide +kernel
theorem kb_41 : (Int8.ofInt 41).toInt32 = 41 := by decide
theorem ks_1400 : (Int16.ofInt 1400).toInt32 = 1400 := by decide
theorem ks_540 : (Int16.ofInt 540).toInt32 = 540 := by decide
end
/-! part 35b.tl -/
section
theorem vu_up {α : Type} (f : Nat → α) (k : Nat) (v w : α) : va_up (va_up f k v) k w = va_up f k w := by
  funext j; unfold va_up; by_cases h : j = k <;> simp [h]
theorem vu_ne {α : Type} {f : Nat → α} {k j : Nat} {v : α} (h : j ≠ k) : va_up f k v j = f j := if_neg h
theorem vu_eq {α : Type} {f : Nat → α} {k : Nat} {v : α} : va_up f k v k = v := if_pos rfl
theorem vu_id {α : Type} {f : Nat → α} {k : Nat} {v : α} (h : f k = v) : va_up f k v = f := by
  funext j; unfold va_up; by_cases hj : j = k
  · rw [if_pos hj, hj, h]
  · rw [if_neg hj]
def tl (g : Nat → Int32) (k : Nat) : Nat → Int32 := fun j => if 443 ≤ j ∧ (j - 443) % 61 = 0 ∧ (j - 443) / 61 < k then -1 else g j
theorem tl_0 (g : Nat → Int32) : tl g 0 = g := by funext j; simp [tl]
theorem tl_s (g : Nat → Int32) (k : Nat) : upd (tl g k) (443 + 61 * k) (-1) = tl g (k + 1) := by
  funext j
  unfold upd tl
  by_cases h : j = 443 + 61 * k
  · subst h
    rw [if_pos rfl, if_pos ⟨by omega, by omega, by omega⟩]
  · rw [if_neg h]
    by_cases h2 : 443 ≤ j ∧ (j - 443) % 61 = 0 ∧ (j - 443) / 61 < k
    · rw [if_pos h2, if_pos ⟨h2.1, h2.2.1, by omega⟩]
    · rw [if_neg h2, if_neg (fun h3 => h2 ⟨h3.1, h3.2.1, by omega⟩)]
theorem ki1' : Int32.ofInt 1 = 1 := by decide
theorem nI_inc (k : Nat) : nI k + Int32.ofInt 1 = nI (k + 1) := by rw [ki1']; exact nI_1 k
theorem tl_ix (k : Nat) : (443 : Int32) + 61 * nI k = nI (443 + 61 * k) := by
  rw [← nI_add, ← pk_mul]; rfl
section LPS
variable {X : GX} {p : Program} {l : Launch} {e : Env} {R : Room} {s : State} {m : MethodId} {args : Array Value} {below : List Frame} {meth : Method} {c : Code} {ret : Option FieldType} {Z : State → Prop} {f : AH} {n cells slots : Nat} {L : List (Nat × AE)}
theorem lp_X9_init_w (C : CC X p l R s m args meth c RX9 cX9_init 2 ret) {M a : Nat} {fs : List Value} {g : Nat → Int32} (hM : f M = some (.inr (9, fs))) (ha : fs[1]? = some (.ref a)) (hMa : M ≠ a)
    (kk : AW X p l e R s m args below meth c 2 Z (va_up f a (some (.inl (0, 4347, .inl (tl g 40))))) n cells slots 406 [some (.ref M), some (.int 40)] []) : ∀ d k : Nat, k + d = 40 → AW X p l e R s m args below meth c 2 Z (va_up f a (some (.inl (0, 4347, .inl (tl g k))))) n cells slots 380 [some (.ref M), some (.int (nI k))] [] := by
  intro d
  induction d with
  | zero =>
    intro k hk
    have hk2 : k = 40 := by omega
    subst hk2
    refine aw_iload_n C dX9_init_380 rfl ?_
    refine aw_bipush C 40 dX9_init_381 kb_40 ?_
    exact aw_icmp_ge C 406 dX9_init_383 (by decide) (fun _ => kk) (fun q => absurd (by decide) q)
  | succ d ih =>
    intro k hk
    refine aw_iload_n C dX9_init_380 rfl ?_
    refine aw_bipush C 40 dX9_init_381 kb_40 ?_
    refine aw_icmp_ge C 406 dX9_init_383 (by decide) (fun q => absurd q (nI_ge (a := k) (b := 40) (by omega) (by decide))) (fun _ => ?_)
    refine aw_ald_n C dX9_init_386 rfl ?_
    refine aw_get C gf_X9_7 ((vu_ne hMa).trans hM) ha dX9_init_387 ?_
    refine aw_sipush C 443 dX9_init_390 ks_443 ?_
    refine aw_bipush C 61 dX9_init_393 kb_61 ?_
    refine aw_iload_n C dX9_init_395 rfl ?_
    refine aw_imul C dX9_init_396 ?_
    refine ae_iadd C (nI (443 + 61 * k)) dX9_init_397 (tl_ix k) ?_
    refine aw_iconst C (-1) dX9_init_398 ki_m1 ?_
    refine aw_iast C vu_eq (vp_in_nI (by omega) (by decide)) dX9_init_399 ?_
    refine aw_iinc C (nI (k + 1)) dX9_init_400 rfl (nI_inc k) (by decide) rfl ?_
    refine aw_goto C 380 dX9_init_403 (by decide) ?_
    rw [vu_up, nI_clamp (by omega), tl_s]
    exact ih (k + 1) (by omega)
theorem lp_X9_init (C : CC X p l R s m args meth c RX9 cX9_init 2 ret) {M a : Nat} {fs : List Value} {g : Nat → Int32} (l' : List (Nat × AE)) (hM : ovl f L M = some (.inr (9, fs))) (ha : fs[1]? = some (.ref a)) (hMa : M ≠ a) (hfa : ovl f L a = some (.inl (0, 4347, .inl g))) (hL : ins L a (.inl (0, 4347, .inl (tl g 40))) = l')
    (kk : AW X p l e R s m args below meth c 2 Z (ovl f l') n cells slots 406 [some (.ref M), some (.int 40)] []) : AW X p l e R s m args below meth c 2 Z (ovl f L) n cells slots 380 [some (.ref M), some (.int 0)] [] := by
  have h := lp_X9_init_w (f := ovl f L) (g := g) (e := e) (below := below) (Z := Z) (n := n) (cells := cells) (slots := slots) C hM ha hMa (by rw [ovl_ins, hL]; exact kk) 40 0 rfl
  rw [tl_0, vu_id hfa] at h
  exact h
end LPS
end
