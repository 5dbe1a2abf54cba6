theorem dJ0_coder_7d493_0 : decode cJ0_coder_7d493 0 = .ok (.getstatic 38, 3) := by decide +kernel
theorem dJ0_coder_7d493_3 : decode cJ0_coder_7d493 3 = .ok (.ifCond .eq 10, 3) := by decide +kernel
theorem dJ0_coder_7d493_6 : decode cJ0_coder_7d493 6 = .ok (.aload_n 0, 1) := by decide +kernel
theorem dJ0_coder_7d493_7 : decode cJ0_coder_7d493 7 = .ok (.getfield 15, 3) := by decide +kernel
theorem dJ0_coder_7d493_10 : decode cJ0_coder_7d493 10 = .ok (.goto 4, 3) := by decide +kernel
theorem dJ0_coder_7d493_14 : decode cJ0_coder_7d493 14 = .ok (.ireturn, 1) := by decide +kernel
theorem dJ0_length_8abf5_0 : decode cJ0_length_8abf5 0 = .ok (.aload_n 0, 1) := by decide +kernel
theorem dJ0_length_8abf5_1 : decode cJ0_length_8abf5 1 = .ok (.getfield 9, 3) := by decide +kernel
theorem dJ0_length_8abf5_4 : decode cJ0_length_8abf5 4 = .ok (.arraylength, 1) := by decide +kernel
theorem dJ0_length_8abf5_5 : decode cJ0_length_8abf5 5 = .ok (.aload_n 0, 1) := by decide +kernel
theorem dJ0_length_8abf5_6 : decode cJ0_length_8abf5 6 = .ok (.invokevirtual 335, 3) := by decide +kernel
theorem dJ0_length_8abf5_9 : decode cJ0_length_8abf5 9 = .ok (.ishr, 1) := by decide +kernel
theorem dJ0_length_8abf5_10 : decode cJ0_length_8abf5 10 = .ok (.ireturn, 1) := by decide +kernel
theorem dJ0_isLatin1_aae02_0 : decode cJ0_isLatin1_aae02 0 = .ok (.getstatic 38, 3) := by decide +kernel
theorem dJ0_isLatin1_aae02_3 : decode cJ0_isLatin1_aae02 3 = .ok (.ifCond .eq 14, 3) := by decide +kernel
theorem dJ0_isLatin1_aae02_6 : decode cJ0_isLatin1_aae02 6 = .ok (.aload_n 0, 1) := by decide +kernel
theorem dJ0_isLatin1_aae02_7 : decode cJ0_isLatin1_aae02 7 = .ok (.getfield 15, 3) := by decide +kernel
theorem dJ0_isLatin1_aae02_10 : decode cJ0_isLatin1_aae02 10 = .ok (.ifCond .ne 7, 3) := by decide +kernel
theorem dJ0_isLatin1_aae02_13 : decode cJ0_isLatin1_aae02 13 = .ok (.iconst 1, 1) := by decide +kernel
theorem dJ0_isLatin1_aae02_14 : decode cJ0_isLatin1_aae02 14 = .ok (.goto 4, 3) := by decide +kernel
theorem dJ0_isLatin1_aae02_18 : decode cJ0_isLatin1_aae02 18 = .ok (.ireturn, 1) := by decide +kernel
theorem dJ3_checkIndex_8e157_0 : decode cJ3_checkIndex_8e157 0 = .ok (.iload_n 0, 1) := by decide +kernel
theorem dJ3_checkIndex_8e157_1 : decode cJ3_checkIndex_8e157 1 = .ok (.ifCond .lt 8, 3) := by decide +kernel
theorem dJ3_checkIndex_8e157_4 : decode cJ3_checkIndex_8e157 4 = .ok (.iload_n 0, 1) := by decide +kernel
theorem dJ3_checkIndex_8e157_5 : decode cJ3_checkIndex_8e157 5 = .ok (.iload_n 1, 1) := by decide +kernel
theorem dJ3_checkIndex_8e157_6 : decode cJ3_checkIndex_8e157 6 = .ok (.if_icmp .lt 10, 3) := by decide +kernel
theorem dJ3_checkIndex_8e157_16 : decode cJ3_checkIndex_8e157 16 = .ok (.iload_n 0, 1) := by decide +kernel
theorem dJ3_checkIndex_8e157_17 : decode cJ3_checkIndex_8e157 17 = .ok (.ireturn, 1) := by decide +kernel
theorem dJ0_checkIndex_df160_0 : decode cJ0_checkIndex_df160 0 = .ok (.iload_n 0, 1) := by decide +kernel
theorem dJ0_checkIndex_df160_1 : decode cJ0_checkIndex_df160 1 = .ok (.iload_n 1, 1) := by decide +kernel
theorem dJ0_checkIndex_df160_5 : decode cJ0_checkIndex_df160 5 = .ok (.invokestatic 1059, 3) := by decide +kernel
theorem dJ0_checkIndex_df160_8 : decode cJ0_checkIndex_df160 8 = .ok (.pop, 1) := by decide +kernel
theorem dJ0_checkIndex_df160_9 : decode cJ0_checkIndex_df160 9 = .ok (.return_, 1) := by decide +kernel
theorem dJ0_checkIndex_df160_2 : decode cJ0_checkIndex_df160 2 = .ok (.getstatic 1053, 3) := by decide +kernel
theorem dJ1_charAt_3b067_0 : decode cJ1_charAt_3b067 0 = .ok (.iload_n 1, 1) := by decide +kernel
theorem dJ1_charAt_3b067_1 : decode cJ1_charAt_3b067 1 = .ok (.aload_n 0, 1) := by decide +kernel
theorem dJ1_charAt_3b067_2 : decode cJ1_charAt_3b067 2 = .ok (.arraylength, 1) := by decide +kernel
theorem dJ1_charAt_3b067_3 : decode cJ1_charAt_3b067 3 = .ok (.invokestatic 9, 3) := by decide +kernel
theorem dJ1_charAt_3b067_6 : decode cJ1_charAt_3b067 6 = .ok (.aload_n 0, 1) := by decide +kernel
theorem dJ1_charAt_3b067_7 : decode cJ1_charAt_3b067 7 = .ok (.iload_n 1, 1) := by decide +kernel
theorem dJ1_charAt_3b067_8 : decode cJ1_charAt_3b067 8 = .ok (.baload, 1) := by decide +kernel
theorem dJ1_charAt_3b067_9 : decode cJ1_charAt_3b067 9 = .ok (.sipush 255, 3) := by decide +kernel
theorem dJ1_charAt_3b067_12 : decode cJ1_charAt_3b067 12 = .ok (.iand, 1) := by decide +kernel
theorem dJ1_charAt_3b067_13 : decode cJ1_charAt_3b067 13 = .ok (.i2c, 1) := by decide +kernel
theorem dJ1_charAt_3b067_14 : decode cJ1_charAt_3b067 14 = .ok (.ireturn, 1) := by decide +kernel
theorem dJ0_charAt_5068e_0 : decode cJ0_charAt_5068e 0 = .ok (.aload_n 0, 1) := by decide +kernel
theorem dJ0_charAt_5068e_1 : decode cJ0_charAt_5068e 1 = .ok (.invokevirtual 492, 3) := by decide +kernel
theorem dJ0_charAt_5068e_4 : decode cJ0_charAt_5068e 4 = .ok (.ifCond .eq 12, 3) := by decide +kernel
theorem dJ0_charAt_5068e_7 : decode cJ0_charAt_5068e 7 = .ok (.aload_n 0, 1) := by decide +kernel
theorem dJ0_charAt_5068e_8 : decode cJ0_charAt_5068e 8 = .ok (.getfield 9, 3) := by decide +kernel
theorem dJ0_charAt_5068e_11 : decode cJ0_charAt_5068e 11 = .ok (.iload_n 1, 1) := by decide +kernel
theorem dJ0_charAt_5068e_12 : decode cJ0_charAt_5068e 12 = .ok (.invokestatic 495, 3) := by decide +kernel
theorem dJ0_charAt_5068e_15 : decode cJ0_charAt_5068e 15 = .ok (.ireturn, 1) := by decide +kernel
section AWK
variable {X : GX} {p : Program} {l : Launch} {e : Env} {R : Room} {s : State} {m : MethodId} {args : Array Value} {below : List Frame} {meth : Method} {c : Code} {own : String} {cc : ByteArray} {nL : Nat} {ret : Option FieldType} {Z : State → Prop} {f : AH} {n cells slots pc : Nat} {lo : List (Option Value)} {st : List Value}
variable {mc ms : Nat} {Q : Option Value → AH → Nat → Prop}
abbrev oldA (X : GX) : Nat → Prop := fun q => X.1 ≤ q
theorem aw_getK (C : CC X p l R s m args meth c own cc nL ret) {idx a : Nat} {o nm d : String} (v : Value) (hE : va_OF o nm d (rn X.1 v) a (fun q => X.1 ≤ q) s s.heap) (hlk : Cond.fieldLink own idx o nm d ∈ ALLW) (hd : decode cc pc = .ok (.getfield idx, 3)) (kk : AW X p l e R s m args below meth c nL Z f n cells slots (pc + 3) lo (v :: st)) : AW X p l e R s m args below meth c nL Z f n cells slots pc lo (.retAddr a :: st) := by
  intro H locs ls hR hn hS hl
  exact vk_getf C.1 C.2.1 hE hS C.2.2.2.1 (C.2.2.2.2.1 _ hlk) (fun _ h => h) hd (kk H locs ls hR hn hS hl)
theorem aw_getsK (C : CC X p l R s m args meth c own cc nL ret) {idx : Nat} {o nm d : String} (v : Value) (hZ : va_Z o nm d (rn X.1 v) (fun q => X.1 ≤ q) s s.heap) (hlk : Cond.fieldLink own idx o nm d ∈ ALLW) (hd : decode cc pc = .ok (.getstatic idx, 3)) (kk : AW X p l e R s m args below meth c nL Z f n cells slots (pc + 3) lo (v :: st)) : AW X p l e R s m args below meth c nL Z f n cells slots pc lo st := by
  intro H locs ls hR hn hS hl
  exact va_gets C.1 C.2.1 hZ hS C.2.2.2.1 (C.2.2.2.2.1 _ hlk) (fun _ h => h) hd (kk H locs ls hR hn hS hl)
theorem aw_lenK (C : CC X p l R s m args meth c own cc nL ret) {a N : Nat} {ty : FieldType} {g : Nat → Value} (hT : va_T ty a N g (fun q => X.1 ≤ q) s s.heap) (hd : decode cc pc = .ok (.arraylength, 1)) (kk : AW X p l e R s m args below meth c nL Z f n cells slots (pc + 1) lo (.int (nI N) :: st)) : AW X p l e R s m args below meth c nL Z f n cells slots pc lo (.retAddr a :: st) := by
  intro H locs ls hR hn hS hl
  exact va_tlen C.1 C.2.1 hT hS rfl hd (kk H locs ls hR hn hS hl)
theorem aw_baldK (C : CC X p l R s m args meth c own cc nL ret) {a N : Nat} {g : Nat → Int32} {x : Int32} (hT : va_T .byte a N (fun j => .int (g j)) (fun q => X.1 ≤ q) s s.heap) (hin : vp_in x N) (hd : decode cc pc = .ok (.baload, 1)) (kk : AW X p l e R s m args below meth c nL Z f n cells slots (pc + 1) lo (.int (g x.toNatClampNeg) :: st)) : AW X p l e R s m args below meth c nL Z f n cells slots pc lo (.int x :: .retAddr a :: st) := by
  intro H locs ls hR hn hS hl
  exact va_tb C.1 C.2.1 hT hS hin rfl hd (kk H locs ls hR hn hS hl)
theorem aw_i2cK (C : CC X p l R s m args meth c own cc nL ret) {b : Int32} (hd : decode cc pc = .ok (.i2c, 1)) (kk : AW X p l e R s m args below meth c nL Z f n cells slots (pc + 1) lo (.int (b &&& 255) :: st)) : AW X p l e R s m args below meth c nL Z f n cells slots pc lo (.int (b &&& 255) :: st) := by
  intro H locs ls hR hn hS hl
  exact lv_i2c C.1 C.2.1 hd (sc_c2 b) (kk H locs ls hR hn hS hl)
theorem aw_ldcK (C : CC X p l R s m args meth c own cc nL ret) {idx a : Nat} {tx : String} (hZ : vk_R own idx tx a s) (hd : decode cc pc = .ok (.ldc idx, 2)) (kk : AW X p l e R s m args below meth c nL Z f n cells slots (pc + 2) lo (.retAddr a :: st)) : AW X p l e R s m args below meth c nL Z f n cells slots pc lo st := by
  intro H locs ls hR hn hS hl
  exact va_ldcS C.1 C.2.1 C.2.2.2.1 hZ hd (kk H locs ls hR hn hS hl)
theorem aw_ldcwK (C : CC X p l R s m args meth c own cc nL ret) {idx a : Nat} {tx : String} (hZ : vk_R own idx tx a s) (hd : decode cc pc = .ok (.ldc_w idx, 3)) (kk : AW X p l e R s m args below meth c nL Z f n cells slots (pc + 3) lo (.retAddr a :: st)) : AW X p l e R s m args below meth c nL Z f n cells slots pc lo st := by
  intro H locs ls hR hn hS hl T hT XX
  obtain ⟨t, a1, b1⟩ := kk H locs ls hR hn hS hl T hT XX
  exact ⟨t, XX.ldcStringW C.1 C.2.2.2.1 (text := tx) (a := a) hZ.1 hZ.2 (g := F0 m pc ls (st.map (rn X.1))) rfl (by rw [C.2.1]; exact hd) t a1, b1⟩
theorem aw_raw (C : CC X p l R s m args meth c own cc nL ret) {i a : Nat} (hd : decode cc pc = .ok (.aload i, 2)) (hl' : lo[i]? = some (some (.retAddr a))) (kk : AW X p l e R s m args below meth c nL Z f n cells slots (pc + 2) lo (.retAddr a :: st)) : AW X p l e R s m args below meth c nL Z f n cells slots pc lo st := by
  intro H locs ls hR hn hS hl
  exact lv_aload C.1 C.2.1 hd (hl.2.2 _ _ hl') (kk H locs ls hR hn hS hl)
theorem aw_callK (C : CC X p l R s m args meth c own cc nL ret) {idx : Nat} {y : MethodName} {bytes : ByteArray} {maxL : Nat} {ret' : Option FieldType} {np fr b : Nat} {st0 : List Value} (as : List Value) (g : MV own idx y bytes maxL ret' np) (hb : ∀ (H : Heap) (locs : List Loc), va_S (fun q => X.1 ≤ q) s.heap H locs → ∃ cellB : Cell, H[b]? = some cellB ∧ cellB.vm.isStatics = false ∧ s.vm.findClass y.cls = some cellB.cls)
    (hM : AM X l y bytes maxL ret' fr mc ms (.retAddr b :: as) f n Q) (he : st0 = as.reverse ++ .retAddr b :: st) (hd : decode cc pc = .ok (.invokevirtual idx, 3)) (hfr : fr + 1 ≤ R.frames) (hlo : 8 + (maxL + 11) + 36 * fr ≤ R.locals) (hnp : as.length = np) (hstk : (st.map fun v => v.category).sum ≤ 8) (hc : cells + mc ≤ R.cells) (hs : slots + ms ≤ R.slots)
    (kk : ∀ (v : Option Value) (f' : AH) (n' : Nat), Q v f' n' → AW X p l e R s m args below meth c nL Z f' n' (cells + mc) (slots + ms) (pc + 3) lo (v.toList ++ st)) : AW X p l e R s m args below meth c nL Z f n cells slots pc lo st0 := by
  subst he
  refine aw_ofRun (a := ((.retAddr b :: as).map (rn X.1)).toArray) (fun H locs ls hR hn hS hl => ?_) kk
  obtain ⟨g1, g2, g3, g4, g5, g6⟩ := g
  have hts := C.2.2.2.2.1
  have hG : GoodIn ALLW (wsV own idx y.cls y (Cond.code y bytes maxL ret' :: ALLW)) := ALLW_good (fun w hw => by
    simp only [wsV, List.cons_append, List.nil_append, List.mem_cons] at hw
    rcases hw with rfl | rfl | rfl | rfl | rfl | h
    · exact g1
    · exact g2
    · exact g3
    · exact g4
    · exact g5
    · exact h)
  have := va_runV (C := y.cls) (b := b) (As := as.map (rn X.1)) (rest := st.map (rn X.1)) (g := F0 m pc ls ((as.reverse ++ .retAddr b :: st).map (rn X.1))) (locs := locs) (cells := cells) (slots := slots) (e := e) (below := below) (meth := meth) ⟨C.1, C.2.1, C.2.2.1, C.2.2.2.1, hts⟩ hM (cwV np hts hG rfl rfl rfl ⟨rfl, g6⟩ ⟨hfr, hlo⟩) ⟨PreM.blind X _ f n, hb H locs hS, C.pre hR hn hS (.retAddr b :: as)⟩ rfl (by rw [List.length_map]; exact hnp) hl.1 (by simp [rn]) (lv_room (by rw [cat_rn]; exact hstk)) hd ⟨hc, hs⟩
  exact this
end AWK
/-- the post of a call that changes nothing -/
def QS (f : AH) (n : Nat) (v : Option Value) : Option Value → AH → Nat → Prop := fun v' f' n' => v' = v ∧ f' = f ∧ n' = n
/-- text i of a table that GG holds: where, its bytes' place, how many, which -/
def STA (X : GX) (N : Nat) (len : List Nat) (byt : List (List Int32)) (oK oV : Nat) : Prop := ∀ U : State, GG X U → vk_S N len byt (fun i => X.2.2 (oK + i)) (fun i => X.2.2 (oV + i)) (fun q => X.1 ≤ q) U U.heap
theorem STA9 (X : GX) : STA X 15 sL9 sB9 1000 2000 := fun U h => h.2.2.2.2.2.2.2.2.1.1
theorem STA4 (X : GX) : STA X 12 sL4 sB4 3000 4000 := fun U h => h.2.2.2.2.2.2.2.2.2.1.1
theorem fk_val : Cond.fieldLink RJ0 9 zS "value" "[B" ∈ ALLW := (ALLW_t 1785 (by decide +kernel) (by decide +kernel))
theorem fk_cod : Cond.fieldLink RJ0 15 zS "coder" "B" ∈ ALLW := (ALLW_t 1786 (by decide +kernel) (by decide +kernel))
theorem fk_cmp : Cond.fieldLink RJ0 38 zS zC "Z" ∈ ALLW := (ALLW_t 847 (by decide +kernel) (by decide +kernel))
theorem fk_fmt : Cond.fieldLink RJ0 1053 zP zF zD ∈ ALLW := (ALLW_t 863 (by decide +kernel) (by decide +kernel))
theorem zk_1 : Int32.ofInt 1 = 1 := by decide
theorem zk_0 : Int32.ofInt 0 = 0 := by decide
theorem zk_255 : (Int16.ofInt 255).toInt32 = 255 := by decide
theorem sk_coder {X : GX} {l : Launch} {f : AH} {n N i oK oV : Nat} {len : List Nat} {byt : List (List Int32)} (hs : STA X N len byt oK oV) (hi : i < N) : AM X l yJ0_coder_7d493 cJ0_coder_7d493 1 (some .byte) 0 0 0 [.retAddr (X.2.2 (oK + i))] f n (QS f n (some (.int 0))) := by
  refine AM.of (by decide +kernel) rfl (Nat.le_of_ble_eq_true rfl) (fun p e s m args below meth c C _ => ?_)
  have hE := (hs s C.2.2.2.2.2.2.1).1 i hi
  have hZ := C.2.2.2.2.2.2.1.2.2.2.2.2.2.2.2.2.2.1
  refine aw_nl [some (.retAddr (X.2.2 (oK + i)))] rfl ?_
  refine aw_getsK C (.int 1) hZ fk_cmp dJ0_coder_7d493_0 ?_
  refine aw_if_eq C 13 dJ0_coder_7d493_3 (by decide) (fun q => absurd q (by decide)) (fun _ => ?_)
  refine aw_raw_n C dJ0_coder_7d493_6 rfl ?_
  refine aw_getK C (.int 0) hE.2.1 fk_cod dJ0_coder_7d493_7 ?_
  refine aw_goto C 14 dJ0_coder_7d493_10 (by decide) ?_
  exact aw_iret C rfl rfl dJ0_coder_7d493_14 (Nat.le_of_ble_eq_true rfl) (Nat.le_of_ble_eq_true rfl) ⟨rfl, rfl, rfl⟩
theorem sk_len {X : GX} {l : Launch} {f : AH} {n N i oK oV : Nat} {len : List Nat} {byt : List (List Int32)} (hs : STA X N len byt oK oV) (hi : i < N) (hb : len.getD i 0 < 2 ^ 31) : AM X l yJ0_length_8abf5 cJ0_length_8abf5 1 (some .int) 1 0 0 [.retAddr (X.2.2 (oK + i))] f n (QS f n (some (.int (nI (len.getD i 0))))) := by
  refine AM.of (by decide +kernel) rfl (Nat.le_of_ble_eq_true rfl) (fun p e s m args below meth c C _ => ?_)
  have hE := (hs s C.2.2.2.2.2.2.1).1 i hi
  have hZ := C.2.2.2.2.2.2.1.2.2.2.2.2.2.2.2.2.2.1
  refine aw_nl [some (.retAddr (X.2.2 (oK + i)))] rfl ?_
  refine aw_raw_n C dJ0_length_8abf5_0 rfl ?_
  refine aw_getK C (.retAddr (X.2.2 (oV + i))) hE.2.2.1 fk_val dJ0_length_8abf5_1 ?_
  refine aw_lenK C hE.2.2.2 dJ0_length_8abf5_4 ?_
  refine aw_raw_n C dJ0_length_8abf5_5 rfl ?_
  refine aw_callK C [] mv_J0_335 (fun H locs hS => vk_recv (hs s C.2.2.2.2.2.2.1) hi hS) (sk_coder hs hi) rfl dJ0_length_8abf5_6 (Nat.le_of_ble_eq_true rfl) (Nat.le_of_ble_eq_true rfl) rfl (Nat.le_of_ble_eq_true rfl) (Nat.le_of_ble_eq_true rfl) (Nat.le_of_ble_eq_true rfl) (fun v9 f9 n9 hh => ?_)
  obtain ⟨rfl, rfl, rfl⟩ := hh
  refine ae_ishr C (nI (len.getD i 0)) dJ0_length_8abf5_9 (sc_shr0 hb) ?_
  exact aw_iret C rfl rfl dJ0_length_8abf5_10 (Nat.le_of_ble_eq_true rfl) (Nat.le_of_ble_eq_true rfl) ⟨rfl, rfl, rfl⟩
theorem sk_lat {X : GX} {l : Launch} {f : AH} {n N i oK oV : Nat} {len : List Nat} {byt : List (List Int32)} (hs : STA X N len byt oK oV) (hi : i < N) : AM X l yJ0_isLatin1_aae02 cJ0_isLatin1_aae02 1 (some .boolean) 0 0 0 [.retAddr (X.2.2 (oK + i))] f n (QS f n (some (.int 1))) := by
  refine AM.of (by decide +kernel) rfl (Nat.le_of_ble_eq_true rfl) (fun p e s m args below meth c C _ => ?_)
  have hE := (hs s C.2.2.2.2.2.2.1).1 i hi
  have hZ := C.2.2.2.2.2.2.1.2.2.2.2.2.2.2.2.2.2.1
  refine aw_nl [some (.retAddr (X.2.2 (oK + i)))] rfl ?_
  refine aw_getsK C (.int 1) hZ fk_cmp dJ0_isLatin1_aae02_0 ?_
  refine aw_if_eq C 17 dJ0_isLatin1_aae02_3 (by decide) (fun q => absurd q (by decide)) (fun _ => ?_)
  refine aw_raw_n C dJ0_isLatin1_aae02_6 rfl ?_
  refine aw_getK C (.int 0) hE.2.1 fk_cod dJ0_isLatin1_aae02_7 ?_
  refine aw_if_ne C 17 dJ0_isLatin1_aae02_10 (by decide) (fun q => absurd rfl q) (fun _ => ?_)
  refine aw_iconst C 1 dJ0_isLatin1_aae02_13 zk_1 ?_
  refine aw_goto C 18 dJ0_isLatin1_aae02_14 (by decide) ?_
  exact aw_iret C rfl (by decide) dJ0_isLatin1_aae02_18 (Nat.le_of_ble_eq_true rfl) (Nat.le_of_ble_eq_true rfl) ⟨rfl, rfl, rfl⟩
theorem sk_ci3 {X : GX} {l : Launch} {f : AH} {n k N : Nat} {w : Value} (hw : w.category = 1) (hk : k < N) (hN : N < 2 ^ 31) : AM X l yJ3_checkIndex_8e157 cJ3_checkIndex_8e157 3 (some .int) 0 0 0 [.int (nI k), .int (nI N), w] f n (QS f n (some (.int (nI k)))) := by
  refine AM.of (by decide +kernel) (by simp [hw]; exact ⟨rfl, rfl⟩) (Nat.le_of_ble_eq_true rfl) (fun p e s m args below meth c C _ => ?_)
  refine aw_nl [some (.int (nI k)), some (.int (nI N)), some w] rfl ?_
  refine aw_iload_n C dJ3_checkIndex_8e157_0 rfl ?_
  refine aw_if_lt C 9 dJ3_checkIndex_8e157_1 (by decide) (fun q => absurd q (nI_pos (by omega))) (fun _ => ?_)
  refine aw_iload_n C dJ3_checkIndex_8e157_4 rfl ?_
  refine aw_iload_n C dJ3_checkIndex_8e157_5 rfl ?_
  refine aw_icmp_lt C 16 dJ3_checkIndex_8e157_6 (by decide) (fun _ => ?_) (fun q => absurd (nI_lt hk hN) q)
  refine aw_iload_n C dJ3_checkIndex_8e157_16 rfl ?_
  exact aw_iret C rfl rfl dJ3_checkIndex_8e157_17 (Nat.le_of_ble_eq_true rfl) (Nat.le_of_ble_eq_true rfl) ⟨rfl, rfl, rfl⟩
theorem sk_ci0 {X : GX} {l : Launch} {f : AH} {n k N : Nat} (hk : k < N) (hN : N < 2 ^ 31) : AM X l yJ0_checkIndex_df160 cJ0_checkIndex_df160 2 none 1 0 0 [.int (nI k), .int (nI N)] f n (QS f n none) := by
  refine AM.of (by decide +kernel) rfl (Nat.le_of_ble_eq_true rfl) (fun p e s m args below meth c C _ => ?_)
  have hq := C.2.2.2.2.2.2.1.2.2.2.2.2.2.2.2.2.2.2
  refine aw_nl [some (.int (nI k)), some (.int (nI N))] rfl ?_
  refine aw_iload_n C dJ0_checkIndex_df160_0 rfl ?_
  refine aw_iload_n C dJ0_checkIndex_df160_1 rfl ?_
  have go : ∀ w : Value, w.category = 1 → AW X p l e (RM 1 0 0) s m args below meth c 2 (ZM X below args s 0 0 (QS f n none)) f n 0 0 5 [some (.int (nI k)), some (.int (nI N))] [w, .int (nI N), .int (nI k)] := by
    intro w hw
    refine aw_callS C [.int (nI k), .int (nI N), w] ms_J0_1059 (sk_ci3 hw hk hN) rfl dJ0_checkIndex_df160_5 (Nat.le_of_ble_eq_true rfl) (Nat.le_of_ble_eq_true rfl) rfl (Nat.le_of_ble_eq_true rfl) (Nat.le_of_ble_eq_true rfl) (Nat.le_of_ble_eq_true rfl) (fun v9 f9 n9 hh => ?_)
    obtain ⟨rfl, rfl, rfl⟩ := hh
    refine aw_pop C dJ0_checkIndex_df160_8 rfl ?_
    exact aw_vret C rfl dJ0_checkIndex_df160_9 (Nat.le_of_ble_eq_true rfl) (Nat.le_of_ble_eq_true rfl) ⟨rfl, rfl, rfl⟩
  rcases hq with hq | ⟨t, hq⟩
  · exact aw_getsK C .null hq fk_fmt dJ0_checkIndex_df160_2 (go .null rfl)
  · exact aw_getsK C (.retAddr t) hq fk_fmt dJ0_checkIndex_df160_2 (go (.retAddr t) rfl)
theorem sk_chr1 {X : GX} {l : Launch} {f : AH} {n N i oK oV : Nat} {len : List Nat} {byt : List (List Int32)} (hs : STA X N len byt oK oV) (hi : i < N) {k : Nat} (hk : k < len.getD i 0) (hb : len.getD i 0 < 2 ^ 31) : AM X l yJ1_charAt_3b067 cJ1_charAt_3b067 2 (some .char) 2 0 0 [.retAddr (X.2.2 (oV + i)), .int (nI k)] f n (QS f n (some (.int ((byt.getD i []).getD k 0 &&& 255)))) := by
  refine AM.of (by decide +kernel) rfl (Nat.le_of_ble_eq_true rfl) (fun p e s m args below meth c C _ => ?_)
  have hE := (hs s C.2.2.2.2.2.2.1).1 i hi
  have hZ := C.2.2.2.2.2.2.1.2.2.2.2.2.2.2.2.2.2.1
  refine aw_nl [some (.retAddr (X.2.2 (oV + i))), some (.int (nI k))] rfl ?_
  refine aw_iload_n C dJ1_charAt_3b067_0 rfl ?_
  refine aw_raw_n C dJ1_charAt_3b067_1 rfl ?_
  refine aw_lenK C hE.2.2.2 dJ1_charAt_3b067_2 ?_
  refine aw_callS C [.int (nI k), .int (nI (len.getD i 0))] ms_J1_9 (sk_ci0 hk hb) rfl dJ1_charAt_3b067_3 (Nat.le_of_ble_eq_true rfl) (Nat.le_of_ble_eq_true rfl) rfl (Nat.le_of_ble_eq_true rfl) (Nat.le_of_ble_eq_true rfl) (Nat.le_of_ble_eq_true rfl) (fun v9 f9 n9 hh => ?_)
  obtain ⟨rfl, rfl, rfl⟩ := hh
  refine aw_raw_n C dJ1_charAt_3b067_6 rfl ?_
  refine aw_iload_n C dJ1_charAt_3b067_7 rfl ?_
  refine aw_baldK C (g := fun j => (byt.getD i []).getD j 0) hE.2.2.2 (vp_in_nI hk hb) dJ1_charAt_3b067_8 ?_
  refine aw_sipush C 255 dJ1_charAt_3b067_9 zk_255 ?_
  refine ae_iand C ((byt.getD i []).getD k 0 &&& 255) dJ1_charAt_3b067_12 (by rw [nI_clamp (by omega)]) ?_
  refine aw_i2cK C dJ1_charAt_3b067_13 ?_
  exact aw_iret C rfl (sc_nar _) dJ1_charAt_3b067_14 (Nat.le_of_ble_eq_true rfl) (Nat.le_of_ble_eq_true rfl) ⟨rfl, rfl, rfl⟩
theorem sk_chr {X : GX} {l : Launch} {f : AH} {n N i oK oV : Nat} {len : List Nat} {byt : List (List Int32)} (hs : STA X N len byt oK oV) (hi : i < N) {k : Nat} (hk : k < len.getD i 0) (hb : len.getD i 0 < 2 ^ 31) : AM X l yJ0_charAt_5068e cJ0_charAt_5068e 2 (some .char) 3 0 0 [.retAddr (X.2.2 (oK + i)), .int (nI k)] f n (QS f n (some (.int ((byt.getD i []).getD k 0 &&& 255)))) := by
  refine AM.of (by decide +kernel) rfl (Nat.le_of_ble_eq_true rfl) (fun p e s m args below meth c C _ => ?_)
  have hE := (hs s C.2.2.2.2.2.2.1).1 i hi
  have hZ := C.2.2.2.2.2.2.1.2.2.2.2.2.2.2.2.2.2.1
  refine aw_nl [some (.retAddr (X.2.2 (oK + i))), some (.int (nI k))] rfl ?_
  refine aw_raw_n C dJ0_charAt_5068e_0 rfl ?_
  refine aw_callK C [] mv_J0_492 (fun H locs hS => vk_recv (hs s C.2.2.2.2.2.2.1) hi hS) (sk_lat hs hi) rfl dJ0_charAt_5068e_1 (Nat.le_of_ble_eq_true rfl) (Nat.le_of_ble_eq_true rfl) rfl (Nat.le_of_ble_eq_true rfl) (Nat.le_of_ble_eq_true rfl) (Nat.le_of_ble_eq_true rfl) (fun v9 f9 n9 hh => ?_)
  obtain ⟨rfl, rfl, rfl⟩ := hh
  refine aw_if_eq C 16 dJ0_charAt_5068e_4 (by decide) (fun q => absurd q (by decide)) (fun _ => ?_)
  refine aw_raw_n C dJ0_charAt_5068e_7 rfl ?_
  refine aw_getK C (.retAddr (X.2.2 (oV + i))) hE.2.2.1 fk_val dJ0_charAt_5068e_8 ?_
  refine aw_iload_n C dJ0_charAt_5068e_11 rfl ?_
  refine aw_callS C [.retAddr (X.2.2 (oV + i)), .int (nI k)] ms_J0_495 (sk_chr1 hs hi hk hb) rfl dJ0_charAt_5068e_12 (Nat.le_of_ble_eq_true rfl) (Nat.le_of_ble_eq_true rfl) rfl (Nat.le_of_ble_eq_true rfl) (Nat.le_of_ble_eq_true rfl) (Nat.le_of_ble_eq_true rfl) (fun v9 f9 n9 hh => ?_)
  obtain ⟨rfl, rfl, rfl⟩ := hh
  exact aw_iret C rfl (sc_nar _) dJ0_charAt_5068e_15 (Nat.le_of_ble_eq_true rfl) (Nat.le_of_ble_eq_true rfl) ⟨rfl, rfl, rfl⟩
