set_option maxHeartbeats 4000000 in
set_option maxRecDepth 100000 in
theorem c_L_rule_405 {X : GX} {l : Launch} {f : AH} {n : Nat} {a2 : Int32} {g74 : Nat → Option Nat} (q0 : 1 ≤ a2.toInt ∧ a2.toInt ≤ 40) (h0 : f 0 = some (.inr (8, [.ref 1, .ref 3, .ref 8, .ref 13, .ref 18, .ref 59, .ref 115, .ref 171, .ref 178, .int 0, .int 0, .int 0, .int 0, .int (-1)]))) (h3 : f 3 = some (.inr (7, [.ref 4, .int 0, .int (-1), .int 0, .int 1, .int 0, .null, .int 0, .ref 6, .ref 7]))) (h8 : f 8 = some (.inr (7, [.ref 9, .int 0, .int (-1), .int 0, .int 1, .int 0, .null, .int 0, .ref 11, .ref 12]))) (h11 : f 11 = some (.inl (2, 4, .inr (.inr (fun _ => none))))) (h6 : f 6 = some (.inl (2, 4, .inr (.inr (fun _ => none))))) (h12 : f 12 = some (.inl (2, 40, .inr (.inr (fun _ => none))))) (h7 : f 7 = some (.inl (2, 40, .inr (.inr (fun _ => none))))) (h59 : f 59 = some (.inr (1, [.ref 60, .ref 62, .ref 74, .int 0, .ref 68, .ref 71, .ref 64, .ref 66]))) (h60 : f 60 = some (.inr (5, [.ref 61, .int 0]))) (h62 : f 62 = some (.inr (5, [.ref 63, .int 0]))) (h68 : f 68 = some (.inr (6, [.ref 69, .int 0, .int 0, .int 0, .int 0, .int 0, .int 0, .int 0, .int 0, .int 0]))) (h74 : f 74 = some (.inl (1, 40, .inr (.inr g74)))) (h4 : f 4 = some (.inr (5, [.ref 5, .int 0]))) (h171 : f 171 = some (.inr (0, [.ref 172, .ref 174, .ref 176, .int 0]))) (h172 : f 172 = some (.inr (5, [.ref 173, .int 0]))) (h18 : f 18 = some (.inl (3, 8, .inr (.inr (va_up (va_up (va_up (va_up (va_up (va_up (va_up (va_up (fun _ => none) 0 (some 19)) 1 (some 24)) 2 (some 29)) 3 (some 34)) 4 (some 39)) 5 (some 44)) 6 (some 49)) 7 (some 54)))))) (h19 : f 19 = some (.inr (7, [.ref 20, .int 0, .int (-1), .int 0, .int 1, .int 0, .null, .int 0, .ref 22, .ref 23]))) (h22 : f 22 = some (.inl (2, 4, .inr (.inr (fun _ => none))))) (h23 : f 23 = some (.inl (2, 40, .inr (.inr (fun _ => none))))) (h223 : f 223 = some (.inl (4, 1, .inr (.inl (fun _ => 0))))) : AMW X l yL_rule cL_rule 5 (some .int) [(0, 10, 13, 23), (0, 10, 17, 13)] 6 0 0 [.ref 0, .int 1, .int a2, .ref 223] f n (EXO f [(19, .inr (7, [.ref 4, .int 0, .int (-1), .int 0, .int 1, .int 0, .null, .int 0, .ref 22, .ref 23])), (0, .inr (8, [.ref 1, .ref 3, .ref 8, .ref 13, .ref 18, .ref 59, .ref 115, .ref 171, .ref 178, .int 0, .int 0, .int 1, .int 0, .int (-1)])), (3, .inr (7, [.ref 4, .int 0, .int (-1), .int 0, .int a2, .int 0, .null, .int 0, .ref 6, .ref 7])), (59, .inr (1, [.ref 60, .ref 62, .ref 74, .int 0, .ref 68, .ref 71, .ref 64, .ref 66])), (68, .inr (6, [.ref 4, .int 0, .int 0, .int 0, .int 0, .int 0, .int 0, .int 0, .int 0, .int 0])), (8, .inr (7, [.ref 4, .int 0, .int (-1), .int 0, .int 1, .int 0, .null, .int 0, .ref 11, .ref 12])), (223, .inl (4, 1, .inr (.inl (vp_updL (fun _ => 0) 0 0))))] (some (.int 0)) n) := by
  refine AMW.of (by decide +kernel) rfl (Nat.le_of_ble_eq_true rfl) (fun p e s m args below meth c C htab => ?_)
  refine ao_start ?_
  refine aw_nl [some (.ref 0), some (.int 1), some (.int a2), some (.ref 223), none] rfl ?_
  obtain ⟨q0a, q0b⟩ := q0
  refine aw_ald_n C dL_rule_0 rfl ?_
  refine aw_iconst C 0 dL_rule_1 ki_0 ?_
  refine aw_ald_n C dL_rule_2 rfl ?_
  refine aw_iload_n C dL_rule_3 rfl ?_
  refine aw_iload_n C dL_rule_4 rfl ?_
  refine ao_callV C (ci := 8) (b := 0) [.int 1, .int a2] [(19, .inr (7, [.ref 4, .int 0, .int (-1), .int 0, .int 1, .int 0, .null, .int 0, .ref 22, .ref 23])), (0, .inr (8, [.ref 1, .ref 3, .ref 8, .ref 13, .ref 18, .ref 59, .ref 115, .ref 171, .ref 178, .int 0, .int 0, .int 1, .int 0, .int (-1)])), (3, .inr (7, [.ref 4, .int 0, .int (-1), .int 0, .int a2, .int 0, .null, .int 0, .ref 6, .ref 7])), (59, .inr (1, [.ref 60, .ref 62, .ref 74, .int 0, .ref 68, .ref 71, .ref 64, .ref 66])), (68, .inr (6, [.ref 4, .int 0, .int 0, .int 0, .int 0, .int 0, .int 0, .int 0, .int 0, .int 0])), (8, .inr (7, [.ref 4, .int 0, .int (-1), .int 0, .int 1, .int 0, .null, .int 0, .ref 11, .ref 12]))] mv_L_19 rfl rfl h0 (c_X8_rule_404 ⟨by omega, by omega⟩ h0 h3 h8 h11 h6 h12 h7 h59 h60 h62 h68 h74 h4 h171 h172 h18 h19 h22 h23) rfl dL_rule_5 (Nat.le_of_ble_eq_true rfl) (Nat.le_of_ble_eq_true rfl) rfl (Nat.le_of_ble_eq_true rfl) (Nat.le_of_ble_eq_true rfl) (Nat.le_of_ble_eq_true rfl) rfl ?_
  refine ae_i2l C 0 dL_rule_8 (by decide) ?_
  refine ao_last C [(19, .inr (7, [.ref 4, .int 0, .int (-1), .int 0, .int 1, .int 0, .null, .int 0, .ref 22, .ref 23])), (0, .inr (8, [.ref 1, .ref 3, .ref 8, .ref 13, .ref 18, .ref 59, .ref 115, .ref 171, .ref 178, .int 0, .int 0, .int 1, .int 0, .int (-1)])), (3, .inr (7, [.ref 4, .int 0, .int (-1), .int 0, .int a2, .int 0, .null, .int 0, .ref 6, .ref 7])), (59, .inr (1, [.ref 60, .ref 62, .ref 74, .int 0, .ref 68, .ref 71, .ref 64, .ref 66])), (68, .inr (6, [.ref 4, .int 0, .int 0, .int 0, .int 0, .int 0, .int 0, .int 0, .int 0, .int 0])), (8, .inr (7, [.ref 4, .int 0, .int (-1), .int 0, .int 1, .int 0, .null, .int 0, .ref 11, .ref 12])), (223, .inl (4, 1, .inr (.inl (vp_updL (fun _ => 0) 0 0))))] h223 (by unfold vp_in; decide) (by decide : _ = 0) dL_rule_9 rfl ?_
  refine aw_goto C 21 dL_rule_10 (by decide) ?_
  refine aw_iconst C 0 dL_rule_21 ki_0 ?_
  exact aw_iret C rfl rfl dL_rule_22 (Nat.le_of_ble_eq_true rfl) (Nat.le_of_ble_eq_true rfl) ⟨rfl, rfl, rfl⟩

set_option maxHeartbeats 4000000 in
set_option maxRecDepth 100000 in
theorem c_X9_isIn_406 {X : GX} {l : Launch} {f : AH} {n : Nat} {a0 : Int32} (q0 : 1 ≤ a0.toInt ∧ a0.toInt ≤ 40) : AM X l yX9_isIn cX9_isIn 3 (some .boolean) 0 0 0 [.int a0, .int 1, .int 40] f n (EXO f [] (some (.int 1)) n) := by
  refine AM.of (by decide +kernel) rfl (Nat.le_of_ble_eq_true rfl) (fun p e s m args below meth c C hnm => ?_)
  refine ao_start ?_
  refine aw_nl [some (.int a0), some (.int 1), some (.int 40)] rfl ?_
  obtain ⟨q0a, q0b⟩ := q0
  refine aw_iload_n C dX9_isIn_0 rfl ?_
  refine aw_iload_n C dX9_isIn_1 rfl ?_
  refine aw_icmp_lt C 14 dX9_isIn_2 (by decide) (fun q => absurd q (c_nlt (by rw [ti_1]; omega))) (fun _ => ?_)
  refine aw_iload_n C dX9_isIn_5 rfl ?_
  refine aw_iload_n C dX9_isIn_6 rfl ?_
  refine aw_icmp_gt C 14 dX9_isIn_7 (by decide) (fun q => absurd q (c_nlt (by rw [ti_40]; omega))) (fun _ => ?_)
  refine aw_iconst C 1 dX9_isIn_10 ki_1 ?_
  refine aw_goto C 15 dX9_isIn_11 (by decide) ?_
  exact aw_iret C rfl (by decide) dX9_isIn_15 (Nat.le_of_ble_eq_true rfl) (Nat.le_of_ble_eq_true rfl) ⟨rfl, rfl, rfl⟩

set_option maxHeartbeats 4000000 in
set_option maxRecDepth 100000 in
theorem c_X9_cutsAll_407 {X : GX} {l : Launch} {f : AH} {n : Nat} {w182_4 : Int32} (h181 : f 181 = some (.inr (9, (.int 0 :: .ref 182 :: .ref 183 :: .ref 184 :: .ref 185 :: .int 0 :: .int 0 :: .int 0 :: .ref 186 :: .int 0 :: .int 0 :: .int 0 :: .int (-1) :: .ref 187 :: .ref 188 :: .ref 189 :: .int 0 :: .ref 190 :: .ref 191 :: .ref 192 :: .ref 193 :: .ref 194 :: .int 0 :: .ref 195 :: .ref 196 :: .ref 197 :: .int 0 :: .ref 198 :: .ref 199 :: .ref 200 :: .ref 201 :: .ref 202 :: .ref 203 :: .int 0 :: .ref 204 :: .ref 205 :: .ref 206 :: .ref 207 :: .ref 208 :: .ref 209 :: .ref 210 :: .ref 211 :: .ref 212 :: .ref 213 :: .ref 214 :: .int 0 :: .ref 215 :: .ref 216 :: .int 0 :: .ref 217 :: .ref 218 :: .ref 219 :: .ref 220 :: .ref 221 :: .int 0 :: .int 0 :: .int 0 :: .int 0 :: .ref 222 :: .int 0 :: [])))) (h182 : f 182 = some (.inl (0, 4347, .inl (upd (tl (upd (upd (fun _ => 0) 2 (-1)) 4 1) 40) 4 w182_4)))) : AM X l yX9_cutsAll cX9_cutsAll 5 none 2 0 0 [.ref 181] f n (EXO f [(181, .inr (9, (.int 0 :: .ref 182 :: .ref 183 :: .ref 184 :: .ref 185 :: .int 0 :: .int 0 :: .int 0 :: .ref 186 :: .int 0 :: .int 0 :: .int 0 :: .int (-1) :: .ref 187 :: .ref 188 :: .ref 189 :: .int 0 :: .ref 190 :: .ref 191 :: .ref 192 :: .ref 193 :: .ref 194 :: .int 0 :: .ref 195 :: .ref 196 :: .ref 197 :: .int 0 :: .ref 198 :: .ref 199 :: .ref 200 :: .ref 201 :: .ref 202 :: .ref 203 :: .int 0 :: .ref 204 :: .ref 205 :: .ref 206 :: .ref 207 :: .ref 208 :: .ref 209 :: .ref 210 :: .ref 211 :: .ref 212 :: .ref 213 :: .ref 214 :: .int 0 :: .ref 215 :: .ref 216 :: .int 0 :: .ref 217 :: .ref 218 :: .ref 219 :: .ref 220 :: .ref 221 :: .int 0 :: .int 0 :: .int 0 :: .int 0 :: .ref 222 :: .int 0 :: [])))] none n) := by
  refine AM.of (by decide +kernel) rfl (by decide) (fun p e s m args below meth c C hnm => ?_)
  refine ao_start ?_
  refine aw_nl [some (.ref 181), none, none, none, none] rfl ?_
  refine aw_ald_n C dX9_cutsAll_0 rfl ?_
  refine aw_iconst C 0 dX9_cutsAll_1 ki_0 ?_
  refine ao_put C [(181, .inr (9, (.int 0 :: .ref 182 :: .ref 183 :: .ref 184 :: .ref 185 :: .int 0 :: .int 0 :: .int 0 :: .ref 186 :: .int 0 :: .int 0 :: .int 0 :: .int (-1) :: .ref 187 :: .ref 188 :: .ref 189 :: .int 0 :: .ref 190 :: .ref 191 :: .ref 192 :: .ref 193 :: .ref 194 :: .int 0 :: .ref 195 :: .ref 196 :: .ref 197 :: .int 0 :: .ref 198 :: .ref 199 :: .ref 200 :: .ref 201 :: .ref 202 :: .ref 203 :: .int 0 :: .ref 204 :: .ref 205 :: .ref 206 :: .ref 207 :: .ref 208 :: .ref 209 :: .ref 210 :: .ref 211 :: .ref 212 :: .ref 213 :: .ref 214 :: .int 0 :: .ref 215 :: .ref 216 :: .int 0 :: .ref 217 :: .ref 218 :: .ref 219 :: .ref 220 :: .ref 221 :: .int 0 :: .int 0 :: .int 0 :: .int 0 :: .ref 222 :: .int 0 :: [])))] gf_X9_204 cf9 nf9_33 h181 (Nat.le_of_ble_eq_true rfl) rfl rfl dX9_cutsAll_2 rfl ?_
  refine aw_ald_n C dX9_cutsAll_5 rfl ?_
  refine aw_iconst C 0 dX9_cutsAll_6 ki_0 ?_
  refine ao_put C [(181, .inr (9, (.int 0 :: .ref 182 :: .ref 183 :: .ref 184 :: .ref 185 :: .int 0 :: .int 0 :: .int 0 :: .ref 186 :: .int 0 :: .int 0 :: .int 0 :: .int (-1) :: .ref 187 :: .ref 188 :: .ref 189 :: .int 0 :: .ref 190 :: .ref 191 :: .ref 192 :: .ref 193 :: .ref 194 :: .int 0 :: .ref 195 :: .ref 196 :: .ref 197 :: .int 0 :: .ref 198 :: .ref 199 :: .ref 200 :: .ref 201 :: .ref 202 :: .ref 203 :: .int 0 :: .ref 204 :: .ref 205 :: .ref 206 :: .ref 207 :: .ref 208 :: .ref 209 :: .ref 210 :: .ref 211 :: .ref 212 :: .ref 213 :: .ref 214 :: .int 0 :: .ref 215 :: .ref 216 :: .int 0 :: .ref 217 :: .ref 218 :: .ref 219 :: .ref 220 :: .ref 221 :: .int 0 :: .int 0 :: .int 0 :: .int 0 :: .ref 222 :: .int 0 :: [])))] gf_X9_217 cf9 nf9_45 rfl (Nat.le_of_ble_eq_true rfl) rfl rfl dX9_cutsAll_7 rfl ?_
  refine aw_iconst C 0 dX9_cutsAll_10 ki_0 ?_
  refine aw_istore_n C dX9_cutsAll_11 (by decide) rfl ?_
  refine aw_nl [some (.ref 181), some (.int 0), none, none, none] rfl ?_
  refine aw_iload_n C dX9_cutsAll_12 rfl ?_
  refine aw_ald_n C dX9_cutsAll_13 rfl ?_
  refine aw_get C gf_X9_220 rfl rfl dX9_cutsAll_14 ?_
  refine aw_icmp_ge C 42 dX9_cutsAll_17 (by decide) (fun _ => ?_) (fun q => absurd (by decide) q)
  refine aw_ald_n C dX9_cutsAll_42 rfl ?_
  refine aw_ald_n C dX9_cutsAll_43 rfl ?_
  refine aw_ald_n C dX9_cutsAll_44 rfl ?_
  refine aw_get C gf_X9_7 rfl rfl dX9_cutsAll_45 ?_
  refine aw_iconst C 1 dX9_cutsAll_48 ki_1 ?_
  refine ao_iald C 0 h182 (by unfold vp_in; decide) (by decide : _ = 1) rfl dX9_cutsAll_49 ?_
  refine aw_ald_n C dX9_cutsAll_50 rfl ?_
  refine aw_get C gf_X9_30 rfl rfl dX9_cutsAll_51 ?_
  refine aw_ald_n C dX9_cutsAll_54 rfl ?_
  refine aw_get C gf_X9_220 rfl rfl dX9_cutsAll_55 ?_
  refine aw_ald_n C dX9_cutsAll_58 rfl ?_
  refine aw_get C gf_X9_39 rfl rfl dX9_cutsAll_59 ?_
  refine aw_ald_n C dX9_cutsAll_62 rfl ?_
  refine aw_get C gf_X9_42 rfl rfl dX9_cutsAll_63 ?_
  refine aw_ald_n C dX9_cutsAll_66 rfl ?_
  refine aw_get C gf_X9_45 rfl rfl dX9_cutsAll_67 ?_
  refine ao_callV C (ci := 9) (b := 181) [.int 0, .ref 187, .int 0, .ref 190, .ref 191, .ref 192] [(181, .inr (9, (.int 0 :: .ref 182 :: .ref 183 :: .ref 184 :: .ref 185 :: .int 0 :: .int 0 :: .int 0 :: .ref 186 :: .int 0 :: .int 0 :: .int 0 :: .int (-1) :: .ref 187 :: .ref 188 :: .ref 189 :: .int 0 :: .ref 190 :: .ref 191 :: .ref 192 :: .ref 193 :: .ref 194 :: .int 0 :: .ref 195 :: .ref 196 :: .ref 197 :: .int 0 :: .ref 198 :: .ref 199 :: .ref 200 :: .ref 201 :: .ref 202 :: .ref 203 :: .int 0 :: .ref 204 :: .ref 205 :: .ref 206 :: .ref 207 :: .ref 208 :: .ref 209 :: .ref 210 :: .ref 211 :: .ref 212 :: .ref 213 :: .ref 214 :: .int 0 :: .ref 215 :: .ref 216 :: .int 0 :: .ref 217 :: .ref 218 :: .ref 219 :: .ref 220 :: .ref 221 :: .int 0 :: .int 0 :: .int 0 :: .int 0 :: .ref 222 :: .int 0 :: [])))] mv_X9_223 rfl rfl rfl (c_X9_cuts_199 rfl) rfl dX9_cutsAll_70 (Nat.le_of_ble_eq_true rfl) (Nat.le_of_ble_eq_true rfl) rfl (Nat.le_of_ble_eq_true rfl) (Nat.le_of_ble_eq_true rfl) (Nat.le_of_ble_eq_true rfl) rfl ?_
  refine ao_put C [(181, .inr (9, (.int 0 :: .ref 182 :: .ref 183 :: .ref 184 :: .ref 185 :: .int 0 :: .int 0 :: .int 0 :: .ref 186 :: .int 0 :: .int 0 :: .int 0 :: .int (-1) :: .ref 187 :: .ref 188 :: .ref 189 :: .int 0 :: .ref 190 :: .ref 191 :: .ref 192 :: .ref 193 :: .ref 194 :: .int 0 :: .ref 195 :: .ref 196 :: .ref 197 :: .int 0 :: .ref 198 :: .ref 199 :: .ref 200 :: .ref 201 :: .ref 202 :: .ref 203 :: .int 0 :: .ref 204 :: .ref 205 :: .ref 206 :: .ref 207 :: .ref 208 :: .ref 209 :: .ref 210 :: .ref 211 :: .ref 212 :: .ref 213 :: .ref 214 :: .int 0 :: .ref 215 :: .ref 216 :: .int 0 :: .ref 217 :: .ref 218 :: .ref 219 :: .ref 220 :: .ref 221 :: .int 0 :: .int 0 :: .int 0 :: .int 0 :: .ref 222 :: .int 0 :: [])))] gf_X9_227 cf9 nf9_22 rfl (Nat.le_of_ble_eq_true rfl) rfl rfl dX9_cutsAll_73 rfl ?_
  refine aw_iconst C 0 dX9_cutsAll_76 ki_0 ?_
  refine aw_istore_n C dX9_cutsAll_77 (by decide) rfl ?_
  refine aw_nl [some (.ref 181), some (.int 0), none, none, none] rfl ?_
  refine aw_iload_n C dX9_cutsAll_78 rfl ?_
  refine aw_ald_n C dX9_cutsAll_79 rfl ?_
  refine aw_get C gf_X9_227 rfl rfl dX9_cutsAll_80 ?_
  refine aw_icmp_ge C 339 dX9_cutsAll_83 (by decide) (fun _ => ?_) (fun q => absurd (by decide) q)
  exact aw_vret C rfl dX9_cutsAll_339 (Nat.le_of_ble_eq_true rfl) (Nat.le_of_ble_eq_true rfl) ⟨rfl, rfl, rfl⟩

set_option maxHeartbeats 4000000 in
set_option maxRecDepth 100000 in
theorem c_X9_cutsFile_408 {X : GX} {l : Launch} {f : AH} {n : Nat} {w182_4 : Int32} (h181 : f 181 = some (.inr (9, (.int 0 :: .ref 182 :: .ref 183 :: .ref 184 :: .ref 185 :: .int 0 :: .int 0 :: .int 0 :: .ref 186 :: .int 0 :: .int 0 :: .int 0 :: .int (-1) :: .ref 187 :: .ref 188 :: .ref 189 :: .int 0 :: .ref 190 :: .ref 191 :: .ref 192 :: .ref 193 :: .ref 194 :: .int 0 :: .ref 195 :: .ref 196 :: .ref 197 :: .int 0 :: .ref 198 :: .ref 199 :: .ref 200 :: .ref 201 :: .ref 202 :: .ref 203 :: .int 0 :: .ref 204 :: .ref 205 :: .ref 206 :: .ref 207 :: .ref 208 :: .ref 209 :: .ref 210 :: .ref 211 :: .ref 212 :: .ref 213 :: .ref 214 :: .int 0 :: .ref 215 :: .ref 216 :: .int 0 :: .ref 217 :: .ref 218 :: .ref 219 :: .ref 220 :: .ref 221 :: .int 0 :: .int 0 :: .int 0 :: .int 0 :: .ref 222 :: .int 0 :: [])))) (h182 : f 182 = some (.inl (0, 4347, .inl (upd (tl (upd (upd (fun _ => 0) 2 (-1)) 4 1) 40) 4 w182_4)))) : AM X l yX9_cutsFile cX9_cutsFile 2 none 3 0 0 [.ref 181] f n (EXO f [(181, .inr (9, (.int 0 :: .ref 182 :: .ref 183 :: .ref 184 :: .ref 185 :: .int 0 :: .int 0 :: .int 0 :: .ref 186 :: .int 0 :: .int 0 :: .int 0 :: .int (-1) :: .ref 187 :: .ref 188 :: .ref 189 :: .int 0 :: .ref 190 :: .ref 191 :: .ref 192 :: .ref 193 :: .ref 194 :: .int 0 :: .ref 195 :: .ref 196 :: .ref 197 :: .int 0 :: .ref 198 :: .ref 199 :: .ref 200 :: .ref 201 :: .ref 202 :: .ref 203 :: .int 0 :: .ref 204 :: .ref 205 :: .ref 206 :: .ref 207 :: .ref 208 :: .ref 209 :: .ref 210 :: .ref 211 :: .ref 212 :: .ref 213 :: .ref 214 :: .int 0 :: .ref 215 :: .ref 216 :: .int 0 :: .ref 217 :: .ref 218 :: .ref 219 :: .ref 220 :: .ref 221 :: .int 0 :: .int 0 :: .int 0 :: .int 0 :: .ref 222 :: .int 0 :: [])))] none n) := by
  refine AM.of (by decide +kernel) rfl (by decide) (fun p e s m args below meth c C hnm => ?_)
  refine ao_start ?_
  refine aw_nl [some (.ref 181), none] rfl ?_
  refine aw_ald_n C dX9_cutsFile_0 rfl ?_
  refine aw_ald_n C dX9_cutsFile_1 rfl ?_
  refine aw_get C gf_X9_7 h181 rfl dX9_cutsFile_2 ?_
  refine aw_iconst C 0 dX9_cutsFile_5 ki_0 ?_
  refine ao_iald C 0 h182 (by unfold vp_in; decide) (by decide : _ = 0) rfl dX9_cutsFile_6 ?_
  refine ao_put C [(181, .inr (9, (.int 0 :: .ref 182 :: .ref 183 :: .ref 184 :: .ref 185 :: .int 0 :: .int 0 :: .int 0 :: .ref 186 :: .int 0 :: .int 0 :: .int 0 :: .int (-1) :: .ref 187 :: .ref 188 :: .ref 189 :: .int 0 :: .ref 190 :: .ref 191 :: .ref 192 :: .ref 193 :: .ref 194 :: .int 0 :: .ref 195 :: .ref 196 :: .ref 197 :: .int 0 :: .ref 198 :: .ref 199 :: .ref 200 :: .ref 201 :: .ref 202 :: .ref 203 :: .int 0 :: .ref 204 :: .ref 205 :: .ref 206 :: .ref 207 :: .ref 208 :: .ref 209 :: .ref 210 :: .ref 211 :: .ref 212 :: .ref 213 :: .ref 214 :: .int 0 :: .ref 215 :: .ref 216 :: .int 0 :: .ref 217 :: .ref 218 :: .ref 219 :: .ref 220 :: .ref 221 :: .int 0 :: .int 0 :: .int 0 :: .int 0 :: .ref 222 :: .int 0 :: [])))] gf_X9_220 cf9 nf9_16 h181 (Nat.le_of_ble_eq_true rfl) rfl rfl dX9_cutsFile_7 rfl ?_
  refine aw_iconst C 0 dX9_cutsFile_10 ki_0 ?_
  refine aw_istore_n C dX9_cutsFile_11 (by decide) rfl ?_
  refine aw_nl [some (.ref 181), some (.int 0)] rfl ?_
  refine aw_iload_n C dX9_cutsFile_12 rfl ?_
  refine aw_ald_n C dX9_cutsFile_13 rfl ?_
  refine aw_get C gf_X9_220 rfl rfl dX9_cutsFile_14 ?_
  refine aw_icmp_ge C 41 dX9_cutsFile_17 (by decide) (fun _ => ?_) (fun q => absurd (by decide) q)
  refine aw_ald_n C dX9_cutsFile_41 rfl ?_
  refine ao_callV C (ci := 9) (b := 181) [] [(181, .inr (9, (.int 0 :: .ref 182 :: .ref 183 :: .ref 184 :: .ref 185 :: .int 0 :: .int 0 :: .int 0 :: .ref 186 :: .int 0 :: .int 0 :: .int 0 :: .int (-1) :: .ref 187 :: .ref 188 :: .ref 189 :: .int 0 :: .ref 190 :: .ref 191 :: .ref 192 :: .ref 193 :: .ref 194 :: .int 0 :: .ref 195 :: .ref 196 :: .ref 197 :: .int 0 :: .ref 198 :: .ref 199 :: .ref 200 :: .ref 201 :: .ref 202 :: .ref 203 :: .int 0 :: .ref 204 :: .ref 205 :: .ref 206 :: .ref 207 :: .ref 208 :: .ref 209 :: .ref 210 :: .ref 211 :: .ref 212 :: .ref 213 :: .ref 214 :: .int 0 :: .ref 215 :: .ref 216 :: .int 0 :: .ref 217 :: .ref 218 :: .ref 219 :: .ref 220 :: .ref 221 :: .int 0 :: .int 0 :: .int 0 :: .int 0 :: .ref 222 :: .int 0 :: [])))] mv_X9_241 rfl rfl rfl (c_X9_cutsAll_407 rfl h182) rfl dX9_cutsFile_42 (Nat.le_of_ble_eq_true rfl) (Nat.le_of_ble_eq_true rfl) rfl (Nat.le_of_ble_eq_true rfl) (Nat.le_of_ble_eq_true rfl) (Nat.le_of_ble_eq_true rfl) rfl ?_
  exact aw_vret C rfl dX9_cutsFile_45 (Nat.le_of_ble_eq_true rfl) (Nat.le_of_ble_eq_true rfl) ⟨rfl, rfl, rfl⟩

set_option maxHeartbeats 4000000 in
set_option maxRecDepth 100000 in
theorem c_X9_cutsAnew_409 {X : GX} {l : Launch} {f : AH} {n : Nat} {w182_4 : Int32} (h181 : f 181 = some (.inr (9, (.int 0 :: .ref 182 :: .ref 183 :: .ref 184 :: .ref 185 :: .int 0 :: .int 0 :: .int 0 :: .ref 186 :: .int 0 :: .int 0 :: .int 0 :: .int (-1) :: .ref 187 :: .ref 188 :: .ref 189 :: .int 0 :: .ref 190 :: .ref 191 :: .ref 192 :: .ref 193 :: .ref 194 :: .int 0 :: .ref 195 :: .ref 196 :: .ref 197 :: .int 0 :: .ref 198 :: .ref 199 :: .ref 200 :: .ref 201 :: .ref 202 :: .ref 203 :: .int 0 :: .ref 204 :: .ref 205 :: .ref 206 :: .ref 207 :: .ref 208 :: .ref 209 :: .ref 210 :: .ref 211 :: .ref 212 :: .ref 213 :: .ref 214 :: .int 0 :: .ref 215 :: .ref 216 :: .int 0 :: .ref 217 :: .ref 218 :: .ref 219 :: .ref 220 :: .ref 221 :: .int 0 :: .int 0 :: .int 0 :: .int 0 :: .ref 222 :: .int 0 :: [])))) (h182 : f 182 = some (.inl (0, 4347, .inl (upd (tl (upd (upd (fun _ => 0) 2 (-1)) 4 1) 40) 4 w182_4)))) : AM X l yX9_cutsAnew cX9_cutsAnew 2 none 4 0 0 [.ref 181] f n (EXO f [(181, .inr (9, (.int 0 :: .ref 182 :: .ref 183 :: .ref 184 :: .ref 185 :: .int 0 :: .int 0 :: .int 0 :: .ref 186 :: .int 0 :: .int 0 :: .int 0 :: .int (-1) :: .ref 187 :: .ref 188 :: .ref 189 :: .int 0 :: .ref 190 :: .ref 191 :: .ref 192 :: .ref 193 :: .ref 194 :: .int 0 :: .ref 195 :: .ref 196 :: .ref 197 :: .int 0 :: .ref 198 :: .ref 199 :: .ref 200 :: .ref 201 :: .ref 202 :: .ref 203 :: .int 0 :: .ref 204 :: .ref 205 :: .ref 206 :: .ref 207 :: .ref 208 :: .ref 209 :: .ref 210 :: .ref 211 :: .ref 212 :: .ref 213 :: .ref 214 :: .int 0 :: .ref 215 :: .ref 216 :: .int 0 :: .ref 217 :: .ref 218 :: .ref 219 :: .ref 220 :: .ref 221 :: .int 0 :: .int 0 :: .int 0 :: .int 0 :: .ref 222 :: .int 0 :: []))), (182, .inl (0, 4347, .inl (tl (upd (tl (upd (upd (fun _ => 0) 2 (-1)) 4 1) 40) 4 w182_4) 40)))] none n) := by
  refine AM.of (by decide +kernel) rfl (by decide) (fun p e s m args below meth c C hnm => ?_)
  refine ao_start ?_
  refine aw_nl [some (.ref 181), none] rfl ?_
  refine aw_ald_n C dX9_cutsAnew_0 rfl ?_
  refine ao_callV C (ci := 9) (b := 181) [] [(181, .inr (9, (.int 0 :: .ref 182 :: .ref 183 :: .ref 184 :: .ref 185 :: .int 0 :: .int 0 :: .int 0 :: .ref 186 :: .int 0 :: .int 0 :: .int 0 :: .int (-1) :: .ref 187 :: .ref 188 :: .ref 189 :: .int 0 :: .ref 190 :: .ref 191 :: .ref 192 :: .ref 193 :: .ref 194 :: .int 0 :: .ref 195 :: .ref 196 :: .ref 197 :: .int 0 :: .ref 198 :: .ref 199 :: .ref 200 :: .ref 201 :: .ref 202 :: .ref 203 :: .int 0 :: .ref 204 :: .ref 205 :: .ref 206 :: .ref 207 :: .ref 208 :: .ref 209 :: .ref 210 :: .ref 211 :: .ref 212 :: .ref 213 :: .ref 214 :: .int 0 :: .ref 215 :: .ref 216 :: .int 0 :: .ref 217 :: .ref 218 :: .ref 219 :: .ref 220 :: .ref 221 :: .int 0 :: .int 0 :: .int 0 :: .int 0 :: .ref 222 :: .int 0 :: [])))] mv_X9_244 rfl rfl h181 (c_X9_cutsFile_408 h181 h182) rfl dX9_cutsAnew_1 (Nat.le_of_ble_eq_true rfl) (Nat.le_of_ble_eq_true rfl) rfl (Nat.le_of_ble_eq_true rfl) (Nat.le_of_ble_eq_true rfl) (Nat.le_of_ble_eq_true rfl) rfl ?_
  refine aw_iconst C 0 dX9_cutsAnew_4 ki_0 ?_
  refine aw_istore_n C dX9_cutsAnew_5 (by decide) rfl ?_
  refine aw_nl [some (.ref 181), some (.int 0)] rfl ?_
  refine lp_X9_cutsAnew C (M := 181) (a := 182) (fs := (.int 0 :: .ref 182 :: .ref 183 :: .ref 184 :: .ref 185 :: .int 0 :: .int 0 :: .int 0 :: .ref 186 :: .int 0 :: .int 0 :: .int 0 :: .int (-1) :: .ref 187 :: .ref 188 :: .ref 189 :: .int 0 :: .ref 190 :: .ref 191 :: .ref 192 :: .ref 193 :: .ref 194 :: .int 0 :: .ref 195 :: .ref 196 :: .ref 197 :: .int 0 :: .ref 198 :: .ref 199 :: .ref 200 :: .ref 201 :: .ref 202 :: .ref 203 :: .int 0 :: .ref 204 :: .ref 205 :: .ref 206 :: .ref 207 :: .ref 208 :: .ref 209 :: .ref 210 :: .ref 211 :: .ref 212 :: .ref 213 :: .ref 214 :: .int 0 :: .ref 215 :: .ref 216 :: .int 0 :: .ref 217 :: .ref 218 :: .ref 219 :: .ref 220 :: .ref 221 :: .int 0 :: .int 0 :: .int 0 :: .int 0 :: .ref 222 :: .int 0 :: [])) (g := upd (tl (upd (upd (fun _ => 0) 2 (-1)) 4 1) 40) 4 w182_4) [(181, .inr (9, (.int 0 :: .ref 182 :: .ref 183 :: .ref 184 :: .ref 185 :: .int 0 :: .int 0 :: .int 0 :: .ref 186 :: .int 0 :: .int 0 :: .int 0 :: .int (-1) :: .ref 187 :: .ref 188 :: .ref 189 :: .int 0 :: .ref 190 :: .ref 191 :: .ref 192 :: .ref 193 :: .ref 194 :: .int 0 :: .ref 195 :: .ref 196 :: .ref 197 :: .int 0 :: .ref 198 :: .ref 199 :: .ref 200 :: .ref 201 :: .ref 202 :: .ref 203 :: .int 0 :: .ref 204 :: .ref 205 :: .ref 206 :: .ref 207 :: .ref 208 :: .ref 209 :: .ref 210 :: .ref 211 :: .ref 212 :: .ref 213 :: .ref 214 :: .int 0 :: .ref 215 :: .ref 216 :: .int 0 :: .ref 217 :: .ref 218 :: .ref 219 :: .ref 220 :: .ref 221 :: .int 0 :: .int 0 :: .int 0 :: .int 0 :: .ref 222 :: .int 0 :: []))), (182, .inl (0, 4347, .inl (tl (upd (tl (upd (upd (fun _ => 0) 2 (-1)) 4 1) 40) 4 w182_4) 40)))] rfl rfl (by decide) h182 rfl ?_
  exact aw_vret C rfl dX9_cutsAnew_32 (Nat.le_of_ble_eq_true rfl) (Nat.le_of_ble_eq_true rfl) ⟨rfl, rfl, rfl⟩

set_option maxHeartbeats 4000000 in
set_option maxRecDepth 100000 in
theorem c_X9_rules_410 {X : GX} {l : Launch} {f : AH} {n : Nat} {a2 : Int32} (q0 : 1 ≤ a2.toInt ∧ a2.toInt ≤ 40) (h181 : f 181 = some (.inr (9, (.int 0 :: .ref 182 :: .ref 183 :: .ref 184 :: .ref 185 :: .int 0 :: .int 0 :: .int 0 :: .ref 186 :: .int 0 :: .int 0 :: .int 0 :: .int (-1) :: .ref 187 :: .ref 188 :: .ref 189 :: .int 0 :: .ref 190 :: .ref 191 :: .ref 192 :: .ref 193 :: .ref 194 :: .int 0 :: .ref 195 :: .ref 196 :: .ref 197 :: .int 0 :: .ref 198 :: .ref 199 :: .ref 200 :: .ref 201 :: .ref 202 :: .ref 203 :: .int 0 :: .ref 204 :: .ref 205 :: .ref 206 :: .ref 207 :: .ref 208 :: .ref 209 :: .ref 210 :: .ref 211 :: .ref 212 :: .ref 213 :: .ref 214 :: .int 0 :: .ref 215 :: .ref 216 :: .int 0 :: .ref 217 :: .ref 218 :: .ref 219 :: .ref 220 :: .ref 221 :: .int 0 :: .int 0 :: .int 0 :: .int 0 :: .ref 222 :: .int 0 :: [])))) (h182 : f 182 = some (.inl (0, 4347, .inl (tl (upd (upd (fun _ => 0) 2 (-1)) 4 1) 40)))) : AM X l yX9_rules cX9_rules 3 (some .int) 5 0 0 [.ref 181, .int 4, .int a2] f n (EXO f [(182, .inl (0, 4347, .inl (tl (upd (tl (upd (upd (fun _ => 0) 2 (-1)) 4 1) 40) 4 a2) 40))), (181, .inr (9, (.int 0 :: .ref 182 :: .ref 183 :: .ref 184 :: .ref 185 :: .int 0 :: .int 0 :: .int 0 :: .ref 186 :: .int 0 :: .int 0 :: .int 0 :: .int (-1) :: .ref 187 :: .ref 188 :: .ref 189 :: .int 0 :: .ref 190 :: .ref 191 :: .ref 192 :: .ref 193 :: .ref 194 :: .int 0 :: .ref 195 :: .ref 196 :: .ref 197 :: .int 0 :: .ref 198 :: .ref 199 :: .ref 200 :: .ref 201 :: .ref 202 :: .ref 203 :: .int 0 :: .ref 204 :: .ref 205 :: .ref 206 :: .ref 207 :: .ref 208 :: .ref 209 :: .ref 210 :: .ref 211 :: .ref 212 :: .ref 213 :: .ref 214 :: .int 0 :: .ref 215 :: .ref 216 :: .int 0 :: .ref 217 :: .ref 218 :: .ref 219 :: .ref 220 :: .ref 221 :: .int 0 :: .int 0 :: .int 0 :: .int 0 :: .ref 222 :: .int 0 :: [])))] (some (.int 0)) n) := by
  refine AM.of (by decide +kernel) rfl (Nat.le_of_ble_eq_true rfl) (fun p e s m args below meth c C hnm => ?_)
  refine ao_start ?_
  refine aw_nl [some (.ref 181), some (.int 4), some (.int a2)] rfl ?_
  obtain ⟨q0a, q0b⟩ := q0
  refine aw_ald_n C dX9_rules_0 rfl ?_
  refine aw_get C gf_X9_7 h181 rfl dX9_rules_1 ?_
  refine aw_iload_n C dX9_rules_4 rfl ?_
  refine aw_iload_n C dX9_rules_5 rfl ?_
  refine ao_iast C [(182, .inl (0, 4347, .inl (upd (tl (upd (upd (fun _ => 0) 2 (-1)) 4 1) 40) 4 a2)))] h182 (by unfold vp_in; decide) (by decide : _ = 4) dX9_rules_6 rfl ?_
  refine aw_ald_n C dX9_rules_7 rfl ?_
  refine ao_callV C (ci := 9) (b := 181) [] [(182, .inl (0, 4347, .inl (tl (upd (tl (upd (upd (fun _ => 0) 2 (-1)) 4 1) 40) 4 a2) 40))), (181, .inr (9, (.int 0 :: .ref 182 :: .ref 183 :: .ref 184 :: .ref 185 :: .int 0 :: .int 0 :: .int 0 :: .ref 186 :: .int 0 :: .int 0 :: .int 0 :: .int (-1) :: .ref 187 :: .ref 188 :: .ref 189 :: .int 0 :: .ref 190 :: .ref 191 :: .ref 192 :: .ref 193 :: .ref 194 :: .int 0 :: .ref 195 :: .ref 196 :: .ref 197 :: .int 0 :: .ref 198 :: .ref 199 :: .ref 200 :: .ref 201 :: .ref 202 :: .ref 203 :: .int 0 :: .ref 204 :: .ref 205 :: .ref 206 :: .ref 207 :: .ref 208 :: .ref 209 :: .ref 210 :: .ref 211 :: .ref 212 :: .ref 213 :: .ref 214 :: .int 0 :: .ref 215 :: .ref 216 :: .int 0 :: .ref 217 :: .ref 218 :: .ref 219 :: .ref 220 :: .ref 221 :: .int 0 :: .int 0 :: .int 0 :: .int 0 :: .ref 222 :: .int 0 :: [])))] mv_X9_322 rfl rfl h181 (c_X9_cutsAnew_409 h181 rfl) rfl dX9_rules_8 (Nat.le_of_ble_eq_true rfl) (Nat.le_of_ble_eq_true rfl) rfl (Nat.le_of_ble_eq_true rfl) (Nat.le_of_ble_eq_true rfl) (Nat.le_of_ble_eq_true rfl) rfl ?_
  refine aw_iconst C 0 dX9_rules_11 ki_0 ?_
  exact aw_iret C rfl rfl dX9_rules_12 (Nat.le_of_ble_eq_true rfl) (Nat.le_of_ble_eq_true rfl) ⟨rfl, rfl, rfl⟩

set_option maxHeartbeats 4000000 in
set_option maxRecDepth 100000 in
theorem c_X9_rule_411 {X : GX} {l : Launch} {f : AH} {n : Nat} {a2 : Int32} (q0 : 1 ≤ a2.toInt ∧ a2.toInt ≤ 40) (h181 : f 181 = some (.inr (9, (.int 0 :: .ref 182 :: .ref 183 :: .ref 184 :: .ref 185 :: .int 0 :: .int 0 :: .int 0 :: .ref 186 :: .int 0 :: .int 0 :: .int 0 :: .int (-1) :: .ref 187 :: .ref 188 :: .ref 189 :: .int 0 :: .ref 190 :: .ref 191 :: .ref 192 :: .ref 193 :: .ref 194 :: .int 0 :: .ref 195 :: .ref 196 :: .ref 197 :: .int 0 :: .ref 198 :: .ref 199 :: .ref 200 :: .ref 201 :: .ref 202 :: .ref 203 :: .int 0 :: .ref 204 :: .ref 205 :: .ref 206 :: .ref 207 :: .ref 208 :: .ref 209 :: .ref 210 :: .ref 211 :: .ref 212 :: .ref 213 :: .ref 214 :: .int 0 :: .ref 215 :: .ref 216 :: .int 0 :: .ref 217 :: .ref 218 :: .ref 219 :: .ref 220 :: .ref 221 :: .int 0 :: .int 0 :: .int 0 :: .int 0 :: .ref 222 :: .int 0 :: [])))) (h183 : f 183 = some (.inl (0, 4347, .inl (fun _ => 0)))) (h182 : f 182 = some (.inl (0, 4347, .inl (tl (upd (upd (fun _ => 0) 2 (-1)) 4 1) 40)))) (h185 : f 185 = some (.inl (0, 34776, .inl (fun _ => 0)))) : AM X l yX9_rule cX9_rule 3 (some .int) 6 0 0 [.ref 181, .int 1, .int a2] f n (EXO f [(181, .inr (9, (.int 0 :: .ref 182 :: .ref 183 :: .ref 184 :: .ref 185 :: .int 1 :: .int 0 :: .int 0 :: .ref 186 :: .int 0 :: .int 0 :: .int 0 :: .int (-1) :: .ref 187 :: .ref 188 :: .ref 189 :: .int 0 :: .ref 190 :: .ref 191 :: .ref 192 :: .ref 193 :: .ref 194 :: .int 0 :: .ref 195 :: .ref 196 :: .ref 197 :: .int 0 :: .ref 198 :: .ref 199 :: .ref 200 :: .ref 201 :: .ref 202 :: .ref 203 :: .int 0 :: .ref 204 :: .ref 205 :: .ref 206 :: .ref 207 :: .ref 208 :: .ref 209 :: .ref 210 :: .ref 211 :: .ref 212 :: .ref 213 :: .ref 214 :: .int 0 :: .ref 215 :: .ref 216 :: .int 0 :: .ref 217 :: .ref 218 :: .ref 219 :: .ref 220 :: .ref 221 :: .int 0 :: .int 0 :: .int 0 :: .int 0 :: .ref 222 :: .int 0 :: []))), (183, .inl (0, 4347, .inl (cpy (tl (upd (upd (fun _ => 0) 2 (-1)) 4 1) 40) (fun _ => 0) 4347))), (182, .inl (0, 4347, .inl (tl (upd (tl (upd (upd (fun _ => 0) 2 (-1)) 4 1) 40) 4 a2) 40))), (185, .inl (0, 34776, .inl (cpy (cpy (tl (upd (upd (fun _ => 0) 2 (-1)) 4 1) 40) (fun _ => 0) 4347) (fun _ => 0) 4347)))] (some (.int 0)) n) := by
  refine AM.of (by decide +kernel) rfl (Nat.le_of_ble_eq_true rfl) (fun p e s m args below meth c C hnm => ?_)
  refine ao_start ?_
  refine aw_nl [some (.ref 181), some (.int 1), some (.int a2)] rfl ?_
  obtain ⟨q0a, q0b⟩ := q0
  refine aw_ald_n C dX9_rule_0 rfl ?_
  refine aw_iload_n C dX9_rule_1 rfl ?_
  refine aw_iconst C 0 dX9_rule_2 ki_0 ?_
  refine aw_iconst C 1 dX9_rule_3 ki_1 ?_
  refine ao_callS C [.int 1, .int 0, .int 1] [] ms_X9_141 (c_X9_isIn_385) rfl dX9_rule_4 (Nat.le_of_ble_eq_true rfl) (Nat.le_of_ble_eq_true rfl) rfl (Nat.le_of_ble_eq_true rfl) (Nat.le_of_ble_eq_true rfl) (Nat.le_of_ble_eq_true rfl) rfl ?_
  refine aw_if_ne C 14 dX9_rule_7 (by decide) (fun _ => ?_) (fun q => absurd q (by decide))
  refine aw_iload_n C dX9_rule_14 rfl ?_
  refine aw_iload_n C dX9_rule_15 rfl ?_
  refine aw_iload_n C dX9_rule_16 rfl ?_
  refine aw_if_ne C 24 dX9_rule_17 (by decide) (fun _ => ?_) (fun q => absurd q (by decide))
  refine aw_bipush C 40 dX9_rule_24 kb_40 ?_
  refine ao_callS C [.int a2, .int 1, .int 40] [] ms_X9_141 (c_X9_isIn_406 ⟨by omega, by omega⟩) rfl dX9_rule_26 (Nat.le_of_ble_eq_true rfl) (Nat.le_of_ble_eq_true rfl) rfl (Nat.le_of_ble_eq_true rfl) (Nat.le_of_ble_eq_true rfl) (Nat.le_of_ble_eq_true rfl) rfl ?_
  refine aw_if_ne C 36 dX9_rule_29 (by decide) (fun _ => ?_) (fun q => absurd q (by decide))
  refine aw_iconst C 0 dX9_rule_36 ki_0 ?_
  refine ao_put C [(181, .inr (9, (.int 0 :: .ref 182 :: .ref 183 :: .ref 184 :: .ref 185 :: .int 0 :: .int 0 :: .int 0 :: .ref 186 :: .int 0 :: .int 0 :: .int 0 :: .int (-1) :: .ref 187 :: .ref 188 :: .ref 189 :: .int 0 :: .ref 190 :: .ref 191 :: .ref 192 :: .ref 193 :: .ref 194 :: .int 0 :: .ref 195 :: .ref 196 :: .ref 197 :: .int 0 :: .ref 198 :: .ref 199 :: .ref 200 :: .ref 201 :: .ref 202 :: .ref 203 :: .int 0 :: .ref 204 :: .ref 205 :: .ref 206 :: .ref 207 :: .ref 208 :: .ref 209 :: .ref 210 :: .ref 211 :: .ref 212 :: .ref 213 :: .ref 214 :: .int 0 :: .ref 215 :: .ref 216 :: .int 0 :: .ref 217 :: .ref 218 :: .ref 219 :: .ref 220 :: .ref 221 :: .int 0 :: .int 0 :: .int 0 :: .int 0 :: .ref 222 :: .int 0 :: [])))] gf_X9_138 cf9 nf9_0 h181 (Nat.le_of_ble_eq_true rfl) rfl rfl dX9_rule_37 rfl ?_
  refine aw_ald_n C dX9_rule_40 rfl ?_
  refine aw_get C gf_X9_138 rfl rfl dX9_rule_41 ?_
  refine aw_if_le C 49 dX9_rule_44 (by decide) (fun _ => ?_) (fun q => absurd (by decide) q)
  refine aw_ald_n C dX9_rule_49 rfl ?_
  refine ao_callV C (ci := 9) (b := 181) [] [(181, .inr (9, (.int 0 :: .ref 182 :: .ref 183 :: .ref 184 :: .ref 185 :: .int 0 :: .int 0 :: .int 0 :: .ref 186 :: .int 0 :: .int 0 :: .int 0 :: .int (-1) :: .ref 187 :: .ref 188 :: .ref 189 :: .int 0 :: .ref 190 :: .ref 191 :: .ref 192 :: .ref 193 :: .ref 194 :: .int 0 :: .ref 195 :: .ref 196 :: .ref 197 :: .int 0 :: .ref 198 :: .ref 199 :: .ref 200 :: .ref 201 :: .ref 202 :: .ref 203 :: .int 0 :: .ref 204 :: .ref 205 :: .ref 206 :: .ref 207 :: .ref 208 :: .ref 209 :: .ref 210 :: .ref 211 :: .ref 212 :: .ref 213 :: .ref 214 :: .int 0 :: .ref 215 :: .ref 216 :: .int 0 :: .ref 217 :: .ref 218 :: .ref 219 :: .ref 220 :: .ref 221 :: .int 0 :: .int 0 :: .int 0 :: .int 0 :: .ref 222 :: .int 0 :: []))), (183, .inl (0, 4347, .inl (cpy (tl (upd (upd (fun _ => 0) 2 (-1)) 4 1) 40) (fun _ => 0) 4347)))] mv_X9_420 rfl rfl rfl (c_X9_putsAside_173 rfl h183 h182) rfl dX9_rule_50 (Nat.le_of_ble_eq_true rfl) (Nat.le_of_ble_eq_true rfl) rfl (Nat.le_of_ble_eq_true rfl) (Nat.le_of_ble_eq_true rfl) (Nat.le_of_ble_eq_true rfl) rfl ?_
  refine aw_ald_n C dX9_rule_53 rfl ?_
  refine aw_ald_n C dX9_rule_54 rfl ?_
  refine aw_iload_n C dX9_rule_55 rfl ?_
  refine aw_if_ne C 63 dX9_rule_56 (by decide) (fun _ => ?_) (fun q => absurd q (by decide))
  refine aw_iconst C 4 dX9_rule_63 ki_4 ?_
  refine aw_iload_n C dX9_rule_64 rfl ?_
  refine ao_callV C (ci := 9) (b := 181) [.int 4, .int a2] [(181, .inr (9, (.int 0 :: .ref 182 :: .ref 183 :: .ref 184 :: .ref 185 :: .int 0 :: .int 0 :: .int 0 :: .ref 186 :: .int 0 :: .int 0 :: .int 0 :: .int (-1) :: .ref 187 :: .ref 188 :: .ref 189 :: .int 0 :: .ref 190 :: .ref 191 :: .ref 192 :: .ref 193 :: .ref 194 :: .int 0 :: .ref 195 :: .ref 196 :: .ref 197 :: .int 0 :: .ref 198 :: .ref 199 :: .ref 200 :: .ref 201 :: .ref 202 :: .ref 203 :: .int 0 :: .ref 204 :: .ref 205 :: .ref 206 :: .ref 207 :: .ref 208 :: .ref 209 :: .ref 210 :: .ref 211 :: .ref 212 :: .ref 213 :: .ref 214 :: .int 0 :: .ref 215 :: .ref 216 :: .int 0 :: .ref 217 :: .ref 218 :: .ref 219 :: .ref 220 :: .ref 221 :: .int 0 :: .int 0 :: .int 0 :: .int 0 :: .ref 222 :: .int 0 :: []))), (183, .inl (0, 4347, .inl (cpy (tl (upd (upd (fun _ => 0) 2 (-1)) 4 1) 40) (fun _ => 0) 4347))), (182, .inl (0, 4347, .inl (tl (upd (tl (upd (upd (fun _ => 0) 2 (-1)) 4 1) 40) 4 a2) 40)))] mv_X9_361 rfl rfl rfl (c_X9_rules_410 ⟨by omega, by omega⟩ rfl h182) rfl dX9_rule_65 (Nat.le_of_ble_eq_true rfl) (Nat.le_of_ble_eq_true rfl) rfl (Nat.le_of_ble_eq_true rfl) (Nat.le_of_ble_eq_true rfl) (Nat.le_of_ble_eq_true rfl) rfl ?_
  refine aw_iconst C 0 dX9_rule_68 ki_0 ?_
  refine ao_callV C (ci := 9) (b := 181) [.int 0, .int 0] [(181, .inr (9, (.int 0 :: .ref 182 :: .ref 183 :: .ref 184 :: .ref 185 :: .int 1 :: .int 0 :: .int 0 :: .ref 186 :: .int 0 :: .int 0 :: .int 0 :: .int (-1) :: .ref 187 :: .ref 188 :: .ref 189 :: .int 0 :: .ref 190 :: .ref 191 :: .ref 192 :: .ref 193 :: .ref 194 :: .int 0 :: .ref 195 :: .ref 196 :: .ref 197 :: .int 0 :: .ref 198 :: .ref 199 :: .ref 200 :: .ref 201 :: .ref 202 :: .ref 203 :: .int 0 :: .ref 204 :: .ref 205 :: .ref 206 :: .ref 207 :: .ref 208 :: .ref 209 :: .ref 210 :: .ref 211 :: .ref 212 :: .ref 213 :: .ref 214 :: .int 0 :: .ref 215 :: .ref 216 :: .int 0 :: .ref 217 :: .ref 218 :: .ref 219 :: .ref 220 :: .ref 221 :: .int 0 :: .int 0 :: .int 0 :: .int 0 :: .ref 222 :: .int 0 :: []))), (183, .inl (0, 4347, .inl (cpy (tl (upd (upd (fun _ => 0) 2 (-1)) 4 1) 40) (fun _ => 0) 4347))), (182, .inl (0, 4347, .inl (tl (upd (tl (upd (upd (fun _ => 0) 2 (-1)) 4 1) 40) 4 a2) 40))), (185, .inl (0, 34776, .inl (cpy (cpy (tl (upd (upd (fun _ => 0) 2 (-1)) 4 1) 40) (fun _ => 0) 4347) (fun _ => 0) 4347)))] mv_X9_429 rfl rfl rfl (c_X9_isDone_237 rfl h185 rfl) rfl dX9_rule_69 (Nat.le_of_ble_eq_true rfl) (Nat.le_of_ble_eq_true rfl) rfl (Nat.le_of_ble_eq_true rfl) (Nat.le_of_ble_eq_true rfl) (Nat.le_of_ble_eq_true rfl) rfl ?_
  refine aw_if_eq C 82 dX9_rule_72 (by decide) (fun q => absurd q (by decide)) (fun _ => ?_)
  refine aw_ald_n C dX9_rule_75 rfl ?_
  refine aw_get C gf_X9_204 rfl rfl dX9_rule_76 ?_
  refine aw_goto C 83 dX9_rule_79 (by decide) ?_
  exact aw_iret C rfl rfl dX9_rule_83 (Nat.le_of_ble_eq_true rfl) (Nat.le_of_ble_eq_true rfl) ⟨rfl, rfl, rfl⟩

set_option maxHeartbeats 4000000 in
set_option maxRecDepth 100000 in
theorem c_X8_rule_412 {X : GX} {l : Launch} {f : AH} {n : Nat} {a2 : Int32} (hl0 : l.stackTraces = false) (q0 : 41 ≤ a2.toInt ∧ a2.toInt ≤ 2147483647) : AX X l yX8_rule cX8_rule 3 (some .int) 6 1 6 [.ref 0, .int 1, .int a2] f n (fun _ _ _ => False) (TXO eA f [] n) := by
  refine AX.of (by decide +kernel) rfl (Nat.le_of_ble_eq_true rfl) (fun p e s m args below meth c C htab => ?_)
  refine ao_start ?_
  refine aw_nl [some (.ref 0), some (.int 1), some (.int a2)] rfl ?_
  obtain ⟨q0a, q0b⟩ := q0
  refine aw_iload_n C dX8_rule_0 rfl ?_
  refine aw_if_eq C 19 dX8_rule_1 (by decide) (fun q => absurd q (by decide)) (fun _ => ?_)
  refine aw_iload_n C dX8_rule_4 rfl ?_
  refine aw_iconst C 1 dX8_rule_5 ki_1 ?_
  refine aw_icmp_eq C 19 dX8_rule_6 (by decide) (fun _ => ?_) (fun q => absurd (by decide) q)
  refine aw_iload_n C dX8_rule_19 rfl ?_
  refine aw_if_ne C 35 dX8_rule_20 (by decide) (fun _ => ?_) (fun q => absurd q (by decide))
  refine aw_iload_n C dX8_rule_35 rfl ?_
  refine aw_iconst C 1 dX8_rule_36 ki_1 ?_
  refine aw_icmp_lt C 46 dX8_rule_37 (by decide) (fun q => absurd q (c_nlt (by rw [ti_1]; omega))) (fun _ => ?_)
  refine aw_iload_n C dX8_rule_40 rfl ?_
  refine aw_bipush C 40 dX8_rule_41 kb_40 ?_
  refine aw_icmp_le C 56 dX8_rule_43 (by decide) (fun q => absurd q (c_nle (by rw [ti_40]; omega))) (fun _ => ?_)
  exact ax_throw C htab hl0 th_eA sx_147 dX8_rule_46 dX8_rule_49 dX8_rule_50 dX8_rule_52 dX8_rule_55 (Nat.le_of_ble_eq_true rfl) (Nat.le_of_ble_eq_true rfl) (Nat.le_of_ble_eq_true rfl) (Nat.le_of_ble_eq_true rfl) (Nat.le_of_ble_eq_true rfl) (Nat.le_of_ble_eq_true rfl) (fun n9 h9 => ⟨rfl, rfl, h9⟩)

set_option maxHeartbeats 4000000 in
set_option maxRecDepth 100000 in
theorem c_L_rule_413 {X : GX} {l : Launch} {f : AH} {n : Nat} {a2 : Int32} (hl0 : l.stackTraces = false) (q0 : 41 ≤ a2.toInt ∧ a2.toInt ≤ 2147483647) (h0 : f 0 = some (.inr (8, [.ref 1, .ref 3, .ref 8, .ref 13, .ref 18, .ref 59, .ref 115, .ref 171, .ref 178, .int 0, .int 0, .int 0, .int 0, .int (-1)]))) : AMW X l yL_rule cL_rule 5 (some .int) [(0, 10, 13, 23), (0, 10, 17, 13)] 7 1 6 [.ref 0, .int 1, .int a2, .ref 223] f n (EXN f [] (some (.int 2))) := by
  refine AMW.of (by decide +kernel) rfl (Nat.le_of_ble_eq_true rfl) (fun p e s m args below meth c C htab => ?_)
  refine ao_start ?_
  refine aw_nl [some (.ref 0), some (.int 1), some (.int a2), some (.ref 223), none] rfl ?_
  obtain ⟨q0a, q0b⟩ := q0
  refine aw_ald_n C dL_rule_0 rfl ?_
  refine aw_iconst C 0 dL_rule_1 ki_0 ?_
  refine aw_ald_n C dL_rule_2 rfl ?_
  refine aw_iload_n C dL_rule_3 rfl ?_
  refine aw_iload_n C dL_rule_4 rfl ?_
  refine ax_callV C (ci := 8) (b := 0) [.int 1, .int a2] mv_L_19 rfl rfl h0 (c_X8_rule_412 hl0 ⟨by omega, by omega⟩) rfl dL_rule_5 (Nat.le_of_ble_eq_true rfl) (Nat.le_of_ble_eq_true rfl) rfl (Nat.le_of_ble_eq_true rfl) (Nat.le_of_ble_eq_true rfl) (Nat.le_of_ble_eq_true rfl) (fun E9 f9 n9 h9 => ?_) (fun _ _ _ h9 => h9.elim)
  obtain ⟨rfl, rfl, h9⟩ := h9
  refine at_flat [] rfl ?_
  refine at_catch C htab [⟨0, 10, 13, 23⟩] ⟨0, 10, 17, 13⟩ [] rfl (fun z hz => by rw [List.mem_singleton.mp hz]; exact Or.inr ⟨by decide, _, cl_L_23, by decide⟩) (by decide) (by decide) cl_L_13 (by decide) (ah_astore C dL_rule_17 (by decide) rfl ?_)
  refine aw_nl [some (.ref 0), some (.int 1), some (.int a2), some (.ref 223), none] rfl ?_
  refine aw_iconst C 2 dL_rule_19 ki_2 ?_
  exact aw_iret C rfl rfl dL_rule_20 (Nat.le_of_ble_eq_true rfl) (Nat.le_of_ble_eq_true rfl) ⟨rfl, rfl⟩

set_option maxHeartbeats 4000000 in
set_option maxRecDepth 100000 in
theorem c_X9_isIn_414 {X : GX} {l : Launch} {f : AH} {n : Nat} {a0 : Int32} (q0 : 41 ≤ a0.toInt ∧ a0.toInt ≤ 2147483647) : AM X l yX9_isIn cX9_isIn 3 (some .boolean) 0 0 0 [.int a0, .int 1, .int 40] f n (EXO f [] (some (.int 0)) n) := by
  refine AM.of (by decide +kernel) rfl (Nat.le_of_ble_eq_true rfl) (fun p e s m args below meth c C hnm => ?_)
  refine ao_start ?_
  refine aw_nl [some (.int a0), some (.int 1), some (.int 40)] rfl ?_
  obtain ⟨q0a, q0b⟩ := q0
  refine aw_iload_n C dX9_isIn_0 rfl ?_
  refine aw_iload_n C dX9_isIn_1 rfl ?_
  refine aw_icmp_lt C 14 dX9_isIn_2 (by decide) (fun q => absurd q (c_nlt (by rw [ti_1]; omega))) (fun _ => ?_)
  refine aw_iload_n C dX9_isIn_5 rfl ?_
  refine aw_iload_n C dX9_isIn_6 rfl ?_
  refine aw_icmp_gt C 14 dX9_isIn_7 (by decide) (fun _ => ?_) (fun q => absurd (c_lt (by rw [ti_40]; omega)) q)
  refine aw_iconst C 0 dX9_isIn_14 ki_0 ?_
  exact aw_iret C rfl (by decide) dX9_isIn_15 (Nat.le_of_ble_eq_true rfl) (Nat.le_of_ble_eq_true rfl) ⟨rfl, rfl, rfl⟩

set_option maxHeartbeats 4000000 in
set_option maxRecDepth 100000 in
theorem c_X9_rule_415 {X : GX} {l : Launch} {f : AH} {n : Nat} {a2 : Int32} (q0 : 41 ≤ a2.toInt ∧ a2.toInt ≤ 2147483647) (h181 : f 181 = some (.inr (9, (.int 0 :: .ref 182 :: .ref 183 :: .ref 184 :: .ref 185 :: .int 0 :: .int 0 :: .int 0 :: .ref 186 :: .int 0 :: .int 0 :: .int 0 :: .int (-1) :: .ref 187 :: .ref 188 :: .ref 189 :: .int 0 :: .ref 190 :: .ref 191 :: .ref 192 :: .ref 193 :: .ref 194 :: .int 0 :: .ref 195 :: .ref 196 :: .ref 197 :: .int 0 :: .ref 198 :: .ref 199 :: .ref 200 :: .ref 201 :: .ref 202 :: .ref 203 :: .int 0 :: .ref 204 :: .ref 205 :: .ref 206 :: .ref 207 :: .ref 208 :: .ref 209 :: .ref 210 :: .ref 211 :: .ref 212 :: .ref 213 :: .ref 214 :: .int 0 :: .ref 215 :: .ref 216 :: .int 0 :: .ref 217 :: .ref 218 :: .ref 219 :: .ref 220 :: .ref 221 :: .int 0 :: .int 0 :: .int 0 :: .int 0 :: .ref 222 :: .int 0 :: [])))) : AM X l yX9_rule cX9_rule 3 (some .int) 1 0 0 [.ref 181, .int 1, .int a2] f n (EXO f [(181, .inr (9, (.int 2 :: .ref 182 :: .ref 183 :: .ref 184 :: .ref 185 :: .int 0 :: .int 0 :: .int 0 :: .ref 186 :: .int 0 :: .int 0 :: .int 0 :: .int (-1) :: .ref 187 :: .ref 188 :: .ref 189 :: .int 0 :: .ref 190 :: .ref 191 :: .ref 192 :: .ref 193 :: .ref 194 :: .int 0 :: .ref 195 :: .ref 196 :: .ref 197 :: .int 0 :: .ref 198 :: .ref 199 :: .ref 200 :: .ref 201 :: .ref 202 :: .ref 203 :: .int 0 :: .ref 204 :: .ref 205 :: .ref 206 :: .ref 207 :: .ref 208 :: .ref 209 :: .ref 210 :: .ref 211 :: .ref 212 :: .ref 213 :: .ref 214 :: .int 0 :: .ref 215 :: .ref 216 :: .int 0 :: .ref 217 :: .ref 218 :: .ref 219 :: .ref 220 :: .ref 221 :: .int 0 :: .int 0 :: .int 0 :: .int 0 :: .ref 222 :: .int 0 :: [])))] (some (.int 0)) n) := by
  refine AM.of (by decide +kernel) rfl (Nat.le_of_ble_eq_true rfl) (fun p e s m args below meth c C hnm => ?_)
  refine ao_start ?_
  refine aw_nl [some (.ref 181), some (.int 1), some (.int a2)] rfl ?_
  obtain ⟨q0a, q0b⟩ := q0
  refine aw_ald_n C dX9_rule_0 rfl ?_
  refine aw_iload_n C dX9_rule_1 rfl ?_
  refine aw_iconst C 0 dX9_rule_2 ki_0 ?_
  refine aw_iconst C 1 dX9_rule_3 ki_1 ?_
  refine ao_callS C [.int 1, .int 0, .int 1] [] ms_X9_141 (c_X9_isIn_385) rfl dX9_rule_4 (Nat.le_of_ble_eq_true rfl) (Nat.le_of_ble_eq_true rfl) rfl (Nat.le_of_ble_eq_true rfl) (Nat.le_of_ble_eq_true rfl) (Nat.le_of_ble_eq_true rfl) rfl ?_
  refine aw_if_ne C 14 dX9_rule_7 (by decide) (fun _ => ?_) (fun q => absurd q (by decide))
  refine aw_iload_n C dX9_rule_14 rfl ?_
  refine aw_iload_n C dX9_rule_15 rfl ?_
  refine aw_iload_n C dX9_rule_16 rfl ?_
  refine aw_if_ne C 24 dX9_rule_17 (by decide) (fun _ => ?_) (fun q => absurd q (by decide))
  refine aw_bipush C 40 dX9_rule_24 kb_40 ?_
  refine ao_callS C [.int a2, .int 1, .int 40] [] ms_X9_141 (c_X9_isIn_414 ⟨by omega, by omega⟩) rfl dX9_rule_26 (Nat.le_of_ble_eq_true rfl) (Nat.le_of_ble_eq_true rfl) rfl (Nat.le_of_ble_eq_true rfl) (Nat.le_of_ble_eq_true rfl) (Nat.le_of_ble_eq_true rfl) rfl ?_
  refine aw_if_ne C 36 dX9_rule_29 (by decide) (fun q => absurd (by decide) q) (fun _ => ?_)
  refine aw_iconst C 2 dX9_rule_32 ki_2 ?_
  refine aw_goto C 37 dX9_rule_33 (by decide) ?_
  refine ao_put C [(181, .inr (9, (.int 2 :: .ref 182 :: .ref 183 :: .ref 184 :: .ref 185 :: .int 0 :: .int 0 :: .int 0 :: .ref 186 :: .int 0 :: .int 0 :: .int 0 :: .int (-1) :: .ref 187 :: .ref 188 :: .ref 189 :: .int 0 :: .ref 190 :: .ref 191 :: .ref 192 :: .ref 193 :: .ref 194 :: .int 0 :: .ref 195 :: .ref 196 :: .ref 197 :: .int 0 :: .ref 198 :: .ref 199 :: .ref 200 :: .ref 201 :: .ref 202 :: .ref 203 :: .int 0 :: .ref 204 :: .ref 205 :: .ref 206 :: .ref 207 :: .ref 208 :: .ref 209 :: .ref 210 :: .ref 211 :: .ref 212 :: .ref 213 :: .ref 214 :: .int 0 :: .ref 215 :: .ref 216 :: .int 0 :: .ref 217 :: .ref 218 :: .ref 219 :: .ref 220 :: .ref 221 :: .int 0 :: .int 0 :: .int 0 :: .int 0 :: .ref 222 :: .int 0 :: [])))] gf_X9_138 cf9 nf9_0 h181 (Nat.le_of_ble_eq_true rfl) rfl rfl dX9_rule_37 rfl ?_
  refine aw_ald_n C dX9_rule_40 rfl ?_
  refine aw_get C gf_X9_138 rfl rfl dX9_rule_41 ?_
  refine aw_if_le C 49 dX9_rule_44 (by decide) (fun q => absurd q (by decide)) (fun _ => ?_)
  refine aw_iconst C 0 dX9_rule_47 ki_0 ?_
  exact aw_iret C rfl rfl dX9_rule_48 (Nat.le_of_ble_eq_true rfl) (Nat.le_of_ble_eq_true rfl) ⟨rfl, rfl, rfl⟩

set_option maxHeartbeats 4000000 in
set_option maxRecDepth 100000 in
theorem c_X8_rule_416 {X : GX} {l : Launch} {f : AH} {n : Nat} {a1 : Int32} {a2 : Int32} (hl0 : l.stackTraces = false) (q0 : 2 ≤ a1.toInt ∧ a1.toInt ≤ 2147483647) : AX X l yX8_rule cX8_rule 3 (some .int) 6 1 6 [.ref 0, .int a1, .int a2] f n (fun _ _ _ => False) (TXO eN f [] n) := by
  refine AX.of (by decide +kernel) rfl (Nat.le_of_ble_eq_true rfl) (fun p e s m args below meth c C htab => ?_)
  refine ao_start ?_
  refine aw_nl [some (.ref 0), some (.int a1), some (.int a2)] rfl ?_
  obtain ⟨q0a, q0b⟩ := q0
  refine aw_iload_n C dX8_rule_0 rfl ?_
  refine aw_if_eq C 19 dX8_rule_1 (by decide) (fun q => absurd q (c_ne (by rw [ti_0]; omega))) (fun _ => ?_)
  refine aw_iload_n C dX8_rule_4 rfl ?_
  refine aw_iconst C 1 dX8_rule_5 ki_1 ?_
  refine aw_icmp_eq C 19 dX8_rule_6 (by decide) (fun q => absurd q (c_ne (by rw [ti_1]; omega))) (fun _ => ?_)
  exact ax_throwN C htab hl0 th_eN sx_144 dX8_rule_9 dX8_rule_12 dX8_rule_13 dX8_rule_15 dX8_rule_18 (Nat.le_of_ble_eq_true rfl) (Nat.le_of_ble_eq_true rfl) (Nat.le_of_ble_eq_true rfl) (Nat.le_of_ble_eq_true rfl) (Nat.le_of_ble_eq_true rfl) (Nat.le_of_ble_eq_true rfl) (fun n9 h9 => ⟨rfl, rfl, h9⟩)

set_option maxHeartbeats 4000000 in
set_option maxRecDepth 100000 in
theorem c_L_rule_417 {X : GX} {l : Launch} {f : AH} {n : Nat} {a1 : Int32} {a2 : Int32} (hl0 : l.stackTraces = false) (q0 : 2 ≤ a1.toInt ∧ a1.toInt ≤ 2147483647) (h0 : f 0 = some (.inr (8, [.ref 1, .ref 3, .ref 8, .ref 13, .ref 18, .ref 59, .ref 115, .ref 171, .ref 178, .int 0, .int 0, .int 0, .int 0, .int (-1)]))) : AMW X l yL_rule cL_rule 5 (some .int) [(0, 10, 13, 23), (0, 10, 17, 13)] 7 1 6 [.ref 0, .int a1, .int a2, .ref 223] f n (EXN f [] (some (.int 1))) := by
  refine AMW.of (by decide +kernel) rfl (Nat.le_of_ble_eq_true rfl) (fun p e s m args below meth c C htab => ?_)
  refine ao_start ?_
  refine aw_nl [some (.ref 0), some (.int a1), some (.int a2), some (.ref 223), none] rfl ?_
  obtain ⟨q0a, q0b⟩ := q0
  refine aw_ald_n C dL_rule_0 rfl ?_
  refine aw_iconst C 0 dL_rule_1 ki_0 ?_
  refine aw_ald_n C dL_rule_2 rfl ?_
  refine aw_iload_n C dL_rule_3 rfl ?_
  refine aw_iload_n C dL_rule_4 rfl ?_
  refine ax_callV C (ci := 8) (b := 0) [.int a1, .int a2] mv_L_19 rfl rfl h0 (c_X8_rule_416 hl0 ⟨by omega, by omega⟩) rfl dL_rule_5 (Nat.le_of_ble_eq_true rfl) (Nat.le_of_ble_eq_true rfl) rfl (Nat.le_of_ble_eq_true rfl) (Nat.le_of_ble_eq_true rfl) (Nat.le_of_ble_eq_true rfl) (fun E9 f9 n9 h9 => ?_) (fun _ _ _ h9 => h9.elim)
  obtain ⟨rfl, rfl, h9⟩ := h9
  refine at_flat [] rfl ?_
  refine at_catch C htab [] ⟨0, 10, 13, 23⟩ [⟨0, 10, 17, 13⟩] rfl (fun z hz => nomatch hz) (by decide) (by decide) cl_L_23 (by decide) (ah_astore C dL_rule_13 (by decide) rfl ?_)
  refine aw_nl [some (.ref 0), some (.int a1), some (.int a2), some (.ref 223), none] rfl ?_
  refine aw_iconst C 1 dL_rule_15 ki_1 ?_
  exact aw_iret C rfl rfl dL_rule_16 (Nat.le_of_ble_eq_true rfl) (Nat.le_of_ble_eq_true rfl) ⟨rfl, rfl⟩

set_option maxHeartbeats 4000000 in
set_option maxRecDepth 100000 in
theorem c_X9_rule_418 {X : GX} {l : Launch} {f : AH} {n : Nat} {a1 : Int32} {a2 : Int32} (q0 : 2 ≤ a1.toInt ∧ a1.toInt ≤ 2147483647) (h181 : f 181 = some (.inr (9, (.int 0 :: .ref 182 :: .ref 183 :: .ref 184 :: .ref 185 :: .int 0 :: .int 0 :: .int 0 :: .ref 186 :: .int 0 :: .int 0 :: .int 0 :: .int (-1) :: .ref 187 :: .ref 188 :: .ref 189 :: .int 0 :: .ref 190 :: .ref 191 :: .ref 192 :: .ref 193 :: .ref 194 :: .int 0 :: .ref 195 :: .ref 196 :: .ref 197 :: .int 0 :: .ref 198 :: .ref 199 :: .ref 200 :: .ref 201 :: .ref 202 :: .ref 203 :: .int 0 :: .ref 204 :: .ref 205 :: .ref 206 :: .ref 207 :: .ref 208 :: .ref 209 :: .ref 210 :: .ref 211 :: .ref 212 :: .ref 213 :: .ref 214 :: .int 0 :: .ref 215 :: .ref 216 :: .int 0 :: .ref 217 :: .ref 218 :: .ref 219 :: .ref 220 :: .ref 221 :: .int 0 :: .int 0 :: .int 0 :: .int 0 :: .ref 222 :: .int 0 :: [])))) : AM X l yX9_rule cX9_rule 3 (some .int) 1 0 0 [.ref 181, .int a1, .int a2] f n (EXO f [(181, .inr (9, (.int 1 :: .ref 182 :: .ref 183 :: .ref 184 :: .ref 185 :: .int 0 :: .int 0 :: .int 0 :: .ref 186 :: .int 0 :: .int 0 :: .int 0 :: .int (-1) :: .ref 187 :: .ref 188 :: .ref 189 :: .int 0 :: .ref 190 :: .ref 191 :: .ref 192 :: .ref 193 :: .ref 194 :: .int 0 :: .ref 195 :: .ref 196 :: .ref 197 :: .int 0 :: .ref 198 :: .ref 199 :: .ref 200 :: .ref 201 :: .ref 202 :: .ref 203 :: .int 0 :: .ref 204 :: .ref 205 :: .ref 206 :: .ref 207 :: .ref 208 :: .ref 209 :: .ref 210 :: .ref 211 :: .ref 212 :: .ref 213 :: .ref 214 :: .int 0 :: .ref 215 :: .ref 216 :: .int 0 :: .ref 217 :: .ref 218 :: .ref 219 :: .ref 220 :: .ref 221 :: .int 0 :: .int 0 :: .int 0 :: .int 0 :: .ref 222 :: .int 0 :: [])))] (some (.int 0)) n) := by
  refine AM.of (by decide +kernel) rfl (Nat.le_of_ble_eq_true rfl) (fun p e s m args below meth c C hnm => ?_)
  refine ao_start ?_
  refine aw_nl [some (.ref 181), some (.int a1), some (.int a2)] rfl ?_
  obtain ⟨q0a, q0b⟩ := q0
  refine aw_ald_n C dX9_rule_0 rfl ?_
  refine aw_iload_n C dX9_rule_1 rfl ?_
  refine aw_iconst C 0 dX9_rule_2 ki_0 ?_
  refine aw_iconst C 1 dX9_rule_3 ki_1 ?_
  refine ao_callS C [.int a1, .int 0, .int 1] [] ms_X9_141 (c_X9_isIn_393 ⟨by omega, by omega⟩) rfl dX9_rule_4 (Nat.le_of_ble_eq_true rfl) (Nat.le_of_ble_eq_true rfl) rfl (Nat.le_of_ble_eq_true rfl) (Nat.le_of_ble_eq_true rfl) (Nat.le_of_ble_eq_true rfl) rfl ?_
  refine aw_if_ne C 14 dX9_rule_7 (by decide) (fun q => absurd (by decide) q) (fun _ => ?_)
  refine aw_iconst C 1 dX9_rule_10 ki_1 ?_
  refine aw_goto C 37 dX9_rule_11 (by decide) ?_
  refine ao_put C [(181, .inr (9, (.int 1 :: .ref 182 :: .ref 183 :: .ref 184 :: .ref 185 :: .int 0 :: .int 0 :: .int 0 :: .ref 186 :: .int 0 :: .int 0 :: .int 0 :: .int (-1) :: .ref 187 :: .ref 188 :: .ref 189 :: .int 0 :: .ref 190 :: .ref 191 :: .ref 192 :: .ref 193 :: .ref 194 :: .int 0 :: .ref 195 :: .ref 196 :: .ref 197 :: .int 0 :: .ref 198 :: .ref 199 :: .ref 200 :: .ref 201 :: .ref 202 :: .ref 203 :: .int 0 :: .ref 204 :: .ref 205 :: .ref 206 :: .ref 207 :: .ref 208 :: .ref 209 :: .ref 210 :: .ref 211 :: .ref 212 :: .ref 213 :: .ref 214 :: .int 0 :: .ref 215 :: .ref 216 :: .int 0 :: .ref 217 :: .ref 218 :: .ref 219 :: .ref 220 :: .ref 221 :: .int 0 :: .int 0 :: .int 0 :: .int 0 :: .ref 222 :: .int 0 :: [])))] gf_X9_138 cf9 nf9_0 h181 (Nat.le_of_ble_eq_true rfl) rfl rfl dX9_rule_37 rfl ?_
  refine aw_ald_n C dX9_rule_40 rfl ?_
  refine aw_get C gf_X9_138 rfl rfl dX9_rule_41 ?_
  refine aw_if_le C 49 dX9_rule_44 (by decide) (fun q => absurd q (by decide)) (fun _ => ?_)
  refine aw_iconst C 0 dX9_rule_47 ki_0 ?_
  exact aw_iret C rfl rfl dX9_rule_48 (Nat.le_of_ble_eq_true rfl) (Nat.le_of_ble_eq_true rfl) ⟨rfl, rfl, rfl⟩

set_option maxHeartbeats 4000000 in
set_option maxRecDepth 100000 in
theorem c_X5_isWord_419 {X : GX} {l : Launch} {f : AH} {n : Nat} (h1 : f 1 = some (.inr (5, [.ref 2, .int 0]))) : AM X l yX5_isWord cX5_isWord 2 (some .boolean) 0 0 0 [.ref 1] f n (EXO f [] (some (.int 0)) n) := by
  refine AM.of (by decide +kernel) rfl (by decide) (fun p e s m args below meth c C hnm => ?_)
  refine ao_start ?_
  refine aw_nl [some (.ref 1), none] rfl ?_
  refine aw_iconst C 0 dX5_isWord_0 ki_0 ?_
  refine aw_istore_n C dX5_isWord_1 (by decide) rfl ?_
  refine aw_nl [some (.ref 1), some (.int 0)] rfl ?_
  refine aw_iload_n C dX5_isWord_2 rfl ?_
  refine aw_ald_n C dX5_isWord_3 rfl ?_
  refine aw_get C gf_X5_15 h1 rfl dX5_isWord_4 ?_
  refine aw_icmp_ge C 38 dX5_isWord_7 (by decide) (fun _ => ?_) (fun q => absurd (by decide) q)
  refine aw_ald_n C dX5_isWord_38 rfl ?_
  refine aw_get C gf_X5_15 h1 rfl dX5_isWord_39 ?_
  refine aw_iconst C 1 dX5_isWord_42 ki_1 ?_
  refine aw_icmp_lt C 59 dX5_isWord_43 (by decide) (fun _ => ?_) (fun q => absurd (by decide) q)
  refine aw_iconst C 0 dX5_isWord_59 ki_0 ?_
  exact aw_iret C rfl (by decide) dX5_isWord_60 (Nat.le_of_ble_eq_true rfl) (Nat.le_of_ble_eq_true rfl) ⟨rfl, rfl, rfl⟩

set_option maxHeartbeats 4000000 in
set_option maxRecDepth 100000 in
theorem c_X8_takeWord_420 {X : GX} {l : Launch} {f : AH} {n : Nat} (h0 : f 0 = some (.inr (8, [.ref 1, .ref 3, .ref 8, .ref 13, .ref 18, .ref 59, .ref 115, .ref 171, .ref 178, .int 0, .int 0, .int 0, .int 0, .int (-1)]))) (h1 : f 1 = some (.inr (5, [.ref 2, .int 0]))) : AM X l yX8_takeWord cX8_takeWord 2 (some (.object "PieceFiles$Row")) 1 0 0 [.ref 0] f n (EXO f [] (some (.null)) n) := by
  refine AM.of (by decide +kernel) rfl (by decide) (fun p e s m args below meth c C hnm => ?_)
  refine ao_start ?_
  refine aw_nl [some (.ref 0), none] rfl ?_
  refine aw_ald_n C dX8_takeWord_0 rfl ?_
  refine aw_get C gf_X8_14 h0 rfl dX8_takeWord_1 ?_
  refine ao_callV C (ci := 5) (b := 1) [] [] mv_X8_317 rfl rfl h1 (c_X5_isWord_419 h1) rfl dX8_takeWord_4 (Nat.le_of_ble_eq_true rfl) (Nat.le_of_ble_eq_true rfl) rfl (Nat.le_of_ble_eq_true rfl) (Nat.le_of_ble_eq_true rfl) (Nat.le_of_ble_eq_true rfl) rfl ?_
  refine aw_if_eq C 28 dX8_takeWord_7 (by decide) (fun _ => ?_) (fun q => absurd (by decide) q)
  refine aw_null C dX8_takeWord_28 ?_
  refine aw_astore_n C dX8_takeWord_29 (by decide) rfl (Or.inl rfl) ?_
  refine aw_nl [some (.ref 0), some (.null)] rfl ?_
  refine aw_ald_n C dX8_takeWord_30 rfl ?_
  refine aw_get C gf_X8_14 h0 rfl dX8_takeWord_31 ?_
  refine aw_iconst C 0 dX8_takeWord_34 ki_0 ?_
  refine ao_callV C (ci := 5) (b := 1) [.int 0] [] mv_X8_70 rfl rfl h1 (c_X5_cutTo_161 h1) rfl dX8_takeWord_35 (Nat.le_of_ble_eq_true rfl) (Nat.le_of_ble_eq_true rfl) rfl (Nat.le_of_ble_eq_true rfl) (Nat.le_of_ble_eq_true rfl) (Nat.le_of_ble_eq_true rfl) rfl ?_
  refine aw_aload_n C dX8_takeWord_38 rfl (Or.inl rfl) ?_
  exact aw_aret C rfl (Or.inl rfl) dX8_takeWord_39 (Nat.le_of_ble_eq_true rfl) (Nat.le_of_ble_eq_true rfl) ⟨rfl, rfl, rfl⟩

set_option maxHeartbeats 4000000 in
set_option maxRecDepth 100000 in
theorem c_X8_lock_421 {X : GX} {l : Launch} {f : AH} {n : Nat} (hl0 : l.stackTraces = false) (h0 : f 0 = some (.inr (8, [.ref 1, .ref 3, .ref 8, .ref 13, .ref 18, .ref 59, .ref 115, .ref 171, .ref 178, .int 0, .int 0, .int 0, .int 0, .int (-1)]))) (h1 : f 1 = some (.inr (5, [.ref 2, .int 0]))) : AX X l yX8_lock cX8_lock 2 (some .int) 6 1 6 [.ref 0] f n (fun _ _ _ => False) (TXO eA f [] n) := by
  refine AX.of (by decide +kernel) rfl (by decide) (fun p e s m args below meth c C htab => ?_)
  refine ao_start ?_
  refine aw_nl [some (.ref 0), none] rfl ?_
  refine aw_ald_n C dX8_lock_0 rfl ?_
  refine ao_callV C (ci := 8) (b := 0) [] [] mv_X8_149 rfl rfl h0 (c_X8_takeWord_420 h0 h1) rfl dX8_lock_1 (Nat.le_of_ble_eq_true rfl) (Nat.le_of_ble_eq_true rfl) rfl (Nat.le_of_ble_eq_true rfl) (Nat.le_of_ble_eq_true rfl) (Nat.le_of_ble_eq_true rfl) rfl ?_
  refine aw_astore_n C dX8_lock_4 (by decide) rfl (Or.inl rfl) ?_
  refine aw_nl [some (.ref 0), some (.null)] rfl ?_
  refine aw_aload_n C dX8_lock_5 rfl (Or.inl rfl) ?_
  refine aw_ifnonnull_n C 19 dX8_lock_6 (by decide) ?_
  exact ax_throw C htab hl0 th_eA sx_153 dX8_lock_9 dX8_lock_12 dX8_lock_13 dX8_lock_15 dX8_lock_18 (Nat.le_of_ble_eq_true rfl) (Nat.le_of_ble_eq_true rfl) (Nat.le_of_ble_eq_true rfl) (Nat.le_of_ble_eq_true rfl) (Nat.le_of_ble_eq_true rfl) (Nat.le_of_ble_eq_true rfl) (fun n9 h9 => ⟨rfl, rfl, h9⟩)

set_option maxHeartbeats 4000000 in
set_option maxRecDepth 100000 in
theorem c_L_lock_422 {X : GX} {l : Launch} {f : AH} {n : Nat} (hl0 : l.stackTraces = false) (h0 : f 0 = some (.inr (8, [.ref 1, .ref 3, .ref 8, .ref 13, .ref 18, .ref 59, .ref 115, .ref 171, .ref 178, .int 0, .int 0, .int 0, .int 0, .int (-1)]))) (h1 : f 1 = some (.inr (5, [.ref 2, .int 0]))) : AMW X l yL_lock cL_lock 3 (some .int) [(0, 8, 11, 13), (0, 8, 14, 28)] 7 1 6 [.ref 0, .ref 223] f n (EXN f [] (some (.int 1))) := by
  refine AMW.of (by decide +kernel) rfl (by decide) (fun p e s m args below meth c C htab => ?_)
  refine ao_start ?_
  refine aw_nl [some (.ref 0), some (.ref 223), none] rfl ?_
  refine aw_ald_n C dL_lock_0 rfl ?_
  refine aw_iconst C 0 dL_lock_1 ki_0 ?_
  refine aw_ald_n C dL_lock_2 rfl ?_
  refine ax_callV C (ci := 8) (b := 0) [] mv_L_25 rfl rfl h0 (c_X8_lock_421 hl0 h0 h1) rfl dL_lock_3 (Nat.le_of_ble_eq_true rfl) (Nat.le_of_ble_eq_true rfl) rfl (Nat.le_of_ble_eq_true rfl) (Nat.le_of_ble_eq_true rfl) (Nat.le_of_ble_eq_true rfl) (fun E9 f9 n9 h9 => ?_) (fun _ _ _ h9 => h9.elim)
  obtain ⟨rfl, rfl, h9⟩ := h9
  refine at_flat [] rfl ?_
  refine at_catch C htab [] ⟨0, 8, 11, 13⟩ [⟨0, 8, 14, 28⟩] rfl (fun z hz => nomatch hz) (by decide) (by decide) cl_L_13 (by decide) (ah_astore_n C dL_lock_11 (by decide) rfl ?_)
  refine aw_nl [some (.ref 0), some (.ref 223), none] rfl ?_
  refine aw_iconst C 1 dL_lock_12 ki_1 ?_
  exact aw_iret C rfl rfl dL_lock_13 (Nat.le_of_ble_eq_true rfl) (Nat.le_of_ble_eq_true rfl) ⟨rfl, rfl⟩

set_option maxHeartbeats 4000000 in
set_option maxRecDepth 100000 in
theorem c_X9_isIn_423 {X : GX} {l : Launch} {f : AH} {n : Nat} : AM X l yX9_isIn cX9_isIn 3 (some .boolean) 0 0 0 [.int 0, .int 1, .int 8] f n (EXO f [] (some (.int 0)) n) := by
  refine AM.of (by decide +kernel) rfl (by decide) (fun p e s m args below meth c C hnm => ?_)
  refine ao_start ?_
  refine aw_nl [some (.int 0), some (.int 1), some (.int 8)] rfl ?_
  refine aw_iload_n C dX9_isIn_0 rfl ?_
  refine aw_iload_n C dX9_isIn_1 rfl ?_
  refine aw_icmp_lt C 14 dX9_isIn_2 (by decide) (fun _ => ?_) (fun q => absurd (by decide) q)
  refine aw_iconst C 0 dX9_isIn_14 ki_0 ?_
  exact aw_iret C rfl (by decide) dX9_isIn_15 (Nat.le_of_ble_eq_true rfl) (Nat.le_of_ble_eq_true rfl) ⟨rfl, rfl, rfl⟩

set_option maxHeartbeats 4000000 in
set_option maxRecDepth 100000 in
theorem c_X9_isWord_424 {X : GX} {l : Launch} {f : AH} {n : Nat} : AM X l yX9_isWord cX9_isWord 4 (some .boolean) 1 0 0 [.ref 181, .int 0] f n (EXO f [] (some (.int 0)) n) := by
  refine AM.of (by decide +kernel) rfl (by decide) (fun p e s m args below meth c C hnm => ?_)
  refine ao_start ?_
  refine aw_nl [some (.ref 181), some (.int 0), none, none] rfl ?_
  refine aw_iload_n C dX9_isWord_0 rfl ?_
  refine aw_iconst C 1 dX9_isWord_1 ki_1 ?_
  refine aw_bipush C 8 dX9_isWord_2 kb_8 ?_
  refine ao_callS C [.int 0, .int 1, .int 8] [] ms_X9_141 (c_X9_isIn_423) rfl dX9_isWord_4 (Nat.le_of_ble_eq_true rfl) (Nat.le_of_ble_eq_true rfl) rfl (Nat.le_of_ble_eq_true rfl) (Nat.le_of_ble_eq_true rfl) (Nat.le_of_ble_eq_true rfl) rfl ?_
  refine aw_istore_n C dX9_isWord_7 (by decide) rfl ?_
  refine aw_nl [some (.ref 181), some (.int 0), some (.int 0), none] rfl ?_
  refine aw_iconst C 0 dX9_isWord_8 ki_0 ?_
  refine aw_istore_n C dX9_isWord_9 (by decide) rfl ?_
  refine aw_nl [some (.ref 181), some (.int 0), some (.int 0), some (.int 0)] rfl ?_
  refine aw_iload_n C dX9_isWord_10 rfl ?_
  refine aw_iload_n C dX9_isWord_11 rfl ?_
  refine aw_icmp_ge C 39 dX9_isWord_12 (by decide) (fun _ => ?_) (fun q => absurd (by decide) q)
  refine aw_iload_n C dX9_isWord_39 rfl ?_
  exact aw_iret C rfl (by decide) dX9_isWord_40 (Nat.le_of_ble_eq_true rfl) (Nat.le_of_ble_eq_true rfl) ⟨rfl, rfl, rfl⟩

set_option maxHeartbeats 4000000 in
set_option maxRecDepth 100000 in
theorem c_X9_lock_425 {X : GX} {l : Launch} {f : AH} {n : Nat} (h181 : f 181 = some (.inr (9, (.int 0 :: .ref 182 :: .ref 183 :: .ref 184 :: .ref 185 :: .int 0 :: .int 0 :: .int 0 :: .ref 186 :: .int 0 :: .int 0 :: .int 0 :: .int (-1) :: .ref 187 :: .ref 188 :: .ref 189 :: .int 0 :: .ref 190 :: .ref 191 :: .ref 192 :: .ref 193 :: .ref 194 :: .int 0 :: .ref 195 :: .ref 196 :: .ref 197 :: .int 0 :: .ref 198 :: .ref 199 :: .ref 200 :: .ref 201 :: .ref 202 :: .ref 203 :: .int 0 :: .ref 204 :: .ref 205 :: .ref 206 :: .ref 207 :: .ref 208 :: .ref 209 :: .ref 210 :: .ref 211 :: .ref 212 :: .ref 213 :: .ref 214 :: .int 0 :: .ref 215 :: .ref 216 :: .int 0 :: .ref 217 :: .ref 218 :: .ref 219 :: .ref 220 :: .ref 221 :: .int 0 :: .int 0 :: .int 0 :: .int 0 :: .ref 222 :: .int 0 :: [])))) : AM X l yX9_lock cX9_lock 2 (some .int) 2 0 0 [.ref 181] f n (EXO f [(181, .inr (9, (.int 1 :: .ref 182 :: .ref 183 :: .ref 184 :: .ref 185 :: .int 0 :: .int 0 :: .int 0 :: .ref 186 :: .int 0 :: .int 0 :: .int 0 :: .int (-1) :: .ref 187 :: .ref 188 :: .ref 189 :: .int 0 :: .ref 190 :: .ref 191 :: .ref 192 :: .ref 193 :: .ref 194 :: .int 0 :: .ref 195 :: .ref 196 :: .ref 197 :: .int 0 :: .ref 198 :: .ref 199 :: .ref 200 :: .ref 201 :: .ref 202 :: .ref 203 :: .int 0 :: .ref 204 :: .ref 205 :: .ref 206 :: .ref 207 :: .ref 208 :: .ref 209 :: .ref 210 :: .ref 211 :: .ref 212 :: .ref 213 :: .ref 214 :: .int 0 :: .ref 215 :: .ref 216 :: .int 0 :: .ref 217 :: .ref 218 :: .ref 219 :: .ref 220 :: .ref 221 :: .int 0 :: .int 0 :: .int 0 :: .int 0 :: .ref 222 :: .int 0 :: [])))] (some (.int 0)) n) := by
  refine AM.of (by decide +kernel) rfl (by decide) (fun p e s m args below meth c C hnm => ?_)
  refine ao_start ?_
  refine aw_nl [some (.ref 181), none] rfl ?_
  refine aw_ald_n C dX9_lock_0 rfl ?_
  refine ao_callV C (ci := 9) (b := 181) [] [(181, .inr (9, (.int 0 :: .ref 182 :: .ref 183 :: .ref 184 :: .ref 185 :: .int 0 :: .int 0 :: .int 0 :: .ref 186 :: .int 0 :: .int 0 :: .int 0 :: .int (-1) :: .ref 187 :: .ref 188 :: .ref 189 :: .int 0 :: .ref 190 :: .ref 191 :: .ref 192 :: .ref 193 :: .ref 194 :: .int 0 :: .ref 195 :: .ref 196 :: .ref 197 :: .int 0 :: .ref 198 :: .ref 199 :: .ref 200 :: .ref 201 :: .ref 202 :: .ref 203 :: .int 0 :: .ref 204 :: .ref 205 :: .ref 206 :: .ref 207 :: .ref 208 :: .ref 209 :: .ref 210 :: .ref 211 :: .ref 212 :: .ref 213 :: .ref 214 :: .int 0 :: .ref 215 :: .ref 216 :: .int 0 :: .ref 217 :: .ref 218 :: .ref 219 :: .ref 220 :: .ref 221 :: .int 0 :: .int 0 :: .int 0 :: .int 0 :: .ref 222 :: .int 0 :: [])))] mv_X9_426 rfl rfl h181 (c_X9_took_197 h181) rfl dX9_lock_1 (Nat.le_of_ble_eq_true rfl) (Nat.le_of_ble_eq_true rfl) rfl (Nat.le_of_ble_eq_true rfl) (Nat.le_of_ble_eq_true rfl) (Nat.le_of_ble_eq_true rfl) rfl ?_
  refine aw_istore_n C dX9_lock_4 (by decide) rfl ?_
  refine aw_nl [some (.ref 181), some (.int 0)] rfl ?_
  refine aw_ald_n C dX9_lock_5 rfl ?_
  refine aw_ald_n C dX9_lock_6 rfl ?_
  refine aw_iload_n C dX9_lock_7 rfl ?_
  refine ao_callV C (ci := 9) (b := 181) [.int 0] [(181, .inr (9, (.int 0 :: .ref 182 :: .ref 183 :: .ref 184 :: .ref 185 :: .int 0 :: .int 0 :: .int 0 :: .ref 186 :: .int 0 :: .int 0 :: .int 0 :: .int (-1) :: .ref 187 :: .ref 188 :: .ref 189 :: .int 0 :: .ref 190 :: .ref 191 :: .ref 192 :: .ref 193 :: .ref 194 :: .int 0 :: .ref 195 :: .ref 196 :: .ref 197 :: .int 0 :: .ref 198 :: .ref 199 :: .ref 200 :: .ref 201 :: .ref 202 :: .ref 203 :: .int 0 :: .ref 204 :: .ref 205 :: .ref 206 :: .ref 207 :: .ref 208 :: .ref 209 :: .ref 210 :: .ref 211 :: .ref 212 :: .ref 213 :: .ref 214 :: .int 0 :: .ref 215 :: .ref 216 :: .int 0 :: .ref 217 :: .ref 218 :: .ref 219 :: .ref 220 :: .ref 221 :: .int 0 :: .int 0 :: .int 0 :: .int 0 :: .ref 222 :: .int 0 :: [])))] mv_X9_432 rfl rfl rfl (c_X9_isWord_424) rfl dX9_lock_8 (Nat.le_of_ble_eq_true rfl) (Nat.le_of_ble_eq_true rfl) rfl (Nat.le_of_ble_eq_true rfl) (Nat.le_of_ble_eq_true rfl) (Nat.le_of_ble_eq_true rfl) rfl ?_
  refine aw_if_eq C 18 dX9_lock_11 (by decide) (fun _ => ?_) (fun q => absurd (by decide) q)
  refine aw_iconst C 1 dX9_lock_18 ki_1 ?_
  refine ao_put C [(181, .inr (9, (.int 1 :: .ref 182 :: .ref 183 :: .ref 184 :: .ref 185 :: .int 0 :: .int 0 :: .int 0 :: .ref 186 :: .int 0 :: .int 0 :: .int 0 :: .int (-1) :: .ref 187 :: .ref 188 :: .ref 189 :: .int 0 :: .ref 190 :: .ref 191 :: .ref 192 :: .ref 193 :: .ref 194 :: .int 0 :: .ref 195 :: .ref 196 :: .ref 197 :: .int 0 :: .ref 198 :: .ref 199 :: .ref 200 :: .ref 201 :: .ref 202 :: .ref 203 :: .int 0 :: .ref 204 :: .ref 205 :: .ref 206 :: .ref 207 :: .ref 208 :: .ref 209 :: .ref 210 :: .ref 211 :: .ref 212 :: .ref 213 :: .ref 214 :: .int 0 :: .ref 215 :: .ref 216 :: .int 0 :: .ref 217 :: .ref 218 :: .ref 219 :: .ref 220 :: .ref 221 :: .int 0 :: .int 0 :: .int 0 :: .int 0 :: .ref 222 :: .int 0 :: [])))] gf_X9_138 cf9 nf9_0 rfl (Nat.le_of_ble_eq_true rfl) rfl rfl dX9_lock_19 rfl ?_
  refine aw_ald_n C dX9_lock_22 rfl ?_
  refine aw_get C gf_X9_138 rfl rfl dX9_lock_23 ?_
  refine aw_if_le C 31 dX9_lock_26 (by decide) (fun q => absurd q (by decide)) (fun _ => ?_)
  refine aw_iconst C 0 dX9_lock_29 ki_0 ?_
  exact aw_iret C rfl rfl dX9_lock_30 (Nat.le_of_ble_eq_true rfl) (Nat.le_of_ble_eq_true rfl) ⟨rfl, rfl, rfl⟩

set_option maxHeartbeats 4000000 in
set_option maxRecDepth 100000 in
theorem c_X8_doAct_426 {X : GX} {l : Launch} {f : AH} {n : Nat} {g74 : Nat → Option Nat} (h0 : f 0 = some (.inr (8, [.ref 1, .ref 3, .ref 8, .ref 13, .ref 18, .ref 59, .ref 115, .ref 171, .ref 178, .int 0, .int 0, .int 0, .int 0, .int (-1)]))) (h3 : f 3 = some (.inr (7, [.ref 4, .int 0, .int (-1), .int 0, .int 1, .int 0, .null, .int 0, .ref 6, .ref 7]))) (h7 : f 7 = some (.inl (2, 40, .inr (.inr (fun _ => none))))) (h59 : f 59 = some (.inr (1, [.ref 60, .ref 62, .ref 74, .int 0, .ref 68, .ref 71, .ref 64, .ref 66]))) (h60 : f 60 = some (.inr (5, [.ref 61, .int 0]))) (h62 : f 62 = some (.inr (5, [.ref 63, .int 0]))) (h68 : f 68 = some (.inr (6, [.ref 69, .int 0, .int 0, .int 0, .int 0, .int 0, .int 0, .int 0, .int 0, .int 0]))) (h74 : f 74 = some (.inl (1, 40, .inr (.inr g74)))) (h4 : f 4 = some (.inr (5, [.ref 5, .int 0]))) (h171 : f 171 = some (.inr (0, [.ref 172, .ref 174, .ref 176, .int 0]))) (h172 : f 172 = some (.inr (5, [.ref 173, .int 0]))) : AM X l yX8_doAct cX8_doAct 6 (some .int) 4 0 0 [.ref 0, .int 7, .int 0, .int 0, .null] f n (EXO f [(0, .inr (8, [.ref 1, .ref 3, .ref 8, .ref 13, .ref 18, .ref 59, .ref 115, .ref 171, .ref 178, .int 0, .int 0, .int 0, .int 0, .int (-1)])), (3, .inr (7, [.ref 4, .int 0, .int (-1), .int 0, .int 1, .int 0, .null, .int 0, .ref 6, .ref 7])), (59, .inr (1, [.ref 60, .ref 62, .ref 74, .int 0, .ref 68, .ref 71, .ref 64, .ref 66])), (68, .inr (6, [.ref 4, .int 0, .int 0, .int 0, .int 0, .int 0, .int 0, .int 0, .int 0, .int 0]))] (some (.int 0)) n) := by
  refine AM.of (by decide +kernel) rfl (by decide) (fun p e s m args below meth c C hnm => ?_)
  refine ao_start ?_
  refine aw_nl [some (.ref 0), some (.int 7), some (.int 0), some (.int 0), some (.null), none] rfl ?_
  refine aw_ald_n C dX8_doAct_0 rfl ?_
  refine aw_iconst C 0 dX8_doAct_1 ki_0 ?_
  refine ao_put C [(0, .inr (8, [.ref 1, .ref 3, .ref 8, .ref 13, .ref 18, .ref 59, .ref 115, .ref 171, .ref 178, .int 0, .int 0, .int 0, .int 0, .int (-1)]))] gf_X8_334 cf8 nf8_10 h0 (Nat.le_of_ble_eq_true rfl) (by decide) (by decide) dX8_doAct_2 rfl ?_
  refine aw_iload_n C dX8_doAct_5 rfl ?_
  refine aw_tabIn C (off := 166) 172 dX8_doAct_6 (by decide) (by decide) (by decide) (by decide) ?_
  refine aw_ald_n C dX8_doAct_172 rfl ?_
  refine aw_get C gf_X8_21 rfl rfl dX8_doAct_173 ?_
  refine aw_iconst C 0 dX8_doAct_176 ki_0 ?_
  refine ao_put C [(0, .inr (8, [.ref 1, .ref 3, .ref 8, .ref 13, .ref 18, .ref 59, .ref 115, .ref 171, .ref 178, .int 0, .int 0, .int 0, .int 0, .int (-1)])), (3, .inr (7, [.ref 4, .int 0, .int (-1), .int 0, .int 1, .int 0, .null, .int 0, .ref 6, .ref 7]))] gf_X8_302 cf7 nf7_5 h3 (Nat.le_of_ble_eq_true rfl) rfl rfl dX8_doAct_177 rfl ?_
  refine aw_ald_n C dX8_doAct_180 rfl ?_
  refine ao_callV C (ci := 8) (b := 0) [] [(0, .inr (8, [.ref 1, .ref 3, .ref 8, .ref 13, .ref 18, .ref 59, .ref 115, .ref 171, .ref 178, .int 0, .int 0, .int 0, .int 0, .int (-1)])), (3, .inr (7, [.ref 4, .int 0, .int (-1), .int 0, .int 1, .int 0, .null, .int 0, .ref 6, .ref 7])), (59, .inr (1, [.ref 60, .ref 62, .ref 74, .int 0, .ref 68, .ref 71, .ref 64, .ref 66])), (68, .inr (6, [.ref 4, .int 0, .int 0, .int 0, .int 0, .int 0, .int 0, .int 0, .int 0, .int 0]))] mv_X8_133 rfl rfl rfl (c_X8_cutAnew_224 rfl rfl h7 h59 h60 h62 h68 h74 h4 h171 h172) rfl dX8_doAct_181 (Nat.le_of_ble_eq_true rfl) (Nat.le_of_ble_eq_true rfl) rfl (Nat.le_of_ble_eq_true rfl) (Nat.le_of_ble_eq_true rfl) (Nat.le_of_ble_eq_true rfl) rfl ?_
  exact aw_iret C rfl rfl dX8_doAct_184 (Nat.le_of_ble_eq_true rfl) (Nat.le_of_ble_eq_true rfl) ⟨rfl, rfl, rfl⟩

set_option maxHeartbeats 4000000 in
set_option maxRecDepth 100000 in
theorem c_X8_unlock_427 {X : GX} {l : Launch} {f : AH} {n : Nat} {g74 : Nat → Option Nat} (h0 : f 0 = some (.inr (8, [.ref 1, .ref 3, .ref 8, .ref 13, .ref 18, .ref 59, .ref 115, .ref 171, .ref 178, .int 0, .int 0, .int 0, .int 0, .int (-1)]))) (h3 : f 3 = some (.inr (7, [.ref 4, .int 0, .int (-1), .int 0, .int 1, .int 0, .null, .int 0, .ref 6, .ref 7]))) (h8 : f 8 = some (.inr (7, [.ref 9, .int 0, .int (-1), .int 0, .int 1, .int 0, .null, .int 0, .ref 11, .ref 12]))) (h11 : f 11 = some (.inl (2, 4, .inr (.inr (fun _ => none))))) (h6 : f 6 = some (.inl (2, 4, .inr (.inr (fun _ => none))))) (h12 : f 12 = some (.inl (2, 40, .inr (.inr (fun _ => none))))) (h7 : f 7 = some (.inl (2, 40, .inr (.inr (fun _ => none))))) (h59 : f 59 = some (.inr (1, [.ref 60, .ref 62, .ref 74, .int 0, .ref 68, .ref 71, .ref 64, .ref 66]))) (h60 : f 60 = some (.inr (5, [.ref 61, .int 0]))) (h62 : f 62 = some (.inr (5, [.ref 63, .int 0]))) (h68 : f 68 = some (.inr (6, [.ref 69, .int 0, .int 0, .int 0, .int 0, .int 0, .int 0, .int 0, .int 0, .int 0]))) (h74 : f 74 = some (.inl (1, 40, .inr (.inr g74)))) (h4 : f 4 = some (.inr (5, [.ref 5, .int 0]))) (h171 : f 171 = some (.inr (0, [.ref 172, .ref 174, .ref 176, .int 0]))) (h172 : f 172 = some (.inr (5, [.ref 173, .int 0]))) (h18 : f 18 = some (.inl (3, 8, .inr (.inr (va_up (va_up (va_up (va_up (va_up (va_up (va_up (va_up (fun _ => none) 0 (some 19)) 1 (some 24)) 2 (some 29)) 3 (some 34)) 4 (some 39)) 5 (some 44)) 6 (some 49)) 7 (some 54)))))) (h19 : f 19 = some (.inr (7, [.ref 20, .int 0, .int (-1), .int 0, .int 1, .int 0, .null, .int 0, .ref 22, .ref 23]))) (h22 : f 22 = some (.inl (2, 4, .inr (.inr (fun _ => none))))) (h23 : f 23 = some (.inl (2, 40, .inr (.inr (fun _ => none))))) : AM X l yX8_unlock cX8_unlock 1 (some .int) 5 0 0 [.ref 0] f n (EXO f [(8, .inr (7, [.ref 4, .int 0, .int (-1), .int 0, .int 1, .int 0, .null, .int 0, .ref 11, .ref 12])), (68, .inr (6, [.ref 4, .int 0, .int 0, .int 0, .int 0, .int 0, .int 0, .int 0, .int 0, .int 0])), (59, .inr (1, [.ref 60, .ref 62, .ref 74, .int 0, .ref 68, .ref 71, .ref 64, .ref 66])), (3, .inr (7, [.ref 4, .int 0, .int (-1), .int 0, .int 1, .int 0, .null, .int 0, .ref 6, .ref 7])), (0, .inr (8, [.ref 1, .ref 3, .ref 8, .ref 13, .ref 18, .ref 59, .ref 115, .ref 171, .ref 178, .int 0, .int 0, .int 1, .int 0, .int (-1)])), (19, .inr (7, [.ref 4, .int 0, .int (-1), .int 0, .int 1, .int 0, .null, .int 0, .ref 22, .ref 23]))] (some (.int 0)) n) := by
  refine AM.of (by decide +kernel) rfl (by decide) (fun p e s m args below meth c C hnm => ?_)
  refine ao_start ?_
  refine aw_nl [some (.ref 0)] rfl ?_
  refine aw_ald_n C dX8_unlock_0 rfl ?_
  refine aw_get C gf_X8_25 h0 rfl dX8_unlock_1 ?_
  refine aw_ald_n C dX8_unlock_4 rfl ?_
  refine aw_get C gf_X8_21 h0 rfl dX8_unlock_5 ?_
  refine ao_callV C (ci := 7) (b := 8) [.ref 3] [(8, .inr (7, [.ref 4, .int 0, .int (-1), .int 0, .int 1, .int 0, .null, .int 0, .ref 11, .ref 12]))] mv_X8_73 rfl rfl h8 (c_X7_copyFrom_168 h3 h8 h11 h6 h12 h7) rfl dX8_unlock_8 (Nat.le_of_ble_eq_true rfl) (Nat.le_of_ble_eq_true rfl) rfl (Nat.le_of_ble_eq_true rfl) (Nat.le_of_ble_eq_true rfl) (Nat.le_of_ble_eq_true rfl) rfl ?_
  refine aw_ald_n C dX8_unlock_11 rfl ?_
  refine aw_ald_n C dX8_unlock_12 rfl ?_
  refine aw_bipush C 7 dX8_unlock_13 kb_7 ?_
  refine aw_iconst C 0 dX8_unlock_15 ki_0 ?_
  refine aw_iconst C 0 dX8_unlock_16 ki_0 ?_
  refine aw_null C dX8_unlock_17 ?_
  refine ao_callV C (ci := 8) (b := 0) [.int 7, .int 0, .int 0, .null] [(8, .inr (7, [.ref 4, .int 0, .int (-1), .int 0, .int 1, .int 0, .null, .int 0, .ref 11, .ref 12])), (68, .inr (6, [.ref 4, .int 0, .int 0, .int 0, .int 0, .int 0, .int 0, .int 0, .int 0, .int 0])), (59, .inr (1, [.ref 60, .ref 62, .ref 74, .int 0, .ref 68, .ref 71, .ref 64, .ref 66])), (3, .inr (7, [.ref 4, .int 0, .int (-1), .int 0, .int 1, .int 0, .null, .int 0, .ref 6, .ref 7])), (0, .inr (8, [.ref 1, .ref 3, .ref 8, .ref 13, .ref 18, .ref 59, .ref 115, .ref 171, .ref 178, .int 0, .int 0, .int 0, .int 0, .int (-1)]))] mv_X8_103 rfl rfl h0 (c_X8_doAct_426 h0 h3 h7 h59 h60 h62 h68 h74 h4 h171 h172) rfl dX8_unlock_18 (Nat.le_of_ble_eq_true rfl) (Nat.le_of_ble_eq_true rfl) rfl (Nat.le_of_ble_eq_true rfl) (Nat.le_of_ble_eq_true rfl) (Nat.le_of_ble_eq_true rfl) rfl ?_
  refine ao_callV C (ci := 8) (b := 0) [.int 0] [(8, .inr (7, [.ref 4, .int 0, .int (-1), .int 0, .int 1, .int 0, .null, .int 0, .ref 11, .ref 12])), (68, .inr (6, [.ref 4, .int 0, .int 0, .int 0, .int 0, .int 0, .int 0, .int 0, .int 0, .int 0])), (59, .inr (1, [.ref 60, .ref 62, .ref 74, .int 0, .ref 68, .ref 71, .ref 64, .ref 66])), (3, .inr (7, [.ref 4, .int 0, .int (-1), .int 0, .int 1, .int 0, .null, .int 0, .ref 6, .ref 7])), (0, .inr (8, [.ref 1, .ref 3, .ref 8, .ref 13, .ref 18, .ref 59, .ref 115, .ref 171, .ref 178, .int 0, .int 0, .int 1, .int 0, .int (-1)])), (19, .inr (7, [.ref 4, .int 0, .int (-1), .int 0, .int 1, .int 0, .null, .int 0, .ref 22, .ref 23]))] mv_X8_139 rfl rfl rfl (c_X8_finishCall_228 rfl h18 rfl h19 h22 h11 h23 h12) rfl dX8_unlock_21 (Nat.le_of_ble_eq_true rfl) (Nat.le_of_ble_eq_true rfl) rfl (Nat.le_of_ble_eq_true rfl) (Nat.le_of_ble_eq_true rfl) (Nat.le_of_ble_eq_true rfl) rfl ?_
  refine aw_ald_n C dX8_unlock_24 rfl ?_
  refine aw_get C gf_X8_38 rfl rfl dX8_unlock_25 ?_
  refine ao_callV C (ci := 1) (b := 59) [] [(8, .inr (7, [.ref 4, .int 0, .int (-1), .int 0, .int 1, .int 0, .null, .int 0, .ref 11, .ref 12])), (68, .inr (6, [.ref 4, .int 0, .int 0, .int 0, .int 0, .int 0, .int 0, .int 0, .int 0, .int 0])), (59, .inr (1, [.ref 60, .ref 62, .ref 74, .int 0, .ref 68, .ref 71, .ref 64, .ref 66])), (3, .inr (7, [.ref 4, .int 0, .int (-1), .int 0, .int 1, .int 0, .null, .int 0, .ref 6, .ref 7])), (0, .inr (8, [.ref 1, .ref 3, .ref 8, .ref 13, .ref 18, .ref 59, .ref 115, .ref 171, .ref 178, .int 0, .int 0, .int 1, .int 0, .int (-1)])), (19, .inr (7, [.ref 4, .int 0, .int (-1), .int 0, .int 1, .int 0, .null, .int 0, .ref 22, .ref 23]))] mv_X8_136 rfl rfl rfl (c_X1_size_192 rfl) rfl dX8_unlock_28 (Nat.le_of_ble_eq_true rfl) (Nat.le_of_ble_eq_true rfl) rfl (Nat.le_of_ble_eq_true rfl) (Nat.le_of_ble_eq_true rfl) (Nat.le_of_ble_eq_true rfl) rfl ?_
  exact aw_iret C rfl rfl dX8_unlock_31 (Nat.le_of_ble_eq_true rfl) (Nat.le_of_ble_eq_true rfl) ⟨rfl, rfl, rfl⟩

set_option maxHeartbeats 4000000 in
set_option maxRecDepth 100000 in
theorem c_X9_cutsAll_428 {X : GX} {l : Launch} {f : AH} {n : Nat} (h181 : f 181 = some (.inr (9, (.int 0 :: .ref 182 :: .ref 183 :: .ref 184 :: .ref 185 :: .int 0 :: .int 0 :: .int 0 :: .ref 186 :: .int 0 :: .int 0 :: .int 0 :: .int (-1) :: .ref 187 :: .ref 188 :: .ref 189 :: .int 0 :: .ref 190 :: .ref 191 :: .ref 192 :: .ref 193 :: .ref 194 :: .int 0 :: .ref 195 :: .ref 196 :: .ref 197 :: .int 0 :: .ref 198 :: .ref 199 :: .ref 200 :: .ref 201 :: .ref 202 :: .ref 203 :: .int 0 :: .ref 204 :: .ref 205 :: .ref 206 :: .ref 207 :: .ref 208 :: .ref 209 :: .ref 210 :: .ref 211 :: .ref 212 :: .ref 213 :: .ref 214 :: .int 0 :: .ref 215 :: .ref 216 :: .int 0 :: .ref 217 :: .ref 218 :: .ref 219 :: .ref 220 :: .ref 221 :: .int 0 :: .int 0 :: .int 0 :: .int 0 :: .ref 222 :: .int 0 :: [])))) (h182 : f 182 = some (.inl (0, 4347, .inl (upd (tl (upd (upd (fun _ => 0) 2 (-1)) 4 1) 40) 5 0)))) : AM X l yX9_cutsAll cX9_cutsAll 5 none 2 0 0 [.ref 181] f n (EXO f [(181, .inr (9, (.int 0 :: .ref 182 :: .ref 183 :: .ref 184 :: .ref 185 :: .int 0 :: .int 0 :: .int 0 :: .ref 186 :: .int 0 :: .int 0 :: .int 0 :: .int (-1) :: .ref 187 :: .ref 188 :: .ref 189 :: .int 0 :: .ref 190 :: .ref 191 :: .ref 192 :: .ref 193 :: .ref 194 :: .int 0 :: .ref 195 :: .ref 196 :: .ref 197 :: .int 0 :: .ref 198 :: .ref 199 :: .ref 200 :: .ref 201 :: .ref 202 :: .ref 203 :: .int 0 :: .ref 204 :: .ref 205 :: .ref 206 :: .ref 207 :: .ref 208 :: .ref 209 :: .ref 210 :: .ref 211 :: .ref 212 :: .ref 213 :: .ref 214 :: .int 0 :: .ref 215 :: .ref 216 :: .int 0 :: .ref 217 :: .ref 218 :: .ref 219 :: .ref 220 :: .ref 221 :: .int 0 :: .int 0 :: .int 0 :: .int 0 :: .ref 222 :: .int 0 :: [])))] none n) := by
  refine AM.of (by decide +kernel) rfl (by decide) (fun p e s m args below meth c C hnm => ?_)
  refine ao_start ?_
  refine aw_nl [some (.ref 181), none, none, none, none] rfl ?_
  refine aw_ald_n C dX9_cutsAll_0 rfl ?_
  refine aw_iconst C 0 dX9_cutsAll_1 ki_0 ?_
  refine ao_put C [(181, .inr (9, (.int 0 :: .ref 182 :: .ref 183 :: .ref 184 :: .ref 185 :: .int 0 :: .int 0 :: .int 0 :: .ref 186 :: .int 0 :: .int 0 :: .int 0 :: .int (-1) :: .ref 187 :: .ref 188 :: .ref 189 :: .int 0 :: .ref 190 :: .ref 191 :: .ref 192 :: .ref 193 :: .ref 194 :: .int 0 :: .ref 195 :: .ref 196 :: .ref 197 :: .int 0 :: .ref 198 :: .ref 199 :: .ref 200 :: .ref 201 :: .ref 202 :: .ref 203 :: .int 0 :: .ref 204 :: .ref 205 :: .ref 206 :: .ref 207 :: .ref 208 :: .ref 209 :: .ref 210 :: .ref 211 :: .ref 212 :: .ref 213 :: .ref 214 :: .int 0 :: .ref 215 :: .ref 216 :: .int 0 :: .ref 217 :: .ref 218 :: .ref 219 :: .ref 220 :: .ref 221 :: .int 0 :: .int 0 :: .int 0 :: .int 0 :: .ref 222 :: .int 0 :: [])))] gf_X9_204 cf9 nf9_33 h181 (Nat.le_of_ble_eq_true rfl) rfl rfl dX9_cutsAll_2 rfl ?_
  refine aw_ald_n C dX9_cutsAll_5 rfl ?_
  refine aw_iconst C 0 dX9_cutsAll_6 ki_0 ?_
  refine ao_put C [(181, .inr (9, (.int 0 :: .ref 182 :: .ref 183 :: .ref 184 :: .ref 185 :: .int 0 :: .int 0 :: .int 0 :: .ref 186 :: .int 0 :: .int 0 :: .int 0 :: .int (-1) :: .ref 187 :: .ref 188 :: .ref 189 :: .int 0 :: .ref 190 :: .ref 191 :: .ref 192 :: .ref 193 :: .ref 194 :: .int 0 :: .ref 195 :: .ref 196 :: .ref 197 :: .int 0 :: .ref 198 :: .ref 199 :: .ref 200 :: .ref 201 :: .ref 202 :: .ref 203 :: .int 0 :: .ref 204 :: .ref 205 :: .ref 206 :: .ref 207 :: .ref 208 :: .ref 209 :: .ref 210 :: .ref 211 :: .ref 212 :: .ref 213 :: .ref 214 :: .int 0 :: .ref 215 :: .ref 216 :: .int 0 :: .ref 217 :: .ref 218 :: .ref 219 :: .ref 220 :: .ref 221 :: .int 0 :: .int 0 :: .int 0 :: .int 0 :: .ref 222 :: .int 0 :: [])))] gf_X9_217 cf9 nf9_45 rfl (Nat.le_of_ble_eq_true rfl) rfl rfl dX9_cutsAll_7 rfl ?_
  refine aw_iconst C 0 dX9_cutsAll_10 ki_0 ?_
  refine aw_istore_n C dX9_cutsAll_11 (by decide) rfl ?_
  refine aw_nl [some (.ref 181), some (.int 0), none, none, none] rfl ?_
  refine aw_iload_n C dX9_cutsAll_12 rfl ?_
  refine aw_ald_n C dX9_cutsAll_13 rfl ?_
  refine aw_get C gf_X9_220 rfl rfl dX9_cutsAll_14 ?_
  refine aw_icmp_ge C 42 dX9_cutsAll_17 (by decide) (fun _ => ?_) (fun q => absurd (by decide) q)
  refine aw_ald_n C dX9_cutsAll_42 rfl ?_
  refine aw_ald_n C dX9_cutsAll_43 rfl ?_
  refine aw_ald_n C dX9_cutsAll_44 rfl ?_
  refine aw_get C gf_X9_7 rfl rfl dX9_cutsAll_45 ?_
  refine aw_iconst C 1 dX9_cutsAll_48 ki_1 ?_
  refine ao_iald C 0 h182 (by unfold vp_in; decide) (by decide : _ = 1) rfl dX9_cutsAll_49 ?_
  refine aw_ald_n C dX9_cutsAll_50 rfl ?_
  refine aw_get C gf_X9_30 rfl rfl dX9_cutsAll_51 ?_
  refine aw_ald_n C dX9_cutsAll_54 rfl ?_
  refine aw_get C gf_X9_220 rfl rfl dX9_cutsAll_55 ?_
  refine aw_ald_n C dX9_cutsAll_58 rfl ?_
  refine aw_get C gf_X9_39 rfl rfl dX9_cutsAll_59 ?_
  refine aw_ald_n C dX9_cutsAll_62 rfl ?_
  refine aw_get C gf_X9_42 rfl rfl dX9_cutsAll_63 ?_
  refine aw_ald_n C dX9_cutsAll_66 rfl ?_
  refine aw_get C gf_X9_45 rfl rfl dX9_cutsAll_67 ?_
  refine ao_callV C (ci := 9) (b := 181) [.int 0, .ref 187, .int 0, .ref 190, .ref 191, .ref 192] [(181, .inr (9, (.int 0 :: .ref 182 :: .ref 183 :: .ref 184 :: .ref 185 :: .int 0 :: .int 0 :: .int 0 :: .ref 186 :: .int 0 :: .int 0 :: .int 0 :: .int (-1) :: .ref 187 :: .ref 188 :: .ref 189 :: .int 0 :: .ref 190 :: .ref 191 :: .ref 192 :: .ref 193 :: .ref 194 :: .int 0 :: .ref 195 :: .ref 196 :: .ref 197 :: .int 0 :: .ref 198 :: .ref 199 :: .ref 200 :: .ref 201 :: .ref 202 :: .ref 203 :: .int 0 :: .ref 204 :: .ref 205 :: .ref 206 :: .ref 207 :: .ref 208 :: .ref 209 :: .ref 210 :: .ref 211 :: .ref 212 :: .ref 213 :: .ref 214 :: .int 0 :: .ref 215 :: .ref 216 :: .int 0 :: .ref 217 :: .ref 218 :: .ref 219 :: .ref 220 :: .ref 221 :: .int 0 :: .int 0 :: .int 0 :: .int 0 :: .ref 222 :: .int 0 :: [])))] mv_X9_223 rfl rfl rfl (c_X9_cuts_199 rfl) rfl dX9_cutsAll_70 (Nat.le_of_ble_eq_true rfl) (Nat.le_of_ble_eq_true rfl) rfl (Nat.le_of_ble_eq_true rfl) (Nat.le_of_ble_eq_true rfl) (Nat.le_of_ble_eq_true rfl) rfl ?_
  refine ao_put C [(181, .inr (9, (.int 0 :: .ref 182 :: .ref 183 :: .ref 184 :: .ref 185 :: .int 0 :: .int 0 :: .int 0 :: .ref 186 :: .int 0 :: .int 0 :: .int 0 :: .int (-1) :: .ref 187 :: .ref 188 :: .ref 189 :: .int 0 :: .ref 190 :: .ref 191 :: .ref 192 :: .ref 193 :: .ref 194 :: .int 0 :: .ref 195 :: .ref 196 :: .ref 197 :: .int 0 :: .ref 198 :: .ref 199 :: .ref 200 :: .ref 201 :: .ref 202 :: .ref 203 :: .int 0 :: .ref 204 :: .ref 205 :: .ref 206 :: .ref 207 :: .ref 208 :: .ref 209 :: .ref 210 :: .ref 211 :: .ref 212 :: .ref 213 :: .ref 214 :: .int 0 :: .ref 215 :: .ref 216 :: .int 0 :: .ref 217 :: .ref 218 :: .ref 219 :: .ref 220 :: .ref 221 :: .int 0 :: .int 0 :: .int 0 :: .int 0 :: .ref 222 :: .int 0 :: [])))] gf_X9_227 cf9 nf9_22 rfl (Nat.le_of_ble_eq_true rfl) rfl rfl dX9_cutsAll_73 rfl ?_
  refine aw_iconst C 0 dX9_cutsAll_76 ki_0 ?_
  refine aw_istore_n C dX9_cutsAll_77 (by decide) rfl ?_
  refine aw_nl [some (.ref 181), some (.int 0), none, none, none] rfl ?_
  refine aw_iload_n C dX9_cutsAll_78 rfl ?_
  refine aw_ald_n C dX9_cutsAll_79 rfl ?_
  refine aw_get C gf_X9_227 rfl rfl dX9_cutsAll_80 ?_
  refine aw_icmp_ge C 339 dX9_cutsAll_83 (by decide) (fun _ => ?_) (fun q => absurd (by decide) q)
  exact aw_vret C rfl dX9_cutsAll_339 (Nat.le_of_ble_eq_true rfl) (Nat.le_of_ble_eq_true rfl) ⟨rfl, rfl, rfl⟩

set_option maxHeartbeats 4000000 in
set_option maxRecDepth 100000 in
theorem c_X9_cutsFile_429 {X : GX} {l : Launch} {f : AH} {n : Nat} (h181 : f 181 = some (.inr (9, (.int 0 :: .ref 182 :: .ref 183 :: .ref 184 :: .ref 185 :: .int 0 :: .int 0 :: .int 0 :: .ref 186 :: .int 0 :: .int 0 :: .int 0 :: .int (-1) :: .ref 187 :: .ref 188 :: .ref 189 :: .int 0 :: .ref 190 :: .ref 191 :: .ref 192 :: .ref 193 :: .ref 194 :: .int 0 :: .ref 195 :: .ref 196 :: .ref 197 :: .int 0 :: .ref 198 :: .ref 199 :: .ref 200 :: .ref 201 :: .ref 202 :: .ref 203 :: .int 0 :: .ref 204 :: .ref 205 :: .ref 206 :: .ref 207 :: .ref 208 :: .ref 209 :: .ref 210 :: .ref 211 :: .ref 212 :: .ref 213 :: .ref 214 :: .int 0 :: .ref 215 :: .ref 216 :: .int 0 :: .ref 217 :: .ref 218 :: .ref 219 :: .ref 220 :: .ref 221 :: .int 0 :: .int 0 :: .int 0 :: .int 0 :: .ref 222 :: .int 0 :: [])))) (h182 : f 182 = some (.inl (0, 4347, .inl (upd (tl (upd (upd (fun _ => 0) 2 (-1)) 4 1) 40) 5 0)))) : AM X l yX9_cutsFile cX9_cutsFile 2 none 3 0 0 [.ref 181] f n (EXO f [(181, .inr (9, (.int 0 :: .ref 182 :: .ref 183 :: .ref 184 :: .ref 185 :: .int 0 :: .int 0 :: .int 0 :: .ref 186 :: .int 0 :: .int 0 :: .int 0 :: .int (-1) :: .ref 187 :: .ref 188 :: .ref 189 :: .int 0 :: .ref 190 :: .ref 191 :: .ref 192 :: .ref 193 :: .ref 194 :: .int 0 :: .ref 195 :: .ref 196 :: .ref 197 :: .int 0 :: .ref 198 :: .ref 199 :: .ref 200 :: .ref 201 :: .ref 202 :: .ref 203 :: .int 0 :: .ref 204 :: .ref 205 :: .ref 206 :: .ref 207 :: .ref 208 :: .ref 209 :: .ref 210 :: .ref 211 :: .ref 212 :: .ref 213 :: .ref 214 :: .int 0 :: .ref 215 :: .ref 216 :: .int 0 :: .ref 217 :: .ref 218 :: .ref 219 :: .ref 220 :: .ref 221 :: .int 0 :: .int 0 :: .int 0 :: .int 0 :: .ref 222 :: .int 0 :: [])))] none n) := by
  refine AM.of (by decide +kernel) rfl (by decide) (fun p e s m args below meth c C hnm => ?_)
  refine ao_start ?_
  refine aw_nl [some (.ref 181), none] rfl ?_
  refine aw_ald_n C dX9_cutsFile_0 rfl ?_
  refine aw_ald_n C dX9_cutsFile_1 rfl ?_
  refine aw_get C gf_X9_7 h181 rfl dX9_cutsFile_2 ?_
  refine aw_iconst C 0 dX9_cutsFile_5 ki_0 ?_
  refine ao_iald C 0 h182 (by unfold vp_in; decide) (by decide : _ = 0) rfl dX9_cutsFile_6 ?_
  refine ao_put C [(181, .inr (9, (.int 0 :: .ref 182 :: .ref 183 :: .ref 184 :: .ref 185 :: .int 0 :: .int 0 :: .int 0 :: .ref 186 :: .int 0 :: .int 0 :: .int 0 :: .int (-1) :: .ref 187 :: .ref 188 :: .ref 189 :: .int 0 :: .ref 190 :: .ref 191 :: .ref 192 :: .ref 193 :: .ref 194 :: .int 0 :: .ref 195 :: .ref 196 :: .ref 197 :: .int 0 :: .ref 198 :: .ref 199 :: .ref 200 :: .ref 201 :: .ref 202 :: .ref 203 :: .int 0 :: .ref 204 :: .ref 205 :: .ref 206 :: .ref 207 :: .ref 208 :: .ref 209 :: .ref 210 :: .ref 211 :: .ref 212 :: .ref 213 :: .ref 214 :: .int 0 :: .ref 215 :: .ref 216 :: .int 0 :: .ref 217 :: .ref 218 :: .ref 219 :: .ref 220 :: .ref 221 :: .int 0 :: .int 0 :: .int 0 :: .int 0 :: .ref 222 :: .int 0 :: [])))] gf_X9_220 cf9 nf9_16 h181 (Nat.le_of_ble_eq_true rfl) rfl rfl dX9_cutsFile_7 rfl ?_
  refine aw_iconst C 0 dX9_cutsFile_10 ki_0 ?_
  refine aw_istore_n C dX9_cutsFile_11 (by decide) rfl ?_
  refine aw_nl [some (.ref 181), some (.int 0)] rfl ?_
  refine aw_iload_n C dX9_cutsFile_12 rfl ?_
  refine aw_ald_n C dX9_cutsFile_13 rfl ?_
  refine aw_get C gf_X9_220 rfl rfl dX9_cutsFile_14 ?_
  refine aw_icmp_ge C 41 dX9_cutsFile_17 (by decide) (fun _ => ?_) (fun q => absurd (by decide) q)
  refine aw_ald_n C dX9_cutsFile_41 rfl ?_
  refine ao_callV C (ci := 9) (b := 181) [] [(181, .inr (9, (.int 0 :: .ref 182 :: .ref 183 :: .ref 184 :: .ref 185 :: .int 0 :: .int 0 :: .int 0 :: .ref 186 :: .int 0 :: .int 0 :: .int 0 :: .int (-1) :: .ref 187 :: .ref 188 :: .ref 189 :: .int 0 :: .ref 190 :: .ref 191 :: .ref 192 :: .ref 193 :: .ref 194 :: .int 0 :: .ref 195 :: .ref 196 :: .ref 197 :: .int 0 :: .ref 198 :: .ref 199 :: .ref 200 :: .ref 201 :: .ref 202 :: .ref 203 :: .int 0 :: .ref 204 :: .ref 205 :: .ref 206 :: .ref 207 :: .ref 208 :: .ref 209 :: .ref 210 :: .ref 211 :: .ref 212 :: .ref 213 :: .ref 214 :: .int 0 :: .ref 215 :: .ref 216 :: .int 0 :: .ref 217 :: .ref 218 :: .ref 219 :: .ref 220 :: .ref 221 :: .int 0 :: .int 0 :: .int 0 :: .int 0 :: .ref 222 :: .int 0 :: [])))] mv_X9_241 rfl rfl rfl (c_X9_cutsAll_428 rfl h182) rfl dX9_cutsFile_42 (Nat.le_of_ble_eq_true rfl) (Nat.le_of_ble_eq_true rfl) rfl (Nat.le_of_ble_eq_true rfl) (Nat.le_of_ble_eq_true rfl) (Nat.le_of_ble_eq_true rfl) rfl ?_
  exact aw_vret C rfl dX9_cutsFile_45 (Nat.le_of_ble_eq_true rfl) (Nat.le_of_ble_eq_true rfl) ⟨rfl, rfl, rfl⟩

set_option maxHeartbeats 4000000 in
set_option maxRecDepth 100000 in
theorem c_X9_cutsAnew_430 {X : GX} {l : Launch} {f : AH} {n : Nat} (h181 : f 181 = some (.inr (9, (.int 0 :: .ref 182 :: .ref 183 :: .ref 184 :: .ref 185 :: .int 0 :: .int 0 :: .int 0 :: .ref 186 :: .int 0 :: .int 0 :: .int 0 :: .int (-1) :: .ref 187 :: .ref 188 :: .ref 189 :: .int 0 :: .ref 190 :: .ref 191 :: .ref 192 :: .ref 193 :: .ref 194 :: .int 0 :: .ref 195 :: .ref 196 :: .ref 197 :: .int 0 :: .ref 198 :: .ref 199 :: .ref 200 :: .ref 201 :: .ref 202 :: .ref 203 :: .int 0 :: .ref 204 :: .ref 205 :: .ref 206 :: .ref 207 :: .ref 208 :: .ref 209 :: .ref 210 :: .ref 211 :: .ref 212 :: .ref 213 :: .ref 214 :: .int 0 :: .ref 215 :: .ref 216 :: .int 0 :: .ref 217 :: .ref 218 :: .ref 219 :: .ref 220 :: .ref 221 :: .int 0 :: .int 0 :: .int 0 :: .int 0 :: .ref 222 :: .int 0 :: [])))) (h182 : f 182 = some (.inl (0, 4347, .inl (upd (tl (upd (upd (fun _ => 0) 2 (-1)) 4 1) 40) 5 0)))) : AM X l yX9_cutsAnew cX9_cutsAnew 2 none 4 0 0 [.ref 181] f n (EXO f [(181, .inr (9, (.int 0 :: .ref 182 :: .ref 183 :: .ref 184 :: .ref 185 :: .int 0 :: .int 0 :: .int 0 :: .ref 186 :: .int 0 :: .int 0 :: .int 0 :: .int (-1) :: .ref 187 :: .ref 188 :: .ref 189 :: .int 0 :: .ref 190 :: .ref 191 :: .ref 192 :: .ref 193 :: .ref 194 :: .int 0 :: .ref 195 :: .ref 196 :: .ref 197 :: .int 0 :: .ref 198 :: .ref 199 :: .ref 200 :: .ref 201 :: .ref 202 :: .ref 203 :: .int 0 :: .ref 204 :: .ref 205 :: .ref 206 :: .ref 207 :: .ref 208 :: .ref 209 :: .ref 210 :: .ref 211 :: .ref 212 :: .ref 213 :: .ref 214 :: .int 0 :: .ref 215 :: .ref 216 :: .int 0 :: .ref 217 :: .ref 218 :: .ref 219 :: .ref 220 :: .ref 221 :: .int 0 :: .int 0 :: .int 0 :: .int 0 :: .ref 222 :: .int 0 :: []))), (182, .inl (0, 4347, .inl (tl (upd (tl (upd (upd (fun _ => 0) 2 (-1)) 4 1) 40) 5 0) 40)))] none n) := by
  refine AM.of (by decide +kernel) rfl (by decide) (fun p e s m args below meth c C hnm => ?_)
  refine ao_start ?_
  refine aw_nl [some (.ref 181), none] rfl ?_
  refine aw_ald_n C dX9_cutsAnew_0 rfl ?_
  refine ao_callV C (ci := 9) (b := 181) [] [(181, .inr (9, (.int 0 :: .ref 182 :: .ref 183 :: .ref 184 :: .ref 185 :: .int 0 :: .int 0 :: .int 0 :: .ref 186 :: .int 0 :: .int 0 :: .int 0 :: .int (-1) :: .ref 187 :: .ref 188 :: .ref 189 :: .int 0 :: .ref 190 :: .ref 191 :: .ref 192 :: .ref 193 :: .ref 194 :: .int 0 :: .ref 195 :: .ref 196 :: .ref 197 :: .int 0 :: .ref 198 :: .ref 199 :: .ref 200 :: .ref 201 :: .ref 202 :: .ref 203 :: .int 0 :: .ref 204 :: .ref 205 :: .ref 206 :: .ref 207 :: .ref 208 :: .ref 209 :: .ref 210 :: .ref 211 :: .ref 212 :: .ref 213 :: .ref 214 :: .int 0 :: .ref 215 :: .ref 216 :: .int 0 :: .ref 217 :: .ref 218 :: .ref 219 :: .ref 220 :: .ref 221 :: .int 0 :: .int 0 :: .int 0 :: .int 0 :: .ref 222 :: .int 0 :: [])))] mv_X9_244 rfl rfl h181 (c_X9_cutsFile_429 h181 h182) rfl dX9_cutsAnew_1 (Nat.le_of_ble_eq_true rfl) (Nat.le_of_ble_eq_true rfl) rfl (Nat.le_of_ble_eq_true rfl) (Nat.le_of_ble_eq_true rfl) (Nat.le_of_ble_eq_true rfl) rfl ?_
  refine aw_iconst C 0 dX9_cutsAnew_4 ki_0 ?_
  refine aw_istore_n C dX9_cutsAnew_5 (by decide) rfl ?_
  refine aw_nl [some (.ref 181), some (.int 0)] rfl ?_
  refine lp_X9_cutsAnew C (M := 181) (a := 182) (fs := (.int 0 :: .ref 182 :: .ref 183 :: .ref 184 :: .ref 185 :: .int 0 :: .int 0 :: .int 0 :: .ref 186 :: .int 0 :: .int 0 :: .int 0 :: .int (-1) :: .ref 187 :: .ref 188 :: .ref 189 :: .int 0 :: .ref 190 :: .ref 191 :: .ref 192 :: .ref 193 :: .ref 194 :: .int 0 :: .ref 195 :: .ref 196 :: .ref 197 :: .int 0 :: .ref 198 :: .ref 199 :: .ref 200 :: .ref 201 :: .ref 202 :: .ref 203 :: .int 0 :: .ref 204 :: .ref 205 :: .ref 206 :: .ref 207 :: .ref 208 :: .ref 209 :: .ref 210 :: .ref 211 :: .ref 212 :: .ref 213 :: .ref 214 :: .int 0 :: .ref 215 :: .ref 216 :: .int 0 :: .ref 217 :: .ref 218 :: .ref 219 :: .ref 220 :: .ref 221 :: .int 0 :: .int 0 :: .int 0 :: .int 0 :: .ref 222 :: .int 0 :: [])) (g := upd (tl (upd (upd (fun _ => 0) 2 (-1)) 4 1) 40) 5 0) [(181, .inr (9, (.int 0 :: .ref 182 :: .ref 183 :: .ref 184 :: .ref 185 :: .int 0 :: .int 0 :: .int 0 :: .ref 186 :: .int 0 :: .int 0 :: .int 0 :: .int (-1) :: .ref 187 :: .ref 188 :: .ref 189 :: .int 0 :: .ref 190 :: .ref 191 :: .ref 192 :: .ref 193 :: .ref 194 :: .int 0 :: .ref 195 :: .ref 196 :: .ref 197 :: .int 0 :: .ref 198 :: .ref 199 :: .ref 200 :: .ref 201 :: .ref 202 :: .ref 203 :: .int 0 :: .ref 204 :: .ref 205 :: .ref 206 :: .ref 207 :: .ref 208 :: .ref 209 :: .ref 210 :: .ref 211 :: .ref 212 :: .ref 213 :: .ref 214 :: .int 0 :: .ref 215 :: .ref 216 :: .int 0 :: .ref 217 :: .ref 218 :: .ref 219 :: .ref 220 :: .ref 221 :: .int 0 :: .int 0 :: .int 0 :: .int 0 :: .ref 222 :: .int 0 :: []))), (182, .inl (0, 4347, .inl (tl (upd (tl (upd (upd (fun _ => 0) 2 (-1)) 4 1) 40) 5 0) 40)))] rfl rfl (by decide) h182 rfl ?_
  exact aw_vret C rfl dX9_cutsAnew_32 (Nat.le_of_ble_eq_true rfl) (Nat.le_of_ble_eq_true rfl) ⟨rfl, rfl, rfl⟩

set_option maxHeartbeats 4000000 in
set_option maxRecDepth 100000 in
theorem c_X9_unlocks_431 {X : GX} {l : Launch} {f : AH} {n : Nat} (h181 : f 181 = some (.inr (9, (.int 0 :: .ref 182 :: .ref 183 :: .ref 184 :: .ref 185 :: .int 0 :: .int 0 :: .int 0 :: .ref 186 :: .int 0 :: .int 0 :: .int 0 :: .int (-1) :: .ref 187 :: .ref 188 :: .ref 189 :: .int 0 :: .ref 190 :: .ref 191 :: .ref 192 :: .ref 193 :: .ref 194 :: .int 0 :: .ref 195 :: .ref 196 :: .ref 197 :: .int 0 :: .ref 198 :: .ref 199 :: .ref 200 :: .ref 201 :: .ref 202 :: .ref 203 :: .int 0 :: .ref 204 :: .ref 205 :: .ref 206 :: .ref 207 :: .ref 208 :: .ref 209 :: .ref 210 :: .ref 211 :: .ref 212 :: .ref 213 :: .ref 214 :: .int 0 :: .ref 215 :: .ref 216 :: .int 0 :: .ref 217 :: .ref 218 :: .ref 219 :: .ref 220 :: .ref 221 :: .int 0 :: .int 0 :: .int 0 :: .int 0 :: .ref 222 :: .int 0 :: [])))) (h182 : f 182 = some (.inl (0, 4347, .inl (tl (upd (upd (fun _ => 0) 2 (-1)) 4 1) 40)))) : AM X l yX9_unlocks cX9_unlocks 1 (some .int) 5 0 0 [.ref 181] f n (EXO f [(182, .inl (0, 4347, .inl (tl (upd (tl (upd (upd (fun _ => 0) 2 (-1)) 4 1) 40) 5 0) 40))), (181, .inr (9, (.int 0 :: .ref 182 :: .ref 183 :: .ref 184 :: .ref 185 :: .int 0 :: .int 0 :: .int 0 :: .ref 186 :: .int 0 :: .int 0 :: .int 0 :: .int (-1) :: .ref 187 :: .ref 188 :: .ref 189 :: .int 0 :: .ref 190 :: .ref 191 :: .ref 192 :: .ref 193 :: .ref 194 :: .int 0 :: .ref 195 :: .ref 196 :: .ref 197 :: .int 0 :: .ref 198 :: .ref 199 :: .ref 200 :: .ref 201 :: .ref 202 :: .ref 203 :: .int 0 :: .ref 204 :: .ref 205 :: .ref 206 :: .ref 207 :: .ref 208 :: .ref 209 :: .ref 210 :: .ref 211 :: .ref 212 :: .ref 213 :: .ref 214 :: .int 0 :: .ref 215 :: .ref 216 :: .int 0 :: .ref 217 :: .ref 218 :: .ref 219 :: .ref 220 :: .ref 221 :: .int 0 :: .int 0 :: .int 0 :: .int 0 :: .ref 222 :: .int 0 :: [])))] (some (.int 0)) n) := by
  refine AM.of (by decide +kernel) rfl (by decide) (fun p e s m args below meth c C hnm => ?_)
  refine ao_start ?_
  refine aw_nl [some (.ref 181)] rfl ?_
  refine aw_ald_n C dX9_unlocks_0 rfl ?_
  refine aw_get C gf_X9_7 h181 rfl dX9_unlocks_1 ?_
  refine aw_iconst C 5 dX9_unlocks_4 ki_5 ?_
  refine aw_iconst C 0 dX9_unlocks_5 ki_0 ?_
  refine ao_iast C [(182, .inl (0, 4347, .inl (upd (tl (upd (upd (fun _ => 0) 2 (-1)) 4 1) 40) 5 0)))] h182 (by unfold vp_in; decide) (by decide : _ = 5) dX9_unlocks_6 rfl ?_
  refine aw_ald_n C dX9_unlocks_7 rfl ?_
  refine ao_callV C (ci := 9) (b := 181) [] [(182, .inl (0, 4347, .inl (tl (upd (tl (upd (upd (fun _ => 0) 2 (-1)) 4 1) 40) 5 0) 40))), (181, .inr (9, (.int 0 :: .ref 182 :: .ref 183 :: .ref 184 :: .ref 185 :: .int 0 :: .int 0 :: .int 0 :: .ref 186 :: .int 0 :: .int 0 :: .int 0 :: .int (-1) :: .ref 187 :: .ref 188 :: .ref 189 :: .int 0 :: .ref 190 :: .ref 191 :: .ref 192 :: .ref 193 :: .ref 194 :: .int 0 :: .ref 195 :: .ref 196 :: .ref 197 :: .int 0 :: .ref 198 :: .ref 199 :: .ref 200 :: .ref 201 :: .ref 202 :: .ref 203 :: .int 0 :: .ref 204 :: .ref 205 :: .ref 206 :: .ref 207 :: .ref 208 :: .ref 209 :: .ref 210 :: .ref 211 :: .ref 212 :: .ref 213 :: .ref 214 :: .int 0 :: .ref 215 :: .ref 216 :: .int 0 :: .ref 217 :: .ref 218 :: .ref 219 :: .ref 220 :: .ref 221 :: .int 0 :: .int 0 :: .int 0 :: .int 0 :: .ref 222 :: .int 0 :: [])))] mv_X9_322 rfl rfl h181 (c_X9_cutsAnew_430 h181 rfl) rfl dX9_unlocks_8 (Nat.le_of_ble_eq_true rfl) (Nat.le_of_ble_eq_true rfl) rfl (Nat.le_of_ble_eq_true rfl) (Nat.le_of_ble_eq_true rfl) (Nat.le_of_ble_eq_true rfl) rfl ?_
  refine aw_iconst C 0 dX9_unlocks_11 ki_0 ?_
  exact aw_iret C rfl rfl dX9_unlocks_12 (Nat.le_of_ble_eq_true rfl) (Nat.le_of_ble_eq_true rfl) ⟨rfl, rfl, rfl⟩

set_option maxHeartbeats 4000000 in
set_option maxRecDepth 100000 in
theorem c_X9_unlock_432 {X : GX} {l : Launch} {f : AH} {n : Nat} (h181 : f 181 = some (.inr (9, (.int 0 :: .ref 182 :: .ref 183 :: .ref 184 :: .ref 185 :: .int 0 :: .int 0 :: .int 0 :: .ref 186 :: .int 0 :: .int 0 :: .int 0 :: .int (-1) :: .ref 187 :: .ref 188 :: .ref 189 :: .int 0 :: .ref 190 :: .ref 191 :: .ref 192 :: .ref 193 :: .ref 194 :: .int 0 :: .ref 195 :: .ref 196 :: .ref 197 :: .int 0 :: .ref 198 :: .ref 199 :: .ref 200 :: .ref 201 :: .ref 202 :: .ref 203 :: .int 0 :: .ref 204 :: .ref 205 :: .ref 206 :: .ref 207 :: .ref 208 :: .ref 209 :: .ref 210 :: .ref 211 :: .ref 212 :: .ref 213 :: .ref 214 :: .int 0 :: .ref 215 :: .ref 216 :: .int 0 :: .ref 217 :: .ref 218 :: .ref 219 :: .ref 220 :: .ref 221 :: .int 0 :: .int 0 :: .int 0 :: .int 0 :: .ref 222 :: .int 0 :: [])))) (h183 : f 183 = some (.inl (0, 4347, .inl (fun _ => 0)))) (h182 : f 182 = some (.inl (0, 4347, .inl (tl (upd (upd (fun _ => 0) 2 (-1)) 4 1) 40)))) (h185 : f 185 = some (.inl (0, 34776, .inl (fun _ => 0)))) : AM X l yX9_unlock cX9_unlock 1 (some .int) 6 0 0 [.ref 181] f n (EXO f [(183, .inl (0, 4347, .inl (cpy (tl (upd (upd (fun _ => 0) 2 (-1)) 4 1) 40) (fun _ => 0) 4347))), (181, .inr (9, (.int 0 :: .ref 182 :: .ref 183 :: .ref 184 :: .ref 185 :: .int 1 :: .int 0 :: .int 0 :: .ref 186 :: .int 0 :: .int 0 :: .int 0 :: .int (-1) :: .ref 187 :: .ref 188 :: .ref 189 :: .int 0 :: .ref 190 :: .ref 191 :: .ref 192 :: .ref 193 :: .ref 194 :: .int 0 :: .ref 195 :: .ref 196 :: .ref 197 :: .int 0 :: .ref 198 :: .ref 199 :: .ref 200 :: .ref 201 :: .ref 202 :: .ref 203 :: .int 0 :: .ref 204 :: .ref 205 :: .ref 206 :: .ref 207 :: .ref 208 :: .ref 209 :: .ref 210 :: .ref 211 :: .ref 212 :: .ref 213 :: .ref 214 :: .int 0 :: .ref 215 :: .ref 216 :: .int 0 :: .ref 217 :: .ref 218 :: .ref 219 :: .ref 220 :: .ref 221 :: .int 0 :: .int 0 :: .int 0 :: .int 0 :: .ref 222 :: .int 0 :: []))), (182, .inl (0, 4347, .inl (tl (upd (tl (upd (upd (fun _ => 0) 2 (-1)) 4 1) 40) 5 0) 40))), (185, .inl (0, 34776, .inl (cpy (cpy (tl (upd (upd (fun _ => 0) 2 (-1)) 4 1) 40) (fun _ => 0) 4347) (fun _ => 0) 4347)))] (some (.int 0)) n) := by
  refine AM.of (by decide +kernel) rfl (by decide) (fun p e s m args below meth c C hnm => ?_)
  refine ao_start ?_
  refine aw_nl [some (.ref 181)] rfl ?_
  refine aw_ald_n C dX9_unlock_0 rfl ?_
  refine ao_callV C (ci := 9) (b := 181) [] [(183, .inl (0, 4347, .inl (cpy (tl (upd (upd (fun _ => 0) 2 (-1)) 4 1) 40) (fun _ => 0) 4347)))] mv_X9_420 rfl rfl h181 (c_X9_putsAside_173 h181 h183 h182) rfl dX9_unlock_1 (Nat.le_of_ble_eq_true rfl) (Nat.le_of_ble_eq_true rfl) rfl (Nat.le_of_ble_eq_true rfl) (Nat.le_of_ble_eq_true rfl) (Nat.le_of_ble_eq_true rfl) rfl ?_
  refine aw_ald_n C dX9_unlock_4 rfl ?_
  refine aw_ald_n C dX9_unlock_5 rfl ?_
  refine ao_callV C (ci := 9) (b := 181) [] [(183, .inl (0, 4347, .inl (cpy (tl (upd (upd (fun _ => 0) 2 (-1)) 4 1) 40) (fun _ => 0) 4347))), (181, .inr (9, (.int 0 :: .ref 182 :: .ref 183 :: .ref 184 :: .ref 185 :: .int 0 :: .int 0 :: .int 0 :: .ref 186 :: .int 0 :: .int 0 :: .int 0 :: .int (-1) :: .ref 187 :: .ref 188 :: .ref 189 :: .int 0 :: .ref 190 :: .ref 191 :: .ref 192 :: .ref 193 :: .ref 194 :: .int 0 :: .ref 195 :: .ref 196 :: .ref 197 :: .int 0 :: .ref 198 :: .ref 199 :: .ref 200 :: .ref 201 :: .ref 202 :: .ref 203 :: .int 0 :: .ref 204 :: .ref 205 :: .ref 206 :: .ref 207 :: .ref 208 :: .ref 209 :: .ref 210 :: .ref 211 :: .ref 212 :: .ref 213 :: .ref 214 :: .int 0 :: .ref 215 :: .ref 216 :: .int 0 :: .ref 217 :: .ref 218 :: .ref 219 :: .ref 220 :: .ref 221 :: .int 0 :: .int 0 :: .int 0 :: .int 0 :: .ref 222 :: .int 0 :: []))), (182, .inl (0, 4347, .inl (tl (upd (tl (upd (upd (fun _ => 0) 2 (-1)) 4 1) 40) 5 0) 40)))] mv_X9_399 rfl rfl h181 (c_X9_unlocks_431 h181 h182) rfl dX9_unlock_6 (Nat.le_of_ble_eq_true rfl) (Nat.le_of_ble_eq_true rfl) rfl (Nat.le_of_ble_eq_true rfl) (Nat.le_of_ble_eq_true rfl) (Nat.le_of_ble_eq_true rfl) rfl ?_
  refine aw_iconst C 0 dX9_unlock_9 ki_0 ?_
  refine ao_callV C (ci := 9) (b := 181) [.int 0, .int 0] [(183, .inl (0, 4347, .inl (cpy (tl (upd (upd (fun _ => 0) 2 (-1)) 4 1) 40) (fun _ => 0) 4347))), (181, .inr (9, (.int 0 :: .ref 182 :: .ref 183 :: .ref 184 :: .ref 185 :: .int 1 :: .int 0 :: .int 0 :: .ref 186 :: .int 0 :: .int 0 :: .int 0 :: .int (-1) :: .ref 187 :: .ref 188 :: .ref 189 :: .int 0 :: .ref 190 :: .ref 191 :: .ref 192 :: .ref 193 :: .ref 194 :: .int 0 :: .ref 195 :: .ref 196 :: .ref 197 :: .int 0 :: .ref 198 :: .ref 199 :: .ref 200 :: .ref 201 :: .ref 202 :: .ref 203 :: .int 0 :: .ref 204 :: .ref 205 :: .ref 206 :: .ref 207 :: .ref 208 :: .ref 209 :: .ref 210 :: .ref 211 :: .ref 212 :: .ref 213 :: .ref 214 :: .int 0 :: .ref 215 :: .ref 216 :: .int 0 :: .ref 217 :: .ref 218 :: .ref 219 :: .ref 220 :: .ref 221 :: .int 0 :: .int 0 :: .int 0 :: .int 0 :: .ref 222 :: .int 0 :: []))), (182, .inl (0, 4347, .inl (tl (upd (tl (upd (upd (fun _ => 0) 2 (-1)) 4 1) 40) 5 0) 40))), (185, .inl (0, 34776, .inl (cpy (cpy (tl (upd (upd (fun _ => 0) 2 (-1)) 4 1) 40) (fun _ => 0) 4347) (fun _ => 0) 4347)))] mv_X9_429 rfl rfl rfl (c_X9_isDone_237 rfl h185 rfl) rfl dX9_unlock_10 (Nat.le_of_ble_eq_true rfl) (Nat.le_of_ble_eq_true rfl) rfl (Nat.le_of_ble_eq_true rfl) (Nat.le_of_ble_eq_true rfl) (Nat.le_of_ble_eq_true rfl) rfl ?_
  refine aw_if_eq C 23 dX9_unlock_13 (by decide) (fun q => absurd q (by decide)) (fun _ => ?_)
  refine aw_ald_n C dX9_unlock_16 rfl ?_
  refine aw_get C gf_X9_204 rfl rfl dX9_unlock_17 ?_
  refine aw_goto C 24 dX9_unlock_20 (by decide) ?_
  exact aw_iret C rfl rfl dX9_unlock_24 (Nat.le_of_ble_eq_true rfl) (Nat.le_of_ble_eq_true rfl) ⟨rfl, rfl, rfl⟩

set_option maxHeartbeats 4000000 in
set_option maxRecDepth 100000 in
theorem c_X8_takeTold_433 {X : GX} {l : Launch} {f : AH} (h0 : f 0 = some (.inr (8, [.ref 1, .ref 3, .ref 8, .ref 13, .ref 18, .ref 59, .ref 115, .ref 171, .ref 178, .int 0, .int 0, .int 0, .int 0, .int (-1)]))) (h1 : f 1 = some (.inr (5, [.ref 2, .int 0]))) : AM X l yX8_takeTold cX8_takeTold 2 (some (.object "PieceFiles$Row")) 3 2 2 [.ref 0] f 224 (EXO f [(225, .inl (0, 0, .inl (fun _ => 0))), (224, .inr (5, [.ref 225, .int 0]))] (some (.ref 224)) 226) := by
  refine AM.of (by decide +kernel) rfl (by decide) (fun p e s m args below meth c C hnm => ?_)
  refine ao_start ?_
  refine aw_nl [some (.ref 0), none] rfl ?_
  refine aw_ald_n C dX8_takeTold_0 rfl ?_
  refine aw_get C gf_X8_14 h0 rfl dX8_takeTold_1 ?_
  refine ao_callV C (ci := 5) (b := 1) [] [] mv_X8_63 rfl rfl h1 (c_X5_size_129 h1) rfl dX8_takeTold_4 (Nat.le_of_ble_eq_true rfl) (Nat.le_of_ble_eq_true rfl) rfl (Nat.le_of_ble_eq_true rfl) (Nat.le_of_ble_eq_true rfl) (Nat.le_of_ble_eq_true rfl) rfl ?_
  refine aw_bipush C 60 dX8_takeTold_7 kb_60 ?_
  refine aw_icmp_le C 16 dX8_takeTold_9 (by decide) (fun _ => ?_) (fun q => absurd (by decide) q)
  refine aw_ald_n C dX8_takeTold_16 rfl ?_
  refine aw_get C gf_X8_14 h0 rfl dX8_takeTold_17 ?_
  refine aw_iconst C 0 dX8_takeTold_20 ki_0 ?_
  refine aw_ald_n C dX8_takeTold_21 rfl ?_
  refine aw_get C gf_X8_14 h0 rfl dX8_takeTold_22 ?_
  refine ao_callV C (ci := 5) (b := 1) [] [] mv_X8_63 rfl rfl h1 (c_X5_size_129 h1) rfl dX8_takeTold_25 (Nat.le_of_ble_eq_true rfl) (Nat.le_of_ble_eq_true rfl) rfl (Nat.le_of_ble_eq_true rfl) (Nat.le_of_ble_eq_true rfl) (Nat.le_of_ble_eq_true rfl) rfl ?_
  refine ao_callV C (ci := 5) (b := 1) [.int 0, .int 0] [(225, .inl (0, 0, .inl (fun _ => 0))), (224, .inr (5, [.ref 225, .int 0]))] mv_X8_126 rfl rfl h1 (c_X5_part_183) rfl dX8_takeTold_28 (Nat.le_of_ble_eq_true rfl) (Nat.le_of_ble_eq_true rfl) rfl (Nat.le_of_ble_eq_true rfl) (Nat.le_of_ble_eq_true rfl) (Nat.le_of_ble_eq_true rfl) rfl ?_
  refine aw_astore_n C dX8_takeTold_31 (by decide) rfl (Or.inr ⟨_, rfl⟩) ?_
  refine aw_nl [some (.ref 0), some (.ref 224)] rfl ?_
  refine aw_ald_n C dX8_takeTold_32 rfl ?_
  refine aw_get C gf_X8_14 h0 rfl dX8_takeTold_33 ?_
  refine aw_iconst C 0 dX8_takeTold_36 ki_0 ?_
  refine ao_callV C (ci := 5) (b := 1) [.int 0] [(225, .inl (0, 0, .inl (fun _ => 0))), (224, .inr (5, [.ref 225, .int 0]))] mv_X8_70 rfl rfl h1 (c_X5_cutTo_161 h1) rfl dX8_takeTold_37 (Nat.le_of_ble_eq_true rfl) (Nat.le_of_ble_eq_true rfl) rfl (Nat.le_of_ble_eq_true rfl) (Nat.le_of_ble_eq_true rfl) (Nat.le_of_ble_eq_true rfl) rfl ?_
  refine aw_ald_n C dX8_takeTold_40 rfl ?_
  exact aw_aret C rfl (Or.inr ⟨_, rfl⟩) dX8_takeTold_41 (Nat.le_of_ble_eq_true rfl) (Nat.le_of_ble_eq_true rfl) ⟨rfl, rfl, rfl⟩

set_option maxHeartbeats 4000000 in
set_option maxRecDepth 100000 in
theorem c_X1_get_434 {X : GX} {l : Launch} {f : AH} {n : Nat} {a1 : Int32} (q0 : (-2147483648) ≤ a1.toInt ∧ a1.toInt ≤ (-1)) : AM X l yX1_get cX1_get 2 (some (.object "PieceFiles$Piece")) 0 0 0 [.ref 59, .int a1] f n (EXO f [] (some (.null)) n) := by
  refine AM.of (by decide +kernel) rfl (Nat.le_of_ble_eq_true rfl) (fun p e s m args below meth c C hnm => ?_)
  refine ao_start ?_
  refine aw_nl [some (.ref 59), some (.int a1)] rfl ?_
  obtain ⟨q0a, q0b⟩ := q0
  refine aw_iload_n C dX1_get_0 rfl ?_
  refine aw_if_lt C 30 dX1_get_1 (by decide) (fun _ => ?_) (fun q => absurd (c_lt (by rw [ti_0]; omega)) q)
  refine aw_null C dX1_get_30 ?_
  exact aw_aret C rfl (Or.inl rfl) dX1_get_31 (Nat.le_of_ble_eq_true rfl) (Nat.le_of_ble_eq_true rfl) ⟨rfl, rfl, rfl⟩

set_option maxHeartbeats 4000000 in
set_option maxRecDepth 100000 in
theorem c_X8_tellPiece_435 {X : GX} {l : Launch} {f : AH} {n : Nat} {a1 : Int32} (q0 : (-2147483648) ≤ a1.toInt ∧ a1.toInt ≤ (-1)) (h0 : f 0 = some (.inr (8, [.ref 1, .ref 3, .ref 8, .ref 13, .ref 18, .ref 59, .ref 115, .ref 171, .ref 178, .int 0, .int 0, .int 0, .int 0, .int (-1)]))) (h59 : f 59 = some (.inr (1, [.ref 60, .ref 62, .ref 74, .int 0, .ref 68, .ref 71, .ref 64, .ref 66]))) : AM X l yX8_tellPiece cX8_tellPiece 4 (some .int) 1 0 0 [.ref 0, .int a1, .ref 224] f n (EXO f [] (some (.int 1)) n) := by
  refine AM.of (by decide +kernel) rfl (Nat.le_of_ble_eq_true rfl) (fun p e s m args below meth c C hnm => ?_)
  refine ao_start ?_
  refine aw_nl [some (.ref 0), some (.int a1), some (.ref 224), none] rfl ?_
  obtain ⟨q0a, q0b⟩ := q0
  refine aw_ald_n C dX8_tellPiece_0 rfl ?_
  refine aw_get C gf_X8_38 h0 rfl dX8_tellPiece_1 ?_
  refine aw_iload_n C dX8_tellPiece_4 rfl ?_
  refine ao_callV C (ci := 1) (b := 59) [.int a1] [] mv_X8_241 rfl rfl h59 (c_X1_get_434 ⟨by omega, by omega⟩) rfl dX8_tellPiece_5 (Nat.le_of_ble_eq_true rfl) (Nat.le_of_ble_eq_true rfl) rfl (Nat.le_of_ble_eq_true rfl) (Nat.le_of_ble_eq_true rfl) (Nat.le_of_ble_eq_true rfl) rfl ?_
  refine aw_astore_n C dX8_tellPiece_8 (by decide) rfl (Or.inl rfl) ?_
  refine aw_nl [some (.ref 0), some (.int a1), some (.ref 224), some (.null)] rfl ?_
  refine aw_aload_n C dX8_tellPiece_9 rfl (Or.inl rfl) ?_
  refine aw_ifnull_n C 17 dX8_tellPiece_10 (by decide) ?_
  refine aw_iconst C 1 dX8_tellPiece_17 ki_1 ?_
  exact aw_iret C rfl rfl dX8_tellPiece_18 (Nat.le_of_ble_eq_true rfl) (Nat.le_of_ble_eq_true rfl) ⟨rfl, rfl, rfl⟩

set_option maxHeartbeats 4000000 in
set_option maxRecDepth 100000 in
theorem c_X8_doAct_436 {X : GX} {l : Launch} {f : AH} {n : Nat} {a2 : Int32} (q0 : (-2147483648) ≤ a2.toInt ∧ a2.toInt ≤ (-1)) (h0 : f 0 = some (.inr (8, [.ref 1, .ref 3, .ref 8, .ref 13, .ref 18, .ref 59, .ref 115, .ref 171, .ref 178, .int 0, .int 0, .int 0, .int 0, .int (-1)]))) (h59 : f 59 = some (.inr (1, [.ref 60, .ref 62, .ref 74, .int 0, .ref 68, .ref 71, .ref 64, .ref 66]))) : AM X l yX8_doAct cX8_doAct 6 (some .int) 2 0 0 [.ref 0, .int 12, .int a2, .int 0, .ref 224] f n (EXO f [(0, .inr (8, [.ref 1, .ref 3, .ref 8, .ref 13, .ref 18, .ref 59, .ref 115, .ref 171, .ref 178, .int 0, .int 0, .int 0, .int 0, .int (-1)]))] (some (.int 1)) n) := by
  refine AM.of (by decide +kernel) rfl (Nat.le_of_ble_eq_true rfl) (fun p e s m args below meth c C hnm => ?_)
  refine ao_start ?_
  refine aw_nl [some (.ref 0), some (.int 12), some (.int a2), some (.int 0), some (.ref 224), none] rfl ?_
  obtain ⟨q0a, q0b⟩ := q0
  refine aw_ald_n C dX8_doAct_0 rfl ?_
  refine aw_iconst C 0 dX8_doAct_1 ki_0 ?_
  refine ao_put C [(0, .inr (8, [.ref 1, .ref 3, .ref 8, .ref 13, .ref 18, .ref 59, .ref 115, .ref 171, .ref 178, .int 0, .int 0, .int 0, .int 0, .int (-1)]))] gf_X8_334 cf8 nf8_10 h0 (Nat.le_of_ble_eq_true rfl) (by decide) (by decide) dX8_doAct_2 rfl ?_
  refine aw_iload_n C dX8_doAct_5 rfl ?_
  refine aw_tabOut C 209 dX8_doAct_6 (by decide) (by decide) ?_
  refine aw_ald_n C dX8_doAct_209 rfl ?_
  refine aw_iload_n C dX8_doAct_210 rfl ?_
  refine aw_ald C dX8_doAct_211 rfl ?_
  refine ao_callV C (ci := 8) (b := 0) [.int a2, .ref 224] [(0, .inr (8, [.ref 1, .ref 3, .ref 8, .ref 13, .ref 18, .ref 59, .ref 115, .ref 171, .ref 178, .int 0, .int 0, .int 0, .int 0, .int (-1)]))] mv_X8_354 rfl rfl rfl (c_X8_tellPiece_435 ⟨by omega, by omega⟩ rfl h59) rfl dX8_doAct_213 (Nat.le_of_ble_eq_true rfl) (Nat.le_of_ble_eq_true rfl) rfl (Nat.le_of_ble_eq_true rfl) (Nat.le_of_ble_eq_true rfl) (Nat.le_of_ble_eq_true rfl) rfl ?_
  exact aw_iret C rfl rfl dX8_doAct_216 (Nat.le_of_ble_eq_true rfl) (Nat.le_of_ble_eq_true rfl) ⟨rfl, rfl, rfl⟩

set_option maxHeartbeats 4000000 in
set_option maxRecDepth 100000 in
theorem c_X8_finishCall_437 {X : GX} {l : Launch} {f : AH} {n : Nat} (hl0 : l.stackTraces = false) (h0 : f 0 = some (.inr (8, [.ref 1, .ref 3, .ref 8, .ref 13, .ref 18, .ref 59, .ref 115, .ref 171, .ref 178, .int 0, .int 0, .int 0, .int 0, .int (-1)]))) : AX X l yX8_finishCall cX8_finishCall 2 none 6 1 6 [.ref 0, .int 1] f n (fun _ _ _ => False) (TXO eS f [(0, .inr (8, [.ref 1, .ref 3, .ref 8, .ref 13, .ref 18, .ref 59, .ref 115, .ref 171, .ref 178, .int 0, .int 0, .int 0, .int 1, .int (-1)]))] n) := by
  refine AX.of (by decide +kernel) rfl (by decide) (fun p e s m args below meth c C htab => ?_)
  refine ao_start ?_
  refine aw_nl [some (.ref 0), some (.int 1)] rfl ?_
  refine aw_ald_n C dX8_finishCall_0 rfl ?_
  refine aw_iload_n C dX8_finishCall_1 rfl ?_
  refine ao_put C [(0, .inr (8, [.ref 1, .ref 3, .ref 8, .ref 13, .ref 18, .ref 59, .ref 115, .ref 171, .ref 178, .int 0, .int 0, .int 0, .int 1, .int (-1)]))] gf_X8_110 cf8 nf8_12 h0 (Nat.le_of_ble_eq_true rfl) rfl rfl dX8_finishCall_2 rfl ?_
  refine aw_iload_n C dX8_finishCall_5 rfl ?_
  refine aw_iconst C 3 dX8_finishCall_6 ki_3 ?_
  refine aw_icmp_ne C 18 dX8_finishCall_7 (by decide) (fun _ => ?_) (fun q => absurd q (by decide))
  refine aw_iload_n C dX8_finishCall_18 rfl ?_
  refine aw_if_eq C 33 dX8_finishCall_19 (by decide) (fun q => absurd q (by decide)) (fun _ => ?_)
  exact ax_throwW C htab hl0 th_eS sx_326 dX8_finishCall_22 dX8_finishCall_25 dX8_finishCall_26 dX8_finishCall_29 dX8_finishCall_32 (Nat.le_of_ble_eq_true rfl) (Nat.le_of_ble_eq_true rfl) (Nat.le_of_ble_eq_true rfl) (Nat.le_of_ble_eq_true rfl) (Nat.le_of_ble_eq_true rfl) (Nat.le_of_ble_eq_true rfl) (fun n9 h9 => ⟨rfl, rfl, h9⟩)

set_option maxHeartbeats 4000000 in
set_option maxRecDepth 100000 in
theorem c_X8_tell_438 {X : GX} {l : Launch} {f : AH} {a1 : Int32} (hl0 : l.stackTraces = false) (q0 : (-2147483648) ≤ a1.toInt ∧ a1.toInt ≤ (-1)) (h0 : f 0 = some (.inr (8, [.ref 1, .ref 3, .ref 8, .ref 13, .ref 18, .ref 59, .ref 115, .ref 171, .ref 178, .int 0, .int 0, .int 0, .int 0, .int (-1)]))) (h1 : f 1 = some (.inr (5, [.ref 2, .int 0]))) (h3 : f 3 = some (.inr (7, [.ref 4, .int 0, .int (-1), .int 0, .int 1, .int 0, .null, .int 0, .ref 6, .ref 7]))) (h8 : f 8 = some (.inr (7, [.ref 9, .int 0, .int (-1), .int 0, .int 1, .int 0, .null, .int 0, .ref 11, .ref 12]))) (h11 : f 11 = some (.inl (2, 4, .inr (.inr (fun _ => none))))) (h6 : f 6 = some (.inl (2, 4, .inr (.inr (fun _ => none))))) (h12 : f 12 = some (.inl (2, 40, .inr (.inr (fun _ => none))))) (h7 : f 7 = some (.inl (2, 40, .inr (.inr (fun _ => none))))) (h59 : f 59 = some (.inr (1, [.ref 60, .ref 62, .ref 74, .int 0, .ref 68, .ref 71, .ref 64, .ref 66]))) : AX X l yX8_tell cX8_tell 3 (some .int) 7 3 8 [.ref 0, .int a1] f 224 (fun _ _ _ => False) (TXO eS f [(224, .inr (5, [.ref 225, .int 0])), (225, .inl (0, 0, .inl (fun _ => 0))), (8, .inr (7, [.ref 4, .int 0, .int (-1), .int 0, .int 1, .int 0, .null, .int 0, .ref 11, .ref 12])), (0, .inr (8, [.ref 1, .ref 3, .ref 8, .ref 13, .ref 18, .ref 59, .ref 115, .ref 171, .ref 178, .int 0, .int 0, .int 0, .int 1, .int (-1)]))] 224) := by
  refine AX.of (by decide +kernel) rfl (Nat.le_of_ble_eq_true rfl) (fun p e s m args below meth c C htab => ?_)
  refine ao_start ?_
  refine aw_nl [some (.ref 0), some (.int a1), none] rfl ?_
  obtain ⟨q0a, q0b⟩ := q0
  refine aw_ald_n C dX8_tell_0 rfl ?_
  refine ao_callV C (ci := 8) (b := 0) [] [(224, .inr (5, [.ref 225, .int 0])), (225, .inl (0, 0, .inl (fun _ => 0)))] mv_X8_155 rfl rfl h0 (c_X8_takeTold_433 h0 h1) rfl dX8_tell_1 (Nat.le_of_ble_eq_true rfl) (Nat.le_of_ble_eq_true rfl) rfl (Nat.le_of_ble_eq_true rfl) (Nat.le_of_ble_eq_true rfl) (Nat.le_of_ble_eq_true rfl) rfl ?_
  refine aw_astore_n C dX8_tell_4 (by decide) rfl (Or.inr ⟨_, rfl⟩) ?_
  refine aw_nl [some (.ref 0), some (.int a1), some (.ref 224)] rfl ?_
  refine aw_ald_n C dX8_tell_5 rfl ?_
  refine aw_ifnonnull_r C 19 dX8_tell_6 (by decide) ?_
  refine aw_ald_n C dX8_tell_19 rfl ?_
  refine aw_get C gf_X8_25 h0 rfl dX8_tell_20 ?_
  refine aw_ald_n C dX8_tell_23 rfl ?_
  refine aw_get C gf_X8_21 h0 rfl dX8_tell_24 ?_
  refine ao_callV C (ci := 7) (b := 8) [.ref 3] [(224, .inr (5, [.ref 225, .int 0])), (225, .inl (0, 0, .inl (fun _ => 0))), (8, .inr (7, [.ref 4, .int 0, .int (-1), .int 0, .int 1, .int 0, .null, .int 0, .ref 11, .ref 12]))] mv_X8_73 rfl rfl h8 (c_X7_copyFrom_168 h3 h8 h11 h6 h12 h7) rfl dX8_tell_27 (Nat.le_of_ble_eq_true rfl) (Nat.le_of_ble_eq_true rfl) rfl (Nat.le_of_ble_eq_true rfl) (Nat.le_of_ble_eq_true rfl) (Nat.le_of_ble_eq_true rfl) rfl ?_
  refine aw_ald_n C dX8_tell_30 rfl ?_
  refine aw_ald_n C dX8_tell_31 rfl ?_
  refine aw_bipush C 12 dX8_tell_32 kb_12 ?_
  refine aw_iload_n C dX8_tell_34 rfl ?_
  refine aw_iconst C 0 dX8_tell_35 ki_0 ?_
  refine aw_ald_n C dX8_tell_36 rfl ?_
  refine ao_callV C (ci := 8) (b := 0) [.int 12, .int a1, .int 0, .ref 224] [(224, .inr (5, [.ref 225, .int 0])), (225, .inl (0, 0, .inl (fun _ => 0))), (8, .inr (7, [.ref 4, .int 0, .int (-1), .int 0, .int 1, .int 0, .null, .int 0, .ref 11, .ref 12])), (0, .inr (8, [.ref 1, .ref 3, .ref 8, .ref 13, .ref 18, .ref 59, .ref 115, .ref 171, .ref 178, .int 0, .int 0, .int 0, .int 0, .int (-1)]))] mv_X8_103 rfl rfl h0 (c_X8_doAct_436 ⟨by omega, by omega⟩ h0 h59) rfl dX8_tell_37 (Nat.le_of_ble_eq_true rfl) (Nat.le_of_ble_eq_true rfl) rfl (Nat.le_of_ble_eq_true rfl) (Nat.le_of_ble_eq_true rfl) (Nat.le_of_ble_eq_true rfl) rfl ?_
  refine ax_callV C (ci := 8) (b := 0) [.int 1] mv_X8_139 rfl rfl rfl (c_X8_finishCall_437 hl0 rfl) rfl dX8_tell_40 (Nat.le_of_ble_eq_true rfl) (Nat.le_of_ble_eq_true rfl) rfl (Nat.le_of_ble_eq_true rfl) (Nat.le_of_ble_eq_true rfl) (Nat.le_of_ble_eq_true rfl) (fun E9 f9 n9 h9 => ?_) (fun _ _ _ h9 => h9.elim)
  obtain ⟨rfl, rfl, h9⟩ := h9
  refine at_flat [(224, .inr (5, [.ref 225, .int 0])), (225, .inl (0, 0, .inl (fun _ => 0))), (8, .inr (7, [.ref 4, .int 0, .int (-1), .int 0, .int 1, .int 0, .null, .int 0, .ref 11, .ref 12])), (0, .inr (8, [.ref 1, .ref 3, .ref 8, .ref 13, .ref 18, .ref 59, .ref 115, .ref 171, .ref 178, .int 0, .int 0, .int 0, .int 1, .int (-1)]))] rfl ?_
  exact at_out C htab ⟨rfl, rfl, Nat.le_trans (Nat.le_of_ble_eq_true rfl) h9⟩ (Nat.le_of_ble_eq_true rfl) (Nat.le_of_ble_eq_true rfl)

set_option maxHeartbeats 4000000 in
set_option maxRecDepth 100000 in
theorem c_L_tell_439 {X : GX} {l : Launch} {f : AH} {a1 : Int32} (hl0 : l.stackTraces = false) (q0 : (-2147483648) ≤ a1.toInt ∧ a1.toInt ≤ (-1)) (h0 : f 0 = some (.inr (8, [.ref 1, .ref 3, .ref 8, .ref 13, .ref 18, .ref 59, .ref 115, .ref 171, .ref 178, .int 0, .int 0, .int 0, .int 0, .int (-1)]))) (h1 : f 1 = some (.inr (5, [.ref 2, .int 0]))) (h3 : f 3 = some (.inr (7, [.ref 4, .int 0, .int (-1), .int 0, .int 1, .int 0, .null, .int 0, .ref 6, .ref 7]))) (h8 : f 8 = some (.inr (7, [.ref 9, .int 0, .int (-1), .int 0, .int 1, .int 0, .null, .int 0, .ref 11, .ref 12]))) (h11 : f 11 = some (.inl (2, 4, .inr (.inr (fun _ => none))))) (h6 : f 6 = some (.inl (2, 4, .inr (.inr (fun _ => none))))) (h12 : f 12 = some (.inl (2, 40, .inr (.inr (fun _ => none))))) (h7 : f 7 = some (.inl (2, 40, .inr (.inr (fun _ => none))))) (h59 : f 59 = some (.inr (1, [.ref 60, .ref 62, .ref 74, .int 0, .ref 68, .ref 71, .ref 64, .ref 66]))) : AMW X l yL_tell cL_tell 4 (some .int) [(0, 9, 12, 13), (0, 9, 15, 28)] 8 3 8 [.ref 0, .int a1, .ref 223] f 224 (EXN f [(0, .inr (8, [.ref 1, .ref 3, .ref 8, .ref 13, .ref 18, .ref 59, .ref 115, .ref 171, .ref 178, .int 0, .int 0, .int 0, .int 1, .int (-1)])), (8, .inr (7, [.ref 4, .int 0, .int (-1), .int 0, .int 1, .int 0, .null, .int 0, .ref 11, .ref 12])), (225, .inl (0, 0, .inl (fun _ => 0))), (224, .inr (5, [.ref 225, .int 0]))] (some (.int 2))) := by
  refine AMW.of (by decide +kernel) rfl (Nat.le_of_ble_eq_true rfl) (fun p e s m args below meth c C htab => ?_)
  refine ao_start ?_
  refine aw_nl [some (.ref 0), some (.int a1), some (.ref 223), none] rfl ?_
  obtain ⟨q0a, q0b⟩ := q0
  refine aw_ald_n C dL_tell_0 rfl ?_
  refine aw_iconst C 0 dL_tell_1 ki_0 ?_
  refine aw_ald_n C dL_tell_2 rfl ?_
  refine aw_iload_n C dL_tell_3 rfl ?_
  refine ax_callV C (ci := 8) (b := 0) [.int a1] mv_L_30 rfl rfl h0 (c_X8_tell_438 hl0 ⟨by omega, by omega⟩ h0 h1 h3 h8 h11 h6 h12 h7 h59) rfl dL_tell_4 (Nat.le_of_ble_eq_true rfl) (Nat.le_of_ble_eq_true rfl) rfl (Nat.le_of_ble_eq_true rfl) (Nat.le_of_ble_eq_true rfl) (Nat.le_of_ble_eq_true rfl) (fun E9 f9 n9 h9 => ?_) (fun _ _ _ h9 => h9.elim)
  obtain ⟨rfl, rfl, h9⟩ := h9
  refine at_flat [(0, .inr (8, [.ref 1, .ref 3, .ref 8, .ref 13, .ref 18, .ref 59, .ref 115, .ref 171, .ref 178, .int 0, .int 0, .int 0, .int 1, .int (-1)])), (8, .inr (7, [.ref 4, .int 0, .int (-1), .int 0, .int 1, .int 0, .null, .int 0, .ref 11, .ref 12])), (225, .inl (0, 0, .inl (fun _ => 0))), (224, .inr (5, [.ref 225, .int 0]))] rfl ?_
  refine at_catch C htab [⟨0, 9, 12, 13⟩] ⟨0, 9, 15, 28⟩ [] rfl (fun z hz => by rw [List.mem_singleton.mp hz]; exact Or.inr ⟨by decide, _, cl_L_13, by decide⟩) (by decide) (by decide) cl_L_28 (by decide) (ah_astore_n C dL_tell_15 (by decide) rfl ?_)
  refine aw_nl [some (.ref 0), some (.int a1), some (.ref 223), none] rfl ?_
  refine aw_iconst C 2 dL_tell_16 ki_2 ?_
  exact aw_iret C rfl rfl dL_tell_17 (Nat.le_of_ble_eq_true rfl) (Nat.le_of_ble_eq_true rfl) ⟨rfl, rfl⟩

set_option maxHeartbeats 4000000 in
set_option maxRecDepth 100000 in
theorem c_X9_tookTold_440 {X : GX} {l : Launch} {f : AH} {n : Nat} (h181 : f 181 = some (.inr (9, (.int 0 :: .ref 182 :: .ref 183 :: .ref 184 :: .ref 185 :: .int 0 :: .int 0 :: .int 0 :: .ref 186 :: .int 0 :: .int 0 :: .int 0 :: .int (-1) :: .ref 187 :: .ref 188 :: .ref 189 :: .int 0 :: .ref 190 :: .ref 191 :: .ref 192 :: .ref 193 :: .ref 194 :: .int 0 :: .ref 195 :: .ref 196 :: .ref 197 :: .int 0 :: .ref 198 :: .ref 199 :: .ref 200 :: .ref 201 :: .ref 202 :: .ref 203 :: .int 0 :: .ref 204 :: .ref 205 :: .ref 206 :: .ref 207 :: .ref 208 :: .ref 209 :: .ref 210 :: .ref 211 :: .ref 212 :: .ref 213 :: .ref 214 :: .int 0 :: .ref 215 :: .ref 216 :: .int 0 :: .ref 217 :: .ref 218 :: .ref 219 :: .ref 220 :: .ref 221 :: .int 0 :: .int 0 :: .int 0 :: .int 0 :: .ref 222 :: .int 0 :: [])))) : AM X l yX9_tookTold cX9_tookTold 3 (some .int) 1 0 0 [.ref 181] f n (EXO f [(181, .inr (9, (.int 0 :: .ref 182 :: .ref 183 :: .ref 184 :: .ref 185 :: .int 0 :: .int 0 :: .int 0 :: .ref 186 :: .int 0 :: .int 0 :: .int 0 :: .int (-1) :: .ref 187 :: .ref 188 :: .ref 189 :: .int 0 :: .ref 190 :: .ref 191 :: .ref 192 :: .ref 193 :: .ref 194 :: .int 0 :: .ref 195 :: .ref 196 :: .ref 197 :: .int 0 :: .ref 198 :: .ref 199 :: .ref 200 :: .ref 201 :: .ref 202 :: .ref 203 :: .int 0 :: .ref 204 :: .ref 205 :: .ref 206 :: .ref 207 :: .ref 208 :: .ref 209 :: .ref 210 :: .ref 211 :: .ref 212 :: .ref 213 :: .ref 214 :: .int 0 :: .ref 215 :: .ref 216 :: .int 0 :: .ref 217 :: .ref 218 :: .ref 219 :: .ref 220 :: .ref 221 :: .int 0 :: .int 0 :: .int 0 :: .int 0 :: .ref 222 :: .int 0 :: [])))] (some (.int 0)) n) := by
  refine AM.of (by decide +kernel) rfl (by decide) (fun p e s m args below meth c C hnm => ?_)
  refine ao_start ?_
  refine aw_nl [some (.ref 181), none, none] rfl ?_
  refine aw_ald_n C dX9_tookTold_0 rfl ?_
  refine ao_callV C (ci := 9) (b := 181) [] [(181, .inr (9, (.int 0 :: .ref 182 :: .ref 183 :: .ref 184 :: .ref 185 :: .int 0 :: .int 0 :: .int 0 :: .ref 186 :: .int 0 :: .int 0 :: .int 0 :: .int (-1) :: .ref 187 :: .ref 188 :: .ref 189 :: .int 0 :: .ref 190 :: .ref 191 :: .ref 192 :: .ref 193 :: .ref 194 :: .int 0 :: .ref 195 :: .ref 196 :: .ref 197 :: .int 0 :: .ref 198 :: .ref 199 :: .ref 200 :: .ref 201 :: .ref 202 :: .ref 203 :: .int 0 :: .ref 204 :: .ref 205 :: .ref 206 :: .ref 207 :: .ref 208 :: .ref 209 :: .ref 210 :: .ref 211 :: .ref 212 :: .ref 213 :: .ref 214 :: .int 0 :: .ref 215 :: .ref 216 :: .int 0 :: .ref 217 :: .ref 218 :: .ref 219 :: .ref 220 :: .ref 221 :: .int 0 :: .int 0 :: .int 0 :: .int 0 :: .ref 222 :: .int 0 :: [])))] mv_X9_426 rfl rfl h181 (c_X9_took_197 h181) rfl dX9_tookTold_1 (Nat.le_of_ble_eq_true rfl) (Nat.le_of_ble_eq_true rfl) rfl (Nat.le_of_ble_eq_true rfl) (Nat.le_of_ble_eq_true rfl) (Nat.le_of_ble_eq_true rfl) rfl ?_
  refine aw_istore_n C dX9_tookTold_4 (by decide) rfl ?_
  refine aw_nl [some (.ref 181), some (.int 0), none] rfl ?_
  refine aw_iconst C 0 dX9_tookTold_5 ki_0 ?_
  refine aw_istore_n C dX9_tookTold_6 (by decide) rfl ?_
  refine aw_nl [some (.ref 181), some (.int 0), some (.int 0)] rfl ?_
  refine aw_iload_n C dX9_tookTold_7 rfl ?_
  refine aw_iload_n C dX9_tookTold_8 rfl ?_
  refine aw_icmp_ge C 36 dX9_tookTold_9 (by decide) (fun _ => ?_) (fun q => absurd (by decide) q)
  refine aw_iload_n C dX9_tookTold_36 rfl ?_
  exact aw_iret C rfl rfl dX9_tookTold_37 (Nat.le_of_ble_eq_true rfl) (Nat.le_of_ble_eq_true rfl) ⟨rfl, rfl, rfl⟩

set_option maxHeartbeats 4000000 in
set_option maxRecDepth 100000 in
theorem c_X9_isIn_441 {X : GX} {l : Launch} {f : AH} {n : Nat} {a0 : Int32} (q0 : (-2147483648) ≤ a0.toInt ∧ a0.toInt ≤ (-1)) : AM X l yX9_isIn cX9_isIn 3 (some .boolean) 0 0 0 [.int a0, .int 0, .int (-1)] f n (EXO f [] (some (.int 0)) n) := by
  refine AM.of (by decide +kernel) rfl (Nat.le_of_ble_eq_true rfl) (fun p e s m args below meth c C hnm => ?_)
  refine ao_start ?_
  refine aw_nl [some (.int a0), some (.int 0), some (.int (-1))] rfl ?_
  obtain ⟨q0a, q0b⟩ := q0
  refine aw_iload_n C dX9_isIn_0 rfl ?_
  refine aw_iload_n C dX9_isIn_1 rfl ?_
  refine aw_icmp_lt C 14 dX9_isIn_2 (by decide) (fun _ => ?_) (fun q => absurd (c_lt (by rw [ti_0]; omega)) q)
  refine aw_iconst C 0 dX9_isIn_14 ki_0 ?_
  exact aw_iret C rfl (by decide) dX9_isIn_15 (Nat.le_of_ble_eq_true rfl) (Nat.le_of_ble_eq_true rfl) ⟨rfl, rfl, rfl⟩

set_option maxHeartbeats 4000000 in
set_option maxRecDepth 100000 in
theorem c_X9_isPieceThere_442 {X : GX} {l : Launch} {f : AH} {n : Nat} {a1 : Int32} (q0 : (-2147483648) ≤ a1.toInt ∧ a1.toInt ≤ (-1)) (h181 : f 181 = some (.inr (9, (.int 0 :: .ref 182 :: .ref 183 :: .ref 184 :: .ref 185 :: .int 0 :: .int 0 :: .int 0 :: .ref 186 :: .int 0 :: .int 0 :: .int 0 :: .int (-1) :: .ref 187 :: .ref 188 :: .ref 189 :: .int 0 :: .ref 190 :: .ref 191 :: .ref 192 :: .ref 193 :: .ref 194 :: .int 0 :: .ref 195 :: .ref 196 :: .ref 197 :: .int 0 :: .ref 198 :: .ref 199 :: .ref 200 :: .ref 201 :: .ref 202 :: .ref 203 :: .int 0 :: .ref 204 :: .ref 205 :: .ref 206 :: .ref 207 :: .ref 208 :: .ref 209 :: .ref 210 :: .ref 211 :: .ref 212 :: .ref 213 :: .ref 214 :: .int 0 :: .ref 215 :: .ref 216 :: .int 0 :: .ref 217 :: .ref 218 :: .ref 219 :: .ref 220 :: .ref 221 :: .int 0 :: .int 0 :: .int 0 :: .int 0 :: .ref 222 :: .int 0 :: [])))) : AM X l yX9_isPieceThere cX9_isPieceThere 2 (some .boolean) 1 0 0 [.ref 181, .int a1] f n (EXO f [] (some (.int 0)) n) := by
  refine AM.of (by decide +kernel) rfl (Nat.le_of_ble_eq_true rfl) (fun p e s m args below meth c C hnm => ?_)
  refine ao_start ?_
  refine aw_nl [some (.ref 181), some (.int a1)] rfl ?_
  obtain ⟨q0a, q0b⟩ := q0
  refine aw_iload_n C dX9_isPieceThere_0 rfl ?_
  refine aw_iconst C 0 dX9_isPieceThere_1 ki_0 ?_
  refine aw_ald_n C dX9_isPieceThere_2 rfl ?_
  refine aw_get C gf_X9_204 h181 rfl dX9_isPieceThere_3 ?_
  refine aw_iconst C 1 dX9_isPieceThere_6 ki_1 ?_
  refine ae_isub C (-1) dX9_isPieceThere_7 (by decide) ?_
  refine ao_callS C [.int a1, .int 0, .int (-1)] [] ms_X9_141 (c_X9_isIn_441 ⟨by omega, by omega⟩) rfl dX9_isPieceThere_8 (Nat.le_of_ble_eq_true rfl) (Nat.le_of_ble_eq_true rfl) rfl (Nat.le_of_ble_eq_true rfl) (Nat.le_of_ble_eq_true rfl) (Nat.le_of_ble_eq_true rfl) rfl ?_
  exact aw_iret C rfl (by decide) dX9_isPieceThere_11 (Nat.le_of_ble_eq_true rfl) (Nat.le_of_ble_eq_true rfl) ⟨rfl, rfl, rfl⟩

set_option maxHeartbeats 4000000 in
set_option maxRecDepth 100000 in
theorem c_X9_tell0_443 {X : GX} {l : Launch} {f : AH} {n : Nat} {a1 : Int32} (q0 : (-2147483648) ≤ a1.toInt ∧ a1.toInt ≤ (-1)) (h181 : f 181 = some (.inr (9, (.int 0 :: .ref 182 :: .ref 183 :: .ref 184 :: .ref 185 :: .int 0 :: .int 0 :: .int 0 :: .ref 186 :: .int 0 :: .int 0 :: .int 0 :: .int (-1) :: .ref 187 :: .ref 188 :: .ref 189 :: .int 0 :: .ref 190 :: .ref 191 :: .ref 192 :: .ref 193 :: .ref 194 :: .int 0 :: .ref 195 :: .ref 196 :: .ref 197 :: .int 0 :: .ref 198 :: .ref 199 :: .ref 200 :: .ref 201 :: .ref 202 :: .ref 203 :: .int 0 :: .ref 204 :: .ref 205 :: .ref 206 :: .ref 207 :: .ref 208 :: .ref 209 :: .ref 210 :: .ref 211 :: .ref 212 :: .ref 213 :: .ref 214 :: .int 0 :: .ref 215 :: .ref 216 :: .int 0 :: .ref 217 :: .ref 218 :: .ref 219 :: .ref 220 :: .ref 221 :: .int 0 :: .int 0 :: .int 0 :: .int 0 :: .ref 222 :: .int 0 :: [])))) : AM X l yX9_tell0 cX9_tell0 3 (some .int) 2 0 0 [.ref 181, .int a1, .int 0] f n (EXO f [] (some (.int 1)) n) := by
  refine AM.of (by decide +kernel) rfl (Nat.le_of_ble_eq_true rfl) (fun p e s m args below meth c C hnm => ?_)
  refine ao_start ?_
  refine aw_nl [some (.ref 181), some (.int a1), some (.int 0)] rfl ?_
  obtain ⟨q0a, q0b⟩ := q0
  refine aw_ald_n C dX9_tell0_0 rfl ?_
  refine aw_iload_n C dX9_tell0_1 rfl ?_
  refine ao_callV C (ci := 9) (b := 181) [.int a1] [] mv_X9_293 rfl rfl h181 (c_X9_isPieceThere_442 ⟨by omega, by omega⟩ h181) rfl dX9_tell0_2 (Nat.le_of_ble_eq_true rfl) (Nat.le_of_ble_eq_true rfl) rfl (Nat.le_of_ble_eq_true rfl) (Nat.le_of_ble_eq_true rfl) (Nat.le_of_ble_eq_true rfl) rfl ?_
  refine aw_if_ne C 10 dX9_tell0_5 (by decide) (fun q => absurd (by decide) q) (fun _ => ?_)
  refine aw_iconst C 1 dX9_tell0_8 ki_1 ?_
  exact aw_iret C rfl rfl dX9_tell0_9 (Nat.le_of_ble_eq_true rfl) (Nat.le_of_ble_eq_true rfl) ⟨rfl, rfl, rfl⟩

set_option maxHeartbeats 4000000 in
set_option maxRecDepth 100000 in
theorem c_X9_cuts_444 {X : GX} {l : Launch} {f : AH} {n : Nat} (h181 : f 181 = some (.inr (9, (.int 2 :: .ref 182 :: .ref 183 :: .ref 184 :: .ref 185 :: .int 0 :: .int 0 :: .int 1 :: .ref 186 :: .int 0 :: .int 0 :: .int 0 :: .int (-1) :: .ref 187 :: .ref 188 :: .ref 189 :: .int 0 :: .ref 190 :: .ref 191 :: .ref 192 :: .ref 193 :: .ref 194 :: .int 0 :: .ref 195 :: .ref 196 :: .ref 197 :: .int 0 :: .ref 198 :: .ref 199 :: .ref 200 :: .ref 201 :: .ref 202 :: .ref 203 :: .int 0 :: .ref 204 :: .ref 205 :: .ref 206 :: .ref 207 :: .ref 208 :: .ref 209 :: .ref 210 :: .ref 211 :: .ref 212 :: .ref 213 :: .ref 214 :: .int 0 :: .ref 215 :: .ref 216 :: .int 0 :: .ref 217 :: .ref 218 :: .ref 219 :: .ref 220 :: .ref 221 :: .int 0 :: .int 0 :: .int 0 :: .int 0 :: .ref 222 :: .int 0 :: [])))) : AM X l yX9_cuts cX9_cuts 7 (some .int) 1 0 0 [.ref 181, .int 0, .ref 187, .int 0, .ref 190, .ref 191, .ref 192] f n (EXO f [(181, .inr (9, (.int 2 :: .ref 182 :: .ref 183 :: .ref 184 :: .ref 185 :: .int 0 :: .int 0 :: .int 1 :: .ref 186 :: .int 0 :: .int 0 :: .int 0 :: .int (-1) :: .ref 187 :: .ref 188 :: .ref 189 :: .int 0 :: .ref 190 :: .ref 191 :: .ref 192 :: .ref 193 :: .ref 194 :: .int 0 :: .ref 195 :: .ref 196 :: .ref 197 :: .int 0 :: .ref 198 :: .ref 199 :: .ref 200 :: .ref 201 :: .ref 202 :: .ref 203 :: .int 0 :: .ref 204 :: .ref 205 :: .ref 206 :: .ref 207 :: .ref 208 :: .ref 209 :: .ref 210 :: .ref 211 :: .ref 212 :: .ref 213 :: .ref 214 :: .int 0 :: .ref 215 :: .ref 216 :: .int 0 :: .ref 217 :: .ref 218 :: .ref 219 :: .ref 220 :: .ref 221 :: .int 0 :: .int 0 :: .int 0 :: .int 0 :: .ref 222 :: .int 0 :: [])))] (some (.int 0)) n) := by
  refine AM.of (by decide +kernel) rfl (by decide) (fun p e s m args below meth c C hnm => ?_)
  refine ao_start ?_
  refine aw_nl [some (.ref 181), some (.int 0), some (.ref 187), some (.int 0), some (.ref 190), some (.ref 191), some (.ref 192)] rfl ?_
  refine aw_ald_n C dX9_cuts_0 rfl ?_
  refine aw_iconst C 0 dX9_cuts_1 ki_0 ?_
  refine ao_put C [(181, .inr (9, (.int 2 :: .ref 182 :: .ref 183 :: .ref 184 :: .ref 185 :: .int 0 :: .int 0 :: .int 1 :: .ref 186 :: .int 0 :: .int 0 :: .int 0 :: .int (-1) :: .ref 187 :: .ref 188 :: .ref 189 :: .int 0 :: .ref 190 :: .ref 191 :: .ref 192 :: .ref 193 :: .ref 194 :: .int 0 :: .ref 195 :: .ref 196 :: .ref 197 :: .int 0 :: .ref 198 :: .ref 199 :: .ref 200 :: .ref 201 :: .ref 202 :: .ref 203 :: .int 0 :: .ref 204 :: .ref 205 :: .ref 206 :: .ref 207 :: .ref 208 :: .ref 209 :: .ref 210 :: .ref 211 :: .ref 212 :: .ref 213 :: .ref 214 :: .int 0 :: .ref 215 :: .ref 216 :: .int 0 :: .ref 217 :: .ref 218 :: .ref 219 :: .ref 220 :: .ref 221 :: .int 0 :: .int 0 :: .int 0 :: .int 0 :: .ref 222 :: .int 0 :: [])))] gf_X9_145 cf9 nf9_54 h181 (Nat.le_of_ble_eq_true rfl) rfl rfl dX9_cuts_2 rfl ?_
  refine aw_iload_n C dX9_cuts_5 rfl ?_
  refine aw_if_ne C 24 dX9_cuts_6 (by decide) (fun q => absurd (by decide) q) (fun _ => ?_)
  refine aw_ald_n C dX9_cuts_9 rfl ?_
  refine aw_ald_n C dX9_cuts_10 rfl ?_
  refine aw_iload_n C dX9_cuts_11 rfl ?_
  refine aw_ald C dX9_cuts_12 rfl ?_
  refine aw_ald C dX9_cuts_14 rfl ?_
  refine aw_ald C dX9_cuts_16 rfl ?_
  refine ao_callV C (ci := 9) (b := 181) [.ref 187, .int 0, .ref 190, .ref 191, .ref 192] [(181, .inr (9, (.int 2 :: .ref 182 :: .ref 183 :: .ref 184 :: .ref 185 :: .int 0 :: .int 0 :: .int 1 :: .ref 186 :: .int 0 :: .int 0 :: .int 0 :: .int (-1) :: .ref 187 :: .ref 188 :: .ref 189 :: .int 0 :: .ref 190 :: .ref 191 :: .ref 192 :: .ref 193 :: .ref 194 :: .int 0 :: .ref 195 :: .ref 196 :: .ref 197 :: .int 0 :: .ref 198 :: .ref 199 :: .ref 200 :: .ref 201 :: .ref 202 :: .ref 203 :: .int 0 :: .ref 204 :: .ref 205 :: .ref 206 :: .ref 207 :: .ref 208 :: .ref 209 :: .ref 210 :: .ref 211 :: .ref 212 :: .ref 213 :: .ref 214 :: .int 0 :: .ref 215 :: .ref 216 :: .int 0 :: .ref 217 :: .ref 218 :: .ref 219 :: .ref 220 :: .ref 221 :: .int 0 :: .int 0 :: .int 0 :: .int 0 :: .ref 222 :: .int 0 :: [])))] mv_X9_160 rfl rfl rfl (c_X9_cutsLines_198) rfl dX9_cuts_18 (Nat.le_of_ble_eq_true rfl) (Nat.le_of_ble_eq_true rfl) rfl (Nat.le_of_ble_eq_true rfl) (Nat.le_of_ble_eq_true rfl) (Nat.le_of_ble_eq_true rfl) rfl ?_
  refine aw_goto C 76 dX9_cuts_21 (by decide) ?_
  refine aw_ald_n C dX9_cuts_76 rfl ?_
  refine aw_get C gf_X9_145 rfl rfl dX9_cuts_77 ?_
  exact aw_iret C rfl rfl dX9_cuts_80 (Nat.le_of_ble_eq_true rfl) (Nat.le_of_ble_eq_true rfl) ⟨rfl, rfl, rfl⟩

set_option maxHeartbeats 4000000 in
set_option maxRecDepth 100000 in
theorem c_X9_cutsAll_445 {X : GX} {l : Launch} {f : AH} {n : Nat} {g182dx182dx182 : Nat → Int32} (h181 : f 181 = some (.inr (9, (.int 2 :: .ref 182 :: .ref 183 :: .ref 184 :: .ref 185 :: .int 0 :: .int 0 :: .int 1 :: .ref 186 :: .int 0 :: .int 0 :: .int 0 :: .int (-1) :: .ref 187 :: .ref 188 :: .ref 189 :: .int 0 :: .ref 190 :: .ref 191 :: .ref 192 :: .ref 193 :: .ref 194 :: .int 0 :: .ref 195 :: .ref 196 :: .ref 197 :: .int 0 :: .ref 198 :: .ref 199 :: .ref 200 :: .ref 201 :: .ref 202 :: .ref 203 :: .int 0 :: .ref 204 :: .ref 205 :: .ref 206 :: .ref 207 :: .ref 208 :: .ref 209 :: .ref 210 :: .ref 211 :: .ref 212 :: .ref 213 :: .ref 214 :: .int 0 :: .ref 215 :: .ref 216 :: .int 0 :: .ref 217 :: .ref 218 :: .ref 219 :: .ref 220 :: .ref 221 :: .int 0 :: .int 0 :: .int 0 :: .int 0 :: .ref 222 :: .int 0 :: [])))) (h182 : f 182 = some (.inl (0, 4347, .inl (cpy (cpy (tl (upd (upd (fun _ => 0) 2 (-1)) 4 1) 40) (fun _ => 0) 4347) g182dx182dx182 4347)))) : AM X l yX9_cutsAll cX9_cutsAll 5 none 2 0 0 [.ref 181] f n (EXO f [(181, .inr (9, (.int 2 :: .ref 182 :: .ref 183 :: .ref 184 :: .ref 185 :: .int 0 :: .int 0 :: .int 1 :: .ref 186 :: .int 0 :: .int 0 :: .int 0 :: .int (-1) :: .ref 187 :: .ref 188 :: .ref 189 :: .int 0 :: .ref 190 :: .ref 191 :: .ref 192 :: .ref 193 :: .ref 194 :: .int 0 :: .ref 195 :: .ref 196 :: .ref 197 :: .int 0 :: .ref 198 :: .ref 199 :: .ref 200 :: .ref 201 :: .ref 202 :: .ref 203 :: .int 0 :: .ref 204 :: .ref 205 :: .ref 206 :: .ref 207 :: .ref 208 :: .ref 209 :: .ref 210 :: .ref 211 :: .ref 212 :: .ref 213 :: .ref 214 :: .int 0 :: .ref 215 :: .ref 216 :: .int 0 :: .ref 217 :: .ref 218 :: .ref 219 :: .ref 220 :: .ref 221 :: .int 0 :: .int 0 :: .int 0 :: .int 0 :: .ref 222 :: .int 0 :: [])))] none n) := by
  refine AM.of (by decide +kernel) rfl (by decide) (fun p e s m args below meth c C hnm => ?_)
  refine ao_start ?_
  refine aw_nl [some (.ref 181), none, none, none, none] rfl ?_
  refine aw_ald_n C dX9_cutsAll_0 rfl ?_
  refine aw_iconst C 0 dX9_cutsAll_1 ki_0 ?_
  refine ao_put C [(181, .inr (9, (.int 2 :: .ref 182 :: .ref 183 :: .ref 184 :: .ref 185 :: .int 0 :: .int 0 :: .int 1 :: .ref 186 :: .int 0 :: .int 0 :: .int 0 :: .int (-1) :: .ref 187 :: .ref 188 :: .ref 189 :: .int 0 :: .ref 190 :: .ref 191 :: .ref 192 :: .ref 193 :: .ref 194 :: .int 0 :: .ref 195 :: .ref 196 :: .ref 197 :: .int 0 :: .ref 198 :: .ref 199 :: .ref 200 :: .ref 201 :: .ref 202 :: .ref 203 :: .int 0 :: .ref 204 :: .ref 205 :: .ref 206 :: .ref 207 :: .ref 208 :: .ref 209 :: .ref 210 :: .ref 211 :: .ref 212 :: .ref 213 :: .ref 214 :: .int 0 :: .ref 215 :: .ref 216 :: .int 0 :: .ref 217 :: .ref 218 :: .ref 219 :: .ref 220 :: .ref 221 :: .int 0 :: .int 0 :: .int 0 :: .int 0 :: .ref 222 :: .int 0 :: [])))] gf_X9_204 cf9 nf9_33 h181 (Nat.le_of_ble_eq_true rfl) rfl rfl dX9_cutsAll_2 rfl ?_
  refine aw_ald_n C dX9_cutsAll_5 rfl ?_
  refine aw_iconst C 0 dX9_cutsAll_6 ki_0 ?_
  refine ao_put C [(181, .inr (9, (.int 2 :: .ref 182 :: .ref 183 :: .ref 184 :: .ref 185 :: .int 0 :: .int 0 :: .int 1 :: .ref 186 :: .int 0 :: .int 0 :: .int 0 :: .int (-1) :: .ref 187 :: .ref 188 :: .ref 189 :: .int 0 :: .ref 190 :: .ref 191 :: .ref 192 :: .ref 193 :: .ref 194 :: .int 0 :: .ref 195 :: .ref 196 :: .ref 197 :: .int 0 :: .ref 198 :: .ref 199 :: .ref 200 :: .ref 201 :: .ref 202 :: .ref 203 :: .int 0 :: .ref 204 :: .ref 205 :: .ref 206 :: .ref 207 :: .ref 208 :: .ref 209 :: .ref 210 :: .ref 211 :: .ref 212 :: .ref 213 :: .ref 214 :: .int 0 :: .ref 215 :: .ref 216 :: .int 0 :: .ref 217 :: .ref 218 :: .ref 219 :: .ref 220 :: .ref 221 :: .int 0 :: .int 0 :: .int 0 :: .int 0 :: .ref 222 :: .int 0 :: [])))] gf_X9_217 cf9 nf9_45 rfl (Nat.le_of_ble_eq_true rfl) rfl rfl dX9_cutsAll_7 rfl ?_
  refine aw_iconst C 0 dX9_cutsAll_10 ki_0 ?_
  refine aw_istore_n C dX9_cutsAll_11 (by decide) rfl ?_
  refine aw_nl [some (.ref 181), some (.int 0), none, none, none] rfl ?_
  refine aw_iload_n C dX9_cutsAll_12 rfl ?_
  refine aw_ald_n C dX9_cutsAll_13 rfl ?_
  refine aw_get C gf_X9_220 rfl rfl dX9_cutsAll_14 ?_
  refine aw_icmp_ge C 42 dX9_cutsAll_17 (by decide) (fun _ => ?_) (fun q => absurd (by decide) q)
  refine aw_ald_n C dX9_cutsAll_42 rfl ?_
  refine aw_ald_n C dX9_cutsAll_43 rfl ?_
  refine aw_ald_n C dX9_cutsAll_44 rfl ?_
  refine aw_get C gf_X9_7 rfl rfl dX9_cutsAll_45 ?_
  refine aw_iconst C 1 dX9_cutsAll_48 ki_1 ?_
  refine ao_iald C 0 h182 (by unfold vp_in; decide) (by decide : _ = 1) rfl dX9_cutsAll_49 ?_
  refine aw_ald_n C dX9_cutsAll_50 rfl ?_
  refine aw_get C gf_X9_30 rfl rfl dX9_cutsAll_51 ?_
  refine aw_ald_n C dX9_cutsAll_54 rfl ?_
  refine aw_get C gf_X9_220 rfl rfl dX9_cutsAll_55 ?_
  refine aw_ald_n C dX9_cutsAll_58 rfl ?_
  refine aw_get C gf_X9_39 rfl rfl dX9_cutsAll_59 ?_
  refine aw_ald_n C dX9_cutsAll_62 rfl ?_
  refine aw_get C gf_X9_42 rfl rfl dX9_cutsAll_63 ?_
  refine aw_ald_n C dX9_cutsAll_66 rfl ?_
  refine aw_get C gf_X9_45 rfl rfl dX9_cutsAll_67 ?_
  refine ao_callV C (ci := 9) (b := 181) [.int 0, .ref 187, .int 0, .ref 190, .ref 191, .ref 192] [(181, .inr (9, (.int 2 :: .ref 182 :: .ref 183 :: .ref 184 :: .ref 185 :: .int 0 :: .int 0 :: .int 1 :: .ref 186 :: .int 0 :: .int 0 :: .int 0 :: .int (-1) :: .ref 187 :: .ref 188 :: .ref 189 :: .int 0 :: .ref 190 :: .ref 191 :: .ref 192 :: .ref 193 :: .ref 194 :: .int 0 :: .ref 195 :: .ref 196 :: .ref 197 :: .int 0 :: .ref 198 :: .ref 199 :: .ref 200 :: .ref 201 :: .ref 202 :: .ref 203 :: .int 0 :: .ref 204 :: .ref 205 :: .ref 206 :: .ref 207 :: .ref 208 :: .ref 209 :: .ref 210 :: .ref 211 :: .ref 212 :: .ref 213 :: .ref 214 :: .int 0 :: .ref 215 :: .ref 216 :: .int 0 :: .ref 217 :: .ref 218 :: .ref 219 :: .ref 220 :: .ref 221 :: .int 0 :: .int 0 :: .int 0 :: .int 0 :: .ref 222 :: .int 0 :: [])))] mv_X9_223 rfl rfl rfl (c_X9_cuts_444 rfl) rfl dX9_cutsAll_70 (Nat.le_of_ble_eq_true rfl) (Nat.le_of_ble_eq_true rfl) rfl (Nat.le_of_ble_eq_true rfl) (Nat.le_of_ble_eq_true rfl) (Nat.le_of_ble_eq_true rfl) rfl ?_
  refine ao_put C [(181, .inr (9, (.int 2 :: .ref 182 :: .ref 183 :: .ref 184 :: .ref 185 :: .int 0 :: .int 0 :: .int 1 :: .ref 186 :: .int 0 :: .int 0 :: .int 0 :: .int (-1) :: .ref 187 :: .ref 188 :: .ref 189 :: .int 0 :: .ref 190 :: .ref 191 :: .ref 192 :: .ref 193 :: .ref 194 :: .int 0 :: .ref 195 :: .ref 196 :: .ref 197 :: .int 0 :: .ref 198 :: .ref 199 :: .ref 200 :: .ref 201 :: .ref 202 :: .ref 203 :: .int 0 :: .ref 204 :: .ref 205 :: .ref 206 :: .ref 207 :: .ref 208 :: .ref 209 :: .ref 210 :: .ref 211 :: .ref 212 :: .ref 213 :: .ref 214 :: .int 0 :: .ref 215 :: .ref 216 :: .int 0 :: .ref 217 :: .ref 218 :: .ref 219 :: .ref 220 :: .ref 221 :: .int 0 :: .int 0 :: .int 0 :: .int 0 :: .ref 222 :: .int 0 :: [])))] gf_X9_227 cf9 nf9_22 rfl (Nat.le_of_ble_eq_true rfl) rfl rfl dX9_cutsAll_73 rfl ?_
  refine aw_iconst C 0 dX9_cutsAll_76 ki_0 ?_
  refine aw_istore_n C dX9_cutsAll_77 (by decide) rfl ?_
  refine aw_nl [some (.ref 181), some (.int 0), none, none, none] rfl ?_
  refine aw_iload_n C dX9_cutsAll_78 rfl ?_
  refine aw_ald_n C dX9_cutsAll_79 rfl ?_
  refine aw_get C gf_X9_227 rfl rfl dX9_cutsAll_80 ?_
  refine aw_icmp_ge C 339 dX9_cutsAll_83 (by decide) (fun _ => ?_) (fun q => absurd (by decide) q)
  exact aw_vret C rfl dX9_cutsAll_339 (Nat.le_of_ble_eq_true rfl) (Nat.le_of_ble_eq_true rfl) ⟨rfl, rfl, rfl⟩

set_option maxHeartbeats 4000000 in
set_option maxRecDepth 100000 in
theorem c_X9_cutsFile_446 {X : GX} {l : Launch} {f : AH} {n : Nat} {g182dx182 : Nat → Int32} (h181 : f 181 = some (.inr (9, (.int 2 :: .ref 182 :: .ref 183 :: .ref 184 :: .ref 185 :: .int 0 :: .int 0 :: .int 1 :: .ref 186 :: .int 0 :: .int 0 :: .int 0 :: .int (-1) :: .ref 187 :: .ref 188 :: .ref 189 :: .int 0 :: .ref 190 :: .ref 191 :: .ref 192 :: .ref 193 :: .ref 194 :: .int 0 :: .ref 195 :: .ref 196 :: .ref 197 :: .int 0 :: .ref 198 :: .ref 199 :: .ref 200 :: .ref 201 :: .ref 202 :: .ref 203 :: .int 0 :: .ref 204 :: .ref 205 :: .ref 206 :: .ref 207 :: .ref 208 :: .ref 209 :: .ref 210 :: .ref 211 :: .ref 212 :: .ref 213 :: .ref 214 :: .int 0 :: .ref 215 :: .ref 216 :: .int 0 :: .ref 217 :: .ref 218 :: .ref 219 :: .ref 220 :: .ref 221 :: .int 0 :: .int 0 :: .int 0 :: .int 0 :: .ref 222 :: .int 0 :: [])))) (h182 : f 182 = some (.inl (0, 4347, .inl (cpy (cpy (tl (upd (upd (fun _ => 0) 2 (-1)) 4 1) 40) (fun _ => 0) 4347) g182dx182 4347)))) : AM X l yX9_cutsFile cX9_cutsFile 2 none 3 0 0 [.ref 181] f n (EXO f [(181, .inr (9, (.int 2 :: .ref 182 :: .ref 183 :: .ref 184 :: .ref 185 :: .int 0 :: .int 0 :: .int 1 :: .ref 186 :: .int 0 :: .int 0 :: .int 0 :: .int (-1) :: .ref 187 :: .ref 188 :: .ref 189 :: .int 0 :: .ref 190 :: .ref 191 :: .ref 192 :: .ref 193 :: .ref 194 :: .int 0 :: .ref 195 :: .ref 196 :: .ref 197 :: .int 0 :: .ref 198 :: .ref 199 :: .ref 200 :: .ref 201 :: .ref 202 :: .ref 203 :: .int 0 :: .ref 204 :: .ref 205 :: .ref 206 :: .ref 207 :: .ref 208 :: .ref 209 :: .ref 210 :: .ref 211 :: .ref 212 :: .ref 213 :: .ref 214 :: .int 0 :: .ref 215 :: .ref 216 :: .int 0 :: .ref 217 :: .ref 218 :: .ref 219 :: .ref 220 :: .ref 221 :: .int 0 :: .int 0 :: .int 0 :: .int 0 :: .ref 222 :: .int 0 :: [])))] none n) := by
  refine AM.of (by decide +kernel) rfl (by decide) (fun p e s m args below meth c C hnm => ?_)
  refine ao_start ?_
  refine aw_nl [some (.ref 181), none] rfl ?_
  refine aw_ald_n C dX9_cutsFile_0 rfl ?_
  refine aw_ald_n C dX9_cutsFile_1 rfl ?_
  refine aw_get C gf_X9_7 h181 rfl dX9_cutsFile_2 ?_
  refine aw_iconst C 0 dX9_cutsFile_5 ki_0 ?_
  refine ao_iald C 0 h182 (by unfold vp_in; decide) (by decide : _ = 0) rfl dX9_cutsFile_6 ?_
  refine ao_put C [(181, .inr (9, (.int 2 :: .ref 182 :: .ref 183 :: .ref 184 :: .ref 185 :: .int 0 :: .int 0 :: .int 1 :: .ref 186 :: .int 0 :: .int 0 :: .int 0 :: .int (-1) :: .ref 187 :: .ref 188 :: .ref 189 :: .int 0 :: .ref 190 :: .ref 191 :: .ref 192 :: .ref 193 :: .ref 194 :: .int 0 :: .ref 195 :: .ref 196 :: .ref 197 :: .int 0 :: .ref 198 :: .ref 199 :: .ref 200 :: .ref 201 :: .ref 202 :: .ref 203 :: .int 0 :: .ref 204 :: .ref 205 :: .ref 206 :: .ref 207 :: .ref 208 :: .ref 209 :: .ref 210 :: .ref 211 :: .ref 212 :: .ref 213 :: .ref 214 :: .int 0 :: .ref 215 :: .ref 216 :: .int 0 :: .ref 217 :: .ref 218 :: .ref 219 :: .ref 220 :: .ref 221 :: .int 0 :: .int 0 :: .int 0 :: .int 0 :: .ref 222 :: .int 0 :: [])))] gf_X9_220 cf9 nf9_16 h181 (Nat.le_of_ble_eq_true rfl) rfl rfl dX9_cutsFile_7 rfl ?_
  refine aw_iconst C 0 dX9_cutsFile_10 ki_0 ?_
  refine aw_istore_n C dX9_cutsFile_11 (by decide) rfl ?_
  refine aw_nl [some (.ref 181), some (.int 0)] rfl ?_
  refine aw_iload_n C dX9_cutsFile_12 rfl ?_
  refine aw_ald_n C dX9_cutsFile_13 rfl ?_
  refine aw_get C gf_X9_220 rfl rfl dX9_cutsFile_14 ?_
  refine aw_icmp_ge C 41 dX9_cutsFile_17 (by decide) (fun _ => ?_) (fun q => absurd (by decide) q)
  refine aw_ald_n C dX9_cutsFile_41 rfl ?_
  refine ao_callV C (ci := 9) (b := 181) [] [(181, .inr (9, (.int 2 :: .ref 182 :: .ref 183 :: .ref 184 :: .ref 185 :: .int 0 :: .int 0 :: .int 1 :: .ref 186 :: .int 0 :: .int 0 :: .int 0 :: .int (-1) :: .ref 187 :: .ref 188 :: .ref 189 :: .int 0 :: .ref 190 :: .ref 191 :: .ref 192 :: .ref 193 :: .ref 194 :: .int 0 :: .ref 195 :: .ref 196 :: .ref 197 :: .int 0 :: .ref 198 :: .ref 199 :: .ref 200 :: .ref 201 :: .ref 202 :: .ref 203 :: .int 0 :: .ref 204 :: .ref 205 :: .ref 206 :: .ref 207 :: .ref 208 :: .ref 209 :: .ref 210 :: .ref 211 :: .ref 212 :: .ref 213 :: .ref 214 :: .int 0 :: .ref 215 :: .ref 216 :: .int 0 :: .ref 217 :: .ref 218 :: .ref 219 :: .ref 220 :: .ref 221 :: .int 0 :: .int 0 :: .int 0 :: .int 0 :: .ref 222 :: .int 0 :: [])))] mv_X9_241 rfl rfl rfl (c_X9_cutsAll_445 rfl h182) rfl dX9_cutsFile_42 (Nat.le_of_ble_eq_true rfl) (Nat.le_of_ble_eq_true rfl) rfl (Nat.le_of_ble_eq_true rfl) (Nat.le_of_ble_eq_true rfl) (Nat.le_of_ble_eq_true rfl) rfl ?_
  exact aw_vret C rfl dX9_cutsFile_45 (Nat.le_of_ble_eq_true rfl) (Nat.le_of_ble_eq_true rfl) ⟨rfl, rfl, rfl⟩

set_option maxHeartbeats 4000000 in
set_option maxRecDepth 100000 in
theorem c_X9_putsBack_447 {X : GX} {l : Launch} {f : AH} {n : Nat} {g182 : Nat → Int32} (h181 : f 181 = some (.inr (9, (.int 2 :: .ref 182 :: .ref 183 :: .ref 184 :: .ref 185 :: .int 0 :: .int 0 :: .int 1 :: .ref 186 :: .int 0 :: .int 0 :: .int 0 :: .int (-1) :: .ref 187 :: .ref 188 :: .ref 189 :: .int 0 :: .ref 190 :: .ref 191 :: .ref 192 :: .ref 193 :: .ref 194 :: .int 0 :: .ref 195 :: .ref 196 :: .ref 197 :: .int 0 :: .ref 198 :: .ref 199 :: .ref 200 :: .ref 201 :: .ref 202 :: .ref 203 :: .int 0 :: .ref 204 :: .ref 205 :: .ref 206 :: .ref 207 :: .ref 208 :: .ref 209 :: .ref 210 :: .ref 211 :: .ref 212 :: .ref 213 :: .ref 214 :: .int 0 :: .ref 215 :: .ref 216 :: .int 0 :: .ref 217 :: .ref 218 :: .ref 219 :: .ref 220 :: .ref 221 :: .int 0 :: .int 0 :: .int 0 :: .int 0 :: .ref 222 :: .int 0 :: [])))) (h182 : f 182 = some (.inl (0, 4347, .inl g182))) (h183 : f 183 = some (.inl (0, 4347, .inl (cpy (tl (upd (upd (fun _ => 0) 2 (-1)) 4 1) 40) (fun _ => 0) 4347)))) : AM X l yX9_putsBack cX9_putsBack 2 none 4 0 0 [.ref 181] f n (EXO f [(182, .inl (0, 4347, .inl (cpy (cpy (tl (upd (upd (fun _ => 0) 2 (-1)) 4 1) 40) (fun _ => 0) 4347) g182 4347))), (181, .inr (9, (.int 2 :: .ref 182 :: .ref 183 :: .ref 184 :: .ref 185 :: .int 0 :: .int 0 :: .int 1 :: .ref 186 :: .int 0 :: .int 0 :: .int 0 :: .int (-1) :: .ref 187 :: .ref 188 :: .ref 189 :: .int 0 :: .ref 190 :: .ref 191 :: .ref 192 :: .ref 193 :: .ref 194 :: .int 0 :: .ref 195 :: .ref 196 :: .ref 197 :: .int 0 :: .ref 198 :: .ref 199 :: .ref 200 :: .ref 201 :: .ref 202 :: .ref 203 :: .int 0 :: .ref 204 :: .ref 205 :: .ref 206 :: .ref 207 :: .ref 208 :: .ref 209 :: .ref 210 :: .ref 211 :: .ref 212 :: .ref 213 :: .ref 214 :: .int 0 :: .ref 215 :: .ref 216 :: .int 0 :: .ref 217 :: .ref 218 :: .ref 219 :: .ref 220 :: .ref 221 :: .int 0 :: .int 0 :: .int 0 :: .int 0 :: .ref 222 :: .int 0 :: [])))] none n) := by
  refine AM.of (by decide +kernel) rfl (by decide) (fun p e s m args below meth c C hnm => ?_)
  refine ao_start ?_
  refine aw_nl [some (.ref 181), none] rfl ?_
  refine aw_iconst C 0 dX9_putsBack_0 ki_0 ?_
  refine aw_istore_n C dX9_putsBack_1 (by decide) rfl ?_
  refine aw_nl [some (.ref 181), some (.int 0)] rfl ?_
  refine lp_X9_putsBack C (M := 181) (a := 182) (b := 183) (fs := (.int 2 :: .ref 182 :: .ref 183 :: .ref 184 :: .ref 185 :: .int 0 :: .int 0 :: .int 1 :: .ref 186 :: .int 0 :: .int 0 :: .int 0 :: .int (-1) :: .ref 187 :: .ref 188 :: .ref 189 :: .int 0 :: .ref 190 :: .ref 191 :: .ref 192 :: .ref 193 :: .ref 194 :: .int 0 :: .ref 195 :: .ref 196 :: .ref 197 :: .int 0 :: .ref 198 :: .ref 199 :: .ref 200 :: .ref 201 :: .ref 202 :: .ref 203 :: .int 0 :: .ref 204 :: .ref 205 :: .ref 206 :: .ref 207 :: .ref 208 :: .ref 209 :: .ref 210 :: .ref 211 :: .ref 212 :: .ref 213 :: .ref 214 :: .int 0 :: .ref 215 :: .ref 216 :: .int 0 :: .ref 217 :: .ref 218 :: .ref 219 :: .ref 220 :: .ref 221 :: .int 0 :: .int 0 :: .int 0 :: .int 0 :: .ref 222 :: .int 0 :: [])) (g := g182) (src := cpy (tl (upd (upd (fun _ => 0) 2 (-1)) 4 1) 40) (fun _ => 0) 4347) [(182, .inl (0, 4347, .inl (cpy (cpy (tl (upd (upd (fun _ => 0) 2 (-1)) 4 1) 40) (fun _ => 0) 4347) g182 4347)))] h181 rfl rfl (by decide) (by decide) h182 h183 rfl ?_
  refine aw_ald_n C dX9_putsBack_27 rfl ?_
  refine ao_callV C (ci := 9) (b := 181) [] [(182, .inl (0, 4347, .inl (cpy (cpy (tl (upd (upd (fun _ => 0) 2 (-1)) 4 1) 40) (fun _ => 0) 4347) g182 4347))), (181, .inr (9, (.int 2 :: .ref 182 :: .ref 183 :: .ref 184 :: .ref 185 :: .int 0 :: .int 0 :: .int 1 :: .ref 186 :: .int 0 :: .int 0 :: .int 0 :: .int (-1) :: .ref 187 :: .ref 188 :: .ref 189 :: .int 0 :: .ref 190 :: .ref 191 :: .ref 192 :: .ref 193 :: .ref 194 :: .int 0 :: .ref 195 :: .ref 196 :: .ref 197 :: .int 0 :: .ref 198 :: .ref 199 :: .ref 200 :: .ref 201 :: .ref 202 :: .ref 203 :: .int 0 :: .ref 204 :: .ref 205 :: .ref 206 :: .ref 207 :: .ref 208 :: .ref 209 :: .ref 210 :: .ref 211 :: .ref 212 :: .ref 213 :: .ref 214 :: .int 0 :: .ref 215 :: .ref 216 :: .int 0 :: .ref 217 :: .ref 218 :: .ref 219 :: .ref 220 :: .ref 221 :: .int 0 :: .int 0 :: .int 0 :: .int 0 :: .ref 222 :: .int 0 :: [])))] mv_X9_244 rfl rfl h181 (c_X9_cutsFile_446 h181 rfl) rfl dX9_putsBack_28 (Nat.le_of_ble_eq_true rfl) (Nat.le_of_ble_eq_true rfl) rfl (Nat.le_of_ble_eq_true rfl) (Nat.le_of_ble_eq_true rfl) (Nat.le_of_ble_eq_true rfl) rfl ?_
  exact aw_vret C rfl dX9_putsBack_31 (Nat.le_of_ble_eq_true rfl) (Nat.le_of_ble_eq_true rfl) ⟨rfl, rfl, rfl⟩

