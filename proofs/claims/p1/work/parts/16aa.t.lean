set_option maxHeartbeats 4000000 in
set_option maxRecDepth 100000 in
theorem lc_0_x {X : GX} {p : Program} {l : Launch} {e : Env} {s : State} {m : MethodId} {below : List Frame} {meth : Method} {c : Code} {b : Nat} {xs : Nat → Int32} {f : AH} {n : Nat} {a1 : Int32} {a2 : Int32} {a3 : Int32} {a4 : Int32} {a5 : Int32} (C : CC X p l room_1 s m #[Value.ref b] meth c RL cL_law 8 ret) (S0 : SC X b 6 xs s) (hl0 : l.stackTraces = false) (e1 : xs 1 = a1) (e2 : xs 2 = a2) (e3 : xs 3 = a3) (e4 : xs 4 = a4) (e5 : xs 5 = a5) (h0 : f 0 = some (.inr (8, [.ref 1, .ref 3, .ref 8, .ref 13, .ref 18, .ref 59, .ref 115, .ref 171, .ref 178, .int 0, .int 0, .int 0, .int 0, .int (-1)]))) (h1 : f 1 = some (.inr (5, [.ref 2, .int 0]))) (h2 : f 2 = some (.inl (0, 400, .inl (fun _ => 0)))) (h181 : f 181 = some (.inr (9, (.int 0 :: .ref 182 :: .ref 183 :: .ref 184 :: .ref 185 :: .int 0 :: .int 0 :: .int 0 :: .ref 186 :: .int 0 :: .int 0 :: .int 0 :: .int (-1) :: .ref 187 :: .ref 188 :: .ref 189 :: .int 0 :: .ref 190 :: .ref 191 :: .ref 192 :: .ref 193 :: .ref 194 :: .int 0 :: .ref 195 :: .ref 196 :: .ref 197 :: .int 0 :: .ref 198 :: .ref 199 :: .ref 200 :: .ref 201 :: .ref 202 :: .ref 203 :: .int 0 :: .ref 204 :: .ref 205 :: .ref 206 :: .ref 207 :: .ref 208 :: .ref 209 :: .ref 210 :: .ref 211 :: .ref 212 :: .ref 213 :: .ref 214 :: .int 0 :: .ref 215 :: .ref 216 :: .int 0 :: .ref 217 :: .ref 218 :: .ref 219 :: .ref 220 :: .ref 221 :: .int 0 :: .int 0 :: .int 0 :: .int 0 :: .ref 222 :: .int 0 :: [])))) (h186 : f 186 = some (.inl (0, 400, .inl (fun _ => 0)))) : AW X p l e room_1 s m #[Value.ref b] below meth c 8 (lw_Z below #[Value.ref b] s) f n 1000 300000 180 [some (.retAddr b), some (.ref 0), some (.ref 181), some (.ref 223), some (.int 0), none, none, none] [] := by
  refine ao_start ?_
  refine aw_ald_n C dL_law_180 rfl ?_
  refine aw_raw_n C dL_law_181 rfl ?_
  refine aw_iload C dL_law_182 rfl ?_
  refine aw_iconst C 1 dL_law_184 ki_1 ?_
  refine ae_iadd C 1 dL_law_185 (by decide) ?_
  refine aw_sld C S0 a1 (by unfold vp_in; decide) (by decide : _ = 1) e1 dL_law_186 ?_
  refine aw_raw_n C dL_law_187 rfl ?_
  refine aw_iload C dL_law_188 rfl ?_
  refine aw_iconst C 2 dL_law_190 ki_2 ?_
  refine ae_iadd C 2 dL_law_191 (by decide) ?_
  refine aw_sld C S0 a2 (by unfold vp_in; decide) (by decide : _ = 2) e2 dL_law_192 ?_
  refine aw_raw_n C dL_law_193 rfl ?_
  refine aw_iload C dL_law_194 rfl ?_
  refine aw_iconst C 3 dL_law_196 ki_3 ?_
  refine ae_iadd C 3 dL_law_197 (by decide) ?_
  refine aw_sld C S0 a3 (by unfold vp_in; decide) (by decide : _ = 3) e3 dL_law_198 ?_
  refine aw_raw_n C dL_law_199 rfl ?_
  refine aw_iload C dL_law_200 rfl ?_
  refine aw_iconst C 4 dL_law_202 ki_4 ?_
  refine ae_iadd C 4 dL_law_203 (by decide) ?_
  refine aw_sld C S0 a4 (by unfold vp_in; decide) (by decide : _ = 4) e4 dL_law_204 ?_
  refine aw_raw_n C dL_law_205 rfl ?_
  refine aw_iload C dL_law_206 rfl ?_
  refine aw_iconst C 5 dL_law_208 ki_5 ?_
  refine ae_iadd C 5 dL_law_209 (by decide) ?_
  refine aw_sld C S0 a5 (by unfold vp_in; decide) (by decide : _ = 5) e5 dL_law_210 ?_
  refine ao_callV C (ci := 8) (b := 0) [.int a1, .int a2, .int a3, .int a4, .int a5] [(1, .inr (5, [.ref 2, .int 20])), (2, .inl (0, 400, .inl (upd (upd (upd (upd (upd (upd (upd (upd (upd (upd (upd (upd (upd (upd (upd (upd (upd (upd (upd (upd (fun _ => 0) 0 ((((a1.toUInt32 >>> ((24 : Int32).toUInt32 &&& Int32.toUInt32 31)).toInt32) &&& 255))) 1 ((((a1.toUInt32 >>> ((16 : Int32).toUInt32 &&& Int32.toUInt32 31)).toInt32) &&& 255))) 2 ((((a1.toUInt32 >>> ((8 : Int32).toUInt32 &&& Int32.toUInt32 31)).toInt32) &&& 255))) 3 ((((a1.toUInt32 >>> ((0 : Int32).toUInt32 &&& Int32.toUInt32 31)).toInt32) &&& 255))) 4 ((((a2.toUInt32 >>> ((24 : Int32).toUInt32 &&& Int32.toUInt32 31)).toInt32) &&& 255))) 5 ((((a2.toUInt32 >>> ((16 : Int32).toUInt32 &&& Int32.toUInt32 31)).toInt32) &&& 255))) 6 ((((a2.toUInt32 >>> ((8 : Int32).toUInt32 &&& Int32.toUInt32 31)).toInt32) &&& 255))) 7 ((((a2.toUInt32 >>> ((0 : Int32).toUInt32 &&& Int32.toUInt32 31)).toInt32) &&& 255))) 8 ((((a3.toUInt32 >>> ((24 : Int32).toUInt32 &&& Int32.toUInt32 31)).toInt32) &&& 255))) 9 ((((a3.toUInt32 >>> ((16 : Int32).toUInt32 &&& Int32.toUInt32 31)).toInt32) &&& 255))) 10 ((((a3.toUInt32 >>> ((8 : Int32).toUInt32 &&& Int32.toUInt32 31)).toInt32) &&& 255))) 11 ((((a3.toUInt32 >>> ((0 : Int32).toUInt32 &&& Int32.toUInt32 31)).toInt32) &&& 255))) 12 ((((a4.toUInt32 >>> ((24 : Int32).toUInt32 &&& Int32.toUInt32 31)).toInt32) &&& 255))) 13 ((((a4.toUInt32 >>> ((16 : Int32).toUInt32 &&& Int32.toUInt32 31)).toInt32) &&& 255))) 14 ((((a4.toUInt32 >>> ((8 : Int32).toUInt32 &&& Int32.toUInt32 31)).toInt32) &&& 255))) 15 ((((a4.toUInt32 >>> ((0 : Int32).toUInt32 &&& Int32.toUInt32 31)).toInt32) &&& 255))) 16 ((((a5.toUInt32 >>> ((24 : Int32).toUInt32 &&& Int32.toUInt32 31)).toInt32) &&& 255))) 17 ((((a5.toUInt32 >>> ((16 : Int32).toUInt32 &&& Int32.toUInt32 31)).toInt32) &&& 255))) 18 ((((a5.toUInt32 >>> ((8 : Int32).toUInt32 &&& Int32.toUInt32 31)).toInt32) &&& 255))) 19 ((((a5.toUInt32 >>> ((0 : Int32).toUInt32 &&& Int32.toUInt32 31)).toInt32) &&& 255)))))] mv_L_82 rfl rfl h0 (c_X8_feed_156 h0 h1 h2) rfl dL_law_211 (Nat.le_of_ble_eq_true rfl) (Nat.le_of_ble_eq_true rfl) rfl (Nat.le_of_ble_eq_true rfl) (Nat.le_of_ble_eq_true rfl) (Nat.le_of_ble_eq_true rfl) rfl ?_
  refine aw_ald_n C dL_law_214 rfl ?_
  refine aw_raw_n C dL_law_215 rfl ?_
  refine aw_iload C dL_law_216 rfl ?_
  refine aw_iconst C 1 dL_law_218 ki_1 ?_
  refine ae_iadd C 1 dL_law_219 (by decide) ?_
  refine aw_sld C S0 a1 (by unfold vp_in; decide) (by decide : _ = 1) e1 dL_law_220 ?_
  refine aw_raw_n C dL_law_221 rfl ?_
  refine aw_iload C dL_law_222 rfl ?_
  refine aw_iconst C 2 dL_law_224 ki_2 ?_
  refine ae_iadd C 2 dL_law_225 (by decide) ?_
  refine aw_sld C S0 a2 (by unfold vp_in; decide) (by decide : _ = 2) e2 dL_law_226 ?_
  refine aw_raw_n C dL_law_227 rfl ?_
  refine aw_iload C dL_law_228 rfl ?_
  refine aw_iconst C 3 dL_law_230 ki_3 ?_
  refine ae_iadd C 3 dL_law_231 (by decide) ?_
  refine aw_sld C S0 a3 (by unfold vp_in; decide) (by decide : _ = 3) e3 dL_law_232 ?_
  refine aw_raw_n C dL_law_233 rfl ?_
  refine aw_iload C dL_law_234 rfl ?_
  refine aw_iconst C 4 dL_law_236 ki_4 ?_
  refine ae_iadd C 4 dL_law_237 (by decide) ?_
  refine aw_sld C S0 a4 (by unfold vp_in; decide) (by decide : _ = 4) e4 dL_law_238 ?_
  refine aw_raw_n C dL_law_239 rfl ?_
  refine aw_iload C dL_law_240 rfl ?_
  refine aw_iconst C 5 dL_law_242 ki_5 ?_
  refine ae_iadd C 5 dL_law_243 (by decide) ?_
  refine aw_sld C S0 a5 (by unfold vp_in; decide) (by decide : _ = 5) e5 dL_law_244 ?_
  refine ao_callV C (ci := 9) (b := 181) [.int a1, .int a2, .int a3, .int a4, .int a5] [(1, .inr (5, [.ref 2, .int 20])), (2, .inl (0, 400, .inl (upd (upd (upd (upd (upd (upd (upd (upd (upd (upd (upd (upd (upd (upd (upd (upd (upd (upd (upd (upd (fun _ => 0) 0 ((((a1.toUInt32 >>> ((24 : Int32).toUInt32 &&& Int32.toUInt32 31)).toInt32) &&& 255))) 1 ((((a1.toUInt32 >>> ((16 : Int32).toUInt32 &&& Int32.toUInt32 31)).toInt32) &&& 255))) 2 ((((a1.toUInt32 >>> ((8 : Int32).toUInt32 &&& Int32.toUInt32 31)).toInt32) &&& 255))) 3 ((((a1.toUInt32 >>> ((0 : Int32).toUInt32 &&& Int32.toUInt32 31)).toInt32) &&& 255))) 4 ((((a2.toUInt32 >>> ((24 : Int32).toUInt32 &&& Int32.toUInt32 31)).toInt32) &&& 255))) 5 ((((a2.toUInt32 >>> ((16 : Int32).toUInt32 &&& Int32.toUInt32 31)).toInt32) &&& 255))) 6 ((((a2.toUInt32 >>> ((8 : Int32).toUInt32 &&& Int32.toUInt32 31)).toInt32) &&& 255))) 7 ((((a2.toUInt32 >>> ((0 : Int32).toUInt32 &&& Int32.toUInt32 31)).toInt32) &&& 255))) 8 ((((a3.toUInt32 >>> ((24 : Int32).toUInt32 &&& Int32.toUInt32 31)).toInt32) &&& 255))) 9 ((((a3.toUInt32 >>> ((16 : Int32).toUInt32 &&& Int32.toUInt32 31)).toInt32) &&& 255))) 10 ((((a3.toUInt32 >>> ((8 : Int32).toUInt32 &&& Int32.toUInt32 31)).toInt32) &&& 255))) 11 ((((a3.toUInt32 >>> ((0 : Int32).toUInt32 &&& Int32.toUInt32 31)).toInt32) &&& 255))) 12 ((((a4.toUInt32 >>> ((24 : Int32).toUInt32 &&& Int32.toUInt32 31)).toInt32) &&& 255))) 13 ((((a4.toUInt32 >>> ((16 : Int32).toUInt32 &&& Int32.toUInt32 31)).toInt32) &&& 255))) 14 ((((a4.toUInt32 >>> ((8 : Int32).toUInt32 &&& Int32.toUInt32 31)).toInt32) &&& 255))) 15 ((((a4.toUInt32 >>> ((0 : Int32).toUInt32 &&& Int32.toUInt32 31)).toInt32) &&& 255))) 16 ((((a5.toUInt32 >>> ((24 : Int32).toUInt32 &&& Int32.toUInt32 31)).toInt32) &&& 255))) 17 ((((a5.toUInt32 >>> ((16 : Int32).toUInt32 &&& Int32.toUInt32 31)).toInt32) &&& 255))) 18 ((((a5.toUInt32 >>> ((8 : Int32).toUInt32 &&& Int32.toUInt32 31)).toInt32) &&& 255))) 19 ((((a5.toUInt32 >>> ((0 : Int32).toUInt32 &&& Int32.toUInt32 31)).toInt32) &&& 255))))), (186, .inl (0, 400, .inl (upd (upd (upd (upd (upd (upd (upd (upd (upd (upd (upd (upd (upd (upd (upd (upd (upd (upd (upd (upd (fun _ => 0) 0 (((a1.toUInt32 >>> ((24 : Int32).toUInt32 &&& Int32.toUInt32 31)).toInt32) &&& 255)) 1 (((a1.toUInt32 >>> ((16 : Int32).toUInt32 &&& Int32.toUInt32 31)).toInt32) &&& 255)) 2 (((a1.toUInt32 >>> ((8 : Int32).toUInt32 &&& Int32.toUInt32 31)).toInt32) &&& 255)) 3 (((a1.toUInt32 >>> ((0 : Int32).toUInt32 &&& Int32.toUInt32 31)).toInt32) &&& 255)) 4 (((a2.toUInt32 >>> ((24 : Int32).toUInt32 &&& Int32.toUInt32 31)).toInt32) &&& 255)) 5 (((a2.toUInt32 >>> ((16 : Int32).toUInt32 &&& Int32.toUInt32 31)).toInt32) &&& 255)) 6 (((a2.toUInt32 >>> ((8 : Int32).toUInt32 &&& Int32.toUInt32 31)).toInt32) &&& 255)) 7 (((a2.toUInt32 >>> ((0 : Int32).toUInt32 &&& Int32.toUInt32 31)).toInt32) &&& 255)) 8 (((a3.toUInt32 >>> ((24 : Int32).toUInt32 &&& Int32.toUInt32 31)).toInt32) &&& 255)) 9 (((a3.toUInt32 >>> ((16 : Int32).toUInt32 &&& Int32.toUInt32 31)).toInt32) &&& 255)) 10 (((a3.toUInt32 >>> ((8 : Int32).toUInt32 &&& Int32.toUInt32 31)).toInt32) &&& 255)) 11 (((a3.toUInt32 >>> ((0 : Int32).toUInt32 &&& Int32.toUInt32 31)).toInt32) &&& 255)) 12 (((a4.toUInt32 >>> ((24 : Int32).toUInt32 &&& Int32.toUInt32 31)).toInt32) &&& 255)) 13 (((a4.toUInt32 >>> ((16 : Int32).toUInt32 &&& Int32.toUInt32 31)).toInt32) &&& 255)) 14 (((a4.toUInt32 >>> ((8 : Int32).toUInt32 &&& Int32.toUInt32 31)).toInt32) &&& 255)) 15 (((a4.toUInt32 >>> ((0 : Int32).toUInt32 &&& Int32.toUInt32 31)).toInt32) &&& 255)) 16 (((a5.toUInt32 >>> ((24 : Int32).toUInt32 &&& Int32.toUInt32 31)).toInt32) &&& 255)) 17 (((a5.toUInt32 >>> ((16 : Int32).toUInt32 &&& Int32.toUInt32 31)).toInt32) &&& 255)) 18 (((a5.toUInt32 >>> ((8 : Int32).toUInt32 &&& Int32.toUInt32 31)).toInt32) &&& 255)) 19 (((a5.toUInt32 >>> ((0 : Int32).toUInt32 &&& Int32.toUInt32 31)).toInt32) &&& 255)))), (181, .inr (9, (.int 0 :: .ref 182 :: .ref 183 :: .ref 184 :: .ref 185 :: .int 0 :: .int 0 :: .int 0 :: .ref 186 :: .int 20 :: .int 0 :: .int 0 :: .int (-1) :: .ref 187 :: .ref 188 :: .ref 189 :: .int 0 :: .ref 190 :: .ref 191 :: .ref 192 :: .ref 193 :: .ref 194 :: .int 0 :: .ref 195 :: .ref 196 :: .ref 197 :: .int 0 :: .ref 198 :: .ref 199 :: .ref 200 :: .ref 201 :: .ref 202 :: .ref 203 :: .int 0 :: .ref 204 :: .ref 205 :: .ref 206 :: .ref 207 :: .ref 208 :: .ref 209 :: .ref 210 :: .ref 211 :: .ref 212 :: .ref 213 :: .ref 214 :: .int 0 :: .ref 215 :: .ref 216 :: .int 0 :: .ref 217 :: .ref 218 :: .ref 219 :: .ref 220 :: .ref 221 :: .int 0 :: .int 0 :: .int 0 :: .int 0 :: .ref 222 :: .int 0 :: [])))] mv_L_86 rfl rfl h181 (c_X9_feed_157 h181 h186) rfl dL_law_245 (Nat.le_of_ble_eq_true rfl) (Nat.le_of_ble_eq_true rfl) rfl (Nat.le_of_ble_eq_true rfl) (Nat.le_of_ble_eq_true rfl) (Nat.le_of_ble_eq_true rfl) rfl ?_
  refine aw_icmp_eq C 1629 dL_law_248 (by decide) (fun _ => ?_) (fun q => absurd (by decide) q)
  refine aw_fl [some (.retAddr b), none, none, none, some (.int 0), none, none, none] (by simp [SubL]) ?_
  exact al_tail C S0 (Nat.le_of_ble_eq_true rfl) (Nat.le_of_ble_eq_true rfl)

set_option maxHeartbeats 4000000 in
set_option maxRecDepth 100000 in
theorem lc_1_a {X : GX} {p : Program} {l : Launch} {e : Env} {s : State} {m : MethodId} {below : List Frame} {meth : Method} {c : Code} {b : Nat} {xs : Nat → Int32} {f : AH} {n : Nat} {a1 : Int32} {a2 : Int32} {a3 : Int32} {a4 : Int32} {a5 : Int32} (C : CC X p l room_1 s m #[Value.ref b] meth c RL cL_law 8 ret) (S0 : SC X b 6 xs s) (hl0 : l.stackTraces = false) (e1 : xs 1 = a1) (q1 : (-2147483648) ≤ a1.toInt ∧ a1.toInt ≤ (-1)) (e2 : xs 2 = a2) (e3 : xs 3 = a3) (e4 : xs 4 = a4) (e5 : xs 5 = a5) (h0 : f 0 = some (.inr (8, [.ref 1, .ref 3, .ref 8, .ref 13, .ref 18, .ref 59, .ref 115, .ref 171, .ref 178, .int 0, .int 0, .int 0, .int 0, .int (-1)]))) (h181 : f 181 = some (.inr (9, (.int 0 :: .ref 182 :: .ref 183 :: .ref 184 :: .ref 185 :: .int 0 :: .int 0 :: .int 0 :: .ref 186 :: .int 0 :: .int 0 :: .int 0 :: .int (-1) :: .ref 187 :: .ref 188 :: .ref 189 :: .int 0 :: .ref 190 :: .ref 191 :: .ref 192 :: .ref 193 :: .ref 194 :: .int 0 :: .ref 195 :: .ref 196 :: .ref 197 :: .int 0 :: .ref 198 :: .ref 199 :: .ref 200 :: .ref 201 :: .ref 202 :: .ref 203 :: .int 0 :: .ref 204 :: .ref 205 :: .ref 206 :: .ref 207 :: .ref 208 :: .ref 209 :: .ref 210 :: .ref 211 :: .ref 212 :: .ref 213 :: .ref 214 :: .int 0 :: .ref 215 :: .ref 216 :: .int 0 :: .ref 217 :: .ref 218 :: .ref 219 :: .ref 220 :: .ref 221 :: .int 0 :: .int 0 :: .int 0 :: .int 0 :: .ref 222 :: .int 0 :: [])))) : AW X p l e room_1 s m #[Value.ref b] below meth c 8 (lw_Z below #[Value.ref b] s) f n 1000 300000 253 [some (.retAddr b), some (.ref 0), some (.ref 181), some (.ref 223), some (.int 0), none, none, none] [] := by
  refine ao_start ?_
  obtain ⟨q1a, q1b⟩ := q1
  refine aw_ald_n C dL_law_253 rfl ?_
  refine aw_raw_n C dL_law_254 rfl ?_
  refine aw_iload C dL_law_255 rfl ?_
  refine aw_iconst C 1 dL_law_257 ki_1 ?_
  refine ae_iadd C 1 dL_law_258 (by decide) ?_
  refine aw_sld C S0 a1 (by unfold vp_in; decide) (by decide : _ = 1) e1 dL_law_259 ?_
  refine ao_callV C (ci := 8) (b := 0) [.int a1] [] mv_L_87 rfl rfl h0 (c_X8_end_158 ⟨by omega, by omega⟩) rfl dL_law_260 (Nat.le_of_ble_eq_true rfl) (Nat.le_of_ble_eq_true rfl) rfl (Nat.le_of_ble_eq_true rfl) (Nat.le_of_ble_eq_true rfl) (Nat.le_of_ble_eq_true rfl) rfl ?_
  refine aw_ald_n C dL_law_263 rfl ?_
  refine aw_raw_n C dL_law_264 rfl ?_
  refine aw_iload C dL_law_265 rfl ?_
  refine aw_iconst C 1 dL_law_267 ki_1 ?_
  refine ae_iadd C 1 dL_law_268 (by decide) ?_
  refine aw_sld C S0 a1 (by unfold vp_in; decide) (by decide : _ = 1) e1 dL_law_269 ?_
  refine ao_callV C (ci := 9) (b := 181) [.int a1] [(181, .inr (9, (.int 0 :: .ref 182 :: .ref 183 :: .ref 184 :: .ref 185 :: .int 0 :: .int 0 :: .int 0 :: .ref 186 :: .int 0 :: .int 0 :: .int 0 :: .int (-1) :: .ref 187 :: .ref 188 :: .ref 189 :: .int 0 :: .ref 190 :: .ref 191 :: .ref 192 :: .ref 193 :: .ref 194 :: .int 0 :: .ref 195 :: .ref 196 :: .ref 197 :: .int 0 :: .ref 198 :: .ref 199 :: .ref 200 :: .ref 201 :: .ref 202 :: .ref 203 :: .int 0 :: .ref 204 :: .ref 205 :: .ref 206 :: .ref 207 :: .ref 208 :: .ref 209 :: .ref 210 :: .ref 211 :: .ref 212 :: .ref 213 :: .ref 214 :: .int 0 :: .ref 215 :: .ref 216 :: .int 0 :: .ref 217 :: .ref 218 :: .ref 219 :: .ref 220 :: .ref 221 :: .int 0 :: .int 0 :: .int 0 :: .int 0 :: .ref 222 :: .int 0 :: [])))] mv_L_90 rfl rfl h181 (c_X9_end_160 ⟨by omega, by omega⟩ h181) rfl dL_law_270 (Nat.le_of_ble_eq_true rfl) (Nat.le_of_ble_eq_true rfl) rfl (Nat.le_of_ble_eq_true rfl) (Nat.le_of_ble_eq_true rfl) (Nat.le_of_ble_eq_true rfl) rfl ?_
  refine aw_icmp_eq C 1629 dL_law_273 (by decide) (fun _ => ?_) (fun q => absurd (by decide) q)
  refine aw_fl [some (.retAddr b), none, none, none, some (.int 0), none, none, none] (by simp [SubL]) ?_
  exact al_tail C S0 (Nat.le_of_ble_eq_true rfl) (Nat.le_of_ble_eq_true rfl)

set_option maxHeartbeats 4000000 in
set_option maxRecDepth 100000 in
theorem lc_1_b {X : GX} {p : Program} {l : Launch} {e : Env} {s : State} {m : MethodId} {below : List Frame} {meth : Method} {c : Code} {b : Nat} {xs : Nat → Int32} {f : AH} {n : Nat} {a2 : Int32} {a3 : Int32} {a4 : Int32} {a5 : Int32} (C : CC X p l room_1 s m #[Value.ref b] meth c RL cL_law 8 ret) (S0 : SC X b 6 xs s) (hl0 : l.stackTraces = false) (e1 : xs 1 = 0) (e2 : xs 2 = a2) (e3 : xs 3 = a3) (e4 : xs 4 = a4) (e5 : xs 5 = a5) (h0 : f 0 = some (.inr (8, [.ref 1, .ref 3, .ref 8, .ref 13, .ref 18, .ref 59, .ref 115, .ref 171, .ref 178, .int 0, .int 0, .int 0, .int 0, .int (-1)]))) (h1 : f 1 = some (.inr (5, [.ref 2, .int 0]))) (h181 : f 181 = some (.inr (9, (.int 0 :: .ref 182 :: .ref 183 :: .ref 184 :: .ref 185 :: .int 0 :: .int 0 :: .int 0 :: .ref 186 :: .int 0 :: .int 0 :: .int 0 :: .int (-1) :: .ref 187 :: .ref 188 :: .ref 189 :: .int 0 :: .ref 190 :: .ref 191 :: .ref 192 :: .ref 193 :: .ref 194 :: .int 0 :: .ref 195 :: .ref 196 :: .ref 197 :: .int 0 :: .ref 198 :: .ref 199 :: .ref 200 :: .ref 201 :: .ref 202 :: .ref 203 :: .int 0 :: .ref 204 :: .ref 205 :: .ref 206 :: .ref 207 :: .ref 208 :: .ref 209 :: .ref 210 :: .ref 211 :: .ref 212 :: .ref 213 :: .ref 214 :: .int 0 :: .ref 215 :: .ref 216 :: .int 0 :: .ref 217 :: .ref 218 :: .ref 219 :: .ref 220 :: .ref 221 :: .int 0 :: .int 0 :: .int 0 :: .int 0 :: .ref 222 :: .int 0 :: [])))) : AW X p l e room_1 s m #[Value.ref b] below meth c 8 (lw_Z below #[Value.ref b] s) f n 1000 300000 253 [some (.retAddr b), some (.ref 0), some (.ref 181), some (.ref 223), some (.int 0), none, none, none] [] := by
  refine ao_start ?_
  refine aw_ald_n C dL_law_253 rfl ?_
  refine aw_raw_n C dL_law_254 rfl ?_
  refine aw_iload C dL_law_255 rfl ?_
  refine aw_iconst C 1 dL_law_257 ki_1 ?_
  refine ae_iadd C 1 dL_law_258 (by decide) ?_
  refine aw_sld C S0 0 (by unfold vp_in; decide) (by decide : _ = 1) e1 dL_law_259 ?_
  refine ao_callV C (ci := 8) (b := 0) [.int 0] [] mv_L_87 rfl rfl h0 (c_X8_end_162 h0 h1) rfl dL_law_260 (Nat.le_of_ble_eq_true rfl) (Nat.le_of_ble_eq_true rfl) rfl (Nat.le_of_ble_eq_true rfl) (Nat.le_of_ble_eq_true rfl) (Nat.le_of_ble_eq_true rfl) rfl ?_
  refine aw_ald_n C dL_law_263 rfl ?_
  refine aw_raw_n C dL_law_264 rfl ?_
  refine aw_iload C dL_law_265 rfl ?_
  refine aw_iconst C 1 dL_law_267 ki_1 ?_
  refine ae_iadd C 1 dL_law_268 (by decide) ?_
  refine aw_sld C S0 0 (by unfold vp_in; decide) (by decide : _ = 1) e1 dL_law_269 ?_
  refine ao_callV C (ci := 9) (b := 181) [.int 0] [(181, .inr (9, (.int 0 :: .ref 182 :: .ref 183 :: .ref 184 :: .ref 185 :: .int 0 :: .int 0 :: .int 0 :: .ref 186 :: .int 0 :: .int 0 :: .int 0 :: .int (-1) :: .ref 187 :: .ref 188 :: .ref 189 :: .int 0 :: .ref 190 :: .ref 191 :: .ref 192 :: .ref 193 :: .ref 194 :: .int 0 :: .ref 195 :: .ref 196 :: .ref 197 :: .int 0 :: .ref 198 :: .ref 199 :: .ref 200 :: .ref 201 :: .ref 202 :: .ref 203 :: .int 0 :: .ref 204 :: .ref 205 :: .ref 206 :: .ref 207 :: .ref 208 :: .ref 209 :: .ref 210 :: .ref 211 :: .ref 212 :: .ref 213 :: .ref 214 :: .int 0 :: .ref 215 :: .ref 216 :: .int 0 :: .ref 217 :: .ref 218 :: .ref 219 :: .ref 220 :: .ref 221 :: .int 0 :: .int 0 :: .int 0 :: .int 0 :: .ref 222 :: .int 0 :: [])))] mv_L_90 rfl rfl h181 (c_X9_end_164 h181) rfl dL_law_270 (Nat.le_of_ble_eq_true rfl) (Nat.le_of_ble_eq_true rfl) rfl (Nat.le_of_ble_eq_true rfl) (Nat.le_of_ble_eq_true rfl) (Nat.le_of_ble_eq_true rfl) rfl ?_
  refine aw_icmp_eq C 1629 dL_law_273 (by decide) (fun _ => ?_) (fun q => absurd (by decide) q)
  refine aw_fl [some (.retAddr b), none, none, none, some (.int 0), none, none, none] (by simp [SubL]) ?_
  exact al_tail C S0 (Nat.le_of_ble_eq_true rfl) (Nat.le_of_ble_eq_true rfl)

set_option maxHeartbeats 4000000 in
set_option maxRecDepth 100000 in
theorem lc_1_c {X : GX} {p : Program} {l : Launch} {e : Env} {s : State} {m : MethodId} {below : List Frame} {meth : Method} {c : Code} {b : Nat} {xs : Nat → Int32} {f : AH} {n : Nat} {a1 : Int32} {a2 : Int32} {a3 : Int32} {a4 : Int32} {a5 : Int32} (C : CC X p l room_1 s m #[Value.ref b] meth c RL cL_law 8 ret) (S0 : SC X b 6 xs s) (hl0 : l.stackTraces = false) (e1 : xs 1 = a1) (q1 : 1 ≤ a1.toInt ∧ a1.toInt ≤ 2147483647) (e2 : xs 2 = a2) (e3 : xs 3 = a3) (e4 : xs 4 = a4) (e5 : xs 5 = a5) (h0 : f 0 = some (.inr (8, [.ref 1, .ref 3, .ref 8, .ref 13, .ref 18, .ref 59, .ref 115, .ref 171, .ref 178, .int 0, .int 0, .int 0, .int 0, .int (-1)]))) (h1 : f 1 = some (.inr (5, [.ref 2, .int 0]))) (h181 : f 181 = some (.inr (9, (.int 0 :: .ref 182 :: .ref 183 :: .ref 184 :: .ref 185 :: .int 0 :: .int 0 :: .int 0 :: .ref 186 :: .int 0 :: .int 0 :: .int 0 :: .int (-1) :: .ref 187 :: .ref 188 :: .ref 189 :: .int 0 :: .ref 190 :: .ref 191 :: .ref 192 :: .ref 193 :: .ref 194 :: .int 0 :: .ref 195 :: .ref 196 :: .ref 197 :: .int 0 :: .ref 198 :: .ref 199 :: .ref 200 :: .ref 201 :: .ref 202 :: .ref 203 :: .int 0 :: .ref 204 :: .ref 205 :: .ref 206 :: .ref 207 :: .ref 208 :: .ref 209 :: .ref 210 :: .ref 211 :: .ref 212 :: .ref 213 :: .ref 214 :: .int 0 :: .ref 215 :: .ref 216 :: .int 0 :: .ref 217 :: .ref 218 :: .ref 219 :: .ref 220 :: .ref 221 :: .int 0 :: .int 0 :: .int 0 :: .int 0 :: .ref 222 :: .int 0 :: [])))) : AW X p l e room_1 s m #[Value.ref b] below meth c 8 (lw_Z below #[Value.ref b] s) f n 1000 300000 253 [some (.retAddr b), some (.ref 0), some (.ref 181), some (.ref 223), some (.int 0), none, none, none] [] := by
  refine ao_start ?_
  obtain ⟨q1a, q1b⟩ := q1
  refine aw_ald_n C dL_law_253 rfl ?_
  refine aw_raw_n C dL_law_254 rfl ?_
  refine aw_iload C dL_law_255 rfl ?_
  refine aw_iconst C 1 dL_law_257 ki_1 ?_
  refine ae_iadd C 1 dL_law_258 (by decide) ?_
  refine aw_sld C S0 a1 (by unfold vp_in; decide) (by decide : _ = 1) e1 dL_law_259 ?_
  refine ao_callV C (ci := 8) (b := 0) [.int a1] [] mv_L_87 rfl rfl h0 (c_X8_end_165 ⟨by omega, by omega⟩ h0 h1) rfl dL_law_260 (Nat.le_of_ble_eq_true rfl) (Nat.le_of_ble_eq_true rfl) rfl (Nat.le_of_ble_eq_true rfl) (Nat.le_of_ble_eq_true rfl) (Nat.le_of_ble_eq_true rfl) rfl ?_
  refine aw_ald_n C dL_law_263 rfl ?_
  refine aw_raw_n C dL_law_264 rfl ?_
  refine aw_iload C dL_law_265 rfl ?_
  refine aw_iconst C 1 dL_law_267 ki_1 ?_
  refine ae_iadd C 1 dL_law_268 (by decide) ?_
  refine aw_sld C S0 a1 (by unfold vp_in; decide) (by decide : _ = 1) e1 dL_law_269 ?_
  refine ao_callV C (ci := 9) (b := 181) [.int a1] [(181, .inr (9, (.int 0 :: .ref 182 :: .ref 183 :: .ref 184 :: .ref 185 :: .int 0 :: .int 0 :: .int 0 :: .ref 186 :: .int 0 :: .int 0 :: .int 0 :: .int (-1) :: .ref 187 :: .ref 188 :: .ref 189 :: .int 0 :: .ref 190 :: .ref 191 :: .ref 192 :: .ref 193 :: .ref 194 :: .int 0 :: .ref 195 :: .ref 196 :: .ref 197 :: .int 0 :: .ref 198 :: .ref 199 :: .ref 200 :: .ref 201 :: .ref 202 :: .ref 203 :: .int 0 :: .ref 204 :: .ref 205 :: .ref 206 :: .ref 207 :: .ref 208 :: .ref 209 :: .ref 210 :: .ref 211 :: .ref 212 :: .ref 213 :: .ref 214 :: .int 0 :: .ref 215 :: .ref 216 :: .int 0 :: .ref 217 :: .ref 218 :: .ref 219 :: .ref 220 :: .ref 221 :: .int 0 :: .int 0 :: .int 0 :: .int 0 :: .ref 222 :: .int 0 :: [])))] mv_L_90 rfl rfl h181 (c_X9_end_167 ⟨by omega, by omega⟩ h181) rfl dL_law_270 (Nat.le_of_ble_eq_true rfl) (Nat.le_of_ble_eq_true rfl) rfl (Nat.le_of_ble_eq_true rfl) (Nat.le_of_ble_eq_true rfl) (Nat.le_of_ble_eq_true rfl) rfl ?_
  refine aw_icmp_eq C 1629 dL_law_273 (by decide) (fun _ => ?_) (fun q => absurd (by decide) q)
  refine aw_fl [some (.retAddr b), none, none, none, some (.int 0), none, none, none] (by simp [SubL]) ?_
  exact al_tail C S0 (Nat.le_of_ble_eq_true rfl) (Nat.le_of_ble_eq_true rfl)

set_option maxHeartbeats 4000000 in
set_option maxRecDepth 100000 in
theorem lc_2_x {X : GX} {p : Program} {l : Launch} {e : Env} {s : State} {m : MethodId} {below : List Frame} {meth : Method} {c : Code} {b : Nat} {xs : Nat → Int32} {f : AH} {n : Nat} {a1 : Int32} {a2 : Int32} {a3 : Int32} {a4 : Int32} {a5 : Int32} {g182 : Nat → Int32} (C : CC X p l room_1 s m #[Value.ref b] meth c RL cL_law 8 ret) (S0 : SC X b 6 xs s) (hl0 : l.stackTraces = false) (e1 : xs 1 = a1) (e2 : xs 2 = a2) (e3 : xs 3 = a3) (e4 : xs 4 = a4) (e5 : xs 5 = a5) (h0 : f 0 = some (.inr (8, [.ref 1, .ref 3, .ref 8, .ref 13, .ref 18, .ref 59, .ref 115, .ref 171, .ref 178, .int 0, .int 0, .int 0, .int 0, .int (-1)]))) (h3 : f 3 = some (.inr (7, [.ref 4, .int 0, .int (-1), .int 0, .int 1, .int 0, .null, .int 0, .ref 6, .ref 7]))) (h8 : f 8 = some (.inr (7, [.ref 9, .int 0, .int (-1), .int 0, .int 1, .int 0, .null, .int 0, .ref 11, .ref 12]))) (h11 : f 11 = some (.inl (2, 4, .inr (.inr (fun _ => none))))) (h6 : f 6 = some (.inl (2, 4, .inr (.inr (fun _ => none))))) (h12 : f 12 = some (.inl (2, 40, .inr (.inr (fun _ => none))))) (h7 : f 7 = some (.inl (2, 40, .inr (.inr (fun _ => none))))) (h178 : f 178 = some (.inr (4, [.int 0, .int 0, .int 0, .int 0, .int 0, .null, .int 0, .ref 179]))) (h1 : f 1 = some (.inr (5, [.ref 2, .int 0]))) (h223 : f 223 = some (.inl (4, 1, .inr (.inl (fun _ => 0))))) (h181 : f 181 = some (.inr (9, (.int 0 :: .ref 182 :: .ref 183 :: .ref 184 :: .ref 185 :: .int 0 :: .int 0 :: .int 0 :: .ref 186 :: .int 0 :: .int 0 :: .int 0 :: .int (-1) :: .ref 187 :: .ref 188 :: .ref 189 :: .int 0 :: .ref 190 :: .ref 191 :: .ref 192 :: .ref 193 :: .ref 194 :: .int 0 :: .ref 195 :: .ref 196 :: .ref 197 :: .int 0 :: .ref 198 :: .ref 199 :: .ref 200 :: .ref 201 :: .ref 202 :: .ref 203 :: .int 0 :: .ref 204 :: .ref 205 :: .ref 206 :: .ref 207 :: .ref 208 :: .ref 209 :: .ref 210 :: .ref 211 :: .ref 212 :: .ref 213 :: .ref 214 :: .int 0 :: .ref 215 :: .ref 216 :: .int 0 :: .ref 217 :: .ref 218 :: .ref 219 :: .ref 220 :: .ref 221 :: .int 0 :: .int 0 :: .int 0 :: .int 0 :: .ref 222 :: .int 0 :: [])))) (h183 : f 183 = some (.inl (0, 4347, .inl (fun _ => 0)))) (h182 : f 182 = some (.inl (0, 4347, .inl g182))) : AW X p l e room_1 s m #[Value.ref b] below meth c 8 (lw_Z below #[Value.ref b] s) f n 1000 300000 278 [some (.retAddr b), some (.ref 0), some (.ref 181), some (.ref 223), some (.int 0), none, none, none] [] := by
  refine ao_start ?_
  refine aw_ald_n C dL_law_278 rfl ?_
  refine aw_ald_n C dL_law_279 rfl ?_
  refine aw_callSW C [.ref 0, .ref 223] mw_L_91 (c_L_acts_172 h0 h3 h8 h11 h6 h12 h7 h178 h1 h223) rfl dL_law_280 (Nat.le_of_ble_eq_true rfl) (Nat.le_of_ble_eq_true rfl) rfl (Nat.le_of_ble_eq_true rfl) (Nat.le_of_ble_eq_true rfl) (Nat.le_of_ble_eq_true rfl) (fun v9 f9 n9 h9 => ?_)
  obtain ⟨rfl, rfl, rfl⟩ := h9
  refine ao_flat [(223, .inl (4, 1, .inr (.inl (vp_updL (fun _ => 0) 0 0)))), (8, .inr (7, [.ref 4, .int 0, .int (-1), .int 0, .int 1, .int 0, .null, .int 0, .ref 11, .ref 12])), (178, .inr (4, [.int 0, .int 0, .int 0, .int 0, .int 0, .null, .int 0, .ref 1])), (0, .inr (8, [.ref 1, .ref 3, .ref 8, .ref 13, .ref 18, .ref 59, .ref 115, .ref 171, .ref 178, .int 0, .int 0, .int 0, .int 0, .int (-1)]))] rfl ?_
  refine aw_istore C dL_law_283 (by decide) rfl ?_
  refine aw_nl [some (.retAddr b), some (.ref 0), some (.ref 181), some (.ref 223), some (.int 0), some (.int 0), none, none] rfl ?_
  refine aw_ald_n C dL_law_285 rfl ?_
  refine ao_callV C (ci := 9) (b := 181) [] [(223, .inl (4, 1, .inr (.inl (vp_updL (fun _ => 0) 0 0)))), (8, .inr (7, [.ref 4, .int 0, .int (-1), .int 0, .int 1, .int 0, .null, .int 0, .ref 11, .ref 12])), (178, .inr (4, [.int 0, .int 0, .int 0, .int 0, .int 0, .null, .int 0, .ref 1])), (0, .inr (8, [.ref 1, .ref 3, .ref 8, .ref 13, .ref 18, .ref 59, .ref 115, .ref 171, .ref 178, .int 0, .int 0, .int 0, .int 0, .int (-1)])), (183, .inl (0, 4347, .inl (cpy g182 (fun _ => 0) 4347))), (181, .inr (9, (.int 0 :: .ref 182 :: .ref 183 :: .ref 184 :: .ref 185 :: .int 0 :: .int 0 :: .int 0 :: .ref 186 :: .int 0 :: .int 0 :: .int 0 :: .int (-1) :: .ref 187 :: .ref 188 :: .ref 189 :: .int 0 :: .ref 190 :: .ref 191 :: .ref 192 :: .ref 193 :: .ref 194 :: .int 0 :: .ref 195 :: .ref 196 :: .ref 197 :: .int 0 :: .ref 198 :: .ref 199 :: .ref 200 :: .ref 201 :: .ref 202 :: .ref 203 :: .int 0 :: .ref 204 :: .ref 205 :: .ref 206 :: .ref 207 :: .ref 208 :: .ref 209 :: .ref 210 :: .ref 211 :: .ref 212 :: .ref 213 :: .ref 214 :: .int 0 :: .ref 215 :: .ref 216 :: .int 0 :: .ref 217 :: .ref 218 :: .ref 219 :: .ref 220 :: .ref 221 :: .int 0 :: .int 0 :: .int 0 :: .int 0 :: .ref 222 :: .int 0 :: [])))] mv_L_96 rfl rfl h181 (c_X9_acts_175 h181 h183 h182) rfl dL_law_286 (Nat.le_of_ble_eq_true rfl) (Nat.le_of_ble_eq_true rfl) rfl (Nat.le_of_ble_eq_true rfl) (Nat.le_of_ble_eq_true rfl) (Nat.le_of_ble_eq_true rfl) rfl ?_
  refine aw_istore C dL_law_289 (by decide) rfl ?_
  refine aw_nl [some (.retAddr b), some (.ref 0), some (.ref 181), some (.ref 223), some (.int 0), some (.int 0), some (.int 0), none] rfl ?_
  refine aw_ald_n C dL_law_291 rfl ?_
  refine ao_callV C (ci := 9) (b := 181) [] [(223, .inl (4, 1, .inr (.inl (vp_updL (fun _ => 0) 0 0)))), (8, .inr (7, [.ref 4, .int 0, .int (-1), .int 0, .int 1, .int 0, .null, .int 0, .ref 11, .ref 12])), (178, .inr (4, [.int 0, .int 0, .int 0, .int 0, .int 0, .null, .int 0, .ref 1])), (0, .inr (8, [.ref 1, .ref 3, .ref 8, .ref 13, .ref 18, .ref 59, .ref 115, .ref 171, .ref 178, .int 0, .int 0, .int 0, .int 0, .int (-1)])), (183, .inl (0, 4347, .inl (cpy g182 (fun _ => 0) 4347))), (181, .inr (9, (.int 0 :: .ref 182 :: .ref 183 :: .ref 184 :: .ref 185 :: .int 0 :: .int 0 :: .int 0 :: .ref 186 :: .int 0 :: .int 0 :: .int 0 :: .int (-1) :: .ref 187 :: .ref 188 :: .ref 189 :: .int 0 :: .ref 190 :: .ref 191 :: .ref 192 :: .ref 193 :: .ref 194 :: .int 0 :: .ref 195 :: .ref 196 :: .ref 197 :: .int 0 :: .ref 198 :: .ref 199 :: .ref 200 :: .ref 201 :: .ref 202 :: .ref 203 :: .int 0 :: .ref 204 :: .ref 205 :: .ref 206 :: .ref 207 :: .ref 208 :: .ref 209 :: .ref 210 :: .ref 211 :: .ref 212 :: .ref 213 :: .ref 214 :: .int 0 :: .ref 215 :: .ref 216 :: .int 0 :: .ref 217 :: .ref 218 :: .ref 219 :: .ref 220 :: .ref 221 :: .int 0 :: .int 0 :: .int 0 :: .int 0 :: .ref 222 :: .int 0 :: [])))] mv_L_97 rfl rfl rfl (c_X9_thrown_176 rfl) rfl dL_law_292 (Nat.le_of_ble_eq_true rfl) (Nat.le_of_ble_eq_true rfl) rfl (Nat.le_of_ble_eq_true rfl) (Nat.le_of_ble_eq_true rfl) (Nat.le_of_ble_eq_true rfl) rfl ?_
  refine aw_iload C dL_law_295 rfl ?_
  refine aw_icmp_eq C 302 dL_law_297 (by decide) (fun _ => ?_) (fun q => absurd (by decide) q)
  refine aw_iload C dL_law_302 rfl ?_
  refine aw_if_ne C 319 dL_law_304 (by decide) (fun q => absurd (by decide) q) (fun _ => ?_)
  refine aw_ald_n C dL_law_307 rfl ?_
  refine aw_iconst C 0 dL_law_308 ki_0 ?_
  refine ao_lald C 0 rfl (by unfold vp_in; decide) (by decide : _ = 0) rfl dL_law_309 ?_
  refine aw_iload C dL_law_310 rfl ?_
  refine ae_i2l C 0 dL_law_312 (by decide) ?_
  refine ae_lcmp C 0 dL_law_313 (by decide) ?_
  refine aw_if_eq C 319 dL_law_314 (by decide) (fun _ => ?_) (fun q => absurd (by decide) q)
  refine aw_goto C 1629 dL_law_319 (by decide) ?_
  refine aw_fl [some (.retAddr b), none, none, none, some (.int 0), none, none, none] (by simp [SubL]) ?_
  exact al_tail C S0 (Nat.le_of_ble_eq_true rfl) (Nat.le_of_ble_eq_true rfl)

set_option maxHeartbeats 4000000 in
set_option maxRecDepth 100000 in
theorem lc_3_x {X : GX} {p : Program} {l : Launch} {e : Env} {s : State} {m : MethodId} {below : List Frame} {meth : Method} {c : Code} {b : Nat} {xs : Nat → Int32} {f : AH} {n : Nat} {a1 : Int32} {a2 : Int32} {a3 : Int32} {a4 : Int32} {a5 : Int32} (C : CC X p l room_1 s m #[Value.ref b] meth c RL cL_law 8 ret) (S0 : SC X b 6 xs s) (hl0 : l.stackTraces = false) (e1 : xs 1 = a1) (e2 : xs 2 = a2) (e3 : xs 3 = a3) (e4 : xs 4 = a4) (e5 : xs 5 = a5) (h0 : f 0 = some (.inr (8, [.ref 1, .ref 3, .ref 8, .ref 13, .ref 18, .ref 59, .ref 115, .ref 171, .ref 178, .int 0, .int 0, .int 0, .int 0, .int (-1)]))) (h181 : f 181 = some (.inr (9, (.int 0 :: .ref 182 :: .ref 183 :: .ref 184 :: .ref 185 :: .int 0 :: .int 0 :: .int 0 :: .ref 186 :: .int 0 :: .int 0 :: .int 0 :: .int (-1) :: .ref 187 :: .ref 188 :: .ref 189 :: .int 0 :: .ref 190 :: .ref 191 :: .ref 192 :: .ref 193 :: .ref 194 :: .int 0 :: .ref 195 :: .ref 196 :: .ref 197 :: .int 0 :: .ref 198 :: .ref 199 :: .ref 200 :: .ref 201 :: .ref 202 :: .ref 203 :: .int 0 :: .ref 204 :: .ref 205 :: .ref 206 :: .ref 207 :: .ref 208 :: .ref 209 :: .ref 210 :: .ref 211 :: .ref 212 :: .ref 213 :: .ref 214 :: .int 0 :: .ref 215 :: .ref 216 :: .int 0 :: .ref 217 :: .ref 218 :: .ref 219 :: .ref 220 :: .ref 221 :: .int 0 :: .int 0 :: .int 0 :: .int 0 :: .ref 222 :: .int 0 :: [])))) : AW X p l e room_1 s m #[Value.ref b] below meth c 8 (lw_Z below #[Value.ref b] s) f n 1000 300000 322 [some (.retAddr b), some (.ref 0), some (.ref 181), some (.ref 223), some (.int 0), none, none, none] [] := by
  refine ao_start ?_
  refine aw_ald_n C dL_law_322 rfl ?_
  refine ao_callV C (ci := 8) (b := 0) [] [] mv_L_100 rfl rfl h0 (c_X8_fault_177 h0) rfl dL_law_323 (Nat.le_of_ble_eq_true rfl) (Nat.le_of_ble_eq_true rfl) rfl (Nat.le_of_ble_eq_true rfl) (Nat.le_of_ble_eq_true rfl) (Nat.le_of_ble_eq_true rfl) rfl ?_
  refine aw_ald_n C dL_law_326 rfl ?_
  refine ao_callV C (ci := 9) (b := 181) [] [(181, .inr (9, (.int 0 :: .ref 182 :: .ref 183 :: .ref 184 :: .ref 185 :: .int 0 :: .int 0 :: .int 0 :: .ref 186 :: .int 0 :: .int 0 :: .int 0 :: .int (-1) :: .ref 187 :: .ref 188 :: .ref 189 :: .int 0 :: .ref 190 :: .ref 191 :: .ref 192 :: .ref 193 :: .ref 194 :: .int 0 :: .ref 195 :: .ref 196 :: .ref 197 :: .int 0 :: .ref 198 :: .ref 199 :: .ref 200 :: .ref 201 :: .ref 202 :: .ref 203 :: .int 0 :: .ref 204 :: .ref 205 :: .ref 206 :: .ref 207 :: .ref 208 :: .ref 209 :: .ref 210 :: .ref 211 :: .ref 212 :: .ref 213 :: .ref 214 :: .int 0 :: .ref 215 :: .ref 216 :: .int 0 :: .ref 217 :: .ref 218 :: .ref 219 :: .ref 220 :: .ref 221 :: .int 0 :: .int 0 :: .int 0 :: .int 0 :: .ref 222 :: .int 0 :: [])))] mv_L_103 rfl rfl h181 (c_X9_fault_178 h181) rfl dL_law_327 (Nat.le_of_ble_eq_true rfl) (Nat.le_of_ble_eq_true rfl) rfl (Nat.le_of_ble_eq_true rfl) (Nat.le_of_ble_eq_true rfl) (Nat.le_of_ble_eq_true rfl) rfl ?_
  refine aw_icmp_eq C 1629 dL_law_330 (by decide) (fun _ => ?_) (fun q => absurd (by decide) q)
  refine aw_fl [some (.retAddr b), none, none, none, some (.int 0), none, none, none] (by simp [SubL]) ?_
  exact al_tail C S0 (Nat.le_of_ble_eq_true rfl) (Nat.le_of_ble_eq_true rfl)

set_option maxHeartbeats 4000000 in
set_option maxRecDepth 100000 in
theorem lc_4_x {X : GX} {p : Program} {l : Launch} {e : Env} {s : State} {m : MethodId} {below : List Frame} {meth : Method} {c : Code} {b : Nat} {xs : Nat → Int32} {f : AH} {n : Nat} {a1 : Int32} {a2 : Int32} {a3 : Int32} {a4 : Int32} {a5 : Int32} (C : CC X p l room_1 s m #[Value.ref b] meth c RL cL_law 8 ret) (S0 : SC X b 6 xs s) (hl0 : l.stackTraces = false) (e1 : xs 1 = a1) (e2 : xs 2 = a2) (e3 : xs 3 = a3) (e4 : xs 4 = a4) (e5 : xs 5 = a5) (h0 : f 0 = some (.inr (8, [.ref 1, .ref 3, .ref 8, .ref 13, .ref 18, .ref 59, .ref 115, .ref 171, .ref 178, .int 0, .int 0, .int 0, .int 0, .int (-1)]))) (h181 : f 181 = some (.inr (9, (.int 0 :: .ref 182 :: .ref 183 :: .ref 184 :: .ref 185 :: .int 0 :: .int 0 :: .int 0 :: .ref 186 :: .int 0 :: .int 0 :: .int 0 :: .int (-1) :: .ref 187 :: .ref 188 :: .ref 189 :: .int 0 :: .ref 190 :: .ref 191 :: .ref 192 :: .ref 193 :: .ref 194 :: .int 0 :: .ref 195 :: .ref 196 :: .ref 197 :: .int 0 :: .ref 198 :: .ref 199 :: .ref 200 :: .ref 201 :: .ref 202 :: .ref 203 :: .int 0 :: .ref 204 :: .ref 205 :: .ref 206 :: .ref 207 :: .ref 208 :: .ref 209 :: .ref 210 :: .ref 211 :: .ref 212 :: .ref 213 :: .ref 214 :: .int 0 :: .ref 215 :: .ref 216 :: .int 0 :: .ref 217 :: .ref 218 :: .ref 219 :: .ref 220 :: .ref 221 :: .int 0 :: .int 0 :: .int 0 :: .int 0 :: .ref 222 :: .int 0 :: [])))) : AW X p l e room_1 s m #[Value.ref b] below meth c 8 (lw_Z below #[Value.ref b] s) f n 1000 300000 335 [some (.retAddr b), some (.ref 0), some (.ref 181), some (.ref 223), some (.int 0), none, none, none] [] := by
  refine ao_start ?_
  refine aw_ald_n C dL_law_335 rfl ?_
  refine ao_callV C (ci := 8) (b := 0) [] [] mv_L_104 rfl rfl h0 (c_X8_why_179 h0) rfl dL_law_336 (Nat.le_of_ble_eq_true rfl) (Nat.le_of_ble_eq_true rfl) rfl (Nat.le_of_ble_eq_true rfl) (Nat.le_of_ble_eq_true rfl) (Nat.le_of_ble_eq_true rfl) rfl ?_
  refine aw_ald_n C dL_law_339 rfl ?_
  refine ao_callV C (ci := 9) (b := 181) [] [(181, .inr (9, (.int 0 :: .ref 182 :: .ref 183 :: .ref 184 :: .ref 185 :: .int 0 :: .int 0 :: .int 0 :: .ref 186 :: .int 0 :: .int 0 :: .int 0 :: .int (-1) :: .ref 187 :: .ref 188 :: .ref 189 :: .int 0 :: .ref 190 :: .ref 191 :: .ref 192 :: .ref 193 :: .ref 194 :: .int 0 :: .ref 195 :: .ref 196 :: .ref 197 :: .int 0 :: .ref 198 :: .ref 199 :: .ref 200 :: .ref 201 :: .ref 202 :: .ref 203 :: .int 0 :: .ref 204 :: .ref 205 :: .ref 206 :: .ref 207 :: .ref 208 :: .ref 209 :: .ref 210 :: .ref 211 :: .ref 212 :: .ref 213 :: .ref 214 :: .int 0 :: .ref 215 :: .ref 216 :: .int 0 :: .ref 217 :: .ref 218 :: .ref 219 :: .ref 220 :: .ref 221 :: .int 0 :: .int 0 :: .int 0 :: .int 0 :: .ref 222 :: .int 0 :: [])))] mv_L_107 rfl rfl h181 (c_X9_why_180 h181) rfl dL_law_340 (Nat.le_of_ble_eq_true rfl) (Nat.le_of_ble_eq_true rfl) rfl (Nat.le_of_ble_eq_true rfl) (Nat.le_of_ble_eq_true rfl) (Nat.le_of_ble_eq_true rfl) rfl ?_
  refine aw_icmp_eq C 1629 dL_law_343 (by decide) (fun _ => ?_) (fun q => absurd (by decide) q)
  refine aw_fl [some (.retAddr b), none, none, none, some (.int 0), none, none, none] (by simp [SubL]) ?_
  exact al_tail C S0 (Nat.le_of_ble_eq_true rfl) (Nat.le_of_ble_eq_true rfl)

set_option maxHeartbeats 4000000 in
set_option maxRecDepth 100000 in
theorem lc_5_x {X : GX} {p : Program} {l : Launch} {e : Env} {s : State} {m : MethodId} {below : List Frame} {meth : Method} {c : Code} {b : Nat} {xs : Nat → Int32} {f : AH} {a1 : Int32} {a2 : Int32} {a3 : Int32} {a4 : Int32} {a5 : Int32} {g74 : Nat → Option Nat} (C : CC X p l room_1 s m #[Value.ref b] meth c RL cL_law 8 ret) (S0 : SC X b 6 xs s) (hl0 : l.stackTraces = false) (e1 : xs 1 = a1) (e2 : xs 2 = a2) (e3 : xs 3 = a3) (e4 : xs 4 = a4) (e5 : xs 5 = a5) (h0 : f 0 = some (.inr (8, [.ref 1, .ref 3, .ref 8, .ref 13, .ref 18, .ref 59, .ref 115, .ref 171, .ref 178, .int 0, .int 0, .int 0, .int 0, .int (-1)]))) (h1 : f 1 = some (.inr (5, [.ref 2, .int 0]))) (h3 : f 3 = some (.inr (7, [.ref 4, .int 0, .int (-1), .int 0, .int 1, .int 0, .null, .int 0, .ref 6, .ref 7]))) (h7 : f 7 = some (.inl (2, 40, .inr (.inr (fun _ => none))))) (h59 : f 59 = some (.inr (1, [.ref 60, .ref 62, .ref 74, .int 0, .ref 68, .ref 71, .ref 64, .ref 66]))) (h60 : f 60 = some (.inr (5, [.ref 61, .int 0]))) (h62 : f 62 = some (.inr (5, [.ref 63, .int 0]))) (h68 : f 68 = some (.inr (6, [.ref 69, .int 0, .int 0, .int 0, .int 0, .int 0, .int 0, .int 0, .int 0, .int 0]))) (h74 : f 74 = some (.inl (1, 40, .inr (.inr g74)))) (h171 : f 171 = some (.inr (0, [.ref 172, .ref 174, .ref 176, .int 0]))) (h172 : f 172 = some (.inr (5, [.ref 173, .int 0]))) (h181 : f 181 = some (.inr (9, (.int 0 :: .ref 182 :: .ref 183 :: .ref 184 :: .ref 185 :: .int 0 :: .int 0 :: .int 0 :: .ref 186 :: .int 0 :: .int 0 :: .int 0 :: .int (-1) :: .ref 187 :: .ref 188 :: .ref 189 :: .int 0 :: .ref 190 :: .ref 191 :: .ref 192 :: .ref 193 :: .ref 194 :: .int 0 :: .ref 195 :: .ref 196 :: .ref 197 :: .int 0 :: .ref 198 :: .ref 199 :: .ref 200 :: .ref 201 :: .ref 202 :: .ref 203 :: .int 0 :: .ref 204 :: .ref 205 :: .ref 206 :: .ref 207 :: .ref 208 :: .ref 209 :: .ref 210 :: .ref 211 :: .ref 212 :: .ref 213 :: .ref 214 :: .int 0 :: .ref 215 :: .ref 216 :: .int 0 :: .ref 217 :: .ref 218 :: .ref 219 :: .ref 220 :: .ref 221 :: .int 0 :: .int 0 :: .int 0 :: .int 0 :: .ref 222 :: .int 0 :: [])))) (h182 : f 182 = some (.inl (0, 4347, .inl (tl (upd (upd (fun _ => 0) 2 (-1)) 4 1) 40)))) : AW X p l e room_1 s m #[Value.ref b] below meth c 8 (lw_Z below #[Value.ref b] s) f 224 1000 300000 348 [some (.retAddr b), some (.ref 0), some (.ref 181), some (.ref 223), some (.int 0), none, none, none] [] := by
  refine ao_start ?_
  refine aw_ald_n C dL_law_348 rfl ?_
  refine ao_callV C (ci := 8) (b := 0) [] [(68, .inr (6, [.ref 224, .int 0, .int 0, .int 0, .int 0, .int 0, .int 0, .int 0, .int 0, .int 0])), (59, .inr (1, [.ref 60, .ref 62, .ref 74, .int 0, .ref 68, .ref 71, .ref 64, .ref 66])), (0, .inr (8, [.ref 1, .ref 3, .ref 8, .ref 13, .ref 18, .ref 59, .ref 115, .ref 171, .ref 178, .int 0, .int 0, .int 0, .int 0, .int (-1)])), (3, .inr (7, [.ref 224, .int 0, .int (-1), .int 0, .int 1, .int 0, .null, .int 0, .ref 6, .ref 7])), (224, .inr (5, [.ref 225, .int 0])), (225, .inl (0, 0, .inl (fun _ => 0)))] mv_L_108 rfl rfl h0 (c_X8_file_196 h0 h1 h3 h7 h59 h60 h62 h68 h74 h171 h172) rfl dL_law_349 (Nat.le_of_ble_eq_true rfl) (Nat.le_of_ble_eq_true rfl) rfl (Nat.le_of_ble_eq_true rfl) (Nat.le_of_ble_eq_true rfl) (Nat.le_of_ble_eq_true rfl) rfl ?_
  refine aw_ald_n C dL_law_352 rfl ?_
  refine ao_callV C (ci := 9) (b := 181) [] [(68, .inr (6, [.ref 224, .int 0, .int 0, .int 0, .int 0, .int 0, .int 0, .int 0, .int 0, .int 0])), (59, .inr (1, [.ref 60, .ref 62, .ref 74, .int 0, .ref 68, .ref 71, .ref 64, .ref 66])), (0, .inr (8, [.ref 1, .ref 3, .ref 8, .ref 13, .ref 18, .ref 59, .ref 115, .ref 171, .ref 178, .int 0, .int 0, .int 0, .int 0, .int (-1)])), (3, .inr (7, [.ref 224, .int 0, .int (-1), .int 0, .int 1, .int 0, .null, .int 0, .ref 6, .ref 7])), (224, .inr (5, [.ref 225, .int 0])), (225, .inl (0, 0, .inl (fun _ => 0))), (182, .inl (0, 4347, .inl (tl (upd (tl (upd (upd (fun _ => 0) 2 (-1)) 4 1) 40) 0 0) 40))), (181, .inr (9, (.int 0 :: .ref 182 :: .ref 183 :: .ref 184 :: .ref 185 :: .int 0 :: .int 0 :: .int 0 :: .ref 186 :: .int 0 :: .int 0 :: .int 0 :: .int (-1) :: .ref 187 :: .ref 188 :: .ref 189 :: .int 0 :: .ref 190 :: .ref 191 :: .ref 192 :: .ref 193 :: .ref 194 :: .int 0 :: .ref 195 :: .ref 196 :: .ref 197 :: .int 0 :: .ref 198 :: .ref 199 :: .ref 200 :: .ref 201 :: .ref 202 :: .ref 203 :: .int 0 :: .ref 204 :: .ref 205 :: .ref 206 :: .ref 207 :: .ref 208 :: .ref 209 :: .ref 210 :: .ref 211 :: .ref 212 :: .ref 213 :: .ref 214 :: .int 0 :: .ref 215 :: .ref 216 :: .int 0 :: .ref 217 :: .ref 218 :: .ref 219 :: .ref 220 :: .ref 221 :: .int 0 :: .int 0 :: .int 0 :: .int 0 :: .ref 222 :: .int 0 :: [])))] mv_L_111 rfl rfl h181 (c_X9_file_203 h181 h182) rfl dL_law_353 (Nat.le_of_ble_eq_true rfl) (Nat.le_of_ble_eq_true rfl) rfl (Nat.le_of_ble_eq_true rfl) (Nat.le_of_ble_eq_true rfl) (Nat.le_of_ble_eq_true rfl) rfl ?_
  refine aw_icmp_eq C 1629 dL_law_356 (by decide) (fun _ => ?_) (fun q => absurd (by decide) q)
  refine aw_fl [some (.retAddr b), none, none, none, some (.int 0), none, none, none] (by simp [SubL]) ?_
  exact al_tail C S0 (Nat.le_of_ble_eq_true rfl) (Nat.le_of_ble_eq_true rfl)

set_option maxHeartbeats 4000000 in
set_option maxRecDepth 100000 in
theorem lc_6_aa {X : GX} {p : Program} {l : Launch} {e : Env} {s : State} {m : MethodId} {below : List Frame} {meth : Method} {c : Code} {b : Nat} {xs : Nat → Int32} {f : AH} {n : Nat} {a1 : Int32} {a3 : Int32} {a4 : Int32} {a5 : Int32} (C : CC X p l room_1 s m #[Value.ref b] meth c RL cL_law 8 ret) (S0 : SC X b 6 xs s) (hl0 : l.stackTraces = false) (e1 : xs 1 = a1) (q1 : (-2147483648) ≤ a1.toInt ∧ a1.toInt ≤ (-2)) (e2 : xs 2 = 0) (e3 : xs 3 = a3) (e4 : xs 4 = a4) (e5 : xs 5 = a5) (h0 : f 0 = some (.inr (8, [.ref 1, .ref 3, .ref 8, .ref 13, .ref 18, .ref 59, .ref 115, .ref 171, .ref 178, .int 0, .int 0, .int 0, .int 0, .int (-1)]))) (h181 : f 181 = some (.inr (9, (.int 0 :: .ref 182 :: .ref 183 :: .ref 184 :: .ref 185 :: .int 0 :: .int 0 :: .int 0 :: .ref 186 :: .int 0 :: .int 0 :: .int 0 :: .int (-1) :: .ref 187 :: .ref 188 :: .ref 189 :: .int 0 :: .ref 190 :: .ref 191 :: .ref 192 :: .ref 193 :: .ref 194 :: .int 0 :: .ref 195 :: .ref 196 :: .ref 197 :: .int 0 :: .ref 198 :: .ref 199 :: .ref 200 :: .ref 201 :: .ref 202 :: .ref 203 :: .int 0 :: .ref 204 :: .ref 205 :: .ref 206 :: .ref 207 :: .ref 208 :: .ref 209 :: .ref 210 :: .ref 211 :: .ref 212 :: .ref 213 :: .ref 214 :: .int 0 :: .ref 215 :: .ref 216 :: .int 0 :: .ref 217 :: .ref 218 :: .ref 219 :: .ref 220 :: .ref 221 :: .int 0 :: .int 0 :: .int 0 :: .int 0 :: .ref 222 :: .int 0 :: [])))) : AW X p l e room_1 s m #[Value.ref b] below meth c 8 (lw_Z below #[Value.ref b] s) f n 1000 300000 361 [some (.retAddr b), some (.ref 0), some (.ref 181), some (.ref 223), some (.int 0), none, none, none] [] := by
  refine ao_start ?_
  obtain ⟨q1a, q1b⟩ := q1
  refine aw_ald_n C dL_law_361 rfl ?_
  refine aw_raw_n C dL_law_362 rfl ?_
  refine aw_iload C dL_law_363 rfl ?_
  refine aw_iconst C 1 dL_law_365 ki_1 ?_
  refine ae_iadd C 1 dL_law_366 (by decide) ?_
  refine aw_sld C S0 a1 (by unfold vp_in; decide) (by decide : _ = 1) e1 dL_law_367 ?_
  refine aw_raw_n C dL_law_368 rfl ?_
  refine aw_iload C dL_law_369 rfl ?_
  refine aw_iconst C 2 dL_law_371 ki_2 ?_
  refine ae_iadd C 2 dL_law_372 (by decide) ?_
  refine aw_sld C S0 0 (by unfold vp_in; decide) (by decide : _ = 2) e2 dL_law_373 ?_
  refine aw_if_eq C 381 dL_law_374 (by decide) (fun _ => ?_) (fun q => absurd (by decide) q)
  refine aw_iconst C 0 dL_law_381 ki_0 ?_
  refine aw_ald_n C dL_law_382 rfl ?_
  refine aw_callSW C [.ref 0, .int a1, .int 0, .ref 223] mw_L_112 (c_L_kind_205 hl0 ⟨by omega, by omega⟩ h0) rfl dL_law_383 (Nat.le_of_ble_eq_true rfl) (Nat.le_of_ble_eq_true rfl) rfl (Nat.le_of_ble_eq_true rfl) (Nat.le_of_ble_eq_true rfl) (Nat.le_of_ble_eq_true rfl) (fun v9 f9 n9 h9 => ?_)
  obtain ⟨rfl, rfl⟩ := h9
  refine ao_flat [] rfl ?_
  refine aw_istore C dL_law_386 (by decide) rfl ?_
  refine aw_nl [some (.retAddr b), some (.ref 0), some (.ref 181), some (.ref 223), some (.int 0), some (.int 1), none, none] rfl ?_
  refine aw_ald_n C dL_law_388 rfl ?_
  refine aw_raw_n C dL_law_389 rfl ?_
  refine aw_iload C dL_law_390 rfl ?_
  refine aw_iconst C 1 dL_law_392 ki_1 ?_
  refine ae_iadd C 1 dL_law_393 (by decide) ?_
  refine aw_sld C S0 a1 (by unfold vp_in; decide) (by decide : _ = 1) e1 dL_law_394 ?_
  refine aw_raw_n C dL_law_395 rfl ?_
  refine aw_iload C dL_law_396 rfl ?_
  refine aw_iconst C 2 dL_law_398 ki_2 ?_
  refine ae_iadd C 2 dL_law_399 (by decide) ?_
  refine aw_sld C S0 0 (by unfold vp_in; decide) (by decide : _ = 2) e2 dL_law_400 ?_
  refine aw_if_eq C 408 dL_law_401 (by decide) (fun _ => ?_) (fun q => absurd (by decide) q)
  refine aw_iconst C 0 dL_law_408 ki_0 ?_
  refine ao_callV C (ci := 9) (b := 181) [.int a1, .int 0] [(181, .inr (9, (.int 1 :: .ref 182 :: .ref 183 :: .ref 184 :: .ref 185 :: .int 0 :: .int 0 :: .int 0 :: .ref 186 :: .int 0 :: .int 0 :: .int 0 :: .int (-1) :: .ref 187 :: .ref 188 :: .ref 189 :: .int 0 :: .ref 190 :: .ref 191 :: .ref 192 :: .ref 193 :: .ref 194 :: .int 0 :: .ref 195 :: .ref 196 :: .ref 197 :: .int 0 :: .ref 198 :: .ref 199 :: .ref 200 :: .ref 201 :: .ref 202 :: .ref 203 :: .int 0 :: .ref 204 :: .ref 205 :: .ref 206 :: .ref 207 :: .ref 208 :: .ref 209 :: .ref 210 :: .ref 211 :: .ref 212 :: .ref 213 :: .ref 214 :: .int 0 :: .ref 215 :: .ref 216 :: .int 0 :: .ref 217 :: .ref 218 :: .ref 219 :: .ref 220 :: .ref 221 :: .int 0 :: .int 0 :: .int 0 :: .int 0 :: .ref 222 :: .int 0 :: [])))] mv_L_115 rfl rfl h181 (c_X9_kind_207 ⟨by omega, by omega⟩ h181) rfl dL_law_409 (Nat.le_of_ble_eq_true rfl) (Nat.le_of_ble_eq_true rfl) rfl (Nat.le_of_ble_eq_true rfl) (Nat.le_of_ble_eq_true rfl) (Nat.le_of_ble_eq_true rfl) rfl ?_
  refine aw_istore C dL_law_412 (by decide) rfl ?_
  refine aw_nl [some (.retAddr b), some (.ref 0), some (.ref 181), some (.ref 223), some (.int 0), some (.int 1), some (.int 0), none] rfl ?_
  refine aw_ald_n C dL_law_414 rfl ?_
  refine ao_callV C (ci := 9) (b := 181) [] [(181, .inr (9, (.int 1 :: .ref 182 :: .ref 183 :: .ref 184 :: .ref 185 :: .int 0 :: .int 0 :: .int 0 :: .ref 186 :: .int 0 :: .int 0 :: .int 0 :: .int (-1) :: .ref 187 :: .ref 188 :: .ref 189 :: .int 0 :: .ref 190 :: .ref 191 :: .ref 192 :: .ref 193 :: .ref 194 :: .int 0 :: .ref 195 :: .ref 196 :: .ref 197 :: .int 0 :: .ref 198 :: .ref 199 :: .ref 200 :: .ref 201 :: .ref 202 :: .ref 203 :: .int 0 :: .ref 204 :: .ref 205 :: .ref 206 :: .ref 207 :: .ref 208 :: .ref 209 :: .ref 210 :: .ref 211 :: .ref 212 :: .ref 213 :: .ref 214 :: .int 0 :: .ref 215 :: .ref 216 :: .int 0 :: .ref 217 :: .ref 218 :: .ref 219 :: .ref 220 :: .ref 221 :: .int 0 :: .int 0 :: .int 0 :: .int 0 :: .ref 222 :: .int 0 :: [])))] mv_L_97 rfl rfl rfl (c_X9_thrown_208 rfl) rfl dL_law_415 (Nat.le_of_ble_eq_true rfl) (Nat.le_of_ble_eq_true rfl) rfl (Nat.le_of_ble_eq_true rfl) (Nat.le_of_ble_eq_true rfl) (Nat.le_of_ble_eq_true rfl) rfl ?_
  refine aw_iload C dL_law_418 rfl ?_
  refine aw_icmp_eq C 425 dL_law_420 (by decide) (fun _ => ?_) (fun q => absurd (by decide) q)
  refine aw_iload C dL_law_425 rfl ?_
  refine aw_if_ne C 442 dL_law_427 (by decide) (fun _ => ?_) (fun q => absurd q (by decide))
  refine aw_goto C 1629 dL_law_442 (by decide) ?_
  refine aw_fl [some (.retAddr b), none, none, none, some (.int 0), none, none, none] (by simp [SubL]) ?_
  exact al_tail C S0 (Nat.le_of_ble_eq_true rfl) (Nat.le_of_ble_eq_true rfl)

set_option maxHeartbeats 4000000 in
set_option maxRecDepth 100000 in
theorem lc_6_ab {X : GX} {p : Program} {l : Launch} {e : Env} {s : State} {m : MethodId} {below : List Frame} {meth : Method} {c : Code} {b : Nat} {xs : Nat → Int32} {f : AH} {n : Nat} {a1 : Int32} {a2 : Int32} {a3 : Int32} {a4 : Int32} {a5 : Int32} (C : CC X p l room_1 s m #[Value.ref b] meth c RL cL_law 8 ret) (S0 : SC X b 6 xs s) (hl0 : l.stackTraces = false) (e1 : xs 1 = a1) (q1 : (-2147483648) ≤ a1.toInt ∧ a1.toInt ≤ (-2)) (e2 : xs 2 = a2) (z2 : ¬ a2 = 0) (e3 : xs 3 = a3) (e4 : xs 4 = a4) (e5 : xs 5 = a5) (h0 : f 0 = some (.inr (8, [.ref 1, .ref 3, .ref 8, .ref 13, .ref 18, .ref 59, .ref 115, .ref 171, .ref 178, .int 0, .int 0, .int 0, .int 0, .int (-1)]))) (h181 : f 181 = some (.inr (9, (.int 0 :: .ref 182 :: .ref 183 :: .ref 184 :: .ref 185 :: .int 0 :: .int 0 :: .int 0 :: .ref 186 :: .int 0 :: .int 0 :: .int 0 :: .int (-1) :: .ref 187 :: .ref 188 :: .ref 189 :: .int 0 :: .ref 190 :: .ref 191 :: .ref 192 :: .ref 193 :: .ref 194 :: .int 0 :: .ref 195 :: .ref 196 :: .ref 197 :: .int 0 :: .ref 198 :: .ref 199 :: .ref 200 :: .ref 201 :: .ref 202 :: .ref 203 :: .int 0 :: .ref 204 :: .ref 205 :: .ref 206 :: .ref 207 :: .ref 208 :: .ref 209 :: .ref 210 :: .ref 211 :: .ref 212 :: .ref 213 :: .ref 214 :: .int 0 :: .ref 215 :: .ref 216 :: .int 0 :: .ref 217 :: .ref 218 :: .ref 219 :: .ref 220 :: .ref 221 :: .int 0 :: .int 0 :: .int 0 :: .int 0 :: .ref 222 :: .int 0 :: [])))) : AW X p l e room_1 s m #[Value.ref b] below meth c 8 (lw_Z below #[Value.ref b] s) f n 1000 300000 361 [some (.retAddr b), some (.ref 0), some (.ref 181), some (.ref 223), some (.int 0), none, none, none] [] := by
  refine ao_start ?_
  obtain ⟨q1a, q1b⟩ := q1
  refine aw_ald_n C dL_law_361 rfl ?_
  refine aw_raw_n C dL_law_362 rfl ?_
  refine aw_iload C dL_law_363 rfl ?_
  refine aw_iconst C 1 dL_law_365 ki_1 ?_
  refine ae_iadd C 1 dL_law_366 (by decide) ?_
  refine aw_sld C S0 a1 (by unfold vp_in; decide) (by decide : _ = 1) e1 dL_law_367 ?_
  refine aw_raw_n C dL_law_368 rfl ?_
  refine aw_iload C dL_law_369 rfl ?_
  refine aw_iconst C 2 dL_law_371 ki_2 ?_
  refine ae_iadd C 2 dL_law_372 (by decide) ?_
  refine aw_sld C S0 a2 (by unfold vp_in; decide) (by decide : _ = 2) e2 dL_law_373 ?_
  refine aw_if_eq C 381 dL_law_374 (by decide) (fun q => absurd q z2) (fun _ => ?_)
  refine aw_iconst C 1 dL_law_377 ki_1 ?_
  refine aw_goto C 382 dL_law_378 (by decide) ?_
  refine aw_ald_n C dL_law_382 rfl ?_
  refine aw_callSW C [.ref 0, .int a1, .int 1, .ref 223] mw_L_112 (c_L_kind_210 hl0 ⟨by omega, by omega⟩ h0) rfl dL_law_383 (Nat.le_of_ble_eq_true rfl) (Nat.le_of_ble_eq_true rfl) rfl (Nat.le_of_ble_eq_true rfl) (Nat.le_of_ble_eq_true rfl) (Nat.le_of_ble_eq_true rfl) (fun v9 f9 n9 h9 => ?_)
  obtain ⟨rfl, rfl⟩ := h9
  refine ao_flat [] rfl ?_
  refine aw_istore C dL_law_386 (by decide) rfl ?_
  refine aw_nl [some (.retAddr b), some (.ref 0), some (.ref 181), some (.ref 223), some (.int 0), some (.int 1), none, none] rfl ?_
  refine aw_ald_n C dL_law_388 rfl ?_
  refine aw_raw_n C dL_law_389 rfl ?_
  refine aw_iload C dL_law_390 rfl ?_
  refine aw_iconst C 1 dL_law_392 ki_1 ?_
  refine ae_iadd C 1 dL_law_393 (by decide) ?_
  refine aw_sld C S0 a1 (by unfold vp_in; decide) (by decide : _ = 1) e1 dL_law_394 ?_
  refine aw_raw_n C dL_law_395 rfl ?_
  refine aw_iload C dL_law_396 rfl ?_
  refine aw_iconst C 2 dL_law_398 ki_2 ?_
  refine ae_iadd C 2 dL_law_399 (by decide) ?_
  refine aw_sld C S0 a2 (by unfold vp_in; decide) (by decide : _ = 2) e2 dL_law_400 ?_
  refine aw_if_eq C 408 dL_law_401 (by decide) (fun q => absurd q z2) (fun _ => ?_)
  refine aw_iconst C 1 dL_law_404 ki_1 ?_
  refine aw_goto C 409 dL_law_405 (by decide) ?_
  refine ao_callV C (ci := 9) (b := 181) [.int a1, .int 1] [(181, .inr (9, (.int 1 :: .ref 182 :: .ref 183 :: .ref 184 :: .ref 185 :: .int 0 :: .int 0 :: .int 0 :: .ref 186 :: .int 0 :: .int 0 :: .int 0 :: .int (-1) :: .ref 187 :: .ref 188 :: .ref 189 :: .int 0 :: .ref 190 :: .ref 191 :: .ref 192 :: .ref 193 :: .ref 194 :: .int 0 :: .ref 195 :: .ref 196 :: .ref 197 :: .int 0 :: .ref 198 :: .ref 199 :: .ref 200 :: .ref 201 :: .ref 202 :: .ref 203 :: .int 0 :: .ref 204 :: .ref 205 :: .ref 206 :: .ref 207 :: .ref 208 :: .ref 209 :: .ref 210 :: .ref 211 :: .ref 212 :: .ref 213 :: .ref 214 :: .int 0 :: .ref 215 :: .ref 216 :: .int 0 :: .ref 217 :: .ref 218 :: .ref 219 :: .ref 220 :: .ref 221 :: .int 0 :: .int 0 :: .int 0 :: .int 0 :: .ref 222 :: .int 0 :: [])))] mv_L_115 rfl rfl h181 (c_X9_kind_212 ⟨by omega, by omega⟩ h181) rfl dL_law_409 (Nat.le_of_ble_eq_true rfl) (Nat.le_of_ble_eq_true rfl) rfl (Nat.le_of_ble_eq_true rfl) (Nat.le_of_ble_eq_true rfl) (Nat.le_of_ble_eq_true rfl) rfl ?_
  refine aw_istore C dL_law_412 (by decide) rfl ?_
  refine aw_nl [some (.retAddr b), some (.ref 0), some (.ref 181), some (.ref 223), some (.int 0), some (.int 1), some (.int 0), none] rfl ?_
  refine aw_ald_n C dL_law_414 rfl ?_
  refine ao_callV C (ci := 9) (b := 181) [] [(181, .inr (9, (.int 1 :: .ref 182 :: .ref 183 :: .ref 184 :: .ref 185 :: .int 0 :: .int 0 :: .int 0 :: .ref 186 :: .int 0 :: .int 0 :: .int 0 :: .int (-1) :: .ref 187 :: .ref 188 :: .ref 189 :: .int 0 :: .ref 190 :: .ref 191 :: .ref 192 :: .ref 193 :: .ref 194 :: .int 0 :: .ref 195 :: .ref 196 :: .ref 197 :: .int 0 :: .ref 198 :: .ref 199 :: .ref 200 :: .ref 201 :: .ref 202 :: .ref 203 :: .int 0 :: .ref 204 :: .ref 205 :: .ref 206 :: .ref 207 :: .ref 208 :: .ref 209 :: .ref 210 :: .ref 211 :: .ref 212 :: .ref 213 :: .ref 214 :: .int 0 :: .ref 215 :: .ref 216 :: .int 0 :: .ref 217 :: .ref 218 :: .ref 219 :: .ref 220 :: .ref 221 :: .int 0 :: .int 0 :: .int 0 :: .int 0 :: .ref 222 :: .int 0 :: [])))] mv_L_97 rfl rfl rfl (c_X9_thrown_208 rfl) rfl dL_law_415 (Nat.le_of_ble_eq_true rfl) (Nat.le_of_ble_eq_true rfl) rfl (Nat.le_of_ble_eq_true rfl) (Nat.le_of_ble_eq_true rfl) (Nat.le_of_ble_eq_true rfl) rfl ?_
  refine aw_iload C dL_law_418 rfl ?_
  refine aw_icmp_eq C 425 dL_law_420 (by decide) (fun _ => ?_) (fun q => absurd (by decide) q)
  refine aw_iload C dL_law_425 rfl ?_
  refine aw_if_ne C 442 dL_law_427 (by decide) (fun _ => ?_) (fun q => absurd q (by decide))
  refine aw_goto C 1629 dL_law_442 (by decide) ?_
  refine aw_fl [some (.retAddr b), none, none, none, some (.int 0), none, none, none] (by simp [SubL]) ?_
  exact al_tail C S0 (Nat.le_of_ble_eq_true rfl) (Nat.le_of_ble_eq_true rfl)

set_option maxHeartbeats 4000000 in
set_option maxRecDepth 100000 in
theorem lc_6_ba {X : GX} {p : Program} {l : Launch} {e : Env} {s : State} {m : MethodId} {below : List Frame} {meth : Method} {c : Code} {b : Nat} {xs : Nat → Int32} {f : AH} {n : Nat} {a3 : Int32} {a4 : Int32} {a5 : Int32} (C : CC X p l room_1 s m #[Value.ref b] meth c RL cL_law 8 ret) (S0 : SC X b 6 xs s) (hl0 : l.stackTraces = false) (e1 : xs 1 = (-1)) (e2 : xs 2 = 0) (e3 : xs 3 = a3) (e4 : xs 4 = a4) (e5 : xs 5 = a5) (h0 : f 0 = some (.inr (8, [.ref 1, .ref 3, .ref 8, .ref 13, .ref 18, .ref 59, .ref 115, .ref 171, .ref 178, .int 0, .int 0, .int 0, .int 0, .int (-1)]))) (h181 : f 181 = some (.inr (9, (.int 0 :: .ref 182 :: .ref 183 :: .ref 184 :: .ref 185 :: .int 0 :: .int 0 :: .int 0 :: .ref 186 :: .int 0 :: .int 0 :: .int 0 :: .int (-1) :: .ref 187 :: .ref 188 :: .ref 189 :: .int 0 :: .ref 190 :: .ref 191 :: .ref 192 :: .ref 193 :: .ref 194 :: .int 0 :: .ref 195 :: .ref 196 :: .ref 197 :: .int 0 :: .ref 198 :: .ref 199 :: .ref 200 :: .ref 201 :: .ref 202 :: .ref 203 :: .int 0 :: .ref 204 :: .ref 205 :: .ref 206 :: .ref 207 :: .ref 208 :: .ref 209 :: .ref 210 :: .ref 211 :: .ref 212 :: .ref 213 :: .ref 214 :: .int 0 :: .ref 215 :: .ref 216 :: .int 0 :: .ref 217 :: .ref 218 :: .ref 219 :: .ref 220 :: .ref 221 :: .int 0 :: .int 0 :: .int 0 :: .int 0 :: .ref 222 :: .int 0 :: [])))) : AW X p l e room_1 s m #[Value.ref b] below meth c 8 (lw_Z below #[Value.ref b] s) f n 1000 300000 361 [some (.retAddr b), some (.ref 0), some (.ref 181), some (.ref 223), some (.int 0), none, none, none] [] := by
  refine ao_start ?_
  refine aw_ald_n C dL_law_361 rfl ?_
  refine aw_raw_n C dL_law_362 rfl ?_
  refine aw_iload C dL_law_363 rfl ?_
  refine aw_iconst C 1 dL_law_365 ki_1 ?_
  refine ae_iadd C 1 dL_law_366 (by decide) ?_
  refine aw_sld C S0 (-1) (by unfold vp_in; decide) (by decide : _ = 1) e1 dL_law_367 ?_
  refine aw_raw_n C dL_law_368 rfl ?_
  refine aw_iload C dL_law_369 rfl ?_
  refine aw_iconst C 2 dL_law_371 ki_2 ?_
  refine ae_iadd C 2 dL_law_372 (by decide) ?_
  refine aw_sld C S0 0 (by unfold vp_in; decide) (by decide : _ = 2) e2 dL_law_373 ?_
  refine aw_if_eq C 381 dL_law_374 (by decide) (fun _ => ?_) (fun q => absurd (by decide) q)
  refine aw_iconst C 0 dL_law_381 ki_0 ?_
  refine aw_ald_n C dL_law_382 rfl ?_
  refine aw_callSW C [.ref 0, .int (-1), .int 0, .ref 223] mw_L_112 (c_L_kind_214 hl0 h0) rfl dL_law_383 (Nat.le_of_ble_eq_true rfl) (Nat.le_of_ble_eq_true rfl) rfl (Nat.le_of_ble_eq_true rfl) (Nat.le_of_ble_eq_true rfl) (Nat.le_of_ble_eq_true rfl) (fun v9 f9 n9 h9 => ?_)
  obtain ⟨rfl, rfl⟩ := h9
  refine ao_flat [] rfl ?_
  refine aw_istore C dL_law_386 (by decide) rfl ?_
  refine aw_nl [some (.retAddr b), some (.ref 0), some (.ref 181), some (.ref 223), some (.int 0), some (.int 1), none, none] rfl ?_
  refine aw_ald_n C dL_law_388 rfl ?_
  refine aw_raw_n C dL_law_389 rfl ?_
  refine aw_iload C dL_law_390 rfl ?_
  refine aw_iconst C 1 dL_law_392 ki_1 ?_
  refine ae_iadd C 1 dL_law_393 (by decide) ?_
  refine aw_sld C S0 (-1) (by unfold vp_in; decide) (by decide : _ = 1) e1 dL_law_394 ?_
  refine aw_raw_n C dL_law_395 rfl ?_
  refine aw_iload C dL_law_396 rfl ?_
  refine aw_iconst C 2 dL_law_398 ki_2 ?_
  refine ae_iadd C 2 dL_law_399 (by decide) ?_
  refine aw_sld C S0 0 (by unfold vp_in; decide) (by decide : _ = 2) e2 dL_law_400 ?_
  refine aw_if_eq C 408 dL_law_401 (by decide) (fun _ => ?_) (fun q => absurd (by decide) q)
  refine aw_iconst C 0 dL_law_408 ki_0 ?_
  refine ao_callV C (ci := 9) (b := 181) [.int (-1), .int 0] [(181, .inr (9, (.int 1 :: .ref 182 :: .ref 183 :: .ref 184 :: .ref 185 :: .int 0 :: .int 0 :: .int 0 :: .ref 186 :: .int 0 :: .int 0 :: .int 0 :: .int (-1) :: .ref 187 :: .ref 188 :: .ref 189 :: .int 0 :: .ref 190 :: .ref 191 :: .ref 192 :: .ref 193 :: .ref 194 :: .int 0 :: .ref 195 :: .ref 196 :: .ref 197 :: .int 0 :: .ref 198 :: .ref 199 :: .ref 200 :: .ref 201 :: .ref 202 :: .ref 203 :: .int 0 :: .ref 204 :: .ref 205 :: .ref 206 :: .ref 207 :: .ref 208 :: .ref 209 :: .ref 210 :: .ref 211 :: .ref 212 :: .ref 213 :: .ref 214 :: .int 0 :: .ref 215 :: .ref 216 :: .int 0 :: .ref 217 :: .ref 218 :: .ref 219 :: .ref 220 :: .ref 221 :: .int 0 :: .int 0 :: .int 0 :: .int 0 :: .ref 222 :: .int 0 :: [])))] mv_L_115 rfl rfl h181 (c_X9_kind_216 h181) rfl dL_law_409 (Nat.le_of_ble_eq_true rfl) (Nat.le_of_ble_eq_true rfl) rfl (Nat.le_of_ble_eq_true rfl) (Nat.le_of_ble_eq_true rfl) (Nat.le_of_ble_eq_true rfl) rfl ?_
  refine aw_istore C dL_law_412 (by decide) rfl ?_
  refine aw_nl [some (.retAddr b), some (.ref 0), some (.ref 181), some (.ref 223), some (.int 0), some (.int 1), some (.int 0), none] rfl ?_
  refine aw_ald_n C dL_law_414 rfl ?_
  refine ao_callV C (ci := 9) (b := 181) [] [(181, .inr (9, (.int 1 :: .ref 182 :: .ref 183 :: .ref 184 :: .ref 185 :: .int 0 :: .int 0 :: .int 0 :: .ref 186 :: .int 0 :: .int 0 :: .int 0 :: .int (-1) :: .ref 187 :: .ref 188 :: .ref 189 :: .int 0 :: .ref 190 :: .ref 191 :: .ref 192 :: .ref 193 :: .ref 194 :: .int 0 :: .ref 195 :: .ref 196 :: .ref 197 :: .int 0 :: .ref 198 :: .ref 199 :: .ref 200 :: .ref 201 :: .ref 202 :: .ref 203 :: .int 0 :: .ref 204 :: .ref 205 :: .ref 206 :: .ref 207 :: .ref 208 :: .ref 209 :: .ref 210 :: .ref 211 :: .ref 212 :: .ref 213 :: .ref 214 :: .int 0 :: .ref 215 :: .ref 216 :: .int 0 :: .ref 217 :: .ref 218 :: .ref 219 :: .ref 220 :: .ref 221 :: .int 0 :: .int 0 :: .int 0 :: .int 0 :: .ref 222 :: .int 0 :: [])))] mv_L_97 rfl rfl rfl (c_X9_thrown_208 rfl) rfl dL_law_415 (Nat.le_of_ble_eq_true rfl) (Nat.le_of_ble_eq_true rfl) rfl (Nat.le_of_ble_eq_true rfl) (Nat.le_of_ble_eq_true rfl) (Nat.le_of_ble_eq_true rfl) rfl ?_
  refine aw_iload C dL_law_418 rfl ?_
  refine aw_icmp_eq C 425 dL_law_420 (by decide) (fun _ => ?_) (fun q => absurd (by decide) q)
  refine aw_iload C dL_law_425 rfl ?_
  refine aw_if_ne C 442 dL_law_427 (by decide) (fun _ => ?_) (fun q => absurd q (by decide))
  refine aw_goto C 1629 dL_law_442 (by decide) ?_
  refine aw_fl [some (.retAddr b), none, none, none, some (.int 0), none, none, none] (by simp [SubL]) ?_
  exact al_tail C S0 (Nat.le_of_ble_eq_true rfl) (Nat.le_of_ble_eq_true rfl)

set_option maxHeartbeats 4000000 in
set_option maxRecDepth 100000 in
theorem lc_6_bb {X : GX} {p : Program} {l : Launch} {e : Env} {s : State} {m : MethodId} {below : List Frame} {meth : Method} {c : Code} {b : Nat} {xs : Nat → Int32} {f : AH} {n : Nat} {a2 : Int32} {a3 : Int32} {a4 : Int32} {a5 : Int32} {g74 : Nat → Option Nat} (C : CC X p l room_1 s m #[Value.ref b] meth c RL cL_law 8 ret) (S0 : SC X b 6 xs s) (hl0 : l.stackTraces = false) (e1 : xs 1 = (-1)) (e2 : xs 2 = a2) (z2 : ¬ a2 = 0) (e3 : xs 3 = a3) (e4 : xs 4 = a4) (e5 : xs 5 = a5) (h0 : f 0 = some (.inr (8, [.ref 1, .ref 3, .ref 8, .ref 13, .ref 18, .ref 59, .ref 115, .ref 171, .ref 178, .int 0, .int 0, .int 0, .int 0, .int (-1)]))) (h3 : f 3 = some (.inr (7, [.ref 4, .int 0, .int (-1), .int 0, .int 1, .int 0, .null, .int 0, .ref 6, .ref 7]))) (h8 : f 8 = some (.inr (7, [.ref 9, .int 0, .int (-1), .int 0, .int 1, .int 0, .null, .int 0, .ref 11, .ref 12]))) (h11 : f 11 = some (.inl (2, 4, .inr (.inr (fun _ => none))))) (h6 : f 6 = some (.inl (2, 4, .inr (.inr (fun _ => none))))) (h12 : f 12 = some (.inl (2, 40, .inr (.inr (fun _ => none))))) (h7 : f 7 = some (.inl (2, 40, .inr (.inr (fun _ => none))))) (h59 : f 59 = some (.inr (1, [.ref 60, .ref 62, .ref 74, .int 0, .ref 68, .ref 71, .ref 64, .ref 66]))) (h60 : f 60 = some (.inr (5, [.ref 61, .int 0]))) (h62 : f 62 = some (.inr (5, [.ref 63, .int 0]))) (h68 : f 68 = some (.inr (6, [.ref 69, .int 0, .int 0, .int 0, .int 0, .int 0, .int 0, .int 0, .int 0, .int 0]))) (h74 : f 74 = some (.inl (1, 40, .inr (.inr g74)))) (h4 : f 4 = some (.inr (5, [.ref 5, .int 0]))) (h171 : f 171 = some (.inr (0, [.ref 172, .ref 174, .ref 176, .int 0]))) (h172 : f 172 = some (.inr (5, [.ref 173, .int 0]))) (h18 : f 18 = some (.inl (3, 8, .inr (.inr (va_up (va_up (va_up (va_up (va_up (va_up (va_up (va_up (fun _ => none) 0 (some 19)) 1 (some 24)) 2 (some 29)) 3 (some 34)) 4 (some 39)) 5 (some 44)) 6 (some 49)) 7 (some 54)))))) (h19 : f 19 = some (.inr (7, [.ref 20, .int 0, .int (-1), .int 0, .int 1, .int 0, .null, .int 0, .ref 22, .ref 23]))) (h22 : f 22 = some (.inl (2, 4, .inr (.inr (fun _ => none))))) (h23 : f 23 = some (.inl (2, 40, .inr (.inr (fun _ => none))))) (h223 : f 223 = some (.inl (4, 1, .inr (.inl (fun _ => 0))))) (h181 : f 181 = some (.inr (9, (.int 0 :: .ref 182 :: .ref 183 :: .ref 184 :: .ref 185 :: .int 0 :: .int 0 :: .int 0 :: .ref 186 :: .int 0 :: .int 0 :: .int 0 :: .int (-1) :: .ref 187 :: .ref 188 :: .ref 189 :: .int 0 :: .ref 190 :: .ref 191 :: .ref 192 :: .ref 193 :: .ref 194 :: .int 0 :: .ref 195 :: .ref 196 :: .ref 197 :: .int 0 :: .ref 198 :: .ref 199 :: .ref 200 :: .ref 201 :: .ref 202 :: .ref 203 :: .int 0 :: .ref 204 :: .ref 205 :: .ref 206 :: .ref 207 :: .ref 208 :: .ref 209 :: .ref 210 :: .ref 211 :: .ref 212 :: .ref 213 :: .ref 214 :: .int 0 :: .ref 215 :: .ref 216 :: .int 0 :: .ref 217 :: .ref 218 :: .ref 219 :: .ref 220 :: .ref 221 :: .int 0 :: .int 0 :: .int 0 :: .int 0 :: .ref 222 :: .int 0 :: [])))) (h183 : f 183 = some (.inl (0, 4347, .inl (fun _ => 0)))) (h182 : f 182 = some (.inl (0, 4347, .inl (tl (upd (upd (fun _ => 0) 2 (-1)) 4 1) 40)))) (h185 : f 185 = some (.inl (0, 34776, .inl (fun _ => 0)))) : AW X p l e room_1 s m #[Value.ref b] below meth c 8 (lw_Z below #[Value.ref b] s) f n 1000 300000 361 [some (.retAddr b), some (.ref 0), some (.ref 181), some (.ref 223), some (.int 0), none, none, none] [] := by
  refine ao_start ?_
  refine aw_ald_n C dL_law_361 rfl ?_
  refine aw_raw_n C dL_law_362 rfl ?_
  refine aw_iload C dL_law_363 rfl ?_
  refine aw_iconst C 1 dL_law_365 ki_1 ?_
  refine ae_iadd C 1 dL_law_366 (by decide) ?_
  refine aw_sld C S0 (-1) (by unfold vp_in; decide) (by decide : _ = 1) e1 dL_law_367 ?_
  refine aw_raw_n C dL_law_368 rfl ?_
  refine aw_iload C dL_law_369 rfl ?_
  refine aw_iconst C 2 dL_law_371 ki_2 ?_
  refine ae_iadd C 2 dL_law_372 (by decide) ?_
  refine aw_sld C S0 a2 (by unfold vp_in; decide) (by decide : _ = 2) e2 dL_law_373 ?_
  refine aw_if_eq C 381 dL_law_374 (by decide) (fun q => absurd q z2) (fun _ => ?_)
  refine aw_iconst C 1 dL_law_377 ki_1 ?_
  refine aw_goto C 382 dL_law_378 (by decide) ?_
  refine aw_ald_n C dL_law_382 rfl ?_
  refine aw_callSW C [.ref 0, .int (-1), .int 1, .ref 223] mw_L_112 (c_L_kind_230 h0 h3 h8 h11 h6 h12 h7 h59 h60 h62 h68 h74 h4 h171 h172 h18 h19 h22 h23 h223) rfl dL_law_383 (Nat.le_of_ble_eq_true rfl) (Nat.le_of_ble_eq_true rfl) rfl (Nat.le_of_ble_eq_true rfl) (Nat.le_of_ble_eq_true rfl) (Nat.le_of_ble_eq_true rfl) (fun v9 f9 n9 h9 => ?_)
  obtain ⟨rfl, rfl, rfl⟩ := h9
  refine ao_flat [(223, .inl (4, 1, .inr (.inl (vp_updL (fun _ => 0) 0 0)))), (8, .inr (7, [.ref 4, .int 0, .int (-1), .int 0, .int 1, .int 0, .null, .int 0, .ref 11, .ref 12])), (68, .inr (6, [.ref 4, .int 0, .int 0, .int 0, .int 0, .int 0, .int 0, .int 0, .int 0, .int 0])), (59, .inr (1, [.ref 60, .ref 62, .ref 74, .int 0, .ref 68, .ref 71, .ref 64, .ref 66])), (3, .inr (7, [.ref 4, .int 0, .int (-1), .int 0, .int 1, .int 0, .null, .int 0, .ref 6, .ref 7])), (0, .inr (8, [.ref 1, .ref 3, .ref 8, .ref 13, .ref 18, .ref 59, .ref 115, .ref 171, .ref 178, .int 0, .int 0, .int 1, .int 0, .int (-1)])), (19, .inr (7, [.ref 4, .int 0, .int (-1), .int 0, .int 1, .int 0, .null, .int 0, .ref 22, .ref 23]))] rfl ?_
  refine aw_istore C dL_law_386 (by decide) rfl ?_
  refine aw_nl [some (.retAddr b), some (.ref 0), some (.ref 181), some (.ref 223), some (.int 0), some (.int 0), none, none] rfl ?_
  refine aw_ald_n C dL_law_388 rfl ?_
  refine aw_raw_n C dL_law_389 rfl ?_
  refine aw_iload C dL_law_390 rfl ?_
  refine aw_iconst C 1 dL_law_392 ki_1 ?_
  refine ae_iadd C 1 dL_law_393 (by decide) ?_
  refine aw_sld C S0 (-1) (by unfold vp_in; decide) (by decide : _ = 1) e1 dL_law_394 ?_
  refine aw_raw_n C dL_law_395 rfl ?_
  refine aw_iload C dL_law_396 rfl ?_
  refine aw_iconst C 2 dL_law_398 ki_2 ?_
  refine ae_iadd C 2 dL_law_399 (by decide) ?_
  refine aw_sld C S0 a2 (by unfold vp_in; decide) (by decide : _ = 2) e2 dL_law_400 ?_
  refine aw_if_eq C 408 dL_law_401 (by decide) (fun q => absurd q z2) (fun _ => ?_)
  refine aw_iconst C 1 dL_law_404 ki_1 ?_
  refine aw_goto C 409 dL_law_405 (by decide) ?_
  refine ao_callV C (ci := 9) (b := 181) [.int (-1), .int 1] [(223, .inl (4, 1, .inr (.inl (vp_updL (fun _ => 0) 0 0)))), (8, .inr (7, [.ref 4, .int 0, .int (-1), .int 0, .int 1, .int 0, .null, .int 0, .ref 11, .ref 12])), (68, .inr (6, [.ref 4, .int 0, .int 0, .int 0, .int 0, .int 0, .int 0, .int 0, .int 0, .int 0])), (59, .inr (1, [.ref 60, .ref 62, .ref 74, .int 0, .ref 68, .ref 71, .ref 64, .ref 66])), (3, .inr (7, [.ref 4, .int 0, .int (-1), .int 0, .int 1, .int 0, .null, .int 0, .ref 6, .ref 7])), (0, .inr (8, [.ref 1, .ref 3, .ref 8, .ref 13, .ref 18, .ref 59, .ref 115, .ref 171, .ref 178, .int 0, .int 0, .int 1, .int 0, .int (-1)])), (19, .inr (7, [.ref 4, .int 0, .int (-1), .int 0, .int 1, .int 0, .null, .int 0, .ref 22, .ref 23])), (185, .inl (0, 34776, .inl (cpy (cpy (tl (upd (upd (fun _ => 0) 2 (-1)) 4 1) 40) (fun _ => 0) 4347) (fun _ => 0) 4347))), (182, .inl (0, 4347, .inl (tl (upd (tl (upd (upd (fun _ => 0) 2 (-1)) 4 1) 40) 2 (-1)) 40))), (183, .inl (0, 4347, .inl (cpy (tl (upd (upd (fun _ => 0) 2 (-1)) 4 1) 40) (fun _ => 0) 4347))), (181, .inr (9, (.int 0 :: .ref 182 :: .ref 183 :: .ref 184 :: .ref 185 :: .int 1 :: .int 0 :: .int 0 :: .ref 186 :: .int 0 :: .int 0 :: .int 0 :: .int (-1) :: .ref 187 :: .ref 188 :: .ref 189 :: .int 0 :: .ref 190 :: .ref 191 :: .ref 192 :: .ref 193 :: .ref 194 :: .int 0 :: .ref 195 :: .ref 196 :: .ref 197 :: .int 0 :: .ref 198 :: .ref 199 :: .ref 200 :: .ref 201 :: .ref 202 :: .ref 203 :: .int 0 :: .ref 204 :: .ref 205 :: .ref 206 :: .ref 207 :: .ref 208 :: .ref 209 :: .ref 210 :: .ref 211 :: .ref 212 :: .ref 213 :: .ref 214 :: .int 0 :: .ref 215 :: .ref 216 :: .int 0 :: .ref 217 :: .ref 218 :: .ref 219 :: .ref 220 :: .ref 221 :: .int 0 :: .int 0 :: .int 0 :: .int 0 :: .ref 222 :: .int 0 :: [])))] mv_L_115 rfl rfl h181 (c_X9_kind_238 h181 h183 h182 h185) rfl dL_law_409 (Nat.le_of_ble_eq_true rfl) (Nat.le_of_ble_eq_true rfl) rfl (Nat.le_of_ble_eq_true rfl) (Nat.le_of_ble_eq_true rfl) (Nat.le_of_ble_eq_true rfl) rfl ?_
  refine aw_istore C dL_law_412 (by decide) rfl ?_
  refine aw_nl [some (.retAddr b), some (.ref 0), some (.ref 181), some (.ref 223), some (.int 0), some (.int 0), some (.int 0), none] rfl ?_
  refine aw_ald_n C dL_law_414 rfl ?_
  refine ao_callV C (ci := 9) (b := 181) [] [(223, .inl (4, 1, .inr (.inl (vp_updL (fun _ => 0) 0 0)))), (8, .inr (7, [.ref 4, .int 0, .int (-1), .int 0, .int 1, .int 0, .null, .int 0, .ref 11, .ref 12])), (68, .inr (6, [.ref 4, .int 0, .int 0, .int 0, .int 0, .int 0, .int 0, .int 0, .int 0, .int 0])), (59, .inr (1, [.ref 60, .ref 62, .ref 74, .int 0, .ref 68, .ref 71, .ref 64, .ref 66])), (3, .inr (7, [.ref 4, .int 0, .int (-1), .int 0, .int 1, .int 0, .null, .int 0, .ref 6, .ref 7])), (0, .inr (8, [.ref 1, .ref 3, .ref 8, .ref 13, .ref 18, .ref 59, .ref 115, .ref 171, .ref 178, .int 0, .int 0, .int 1, .int 0, .int (-1)])), (19, .inr (7, [.ref 4, .int 0, .int (-1), .int 0, .int 1, .int 0, .null, .int 0, .ref 22, .ref 23])), (185, .inl (0, 34776, .inl (cpy (cpy (tl (upd (upd (fun _ => 0) 2 (-1)) 4 1) 40) (fun _ => 0) 4347) (fun _ => 0) 4347))), (182, .inl (0, 4347, .inl (tl (upd (tl (upd (upd (fun _ => 0) 2 (-1)) 4 1) 40) 2 (-1)) 40))), (183, .inl (0, 4347, .inl (cpy (tl (upd (upd (fun _ => 0) 2 (-1)) 4 1) 40) (fun _ => 0) 4347))), (181, .inr (9, (.int 0 :: .ref 182 :: .ref 183 :: .ref 184 :: .ref 185 :: .int 1 :: .int 0 :: .int 0 :: .ref 186 :: .int 0 :: .int 0 :: .int 0 :: .int (-1) :: .ref 187 :: .ref 188 :: .ref 189 :: .int 0 :: .ref 190 :: .ref 191 :: .ref 192 :: .ref 193 :: .ref 194 :: .int 0 :: .ref 195 :: .ref 196 :: .ref 197 :: .int 0 :: .ref 198 :: .ref 199 :: .ref 200 :: .ref 201 :: .ref 202 :: .ref 203 :: .int 0 :: .ref 204 :: .ref 205 :: .ref 206 :: .ref 207 :: .ref 208 :: .ref 209 :: .ref 210 :: .ref 211 :: .ref 212 :: .ref 213 :: .ref 214 :: .int 0 :: .ref 215 :: .ref 216 :: .int 0 :: .ref 217 :: .ref 218 :: .ref 219 :: .ref 220 :: .ref 221 :: .int 0 :: .int 0 :: .int 0 :: .int 0 :: .ref 222 :: .int 0 :: [])))] mv_L_97 rfl rfl rfl (c_X9_thrown_239 rfl) rfl dL_law_415 (Nat.le_of_ble_eq_true rfl) (Nat.le_of_ble_eq_true rfl) rfl (Nat.le_of_ble_eq_true rfl) (Nat.le_of_ble_eq_true rfl) (Nat.le_of_ble_eq_true rfl) rfl ?_
  refine aw_iload C dL_law_418 rfl ?_
  refine aw_icmp_eq C 425 dL_law_420 (by decide) (fun _ => ?_) (fun q => absurd (by decide) q)
  refine aw_iload C dL_law_425 rfl ?_
  refine aw_if_ne C 442 dL_law_427 (by decide) (fun q => absurd (by decide) q) (fun _ => ?_)
  refine aw_ald_n C dL_law_430 rfl ?_
  refine aw_iconst C 0 dL_law_431 ki_0 ?_
  refine ao_lald C 0 rfl (by unfold vp_in; decide) (by decide : _ = 0) rfl dL_law_432 ?_
  refine aw_iload C dL_law_433 rfl ?_
  refine ae_i2l C 0 dL_law_435 (by decide) ?_
  refine ae_lcmp C 0 dL_law_436 (by decide) ?_
  refine aw_if_eq C 442 dL_law_437 (by decide) (fun _ => ?_) (fun q => absurd (by decide) q)
  refine aw_goto C 1629 dL_law_442 (by decide) ?_
  refine aw_fl [some (.retAddr b), none, none, none, some (.int 0), none, none, none] (by simp [SubL]) ?_
  exact al_tail C S0 (Nat.le_of_ble_eq_true rfl) (Nat.le_of_ble_eq_true rfl)

set_option maxHeartbeats 4000000 in
set_option maxRecDepth 100000 in
theorem lc_6_ca {X : GX} {p : Program} {l : Launch} {e : Env} {s : State} {m : MethodId} {below : List Frame} {meth : Method} {c : Code} {b : Nat} {xs : Nat → Int32} {f : AH} {n : Nat} {a3 : Int32} {a4 : Int32} {a5 : Int32} {g74 : Nat → Option Nat} (C : CC X p l room_1 s m #[Value.ref b] meth c RL cL_law 8 ret) (S0 : SC X b 6 xs s) (hl0 : l.stackTraces = false) (e1 : xs 1 = 0) (e2 : xs 2 = 0) (e3 : xs 3 = a3) (e4 : xs 4 = a4) (e5 : xs 5 = a5) (h0 : f 0 = some (.inr (8, [.ref 1, .ref 3, .ref 8, .ref 13, .ref 18, .ref 59, .ref 115, .ref 171, .ref 178, .int 0, .int 0, .int 0, .int 0, .int (-1)]))) (h3 : f 3 = some (.inr (7, [.ref 4, .int 0, .int (-1), .int 0, .int 1, .int 0, .null, .int 0, .ref 6, .ref 7]))) (h8 : f 8 = some (.inr (7, [.ref 9, .int 0, .int (-1), .int 0, .int 1, .int 0, .null, .int 0, .ref 11, .ref 12]))) (h11 : f 11 = some (.inl (2, 4, .inr (.inr (fun _ => none))))) (h6 : f 6 = some (.inl (2, 4, .inr (.inr (fun _ => none))))) (h12 : f 12 = some (.inl (2, 40, .inr (.inr (fun _ => none))))) (h7 : f 7 = some (.inl (2, 40, .inr (.inr (fun _ => none))))) (h59 : f 59 = some (.inr (1, [.ref 60, .ref 62, .ref 74, .int 0, .ref 68, .ref 71, .ref 64, .ref 66]))) (h60 : f 60 = some (.inr (5, [.ref 61, .int 0]))) (h62 : f 62 = some (.inr (5, [.ref 63, .int 0]))) (h68 : f 68 = some (.inr (6, [.ref 69, .int 0, .int 0, .int 0, .int 0, .int 0, .int 0, .int 0, .int 0, .int 0]))) (h74 : f 74 = some (.inl (1, 40, .inr (.inr g74)))) (h4 : f 4 = some (.inr (5, [.ref 5, .int 0]))) (h171 : f 171 = some (.inr (0, [.ref 172, .ref 174, .ref 176, .int 0]))) (h172 : f 172 = some (.inr (5, [.ref 173, .int 0]))) (h18 : f 18 = some (.inl (3, 8, .inr (.inr (va_up (va_up (va_up (va_up (va_up (va_up (va_up (va_up (fun _ => none) 0 (some 19)) 1 (some 24)) 2 (some 29)) 3 (some 34)) 4 (some 39)) 5 (some 44)) 6 (some 49)) 7 (some 54)))))) (h19 : f 19 = some (.inr (7, [.ref 20, .int 0, .int (-1), .int 0, .int 1, .int 0, .null, .int 0, .ref 22, .ref 23]))) (h22 : f 22 = some (.inl (2, 4, .inr (.inr (fun _ => none))))) (h23 : f 23 = some (.inl (2, 40, .inr (.inr (fun _ => none))))) (h223 : f 223 = some (.inl (4, 1, .inr (.inl (fun _ => 0))))) (h181 : f 181 = some (.inr (9, (.int 0 :: .ref 182 :: .ref 183 :: .ref 184 :: .ref 185 :: .int 0 :: .int 0 :: .int 0 :: .ref 186 :: .int 0 :: .int 0 :: .int 0 :: .int (-1) :: .ref 187 :: .ref 188 :: .ref 189 :: .int 0 :: .ref 190 :: .ref 191 :: .ref 192 :: .ref 193 :: .ref 194 :: .int 0 :: .ref 195 :: .ref 196 :: .ref 197 :: .int 0 :: .ref 198 :: .ref 199 :: .ref 200 :: .ref 201 :: .ref 202 :: .ref 203 :: .int 0 :: .ref 204 :: .ref 205 :: .ref 206 :: .ref 207 :: .ref 208 :: .ref 209 :: .ref 210 :: .ref 211 :: .ref 212 :: .ref 213 :: .ref 214 :: .int 0 :: .ref 215 :: .ref 216 :: .int 0 :: .ref 217 :: .ref 218 :: .ref 219 :: .ref 220 :: .ref 221 :: .int 0 :: .int 0 :: .int 0 :: .int 0 :: .ref 222 :: .int 0 :: [])))) (h183 : f 183 = some (.inl (0, 4347, .inl (fun _ => 0)))) (h182 : f 182 = some (.inl (0, 4347, .inl (tl (upd (upd (fun _ => 0) 2 (-1)) 4 1) 40)))) (h185 : f 185 = some (.inl (0, 34776, .inl (fun _ => 0)))) : AW X p l e room_1 s m #[Value.ref b] below meth c 8 (lw_Z below #[Value.ref b] s) f n 1000 300000 361 [some (.retAddr b), some (.ref 0), some (.ref 181), some (.ref 223), some (.int 0), none, none, none] [] := by
  refine ao_start ?_
  refine aw_ald_n C dL_law_361 rfl ?_
  refine aw_raw_n C dL_law_362 rfl ?_
  refine aw_iload C dL_law_363 rfl ?_
  refine aw_iconst C 1 dL_law_365 ki_1 ?_
  refine ae_iadd C 1 dL_law_366 (by decide) ?_
  refine aw_sld C S0 0 (by unfold vp_in; decide) (by decide : _ = 1) e1 dL_law_367 ?_
  refine aw_raw_n C dL_law_368 rfl ?_
  refine aw_iload C dL_law_369 rfl ?_
  refine aw_iconst C 2 dL_law_371 ki_2 ?_
  refine ae_iadd C 2 dL_law_372 (by decide) ?_
  refine aw_sld C S0 0 (by unfold vp_in; decide) (by decide : _ = 2) e2 dL_law_373 ?_
  refine aw_if_eq C 381 dL_law_374 (by decide) (fun _ => ?_) (fun q => absurd (by decide) q)
  refine aw_iconst C 0 dL_law_381 ki_0 ?_
  refine aw_ald_n C dL_law_382 rfl ?_
  refine aw_callSW C [.ref 0, .int 0, .int 0, .ref 223] mw_L_112 (c_L_kind_242 h0 h3 h8 h11 h6 h12 h7 h59 h60 h62 h68 h74 h4 h171 h172 h18 h19 h22 h23 h223) rfl dL_law_383 (Nat.le_of_ble_eq_true rfl) (Nat.le_of_ble_eq_true rfl) rfl (Nat.le_of_ble_eq_true rfl) (Nat.le_of_ble_eq_true rfl) (Nat.le_of_ble_eq_true rfl) (fun v9 f9 n9 h9 => ?_)
  obtain ⟨rfl, rfl, rfl⟩ := h9
  refine ao_flat [(223, .inl (4, 1, .inr (.inl (vp_updL (fun _ => 0) 0 0)))), (8, .inr (7, [.ref 4, .int 0, .int (-1), .int 0, .int 1, .int 0, .null, .int 0, .ref 11, .ref 12])), (68, .inr (6, [.ref 4, .int 0, .int 0, .int 0, .int 0, .int 0, .int 0, .int 0, .int 0, .int 0])), (59, .inr (1, [.ref 60, .ref 62, .ref 74, .int 0, .ref 68, .ref 71, .ref 64, .ref 66])), (3, .inr (7, [.ref 4, .int 0, .int (-1), .int 0, .int 1, .int 0, .null, .int 0, .ref 6, .ref 7])), (0, .inr (8, [.ref 1, .ref 3, .ref 8, .ref 13, .ref 18, .ref 59, .ref 115, .ref 171, .ref 178, .int 0, .int 0, .int 1, .int 0, .int (-1)])), (19, .inr (7, [.ref 4, .int 0, .int (-1), .int 0, .int 1, .int 0, .null, .int 0, .ref 22, .ref 23]))] rfl ?_
  refine aw_istore C dL_law_386 (by decide) rfl ?_
  refine aw_nl [some (.retAddr b), some (.ref 0), some (.ref 181), some (.ref 223), some (.int 0), some (.int 0), none, none] rfl ?_
  refine aw_ald_n C dL_law_388 rfl ?_
  refine aw_raw_n C dL_law_389 rfl ?_
  refine aw_iload C dL_law_390 rfl ?_
  refine aw_iconst C 1 dL_law_392 ki_1 ?_
  refine ae_iadd C 1 dL_law_393 (by decide) ?_
  refine aw_sld C S0 0 (by unfold vp_in; decide) (by decide : _ = 1) e1 dL_law_394 ?_
  refine aw_raw_n C dL_law_395 rfl ?_
  refine aw_iload C dL_law_396 rfl ?_
  refine aw_iconst C 2 dL_law_398 ki_2 ?_
  refine ae_iadd C 2 dL_law_399 (by decide) ?_
  refine aw_sld C S0 0 (by unfold vp_in; decide) (by decide : _ = 2) e2 dL_law_400 ?_
  refine aw_if_eq C 408 dL_law_401 (by decide) (fun _ => ?_) (fun q => absurd (by decide) q)
  refine aw_iconst C 0 dL_law_408 ki_0 ?_
  refine ao_callV C (ci := 9) (b := 181) [.int 0, .int 0] [(223, .inl (4, 1, .inr (.inl (vp_updL (fun _ => 0) 0 0)))), (8, .inr (7, [.ref 4, .int 0, .int (-1), .int 0, .int 1, .int 0, .null, .int 0, .ref 11, .ref 12])), (68, .inr (6, [.ref 4, .int 0, .int 0, .int 0, .int 0, .int 0, .int 0, .int 0, .int 0, .int 0])), (59, .inr (1, [.ref 60, .ref 62, .ref 74, .int 0, .ref 68, .ref 71, .ref 64, .ref 66])), (3, .inr (7, [.ref 4, .int 0, .int (-1), .int 0, .int 1, .int 0, .null, .int 0, .ref 6, .ref 7])), (0, .inr (8, [.ref 1, .ref 3, .ref 8, .ref 13, .ref 18, .ref 59, .ref 115, .ref 171, .ref 178, .int 0, .int 0, .int 1, .int 0, .int (-1)])), (19, .inr (7, [.ref 4, .int 0, .int (-1), .int 0, .int 1, .int 0, .null, .int 0, .ref 22, .ref 23])), (185, .inl (0, 34776, .inl (cpy (cpy (tl (upd (upd (fun _ => 0) 2 (-1)) 4 1) 40) (fun _ => 0) 4347) (fun _ => 0) 4347))), (182, .inl (0, 4347, .inl (tl (upd (tl (upd (upd (fun _ => 0) 2 (-1)) 4 1) 40) 1 0) 40))), (183, .inl (0, 4347, .inl (cpy (tl (upd (upd (fun _ => 0) 2 (-1)) 4 1) 40) (fun _ => 0) 4347))), (181, .inr (9, (.int 0 :: .ref 182 :: .ref 183 :: .ref 184 :: .ref 185 :: .int 1 :: .int 0 :: .int 0 :: .ref 186 :: .int 0 :: .int 0 :: .int 0 :: .int (-1) :: .ref 187 :: .ref 188 :: .ref 189 :: .int 0 :: .ref 190 :: .ref 191 :: .ref 192 :: .ref 193 :: .ref 194 :: .int 0 :: .ref 195 :: .ref 196 :: .ref 197 :: .int 0 :: .ref 198 :: .ref 199 :: .ref 200 :: .ref 201 :: .ref 202 :: .ref 203 :: .int 0 :: .ref 204 :: .ref 205 :: .ref 206 :: .ref 207 :: .ref 208 :: .ref 209 :: .ref 210 :: .ref 211 :: .ref 212 :: .ref 213 :: .ref 214 :: .int 0 :: .ref 215 :: .ref 216 :: .int 0 :: .ref 217 :: .ref 218 :: .ref 219 :: .ref 220 :: .ref 221 :: .int 0 :: .int 0 :: .int 0 :: .int 0 :: .ref 222 :: .int 0 :: [])))] mv_L_115 rfl rfl h181 (c_X9_kind_248 h181 h183 h182 h185) rfl dL_law_409 (Nat.le_of_ble_eq_true rfl) (Nat.le_of_ble_eq_true rfl) rfl (Nat.le_of_ble_eq_true rfl) (Nat.le_of_ble_eq_true rfl) (Nat.le_of_ble_eq_true rfl) rfl ?_
  refine aw_istore C dL_law_412 (by decide) rfl ?_
  refine aw_nl [some (.retAddr b), some (.ref 0), some (.ref 181), some (.ref 223), some (.int 0), some (.int 0), some (.int 0), none] rfl ?_
  refine aw_ald_n C dL_law_414 rfl ?_
  refine ao_callV C (ci := 9) (b := 181) [] [(223, .inl (4, 1, .inr (.inl (vp_updL (fun _ => 0) 0 0)))), (8, .inr (7, [.ref 4, .int 0, .int (-1), .int 0, .int 1, .int 0, .null, .int 0, .ref 11, .ref 12])), (68, .inr (6, [.ref 4, .int 0, .int 0, .int 0, .int 0, .int 0, .int 0, .int 0, .int 0, .int 0])), (59, .inr (1, [.ref 60, .ref 62, .ref 74, .int 0, .ref 68, .ref 71, .ref 64, .ref 66])), (3, .inr (7, [.ref 4, .int 0, .int (-1), .int 0, .int 1, .int 0, .null, .int 0, .ref 6, .ref 7])), (0, .inr (8, [.ref 1, .ref 3, .ref 8, .ref 13, .ref 18, .ref 59, .ref 115, .ref 171, .ref 178, .int 0, .int 0, .int 1, .int 0, .int (-1)])), (19, .inr (7, [.ref 4, .int 0, .int (-1), .int 0, .int 1, .int 0, .null, .int 0, .ref 22, .ref 23])), (185, .inl (0, 34776, .inl (cpy (cpy (tl (upd (upd (fun _ => 0) 2 (-1)) 4 1) 40) (fun _ => 0) 4347) (fun _ => 0) 4347))), (182, .inl (0, 4347, .inl (tl (upd (tl (upd (upd (fun _ => 0) 2 (-1)) 4 1) 40) 1 0) 40))), (183, .inl (0, 4347, .inl (cpy (tl (upd (upd (fun _ => 0) 2 (-1)) 4 1) 40) (fun _ => 0) 4347))), (181, .inr (9, (.int 0 :: .ref 182 :: .ref 183 :: .ref 184 :: .ref 185 :: .int 1 :: .int 0 :: .int 0 :: .ref 186 :: .int 0 :: .int 0 :: .int 0 :: .int (-1) :: .ref 187 :: .ref 188 :: .ref 189 :: .int 0 :: .ref 190 :: .ref 191 :: .ref 192 :: .ref 193 :: .ref 194 :: .int 0 :: .ref 195 :: .ref 196 :: .ref 197 :: .int 0 :: .ref 198 :: .ref 199 :: .ref 200 :: .ref 201 :: .ref 202 :: .ref 203 :: .int 0 :: .ref 204 :: .ref 205 :: .ref 206 :: .ref 207 :: .ref 208 :: .ref 209 :: .ref 210 :: .ref 211 :: .ref 212 :: .ref 213 :: .ref 214 :: .int 0 :: .ref 215 :: .ref 216 :: .int 0 :: .ref 217 :: .ref 218 :: .ref 219 :: .ref 220 :: .ref 221 :: .int 0 :: .int 0 :: .int 0 :: .int 0 :: .ref 222 :: .int 0 :: [])))] mv_L_97 rfl rfl rfl (c_X9_thrown_239 rfl) rfl dL_law_415 (Nat.le_of_ble_eq_true rfl) (Nat.le_of_ble_eq_true rfl) rfl (Nat.le_of_ble_eq_true rfl) (Nat.le_of_ble_eq_true rfl) (Nat.le_of_ble_eq_true rfl) rfl ?_
  refine aw_iload C dL_law_418 rfl ?_
  refine aw_icmp_eq C 425 dL_law_420 (by decide) (fun _ => ?_) (fun q => absurd (by decide) q)
  refine aw_iload C dL_law_425 rfl ?_
  refine aw_if_ne C 442 dL_law_427 (by decide) (fun q => absurd (by decide) q) (fun _ => ?_)
  refine aw_ald_n C dL_law_430 rfl ?_
  refine aw_iconst C 0 dL_law_431 ki_0 ?_
  refine ao_lald C 0 rfl (by unfold vp_in; decide) (by decide : _ = 0) rfl dL_law_432 ?_
  refine aw_iload C dL_law_433 rfl ?_
  refine ae_i2l C 0 dL_law_435 (by decide) ?_
  refine ae_lcmp C 0 dL_law_436 (by decide) ?_
  refine aw_if_eq C 442 dL_law_437 (by decide) (fun _ => ?_) (fun q => absurd (by decide) q)
  refine aw_goto C 1629 dL_law_442 (by decide) ?_
  refine aw_fl [some (.retAddr b), none, none, none, some (.int 0), none, none, none] (by simp [SubL]) ?_
  exact al_tail C S0 (Nat.le_of_ble_eq_true rfl) (Nat.le_of_ble_eq_true rfl)

set_option maxHeartbeats 4000000 in
set_option maxRecDepth 100000 in
theorem lc_6_cb {X : GX} {p : Program} {l : Launch} {e : Env} {s : State} {m : MethodId} {below : List Frame} {meth : Method} {c : Code} {b : Nat} {xs : Nat → Int32} {f : AH} {n : Nat} {a2 : Int32} {a3 : Int32} {a4 : Int32} {a5 : Int32} {g74 : Nat → Option Nat} (C : CC X p l room_1 s m #[Value.ref b] meth c RL cL_law 8 ret) (S0 : SC X b 6 xs s) (hl0 : l.stackTraces = false) (e1 : xs 1 = 0) (e2 : xs 2 = a2) (z2 : ¬ a2 = 0) (e3 : xs 3 = a3) (e4 : xs 4 = a4) (e5 : xs 5 = a5) (h0 : f 0 = some (.inr (8, [.ref 1, .ref 3, .ref 8, .ref 13, .ref 18, .ref 59, .ref 115, .ref 171, .ref 178, .int 0, .int 0, .int 0, .int 0, .int (-1)]))) (h3 : f 3 = some (.inr (7, [.ref 4, .int 0, .int (-1), .int 0, .int 1, .int 0, .null, .int 0, .ref 6, .ref 7]))) (h8 : f 8 = some (.inr (7, [.ref 9, .int 0, .int (-1), .int 0, .int 1, .int 0, .null, .int 0, .ref 11, .ref 12]))) (h11 : f 11 = some (.inl (2, 4, .inr (.inr (fun _ => none))))) (h6 : f 6 = some (.inl (2, 4, .inr (.inr (fun _ => none))))) (h12 : f 12 = some (.inl (2, 40, .inr (.inr (fun _ => none))))) (h7 : f 7 = some (.inl (2, 40, .inr (.inr (fun _ => none))))) (h59 : f 59 = some (.inr (1, [.ref 60, .ref 62, .ref 74, .int 0, .ref 68, .ref 71, .ref 64, .ref 66]))) (h60 : f 60 = some (.inr (5, [.ref 61, .int 0]))) (h62 : f 62 = some (.inr (5, [.ref 63, .int 0]))) (h68 : f 68 = some (.inr (6, [.ref 69, .int 0, .int 0, .int 0, .int 0, .int 0, .int 0, .int 0, .int 0, .int 0]))) (h74 : f 74 = some (.inl (1, 40, .inr (.inr g74)))) (h4 : f 4 = some (.inr (5, [.ref 5, .int 0]))) (h171 : f 171 = some (.inr (0, [.ref 172, .ref 174, .ref 176, .int 0]))) (h172 : f 172 = some (.inr (5, [.ref 173, .int 0]))) (h18 : f 18 = some (.inl (3, 8, .inr (.inr (va_up (va_up (va_up (va_up (va_up (va_up (va_up (va_up (fun _ => none) 0 (some 19)) 1 (some 24)) 2 (some 29)) 3 (some 34)) 4 (some 39)) 5 (some 44)) 6 (some 49)) 7 (some 54)))))) (h19 : f 19 = some (.inr (7, [.ref 20, .int 0, .int (-1), .int 0, .int 1, .int 0, .null, .int 0, .ref 22, .ref 23]))) (h22 : f 22 = some (.inl (2, 4, .inr (.inr (fun _ => none))))) (h23 : f 23 = some (.inl (2, 40, .inr (.inr (fun _ => none))))) (h223 : f 223 = some (.inl (4, 1, .inr (.inl (fun _ => 0))))) (h181 : f 181 = some (.inr (9, (.int 0 :: .ref 182 :: .ref 183 :: .ref 184 :: .ref 185 :: .int 0 :: .int 0 :: .int 0 :: .ref 186 :: .int 0 :: .int 0 :: .int 0 :: .int (-1) :: .ref 187 :: .ref 188 :: .ref 189 :: .int 0 :: .ref 190 :: .ref 191 :: .ref 192 :: .ref 193 :: .ref 194 :: .int 0 :: .ref 195 :: .ref 196 :: .ref 197 :: .int 0 :: .ref 198 :: .ref 199 :: .ref 200 :: .ref 201 :: .ref 202 :: .ref 203 :: .int 0 :: .ref 204 :: .ref 205 :: .ref 206 :: .ref 207 :: .ref 208 :: .ref 209 :: .ref 210 :: .ref 211 :: .ref 212 :: .ref 213 :: .ref 214 :: .int 0 :: .ref 215 :: .ref 216 :: .int 0 :: .ref 217 :: .ref 218 :: .ref 219 :: .ref 220 :: .ref 221 :: .int 0 :: .int 0 :: .int 0 :: .int 0 :: .ref 222 :: .int 0 :: [])))) (h183 : f 183 = some (.inl (0, 4347, .inl (fun _ => 0)))) (h182 : f 182 = some (.inl (0, 4347, .inl (tl (upd (upd (fun _ => 0) 2 (-1)) 4 1) 40)))) (h185 : f 185 = some (.inl (0, 34776, .inl (fun _ => 0)))) : AW X p l e room_1 s m #[Value.ref b] below meth c 8 (lw_Z below #[Value.ref b] s) f n 1000 300000 361 [some (.retAddr b), some (.ref 0), some (.ref 181), some (.ref 223), some (.int 0), none, none, none] [] := by
  refine ao_start ?_
  refine aw_ald_n C dL_law_361 rfl ?_
  refine aw_raw_n C dL_law_362 rfl ?_
  refine aw_iload C dL_law_363 rfl ?_
  refine aw_iconst C 1 dL_law_365 ki_1 ?_
  refine ae_iadd C 1 dL_law_366 (by decide) ?_
  refine aw_sld C S0 0 (by unfold vp_in; decide) (by decide : _ = 1) e1 dL_law_367 ?_
  refine aw_raw_n C dL_law_368 rfl ?_
  refine aw_iload C dL_law_369 rfl ?_
  refine aw_iconst C 2 dL_law_371 ki_2 ?_
  refine ae_iadd C 2 dL_law_372 (by decide) ?_
  refine aw_sld C S0 a2 (by unfold vp_in; decide) (by decide : _ = 2) e2 dL_law_373 ?_
  refine aw_if_eq C 381 dL_law_374 (by decide) (fun q => absurd q z2) (fun _ => ?_)
  refine aw_iconst C 1 dL_law_377 ki_1 ?_
  refine aw_goto C 382 dL_law_378 (by decide) ?_
  refine aw_ald_n C dL_law_382 rfl ?_
  refine aw_callSW C [.ref 0, .int 0, .int 1, .ref 223] mw_L_112 (c_L_kind_255 h0 h3 h8 h11 h6 h12 h7 h59 h60 h62 h68 h74 h4 h171 h172 h18 h19 h22 h23 h223) rfl dL_law_383 (Nat.le_of_ble_eq_true rfl) (Nat.le_of_ble_eq_true rfl) rfl (Nat.le_of_ble_eq_true rfl) (Nat.le_of_ble_eq_true rfl) (Nat.le_of_ble_eq_true rfl) (fun v9 f9 n9 h9 => ?_)
  obtain ⟨rfl, rfl, rfl⟩ := h9
  refine ao_flat [(223, .inl (4, 1, .inr (.inl (vp_updL (fun _ => 0) 0 0)))), (8, .inr (7, [.ref 4, .int 0, .int (-1), .int 0, .int 1, .int 0, .null, .int 0, .ref 11, .ref 12])), (68, .inr (6, [.ref 4, .int 0, .int 0, .int 0, .int 0, .int 0, .int 0, .int 0, .int 0, .int 0])), (59, .inr (1, [.ref 60, .ref 62, .ref 74, .int 0, .ref 68, .ref 71, .ref 64, .ref 66])), (3, .inr (7, [.ref 4, .int 0, .int 0, .int 0, .int 1, .int 0, .null, .int 0, .ref 6, .ref 7])), (0, .inr (8, [.ref 1, .ref 3, .ref 8, .ref 13, .ref 18, .ref 59, .ref 115, .ref 171, .ref 178, .int 0, .int 0, .int 1, .int 0, .int (-1)])), (19, .inr (7, [.ref 4, .int 0, .int (-1), .int 0, .int 1, .int 0, .null, .int 0, .ref 22, .ref 23]))] rfl ?_
  refine aw_istore C dL_law_386 (by decide) rfl ?_
  refine aw_nl [some (.retAddr b), some (.ref 0), some (.ref 181), some (.ref 223), some (.int 0), some (.int 0), none, none] rfl ?_
  refine aw_ald_n C dL_law_388 rfl ?_
  refine aw_raw_n C dL_law_389 rfl ?_
  refine aw_iload C dL_law_390 rfl ?_
  refine aw_iconst C 1 dL_law_392 ki_1 ?_
  refine ae_iadd C 1 dL_law_393 (by decide) ?_
  refine aw_sld C S0 0 (by unfold vp_in; decide) (by decide : _ = 1) e1 dL_law_394 ?_
  refine aw_raw_n C dL_law_395 rfl ?_
  refine aw_iload C dL_law_396 rfl ?_
  refine aw_iconst C 2 dL_law_398 ki_2 ?_
  refine ae_iadd C 2 dL_law_399 (by decide) ?_
  refine aw_sld C S0 a2 (by unfold vp_in; decide) (by decide : _ = 2) e2 dL_law_400 ?_
  refine aw_if_eq C 408 dL_law_401 (by decide) (fun q => absurd q z2) (fun _ => ?_)
  refine aw_iconst C 1 dL_law_404 ki_1 ?_
  refine aw_goto C 409 dL_law_405 (by decide) ?_
  refine ao_callV C (ci := 9) (b := 181) [.int 0, .int 1] [(223, .inl (4, 1, .inr (.inl (vp_updL (fun _ => 0) 0 0)))), (8, .inr (7, [.ref 4, .int 0, .int (-1), .int 0, .int 1, .int 0, .null, .int 0, .ref 11, .ref 12])), (68, .inr (6, [.ref 4, .int 0, .int 0, .int 0, .int 0, .int 0, .int 0, .int 0, .int 0, .int 0])), (59, .inr (1, [.ref 60, .ref 62, .ref 74, .int 0, .ref 68, .ref 71, .ref 64, .ref 66])), (3, .inr (7, [.ref 4, .int 0, .int 0, .int 0, .int 1, .int 0, .null, .int 0, .ref 6, .ref 7])), (0, .inr (8, [.ref 1, .ref 3, .ref 8, .ref 13, .ref 18, .ref 59, .ref 115, .ref 171, .ref 178, .int 0, .int 0, .int 1, .int 0, .int (-1)])), (19, .inr (7, [.ref 4, .int 0, .int (-1), .int 0, .int 1, .int 0, .null, .int 0, .ref 22, .ref 23])), (185, .inl (0, 34776, .inl (cpy (cpy (tl (upd (upd (fun _ => 0) 2 (-1)) 4 1) 40) (fun _ => 0) 4347) (fun _ => 0) 4347))), (182, .inl (0, 4347, .inl (tl (upd (tl (upd (upd (fun _ => 0) 2 (-1)) 4 1) 40) 2 0) 40))), (183, .inl (0, 4347, .inl (cpy (tl (upd (upd (fun _ => 0) 2 (-1)) 4 1) 40) (fun _ => 0) 4347))), (181, .inr (9, (.int 0 :: .ref 182 :: .ref 183 :: .ref 184 :: .ref 185 :: .int 1 :: .int 0 :: .int 0 :: .ref 186 :: .int 0 :: .int 0 :: .int 0 :: .int (-1) :: .ref 187 :: .ref 188 :: .ref 189 :: .int 0 :: .ref 190 :: .ref 191 :: .ref 192 :: .ref 193 :: .ref 194 :: .int 0 :: .ref 195 :: .ref 196 :: .ref 197 :: .int 0 :: .ref 198 :: .ref 199 :: .ref 200 :: .ref 201 :: .ref 202 :: .ref 203 :: .int 0 :: .ref 204 :: .ref 205 :: .ref 206 :: .ref 207 :: .ref 208 :: .ref 209 :: .ref 210 :: .ref 211 :: .ref 212 :: .ref 213 :: .ref 214 :: .int 0 :: .ref 215 :: .ref 216 :: .int 0 :: .ref 217 :: .ref 218 :: .ref 219 :: .ref 220 :: .ref 221 :: .int 0 :: .int 0 :: .int 0 :: .int 0 :: .ref 222 :: .int 0 :: [])))] mv_L_115 rfl rfl h181 (c_X9_kind_261 h181 h183 h182 h185) rfl dL_law_409 (Nat.le_of_ble_eq_true rfl) (Nat.le_of_ble_eq_true rfl) rfl (Nat.le_of_ble_eq_true rfl) (Nat.le_of_ble_eq_true rfl) (Nat.le_of_ble_eq_true rfl) rfl ?_
  refine aw_istore C dL_law_412 (by decide) rfl ?_
  refine aw_nl [some (.retAddr b), some (.ref 0), some (.ref 181), some (.ref 223), some (.int 0), some (.int 0), some (.int 0), none] rfl ?_
  refine aw_ald_n C dL_law_414 rfl ?_
  refine ao_callV C (ci := 9) (b := 181) [] [(223, .inl (4, 1, .inr (.inl (vp_updL (fun _ => 0) 0 0)))), (8, .inr (7, [.ref 4, .int 0, .int (-1), .int 0, .int 1, .int 0, .null, .int 0, .ref 11, .ref 12])), (68, .inr (6, [.ref 4, .int 0, .int 0, .int 0, .int 0, .int 0, .int 0, .int 0, .int 0, .int 0])), (59, .inr (1, [.ref 60, .ref 62, .ref 74, .int 0, .ref 68, .ref 71, .ref 64, .ref 66])), (3, .inr (7, [.ref 4, .int 0, .int 0, .int 0, .int 1, .int 0, .null, .int 0, .ref 6, .ref 7])), (0, .inr (8, [.ref 1, .ref 3, .ref 8, .ref 13, .ref 18, .ref 59, .ref 115, .ref 171, .ref 178, .int 0, .int 0, .int 1, .int 0, .int (-1)])), (19, .inr (7, [.ref 4, .int 0, .int (-1), .int 0, .int 1, .int 0, .null, .int 0, .ref 22, .ref 23])), (185, .inl (0, 34776, .inl (cpy (cpy (tl (upd (upd (fun _ => 0) 2 (-1)) 4 1) 40) (fun _ => 0) 4347) (fun _ => 0) 4347))), (182, .inl (0, 4347, .inl (tl (upd (tl (upd (upd (fun _ => 0) 2 (-1)) 4 1) 40) 2 0) 40))), (183, .inl (0, 4347, .inl (cpy (tl (upd (upd (fun _ => 0) 2 (-1)) 4 1) 40) (fun _ => 0) 4347))), (181, .inr (9, (.int 0 :: .ref 182 :: .ref 183 :: .ref 184 :: .ref 185 :: .int 1 :: .int 0 :: .int 0 :: .ref 186 :: .int 0 :: .int 0 :: .int 0 :: .int (-1) :: .ref 187 :: .ref 188 :: .ref 189 :: .int 0 :: .ref 190 :: .ref 191 :: .ref 192 :: .ref 193 :: .ref 194 :: .int 0 :: .ref 195 :: .ref 196 :: .ref 197 :: .int 0 :: .ref 198 :: .ref 199 :: .ref 200 :: .ref 201 :: .ref 202 :: .ref 203 :: .int 0 :: .ref 204 :: .ref 205 :: .ref 206 :: .ref 207 :: .ref 208 :: .ref 209 :: .ref 210 :: .ref 211 :: .ref 212 :: .ref 213 :: .ref 214 :: .int 0 :: .ref 215 :: .ref 216 :: .int 0 :: .ref 217 :: .ref 218 :: .ref 219 :: .ref 220 :: .ref 221 :: .int 0 :: .int 0 :: .int 0 :: .int 0 :: .ref 222 :: .int 0 :: [])))] mv_L_97 rfl rfl rfl (c_X9_thrown_239 rfl) rfl dL_law_415 (Nat.le_of_ble_eq_true rfl) (Nat.le_of_ble_eq_true rfl) rfl (Nat.le_of_ble_eq_true rfl) (Nat.le_of_ble_eq_true rfl) (Nat.le_of_ble_eq_true rfl) rfl ?_
  refine aw_iload C dL_law_418 rfl ?_
  refine aw_icmp_eq C 425 dL_law_420 (by decide) (fun _ => ?_) (fun q => absurd (by decide) q)
  refine aw_iload C dL_law_425 rfl ?_
  refine aw_if_ne C 442 dL_law_427 (by decide) (fun q => absurd (by decide) q) (fun _ => ?_)
  refine aw_ald_n C dL_law_430 rfl ?_
  refine aw_iconst C 0 dL_law_431 ki_0 ?_
  refine ao_lald C 0 rfl (by unfold vp_in; decide) (by decide : _ = 0) rfl dL_law_432 ?_
  refine aw_iload C dL_law_433 rfl ?_
  refine ae_i2l C 0 dL_law_435 (by decide) ?_
  refine ae_lcmp C 0 dL_law_436 (by decide) ?_
  refine aw_if_eq C 442 dL_law_437 (by decide) (fun _ => ?_) (fun q => absurd (by decide) q)
  refine aw_goto C 1629 dL_law_442 (by decide) ?_
  refine aw_fl [some (.retAddr b), none, none, none, some (.int 0), none, none, none] (by simp [SubL]) ?_
  exact al_tail C S0 (Nat.le_of_ble_eq_true rfl) (Nat.le_of_ble_eq_true rfl)

set_option maxHeartbeats 4000000 in
set_option maxRecDepth 100000 in
theorem lc_6_da {X : GX} {p : Program} {l : Launch} {e : Env} {s : State} {m : MethodId} {below : List Frame} {meth : Method} {c : Code} {b : Nat} {xs : Nat → Int32} {f : AH} {n : Nat} {a3 : Int32} {a4 : Int32} {a5 : Int32} {g74 : Nat → Option Nat} (C : CC X p l room_1 s m #[Value.ref b] meth c RL cL_law 8 ret) (S0 : SC X b 6 xs s) (hl0 : l.stackTraces = false) (e1 : xs 1 = 1) (e2 : xs 2 = 0) (e3 : xs 3 = a3) (e4 : xs 4 = a4) (e5 : xs 5 = a5) (h0 : f 0 = some (.inr (8, [.ref 1, .ref 3, .ref 8, .ref 13, .ref 18, .ref 59, .ref 115, .ref 171, .ref 178, .int 0, .int 0, .int 0, .int 0, .int (-1)]))) (h3 : f 3 = some (.inr (7, [.ref 4, .int 0, .int (-1), .int 0, .int 1, .int 0, .null, .int 0, .ref 6, .ref 7]))) (h8 : f 8 = some (.inr (7, [.ref 9, .int 0, .int (-1), .int 0, .int 1, .int 0, .null, .int 0, .ref 11, .ref 12]))) (h11 : f 11 = some (.inl (2, 4, .inr (.inr (fun _ => none))))) (h6 : f 6 = some (.inl (2, 4, .inr (.inr (fun _ => none))))) (h12 : f 12 = some (.inl (2, 40, .inr (.inr (fun _ => none))))) (h7 : f 7 = some (.inl (2, 40, .inr (.inr (fun _ => none))))) (h59 : f 59 = some (.inr (1, [.ref 60, .ref 62, .ref 74, .int 0, .ref 68, .ref 71, .ref 64, .ref 66]))) (h60 : f 60 = some (.inr (5, [.ref 61, .int 0]))) (h62 : f 62 = some (.inr (5, [.ref 63, .int 0]))) (h68 : f 68 = some (.inr (6, [.ref 69, .int 0, .int 0, .int 0, .int 0, .int 0, .int 0, .int 0, .int 0, .int 0]))) (h74 : f 74 = some (.inl (1, 40, .inr (.inr g74)))) (h4 : f 4 = some (.inr (5, [.ref 5, .int 0]))) (h171 : f 171 = some (.inr (0, [.ref 172, .ref 174, .ref 176, .int 0]))) (h172 : f 172 = some (.inr (5, [.ref 173, .int 0]))) (h18 : f 18 = some (.inl (3, 8, .inr (.inr (va_up (va_up (va_up (va_up (va_up (va_up (va_up (va_up (fun _ => none) 0 (some 19)) 1 (some 24)) 2 (some 29)) 3 (some 34)) 4 (some 39)) 5 (some 44)) 6 (some 49)) 7 (some 54)))))) (h19 : f 19 = some (.inr (7, [.ref 20, .int 0, .int (-1), .int 0, .int 1, .int 0, .null, .int 0, .ref 22, .ref 23]))) (h22 : f 22 = some (.inl (2, 4, .inr (.inr (fun _ => none))))) (h23 : f 23 = some (.inl (2, 40, .inr (.inr (fun _ => none))))) (h223 : f 223 = some (.inl (4, 1, .inr (.inl (fun _ => 0))))) (h181 : f 181 = some (.inr (9, (.int 0 :: .ref 182 :: .ref 183 :: .ref 184 :: .ref 185 :: .int 0 :: .int 0 :: .int 0 :: .ref 186 :: .int 0 :: .int 0 :: .int 0 :: .int (-1) :: .ref 187 :: .ref 188 :: .ref 189 :: .int 0 :: .ref 190 :: .ref 191 :: .ref 192 :: .ref 193 :: .ref 194 :: .int 0 :: .ref 195 :: .ref 196 :: .ref 197 :: .int 0 :: .ref 198 :: .ref 199 :: .ref 200 :: .ref 201 :: .ref 202 :: .ref 203 :: .int 0 :: .ref 204 :: .ref 205 :: .ref 206 :: .ref 207 :: .ref 208 :: .ref 209 :: .ref 210 :: .ref 211 :: .ref 212 :: .ref 213 :: .ref 214 :: .int 0 :: .ref 215 :: .ref 216 :: .int 0 :: .ref 217 :: .ref 218 :: .ref 219 :: .ref 220 :: .ref 221 :: .int 0 :: .int 0 :: .int 0 :: .int 0 :: .ref 222 :: .int 0 :: [])))) (h183 : f 183 = some (.inl (0, 4347, .inl (fun _ => 0)))) (h182 : f 182 = some (.inl (0, 4347, .inl (tl (upd (upd (fun _ => 0) 2 (-1)) 4 1) 40)))) (h185 : f 185 = some (.inl (0, 34776, .inl (fun _ => 0)))) : AW X p l e room_1 s m #[Value.ref b] below meth c 8 (lw_Z below #[Value.ref b] s) f n 1000 300000 361 [some (.retAddr b), some (.ref 0), some (.ref 181), some (.ref 223), some (.int 0), none, none, none] [] := by
  refine ao_start ?_
  refine aw_ald_n C dL_law_361 rfl ?_
  refine aw_raw_n C dL_law_362 rfl ?_
  refine aw_iload C dL_law_363 rfl ?_
  refine aw_iconst C 1 dL_law_365 ki_1 ?_
  refine ae_iadd C 1 dL_law_366 (by decide) ?_
  refine aw_sld C S0 1 (by unfold vp_in; decide) (by decide : _ = 1) e1 dL_law_367 ?_
  refine aw_raw_n C dL_law_368 rfl ?_
  refine aw_iload C dL_law_369 rfl ?_
  refine aw_iconst C 2 dL_law_371 ki_2 ?_
  refine ae_iadd C 2 dL_law_372 (by decide) ?_
  refine aw_sld C S0 0 (by unfold vp_in; decide) (by decide : _ = 2) e2 dL_law_373 ?_
  refine aw_if_eq C 381 dL_law_374 (by decide) (fun _ => ?_) (fun q => absurd (by decide) q)
  refine aw_iconst C 0 dL_law_381 ki_0 ?_
  refine aw_ald_n C dL_law_382 rfl ?_
  refine aw_callSW C [.ref 0, .int 1, .int 0, .ref 223] mw_L_112 (c_L_kind_270 h0 h3 h8 h11 h6 h12 h7 h59 h60 h62 h68 h74 h4 h171 h172 h18 h19 h22 h23 h223) rfl dL_law_383 (Nat.le_of_ble_eq_true rfl) (Nat.le_of_ble_eq_true rfl) rfl (Nat.le_of_ble_eq_true rfl) (Nat.le_of_ble_eq_true rfl) (Nat.le_of_ble_eq_true rfl) (fun v9 f9 n9 h9 => ?_)
  obtain ⟨rfl, rfl, rfl⟩ := h9
  refine ao_flat [(223, .inl (4, 1, .inr (.inl (vp_updL (fun _ => 0) 0 0)))), (8, .inr (7, [.ref 4, .int 0, .int (-1), .int 0, .int 1, .int 0, .null, .int 0, .ref 11, .ref 12])), (68, .inr (6, [.ref 4, .int 0, .int 0, .int 0, .int 0, .int 0, .int 0, .int 0, .int 1, .int 0])), (59, .inr (1, [.ref 60, .ref 62, .ref 74, .int 0, .ref 68, .ref 71, .ref 64, .ref 66])), (3, .inr (7, [.ref 4, .int 1, .int (-1), .int 0, .int 1, .int 0, .null, .int 0, .ref 6, .ref 7])), (0, .inr (8, [.ref 1, .ref 3, .ref 8, .ref 13, .ref 18, .ref 59, .ref 115, .ref 171, .ref 178, .int 0, .int 0, .int 1, .int 0, .int (-1)])), (19, .inr (7, [.ref 4, .int 0, .int (-1), .int 0, .int 1, .int 0, .null, .int 0, .ref 22, .ref 23]))] rfl ?_
  refine aw_istore C dL_law_386 (by decide) rfl ?_
  refine aw_nl [some (.retAddr b), some (.ref 0), some (.ref 181), some (.ref 223), some (.int 0), some (.int 0), none, none] rfl ?_
  refine aw_ald_n C dL_law_388 rfl ?_
  refine aw_raw_n C dL_law_389 rfl ?_
  refine aw_iload C dL_law_390 rfl ?_
  refine aw_iconst C 1 dL_law_392 ki_1 ?_
  refine ae_iadd C 1 dL_law_393 (by decide) ?_
  refine aw_sld C S0 1 (by unfold vp_in; decide) (by decide : _ = 1) e1 dL_law_394 ?_
  refine aw_raw_n C dL_law_395 rfl ?_
  refine aw_iload C dL_law_396 rfl ?_
  refine aw_iconst C 2 dL_law_398 ki_2 ?_
  refine ae_iadd C 2 dL_law_399 (by decide) ?_
  refine aw_sld C S0 0 (by unfold vp_in; decide) (by decide : _ = 2) e2 dL_law_400 ?_
  refine aw_if_eq C 408 dL_law_401 (by decide) (fun _ => ?_) (fun q => absurd (by decide) q)
  refine aw_iconst C 0 dL_law_408 ki_0 ?_
  refine ao_callV C (ci := 9) (b := 181) [.int 1, .int 0] [(223, .inl (4, 1, .inr (.inl (vp_updL (fun _ => 0) 0 0)))), (8, .inr (7, [.ref 4, .int 0, .int (-1), .int 0, .int 1, .int 0, .null, .int 0, .ref 11, .ref 12])), (68, .inr (6, [.ref 4, .int 0, .int 0, .int 0, .int 0, .int 0, .int 0, .int 0, .int 1, .int 0])), (59, .inr (1, [.ref 60, .ref 62, .ref 74, .int 0, .ref 68, .ref 71, .ref 64, .ref 66])), (3, .inr (7, [.ref 4, .int 1, .int (-1), .int 0, .int 1, .int 0, .null, .int 0, .ref 6, .ref 7])), (0, .inr (8, [.ref 1, .ref 3, .ref 8, .ref 13, .ref 18, .ref 59, .ref 115, .ref 171, .ref 178, .int 0, .int 0, .int 1, .int 0, .int (-1)])), (19, .inr (7, [.ref 4, .int 0, .int (-1), .int 0, .int 1, .int 0, .null, .int 0, .ref 22, .ref 23])), (185, .inl (0, 34776, .inl (cpy (cpy (tl (upd (upd (fun _ => 0) 2 (-1)) 4 1) 40) (fun _ => 0) 4347) (fun _ => 0) 4347))), (182, .inl (0, 4347, .inl (tl (upd (tl (upd (upd (fun _ => 0) 2 (-1)) 4 1) 40) 1 1) 40))), (183, .inl (0, 4347, .inl (cpy (tl (upd (upd (fun _ => 0) 2 (-1)) 4 1) 40) (fun _ => 0) 4347))), (181, .inr (9, (.int 0 :: .ref 182 :: .ref 183 :: .ref 184 :: .ref 185 :: .int 1 :: .int 0 :: .int 0 :: .ref 186 :: .int 0 :: .int 0 :: .int 0 :: .int (-1) :: .ref 187 :: .ref 188 :: .ref 189 :: .int 0 :: .ref 190 :: .ref 191 :: .ref 192 :: .ref 193 :: .ref 194 :: .int 0 :: .ref 195 :: .ref 196 :: .ref 197 :: .int 0 :: .ref 198 :: .ref 199 :: .ref 200 :: .ref 201 :: .ref 202 :: .ref 203 :: .int 0 :: .ref 204 :: .ref 205 :: .ref 206 :: .ref 207 :: .ref 208 :: .ref 209 :: .ref 210 :: .ref 211 :: .ref 212 :: .ref 213 :: .ref 214 :: .int 0 :: .ref 215 :: .ref 216 :: .int 0 :: .ref 217 :: .ref 218 :: .ref 219 :: .ref 220 :: .ref 221 :: .int 0 :: .int 0 :: .int 0 :: .int 0 :: .ref 222 :: .int 0 :: [])))] mv_L_115 rfl rfl h181 (c_X9_kind_278 h181 h183 h182 h185) rfl dL_law_409 (Nat.le_of_ble_eq_true rfl) (Nat.le_of_ble_eq_true rfl) rfl (Nat.le_of_ble_eq_true rfl) (Nat.le_of_ble_eq_true rfl) (Nat.le_of_ble_eq_true rfl) rfl ?_
  refine aw_istore C dL_law_412 (by decide) rfl ?_
  refine aw_nl [some (.retAddr b), some (.ref 0), some (.ref 181), some (.ref 223), some (.int 0), some (.int 0), some (.int 0), none] rfl ?_
  refine aw_ald_n C dL_law_414 rfl ?_
  refine ao_callV C (ci := 9) (b := 181) [] [(223, .inl (4, 1, .inr (.inl (vp_updL (fun _ => 0) 0 0)))), (8, .inr (7, [.ref 4, .int 0, .int (-1), .int 0, .int 1, .int 0, .null, .int 0, .ref 11, .ref 12])), (68, .inr (6, [.ref 4, .int 0, .int 0, .int 0, .int 0, .int 0, .int 0, .int 0, .int 1, .int 0])), (59, .inr (1, [.ref 60, .ref 62, .ref 74, .int 0, .ref 68, .ref 71, .ref 64, .ref 66])), (3, .inr (7, [.ref 4, .int 1, .int (-1), .int 0, .int 1, .int 0, .null, .int 0, .ref 6, .ref 7])), (0, .inr (8, [.ref 1, .ref 3, .ref 8, .ref 13, .ref 18, .ref 59, .ref 115, .ref 171, .ref 178, .int 0, .int 0, .int 1, .int 0, .int (-1)])), (19, .inr (7, [.ref 4, .int 0, .int (-1), .int 0, .int 1, .int 0, .null, .int 0, .ref 22, .ref 23])), (185, .inl (0, 34776, .inl (cpy (cpy (tl (upd (upd (fun _ => 0) 2 (-1)) 4 1) 40) (fun _ => 0) 4347) (fun _ => 0) 4347))), (182, .inl (0, 4347, .inl (tl (upd (tl (upd (upd (fun _ => 0) 2 (-1)) 4 1) 40) 1 1) 40))), (183, .inl (0, 4347, .inl (cpy (tl (upd (upd (fun _ => 0) 2 (-1)) 4 1) 40) (fun _ => 0) 4347))), (181, .inr (9, (.int 0 :: .ref 182 :: .ref 183 :: .ref 184 :: .ref 185 :: .int 1 :: .int 0 :: .int 0 :: .ref 186 :: .int 0 :: .int 0 :: .int 0 :: .int (-1) :: .ref 187 :: .ref 188 :: .ref 189 :: .int 0 :: .ref 190 :: .ref 191 :: .ref 192 :: .ref 193 :: .ref 194 :: .int 0 :: .ref 195 :: .ref 196 :: .ref 197 :: .int 0 :: .ref 198 :: .ref 199 :: .ref 200 :: .ref 201 :: .ref 202 :: .ref 203 :: .int 0 :: .ref 204 :: .ref 205 :: .ref 206 :: .ref 207 :: .ref 208 :: .ref 209 :: .ref 210 :: .ref 211 :: .ref 212 :: .ref 213 :: .ref 214 :: .int 0 :: .ref 215 :: .ref 216 :: .int 0 :: .ref 217 :: .ref 218 :: .ref 219 :: .ref 220 :: .ref 221 :: .int 0 :: .int 0 :: .int 0 :: .int 0 :: .ref 222 :: .int 0 :: [])))] mv_L_97 rfl rfl rfl (c_X9_thrown_239 rfl) rfl dL_law_415 (Nat.le_of_ble_eq_true rfl) (Nat.le_of_ble_eq_true rfl) rfl (Nat.le_of_ble_eq_true rfl) (Nat.le_of_ble_eq_true rfl) (Nat.le_of_ble_eq_true rfl) rfl ?_
  refine aw_iload C dL_law_418 rfl ?_
  refine aw_icmp_eq C 425 dL_law_420 (by decide) (fun _ => ?_) (fun q => absurd (by decide) q)
  refine aw_iload C dL_law_425 rfl ?_
  refine aw_if_ne C 442 dL_law_427 (by decide) (fun q => absurd (by decide) q) (fun _ => ?_)
  refine aw_ald_n C dL_law_430 rfl ?_
  refine aw_iconst C 0 dL_law_431 ki_0 ?_
  refine ao_lald C 0 rfl (by unfold vp_in; decide) (by decide : _ = 0) rfl dL_law_432 ?_
  refine aw_iload C dL_law_433 rfl ?_
  refine ae_i2l C 0 dL_law_435 (by decide) ?_
  refine ae_lcmp C 0 dL_law_436 (by decide) ?_
  refine aw_if_eq C 442 dL_law_437 (by decide) (fun _ => ?_) (fun q => absurd (by decide) q)
  refine aw_goto C 1629 dL_law_442 (by decide) ?_
  refine aw_fl [some (.retAddr b), none, none, none, some (.int 0), none, none, none] (by simp [SubL]) ?_
  exact al_tail C S0 (Nat.le_of_ble_eq_true rfl) (Nat.le_of_ble_eq_true rfl)

set_option maxHeartbeats 4000000 in
set_option maxRecDepth 100000 in
theorem lc_6_db {X : GX} {p : Program} {l : Launch} {e : Env} {s : State} {m : MethodId} {below : List Frame} {meth : Method} {c : Code} {b : Nat} {xs : Nat → Int32} {f : AH} {n : Nat} {a2 : Int32} {a3 : Int32} {a4 : Int32} {a5 : Int32} {g74 : Nat → Option Nat} (C : CC X p l room_1 s m #[Value.ref b] meth c RL cL_law 8 ret) (S0 : SC X b 6 xs s) (hl0 : l.stackTraces = false) (e1 : xs 1 = 1) (e2 : xs 2 = a2) (z2 : ¬ a2 = 0) (e3 : xs 3 = a3) (e4 : xs 4 = a4) (e5 : xs 5 = a5) (h0 : f 0 = some (.inr (8, [.ref 1, .ref 3, .ref 8, .ref 13, .ref 18, .ref 59, .ref 115, .ref 171, .ref 178, .int 0, .int 0, .int 0, .int 0, .int (-1)]))) (h3 : f 3 = some (.inr (7, [.ref 4, .int 0, .int (-1), .int 0, .int 1, .int 0, .null, .int 0, .ref 6, .ref 7]))) (h8 : f 8 = some (.inr (7, [.ref 9, .int 0, .int (-1), .int 0, .int 1, .int 0, .null, .int 0, .ref 11, .ref 12]))) (h11 : f 11 = some (.inl (2, 4, .inr (.inr (fun _ => none))))) (h6 : f 6 = some (.inl (2, 4, .inr (.inr (fun _ => none))))) (h12 : f 12 = some (.inl (2, 40, .inr (.inr (fun _ => none))))) (h7 : f 7 = some (.inl (2, 40, .inr (.inr (fun _ => none))))) (h59 : f 59 = some (.inr (1, [.ref 60, .ref 62, .ref 74, .int 0, .ref 68, .ref 71, .ref 64, .ref 66]))) (h60 : f 60 = some (.inr (5, [.ref 61, .int 0]))) (h62 : f 62 = some (.inr (5, [.ref 63, .int 0]))) (h68 : f 68 = some (.inr (6, [.ref 69, .int 0, .int 0, .int 0, .int 0, .int 0, .int 0, .int 0, .int 0, .int 0]))) (h74 : f 74 = some (.inl (1, 40, .inr (.inr g74)))) (h4 : f 4 = some (.inr (5, [.ref 5, .int 0]))) (h171 : f 171 = some (.inr (0, [.ref 172, .ref 174, .ref 176, .int 0]))) (h172 : f 172 = some (.inr (5, [.ref 173, .int 0]))) (h18 : f 18 = some (.inl (3, 8, .inr (.inr (va_up (va_up (va_up (va_up (va_up (va_up (va_up (va_up (fun _ => none) 0 (some 19)) 1 (some 24)) 2 (some 29)) 3 (some 34)) 4 (some 39)) 5 (some 44)) 6 (some 49)) 7 (some 54)))))) (h19 : f 19 = some (.inr (7, [.ref 20, .int 0, .int (-1), .int 0, .int 1, .int 0, .null, .int 0, .ref 22, .ref 23]))) (h22 : f 22 = some (.inl (2, 4, .inr (.inr (fun _ => none))))) (h23 : f 23 = some (.inl (2, 40, .inr (.inr (fun _ => none))))) (h223 : f 223 = some (.inl (4, 1, .inr (.inl (fun _ => 0))))) (h181 : f 181 = some (.inr (9, (.int 0 :: .ref 182 :: .ref 183 :: .ref 184 :: .ref 185 :: .int 0 :: .int 0 :: .int 0 :: .ref 186 :: .int 0 :: .int 0 :: .int 0 :: .int (-1) :: .ref 187 :: .ref 188 :: .ref 189 :: .int 0 :: .ref 190 :: .ref 191 :: .ref 192 :: .ref 193 :: .ref 194 :: .int 0 :: .ref 195 :: .ref 196 :: .ref 197 :: .int 0 :: .ref 198 :: .ref 199 :: .ref 200 :: .ref 201 :: .ref 202 :: .ref 203 :: .int 0 :: .ref 204 :: .ref 205 :: .ref 206 :: .ref 207 :: .ref 208 :: .ref 209 :: .ref 210 :: .ref 211 :: .ref 212 :: .ref 213 :: .ref 214 :: .int 0 :: .ref 215 :: .ref 216 :: .int 0 :: .ref 217 :: .ref 218 :: .ref 219 :: .ref 220 :: .ref 221 :: .int 0 :: .int 0 :: .int 0 :: .int 0 :: .ref 222 :: .int 0 :: [])))) (h183 : f 183 = some (.inl (0, 4347, .inl (fun _ => 0)))) (h182 : f 182 = some (.inl (0, 4347, .inl (tl (upd (upd (fun _ => 0) 2 (-1)) 4 1) 40)))) (h185 : f 185 = some (.inl (0, 34776, .inl (fun _ => 0)))) : AW X p l e room_1 s m #[Value.ref b] below meth c 8 (lw_Z below #[Value.ref b] s) f n 1000 300000 361 [some (.retAddr b), some (.ref 0), some (.ref 181), some (.ref 223), some (.int 0), none, none, none] [] := by
  refine ao_start ?_
  refine aw_ald_n C dL_law_361 rfl ?_
  refine aw_raw_n C dL_law_362 rfl ?_
  refine aw_iload C dL_law_363 rfl ?_
  refine aw_iconst C 1 dL_law_365 ki_1 ?_
  refine ae_iadd C 1 dL_law_366 (by decide) ?_
  refine aw_sld C S0 1 (by unfold vp_in; decide) (by decide : _ = 1) e1 dL_law_367 ?_
  refine aw_raw_n C dL_law_368 rfl ?_
  refine aw_iload C dL_law_369 rfl ?_
  refine aw_iconst C 2 dL_law_371 ki_2 ?_
  refine ae_iadd C 2 dL_law_372 (by decide) ?_
  refine aw_sld C S0 a2 (by unfold vp_in; decide) (by decide : _ = 2) e2 dL_law_373 ?_
  refine aw_if_eq C 381 dL_law_374 (by decide) (fun q => absurd q z2) (fun _ => ?_)
  refine aw_iconst C 1 dL_law_377 ki_1 ?_
  refine aw_goto C 382 dL_law_378 (by decide) ?_
  refine aw_ald_n C dL_law_382 rfl ?_
  refine aw_callSW C [.ref 0, .int 1, .int 1, .ref 223] mw_L_112 (c_L_kind_285 h0 h3 h8 h11 h6 h12 h7 h59 h60 h62 h68 h74 h4 h171 h172 h18 h19 h22 h23 h223) rfl dL_law_383 (Nat.le_of_ble_eq_true rfl) (Nat.le_of_ble_eq_true rfl) rfl (Nat.le_of_ble_eq_true rfl) (Nat.le_of_ble_eq_true rfl) (Nat.le_of_ble_eq_true rfl) (fun v9 f9 n9 h9 => ?_)
  obtain ⟨rfl, rfl, rfl⟩ := h9
  refine ao_flat [(223, .inl (4, 1, .inr (.inl (vp_updL (fun _ => 0) 0 0)))), (8, .inr (7, [.ref 4, .int 0, .int (-1), .int 0, .int 1, .int 0, .null, .int 0, .ref 11, .ref 12])), (68, .inr (6, [.ref 4, .int 0, .int 0, .int 0, .int 0, .int 0, .int 0, .int 0, .int 0, .int 0])), (59, .inr (1, [.ref 60, .ref 62, .ref 74, .int 0, .ref 68, .ref 71, .ref 64, .ref 66])), (3, .inr (7, [.ref 4, .int 0, .int 1, .int 0, .int 1, .int 0, .null, .int 0, .ref 6, .ref 7])), (0, .inr (8, [.ref 1, .ref 3, .ref 8, .ref 13, .ref 18, .ref 59, .ref 115, .ref 171, .ref 178, .int 0, .int 0, .int 1, .int 0, .int (-1)])), (19, .inr (7, [.ref 4, .int 0, .int (-1), .int 0, .int 1, .int 0, .null, .int 0, .ref 22, .ref 23]))] rfl ?_
  refine aw_istore C dL_law_386 (by decide) rfl ?_
  refine aw_nl [some (.retAddr b), some (.ref 0), some (.ref 181), some (.ref 223), some (.int 0), some (.int 0), none, none] rfl ?_
  refine aw_ald_n C dL_law_388 rfl ?_
  refine aw_raw_n C dL_law_389 rfl ?_
  refine aw_iload C dL_law_390 rfl ?_
  refine aw_iconst C 1 dL_law_392 ki_1 ?_
  refine ae_iadd C 1 dL_law_393 (by decide) ?_
  refine aw_sld C S0 1 (by unfold vp_in; decide) (by decide : _ = 1) e1 dL_law_394 ?_
  refine aw_raw_n C dL_law_395 rfl ?_
  refine aw_iload C dL_law_396 rfl ?_
  refine aw_iconst C 2 dL_law_398 ki_2 ?_
  refine ae_iadd C 2 dL_law_399 (by decide) ?_
  refine aw_sld C S0 a2 (by unfold vp_in; decide) (by decide : _ = 2) e2 dL_law_400 ?_
  refine aw_if_eq C 408 dL_law_401 (by decide) (fun q => absurd q z2) (fun _ => ?_)
  refine aw_iconst C 1 dL_law_404 ki_1 ?_
  refine aw_goto C 409 dL_law_405 (by decide) ?_
  refine ao_callV C (ci := 9) (b := 181) [.int 1, .int 1] [(223, .inl (4, 1, .inr (.inl (vp_updL (fun _ => 0) 0 0)))), (8, .inr (7, [.ref 4, .int 0, .int (-1), .int 0, .int 1, .int 0, .null, .int 0, .ref 11, .ref 12])), (68, .inr (6, [.ref 4, .int 0, .int 0, .int 0, .int 0, .int 0, .int 0, .int 0, .int 0, .int 0])), (59, .inr (1, [.ref 60, .ref 62, .ref 74, .int 0, .ref 68, .ref 71, .ref 64, .ref 66])), (3, .inr (7, [.ref 4, .int 0, .int 1, .int 0, .int 1, .int 0, .null, .int 0, .ref 6, .ref 7])), (0, .inr (8, [.ref 1, .ref 3, .ref 8, .ref 13, .ref 18, .ref 59, .ref 115, .ref 171, .ref 178, .int 0, .int 0, .int 1, .int 0, .int (-1)])), (19, .inr (7, [.ref 4, .int 0, .int (-1), .int 0, .int 1, .int 0, .null, .int 0, .ref 22, .ref 23])), (185, .inl (0, 34776, .inl (cpy (cpy (tl (upd (upd (fun _ => 0) 2 (-1)) 4 1) 40) (fun _ => 0) 4347) (fun _ => 0) 4347))), (182, .inl (0, 4347, .inl (tl (upd (tl (upd (upd (fun _ => 0) 2 (-1)) 4 1) 40) 2 1) 40))), (183, .inl (0, 4347, .inl (cpy (tl (upd (upd (fun _ => 0) 2 (-1)) 4 1) 40) (fun _ => 0) 4347))), (181, .inr (9, (.int 0 :: .ref 182 :: .ref 183 :: .ref 184 :: .ref 185 :: .int 1 :: .int 0 :: .int 0 :: .ref 186 :: .int 0 :: .int 0 :: .int 0 :: .int (-1) :: .ref 187 :: .ref 188 :: .ref 189 :: .int 0 :: .ref 190 :: .ref 191 :: .ref 192 :: .ref 193 :: .ref 194 :: .int 0 :: .ref 195 :: .ref 196 :: .ref 197 :: .int 0 :: .ref 198 :: .ref 199 :: .ref 200 :: .ref 201 :: .ref 202 :: .ref 203 :: .int 0 :: .ref 204 :: .ref 205 :: .ref 206 :: .ref 207 :: .ref 208 :: .ref 209 :: .ref 210 :: .ref 211 :: .ref 212 :: .ref 213 :: .ref 214 :: .int 0 :: .ref 215 :: .ref 216 :: .int 0 :: .ref 217 :: .ref 218 :: .ref 219 :: .ref 220 :: .ref 221 :: .int 0 :: .int 0 :: .int 0 :: .int 0 :: .ref 222 :: .int 0 :: [])))] mv_L_115 rfl rfl h181 (c_X9_kind_291 h181 h183 h182 h185) rfl dL_law_409 (Nat.le_of_ble_eq_true rfl) (Nat.le_of_ble_eq_true rfl) rfl (Nat.le_of_ble_eq_true rfl) (Nat.le_of_ble_eq_true rfl) (Nat.le_of_ble_eq_true rfl) rfl ?_
  refine aw_istore C dL_law_412 (by decide) rfl ?_
  refine aw_nl [some (.retAddr b), some (.ref 0), some (.ref 181), some (.ref 223), some (.int 0), some (.int 0), some (.int 0), none] rfl ?_
  refine aw_ald_n C dL_law_414 rfl ?_
  refine ao_callV C (ci := 9) (b := 181) [] [(223, .inl (4, 1, .inr (.inl (vp_updL (fun _ => 0) 0 0)))), (8, .inr (7, [.ref 4, .int 0, .int (-1), .int 0, .int 1, .int 0, .null, .int 0, .ref 11, .ref 12])), (68, .inr (6, [.ref 4, .int 0, .int 0, .int 0, .int 0, .int 0, .int 0, .int 0, .int 0, .int 0])), (59, .inr (1, [.ref 60, .ref 62, .ref 74, .int 0, .ref 68, .ref 71, .ref 64, .ref 66])), (3, .inr (7, [.ref 4, .int 0, .int 1, .int 0, .int 1, .int 0, .null, .int 0, .ref 6, .ref 7])), (0, .inr (8, [.ref 1, .ref 3, .ref 8, .ref 13, .ref 18, .ref 59, .ref 115, .ref 171, .ref 178, .int 0, .int 0, .int 1, .int 0, .int (-1)])), (19, .inr (7, [.ref 4, .int 0, .int (-1), .int 0, .int 1, .int 0, .null, .int 0, .ref 22, .ref 23])), (185, .inl (0, 34776, .inl (cpy (cpy (tl (upd (upd (fun _ => 0) 2 (-1)) 4 1) 40) (fun _ => 0) 4347) (fun _ => 0) 4347))), (182, .inl (0, 4347, .inl (tl (upd (tl (upd (upd (fun _ => 0) 2 (-1)) 4 1) 40) 2 1) 40))), (183, .inl (0, 4347, .inl (cpy (tl (upd (upd (fun _ => 0) 2 (-1)) 4 1) 40) (fun _ => 0) 4347))), (181, .inr (9, (.int 0 :: .ref 182 :: .ref 183 :: .ref 184 :: .ref 185 :: .int 1 :: .int 0 :: .int 0 :: .ref 186 :: .int 0 :: .int 0 :: .int 0 :: .int (-1) :: .ref 187 :: .ref 188 :: .ref 189 :: .int 0 :: .ref 190 :: .ref 191 :: .ref 192 :: .ref 193 :: .ref 194 :: .int 0 :: .ref 195 :: .ref 196 :: .ref 197 :: .int 0 :: .ref 198 :: .ref 199 :: .ref 200 :: .ref 201 :: .ref 202 :: .ref 203 :: .int 0 :: .ref 204 :: .ref 205 :: .ref 206 :: .ref 207 :: .ref 208 :: .ref 209 :: .ref 210 :: .ref 211 :: .ref 212 :: .ref 213 :: .ref 214 :: .int 0 :: .ref 215 :: .ref 216 :: .int 0 :: .ref 217 :: .ref 218 :: .ref 219 :: .ref 220 :: .ref 221 :: .int 0 :: .int 0 :: .int 0 :: .int 0 :: .ref 222 :: .int 0 :: [])))] mv_L_97 rfl rfl rfl (c_X9_thrown_239 rfl) rfl dL_law_415 (Nat.le_of_ble_eq_true rfl) (Nat.le_of_ble_eq_true rfl) rfl (Nat.le_of_ble_eq_true rfl) (Nat.le_of_ble_eq_true rfl) (Nat.le_of_ble_eq_true rfl) rfl ?_
  refine aw_iload C dL_law_418 rfl ?_
  refine aw_icmp_eq C 425 dL_law_420 (by decide) (fun _ => ?_) (fun q => absurd (by decide) q)
  refine aw_iload C dL_law_425 rfl ?_
  refine aw_if_ne C 442 dL_law_427 (by decide) (fun q => absurd (by decide) q) (fun _ => ?_)
  refine aw_ald_n C dL_law_430 rfl ?_
  refine aw_iconst C 0 dL_law_431 ki_0 ?_
  refine ao_lald C 0 rfl (by unfold vp_in; decide) (by decide : _ = 0) rfl dL_law_432 ?_
  refine aw_iload C dL_law_433 rfl ?_
  refine ae_i2l C 0 dL_law_435 (by decide) ?_
  refine ae_lcmp C 0 dL_law_436 (by decide) ?_
  refine aw_if_eq C 442 dL_law_437 (by decide) (fun _ => ?_) (fun q => absurd (by decide) q)
  refine aw_goto C 1629 dL_law_442 (by decide) ?_
  refine aw_fl [some (.retAddr b), none, none, none, some (.int 0), none, none, none] (by simp [SubL]) ?_
  exact al_tail C S0 (Nat.le_of_ble_eq_true rfl) (Nat.le_of_ble_eq_true rfl)

set_option maxHeartbeats 4000000 in
set_option maxRecDepth 100000 in
theorem lc_6_ea {X : GX} {p : Program} {l : Launch} {e : Env} {s : State} {m : MethodId} {below : List Frame} {meth : Method} {c : Code} {b : Nat} {xs : Nat → Int32} {f : AH} {n : Nat} {a3 : Int32} {a4 : Int32} {a5 : Int32} {g74 : Nat → Option Nat} (C : CC X p l room_1 s m #[Value.ref b] meth c RL cL_law 8 ret) (S0 : SC X b 6 xs s) (hl0 : l.stackTraces = false) (e1 : xs 1 = 2) (e2 : xs 2 = 0) (e3 : xs 3 = a3) (e4 : xs 4 = a4) (e5 : xs 5 = a5) (h0 : f 0 = some (.inr (8, [.ref 1, .ref 3, .ref 8, .ref 13, .ref 18, .ref 59, .ref 115, .ref 171, .ref 178, .int 0, .int 0, .int 0, .int 0, .int (-1)]))) (h3 : f 3 = some (.inr (7, [.ref 4, .int 0, .int (-1), .int 0, .int 1, .int 0, .null, .int 0, .ref 6, .ref 7]))) (h8 : f 8 = some (.inr (7, [.ref 9, .int 0, .int (-1), .int 0, .int 1, .int 0, .null, .int 0, .ref 11, .ref 12]))) (h11 : f 11 = some (.inl (2, 4, .inr (.inr (fun _ => none))))) (h6 : f 6 = some (.inl (2, 4, .inr (.inr (fun _ => none))))) (h12 : f 12 = some (.inl (2, 40, .inr (.inr (fun _ => none))))) (h7 : f 7 = some (.inl (2, 40, .inr (.inr (fun _ => none))))) (h59 : f 59 = some (.inr (1, [.ref 60, .ref 62, .ref 74, .int 0, .ref 68, .ref 71, .ref 64, .ref 66]))) (h60 : f 60 = some (.inr (5, [.ref 61, .int 0]))) (h62 : f 62 = some (.inr (5, [.ref 63, .int 0]))) (h68 : f 68 = some (.inr (6, [.ref 69, .int 0, .int 0, .int 0, .int 0, .int 0, .int 0, .int 0, .int 0, .int 0]))) (h74 : f 74 = some (.inl (1, 40, .inr (.inr g74)))) (h4 : f 4 = some (.inr (5, [.ref 5, .int 0]))) (h171 : f 171 = some (.inr (0, [.ref 172, .ref 174, .ref 176, .int 0]))) (h172 : f 172 = some (.inr (5, [.ref 173, .int 0]))) (h18 : f 18 = some (.inl (3, 8, .inr (.inr (va_up (va_up (va_up (va_up (va_up (va_up (va_up (va_up (fun _ => none) 0 (some 19)) 1 (some 24)) 2 (some 29)) 3 (some 34)) 4 (some 39)) 5 (some 44)) 6 (some 49)) 7 (some 54)))))) (h19 : f 19 = some (.inr (7, [.ref 20, .int 0, .int (-1), .int 0, .int 1, .int 0, .null, .int 0, .ref 22, .ref 23]))) (h22 : f 22 = some (.inl (2, 4, .inr (.inr (fun _ => none))))) (h23 : f 23 = some (.inl (2, 40, .inr (.inr (fun _ => none))))) (h223 : f 223 = some (.inl (4, 1, .inr (.inl (fun _ => 0))))) (h181 : f 181 = some (.inr (9, (.int 0 :: .ref 182 :: .ref 183 :: .ref 184 :: .ref 185 :: .int 0 :: .int 0 :: .int 0 :: .ref 186 :: .int 0 :: .int 0 :: .int 0 :: .int (-1) :: .ref 187 :: .ref 188 :: .ref 189 :: .int 0 :: .ref 190 :: .ref 191 :: .ref 192 :: .ref 193 :: .ref 194 :: .int 0 :: .ref 195 :: .ref 196 :: .ref 197 :: .int 0 :: .ref 198 :: .ref 199 :: .ref 200 :: .ref 201 :: .ref 202 :: .ref 203 :: .int 0 :: .ref 204 :: .ref 205 :: .ref 206 :: .ref 207 :: .ref 208 :: .ref 209 :: .ref 210 :: .ref 211 :: .ref 212 :: .ref 213 :: .ref 214 :: .int 0 :: .ref 215 :: .ref 216 :: .int 0 :: .ref 217 :: .ref 218 :: .ref 219 :: .ref 220 :: .ref 221 :: .int 0 :: .int 0 :: .int 0 :: .int 0 :: .ref 222 :: .int 0 :: [])))) (h183 : f 183 = some (.inl (0, 4347, .inl (fun _ => 0)))) (h182 : f 182 = some (.inl (0, 4347, .inl (tl (upd (upd (fun _ => 0) 2 (-1)) 4 1) 40)))) (h185 : f 185 = some (.inl (0, 34776, .inl (fun _ => 0)))) : AW X p l e room_1 s m #[Value.ref b] below meth c 8 (lw_Z below #[Value.ref b] s) f n 1000 300000 361 [some (.retAddr b), some (.ref 0), some (.ref 181), some (.ref 223), some (.int 0), none, none, none] [] := by
  refine ao_start ?_
  refine aw_ald_n C dL_law_361 rfl ?_
  refine aw_raw_n C dL_law_362 rfl ?_
  refine aw_iload C dL_law_363 rfl ?_
  refine aw_iconst C 1 dL_law_365 ki_1 ?_
  refine ae_iadd C 1 dL_law_366 (by decide) ?_
  refine aw_sld C S0 2 (by unfold vp_in; decide) (by decide : _ = 1) e1 dL_law_367 ?_
  refine aw_raw_n C dL_law_368 rfl ?_
  refine aw_iload C dL_law_369 rfl ?_
  refine aw_iconst C 2 dL_law_371 ki_2 ?_
  refine ae_iadd C 2 dL_law_372 (by decide) ?_
  refine aw_sld C S0 0 (by unfold vp_in; decide) (by decide : _ = 2) e2 dL_law_373 ?_
  refine aw_if_eq C 381 dL_law_374 (by decide) (fun _ => ?_) (fun q => absurd (by decide) q)
  refine aw_iconst C 0 dL_law_381 ki_0 ?_
  refine aw_ald_n C dL_law_382 rfl ?_
  refine aw_callSW C [.ref 0, .int 2, .int 0, .ref 223] mw_L_112 (c_L_kind_300 h0 h3 h8 h11 h6 h12 h7 h59 h60 h62 h68 h74 h4 h171 h172 h18 h19 h22 h23 h223) rfl dL_law_383 (Nat.le_of_ble_eq_true rfl) (Nat.le_of_ble_eq_true rfl) rfl (Nat.le_of_ble_eq_true rfl) (Nat.le_of_ble_eq_true rfl) (Nat.le_of_ble_eq_true rfl) (fun v9 f9 n9 h9 => ?_)
  obtain ⟨rfl, rfl, rfl⟩ := h9
  refine ao_flat [(223, .inl (4, 1, .inr (.inl (vp_updL (fun _ => 0) 0 0)))), (8, .inr (7, [.ref 4, .int 0, .int (-1), .int 0, .int 1, .int 0, .null, .int 0, .ref 11, .ref 12])), (68, .inr (6, [.ref 4, .int 0, .int 0, .int 0, .int 0, .int 0, .int 0, .int 0, .int 2, .int 0])), (59, .inr (1, [.ref 60, .ref 62, .ref 74, .int 0, .ref 68, .ref 71, .ref 64, .ref 66])), (3, .inr (7, [.ref 4, .int 2, .int (-1), .int 0, .int 1, .int 0, .null, .int 0, .ref 6, .ref 7])), (0, .inr (8, [.ref 1, .ref 3, .ref 8, .ref 13, .ref 18, .ref 59, .ref 115, .ref 171, .ref 178, .int 0, .int 0, .int 1, .int 0, .int (-1)])), (19, .inr (7, [.ref 4, .int 0, .int (-1), .int 0, .int 1, .int 0, .null, .int 0, .ref 22, .ref 23]))] rfl ?_
  refine aw_istore C dL_law_386 (by decide) rfl ?_
  refine aw_nl [some (.retAddr b), some (.ref 0), some (.ref 181), some (.ref 223), some (.int 0), some (.int 0), none, none] rfl ?_
  refine aw_ald_n C dL_law_388 rfl ?_
  refine aw_raw_n C dL_law_389 rfl ?_
  refine aw_iload C dL_law_390 rfl ?_
  refine aw_iconst C 1 dL_law_392 ki_1 ?_
  refine ae_iadd C 1 dL_law_393 (by decide) ?_
  refine aw_sld C S0 2 (by unfold vp_in; decide) (by decide : _ = 1) e1 dL_law_394 ?_
  refine aw_raw_n C dL_law_395 rfl ?_
  refine aw_iload C dL_law_396 rfl ?_
  refine aw_iconst C 2 dL_law_398 ki_2 ?_
  refine ae_iadd C 2 dL_law_399 (by decide) ?_
  refine aw_sld C S0 0 (by unfold vp_in; decide) (by decide : _ = 2) e2 dL_law_400 ?_
  refine aw_if_eq C 408 dL_law_401 (by decide) (fun _ => ?_) (fun q => absurd (by decide) q)
  refine aw_iconst C 0 dL_law_408 ki_0 ?_
  refine ao_callV C (ci := 9) (b := 181) [.int 2, .int 0] [(223, .inl (4, 1, .inr (.inl (vp_updL (fun _ => 0) 0 0)))), (8, .inr (7, [.ref 4, .int 0, .int (-1), .int 0, .int 1, .int 0, .null, .int 0, .ref 11, .ref 12])), (68, .inr (6, [.ref 4, .int 0, .int 0, .int 0, .int 0, .int 0, .int 0, .int 0, .int 2, .int 0])), (59, .inr (1, [.ref 60, .ref 62, .ref 74, .int 0, .ref 68, .ref 71, .ref 64, .ref 66])), (3, .inr (7, [.ref 4, .int 2, .int (-1), .int 0, .int 1, .int 0, .null, .int 0, .ref 6, .ref 7])), (0, .inr (8, [.ref 1, .ref 3, .ref 8, .ref 13, .ref 18, .ref 59, .ref 115, .ref 171, .ref 178, .int 0, .int 0, .int 1, .int 0, .int (-1)])), (19, .inr (7, [.ref 4, .int 0, .int (-1), .int 0, .int 1, .int 0, .null, .int 0, .ref 22, .ref 23])), (185, .inl (0, 34776, .inl (cpy (cpy (tl (upd (upd (fun _ => 0) 2 (-1)) 4 1) 40) (fun _ => 0) 4347) (fun _ => 0) 4347))), (182, .inl (0, 4347, .inl (tl (upd (tl (upd (upd (fun _ => 0) 2 (-1)) 4 1) 40) 1 2) 40))), (183, .inl (0, 4347, .inl (cpy (tl (upd (upd (fun _ => 0) 2 (-1)) 4 1) 40) (fun _ => 0) 4347))), (181, .inr (9, (.int 0 :: .ref 182 :: .ref 183 :: .ref 184 :: .ref 185 :: .int 1 :: .int 0 :: .int 0 :: .ref 186 :: .int 0 :: .int 0 :: .int 0 :: .int (-1) :: .ref 187 :: .ref 188 :: .ref 189 :: .int 0 :: .ref 190 :: .ref 191 :: .ref 192 :: .ref 193 :: .ref 194 :: .int 0 :: .ref 195 :: .ref 196 :: .ref 197 :: .int 0 :: .ref 198 :: .ref 199 :: .ref 200 :: .ref 201 :: .ref 202 :: .ref 203 :: .int 0 :: .ref 204 :: .ref 205 :: .ref 206 :: .ref 207 :: .ref 208 :: .ref 209 :: .ref 210 :: .ref 211 :: .ref 212 :: .ref 213 :: .ref 214 :: .int 0 :: .ref 215 :: .ref 216 :: .int 0 :: .ref 217 :: .ref 218 :: .ref 219 :: .ref 220 :: .ref 221 :: .int 0 :: .int 0 :: .int 0 :: .int 0 :: .ref 222 :: .int 0 :: [])))] mv_L_115 rfl rfl h181 (c_X9_kind_308 h181 h183 h182 h185) rfl dL_law_409 (Nat.le_of_ble_eq_true rfl) (Nat.le_of_ble_eq_true rfl) rfl (Nat.le_of_ble_eq_true rfl) (Nat.le_of_ble_eq_true rfl) (Nat.le_of_ble_eq_true rfl) rfl ?_
  refine aw_istore C dL_law_412 (by decide) rfl ?_
  refine aw_nl [some (.retAddr b), some (.ref 0), some (.ref 181), some (.ref 223), some (.int 0), some (.int 0), some (.int 0), none] rfl ?_
  refine aw_ald_n C dL_law_414 rfl ?_
  refine ao_callV C (ci := 9) (b := 181) [] [(223, .inl (4, 1, .inr (.inl (vp_updL (fun _ => 0) 0 0)))), (8, .inr (7, [.ref 4, .int 0, .int (-1), .int 0, .int 1, .int 0, .null, .int 0, .ref 11, .ref 12])), (68, .inr (6, [.ref 4, .int 0, .int 0, .int 0, .int 0, .int 0, .int 0, .int 0, .int 2, .int 0])), (59, .inr (1, [.ref 60, .ref 62, .ref 74, .int 0, .ref 68, .ref 71, .ref 64, .ref 66])), (3, .inr (7, [.ref 4, .int 2, .int (-1), .int 0, .int 1, .int 0, .null, .int 0, .ref 6, .ref 7])), (0, .inr (8, [.ref 1, .ref 3, .ref 8, .ref 13, .ref 18, .ref 59, .ref 115, .ref 171, .ref 178, .int 0, .int 0, .int 1, .int 0, .int (-1)])), (19, .inr (7, [.ref 4, .int 0, .int (-1), .int 0, .int 1, .int 0, .null, .int 0, .ref 22, .ref 23])), (185, .inl (0, 34776, .inl (cpy (cpy (tl (upd (upd (fun _ => 0) 2 (-1)) 4 1) 40) (fun _ => 0) 4347) (fun _ => 0) 4347))), (182, .inl (0, 4347, .inl (tl (upd (tl (upd (upd (fun _ => 0) 2 (-1)) 4 1) 40) 1 2) 40))), (183, .inl (0, 4347, .inl (cpy (tl (upd (upd (fun _ => 0) 2 (-1)) 4 1) 40) (fun _ => 0) 4347))), (181, .inr (9, (.int 0 :: .ref 182 :: .ref 183 :: .ref 184 :: .ref 185 :: .int 1 :: .int 0 :: .int 0 :: .ref 186 :: .int 0 :: .int 0 :: .int 0 :: .int (-1) :: .ref 187 :: .ref 188 :: .ref 189 :: .int 0 :: .ref 190 :: .ref 191 :: .ref 192 :: .ref 193 :: .ref 194 :: .int 0 :: .ref 195 :: .ref 196 :: .ref 197 :: .int 0 :: .ref 198 :: .ref 199 :: .ref 200 :: .ref 201 :: .ref 202 :: .ref 203 :: .int 0 :: .ref 204 :: .ref 205 :: .ref 206 :: .ref 207 :: .ref 208 :: .ref 209 :: .ref 210 :: .ref 211 :: .ref 212 :: .ref 213 :: .ref 214 :: .int 0 :: .ref 215 :: .ref 216 :: .int 0 :: .ref 217 :: .ref 218 :: .ref 219 :: .ref 220 :: .ref 221 :: .int 0 :: .int 0 :: .int 0 :: .int 0 :: .ref 222 :: .int 0 :: [])))] mv_L_97 rfl rfl rfl (c_X9_thrown_239 rfl) rfl dL_law_415 (Nat.le_of_ble_eq_true rfl) (Nat.le_of_ble_eq_true rfl) rfl (Nat.le_of_ble_eq_true rfl) (Nat.le_of_ble_eq_true rfl) (Nat.le_of_ble_eq_true rfl) rfl ?_
  refine aw_iload C dL_law_418 rfl ?_
  refine aw_icmp_eq C 425 dL_law_420 (by decide) (fun _ => ?_) (fun q => absurd (by decide) q)
  refine aw_iload C dL_law_425 rfl ?_
  refine aw_if_ne C 442 dL_law_427 (by decide) (fun q => absurd (by decide) q) (fun _ => ?_)
  refine aw_ald_n C dL_law_430 rfl ?_
  refine aw_iconst C 0 dL_law_431 ki_0 ?_
  refine ao_lald C 0 rfl (by unfold vp_in; decide) (by decide : _ = 0) rfl dL_law_432 ?_
  refine aw_iload C dL_law_433 rfl ?_
  refine ae_i2l C 0 dL_law_435 (by decide) ?_
  refine ae_lcmp C 0 dL_law_436 (by decide) ?_
  refine aw_if_eq C 442 dL_law_437 (by decide) (fun _ => ?_) (fun q => absurd (by decide) q)
  refine aw_goto C 1629 dL_law_442 (by decide) ?_
  refine aw_fl [some (.retAddr b), none, none, none, some (.int 0), none, none, none] (by simp [SubL]) ?_
  exact al_tail C S0 (Nat.le_of_ble_eq_true rfl) (Nat.le_of_ble_eq_true rfl)

set_option maxHeartbeats 4000000 in
set_option maxRecDepth 100000 in
theorem lc_6_eb {X : GX} {p : Program} {l : Launch} {e : Env} {s : State} {m : MethodId} {below : List Frame} {meth : Method} {c : Code} {b : Nat} {xs : Nat → Int32} {f : AH} {n : Nat} {a2 : Int32} {a3 : Int32} {a4 : Int32} {a5 : Int32} {g74 : Nat → Option Nat} (C : CC X p l room_1 s m #[Value.ref b] meth c RL cL_law 8 ret) (S0 : SC X b 6 xs s) (hl0 : l.stackTraces = false) (e1 : xs 1 = 2) (e2 : xs 2 = a2) (z2 : ¬ a2 = 0) (e3 : xs 3 = a3) (e4 : xs 4 = a4) (e5 : xs 5 = a5) (h0 : f 0 = some (.inr (8, [.ref 1, .ref 3, .ref 8, .ref 13, .ref 18, .ref 59, .ref 115, .ref 171, .ref 178, .int 0, .int 0, .int 0, .int 0, .int (-1)]))) (h3 : f 3 = some (.inr (7, [.ref 4, .int 0, .int (-1), .int 0, .int 1, .int 0, .null, .int 0, .ref 6, .ref 7]))) (h8 : f 8 = some (.inr (7, [.ref 9, .int 0, .int (-1), .int 0, .int 1, .int 0, .null, .int 0, .ref 11, .ref 12]))) (h11 : f 11 = some (.inl (2, 4, .inr (.inr (fun _ => none))))) (h6 : f 6 = some (.inl (2, 4, .inr (.inr (fun _ => none))))) (h12 : f 12 = some (.inl (2, 40, .inr (.inr (fun _ => none))))) (h7 : f 7 = some (.inl (2, 40, .inr (.inr (fun _ => none))))) (h59 : f 59 = some (.inr (1, [.ref 60, .ref 62, .ref 74, .int 0, .ref 68, .ref 71, .ref 64, .ref 66]))) (h60 : f 60 = some (.inr (5, [.ref 61, .int 0]))) (h62 : f 62 = some (.inr (5, [.ref 63, .int 0]))) (h68 : f 68 = some (.inr (6, [.ref 69, .int 0, .int 0, .int 0, .int 0, .int 0, .int 0, .int 0, .int 0, .int 0]))) (h74 : f 74 = some (.inl (1, 40, .inr (.inr g74)))) (h4 : f 4 = some (.inr (5, [.ref 5, .int 0]))) (h171 : f 171 = some (.inr (0, [.ref 172, .ref 174, .ref 176, .int 0]))) (h172 : f 172 = some (.inr (5, [.ref 173, .int 0]))) (h18 : f 18 = some (.inl (3, 8, .inr (.inr (va_up (va_up (va_up (va_up (va_up (va_up (va_up (va_up (fun _ => none) 0 (some 19)) 1 (some 24)) 2 (some 29)) 3 (some 34)) 4 (some 39)) 5 (some 44)) 6 (some 49)) 7 (some 54)))))) (h19 : f 19 = some (.inr (7, [.ref 20, .int 0, .int (-1), .int 0, .int 1, .int 0, .null, .int 0, .ref 22, .ref 23]))) (h22 : f 22 = some (.inl (2, 4, .inr (.inr (fun _ => none))))) (h23 : f 23 = some (.inl (2, 40, .inr (.inr (fun _ => none))))) (h223 : f 223 = some (.inl (4, 1, .inr (.inl (fun _ => 0))))) (h181 : f 181 = some (.inr (9, (.int 0 :: .ref 182 :: .ref 183 :: .ref 184 :: .ref 185 :: .int 0 :: .int 0 :: .int 0 :: .ref 186 :: .int 0 :: .int 0 :: .int 0 :: .int (-1) :: .ref 187 :: .ref 188 :: .ref 189 :: .int 0 :: .ref 190 :: .ref 191 :: .ref 192 :: .ref 193 :: .ref 194 :: .int 0 :: .ref 195 :: .ref 196 :: .ref 197 :: .int 0 :: .ref 198 :: .ref 199 :: .ref 200 :: .ref 201 :: .ref 202 :: .ref 203 :: .int 0 :: .ref 204 :: .ref 205 :: .ref 206 :: .ref 207 :: .ref 208 :: .ref 209 :: .ref 210 :: .ref 211 :: .ref 212 :: .ref 213 :: .ref 214 :: .int 0 :: .ref 215 :: .ref 216 :: .int 0 :: .ref 217 :: .ref 218 :: .ref 219 :: .ref 220 :: .ref 221 :: .int 0 :: .int 0 :: .int 0 :: .int 0 :: .ref 222 :: .int 0 :: [])))) (h183 : f 183 = some (.inl (0, 4347, .inl (fun _ => 0)))) (h182 : f 182 = some (.inl (0, 4347, .inl (tl (upd (upd (fun _ => 0) 2 (-1)) 4 1) 40)))) (h185 : f 185 = some (.inl (0, 34776, .inl (fun _ => 0)))) : AW X p l e room_1 s m #[Value.ref b] below meth c 8 (lw_Z below #[Value.ref b] s) f n 1000 300000 361 [some (.retAddr b), some (.ref 0), some (.ref 181), some (.ref 223), some (.int 0), none, none, none] [] := by
  refine ao_start ?_
  refine aw_ald_n C dL_law_361 rfl ?_
  refine aw_raw_n C dL_law_362 rfl ?_
  refine aw_iload C dL_law_363 rfl ?_
  refine aw_iconst C 1 dL_law_365 ki_1 ?_
  refine ae_iadd C 1 dL_law_366 (by decide) ?_
  refine aw_sld C S0 2 (by unfold vp_in; decide) (by decide : _ = 1) e1 dL_law_367 ?_
  refine aw_raw_n C dL_law_368 rfl ?_
  refine aw_iload C dL_law_369 rfl ?_
  refine aw_iconst C 2 dL_law_371 ki_2 ?_
  refine ae_iadd C 2 dL_law_372 (by decide) ?_
  refine aw_sld C S0 a2 (by unfold vp_in; decide) (by decide : _ = 2) e2 dL_law_373 ?_
  refine aw_if_eq C 381 dL_law_374 (by decide) (fun q => absurd q z2) (fun _ => ?_)
  refine aw_iconst C 1 dL_law_377 ki_1 ?_
  refine aw_goto C 382 dL_law_378 (by decide) ?_
  refine aw_ald_n C dL_law_382 rfl ?_
  refine aw_callSW C [.ref 0, .int 2, .int 1, .ref 223] mw_L_112 (c_L_kind_315 h0 h3 h8 h11 h6 h12 h7 h59 h60 h62 h68 h74 h4 h171 h172 h18 h19 h22 h23 h223) rfl dL_law_383 (Nat.le_of_ble_eq_true rfl) (Nat.le_of_ble_eq_true rfl) rfl (Nat.le_of_ble_eq_true rfl) (Nat.le_of_ble_eq_true rfl) (Nat.le_of_ble_eq_true rfl) (fun v9 f9 n9 h9 => ?_)
  obtain ⟨rfl, rfl, rfl⟩ := h9
  refine ao_flat [(223, .inl (4, 1, .inr (.inl (vp_updL (fun _ => 0) 0 0)))), (8, .inr (7, [.ref 4, .int 0, .int (-1), .int 0, .int 1, .int 0, .null, .int 0, .ref 11, .ref 12])), (68, .inr (6, [.ref 4, .int 0, .int 0, .int 0, .int 0, .int 0, .int 0, .int 0, .int 0, .int 0])), (59, .inr (1, [.ref 60, .ref 62, .ref 74, .int 0, .ref 68, .ref 71, .ref 64, .ref 66])), (3, .inr (7, [.ref 4, .int 0, .int 2, .int 0, .int 1, .int 0, .null, .int 0, .ref 6, .ref 7])), (0, .inr (8, [.ref 1, .ref 3, .ref 8, .ref 13, .ref 18, .ref 59, .ref 115, .ref 171, .ref 178, .int 0, .int 0, .int 1, .int 0, .int (-1)])), (19, .inr (7, [.ref 4, .int 0, .int (-1), .int 0, .int 1, .int 0, .null, .int 0, .ref 22, .ref 23]))] rfl ?_
  refine aw_istore C dL_law_386 (by decide) rfl ?_
  refine aw_nl [some (.retAddr b), some (.ref 0), some (.ref 181), some (.ref 223), some (.int 0), some (.int 0), none, none] rfl ?_
  refine aw_ald_n C dL_law_388 rfl ?_
  refine aw_raw_n C dL_law_389 rfl ?_
  refine aw_iload C dL_law_390 rfl ?_
  refine aw_iconst C 1 dL_law_392 ki_1 ?_
  refine ae_iadd C 1 dL_law_393 (by decide) ?_
  refine aw_sld C S0 2 (by unfold vp_in; decide) (by decide : _ = 1) e1 dL_law_394 ?_
  refine aw_raw_n C dL_law_395 rfl ?_
  refine aw_iload C dL_law_396 rfl ?_
  refine aw_iconst C 2 dL_law_398 ki_2 ?_
  refine ae_iadd C 2 dL_law_399 (by decide) ?_
  refine aw_sld C S0 a2 (by unfold vp_in; decide) (by decide : _ = 2) e2 dL_law_400 ?_
  refine aw_if_eq C 408 dL_law_401 (by decide) (fun q => absurd q z2) (fun _ => ?_)
  refine aw_iconst C 1 dL_law_404 ki_1 ?_
  refine aw_goto C 409 dL_law_405 (by decide) ?_
  refine ao_callV C (ci := 9) (b := 181) [.int 2, .int 1] [(223, .inl (4, 1, .inr (.inl (vp_updL (fun _ => 0) 0 0)))), (8, .inr (7, [.ref 4, .int 0, .int (-1), .int 0, .int 1, .int 0, .null, .int 0, .ref 11, .ref 12])), (68, .inr (6, [.ref 4, .int 0, .int 0, .int 0, .int 0, .int 0, .int 0, .int 0, .int 0, .int 0])), (59, .inr (1, [.ref 60, .ref 62, .ref 74, .int 0, .ref 68, .ref 71, .ref 64, .ref 66])), (3, .inr (7, [.ref 4, .int 0, .int 2, .int 0, .int 1, .int 0, .null, .int 0, .ref 6, .ref 7])), (0, .inr (8, [.ref 1, .ref 3, .ref 8, .ref 13, .ref 18, .ref 59, .ref 115, .ref 171, .ref 178, .int 0, .int 0, .int 1, .int 0, .int (-1)])), (19, .inr (7, [.ref 4, .int 0, .int (-1), .int 0, .int 1, .int 0, .null, .int 0, .ref 22, .ref 23])), (185, .inl (0, 34776, .inl (cpy (cpy (tl (upd (upd (fun _ => 0) 2 (-1)) 4 1) 40) (fun _ => 0) 4347) (fun _ => 0) 4347))), (182, .inl (0, 4347, .inl (tl (upd (tl (upd (upd (fun _ => 0) 2 (-1)) 4 1) 40) 2 2) 40))), (183, .inl (0, 4347, .inl (cpy (tl (upd (upd (fun _ => 0) 2 (-1)) 4 1) 40) (fun _ => 0) 4347))), (181, .inr (9, (.int 0 :: .ref 182 :: .ref 183 :: .ref 184 :: .ref 185 :: .int 1 :: .int 0 :: .int 0 :: .ref 186 :: .int 0 :: .int 0 :: .int 0 :: .int (-1) :: .ref 187 :: .ref 188 :: .ref 189 :: .int 0 :: .ref 190 :: .ref 191 :: .ref 192 :: .ref 193 :: .ref 194 :: .int 0 :: .ref 195 :: .ref 196 :: .ref 197 :: .int 0 :: .ref 198 :: .ref 199 :: .ref 200 :: .ref 201 :: .ref 202 :: .ref 203 :: .int 0 :: .ref 204 :: .ref 205 :: .ref 206 :: .ref 207 :: .ref 208 :: .ref 209 :: .ref 210 :: .ref 211 :: .ref 212 :: .ref 213 :: .ref 214 :: .int 0 :: .ref 215 :: .ref 216 :: .int 0 :: .ref 217 :: .ref 218 :: .ref 219 :: .ref 220 :: .ref 221 :: .int 0 :: .int 0 :: .int 0 :: .int 0 :: .ref 222 :: .int 0 :: [])))] mv_L_115 rfl rfl h181 (c_X9_kind_321 h181 h183 h182 h185) rfl dL_law_409 (Nat.le_of_ble_eq_true rfl) (Nat.le_of_ble_eq_true rfl) rfl (Nat.le_of_ble_eq_true rfl) (Nat.le_of_ble_eq_true rfl) (Nat.le_of_ble_eq_true rfl) rfl ?_
  refine aw_istore C dL_law_412 (by decide) rfl ?_
  refine aw_nl [some (.retAddr b), some (.ref 0), some (.ref 181), some (.ref 223), some (.int 0), some (.int 0), some (.int 0), none] rfl ?_
  refine aw_ald_n C dL_law_414 rfl ?_
  refine ao_callV C (ci := 9) (b := 181) [] [(223, .inl (4, 1, .inr (.inl (vp_updL (fun _ => 0) 0 0)))), (8, .inr (7, [.ref 4, .int 0, .int (-1), .int 0, .int 1, .int 0, .null, .int 0, .ref 11, .ref 12])), (68, .inr (6, [.ref 4, .int 0, .int 0, .int 0, .int 0, .int 0, .int 0, .int 0, .int 0, .int 0])), (59, .inr (1, [.ref 60, .ref 62, .ref 74, .int 0, .ref 68, .ref 71, .ref 64, .ref 66])), (3, .inr (7, [.ref 4, .int 0, .int 2, .int 0, .int 1, .int 0, .null, .int 0, .ref 6, .ref 7])), (0, .inr (8, [.ref 1, .ref 3, .ref 8, .ref 13, .ref 18, .ref 59, .ref 115, .ref 171, .ref 178, .int 0, .int 0, .int 1, .int 0, .int (-1)])), (19, .inr (7, [.ref 4, .int 0, .int (-1), .int 0, .int 1, .int 0, .null, .int 0, .ref 22, .ref 23])), (185, .inl (0, 34776, .inl (cpy (cpy (tl (upd (upd (fun _ => 0) 2 (-1)) 4 1) 40) (fun _ => 0) 4347) (fun _ => 0) 4347))), (182, .inl (0, 4347, .inl (tl (upd (tl (upd (upd (fun _ => 0) 2 (-1)) 4 1) 40) 2 2) 40))), (183, .inl (0, 4347, .inl (cpy (tl (upd (upd (fun _ => 0) 2 (-1)) 4 1) 40) (fun _ => 0) 4347))), (181, .inr (9, (.int 0 :: .ref 182 :: .ref 183 :: .ref 184 :: .ref 185 :: .int 1 :: .int 0 :: .int 0 :: .ref 186 :: .int 0 :: .int 0 :: .int 0 :: .int (-1) :: .ref 187 :: .ref 188 :: .ref 189 :: .int 0 :: .ref 190 :: .ref 191 :: .ref 192 :: .ref 193 :: .ref 194 :: .int 0 :: .ref 195 :: .ref 196 :: .ref 197 :: .int 0 :: .ref 198 :: .ref 199 :: .ref 200 :: .ref 201 :: .ref 202 :: .ref 203 :: .int 0 :: .ref 204 :: .ref 205 :: .ref 206 :: .ref 207 :: .ref 208 :: .ref 209 :: .ref 210 :: .ref 211 :: .ref 212 :: .ref 213 :: .ref 214 :: .int 0 :: .ref 215 :: .ref 216 :: .int 0 :: .ref 217 :: .ref 218 :: .ref 219 :: .ref 220 :: .ref 221 :: .int 0 :: .int 0 :: .int 0 :: .int 0 :: .ref 222 :: .int 0 :: [])))] mv_L_97 rfl rfl rfl (c_X9_thrown_239 rfl) rfl dL_law_415 (Nat.le_of_ble_eq_true rfl) (Nat.le_of_ble_eq_true rfl) rfl (Nat.le_of_ble_eq_true rfl) (Nat.le_of_ble_eq_true rfl) (Nat.le_of_ble_eq_true rfl) rfl ?_
  refine aw_iload C dL_law_418 rfl ?_
  refine aw_icmp_eq C 425 dL_law_420 (by decide) (fun _ => ?_) (fun q => absurd (by decide) q)
  refine aw_iload C dL_law_425 rfl ?_
  refine aw_if_ne C 442 dL_law_427 (by decide) (fun q => absurd (by decide) q) (fun _ => ?_)
  refine aw_ald_n C dL_law_430 rfl ?_
  refine aw_iconst C 0 dL_law_431 ki_0 ?_
  refine ao_lald C 0 rfl (by unfold vp_in; decide) (by decide : _ = 0) rfl dL_law_432 ?_
  refine aw_iload C dL_law_433 rfl ?_
  refine ae_i2l C 0 dL_law_435 (by decide) ?_
  refine ae_lcmp C 0 dL_law_436 (by decide) ?_
  refine aw_if_eq C 442 dL_law_437 (by decide) (fun _ => ?_) (fun q => absurd (by decide) q)
  refine aw_goto C 1629 dL_law_442 (by decide) ?_
  refine aw_fl [some (.retAddr b), none, none, none, some (.int 0), none, none, none] (by simp [SubL]) ?_
  exact al_tail C S0 (Nat.le_of_ble_eq_true rfl) (Nat.le_of_ble_eq_true rfl)

