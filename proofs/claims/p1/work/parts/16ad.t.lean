set_option maxHeartbeats 4000000 in
set_option maxRecDepth 100000 in
theorem lc_22_a {X : GX} {p : Program} {l : Launch} {e : Env} {s : State} {m : MethodId} {below : List Frame} {meth : Method} {c : Code} {b : Nat} {xs : Nat → Int32} {f : AH} {n : Nat} {a1 : Int32} {a2 : Int32} {a3 : Int32} {a4 : Int32} {a5 : Int32} (C : CC X p l room_1 s m #[Value.ref b] meth c RL cL_law 8 ret) (S0 : SC X b 6 xs s) (hl0 : l.stackTraces = false) (e1 : xs 1 = a1) (q1 : (-2147483648) ≤ a1.toInt ∧ a1.toInt ≤ (-1)) (e2 : xs 2 = a2) (e3 : xs 3 = a3) (e4 : xs 4 = a4) (e5 : xs 5 = a5) (h0 : f 0 = some (.inr (8, [.ref 1, .ref 3, .ref 8, .ref 13, .ref 18, .ref 59, .ref 115, .ref 171, .ref 178, .int 0, .int 0, .int 0, .int 0, .int (-1)]))) (h59 : f 59 = some (.inr (1, [.ref 60, .ref 62, .ref 74, .int 0, .ref 68, .ref 71, .ref 64, .ref 66]))) (h181 : f 181 = some (.inr (9, (.int 0 :: .ref 182 :: .ref 183 :: .ref 184 :: .ref 185 :: .int 0 :: .int 0 :: .int 0 :: .ref 186 :: .int 0 :: .int 0 :: .int 0 :: .int (-1) :: .ref 187 :: .ref 188 :: .ref 189 :: .int 0 :: .ref 190 :: .ref 191 :: .ref 192 :: .ref 193 :: .ref 194 :: .int 0 :: .ref 195 :: .ref 196 :: .ref 197 :: .int 0 :: .ref 198 :: .ref 199 :: .ref 200 :: .ref 201 :: .ref 202 :: .ref 203 :: .int 0 :: .ref 204 :: .ref 205 :: .ref 206 :: .ref 207 :: .ref 208 :: .ref 209 :: .ref 210 :: .ref 211 :: .ref 212 :: .ref 213 :: .ref 214 :: .int 0 :: .ref 215 :: .ref 216 :: .int 0 :: .ref 217 :: .ref 218 :: .ref 219 :: .ref 220 :: .ref 221 :: .int 0 :: .int 0 :: .int 0 :: .int 0 :: .ref 222 :: .int 0 :: [])))) : AW X p l e room_1 s m #[Value.ref b] below meth c 8 (lw_Z below #[Value.ref b] s) f n 1000 300000 1272 [some (.retAddr b), some (.ref 0), some (.ref 181), some (.ref 223), some (.int 0), none, none, none] [] := by
  refine ao_start ?_
  obtain ⟨q1a, q1b⟩ := q1
  refine aw_ald_n C dL_law_1272 rfl ?_
  refine aw_raw_n C dL_law_1273 rfl ?_
  refine aw_iload C dL_law_1274 rfl ?_
  refine aw_iconst C 1 dL_law_1276 ki_1 ?_
  refine ae_iadd C 1 dL_law_1277 (by decide) ?_
  refine aw_sld C S0 a1 (by unfold vp_in; decide) (by decide : _ = 1) e1 dL_law_1278 ?_
  refine aw_raw_n C dL_law_1279 rfl ?_
  refine aw_iload C dL_law_1280 rfl ?_
  refine aw_iconst C 2 dL_law_1282 ki_2 ?_
  refine ae_iadd C 2 dL_law_1283 (by decide) ?_
  refine aw_sld C S0 a2 (by unfold vp_in; decide) (by decide : _ = 2) e2 dL_law_1284 ?_
  refine aw_ald_n C dL_law_1285 rfl ?_
  refine aw_callSW C [.ref 0, .int a1, .int a2, .ref 223] mw_L_167 (c_L_like_580 hl0 ⟨by omega, by omega⟩ h0 h59) rfl dL_law_1286 (Nat.le_of_ble_eq_true rfl) (Nat.le_of_ble_eq_true rfl) rfl (Nat.le_of_ble_eq_true rfl) (Nat.le_of_ble_eq_true rfl) (Nat.le_of_ble_eq_true rfl) (fun v9 f9 n9 h9 => ?_)
  obtain ⟨rfl, rfl⟩ := h9
  refine ao_flat [] rfl ?_
  refine aw_istore C dL_law_1289 (by decide) rfl ?_
  refine aw_nl [some (.retAddr b), some (.ref 0), some (.ref 181), some (.ref 223), some (.int 0), some (.int 1), none, none] rfl ?_
  refine aw_ald_n C dL_law_1291 rfl ?_
  refine aw_raw_n C dL_law_1292 rfl ?_
  refine aw_iload C dL_law_1293 rfl ?_
  refine aw_iconst C 1 dL_law_1295 ki_1 ?_
  refine ae_iadd C 1 dL_law_1296 (by decide) ?_
  refine aw_sld C S0 a1 (by unfold vp_in; decide) (by decide : _ = 1) e1 dL_law_1297 ?_
  refine aw_raw_n C dL_law_1298 rfl ?_
  refine aw_iload C dL_law_1299 rfl ?_
  refine aw_iconst C 2 dL_law_1301 ki_2 ?_
  refine ae_iadd C 2 dL_law_1302 (by decide) ?_
  refine aw_sld C S0 a2 (by unfold vp_in; decide) (by decide : _ = 2) e2 dL_law_1303 ?_
  refine ao_callV C (ci := 9) (b := 181) [.int a1, .int a2] [(181, .inr (9, (.int 1 :: .ref 182 :: .ref 183 :: .ref 184 :: .ref 185 :: .int 0 :: .int 0 :: .int 0 :: .ref 186 :: .int 0 :: .int 0 :: .int 0 :: .int (-1) :: .ref 187 :: .ref 188 :: .ref 189 :: .int 0 :: .ref 190 :: .ref 191 :: .ref 192 :: .ref 193 :: .ref 194 :: .int 0 :: .ref 195 :: .ref 196 :: .ref 197 :: .int 0 :: .ref 198 :: .ref 199 :: .ref 200 :: .ref 201 :: .ref 202 :: .ref 203 :: .int 0 :: .ref 204 :: .ref 205 :: .ref 206 :: .ref 207 :: .ref 208 :: .ref 209 :: .ref 210 :: .ref 211 :: .ref 212 :: .ref 213 :: .ref 214 :: .int 0 :: .ref 215 :: .ref 216 :: .int 0 :: .ref 217 :: .ref 218 :: .ref 219 :: .ref 220 :: .ref 221 :: .int 0 :: .int 0 :: .int 0 :: .int 0 :: .ref 222 :: .int 0 :: [])))] mv_L_169 rfl rfl h181 (c_X9_like_581 ⟨by omega, by omega⟩ h181) rfl dL_law_1304 (Nat.le_of_ble_eq_true rfl) (Nat.le_of_ble_eq_true rfl) rfl (Nat.le_of_ble_eq_true rfl) (Nat.le_of_ble_eq_true rfl) (Nat.le_of_ble_eq_true rfl) rfl ?_
  refine aw_istore C dL_law_1307 (by decide) rfl ?_
  refine aw_nl [some (.retAddr b), some (.ref 0), some (.ref 181), some (.ref 223), some (.int 0), some (.int 1), some (.int 0), none] rfl ?_
  refine aw_ald_n C dL_law_1309 rfl ?_
  refine ao_callV C (ci := 9) (b := 181) [] [(181, .inr (9, (.int 1 :: .ref 182 :: .ref 183 :: .ref 184 :: .ref 185 :: .int 0 :: .int 0 :: .int 0 :: .ref 186 :: .int 0 :: .int 0 :: .int 0 :: .int (-1) :: .ref 187 :: .ref 188 :: .ref 189 :: .int 0 :: .ref 190 :: .ref 191 :: .ref 192 :: .ref 193 :: .ref 194 :: .int 0 :: .ref 195 :: .ref 196 :: .ref 197 :: .int 0 :: .ref 198 :: .ref 199 :: .ref 200 :: .ref 201 :: .ref 202 :: .ref 203 :: .int 0 :: .ref 204 :: .ref 205 :: .ref 206 :: .ref 207 :: .ref 208 :: .ref 209 :: .ref 210 :: .ref 211 :: .ref 212 :: .ref 213 :: .ref 214 :: .int 0 :: .ref 215 :: .ref 216 :: .int 0 :: .ref 217 :: .ref 218 :: .ref 219 :: .ref 220 :: .ref 221 :: .int 0 :: .int 0 :: .int 0 :: .int 0 :: .ref 222 :: .int 0 :: [])))] mv_L_97 rfl rfl rfl (c_X9_thrown_208 rfl) rfl dL_law_1310 (Nat.le_of_ble_eq_true rfl) (Nat.le_of_ble_eq_true rfl) rfl (Nat.le_of_ble_eq_true rfl) (Nat.le_of_ble_eq_true rfl) (Nat.le_of_ble_eq_true rfl) rfl ?_
  refine aw_iload C dL_law_1313 rfl ?_
  refine aw_icmp_eq C 1320 dL_law_1315 (by decide) (fun _ => ?_) (fun q => absurd (by decide) q)
  refine aw_iload C dL_law_1320 rfl ?_
  refine aw_if_ne C 1337 dL_law_1322 (by decide) (fun _ => ?_) (fun q => absurd q (by decide))
  refine aw_goto C 1629 dL_law_1337 (by decide) ?_
  refine aw_fl [some (.retAddr b), none, none, none, some (.int 0), none, none, none] (by simp [SubL]) ?_
  exact al_tail C S0 (Nat.le_of_ble_eq_true rfl) (Nat.le_of_ble_eq_true rfl)

set_option maxHeartbeats 4000000 in
set_option maxRecDepth 100000 in
theorem lc_22_b {X : GX} {p : Program} {l : Launch} {e : Env} {s : State} {m : MethodId} {below : List Frame} {meth : Method} {c : Code} {b : Nat} {xs : Nat → Int32} {f : AH} {n : Nat} {a1 : Int32} {a2 : Int32} {a3 : Int32} {a4 : Int32} {a5 : Int32} (C : CC X p l room_1 s m #[Value.ref b] meth c RL cL_law 8 ret) (S0 : SC X b 6 xs s) (hl0 : l.stackTraces = false) (e1 : xs 1 = a1) (q1 : 0 ≤ a1.toInt ∧ a1.toInt ≤ 2147483647) (e2 : xs 2 = a2) (e3 : xs 3 = a3) (e4 : xs 4 = a4) (e5 : xs 5 = a5) (h0 : f 0 = some (.inr (8, [.ref 1, .ref 3, .ref 8, .ref 13, .ref 18, .ref 59, .ref 115, .ref 171, .ref 178, .int 0, .int 0, .int 0, .int 0, .int (-1)]))) (h59 : f 59 = some (.inr (1, [.ref 60, .ref 62, .ref 74, .int 0, .ref 68, .ref 71, .ref 64, .ref 66]))) (h181 : f 181 = some (.inr (9, (.int 0 :: .ref 182 :: .ref 183 :: .ref 184 :: .ref 185 :: .int 0 :: .int 0 :: .int 0 :: .ref 186 :: .int 0 :: .int 0 :: .int 0 :: .int (-1) :: .ref 187 :: .ref 188 :: .ref 189 :: .int 0 :: .ref 190 :: .ref 191 :: .ref 192 :: .ref 193 :: .ref 194 :: .int 0 :: .ref 195 :: .ref 196 :: .ref 197 :: .int 0 :: .ref 198 :: .ref 199 :: .ref 200 :: .ref 201 :: .ref 202 :: .ref 203 :: .int 0 :: .ref 204 :: .ref 205 :: .ref 206 :: .ref 207 :: .ref 208 :: .ref 209 :: .ref 210 :: .ref 211 :: .ref 212 :: .ref 213 :: .ref 214 :: .int 0 :: .ref 215 :: .ref 216 :: .int 0 :: .ref 217 :: .ref 218 :: .ref 219 :: .ref 220 :: .ref 221 :: .int 0 :: .int 0 :: .int 0 :: .int 0 :: .ref 222 :: .int 0 :: [])))) : AW X p l e room_1 s m #[Value.ref b] below meth c 8 (lw_Z below #[Value.ref b] s) f n 1000 300000 1272 [some (.retAddr b), some (.ref 0), some (.ref 181), some (.ref 223), some (.int 0), none, none, none] [] := by
  refine ao_start ?_
  obtain ⟨q1a, q1b⟩ := q1
  refine aw_ald_n C dL_law_1272 rfl ?_
  refine aw_raw_n C dL_law_1273 rfl ?_
  refine aw_iload C dL_law_1274 rfl ?_
  refine aw_iconst C 1 dL_law_1276 ki_1 ?_
  refine ae_iadd C 1 dL_law_1277 (by decide) ?_
  refine aw_sld C S0 a1 (by unfold vp_in; decide) (by decide : _ = 1) e1 dL_law_1278 ?_
  refine aw_raw_n C dL_law_1279 rfl ?_
  refine aw_iload C dL_law_1280 rfl ?_
  refine aw_iconst C 2 dL_law_1282 ki_2 ?_
  refine ae_iadd C 2 dL_law_1283 (by decide) ?_
  refine aw_sld C S0 a2 (by unfold vp_in; decide) (by decide : _ = 2) e2 dL_law_1284 ?_
  refine aw_ald_n C dL_law_1285 rfl ?_
  refine aw_callSW C [.ref 0, .int a1, .int a2, .ref 223] mw_L_167 (c_L_like_583 hl0 ⟨by omega, by omega⟩ h0 h59) rfl dL_law_1286 (Nat.le_of_ble_eq_true rfl) (Nat.le_of_ble_eq_true rfl) rfl (Nat.le_of_ble_eq_true rfl) (Nat.le_of_ble_eq_true rfl) (Nat.le_of_ble_eq_true rfl) (fun v9 f9 n9 h9 => ?_)
  obtain ⟨rfl, rfl⟩ := h9
  refine ao_flat [] rfl ?_
  refine aw_istore C dL_law_1289 (by decide) rfl ?_
  refine aw_nl [some (.retAddr b), some (.ref 0), some (.ref 181), some (.ref 223), some (.int 0), some (.int 1), none, none] rfl ?_
  refine aw_ald_n C dL_law_1291 rfl ?_
  refine aw_raw_n C dL_law_1292 rfl ?_
  refine aw_iload C dL_law_1293 rfl ?_
  refine aw_iconst C 1 dL_law_1295 ki_1 ?_
  refine ae_iadd C 1 dL_law_1296 (by decide) ?_
  refine aw_sld C S0 a1 (by unfold vp_in; decide) (by decide : _ = 1) e1 dL_law_1297 ?_
  refine aw_raw_n C dL_law_1298 rfl ?_
  refine aw_iload C dL_law_1299 rfl ?_
  refine aw_iconst C 2 dL_law_1301 ki_2 ?_
  refine ae_iadd C 2 dL_law_1302 (by decide) ?_
  refine aw_sld C S0 a2 (by unfold vp_in; decide) (by decide : _ = 2) e2 dL_law_1303 ?_
  refine ao_callV C (ci := 9) (b := 181) [.int a1, .int a2] [(181, .inr (9, (.int 1 :: .ref 182 :: .ref 183 :: .ref 184 :: .ref 185 :: .int 0 :: .int 0 :: .int 0 :: .ref 186 :: .int 0 :: .int 0 :: .int 0 :: .int (-1) :: .ref 187 :: .ref 188 :: .ref 189 :: .int 0 :: .ref 190 :: .ref 191 :: .ref 192 :: .ref 193 :: .ref 194 :: .int 0 :: .ref 195 :: .ref 196 :: .ref 197 :: .int 0 :: .ref 198 :: .ref 199 :: .ref 200 :: .ref 201 :: .ref 202 :: .ref 203 :: .int 0 :: .ref 204 :: .ref 205 :: .ref 206 :: .ref 207 :: .ref 208 :: .ref 209 :: .ref 210 :: .ref 211 :: .ref 212 :: .ref 213 :: .ref 214 :: .int 0 :: .ref 215 :: .ref 216 :: .int 0 :: .ref 217 :: .ref 218 :: .ref 219 :: .ref 220 :: .ref 221 :: .int 0 :: .int 0 :: .int 0 :: .int 0 :: .ref 222 :: .int 0 :: [])))] mv_L_169 rfl rfl h181 (c_X9_like_584 ⟨by omega, by omega⟩ h181) rfl dL_law_1304 (Nat.le_of_ble_eq_true rfl) (Nat.le_of_ble_eq_true rfl) rfl (Nat.le_of_ble_eq_true rfl) (Nat.le_of_ble_eq_true rfl) (Nat.le_of_ble_eq_true rfl) rfl ?_
  refine aw_istore C dL_law_1307 (by decide) rfl ?_
  refine aw_nl [some (.retAddr b), some (.ref 0), some (.ref 181), some (.ref 223), some (.int 0), some (.int 1), some (.int 0), none] rfl ?_
  refine aw_ald_n C dL_law_1309 rfl ?_
  refine ao_callV C (ci := 9) (b := 181) [] [(181, .inr (9, (.int 1 :: .ref 182 :: .ref 183 :: .ref 184 :: .ref 185 :: .int 0 :: .int 0 :: .int 0 :: .ref 186 :: .int 0 :: .int 0 :: .int 0 :: .int (-1) :: .ref 187 :: .ref 188 :: .ref 189 :: .int 0 :: .ref 190 :: .ref 191 :: .ref 192 :: .ref 193 :: .ref 194 :: .int 0 :: .ref 195 :: .ref 196 :: .ref 197 :: .int 0 :: .ref 198 :: .ref 199 :: .ref 200 :: .ref 201 :: .ref 202 :: .ref 203 :: .int 0 :: .ref 204 :: .ref 205 :: .ref 206 :: .ref 207 :: .ref 208 :: .ref 209 :: .ref 210 :: .ref 211 :: .ref 212 :: .ref 213 :: .ref 214 :: .int 0 :: .ref 215 :: .ref 216 :: .int 0 :: .ref 217 :: .ref 218 :: .ref 219 :: .ref 220 :: .ref 221 :: .int 0 :: .int 0 :: .int 0 :: .int 0 :: .ref 222 :: .int 0 :: [])))] mv_L_97 rfl rfl rfl (c_X9_thrown_208 rfl) rfl dL_law_1310 (Nat.le_of_ble_eq_true rfl) (Nat.le_of_ble_eq_true rfl) rfl (Nat.le_of_ble_eq_true rfl) (Nat.le_of_ble_eq_true rfl) (Nat.le_of_ble_eq_true rfl) rfl ?_
  refine aw_iload C dL_law_1313 rfl ?_
  refine aw_icmp_eq C 1320 dL_law_1315 (by decide) (fun _ => ?_) (fun q => absurd (by decide) q)
  refine aw_iload C dL_law_1320 rfl ?_
  refine aw_if_ne C 1337 dL_law_1322 (by decide) (fun _ => ?_) (fun q => absurd q (by decide))
  refine aw_goto C 1629 dL_law_1337 (by decide) ?_
  refine aw_fl [some (.retAddr b), none, none, none, some (.int 0), none, none, none] (by simp [SubL]) ?_
  exact al_tail C S0 (Nat.le_of_ble_eq_true rfl) (Nat.le_of_ble_eq_true rfl)

set_option maxHeartbeats 4000000 in
set_option maxRecDepth 100000 in
theorem lc_23_a {X : GX} {p : Program} {l : Launch} {e : Env} {s : State} {m : MethodId} {below : List Frame} {meth : Method} {c : Code} {b : Nat} {xs : Nat → Int32} {f : AH} {a1 : Int32} {a2 : Int32} {a3 : Int32} {a4 : Int32} {a5 : Int32} (C : CC X p l room_1 s m #[Value.ref b] meth c RL cL_law 8 ret) (S0 : SC X b 6 xs s) (hl0 : l.stackTraces = false) (e1 : xs 1 = a1) (q1 : (-2147483648) ≤ a1.toInt ∧ a1.toInt ≤ (-1)) (e2 : xs 2 = a2) (e3 : xs 3 = a3) (e4 : xs 4 = a4) (e5 : xs 5 = a5) (h0 : f 0 = some (.inr (8, [.ref 1, .ref 3, .ref 8, .ref 13, .ref 18, .ref 59, .ref 115, .ref 171, .ref 178, .int 0, .int 0, .int 0, .int 0, .int (-1)]))) (h1 : f 1 = some (.inr (5, [.ref 2, .int 0]))) (h59 : f 59 = some (.inr (1, [.ref 60, .ref 62, .ref 74, .int 0, .ref 68, .ref 71, .ref 64, .ref 66]))) (h181 : f 181 = some (.inr (9, (.int 0 :: .ref 182 :: .ref 183 :: .ref 184 :: .ref 185 :: .int 0 :: .int 0 :: .int 0 :: .ref 186 :: .int 0 :: .int 0 :: .int 0 :: .int (-1) :: .ref 187 :: .ref 188 :: .ref 189 :: .int 0 :: .ref 190 :: .ref 191 :: .ref 192 :: .ref 193 :: .ref 194 :: .int 0 :: .ref 195 :: .ref 196 :: .ref 197 :: .int 0 :: .ref 198 :: .ref 199 :: .ref 200 :: .ref 201 :: .ref 202 :: .ref 203 :: .int 0 :: .ref 204 :: .ref 205 :: .ref 206 :: .ref 207 :: .ref 208 :: .ref 209 :: .ref 210 :: .ref 211 :: .ref 212 :: .ref 213 :: .ref 214 :: .int 0 :: .ref 215 :: .ref 216 :: .int 0 :: .ref 217 :: .ref 218 :: .ref 219 :: .ref 220 :: .ref 221 :: .int 0 :: .int 0 :: .int 0 :: .int 0 :: .ref 222 :: .int 0 :: [])))) : AW X p l e room_1 s m #[Value.ref b] below meth c 8 (lw_Z below #[Value.ref b] s) f 224 1000 300000 1340 [some (.retAddr b), some (.ref 0), some (.ref 181), some (.ref 223), some (.int 0), none, none, none] [] := by
  refine ao_start ?_
  obtain ⟨q1a, q1b⟩ := q1
  refine aw_ald_n C dL_law_1340 rfl ?_
  refine aw_raw_n C dL_law_1341 rfl ?_
  refine aw_iload C dL_law_1342 rfl ?_
  refine aw_iconst C 1 dL_law_1344 ki_1 ?_
  refine ae_iadd C 1 dL_law_1345 (by decide) ?_
  refine aw_sld C S0 a1 (by unfold vp_in; decide) (by decide : _ = 1) e1 dL_law_1346 ?_
  refine aw_ald_n C dL_law_1347 rfl ?_
  refine aw_callSW C [.ref 0, .int a1, .ref 223] mw_L_170 (c_L_would_586 hl0 ⟨by omega, by omega⟩ h0 h1 h59) rfl dL_law_1348 (Nat.le_of_ble_eq_true rfl) (Nat.le_of_ble_eq_true rfl) rfl (Nat.le_of_ble_eq_true rfl) (Nat.le_of_ble_eq_true rfl) (Nat.le_of_ble_eq_true rfl) (fun v9 f9 n9 h9 => ?_)
  obtain ⟨rfl, rfl⟩ := h9
  refine ao_flat [(224, .inr (5, [.ref 225, .int 0])), (225, .inl (0, 0, .inl (fun _ => 0)))] rfl ?_
  refine aw_istore C dL_law_1351 (by decide) rfl ?_
  refine aw_nl [some (.retAddr b), some (.ref 0), some (.ref 181), some (.ref 223), some (.int 0), some (.int 1), none, none] rfl ?_
  refine aw_ald_n C dL_law_1353 rfl ?_
  refine aw_raw_n C dL_law_1354 rfl ?_
  refine aw_iload C dL_law_1355 rfl ?_
  refine aw_iconst C 1 dL_law_1357 ki_1 ?_
  refine ae_iadd C 1 dL_law_1358 (by decide) ?_
  refine aw_sld C S0 a1 (by unfold vp_in; decide) (by decide : _ = 1) e1 dL_law_1359 ?_
  refine ao_callV C (ci := 9) (b := 181) [.int a1] [(224, .inr (5, [.ref 225, .int 0])), (225, .inl (0, 0, .inl (fun _ => 0))), (181, .inr (9, (.int 1 :: .ref 182 :: .ref 183 :: .ref 184 :: .ref 185 :: .int 0 :: .int 0 :: .int 0 :: .ref 186 :: .int 0 :: .int 0 :: .int 0 :: .int (-1) :: .ref 187 :: .ref 188 :: .ref 189 :: .int 0 :: .ref 190 :: .ref 191 :: .ref 192 :: .ref 193 :: .ref 194 :: .int 0 :: .ref 195 :: .ref 196 :: .ref 197 :: .int 0 :: .ref 198 :: .ref 199 :: .ref 200 :: .ref 201 :: .ref 202 :: .ref 203 :: .int 0 :: .ref 204 :: .ref 205 :: .ref 206 :: .ref 207 :: .ref 208 :: .ref 209 :: .ref 210 :: .ref 211 :: .ref 212 :: .ref 213 :: .ref 214 :: .int 0 :: .ref 215 :: .ref 216 :: .int 0 :: .ref 217 :: .ref 218 :: .ref 219 :: .ref 220 :: .ref 221 :: .int 0 :: .int 0 :: .int 0 :: .int 0 :: .ref 222 :: .int 0 :: [])))] mv_L_172 rfl rfl h181 (c_X9_would_587 ⟨by omega, by omega⟩ h181) rfl dL_law_1360 (Nat.le_of_ble_eq_true rfl) (Nat.le_of_ble_eq_true rfl) rfl (Nat.le_of_ble_eq_true rfl) (Nat.le_of_ble_eq_true rfl) (Nat.le_of_ble_eq_true rfl) rfl ?_
  refine aw_istore C dL_law_1363 (by decide) rfl ?_
  refine aw_nl [some (.retAddr b), some (.ref 0), some (.ref 181), some (.ref 223), some (.int 0), some (.int 1), some (.int 0), none] rfl ?_
  refine aw_ald_n C dL_law_1365 rfl ?_
  refine ao_callV C (ci := 9) (b := 181) [] [(224, .inr (5, [.ref 225, .int 0])), (225, .inl (0, 0, .inl (fun _ => 0))), (181, .inr (9, (.int 1 :: .ref 182 :: .ref 183 :: .ref 184 :: .ref 185 :: .int 0 :: .int 0 :: .int 0 :: .ref 186 :: .int 0 :: .int 0 :: .int 0 :: .int (-1) :: .ref 187 :: .ref 188 :: .ref 189 :: .int 0 :: .ref 190 :: .ref 191 :: .ref 192 :: .ref 193 :: .ref 194 :: .int 0 :: .ref 195 :: .ref 196 :: .ref 197 :: .int 0 :: .ref 198 :: .ref 199 :: .ref 200 :: .ref 201 :: .ref 202 :: .ref 203 :: .int 0 :: .ref 204 :: .ref 205 :: .ref 206 :: .ref 207 :: .ref 208 :: .ref 209 :: .ref 210 :: .ref 211 :: .ref 212 :: .ref 213 :: .ref 214 :: .int 0 :: .ref 215 :: .ref 216 :: .int 0 :: .ref 217 :: .ref 218 :: .ref 219 :: .ref 220 :: .ref 221 :: .int 0 :: .int 0 :: .int 0 :: .int 0 :: .ref 222 :: .int 0 :: [])))] mv_L_97 rfl rfl rfl (c_X9_thrown_208 rfl) rfl dL_law_1366 (Nat.le_of_ble_eq_true rfl) (Nat.le_of_ble_eq_true rfl) rfl (Nat.le_of_ble_eq_true rfl) (Nat.le_of_ble_eq_true rfl) (Nat.le_of_ble_eq_true rfl) rfl ?_
  refine aw_iload C dL_law_1369 rfl ?_
  refine aw_icmp_eq C 1376 dL_law_1371 (by decide) (fun _ => ?_) (fun q => absurd (by decide) q)
  refine aw_iload C dL_law_1376 rfl ?_
  refine aw_if_ne C 1393 dL_law_1378 (by decide) (fun _ => ?_) (fun q => absurd q (by decide))
  refine aw_goto C 1629 dL_law_1393 (by decide) ?_
  refine aw_fl [some (.retAddr b), none, none, none, some (.int 0), none, none, none] (by simp [SubL]) ?_
  exact al_tail C S0 (Nat.le_of_ble_eq_true rfl) (Nat.le_of_ble_eq_true rfl)

set_option maxHeartbeats 4000000 in
set_option maxRecDepth 100000 in
theorem lc_23_b {X : GX} {p : Program} {l : Launch} {e : Env} {s : State} {m : MethodId} {below : List Frame} {meth : Method} {c : Code} {b : Nat} {xs : Nat → Int32} {f : AH} {a1 : Int32} {a2 : Int32} {a3 : Int32} {a4 : Int32} {a5 : Int32} (C : CC X p l room_1 s m #[Value.ref b] meth c RL cL_law 8 ret) (S0 : SC X b 6 xs s) (hl0 : l.stackTraces = false) (e1 : xs 1 = a1) (q1 : 0 ≤ a1.toInt ∧ a1.toInt ≤ 2147483647) (e2 : xs 2 = a2) (e3 : xs 3 = a3) (e4 : xs 4 = a4) (e5 : xs 5 = a5) (h0 : f 0 = some (.inr (8, [.ref 1, .ref 3, .ref 8, .ref 13, .ref 18, .ref 59, .ref 115, .ref 171, .ref 178, .int 0, .int 0, .int 0, .int 0, .int (-1)]))) (h1 : f 1 = some (.inr (5, [.ref 2, .int 0]))) (h59 : f 59 = some (.inr (1, [.ref 60, .ref 62, .ref 74, .int 0, .ref 68, .ref 71, .ref 64, .ref 66]))) (h181 : f 181 = some (.inr (9, (.int 0 :: .ref 182 :: .ref 183 :: .ref 184 :: .ref 185 :: .int 0 :: .int 0 :: .int 0 :: .ref 186 :: .int 0 :: .int 0 :: .int 0 :: .int (-1) :: .ref 187 :: .ref 188 :: .ref 189 :: .int 0 :: .ref 190 :: .ref 191 :: .ref 192 :: .ref 193 :: .ref 194 :: .int 0 :: .ref 195 :: .ref 196 :: .ref 197 :: .int 0 :: .ref 198 :: .ref 199 :: .ref 200 :: .ref 201 :: .ref 202 :: .ref 203 :: .int 0 :: .ref 204 :: .ref 205 :: .ref 206 :: .ref 207 :: .ref 208 :: .ref 209 :: .ref 210 :: .ref 211 :: .ref 212 :: .ref 213 :: .ref 214 :: .int 0 :: .ref 215 :: .ref 216 :: .int 0 :: .ref 217 :: .ref 218 :: .ref 219 :: .ref 220 :: .ref 221 :: .int 0 :: .int 0 :: .int 0 :: .int 0 :: .ref 222 :: .int 0 :: [])))) : AW X p l e room_1 s m #[Value.ref b] below meth c 8 (lw_Z below #[Value.ref b] s) f 224 1000 300000 1340 [some (.retAddr b), some (.ref 0), some (.ref 181), some (.ref 223), some (.int 0), none, none, none] [] := by
  refine ao_start ?_
  obtain ⟨q1a, q1b⟩ := q1
  refine aw_ald_n C dL_law_1340 rfl ?_
  refine aw_raw_n C dL_law_1341 rfl ?_
  refine aw_iload C dL_law_1342 rfl ?_
  refine aw_iconst C 1 dL_law_1344 ki_1 ?_
  refine ae_iadd C 1 dL_law_1345 (by decide) ?_
  refine aw_sld C S0 a1 (by unfold vp_in; decide) (by decide : _ = 1) e1 dL_law_1346 ?_
  refine aw_ald_n C dL_law_1347 rfl ?_
  refine aw_callSW C [.ref 0, .int a1, .ref 223] mw_L_170 (c_L_would_589 hl0 ⟨by omega, by omega⟩ h0 h1 h59) rfl dL_law_1348 (Nat.le_of_ble_eq_true rfl) (Nat.le_of_ble_eq_true rfl) rfl (Nat.le_of_ble_eq_true rfl) (Nat.le_of_ble_eq_true rfl) (Nat.le_of_ble_eq_true rfl) (fun v9 f9 n9 h9 => ?_)
  obtain ⟨rfl, rfl⟩ := h9
  refine ao_flat [(224, .inr (5, [.ref 225, .int 0])), (225, .inl (0, 0, .inl (fun _ => 0)))] rfl ?_
  refine aw_istore C dL_law_1351 (by decide) rfl ?_
  refine aw_nl [some (.retAddr b), some (.ref 0), some (.ref 181), some (.ref 223), some (.int 0), some (.int 1), none, none] rfl ?_
  refine aw_ald_n C dL_law_1353 rfl ?_
  refine aw_raw_n C dL_law_1354 rfl ?_
  refine aw_iload C dL_law_1355 rfl ?_
  refine aw_iconst C 1 dL_law_1357 ki_1 ?_
  refine ae_iadd C 1 dL_law_1358 (by decide) ?_
  refine aw_sld C S0 a1 (by unfold vp_in; decide) (by decide : _ = 1) e1 dL_law_1359 ?_
  refine ao_callV C (ci := 9) (b := 181) [.int a1] [(224, .inr (5, [.ref 225, .int 0])), (225, .inl (0, 0, .inl (fun _ => 0))), (181, .inr (9, (.int 1 :: .ref 182 :: .ref 183 :: .ref 184 :: .ref 185 :: .int 0 :: .int 0 :: .int 0 :: .ref 186 :: .int 0 :: .int 0 :: .int 0 :: .int (-1) :: .ref 187 :: .ref 188 :: .ref 189 :: .int 0 :: .ref 190 :: .ref 191 :: .ref 192 :: .ref 193 :: .ref 194 :: .int 0 :: .ref 195 :: .ref 196 :: .ref 197 :: .int 0 :: .ref 198 :: .ref 199 :: .ref 200 :: .ref 201 :: .ref 202 :: .ref 203 :: .int 0 :: .ref 204 :: .ref 205 :: .ref 206 :: .ref 207 :: .ref 208 :: .ref 209 :: .ref 210 :: .ref 211 :: .ref 212 :: .ref 213 :: .ref 214 :: .int 0 :: .ref 215 :: .ref 216 :: .int 0 :: .ref 217 :: .ref 218 :: .ref 219 :: .ref 220 :: .ref 221 :: .int 0 :: .int 0 :: .int 0 :: .int 0 :: .ref 222 :: .int 0 :: [])))] mv_L_172 rfl rfl h181 (c_X9_would_590 ⟨by omega, by omega⟩ h181) rfl dL_law_1360 (Nat.le_of_ble_eq_true rfl) (Nat.le_of_ble_eq_true rfl) rfl (Nat.le_of_ble_eq_true rfl) (Nat.le_of_ble_eq_true rfl) (Nat.le_of_ble_eq_true rfl) rfl ?_
  refine aw_istore C dL_law_1363 (by decide) rfl ?_
  refine aw_nl [some (.retAddr b), some (.ref 0), some (.ref 181), some (.ref 223), some (.int 0), some (.int 1), some (.int 0), none] rfl ?_
  refine aw_ald_n C dL_law_1365 rfl ?_
  refine ao_callV C (ci := 9) (b := 181) [] [(224, .inr (5, [.ref 225, .int 0])), (225, .inl (0, 0, .inl (fun _ => 0))), (181, .inr (9, (.int 1 :: .ref 182 :: .ref 183 :: .ref 184 :: .ref 185 :: .int 0 :: .int 0 :: .int 0 :: .ref 186 :: .int 0 :: .int 0 :: .int 0 :: .int (-1) :: .ref 187 :: .ref 188 :: .ref 189 :: .int 0 :: .ref 190 :: .ref 191 :: .ref 192 :: .ref 193 :: .ref 194 :: .int 0 :: .ref 195 :: .ref 196 :: .ref 197 :: .int 0 :: .ref 198 :: .ref 199 :: .ref 200 :: .ref 201 :: .ref 202 :: .ref 203 :: .int 0 :: .ref 204 :: .ref 205 :: .ref 206 :: .ref 207 :: .ref 208 :: .ref 209 :: .ref 210 :: .ref 211 :: .ref 212 :: .ref 213 :: .ref 214 :: .int 0 :: .ref 215 :: .ref 216 :: .int 0 :: .ref 217 :: .ref 218 :: .ref 219 :: .ref 220 :: .ref 221 :: .int 0 :: .int 0 :: .int 0 :: .int 0 :: .ref 222 :: .int 0 :: [])))] mv_L_97 rfl rfl rfl (c_X9_thrown_208 rfl) rfl dL_law_1366 (Nat.le_of_ble_eq_true rfl) (Nat.le_of_ble_eq_true rfl) rfl (Nat.le_of_ble_eq_true rfl) (Nat.le_of_ble_eq_true rfl) (Nat.le_of_ble_eq_true rfl) rfl ?_
  refine aw_iload C dL_law_1369 rfl ?_
  refine aw_icmp_eq C 1376 dL_law_1371 (by decide) (fun _ => ?_) (fun q => absurd (by decide) q)
  refine aw_iload C dL_law_1376 rfl ?_
  refine aw_if_ne C 1393 dL_law_1378 (by decide) (fun _ => ?_) (fun q => absurd q (by decide))
  refine aw_goto C 1629 dL_law_1393 (by decide) ?_
  refine aw_fl [some (.retAddr b), none, none, none, some (.int 0), none, none, none] (by simp [SubL]) ?_
  exact al_tail C S0 (Nat.le_of_ble_eq_true rfl) (Nat.le_of_ble_eq_true rfl)

set_option maxHeartbeats 4000000 in
set_option maxRecDepth 100000 in
theorem lc_24_x {X : GX} {p : Program} {l : Launch} {e : Env} {s : State} {m : MethodId} {below : List Frame} {meth : Method} {c : Code} {b : Nat} {xs : Nat → Int32} {f : AH} {n : Nat} {a1 : Int32} {a2 : Int32} {a3 : Int32} {a4 : Int32} {a5 : Int32} (C : CC X p l room_1 s m #[Value.ref b] meth c RL cL_law 8 ret) (S0 : SC X b 6 xs s) (hl0 : l.stackTraces = false) (e1 : xs 1 = a1) (e2 : xs 2 = a2) (e3 : xs 3 = a3) (e4 : xs 4 = a4) (e5 : xs 5 = a5) (h0 : f 0 = some (.inr (8, [.ref 1, .ref 3, .ref 8, .ref 13, .ref 18, .ref 59, .ref 115, .ref 171, .ref 178, .int 0, .int 0, .int 0, .int 0, .int (-1)]))) (h1 : f 1 = some (.inr (5, [.ref 2, .int 0]))) (h181 : f 181 = some (.inr (9, (.int 0 :: .ref 182 :: .ref 183 :: .ref 184 :: .ref 185 :: .int 0 :: .int 0 :: .int 0 :: .ref 186 :: .int 0 :: .int 0 :: .int 0 :: .int (-1) :: .ref 187 :: .ref 188 :: .ref 189 :: .int 0 :: .ref 190 :: .ref 191 :: .ref 192 :: .ref 193 :: .ref 194 :: .int 0 :: .ref 195 :: .ref 196 :: .ref 197 :: .int 0 :: .ref 198 :: .ref 199 :: .ref 200 :: .ref 201 :: .ref 202 :: .ref 203 :: .int 0 :: .ref 204 :: .ref 205 :: .ref 206 :: .ref 207 :: .ref 208 :: .ref 209 :: .ref 210 :: .ref 211 :: .ref 212 :: .ref 213 :: .ref 214 :: .int 0 :: .ref 215 :: .ref 216 :: .int 0 :: .ref 217 :: .ref 218 :: .ref 219 :: .ref 220 :: .ref 221 :: .int 0 :: .int 0 :: .int 0 :: .int 0 :: .ref 222 :: .int 0 :: [])))) : AW X p l e room_1 s m #[Value.ref b] below meth c 8 (lw_Z below #[Value.ref b] s) f n 1000 300000 1396 [some (.retAddr b), some (.ref 0), some (.ref 181), some (.ref 223), some (.int 0), none, none, none] [] := by
  refine ao_start ?_
  refine aw_ald_n C dL_law_1396 rfl ?_
  refine aw_ald_n C dL_law_1397 rfl ?_
  refine aw_callSW C [.ref 0, .ref 223] mw_L_173 (c_L_found_592 hl0 h0 h1) rfl dL_law_1398 (Nat.le_of_ble_eq_true rfl) (Nat.le_of_ble_eq_true rfl) rfl (Nat.le_of_ble_eq_true rfl) (Nat.le_of_ble_eq_true rfl) (Nat.le_of_ble_eq_true rfl) (fun v9 f9 n9 h9 => ?_)
  obtain ⟨rfl, rfl⟩ := h9
  refine ao_flat [] rfl ?_
  refine aw_istore C dL_law_1401 (by decide) rfl ?_
  refine aw_nl [some (.retAddr b), some (.ref 0), some (.ref 181), some (.ref 223), some (.int 0), some (.int 1), none, none] rfl ?_
  refine aw_ald_n C dL_law_1403 rfl ?_
  refine ao_callV C (ci := 9) (b := 181) [] [(181, .inr (9, (.int 1 :: .ref 182 :: .ref 183 :: .ref 184 :: .ref 185 :: .int 0 :: .int 0 :: .int 0 :: .ref 186 :: .int 0 :: .int 0 :: .int 0 :: .int (-1) :: .ref 187 :: .ref 188 :: .ref 189 :: .int 0 :: .ref 190 :: .ref 191 :: .ref 192 :: .ref 193 :: .ref 194 :: .int 0 :: .ref 195 :: .ref 196 :: .ref 197 :: .int 0 :: .ref 198 :: .ref 199 :: .ref 200 :: .ref 201 :: .ref 202 :: .ref 203 :: .int 0 :: .ref 204 :: .ref 205 :: .ref 206 :: .ref 207 :: .ref 208 :: .ref 209 :: .ref 210 :: .ref 211 :: .ref 212 :: .ref 213 :: .ref 214 :: .int 0 :: .ref 215 :: .ref 216 :: .int 0 :: .ref 217 :: .ref 218 :: .ref 219 :: .ref 220 :: .ref 221 :: .int 0 :: .int 0 :: .int 0 :: .int 0 :: .ref 222 :: .int 0 :: [])))] mv_L_175 rfl rfl h181 (c_X9_found_593 h181) rfl dL_law_1404 (Nat.le_of_ble_eq_true rfl) (Nat.le_of_ble_eq_true rfl) rfl (Nat.le_of_ble_eq_true rfl) (Nat.le_of_ble_eq_true rfl) (Nat.le_of_ble_eq_true rfl) rfl ?_
  refine aw_lstore C dL_law_1407 (by decide) rfl ?_
  refine aw_nl [some (.retAddr b), some (.ref 0), some (.ref 181), some (.ref 223), some (.int 0), some (.int 1), some (.long 0), none] rfl ?_
  refine aw_ald_n C dL_law_1409 rfl ?_
  refine ao_callV C (ci := 9) (b := 181) [] [(181, .inr (9, (.int 1 :: .ref 182 :: .ref 183 :: .ref 184 :: .ref 185 :: .int 0 :: .int 0 :: .int 0 :: .ref 186 :: .int 0 :: .int 0 :: .int 0 :: .int (-1) :: .ref 187 :: .ref 188 :: .ref 189 :: .int 0 :: .ref 190 :: .ref 191 :: .ref 192 :: .ref 193 :: .ref 194 :: .int 0 :: .ref 195 :: .ref 196 :: .ref 197 :: .int 0 :: .ref 198 :: .ref 199 :: .ref 200 :: .ref 201 :: .ref 202 :: .ref 203 :: .int 0 :: .ref 204 :: .ref 205 :: .ref 206 :: .ref 207 :: .ref 208 :: .ref 209 :: .ref 210 :: .ref 211 :: .ref 212 :: .ref 213 :: .ref 214 :: .int 0 :: .ref 215 :: .ref 216 :: .int 0 :: .ref 217 :: .ref 218 :: .ref 219 :: .ref 220 :: .ref 221 :: .int 0 :: .int 0 :: .int 0 :: .int 0 :: .ref 222 :: .int 0 :: [])))] mv_L_97 rfl rfl rfl (c_X9_thrown_208 rfl) rfl dL_law_1410 (Nat.le_of_ble_eq_true rfl) (Nat.le_of_ble_eq_true rfl) rfl (Nat.le_of_ble_eq_true rfl) (Nat.le_of_ble_eq_true rfl) (Nat.le_of_ble_eq_true rfl) rfl ?_
  refine aw_iload C dL_law_1413 rfl ?_
  refine aw_icmp_eq C 1420 dL_law_1415 (by decide) (fun _ => ?_) (fun q => absurd (by decide) q)
  refine aw_iload C dL_law_1420 rfl ?_
  refine aw_if_ne C 1436 dL_law_1422 (by decide) (fun _ => ?_) (fun q => absurd q (by decide))
  refine aw_goto C 1629 dL_law_1436 (by decide) ?_
  refine aw_fl [some (.retAddr b), none, none, none, some (.int 0), none, none, none] (by simp [SubL]) ?_
  exact al_tail C S0 (Nat.le_of_ble_eq_true rfl) (Nat.le_of_ble_eq_true rfl)

set_option maxHeartbeats 4000000 in
set_option maxRecDepth 100000 in
theorem lc_25_aa {X : GX} {p : Program} {l : Launch} {e : Env} {s : State} {m : MethodId} {below : List Frame} {meth : Method} {c : Code} {b : Nat} {xs : Nat → Int32} {f : AH} {n : Nat} {a1 : Int32} {a3 : Int32} {a4 : Int32} {a5 : Int32} (C : CC X p l room_1 s m #[Value.ref b] meth c RL cL_law 8 ret) (S0 : SC X b 6 xs s) (hl0 : l.stackTraces = false) (e1 : xs 1 = a1) (q1 : (-2147483648) ≤ a1.toInt ∧ a1.toInt ≤ (-1)) (e2 : xs 2 = 0) (e3 : xs 3 = a3) (e4 : xs 4 = a4) (e5 : xs 5 = a5) (h0 : f 0 = some (.inr (8, [.ref 1, .ref 3, .ref 8, .ref 13, .ref 18, .ref 59, .ref 115, .ref 171, .ref 178, .int 0, .int 0, .int 0, .int 0, .int (-1)]))) (h181 : f 181 = some (.inr (9, (.int 0 :: .ref 182 :: .ref 183 :: .ref 184 :: .ref 185 :: .int 0 :: .int 0 :: .int 0 :: .ref 186 :: .int 0 :: .int 0 :: .int 0 :: .int (-1) :: .ref 187 :: .ref 188 :: .ref 189 :: .int 0 :: .ref 190 :: .ref 191 :: .ref 192 :: .ref 193 :: .ref 194 :: .int 0 :: .ref 195 :: .ref 196 :: .ref 197 :: .int 0 :: .ref 198 :: .ref 199 :: .ref 200 :: .ref 201 :: .ref 202 :: .ref 203 :: .int 0 :: .ref 204 :: .ref 205 :: .ref 206 :: .ref 207 :: .ref 208 :: .ref 209 :: .ref 210 :: .ref 211 :: .ref 212 :: .ref 213 :: .ref 214 :: .int 0 :: .ref 215 :: .ref 216 :: .int 0 :: .ref 217 :: .ref 218 :: .ref 219 :: .ref 220 :: .ref 221 :: .int 0 :: .int 0 :: .int 0 :: .int 0 :: .ref 222 :: .int 0 :: [])))) (h182 : f 182 = some (.inl (0, 4347, .inl (tl (upd (upd (fun _ => 0) 2 (-1)) 4 1) 40)))) : AW X p l e room_1 s m #[Value.ref b] below meth c 8 (lw_Z below #[Value.ref b] s) f n 1000 300000 1439 [some (.retAddr b), some (.ref 0), some (.ref 181), some (.ref 223), some (.int 0), none, none, none] [] := by
  refine ao_start ?_
  obtain ⟨q1a, q1b⟩ := q1
  refine aw_ald_n C dL_law_1439 rfl ?_
  refine aw_raw_n C dL_law_1440 rfl ?_
  refine aw_iload C dL_law_1441 rfl ?_
  refine aw_iconst C 1 dL_law_1443 ki_1 ?_
  refine ae_iadd C 1 dL_law_1444 (by decide) ?_
  refine aw_sld C S0 a1 (by unfold vp_in; decide) (by decide : _ = 1) e1 dL_law_1445 ?_
  refine aw_raw_n C dL_law_1446 rfl ?_
  refine aw_iload C dL_law_1447 rfl ?_
  refine aw_iconst C 2 dL_law_1449 ki_2 ?_
  refine ae_iadd C 2 dL_law_1450 (by decide) ?_
  refine aw_sld C S0 0 (by unfold vp_in; decide) (by decide : _ = 2) e2 dL_law_1451 ?_
  refine aw_if_eq C 1459 dL_law_1452 (by decide) (fun _ => ?_) (fun q => absurd (by decide) q)
  refine aw_iconst C 0 dL_law_1459 ki_0 ?_
  refine aw_raw_n C dL_law_1460 rfl ?_
  refine aw_iload C dL_law_1461 rfl ?_
  refine aw_iconst C 3 dL_law_1463 ki_3 ?_
  refine ae_iadd C 3 dL_law_1464 (by decide) ?_
  refine aw_sld C S0 a3 (by unfold vp_in; decide) (by decide : _ = 3) e3 dL_law_1465 ?_
  refine ao_callV C (ci := 8) (b := 0) [.int a1, .int 0, .int a3] [] mv_L_176 rfl rfl h0 (c_X8_memory_594 ⟨by omega, by omega⟩) rfl dL_law_1466 (Nat.le_of_ble_eq_true rfl) (Nat.le_of_ble_eq_true rfl) rfl (Nat.le_of_ble_eq_true rfl) (Nat.le_of_ble_eq_true rfl) (Nat.le_of_ble_eq_true rfl) rfl ?_
  refine aw_ald_n C dL_law_1469 rfl ?_
  refine aw_raw_n C dL_law_1470 rfl ?_
  refine aw_iload C dL_law_1471 rfl ?_
  refine aw_iconst C 1 dL_law_1473 ki_1 ?_
  refine ae_iadd C 1 dL_law_1474 (by decide) ?_
  refine aw_sld C S0 a1 (by unfold vp_in; decide) (by decide : _ = 1) e1 dL_law_1475 ?_
  refine aw_raw_n C dL_law_1476 rfl ?_
  refine aw_iload C dL_law_1477 rfl ?_
  refine aw_iconst C 2 dL_law_1479 ki_2 ?_
  refine ae_iadd C 2 dL_law_1480 (by decide) ?_
  refine aw_sld C S0 0 (by unfold vp_in; decide) (by decide : _ = 2) e2 dL_law_1481 ?_
  refine aw_if_eq C 1489 dL_law_1482 (by decide) (fun _ => ?_) (fun q => absurd (by decide) q)
  refine aw_iconst C 0 dL_law_1489 ki_0 ?_
  refine aw_raw_n C dL_law_1490 rfl ?_
  refine aw_iload C dL_law_1491 rfl ?_
  refine aw_iconst C 3 dL_law_1493 ki_3 ?_
  refine ae_iadd C 3 dL_law_1494 (by decide) ?_
  refine aw_sld C S0 a3 (by unfold vp_in; decide) (by decide : _ = 3) e3 dL_law_1495 ?_
  refine ao_callV C (ci := 9) (b := 181) [.int a1, .int 0, .int a3] [(181, .inr (9, (.int 0 :: .ref 182 :: .ref 183 :: .ref 184 :: .ref 185 :: .int 0 :: .int 0 :: .int 0 :: .ref 186 :: .int 0 :: .int 0 :: .int 0 :: .int (-1) :: .ref 187 :: .ref 188 :: .ref 189 :: .int 0 :: .ref 190 :: .ref 191 :: .ref 192 :: .ref 193 :: .ref 194 :: .int 0 :: .ref 195 :: .ref 196 :: .ref 197 :: .int 0 :: .ref 198 :: .ref 199 :: .ref 200 :: .ref 201 :: .ref 202 :: .ref 203 :: .int 0 :: .ref 204 :: .ref 205 :: .ref 206 :: .ref 207 :: .ref 208 :: .ref 209 :: .ref 210 :: .ref 211 :: .ref 212 :: .ref 213 :: .ref 214 :: .int 0 :: .ref 215 :: .ref 216 :: .int 0 :: .ref 217 :: .ref 218 :: .ref 219 :: .ref 220 :: .ref 221 :: .int 0 :: .int 0 :: .int 0 :: .int 0 :: .ref 222 :: .int 0 :: [])))] mv_L_180 rfl rfl h181 (c_X9_memory_595 ⟨by omega, by omega⟩ h181 h182) rfl dL_law_1496 (Nat.le_of_ble_eq_true rfl) (Nat.le_of_ble_eq_true rfl) rfl (Nat.le_of_ble_eq_true rfl) (Nat.le_of_ble_eq_true rfl) (Nat.le_of_ble_eq_true rfl) rfl ?_
  refine aw_icmp_eq C 1629 dL_law_1499 (by decide) (fun _ => ?_) (fun q => absurd (by decide) q)
  refine aw_fl [some (.retAddr b), none, none, none, some (.int 0), none, none, none] (by simp [SubL]) ?_
  exact al_tail C S0 (Nat.le_of_ble_eq_true rfl) (Nat.le_of_ble_eq_true rfl)

set_option maxHeartbeats 4000000 in
set_option maxRecDepth 100000 in
theorem lc_25_ab {X : GX} {p : Program} {l : Launch} {e : Env} {s : State} {m : MethodId} {below : List Frame} {meth : Method} {c : Code} {b : Nat} {xs : Nat → Int32} {f : AH} {n : Nat} {a1 : Int32} {a2 : Int32} {a3 : Int32} {a4 : Int32} {a5 : Int32} (C : CC X p l room_1 s m #[Value.ref b] meth c RL cL_law 8 ret) (S0 : SC X b 6 xs s) (hl0 : l.stackTraces = false) (e1 : xs 1 = a1) (q1 : (-2147483648) ≤ a1.toInt ∧ a1.toInt ≤ (-1)) (e2 : xs 2 = a2) (z2 : ¬ a2 = 0) (e3 : xs 3 = a3) (e4 : xs 4 = a4) (e5 : xs 5 = a5) (h0 : f 0 = some (.inr (8, [.ref 1, .ref 3, .ref 8, .ref 13, .ref 18, .ref 59, .ref 115, .ref 171, .ref 178, .int 0, .int 0, .int 0, .int 0, .int (-1)]))) (h181 : f 181 = some (.inr (9, (.int 0 :: .ref 182 :: .ref 183 :: .ref 184 :: .ref 185 :: .int 0 :: .int 0 :: .int 0 :: .ref 186 :: .int 0 :: .int 0 :: .int 0 :: .int (-1) :: .ref 187 :: .ref 188 :: .ref 189 :: .int 0 :: .ref 190 :: .ref 191 :: .ref 192 :: .ref 193 :: .ref 194 :: .int 0 :: .ref 195 :: .ref 196 :: .ref 197 :: .int 0 :: .ref 198 :: .ref 199 :: .ref 200 :: .ref 201 :: .ref 202 :: .ref 203 :: .int 0 :: .ref 204 :: .ref 205 :: .ref 206 :: .ref 207 :: .ref 208 :: .ref 209 :: .ref 210 :: .ref 211 :: .ref 212 :: .ref 213 :: .ref 214 :: .int 0 :: .ref 215 :: .ref 216 :: .int 0 :: .ref 217 :: .ref 218 :: .ref 219 :: .ref 220 :: .ref 221 :: .int 0 :: .int 0 :: .int 0 :: .int 0 :: .ref 222 :: .int 0 :: [])))) (h182 : f 182 = some (.inl (0, 4347, .inl (tl (upd (upd (fun _ => 0) 2 (-1)) 4 1) 40)))) : AW X p l e room_1 s m #[Value.ref b] below meth c 8 (lw_Z below #[Value.ref b] s) f n 1000 300000 1439 [some (.retAddr b), some (.ref 0), some (.ref 181), some (.ref 223), some (.int 0), none, none, none] [] := by
  refine ao_start ?_
  obtain ⟨q1a, q1b⟩ := q1
  refine aw_ald_n C dL_law_1439 rfl ?_
  refine aw_raw_n C dL_law_1440 rfl ?_
  refine aw_iload C dL_law_1441 rfl ?_
  refine aw_iconst C 1 dL_law_1443 ki_1 ?_
  refine ae_iadd C 1 dL_law_1444 (by decide) ?_
  refine aw_sld C S0 a1 (by unfold vp_in; decide) (by decide : _ = 1) e1 dL_law_1445 ?_
  refine aw_raw_n C dL_law_1446 rfl ?_
  refine aw_iload C dL_law_1447 rfl ?_
  refine aw_iconst C 2 dL_law_1449 ki_2 ?_
  refine ae_iadd C 2 dL_law_1450 (by decide) ?_
  refine aw_sld C S0 a2 (by unfold vp_in; decide) (by decide : _ = 2) e2 dL_law_1451 ?_
  refine aw_if_eq C 1459 dL_law_1452 (by decide) (fun q => absurd q z2) (fun _ => ?_)
  refine aw_iconst C 1 dL_law_1455 ki_1 ?_
  refine aw_goto C 1460 dL_law_1456 (by decide) ?_
  refine aw_raw_n C dL_law_1460 rfl ?_
  refine aw_iload C dL_law_1461 rfl ?_
  refine aw_iconst C 3 dL_law_1463 ki_3 ?_
  refine ae_iadd C 3 dL_law_1464 (by decide) ?_
  refine aw_sld C S0 a3 (by unfold vp_in; decide) (by decide : _ = 3) e3 dL_law_1465 ?_
  refine ao_callV C (ci := 8) (b := 0) [.int a1, .int 1, .int a3] [] mv_L_176 rfl rfl h0 (c_X8_memory_596 ⟨by omega, by omega⟩) rfl dL_law_1466 (Nat.le_of_ble_eq_true rfl) (Nat.le_of_ble_eq_true rfl) rfl (Nat.le_of_ble_eq_true rfl) (Nat.le_of_ble_eq_true rfl) (Nat.le_of_ble_eq_true rfl) rfl ?_
  refine aw_ald_n C dL_law_1469 rfl ?_
  refine aw_raw_n C dL_law_1470 rfl ?_
  refine aw_iload C dL_law_1471 rfl ?_
  refine aw_iconst C 1 dL_law_1473 ki_1 ?_
  refine ae_iadd C 1 dL_law_1474 (by decide) ?_
  refine aw_sld C S0 a1 (by unfold vp_in; decide) (by decide : _ = 1) e1 dL_law_1475 ?_
  refine aw_raw_n C dL_law_1476 rfl ?_
  refine aw_iload C dL_law_1477 rfl ?_
  refine aw_iconst C 2 dL_law_1479 ki_2 ?_
  refine ae_iadd C 2 dL_law_1480 (by decide) ?_
  refine aw_sld C S0 a2 (by unfold vp_in; decide) (by decide : _ = 2) e2 dL_law_1481 ?_
  refine aw_if_eq C 1489 dL_law_1482 (by decide) (fun q => absurd q z2) (fun _ => ?_)
  refine aw_iconst C 1 dL_law_1485 ki_1 ?_
  refine aw_goto C 1490 dL_law_1486 (by decide) ?_
  refine aw_raw_n C dL_law_1490 rfl ?_
  refine aw_iload C dL_law_1491 rfl ?_
  refine aw_iconst C 3 dL_law_1493 ki_3 ?_
  refine ae_iadd C 3 dL_law_1494 (by decide) ?_
  refine aw_sld C S0 a3 (by unfold vp_in; decide) (by decide : _ = 3) e3 dL_law_1495 ?_
  refine ao_callV C (ci := 9) (b := 181) [.int a1, .int 1, .int a3] [(181, .inr (9, (.int 0 :: .ref 182 :: .ref 183 :: .ref 184 :: .ref 185 :: .int 0 :: .int 0 :: .int 0 :: .ref 186 :: .int 0 :: .int 0 :: .int 0 :: .int (-1) :: .ref 187 :: .ref 188 :: .ref 189 :: .int 0 :: .ref 190 :: .ref 191 :: .ref 192 :: .ref 193 :: .ref 194 :: .int 0 :: .ref 195 :: .ref 196 :: .ref 197 :: .int 0 :: .ref 198 :: .ref 199 :: .ref 200 :: .ref 201 :: .ref 202 :: .ref 203 :: .int 0 :: .ref 204 :: .ref 205 :: .ref 206 :: .ref 207 :: .ref 208 :: .ref 209 :: .ref 210 :: .ref 211 :: .ref 212 :: .ref 213 :: .ref 214 :: .int 0 :: .ref 215 :: .ref 216 :: .int 0 :: .ref 217 :: .ref 218 :: .ref 219 :: .ref 220 :: .ref 221 :: .int 0 :: .int 0 :: .int 0 :: .int 0 :: .ref 222 :: .int 0 :: [])))] mv_L_180 rfl rfl h181 (c_X9_memory_597 ⟨by omega, by omega⟩ h181 h182) rfl dL_law_1496 (Nat.le_of_ble_eq_true rfl) (Nat.le_of_ble_eq_true rfl) rfl (Nat.le_of_ble_eq_true rfl) (Nat.le_of_ble_eq_true rfl) (Nat.le_of_ble_eq_true rfl) rfl ?_
  refine aw_icmp_eq C 1629 dL_law_1499 (by decide) (fun _ => ?_) (fun q => absurd (by decide) q)
  refine aw_fl [some (.retAddr b), none, none, none, some (.int 0), none, none, none] (by simp [SubL]) ?_
  exact al_tail C S0 (Nat.le_of_ble_eq_true rfl) (Nat.le_of_ble_eq_true rfl)

set_option maxHeartbeats 4000000 in
set_option maxRecDepth 100000 in
theorem lc_25_ba {X : GX} {p : Program} {l : Launch} {e : Env} {s : State} {m : MethodId} {below : List Frame} {meth : Method} {c : Code} {b : Nat} {xs : Nat → Int32} {f : AH} {n : Nat} {a1 : Int32} {a3 : Int32} {a4 : Int32} {a5 : Int32} (C : CC X p l room_1 s m #[Value.ref b] meth c RL cL_law 8 ret) (S0 : SC X b 6 xs s) (hl0 : l.stackTraces = false) (e1 : xs 1 = a1) (q1 : 0 ≤ a1.toInt ∧ a1.toInt ≤ 2147483647) (e2 : xs 2 = 0) (e3 : xs 3 = a3) (e4 : xs 4 = a4) (e5 : xs 5 = a5) (h0 : f 0 = some (.inr (8, [.ref 1, .ref 3, .ref 8, .ref 13, .ref 18, .ref 59, .ref 115, .ref 171, .ref 178, .int 0, .int 0, .int 0, .int 0, .int (-1)]))) (h3 : f 3 = some (.inr (7, [.ref 4, .int 0, .int (-1), .int 0, .int 1, .int 0, .null, .int 0, .ref 6, .ref 7]))) (h181 : f 181 = some (.inr (9, (.int 0 :: .ref 182 :: .ref 183 :: .ref 184 :: .ref 185 :: .int 0 :: .int 0 :: .int 0 :: .ref 186 :: .int 0 :: .int 0 :: .int 0 :: .int (-1) :: .ref 187 :: .ref 188 :: .ref 189 :: .int 0 :: .ref 190 :: .ref 191 :: .ref 192 :: .ref 193 :: .ref 194 :: .int 0 :: .ref 195 :: .ref 196 :: .ref 197 :: .int 0 :: .ref 198 :: .ref 199 :: .ref 200 :: .ref 201 :: .ref 202 :: .ref 203 :: .int 0 :: .ref 204 :: .ref 205 :: .ref 206 :: .ref 207 :: .ref 208 :: .ref 209 :: .ref 210 :: .ref 211 :: .ref 212 :: .ref 213 :: .ref 214 :: .int 0 :: .ref 215 :: .ref 216 :: .int 0 :: .ref 217 :: .ref 218 :: .ref 219 :: .ref 220 :: .ref 221 :: .int 0 :: .int 0 :: .int 0 :: .int 0 :: .ref 222 :: .int 0 :: [])))) (h182 : f 182 = some (.inl (0, 4347, .inl (tl (upd (upd (fun _ => 0) 2 (-1)) 4 1) 40)))) : AW X p l e room_1 s m #[Value.ref b] below meth c 8 (lw_Z below #[Value.ref b] s) f n 1000 300000 1439 [some (.retAddr b), some (.ref 0), some (.ref 181), some (.ref 223), some (.int 0), none, none, none] [] := by
  refine ao_start ?_
  obtain ⟨q1a, q1b⟩ := q1
  refine aw_ald_n C dL_law_1439 rfl ?_
  refine aw_raw_n C dL_law_1440 rfl ?_
  refine aw_iload C dL_law_1441 rfl ?_
  refine aw_iconst C 1 dL_law_1443 ki_1 ?_
  refine ae_iadd C 1 dL_law_1444 (by decide) ?_
  refine aw_sld C S0 a1 (by unfold vp_in; decide) (by decide : _ = 1) e1 dL_law_1445 ?_
  refine aw_raw_n C dL_law_1446 rfl ?_
  refine aw_iload C dL_law_1447 rfl ?_
  refine aw_iconst C 2 dL_law_1449 ki_2 ?_
  refine ae_iadd C 2 dL_law_1450 (by decide) ?_
  refine aw_sld C S0 0 (by unfold vp_in; decide) (by decide : _ = 2) e2 dL_law_1451 ?_
  refine aw_if_eq C 1459 dL_law_1452 (by decide) (fun _ => ?_) (fun q => absurd (by decide) q)
  refine aw_iconst C 0 dL_law_1459 ki_0 ?_
  refine aw_raw_n C dL_law_1460 rfl ?_
  refine aw_iload C dL_law_1461 rfl ?_
  refine aw_iconst C 3 dL_law_1463 ki_3 ?_
  refine ae_iadd C 3 dL_law_1464 (by decide) ?_
  refine aw_sld C S0 a3 (by unfold vp_in; decide) (by decide : _ = 3) e3 dL_law_1465 ?_
  refine ao_callV C (ci := 8) (b := 0) [.int a1, .int 0, .int a3] [] mv_L_176 rfl rfl h0 (c_X8_memory_598 ⟨by omega, by omega⟩ h0 h3) rfl dL_law_1466 (Nat.le_of_ble_eq_true rfl) (Nat.le_of_ble_eq_true rfl) rfl (Nat.le_of_ble_eq_true rfl) (Nat.le_of_ble_eq_true rfl) (Nat.le_of_ble_eq_true rfl) rfl ?_
  refine aw_ald_n C dL_law_1469 rfl ?_
  refine aw_raw_n C dL_law_1470 rfl ?_
  refine aw_iload C dL_law_1471 rfl ?_
  refine aw_iconst C 1 dL_law_1473 ki_1 ?_
  refine ae_iadd C 1 dL_law_1474 (by decide) ?_
  refine aw_sld C S0 a1 (by unfold vp_in; decide) (by decide : _ = 1) e1 dL_law_1475 ?_
  refine aw_raw_n C dL_law_1476 rfl ?_
  refine aw_iload C dL_law_1477 rfl ?_
  refine aw_iconst C 2 dL_law_1479 ki_2 ?_
  refine ae_iadd C 2 dL_law_1480 (by decide) ?_
  refine aw_sld C S0 0 (by unfold vp_in; decide) (by decide : _ = 2) e2 dL_law_1481 ?_
  refine aw_if_eq C 1489 dL_law_1482 (by decide) (fun _ => ?_) (fun q => absurd (by decide) q)
  refine aw_iconst C 0 dL_law_1489 ki_0 ?_
  refine aw_raw_n C dL_law_1490 rfl ?_
  refine aw_iload C dL_law_1491 rfl ?_
  refine aw_iconst C 3 dL_law_1493 ki_3 ?_
  refine ae_iadd C 3 dL_law_1494 (by decide) ?_
  refine aw_sld C S0 a3 (by unfold vp_in; decide) (by decide : _ = 3) e3 dL_law_1495 ?_
  refine ao_callV C (ci := 9) (b := 181) [.int a1, .int 0, .int a3] [(181, .inr (9, (.int 0 :: .ref 182 :: .ref 183 :: .ref 184 :: .ref 185 :: .int 0 :: .int 0 :: .int 0 :: .ref 186 :: .int 0 :: .int 0 :: .int 0 :: .int (-1) :: .ref 187 :: .ref 188 :: .ref 189 :: .int 0 :: .ref 190 :: .ref 191 :: .ref 192 :: .ref 193 :: .ref 194 :: .int 0 :: .ref 195 :: .ref 196 :: .ref 197 :: .int 0 :: .ref 198 :: .ref 199 :: .ref 200 :: .ref 201 :: .ref 202 :: .ref 203 :: .int 0 :: .ref 204 :: .ref 205 :: .ref 206 :: .ref 207 :: .ref 208 :: .ref 209 :: .ref 210 :: .ref 211 :: .ref 212 :: .ref 213 :: .ref 214 :: .int 0 :: .ref 215 :: .ref 216 :: .int 0 :: .ref 217 :: .ref 218 :: .ref 219 :: .ref 220 :: .ref 221 :: .int 0 :: .int 0 :: .int 0 :: .int 0 :: .ref 222 :: .int 0 :: [])))] mv_L_180 rfl rfl h181 (c_X9_memory_599 ⟨by omega, by omega⟩ h181 h182) rfl dL_law_1496 (Nat.le_of_ble_eq_true rfl) (Nat.le_of_ble_eq_true rfl) rfl (Nat.le_of_ble_eq_true rfl) (Nat.le_of_ble_eq_true rfl) (Nat.le_of_ble_eq_true rfl) rfl ?_
  refine aw_icmp_eq C 1629 dL_law_1499 (by decide) (fun _ => ?_) (fun q => absurd (by decide) q)
  refine aw_fl [some (.retAddr b), none, none, none, some (.int 0), none, none, none] (by simp [SubL]) ?_
  exact al_tail C S0 (Nat.le_of_ble_eq_true rfl) (Nat.le_of_ble_eq_true rfl)

set_option maxHeartbeats 4000000 in
set_option maxRecDepth 100000 in
theorem lc_25_bb {X : GX} {p : Program} {l : Launch} {e : Env} {s : State} {m : MethodId} {below : List Frame} {meth : Method} {c : Code} {b : Nat} {xs : Nat → Int32} {f : AH} {n : Nat} {a1 : Int32} {a2 : Int32} {a3 : Int32} {a4 : Int32} {a5 : Int32} (C : CC X p l room_1 s m #[Value.ref b] meth c RL cL_law 8 ret) (S0 : SC X b 6 xs s) (hl0 : l.stackTraces = false) (e1 : xs 1 = a1) (q1 : 0 ≤ a1.toInt ∧ a1.toInt ≤ 2147483647) (e2 : xs 2 = a2) (z2 : ¬ a2 = 0) (e3 : xs 3 = a3) (e4 : xs 4 = a4) (e5 : xs 5 = a5) (h0 : f 0 = some (.inr (8, [.ref 1, .ref 3, .ref 8, .ref 13, .ref 18, .ref 59, .ref 115, .ref 171, .ref 178, .int 0, .int 0, .int 0, .int 0, .int (-1)]))) (h3 : f 3 = some (.inr (7, [.ref 4, .int 0, .int (-1), .int 0, .int 1, .int 0, .null, .int 0, .ref 6, .ref 7]))) (h181 : f 181 = some (.inr (9, (.int 0 :: .ref 182 :: .ref 183 :: .ref 184 :: .ref 185 :: .int 0 :: .int 0 :: .int 0 :: .ref 186 :: .int 0 :: .int 0 :: .int 0 :: .int (-1) :: .ref 187 :: .ref 188 :: .ref 189 :: .int 0 :: .ref 190 :: .ref 191 :: .ref 192 :: .ref 193 :: .ref 194 :: .int 0 :: .ref 195 :: .ref 196 :: .ref 197 :: .int 0 :: .ref 198 :: .ref 199 :: .ref 200 :: .ref 201 :: .ref 202 :: .ref 203 :: .int 0 :: .ref 204 :: .ref 205 :: .ref 206 :: .ref 207 :: .ref 208 :: .ref 209 :: .ref 210 :: .ref 211 :: .ref 212 :: .ref 213 :: .ref 214 :: .int 0 :: .ref 215 :: .ref 216 :: .int 0 :: .ref 217 :: .ref 218 :: .ref 219 :: .ref 220 :: .ref 221 :: .int 0 :: .int 0 :: .int 0 :: .int 0 :: .ref 222 :: .int 0 :: [])))) (h182 : f 182 = some (.inl (0, 4347, .inl (tl (upd (upd (fun _ => 0) 2 (-1)) 4 1) 40)))) : AW X p l e room_1 s m #[Value.ref b] below meth c 8 (lw_Z below #[Value.ref b] s) f n 1000 300000 1439 [some (.retAddr b), some (.ref 0), some (.ref 181), some (.ref 223), some (.int 0), none, none, none] [] := by
  refine ao_start ?_
  obtain ⟨q1a, q1b⟩ := q1
  refine aw_ald_n C dL_law_1439 rfl ?_
  refine aw_raw_n C dL_law_1440 rfl ?_
  refine aw_iload C dL_law_1441 rfl ?_
  refine aw_iconst C 1 dL_law_1443 ki_1 ?_
  refine ae_iadd C 1 dL_law_1444 (by decide) ?_
  refine aw_sld C S0 a1 (by unfold vp_in; decide) (by decide : _ = 1) e1 dL_law_1445 ?_
  refine aw_raw_n C dL_law_1446 rfl ?_
  refine aw_iload C dL_law_1447 rfl ?_
  refine aw_iconst C 2 dL_law_1449 ki_2 ?_
  refine ae_iadd C 2 dL_law_1450 (by decide) ?_
  refine aw_sld C S0 a2 (by unfold vp_in; decide) (by decide : _ = 2) e2 dL_law_1451 ?_
  refine aw_if_eq C 1459 dL_law_1452 (by decide) (fun q => absurd q z2) (fun _ => ?_)
  refine aw_iconst C 1 dL_law_1455 ki_1 ?_
  refine aw_goto C 1460 dL_law_1456 (by decide) ?_
  refine aw_raw_n C dL_law_1460 rfl ?_
  refine aw_iload C dL_law_1461 rfl ?_
  refine aw_iconst C 3 dL_law_1463 ki_3 ?_
  refine ae_iadd C 3 dL_law_1464 (by decide) ?_
  refine aw_sld C S0 a3 (by unfold vp_in; decide) (by decide : _ = 3) e3 dL_law_1465 ?_
  refine ao_callV C (ci := 8) (b := 0) [.int a1, .int 1, .int a3] [] mv_L_176 rfl rfl h0 (c_X8_memory_600 ⟨by omega, by omega⟩ h0 h3) rfl dL_law_1466 (Nat.le_of_ble_eq_true rfl) (Nat.le_of_ble_eq_true rfl) rfl (Nat.le_of_ble_eq_true rfl) (Nat.le_of_ble_eq_true rfl) (Nat.le_of_ble_eq_true rfl) rfl ?_
  refine aw_ald_n C dL_law_1469 rfl ?_
  refine aw_raw_n C dL_law_1470 rfl ?_
  refine aw_iload C dL_law_1471 rfl ?_
  refine aw_iconst C 1 dL_law_1473 ki_1 ?_
  refine ae_iadd C 1 dL_law_1474 (by decide) ?_
  refine aw_sld C S0 a1 (by unfold vp_in; decide) (by decide : _ = 1) e1 dL_law_1475 ?_
  refine aw_raw_n C dL_law_1476 rfl ?_
  refine aw_iload C dL_law_1477 rfl ?_
  refine aw_iconst C 2 dL_law_1479 ki_2 ?_
  refine ae_iadd C 2 dL_law_1480 (by decide) ?_
  refine aw_sld C S0 a2 (by unfold vp_in; decide) (by decide : _ = 2) e2 dL_law_1481 ?_
  refine aw_if_eq C 1489 dL_law_1482 (by decide) (fun q => absurd q z2) (fun _ => ?_)
  refine aw_iconst C 1 dL_law_1485 ki_1 ?_
  refine aw_goto C 1490 dL_law_1486 (by decide) ?_
  refine aw_raw_n C dL_law_1490 rfl ?_
  refine aw_iload C dL_law_1491 rfl ?_
  refine aw_iconst C 3 dL_law_1493 ki_3 ?_
  refine ae_iadd C 3 dL_law_1494 (by decide) ?_
  refine aw_sld C S0 a3 (by unfold vp_in; decide) (by decide : _ = 3) e3 dL_law_1495 ?_
  refine ao_callV C (ci := 9) (b := 181) [.int a1, .int 1, .int a3] [(181, .inr (9, (.int 0 :: .ref 182 :: .ref 183 :: .ref 184 :: .ref 185 :: .int 0 :: .int 0 :: .int 0 :: .ref 186 :: .int 0 :: .int 0 :: .int 0 :: .int (-1) :: .ref 187 :: .ref 188 :: .ref 189 :: .int 0 :: .ref 190 :: .ref 191 :: .ref 192 :: .ref 193 :: .ref 194 :: .int 0 :: .ref 195 :: .ref 196 :: .ref 197 :: .int 0 :: .ref 198 :: .ref 199 :: .ref 200 :: .ref 201 :: .ref 202 :: .ref 203 :: .int 0 :: .ref 204 :: .ref 205 :: .ref 206 :: .ref 207 :: .ref 208 :: .ref 209 :: .ref 210 :: .ref 211 :: .ref 212 :: .ref 213 :: .ref 214 :: .int 0 :: .ref 215 :: .ref 216 :: .int 0 :: .ref 217 :: .ref 218 :: .ref 219 :: .ref 220 :: .ref 221 :: .int 0 :: .int 0 :: .int 0 :: .int 0 :: .ref 222 :: .int 0 :: [])))] mv_L_180 rfl rfl h181 (c_X9_memory_601 ⟨by omega, by omega⟩ h181 h182) rfl dL_law_1496 (Nat.le_of_ble_eq_true rfl) (Nat.le_of_ble_eq_true rfl) rfl (Nat.le_of_ble_eq_true rfl) (Nat.le_of_ble_eq_true rfl) (Nat.le_of_ble_eq_true rfl) rfl ?_
  refine aw_icmp_eq C 1629 dL_law_1499 (by decide) (fun _ => ?_) (fun q => absurd (by decide) q)
  refine aw_fl [some (.retAddr b), none, none, none, some (.int 0), none, none, none] (by simp [SubL]) ?_
  exact al_tail C S0 (Nat.le_of_ble_eq_true rfl) (Nat.le_of_ble_eq_true rfl)

set_option maxHeartbeats 4000000 in
set_option maxRecDepth 100000 in
theorem lc_26_a {X : GX} {p : Program} {l : Launch} {e : Env} {s : State} {m : MethodId} {below : List Frame} {meth : Method} {c : Code} {b : Nat} {xs : Nat → Int32} {f : AH} {n : Nat} {a1 : Int32} {a2 : Int32} {a3 : Int32} {a4 : Int32} {a5 : Int32} (C : CC X p l room_1 s m #[Value.ref b] meth c RL cL_law 8 ret) (S0 : SC X b 6 xs s) (hl0 : l.stackTraces = false) (e1 : xs 1 = a1) (q1 : (-2147483648) ≤ a1.toInt ∧ a1.toInt ≤ (-1)) (e2 : xs 2 = a2) (e3 : xs 3 = a3) (e4 : xs 4 = a4) (e5 : xs 5 = a5) (h0 : f 0 = some (.inr (8, [.ref 1, .ref 3, .ref 8, .ref 13, .ref 18, .ref 59, .ref 115, .ref 171, .ref 178, .int 0, .int 0, .int 0, .int 0, .int (-1)]))) (h59 : f 59 = some (.inr (1, [.ref 60, .ref 62, .ref 74, .int 0, .ref 68, .ref 71, .ref 64, .ref 66]))) (h181 : f 181 = some (.inr (9, (.int 0 :: .ref 182 :: .ref 183 :: .ref 184 :: .ref 185 :: .int 0 :: .int 0 :: .int 0 :: .ref 186 :: .int 0 :: .int 0 :: .int 0 :: .int (-1) :: .ref 187 :: .ref 188 :: .ref 189 :: .int 0 :: .ref 190 :: .ref 191 :: .ref 192 :: .ref 193 :: .ref 194 :: .int 0 :: .ref 195 :: .ref 196 :: .ref 197 :: .int 0 :: .ref 198 :: .ref 199 :: .ref 200 :: .ref 201 :: .ref 202 :: .ref 203 :: .int 0 :: .ref 204 :: .ref 205 :: .ref 206 :: .ref 207 :: .ref 208 :: .ref 209 :: .ref 210 :: .ref 211 :: .ref 212 :: .ref 213 :: .ref 214 :: .int 0 :: .ref 215 :: .ref 216 :: .int 0 :: .ref 217 :: .ref 218 :: .ref 219 :: .ref 220 :: .ref 221 :: .int 0 :: .int 0 :: .int 0 :: .int 0 :: .ref 222 :: .int 0 :: [])))) : AW X p l e room_1 s m #[Value.ref b] below meth c 8 (lw_Z below #[Value.ref b] s) f n 1000 300000 1504 [some (.retAddr b), some (.ref 0), some (.ref 181), some (.ref 223), some (.int 0), none, none, none] [] := by
  refine ao_start ?_
  obtain ⟨q1a, q1b⟩ := q1
  refine aw_ald_n C dL_law_1504 rfl ?_
  refine aw_raw_n C dL_law_1505 rfl ?_
  refine aw_iload C dL_law_1506 rfl ?_
  refine aw_iconst C 1 dL_law_1508 ki_1 ?_
  refine ae_iadd C 1 dL_law_1509 (by decide) ?_
  refine aw_sld C S0 a1 (by unfold vp_in; decide) (by decide : _ = 1) e1 dL_law_1510 ?_
  refine aw_ald_n C dL_law_1511 rfl ?_
  refine aw_callSW C [.ref 0, .int a1, .ref 223] mw_L_181 (c_L_kept_603 hl0 ⟨by omega, by omega⟩ h0 h59) rfl dL_law_1512 (Nat.le_of_ble_eq_true rfl) (Nat.le_of_ble_eq_true rfl) rfl (Nat.le_of_ble_eq_true rfl) (Nat.le_of_ble_eq_true rfl) (Nat.le_of_ble_eq_true rfl) (fun v9 f9 n9 h9 => ?_)
  obtain ⟨rfl, rfl⟩ := h9
  refine ao_flat [] rfl ?_
  refine aw_istore C dL_law_1515 (by decide) rfl ?_
  refine aw_nl [some (.retAddr b), some (.ref 0), some (.ref 181), some (.ref 223), some (.int 0), some (.int 1), none, none] rfl ?_
  refine aw_ald_n C dL_law_1517 rfl ?_
  refine aw_raw_n C dL_law_1518 rfl ?_
  refine aw_iload C dL_law_1519 rfl ?_
  refine aw_iconst C 1 dL_law_1521 ki_1 ?_
  refine ae_iadd C 1 dL_law_1522 (by decide) ?_
  refine aw_sld C S0 a1 (by unfold vp_in; decide) (by decide : _ = 1) e1 dL_law_1523 ?_
  refine ao_callV C (ci := 9) (b := 181) [.int a1] [(181, .inr (9, (.int 1 :: .ref 182 :: .ref 183 :: .ref 184 :: .ref 185 :: .int 0 :: .int 0 :: .int 0 :: .ref 186 :: .int 0 :: .int 0 :: .int 0 :: .int (-1) :: .ref 187 :: .ref 188 :: .ref 189 :: .int 0 :: .ref 190 :: .ref 191 :: .ref 192 :: .ref 193 :: .ref 194 :: .int 0 :: .ref 195 :: .ref 196 :: .ref 197 :: .int 0 :: .ref 198 :: .ref 199 :: .ref 200 :: .ref 201 :: .ref 202 :: .ref 203 :: .int 0 :: .ref 204 :: .ref 205 :: .ref 206 :: .ref 207 :: .ref 208 :: .ref 209 :: .ref 210 :: .ref 211 :: .ref 212 :: .ref 213 :: .ref 214 :: .int 0 :: .ref 215 :: .ref 216 :: .int 0 :: .ref 217 :: .ref 218 :: .ref 219 :: .ref 220 :: .ref 221 :: .int 0 :: .int 0 :: .int 0 :: .int 0 :: .ref 222 :: .int 0 :: [])))] mv_L_183 rfl rfl h181 (c_X9_kept_604 ⟨by omega, by omega⟩ h181) rfl dL_law_1524 (Nat.le_of_ble_eq_true rfl) (Nat.le_of_ble_eq_true rfl) rfl (Nat.le_of_ble_eq_true rfl) (Nat.le_of_ble_eq_true rfl) (Nat.le_of_ble_eq_true rfl) rfl ?_
  refine aw_istore C dL_law_1527 (by decide) rfl ?_
  refine aw_nl [some (.retAddr b), some (.ref 0), some (.ref 181), some (.ref 223), some (.int 0), some (.int 1), some (.int 0), none] rfl ?_
  refine aw_ald_n C dL_law_1529 rfl ?_
  refine ao_callV C (ci := 9) (b := 181) [] [(181, .inr (9, (.int 1 :: .ref 182 :: .ref 183 :: .ref 184 :: .ref 185 :: .int 0 :: .int 0 :: .int 0 :: .ref 186 :: .int 0 :: .int 0 :: .int 0 :: .int (-1) :: .ref 187 :: .ref 188 :: .ref 189 :: .int 0 :: .ref 190 :: .ref 191 :: .ref 192 :: .ref 193 :: .ref 194 :: .int 0 :: .ref 195 :: .ref 196 :: .ref 197 :: .int 0 :: .ref 198 :: .ref 199 :: .ref 200 :: .ref 201 :: .ref 202 :: .ref 203 :: .int 0 :: .ref 204 :: .ref 205 :: .ref 206 :: .ref 207 :: .ref 208 :: .ref 209 :: .ref 210 :: .ref 211 :: .ref 212 :: .ref 213 :: .ref 214 :: .int 0 :: .ref 215 :: .ref 216 :: .int 0 :: .ref 217 :: .ref 218 :: .ref 219 :: .ref 220 :: .ref 221 :: .int 0 :: .int 0 :: .int 0 :: .int 0 :: .ref 222 :: .int 0 :: [])))] mv_L_97 rfl rfl rfl (c_X9_thrown_208 rfl) rfl dL_law_1530 (Nat.le_of_ble_eq_true rfl) (Nat.le_of_ble_eq_true rfl) rfl (Nat.le_of_ble_eq_true rfl) (Nat.le_of_ble_eq_true rfl) (Nat.le_of_ble_eq_true rfl) rfl ?_
  refine aw_iload C dL_law_1533 rfl ?_
  refine aw_icmp_eq C 1540 dL_law_1535 (by decide) (fun _ => ?_) (fun q => absurd (by decide) q)
  refine aw_iload C dL_law_1540 rfl ?_
  refine aw_if_ne C 1564 dL_law_1542 (by decide) (fun _ => ?_) (fun q => absurd q (by decide))
  refine aw_goto C 1629 dL_law_1564 (by decide) ?_
  refine aw_fl [some (.retAddr b), none, none, none, some (.int 0), none, none, none] (by simp [SubL]) ?_
  exact al_tail C S0 (Nat.le_of_ble_eq_true rfl) (Nat.le_of_ble_eq_true rfl)

set_option maxHeartbeats 4000000 in
set_option maxRecDepth 100000 in
theorem lc_26_b {X : GX} {p : Program} {l : Launch} {e : Env} {s : State} {m : MethodId} {below : List Frame} {meth : Method} {c : Code} {b : Nat} {xs : Nat → Int32} {f : AH} {n : Nat} {a1 : Int32} {a2 : Int32} {a3 : Int32} {a4 : Int32} {a5 : Int32} (C : CC X p l room_1 s m #[Value.ref b] meth c RL cL_law 8 ret) (S0 : SC X b 6 xs s) (hl0 : l.stackTraces = false) (e1 : xs 1 = a1) (q1 : 0 ≤ a1.toInt ∧ a1.toInt ≤ 2147483647) (e2 : xs 2 = a2) (e3 : xs 3 = a3) (e4 : xs 4 = a4) (e5 : xs 5 = a5) (h0 : f 0 = some (.inr (8, [.ref 1, .ref 3, .ref 8, .ref 13, .ref 18, .ref 59, .ref 115, .ref 171, .ref 178, .int 0, .int 0, .int 0, .int 0, .int (-1)]))) (h59 : f 59 = some (.inr (1, [.ref 60, .ref 62, .ref 74, .int 0, .ref 68, .ref 71, .ref 64, .ref 66]))) (h181 : f 181 = some (.inr (9, (.int 0 :: .ref 182 :: .ref 183 :: .ref 184 :: .ref 185 :: .int 0 :: .int 0 :: .int 0 :: .ref 186 :: .int 0 :: .int 0 :: .int 0 :: .int (-1) :: .ref 187 :: .ref 188 :: .ref 189 :: .int 0 :: .ref 190 :: .ref 191 :: .ref 192 :: .ref 193 :: .ref 194 :: .int 0 :: .ref 195 :: .ref 196 :: .ref 197 :: .int 0 :: .ref 198 :: .ref 199 :: .ref 200 :: .ref 201 :: .ref 202 :: .ref 203 :: .int 0 :: .ref 204 :: .ref 205 :: .ref 206 :: .ref 207 :: .ref 208 :: .ref 209 :: .ref 210 :: .ref 211 :: .ref 212 :: .ref 213 :: .ref 214 :: .int 0 :: .ref 215 :: .ref 216 :: .int 0 :: .ref 217 :: .ref 218 :: .ref 219 :: .ref 220 :: .ref 221 :: .int 0 :: .int 0 :: .int 0 :: .int 0 :: .ref 222 :: .int 0 :: [])))) : AW X p l e room_1 s m #[Value.ref b] below meth c 8 (lw_Z below #[Value.ref b] s) f n 1000 300000 1504 [some (.retAddr b), some (.ref 0), some (.ref 181), some (.ref 223), some (.int 0), none, none, none] [] := by
  refine ao_start ?_
  obtain ⟨q1a, q1b⟩ := q1
  refine aw_ald_n C dL_law_1504 rfl ?_
  refine aw_raw_n C dL_law_1505 rfl ?_
  refine aw_iload C dL_law_1506 rfl ?_
  refine aw_iconst C 1 dL_law_1508 ki_1 ?_
  refine ae_iadd C 1 dL_law_1509 (by decide) ?_
  refine aw_sld C S0 a1 (by unfold vp_in; decide) (by decide : _ = 1) e1 dL_law_1510 ?_
  refine aw_ald_n C dL_law_1511 rfl ?_
  refine aw_callSW C [.ref 0, .int a1, .ref 223] mw_L_181 (c_L_kept_606 hl0 ⟨by omega, by omega⟩ h0 h59) rfl dL_law_1512 (Nat.le_of_ble_eq_true rfl) (Nat.le_of_ble_eq_true rfl) rfl (Nat.le_of_ble_eq_true rfl) (Nat.le_of_ble_eq_true rfl) (Nat.le_of_ble_eq_true rfl) (fun v9 f9 n9 h9 => ?_)
  obtain ⟨rfl, rfl⟩ := h9
  refine ao_flat [] rfl ?_
  refine aw_istore C dL_law_1515 (by decide) rfl ?_
  refine aw_nl [some (.retAddr b), some (.ref 0), some (.ref 181), some (.ref 223), some (.int 0), some (.int 1), none, none] rfl ?_
  refine aw_ald_n C dL_law_1517 rfl ?_
  refine aw_raw_n C dL_law_1518 rfl ?_
  refine aw_iload C dL_law_1519 rfl ?_
  refine aw_iconst C 1 dL_law_1521 ki_1 ?_
  refine ae_iadd C 1 dL_law_1522 (by decide) ?_
  refine aw_sld C S0 a1 (by unfold vp_in; decide) (by decide : _ = 1) e1 dL_law_1523 ?_
  refine ao_callV C (ci := 9) (b := 181) [.int a1] [(181, .inr (9, (.int 1 :: .ref 182 :: .ref 183 :: .ref 184 :: .ref 185 :: .int 0 :: .int 0 :: .int 0 :: .ref 186 :: .int 0 :: .int 0 :: .int 0 :: .int (-1) :: .ref 187 :: .ref 188 :: .ref 189 :: .int 0 :: .ref 190 :: .ref 191 :: .ref 192 :: .ref 193 :: .ref 194 :: .int 0 :: .ref 195 :: .ref 196 :: .ref 197 :: .int 0 :: .ref 198 :: .ref 199 :: .ref 200 :: .ref 201 :: .ref 202 :: .ref 203 :: .int 0 :: .ref 204 :: .ref 205 :: .ref 206 :: .ref 207 :: .ref 208 :: .ref 209 :: .ref 210 :: .ref 211 :: .ref 212 :: .ref 213 :: .ref 214 :: .int 0 :: .ref 215 :: .ref 216 :: .int 0 :: .ref 217 :: .ref 218 :: .ref 219 :: .ref 220 :: .ref 221 :: .int 0 :: .int 0 :: .int 0 :: .int 0 :: .ref 222 :: .int 0 :: [])))] mv_L_183 rfl rfl h181 (c_X9_kept_607 ⟨by omega, by omega⟩ h181) rfl dL_law_1524 (Nat.le_of_ble_eq_true rfl) (Nat.le_of_ble_eq_true rfl) rfl (Nat.le_of_ble_eq_true rfl) (Nat.le_of_ble_eq_true rfl) (Nat.le_of_ble_eq_true rfl) rfl ?_
  refine aw_istore C dL_law_1527 (by decide) rfl ?_
  refine aw_nl [some (.retAddr b), some (.ref 0), some (.ref 181), some (.ref 223), some (.int 0), some (.int 1), some (.int 0), none] rfl ?_
  refine aw_ald_n C dL_law_1529 rfl ?_
  refine ao_callV C (ci := 9) (b := 181) [] [(181, .inr (9, (.int 1 :: .ref 182 :: .ref 183 :: .ref 184 :: .ref 185 :: .int 0 :: .int 0 :: .int 0 :: .ref 186 :: .int 0 :: .int 0 :: .int 0 :: .int (-1) :: .ref 187 :: .ref 188 :: .ref 189 :: .int 0 :: .ref 190 :: .ref 191 :: .ref 192 :: .ref 193 :: .ref 194 :: .int 0 :: .ref 195 :: .ref 196 :: .ref 197 :: .int 0 :: .ref 198 :: .ref 199 :: .ref 200 :: .ref 201 :: .ref 202 :: .ref 203 :: .int 0 :: .ref 204 :: .ref 205 :: .ref 206 :: .ref 207 :: .ref 208 :: .ref 209 :: .ref 210 :: .ref 211 :: .ref 212 :: .ref 213 :: .ref 214 :: .int 0 :: .ref 215 :: .ref 216 :: .int 0 :: .ref 217 :: .ref 218 :: .ref 219 :: .ref 220 :: .ref 221 :: .int 0 :: .int 0 :: .int 0 :: .int 0 :: .ref 222 :: .int 0 :: [])))] mv_L_97 rfl rfl rfl (c_X9_thrown_208 rfl) rfl dL_law_1530 (Nat.le_of_ble_eq_true rfl) (Nat.le_of_ble_eq_true rfl) rfl (Nat.le_of_ble_eq_true rfl) (Nat.le_of_ble_eq_true rfl) (Nat.le_of_ble_eq_true rfl) rfl ?_
  refine aw_iload C dL_law_1533 rfl ?_
  refine aw_icmp_eq C 1540 dL_law_1535 (by decide) (fun _ => ?_) (fun q => absurd (by decide) q)
  refine aw_iload C dL_law_1540 rfl ?_
  refine aw_if_ne C 1564 dL_law_1542 (by decide) (fun _ => ?_) (fun q => absurd q (by decide))
  refine aw_goto C 1629 dL_law_1564 (by decide) ?_
  refine aw_fl [some (.retAddr b), none, none, none, some (.int 0), none, none, none] (by simp [SubL]) ?_
  exact al_tail C S0 (Nat.le_of_ble_eq_true rfl) (Nat.le_of_ble_eq_true rfl)

set_option maxHeartbeats 4000000 in
set_option maxRecDepth 100000 in
theorem lc_27_x {X : GX} {p : Program} {l : Launch} {e : Env} {s : State} {m : MethodId} {below : List Frame} {meth : Method} {c : Code} {b : Nat} {xs : Nat → Int32} {f : AH} {n : Nat} {a1 : Int32} {a2 : Int32} {a3 : Int32} {a4 : Int32} {a5 : Int32} {g130 : Nat → Option Nat} (C : CC X p l room_1 s m #[Value.ref b] meth c RL cL_law 8 ret) (S0 : SC X b 6 xs s) (hl0 : l.stackTraces = false) (e1 : xs 1 = a1) (e2 : xs 2 = a2) (e3 : xs 3 = a3) (e4 : xs 4 = a4) (e5 : xs 5 = a5) (h0 : f 0 = some (.inr (8, [.ref 1, .ref 3, .ref 8, .ref 13, .ref 18, .ref 59, .ref 115, .ref 171, .ref 178, .int 0, .int 0, .int 0, .int 0, .int (-1)]))) (h171 : f 171 = some (.inr (0, [.ref 172, .ref 174, .ref 176, .int 0]))) (h115 : f 115 = some (.inr (1, [.ref 116, .ref 118, .ref 130, .int 0, .ref 124, .ref 127, .ref 120, .ref 122]))) (h116 : f 116 = some (.inr (5, [.ref 117, .int 0]))) (h118 : f 118 = some (.inr (5, [.ref 119, .int 0]))) (h3 : f 3 = some (.inr (7, [.ref 4, .int 0, .int (-1), .int 0, .int 1, .int 0, .null, .int 0, .ref 6, .ref 7]))) (h124 : f 124 = some (.inr (6, [.ref 125, .int 0, .int 0, .int 0, .int 0, .int 0, .int 0, .int 0, .int 0, .int 0]))) (h130 : f 130 = some (.inl (1, 40, .inr (.inr g130)))) (h172 : f 172 = some (.inr (5, [.ref 173, .int 0]))) (h59 : f 59 = some (.inr (1, [.ref 60, .ref 62, .ref 74, .int 0, .ref 68, .ref 71, .ref 64, .ref 66]))) (h181 : f 181 = some (.inr (9, (.int 0 :: .ref 182 :: .ref 183 :: .ref 184 :: .ref 185 :: .int 0 :: .int 0 :: .int 0 :: .ref 186 :: .int 0 :: .int 0 :: .int 0 :: .int (-1) :: .ref 187 :: .ref 188 :: .ref 189 :: .int 0 :: .ref 190 :: .ref 191 :: .ref 192 :: .ref 193 :: .ref 194 :: .int 0 :: .ref 195 :: .ref 196 :: .ref 197 :: .int 0 :: .ref 198 :: .ref 199 :: .ref 200 :: .ref 201 :: .ref 202 :: .ref 203 :: .int 0 :: .ref 204 :: .ref 205 :: .ref 206 :: .ref 207 :: .ref 208 :: .ref 209 :: .ref 210 :: .ref 211 :: .ref 212 :: .ref 213 :: .ref 214 :: .int 0 :: .ref 215 :: .ref 216 :: .int 0 :: .ref 217 :: .ref 218 :: .ref 219 :: .ref 220 :: .ref 221 :: .int 0 :: .int 0 :: .int 0 :: .int 0 :: .ref 222 :: .int 0 :: [])))) (h182 : f 182 = some (.inl (0, 4347, .inl (tl (upd (upd (fun _ => 0) 2 (-1)) 4 1) 40)))) (h219 : f 219 = some (.inl (0, 41, .inl (fun _ => 0)))) : AW X p l e room_1 s m #[Value.ref b] below meth c 8 (lw_Z below #[Value.ref b] s) f n 1000 300000 1567 [some (.retAddr b), some (.ref 0), some (.ref 181), some (.ref 223), some (.int 0), none, none, none] [] := by
  refine ao_start ?_
  refine aw_ald_n C dL_law_1567 rfl ?_
  refine ao_callV C (ci := 8) (b := 0) [] [(124, .inr (6, [.ref 172, .int 0, .int 0, .int 0, .int 0, .int 0, .int 0, .int 0, .int 0, .int 0])), (115, .inr (1, [.ref 116, .ref 118, .ref 130, .int 0, .ref 124, .ref 127, .ref 120, .ref 122])), (0, .inr (8, [.ref 1, .ref 3, .ref 8, .ref 13, .ref 18, .ref 59, .ref 115, .ref 171, .ref 178, .int 0, .int 1, .int 0, .int 0, .int (-1)]))] mv_L_184 rfl rfl h0 (c_X8_twice_616 h0 h171 h115 h116 h118 h3 h124 h130 h172 h59) rfl dL_law_1568 (Nat.le_of_ble_eq_true rfl) (Nat.le_of_ble_eq_true rfl) rfl (Nat.le_of_ble_eq_true rfl) (Nat.le_of_ble_eq_true rfl) (Nat.le_of_ble_eq_true rfl) rfl ?_
  refine aw_ald_n C dL_law_1571 rfl ?_
  refine ao_callV C (ci := 9) (b := 181) [] [(124, .inr (6, [.ref 172, .int 0, .int 0, .int 0, .int 0, .int 0, .int 0, .int 0, .int 0, .int 0])), (115, .inr (1, [.ref 116, .ref 118, .ref 130, .int 0, .ref 124, .ref 127, .ref 120, .ref 122])), (0, .inr (8, [.ref 1, .ref 3, .ref 8, .ref 13, .ref 18, .ref 59, .ref 115, .ref 171, .ref 178, .int 0, .int 1, .int 0, .int 0, .int (-1)])), (219, .inl (0, 41, .inl (upd (fun _ => 0) 0 0))), (181, .inr (9, (.int 0 :: .ref 182 :: .ref 183 :: .ref 184 :: .ref 185 :: .int 0 :: .int 0 :: .int 0 :: .ref 186 :: .int 0 :: .int 0 :: .int 0 :: .int (-1) :: .ref 187 :: .ref 188 :: .ref 189 :: .int 0 :: .ref 190 :: .ref 191 :: .ref 192 :: .ref 193 :: .ref 194 :: .int 0 :: .ref 195 :: .ref 196 :: .ref 197 :: .int 0 :: .ref 198 :: .ref 199 :: .ref 200 :: .ref 201 :: .ref 202 :: .ref 203 :: .int 0 :: .ref 204 :: .ref 205 :: .ref 206 :: .ref 207 :: .ref 208 :: .ref 209 :: .ref 210 :: .ref 211 :: .ref 212 :: .ref 213 :: .ref 214 :: .int 0 :: .ref 215 :: .ref 216 :: .int 0 :: .ref 217 :: .ref 218 :: .ref 219 :: .ref 220 :: .ref 221 :: .int 0 :: .int 0 :: .int 0 :: .int 0 :: .ref 222 :: .int 0 :: [])))] mv_L_188 rfl rfl h181 (c_X9_twice_620 h181 h182 h219) rfl dL_law_1572 (Nat.le_of_ble_eq_true rfl) (Nat.le_of_ble_eq_true rfl) rfl (Nat.le_of_ble_eq_true rfl) (Nat.le_of_ble_eq_true rfl) (Nat.le_of_ble_eq_true rfl) rfl ?_
  refine aw_icmp_eq C 1629 dL_law_1575 (by decide) (fun _ => ?_) (fun q => absurd (by decide) q)
  refine aw_fl [some (.retAddr b), none, none, none, some (.int 0), none, none, none] (by simp [SubL]) ?_
  exact al_tail C S0 (Nat.le_of_ble_eq_true rfl) (Nat.le_of_ble_eq_true rfl)

set_option maxHeartbeats 4000000 in
set_option maxRecDepth 100000 in
theorem lc_28_x {X : GX} {p : Program} {l : Launch} {e : Env} {s : State} {m : MethodId} {below : List Frame} {meth : Method} {c : Code} {b : Nat} {xs : Nat → Int32} {f : AH} {n : Nat} {a1 : Int32} {a2 : Int32} {a3 : Int32} {a4 : Int32} {a5 : Int32} {g182 : Nat → Int32} (C : CC X p l room_1 s m #[Value.ref b] meth c RL cL_law 8 ret) (S0 : SC X b 6 xs s) (hl0 : l.stackTraces = false) (e1 : xs 1 = a1) (e2 : xs 2 = a2) (e3 : xs 3 = a3) (e4 : xs 4 = a4) (e5 : xs 5 = a5) (h0 : f 0 = some (.inr (8, [.ref 1, .ref 3, .ref 8, .ref 13, .ref 18, .ref 59, .ref 115, .ref 171, .ref 178, .int 0, .int 0, .int 0, .int 0, .int (-1)]))) (h3 : f 3 = some (.inr (7, [.ref 4, .int 0, .int (-1), .int 0, .int 1, .int 0, .null, .int 0, .ref 6, .ref 7]))) (h13 : f 13 = some (.inr (7, [.ref 14, .int 0, .int (-1), .int 0, .int 1, .int 0, .null, .int 0, .ref 16, .ref 17]))) (h16 : f 16 = some (.inl (2, 4, .inr (.inr (fun _ => none))))) (h6 : f 6 = some (.inl (2, 4, .inr (.inr (fun _ => none))))) (h17 : f 17 = some (.inl (2, 40, .inr (.inr (fun _ => none))))) (h7 : f 7 = some (.inl (2, 40, .inr (.inr (fun _ => none))))) (h181 : f 181 = some (.inr (9, (.int 0 :: .ref 182 :: .ref 183 :: .ref 184 :: .ref 185 :: .int 0 :: .int 0 :: .int 0 :: .ref 186 :: .int 0 :: .int 0 :: .int 0 :: .int (-1) :: .ref 187 :: .ref 188 :: .ref 189 :: .int 0 :: .ref 190 :: .ref 191 :: .ref 192 :: .ref 193 :: .ref 194 :: .int 0 :: .ref 195 :: .ref 196 :: .ref 197 :: .int 0 :: .ref 198 :: .ref 199 :: .ref 200 :: .ref 201 :: .ref 202 :: .ref 203 :: .int 0 :: .ref 204 :: .ref 205 :: .ref 206 :: .ref 207 :: .ref 208 :: .ref 209 :: .ref 210 :: .ref 211 :: .ref 212 :: .ref 213 :: .ref 214 :: .int 0 :: .ref 215 :: .ref 216 :: .int 0 :: .ref 217 :: .ref 218 :: .ref 219 :: .ref 220 :: .ref 221 :: .int 0 :: .int 0 :: .int 0 :: .int 0 :: .ref 222 :: .int 0 :: [])))) (h184 : f 184 = some (.inl (0, 4347, .inl (fun _ => 0)))) (h182 : f 182 = some (.inl (0, 4347, .inl g182))) : AW X p l e room_1 s m #[Value.ref b] below meth c 8 (lw_Z below #[Value.ref b] s) f n 1000 300000 1580 [some (.retAddr b), some (.ref 0), some (.ref 181), some (.ref 223), some (.int 0), none, none, none] [] := by
  refine ao_start ?_
  refine aw_ald_n C dL_law_1580 rfl ?_
  refine ao_callV C (ci := 8) (b := 0) [] [(0, .inr (8, [.ref 1, .ref 3, .ref 8, .ref 13, .ref 18, .ref 59, .ref 115, .ref 171, .ref 178, .int 1, .int 0, .int 0, .int 0, .int (-1)])), (13, .inr (7, [.ref 4, .int 0, .int (-1), .int 0, .int 1, .int 0, .null, .int 0, .ref 16, .ref 17]))] mv_L_189 rfl rfl h0 (c_X8_image_622 h0 h3 h13 h16 h6 h17 h7) rfl dL_law_1581 (Nat.le_of_ble_eq_true rfl) (Nat.le_of_ble_eq_true rfl) rfl (Nat.le_of_ble_eq_true rfl) (Nat.le_of_ble_eq_true rfl) (Nat.le_of_ble_eq_true rfl) rfl ?_
  refine aw_ald_n C dL_law_1584 rfl ?_
  refine ao_callV C (ci := 9) (b := 181) [] [(0, .inr (8, [.ref 1, .ref 3, .ref 8, .ref 13, .ref 18, .ref 59, .ref 115, .ref 171, .ref 178, .int 1, .int 0, .int 0, .int 0, .int (-1)])), (13, .inr (7, [.ref 4, .int 0, .int (-1), .int 0, .int 1, .int 0, .null, .int 0, .ref 16, .ref 17])), (184, .inl (0, 4347, .inl (cpy g182 (fun _ => 0) 4347))), (181, .inr (9, (.int 0 :: .ref 182 :: .ref 183 :: .ref 184 :: .ref 185 :: .int 0 :: .int 1 :: .int 0 :: .ref 186 :: .int 0 :: .int 0 :: .int 0 :: .int (-1) :: .ref 187 :: .ref 188 :: .ref 189 :: .int 0 :: .ref 190 :: .ref 191 :: .ref 192 :: .ref 193 :: .ref 194 :: .int 0 :: .ref 195 :: .ref 196 :: .ref 197 :: .int 0 :: .ref 198 :: .ref 199 :: .ref 200 :: .ref 201 :: .ref 202 :: .ref 203 :: .int 0 :: .ref 204 :: .ref 205 :: .ref 206 :: .ref 207 :: .ref 208 :: .ref 209 :: .ref 210 :: .ref 211 :: .ref 212 :: .ref 213 :: .ref 214 :: .int 0 :: .ref 215 :: .ref 216 :: .int 0 :: .ref 217 :: .ref 218 :: .ref 219 :: .ref 220 :: .ref 221 :: .int 0 :: .int 0 :: .int 0 :: .int 0 :: .ref 222 :: .int 0 :: [])))] mv_L_192 rfl rfl h181 (c_X9_image_623 h181 h184 h182) rfl dL_law_1585 (Nat.le_of_ble_eq_true rfl) (Nat.le_of_ble_eq_true rfl) rfl (Nat.le_of_ble_eq_true rfl) (Nat.le_of_ble_eq_true rfl) (Nat.le_of_ble_eq_true rfl) rfl ?_
  refine aw_goto C 1629 dL_law_1588 (by decide) ?_
  refine aw_fl [some (.retAddr b), none, none, none, some (.int 0), none, none, none] (by simp [SubL]) ?_
  exact al_tail C S0 (Nat.le_of_ble_eq_true rfl) (Nat.le_of_ble_eq_true rfl)

set_option maxHeartbeats 4000000 in
set_option maxRecDepth 100000 in
theorem lc_29_x {X : GX} {p : Program} {l : Launch} {e : Env} {s : State} {m : MethodId} {below : List Frame} {meth : Method} {c : Code} {b : Nat} {xs : Nat → Int32} {f : AH} {n : Nat} {a1 : Int32} {a2 : Int32} {a3 : Int32} {a4 : Int32} {a5 : Int32} (C : CC X p l room_1 s m #[Value.ref b] meth c RL cL_law 8 ret) (S0 : SC X b 6 xs s) (hl0 : l.stackTraces = false) (e1 : xs 1 = a1) (e2 : xs 2 = a2) (e3 : xs 3 = a3) (e4 : xs 4 = a4) (e5 : xs 5 = a5) (h0 : f 0 = some (.inr (8, [.ref 1, .ref 3, .ref 8, .ref 13, .ref 18, .ref 59, .ref 115, .ref 171, .ref 178, .int 0, .int 0, .int 0, .int 0, .int (-1)]))) (h181 : f 181 = some (.inr (9, (.int 0 :: .ref 182 :: .ref 183 :: .ref 184 :: .ref 185 :: .int 0 :: .int 0 :: .int 0 :: .ref 186 :: .int 0 :: .int 0 :: .int 0 :: .int (-1) :: .ref 187 :: .ref 188 :: .ref 189 :: .int 0 :: .ref 190 :: .ref 191 :: .ref 192 :: .ref 193 :: .ref 194 :: .int 0 :: .ref 195 :: .ref 196 :: .ref 197 :: .int 0 :: .ref 198 :: .ref 199 :: .ref 200 :: .ref 201 :: .ref 202 :: .ref 203 :: .int 0 :: .ref 204 :: .ref 205 :: .ref 206 :: .ref 207 :: .ref 208 :: .ref 209 :: .ref 210 :: .ref 211 :: .ref 212 :: .ref 213 :: .ref 214 :: .int 0 :: .ref 215 :: .ref 216 :: .int 0 :: .ref 217 :: .ref 218 :: .ref 219 :: .ref 220 :: .ref 221 :: .int 0 :: .int 0 :: .int 0 :: .int 0 :: .ref 222 :: .int 0 :: [])))) : AW X p l e room_1 s m #[Value.ref b] below meth c 8 (lw_Z below #[Value.ref b] s) f n 1000 300000 1591 [some (.retAddr b), some (.ref 0), some (.ref 181), some (.ref 223), some (.int 0), none, none, none] [] := by
  refine ao_start ?_
  refine aw_ald_n C dL_law_1591 rfl ?_
  refine ao_callV C (ci := 8) (b := 0) [] [] mv_L_193 rfl rfl h0 (c_X8_back_624 h0) rfl dL_law_1592 (Nat.le_of_ble_eq_true rfl) (Nat.le_of_ble_eq_true rfl) rfl (Nat.le_of_ble_eq_true rfl) (Nat.le_of_ble_eq_true rfl) (Nat.le_of_ble_eq_true rfl) rfl ?_
  refine aw_ald_n C dL_law_1595 rfl ?_
  refine ao_callV C (ci := 9) (b := 181) [] [(181, .inr (9, (.int 0 :: .ref 182 :: .ref 183 :: .ref 184 :: .ref 185 :: .int 0 :: .int 0 :: .int 0 :: .ref 186 :: .int 0 :: .int 0 :: .int 0 :: .int (-1) :: .ref 187 :: .ref 188 :: .ref 189 :: .int 0 :: .ref 190 :: .ref 191 :: .ref 192 :: .ref 193 :: .ref 194 :: .int 0 :: .ref 195 :: .ref 196 :: .ref 197 :: .int 0 :: .ref 198 :: .ref 199 :: .ref 200 :: .ref 201 :: .ref 202 :: .ref 203 :: .int 0 :: .ref 204 :: .ref 205 :: .ref 206 :: .ref 207 :: .ref 208 :: .ref 209 :: .ref 210 :: .ref 211 :: .ref 212 :: .ref 213 :: .ref 214 :: .int 0 :: .ref 215 :: .ref 216 :: .int 0 :: .ref 217 :: .ref 218 :: .ref 219 :: .ref 220 :: .ref 221 :: .int 0 :: .int 0 :: .int 0 :: .int 0 :: .ref 222 :: .int 0 :: [])))] mv_L_196 rfl rfl h181 (c_X9_back_625 h181) rfl dL_law_1596 (Nat.le_of_ble_eq_true rfl) (Nat.le_of_ble_eq_true rfl) rfl (Nat.le_of_ble_eq_true rfl) (Nat.le_of_ble_eq_true rfl) (Nat.le_of_ble_eq_true rfl) rfl ?_
  refine aw_icmp_eq C 1629 dL_law_1599 (by decide) (fun _ => ?_) (fun q => absurd (by decide) q)
  refine aw_fl [some (.retAddr b), none, none, none, some (.int 0), none, none, none] (by simp [SubL]) ?_
  exact al_tail C S0 (Nat.le_of_ble_eq_true rfl) (Nat.le_of_ble_eq_true rfl)

set_option maxHeartbeats 4000000 in
set_option maxRecDepth 100000 in
theorem lc_30_a {X : GX} {p : Program} {l : Launch} {e : Env} {s : State} {m : MethodId} {below : List Frame} {meth : Method} {c : Code} {b : Nat} {xs : Nat → Int32} {f : AH} {n : Nat} {a1 : Int32} {a2 : Int32} {a3 : Int32} {a4 : Int32} {a5 : Int32} (C : CC X p l room_1 s m #[Value.ref b] meth c RL cL_law 8 ret) (S0 : SC X b 6 xs s) (hl0 : l.stackTraces = false) (e1 : xs 1 = a1) (q1 : (-2147483648) ≤ a1.toInt ∧ a1.toInt ≤ (-1)) (e2 : xs 2 = a2) (e3 : xs 3 = a3) (e4 : xs 4 = a4) (e5 : xs 5 = a5) (h0 : f 0 = some (.inr (8, [.ref 1, .ref 3, .ref 8, .ref 13, .ref 18, .ref 59, .ref 115, .ref 171, .ref 178, .int 0, .int 0, .int 0, .int 0, .int (-1)]))) (h181 : f 181 = some (.inr (9, (.int 0 :: .ref 182 :: .ref 183 :: .ref 184 :: .ref 185 :: .int 0 :: .int 0 :: .int 0 :: .ref 186 :: .int 0 :: .int 0 :: .int 0 :: .int (-1) :: .ref 187 :: .ref 188 :: .ref 189 :: .int 0 :: .ref 190 :: .ref 191 :: .ref 192 :: .ref 193 :: .ref 194 :: .int 0 :: .ref 195 :: .ref 196 :: .ref 197 :: .int 0 :: .ref 198 :: .ref 199 :: .ref 200 :: .ref 201 :: .ref 202 :: .ref 203 :: .int 0 :: .ref 204 :: .ref 205 :: .ref 206 :: .ref 207 :: .ref 208 :: .ref 209 :: .ref 210 :: .ref 211 :: .ref 212 :: .ref 213 :: .ref 214 :: .int 0 :: .ref 215 :: .ref 216 :: .int 0 :: .ref 217 :: .ref 218 :: .ref 219 :: .ref 220 :: .ref 221 :: .int 0 :: .int 0 :: .int 0 :: .int 0 :: .ref 222 :: .int 0 :: [])))) : AW X p l e room_1 s m #[Value.ref b] below meth c 8 (lw_Z below #[Value.ref b] s) f n 1000 300000 1604 [some (.retAddr b), some (.ref 0), some (.ref 181), some (.ref 223), some (.int 0), none, none, none] [] := by
  refine ao_start ?_
  obtain ⟨q1a, q1b⟩ := q1
  refine aw_ald_n C dL_law_1604 rfl ?_
  refine aw_raw_n C dL_law_1605 rfl ?_
  refine aw_iload C dL_law_1606 rfl ?_
  refine aw_iconst C 1 dL_law_1608 ki_1 ?_
  refine ae_iadd C 1 dL_law_1609 (by decide) ?_
  refine aw_sld C S0 a1 (by unfold vp_in; decide) (by decide : _ = 1) e1 dL_law_1610 ?_
  refine ao_callV C (ci := 8) (b := 0) [.int a1] [] mv_L_197 rfl rfl h0 (c_X8_count_626 ⟨by omega, by omega⟩) rfl dL_law_1611 (Nat.le_of_ble_eq_true rfl) (Nat.le_of_ble_eq_true rfl) rfl (Nat.le_of_ble_eq_true rfl) (Nat.le_of_ble_eq_true rfl) (Nat.le_of_ble_eq_true rfl) rfl ?_
  refine aw_ald_n C dL_law_1614 rfl ?_
  refine aw_raw_n C dL_law_1615 rfl ?_
  refine aw_iload C dL_law_1616 rfl ?_
  refine aw_iconst C 1 dL_law_1618 ki_1 ?_
  refine ae_iadd C 1 dL_law_1619 (by decide) ?_
  refine aw_sld C S0 a1 (by unfold vp_in; decide) (by decide : _ = 1) e1 dL_law_1620 ?_
  refine ao_callV C (ci := 9) (b := 181) [.int a1] [(181, .inr (9, (.int 0 :: .ref 182 :: .ref 183 :: .ref 184 :: .ref 185 :: .int 0 :: .int 0 :: .int 0 :: .ref 186 :: .int 0 :: .int 0 :: .int 0 :: .int (-1) :: .ref 187 :: .ref 188 :: .ref 189 :: .int 0 :: .ref 190 :: .ref 191 :: .ref 192 :: .ref 193 :: .ref 194 :: .int 0 :: .ref 195 :: .ref 196 :: .ref 197 :: .int 0 :: .ref 198 :: .ref 199 :: .ref 200 :: .ref 201 :: .ref 202 :: .ref 203 :: .int 0 :: .ref 204 :: .ref 205 :: .ref 206 :: .ref 207 :: .ref 208 :: .ref 209 :: .ref 210 :: .ref 211 :: .ref 212 :: .ref 213 :: .ref 214 :: .int 0 :: .ref 215 :: .ref 216 :: .int 0 :: .ref 217 :: .ref 218 :: .ref 219 :: .ref 220 :: .ref 221 :: .int 0 :: .int 0 :: .int 0 :: .int 0 :: .ref 222 :: .int 0 :: [])))] mv_L_200 rfl rfl h181 (c_X9_count_627 ⟨by omega, by omega⟩ h181) rfl dL_law_1621 (Nat.le_of_ble_eq_true rfl) (Nat.le_of_ble_eq_true rfl) rfl (Nat.le_of_ble_eq_true rfl) (Nat.le_of_ble_eq_true rfl) (Nat.le_of_ble_eq_true rfl) rfl ?_
  refine aw_icmp_eq C 1629 dL_law_1624 (by decide) (fun _ => ?_) (fun q => absurd (by decide) q)
  refine aw_fl [some (.retAddr b), none, none, none, some (.int 0), none, none, none] (by simp [SubL]) ?_
  exact al_tail C S0 (Nat.le_of_ble_eq_true rfl) (Nat.le_of_ble_eq_true rfl)

set_option maxHeartbeats 4000000 in
set_option maxRecDepth 100000 in
theorem lc_30_b {X : GX} {p : Program} {l : Launch} {e : Env} {s : State} {m : MethodId} {below : List Frame} {meth : Method} {c : Code} {b : Nat} {xs : Nat → Int32} {f : AH} {n : Nat} {a2 : Int32} {a3 : Int32} {a4 : Int32} {a5 : Int32} (C : CC X p l room_1 s m #[Value.ref b] meth c RL cL_law 8 ret) (S0 : SC X b 6 xs s) (hl0 : l.stackTraces = false) (e1 : xs 1 = 0) (e2 : xs 2 = a2) (e3 : xs 3 = a3) (e4 : xs 4 = a4) (e5 : xs 5 = a5) (h0 : f 0 = some (.inr (8, [.ref 1, .ref 3, .ref 8, .ref 13, .ref 18, .ref 59, .ref 115, .ref 171, .ref 178, .int 0, .int 0, .int 0, .int 0, .int (-1)]))) (h3 : f 3 = some (.inr (7, [.ref 4, .int 0, .int (-1), .int 0, .int 1, .int 0, .null, .int 0, .ref 6, .ref 7]))) (h4 : f 4 = some (.inr (5, [.ref 5, .int 0]))) (h181 : f 181 = some (.inr (9, (.int 0 :: .ref 182 :: .ref 183 :: .ref 184 :: .ref 185 :: .int 0 :: .int 0 :: .int 0 :: .ref 186 :: .int 0 :: .int 0 :: .int 0 :: .int (-1) :: .ref 187 :: .ref 188 :: .ref 189 :: .int 0 :: .ref 190 :: .ref 191 :: .ref 192 :: .ref 193 :: .ref 194 :: .int 0 :: .ref 195 :: .ref 196 :: .ref 197 :: .int 0 :: .ref 198 :: .ref 199 :: .ref 200 :: .ref 201 :: .ref 202 :: .ref 203 :: .int 0 :: .ref 204 :: .ref 205 :: .ref 206 :: .ref 207 :: .ref 208 :: .ref 209 :: .ref 210 :: .ref 211 :: .ref 212 :: .ref 213 :: .ref 214 :: .int 0 :: .ref 215 :: .ref 216 :: .int 0 :: .ref 217 :: .ref 218 :: .ref 219 :: .ref 220 :: .ref 221 :: .int 0 :: .int 0 :: .int 0 :: .int 0 :: .ref 222 :: .int 0 :: [])))) (h182 : f 182 = some (.inl (0, 4347, .inl (tl (upd (upd (fun _ => 0) 2 (-1)) 4 1) 40)))) : AW X p l e room_1 s m #[Value.ref b] below meth c 8 (lw_Z below #[Value.ref b] s) f n 1000 300000 1604 [some (.retAddr b), some (.ref 0), some (.ref 181), some (.ref 223), some (.int 0), none, none, none] [] := by
  refine ao_start ?_
  refine aw_ald_n C dL_law_1604 rfl ?_
  refine aw_raw_n C dL_law_1605 rfl ?_
  refine aw_iload C dL_law_1606 rfl ?_
  refine aw_iconst C 1 dL_law_1608 ki_1 ?_
  refine ae_iadd C 1 dL_law_1609 (by decide) ?_
  refine aw_sld C S0 0 (by unfold vp_in; decide) (by decide : _ = 1) e1 dL_law_1610 ?_
  refine ao_callV C (ci := 8) (b := 0) [.int 0] [] mv_L_197 rfl rfl h0 (c_X8_count_628 h0 h3 h4) rfl dL_law_1611 (Nat.le_of_ble_eq_true rfl) (Nat.le_of_ble_eq_true rfl) rfl (Nat.le_of_ble_eq_true rfl) (Nat.le_of_ble_eq_true rfl) (Nat.le_of_ble_eq_true rfl) rfl ?_
  refine aw_ald_n C dL_law_1614 rfl ?_
  refine aw_raw_n C dL_law_1615 rfl ?_
  refine aw_iload C dL_law_1616 rfl ?_
  refine aw_iconst C 1 dL_law_1618 ki_1 ?_
  refine ae_iadd C 1 dL_law_1619 (by decide) ?_
  refine aw_sld C S0 0 (by unfold vp_in; decide) (by decide : _ = 1) e1 dL_law_1620 ?_
  refine ao_callV C (ci := 9) (b := 181) [.int 0] [(181, .inr (9, (.int 0 :: .ref 182 :: .ref 183 :: .ref 184 :: .ref 185 :: .int 0 :: .int 0 :: .int 0 :: .ref 186 :: .int 0 :: .int 0 :: .int 0 :: .int (-1) :: .ref 187 :: .ref 188 :: .ref 189 :: .int 0 :: .ref 190 :: .ref 191 :: .ref 192 :: .ref 193 :: .ref 194 :: .int 0 :: .ref 195 :: .ref 196 :: .ref 197 :: .int 0 :: .ref 198 :: .ref 199 :: .ref 200 :: .ref 201 :: .ref 202 :: .ref 203 :: .int 0 :: .ref 204 :: .ref 205 :: .ref 206 :: .ref 207 :: .ref 208 :: .ref 209 :: .ref 210 :: .ref 211 :: .ref 212 :: .ref 213 :: .ref 214 :: .int 0 :: .ref 215 :: .ref 216 :: .int 0 :: .ref 217 :: .ref 218 :: .ref 219 :: .ref 220 :: .ref 221 :: .int 0 :: .int 0 :: .int 0 :: .int 0 :: .ref 222 :: .int 0 :: [])))] mv_L_200 rfl rfl h181 (c_X9_count_629 h181 h182) rfl dL_law_1621 (Nat.le_of_ble_eq_true rfl) (Nat.le_of_ble_eq_true rfl) rfl (Nat.le_of_ble_eq_true rfl) (Nat.le_of_ble_eq_true rfl) (Nat.le_of_ble_eq_true rfl) rfl ?_
  refine aw_icmp_eq C 1629 dL_law_1624 (by decide) (fun _ => ?_) (fun q => absurd (by decide) q)
  refine aw_fl [some (.retAddr b), none, none, none, some (.int 0), none, none, none] (by simp [SubL]) ?_
  exact al_tail C S0 (Nat.le_of_ble_eq_true rfl) (Nat.le_of_ble_eq_true rfl)

set_option maxHeartbeats 4000000 in
set_option maxRecDepth 100000 in
theorem lc_30_c {X : GX} {p : Program} {l : Launch} {e : Env} {s : State} {m : MethodId} {below : List Frame} {meth : Method} {c : Code} {b : Nat} {xs : Nat → Int32} {f : AH} {n : Nat} {a2 : Int32} {a3 : Int32} {a4 : Int32} {a5 : Int32} (C : CC X p l room_1 s m #[Value.ref b] meth c RL cL_law 8 ret) (S0 : SC X b 6 xs s) (hl0 : l.stackTraces = false) (e1 : xs 1 = 1) (e2 : xs 2 = a2) (e3 : xs 3 = a3) (e4 : xs 4 = a4) (e5 : xs 5 = a5) (h0 : f 0 = some (.inr (8, [.ref 1, .ref 3, .ref 8, .ref 13, .ref 18, .ref 59, .ref 115, .ref 171, .ref 178, .int 0, .int 0, .int 0, .int 0, .int (-1)]))) (h3 : f 3 = some (.inr (7, [.ref 4, .int 0, .int (-1), .int 0, .int 1, .int 0, .null, .int 0, .ref 6, .ref 7]))) (h181 : f 181 = some (.inr (9, (.int 0 :: .ref 182 :: .ref 183 :: .ref 184 :: .ref 185 :: .int 0 :: .int 0 :: .int 0 :: .ref 186 :: .int 0 :: .int 0 :: .int 0 :: .int (-1) :: .ref 187 :: .ref 188 :: .ref 189 :: .int 0 :: .ref 190 :: .ref 191 :: .ref 192 :: .ref 193 :: .ref 194 :: .int 0 :: .ref 195 :: .ref 196 :: .ref 197 :: .int 0 :: .ref 198 :: .ref 199 :: .ref 200 :: .ref 201 :: .ref 202 :: .ref 203 :: .int 0 :: .ref 204 :: .ref 205 :: .ref 206 :: .ref 207 :: .ref 208 :: .ref 209 :: .ref 210 :: .ref 211 :: .ref 212 :: .ref 213 :: .ref 214 :: .int 0 :: .ref 215 :: .ref 216 :: .int 0 :: .ref 217 :: .ref 218 :: .ref 219 :: .ref 220 :: .ref 221 :: .int 0 :: .int 0 :: .int 0 :: .int 0 :: .ref 222 :: .int 0 :: [])))) (h182 : f 182 = some (.inl (0, 4347, .inl (tl (upd (upd (fun _ => 0) 2 (-1)) 4 1) 40)))) : AW X p l e room_1 s m #[Value.ref b] below meth c 8 (lw_Z below #[Value.ref b] s) f n 1000 300000 1604 [some (.retAddr b), some (.ref 0), some (.ref 181), some (.ref 223), some (.int 0), none, none, none] [] := by
  refine ao_start ?_
  refine aw_ald_n C dL_law_1604 rfl ?_
  refine aw_raw_n C dL_law_1605 rfl ?_
  refine aw_iload C dL_law_1606 rfl ?_
  refine aw_iconst C 1 dL_law_1608 ki_1 ?_
  refine ae_iadd C 1 dL_law_1609 (by decide) ?_
  refine aw_sld C S0 1 (by unfold vp_in; decide) (by decide : _ = 1) e1 dL_law_1610 ?_
  refine ao_callV C (ci := 8) (b := 0) [.int 1] [] mv_L_197 rfl rfl h0 (c_X8_count_630 h0 h3) rfl dL_law_1611 (Nat.le_of_ble_eq_true rfl) (Nat.le_of_ble_eq_true rfl) rfl (Nat.le_of_ble_eq_true rfl) (Nat.le_of_ble_eq_true rfl) (Nat.le_of_ble_eq_true rfl) rfl ?_
  refine aw_ald_n C dL_law_1614 rfl ?_
  refine aw_raw_n C dL_law_1615 rfl ?_
  refine aw_iload C dL_law_1616 rfl ?_
  refine aw_iconst C 1 dL_law_1618 ki_1 ?_
  refine ae_iadd C 1 dL_law_1619 (by decide) ?_
  refine aw_sld C S0 1 (by unfold vp_in; decide) (by decide : _ = 1) e1 dL_law_1620 ?_
  refine ao_callV C (ci := 9) (b := 181) [.int 1] [(181, .inr (9, (.int 0 :: .ref 182 :: .ref 183 :: .ref 184 :: .ref 185 :: .int 0 :: .int 0 :: .int 0 :: .ref 186 :: .int 0 :: .int 0 :: .int 0 :: .int (-1) :: .ref 187 :: .ref 188 :: .ref 189 :: .int 0 :: .ref 190 :: .ref 191 :: .ref 192 :: .ref 193 :: .ref 194 :: .int 0 :: .ref 195 :: .ref 196 :: .ref 197 :: .int 0 :: .ref 198 :: .ref 199 :: .ref 200 :: .ref 201 :: .ref 202 :: .ref 203 :: .int 0 :: .ref 204 :: .ref 205 :: .ref 206 :: .ref 207 :: .ref 208 :: .ref 209 :: .ref 210 :: .ref 211 :: .ref 212 :: .ref 213 :: .ref 214 :: .int 0 :: .ref 215 :: .ref 216 :: .int 0 :: .ref 217 :: .ref 218 :: .ref 219 :: .ref 220 :: .ref 221 :: .int 0 :: .int 0 :: .int 0 :: .int 0 :: .ref 222 :: .int 0 :: [])))] mv_L_200 rfl rfl h181 (c_X9_count_631 h181 h182) rfl dL_law_1621 (Nat.le_of_ble_eq_true rfl) (Nat.le_of_ble_eq_true rfl) rfl (Nat.le_of_ble_eq_true rfl) (Nat.le_of_ble_eq_true rfl) (Nat.le_of_ble_eq_true rfl) rfl ?_
  refine aw_icmp_eq C 1629 dL_law_1624 (by decide) (fun _ => ?_) (fun q => absurd (by decide) q)
  refine aw_fl [some (.retAddr b), none, none, none, some (.int 0), none, none, none] (by simp [SubL]) ?_
  exact al_tail C S0 (Nat.le_of_ble_eq_true rfl) (Nat.le_of_ble_eq_true rfl)

set_option maxHeartbeats 4000000 in
set_option maxRecDepth 100000 in
theorem lc_30_d {X : GX} {p : Program} {l : Launch} {e : Env} {s : State} {m : MethodId} {below : List Frame} {meth : Method} {c : Code} {b : Nat} {xs : Nat → Int32} {f : AH} {n : Nat} {a2 : Int32} {a3 : Int32} {a4 : Int32} {a5 : Int32} (C : CC X p l room_1 s m #[Value.ref b] meth c RL cL_law 8 ret) (S0 : SC X b 6 xs s) (hl0 : l.stackTraces = false) (e1 : xs 1 = 2) (e2 : xs 2 = a2) (e3 : xs 3 = a3) (e4 : xs 4 = a4) (e5 : xs 5 = a5) (h0 : f 0 = some (.inr (8, [.ref 1, .ref 3, .ref 8, .ref 13, .ref 18, .ref 59, .ref 115, .ref 171, .ref 178, .int 0, .int 0, .int 0, .int 0, .int (-1)]))) (h3 : f 3 = some (.inr (7, [.ref 4, .int 0, .int (-1), .int 0, .int 1, .int 0, .null, .int 0, .ref 6, .ref 7]))) (h181 : f 181 = some (.inr (9, (.int 0 :: .ref 182 :: .ref 183 :: .ref 184 :: .ref 185 :: .int 0 :: .int 0 :: .int 0 :: .ref 186 :: .int 0 :: .int 0 :: .int 0 :: .int (-1) :: .ref 187 :: .ref 188 :: .ref 189 :: .int 0 :: .ref 190 :: .ref 191 :: .ref 192 :: .ref 193 :: .ref 194 :: .int 0 :: .ref 195 :: .ref 196 :: .ref 197 :: .int 0 :: .ref 198 :: .ref 199 :: .ref 200 :: .ref 201 :: .ref 202 :: .ref 203 :: .int 0 :: .ref 204 :: .ref 205 :: .ref 206 :: .ref 207 :: .ref 208 :: .ref 209 :: .ref 210 :: .ref 211 :: .ref 212 :: .ref 213 :: .ref 214 :: .int 0 :: .ref 215 :: .ref 216 :: .int 0 :: .ref 217 :: .ref 218 :: .ref 219 :: .ref 220 :: .ref 221 :: .int 0 :: .int 0 :: .int 0 :: .int 0 :: .ref 222 :: .int 0 :: [])))) (h182 : f 182 = some (.inl (0, 4347, .inl (tl (upd (upd (fun _ => 0) 2 (-1)) 4 1) 40)))) : AW X p l e room_1 s m #[Value.ref b] below meth c 8 (lw_Z below #[Value.ref b] s) f n 1000 300000 1604 [some (.retAddr b), some (.ref 0), some (.ref 181), some (.ref 223), some (.int 0), none, none, none] [] := by
  refine ao_start ?_
  refine aw_ald_n C dL_law_1604 rfl ?_
  refine aw_raw_n C dL_law_1605 rfl ?_
  refine aw_iload C dL_law_1606 rfl ?_
  refine aw_iconst C 1 dL_law_1608 ki_1 ?_
  refine ae_iadd C 1 dL_law_1609 (by decide) ?_
  refine aw_sld C S0 2 (by unfold vp_in; decide) (by decide : _ = 1) e1 dL_law_1610 ?_
  refine ao_callV C (ci := 8) (b := 0) [.int 2] [] mv_L_197 rfl rfl h0 (c_X8_count_632 h0 h3) rfl dL_law_1611 (Nat.le_of_ble_eq_true rfl) (Nat.le_of_ble_eq_true rfl) rfl (Nat.le_of_ble_eq_true rfl) (Nat.le_of_ble_eq_true rfl) (Nat.le_of_ble_eq_true rfl) rfl ?_
  refine aw_ald_n C dL_law_1614 rfl ?_
  refine aw_raw_n C dL_law_1615 rfl ?_
  refine aw_iload C dL_law_1616 rfl ?_
  refine aw_iconst C 1 dL_law_1618 ki_1 ?_
  refine ae_iadd C 1 dL_law_1619 (by decide) ?_
  refine aw_sld C S0 2 (by unfold vp_in; decide) (by decide : _ = 1) e1 dL_law_1620 ?_
  refine ao_callV C (ci := 9) (b := 181) [.int 2] [(181, .inr (9, (.int 0 :: .ref 182 :: .ref 183 :: .ref 184 :: .ref 185 :: .int 0 :: .int 0 :: .int 0 :: .ref 186 :: .int 0 :: .int 0 :: .int 0 :: .int (-1) :: .ref 187 :: .ref 188 :: .ref 189 :: .int 0 :: .ref 190 :: .ref 191 :: .ref 192 :: .ref 193 :: .ref 194 :: .int 0 :: .ref 195 :: .ref 196 :: .ref 197 :: .int 0 :: .ref 198 :: .ref 199 :: .ref 200 :: .ref 201 :: .ref 202 :: .ref 203 :: .int 0 :: .ref 204 :: .ref 205 :: .ref 206 :: .ref 207 :: .ref 208 :: .ref 209 :: .ref 210 :: .ref 211 :: .ref 212 :: .ref 213 :: .ref 214 :: .int 0 :: .ref 215 :: .ref 216 :: .int 0 :: .ref 217 :: .ref 218 :: .ref 219 :: .ref 220 :: .ref 221 :: .int 0 :: .int 0 :: .int 0 :: .int 0 :: .ref 222 :: .int 0 :: [])))] mv_L_200 rfl rfl h181 (c_X9_count_633 h181 h182) rfl dL_law_1621 (Nat.le_of_ble_eq_true rfl) (Nat.le_of_ble_eq_true rfl) rfl (Nat.le_of_ble_eq_true rfl) (Nat.le_of_ble_eq_true rfl) (Nat.le_of_ble_eq_true rfl) rfl ?_
  refine aw_icmp_eq C 1629 dL_law_1624 (by decide) (fun _ => ?_) (fun q => absurd (by decide) q)
  refine aw_fl [some (.retAddr b), none, none, none, some (.int 0), none, none, none] (by simp [SubL]) ?_
  exact al_tail C S0 (Nat.le_of_ble_eq_true rfl) (Nat.le_of_ble_eq_true rfl)

set_option maxHeartbeats 4000000 in
set_option maxRecDepth 100000 in
theorem lc_30_e {X : GX} {p : Program} {l : Launch} {e : Env} {s : State} {m : MethodId} {below : List Frame} {meth : Method} {c : Code} {b : Nat} {xs : Nat → Int32} {f : AH} {n : Nat} {a2 : Int32} {a3 : Int32} {a4 : Int32} {a5 : Int32} (C : CC X p l room_1 s m #[Value.ref b] meth c RL cL_law 8 ret) (S0 : SC X b 6 xs s) (hl0 : l.stackTraces = false) (e1 : xs 1 = 3) (e2 : xs 2 = a2) (e3 : xs 3 = a3) (e4 : xs 4 = a4) (e5 : xs 5 = a5) (h0 : f 0 = some (.inr (8, [.ref 1, .ref 3, .ref 8, .ref 13, .ref 18, .ref 59, .ref 115, .ref 171, .ref 178, .int 0, .int 0, .int 0, .int 0, .int (-1)]))) (h59 : f 59 = some (.inr (1, [.ref 60, .ref 62, .ref 74, .int 0, .ref 68, .ref 71, .ref 64, .ref 66]))) (h181 : f 181 = some (.inr (9, (.int 0 :: .ref 182 :: .ref 183 :: .ref 184 :: .ref 185 :: .int 0 :: .int 0 :: .int 0 :: .ref 186 :: .int 0 :: .int 0 :: .int 0 :: .int (-1) :: .ref 187 :: .ref 188 :: .ref 189 :: .int 0 :: .ref 190 :: .ref 191 :: .ref 192 :: .ref 193 :: .ref 194 :: .int 0 :: .ref 195 :: .ref 196 :: .ref 197 :: .int 0 :: .ref 198 :: .ref 199 :: .ref 200 :: .ref 201 :: .ref 202 :: .ref 203 :: .int 0 :: .ref 204 :: .ref 205 :: .ref 206 :: .ref 207 :: .ref 208 :: .ref 209 :: .ref 210 :: .ref 211 :: .ref 212 :: .ref 213 :: .ref 214 :: .int 0 :: .ref 215 :: .ref 216 :: .int 0 :: .ref 217 :: .ref 218 :: .ref 219 :: .ref 220 :: .ref 221 :: .int 0 :: .int 0 :: .int 0 :: .int 0 :: .ref 222 :: .int 0 :: [])))) : AW X p l e room_1 s m #[Value.ref b] below meth c 8 (lw_Z below #[Value.ref b] s) f n 1000 300000 1604 [some (.retAddr b), some (.ref 0), some (.ref 181), some (.ref 223), some (.int 0), none, none, none] [] := by
  refine ao_start ?_
  refine aw_ald_n C dL_law_1604 rfl ?_
  refine aw_raw_n C dL_law_1605 rfl ?_
  refine aw_iload C dL_law_1606 rfl ?_
  refine aw_iconst C 1 dL_law_1608 ki_1 ?_
  refine ae_iadd C 1 dL_law_1609 (by decide) ?_
  refine aw_sld C S0 3 (by unfold vp_in; decide) (by decide : _ = 1) e1 dL_law_1610 ?_
  refine ao_callV C (ci := 8) (b := 0) [.int 3] [] mv_L_197 rfl rfl h0 (c_X8_count_634 h0 h59) rfl dL_law_1611 (Nat.le_of_ble_eq_true rfl) (Nat.le_of_ble_eq_true rfl) rfl (Nat.le_of_ble_eq_true rfl) (Nat.le_of_ble_eq_true rfl) (Nat.le_of_ble_eq_true rfl) rfl ?_
  refine aw_ald_n C dL_law_1614 rfl ?_
  refine aw_raw_n C dL_law_1615 rfl ?_
  refine aw_iload C dL_law_1616 rfl ?_
  refine aw_iconst C 1 dL_law_1618 ki_1 ?_
  refine ae_iadd C 1 dL_law_1619 (by decide) ?_
  refine aw_sld C S0 3 (by unfold vp_in; decide) (by decide : _ = 1) e1 dL_law_1620 ?_
  refine ao_callV C (ci := 9) (b := 181) [.int 3] [(181, .inr (9, (.int 0 :: .ref 182 :: .ref 183 :: .ref 184 :: .ref 185 :: .int 0 :: .int 0 :: .int 0 :: .ref 186 :: .int 0 :: .int 0 :: .int 0 :: .int (-1) :: .ref 187 :: .ref 188 :: .ref 189 :: .int 0 :: .ref 190 :: .ref 191 :: .ref 192 :: .ref 193 :: .ref 194 :: .int 0 :: .ref 195 :: .ref 196 :: .ref 197 :: .int 0 :: .ref 198 :: .ref 199 :: .ref 200 :: .ref 201 :: .ref 202 :: .ref 203 :: .int 0 :: .ref 204 :: .ref 205 :: .ref 206 :: .ref 207 :: .ref 208 :: .ref 209 :: .ref 210 :: .ref 211 :: .ref 212 :: .ref 213 :: .ref 214 :: .int 0 :: .ref 215 :: .ref 216 :: .int 0 :: .ref 217 :: .ref 218 :: .ref 219 :: .ref 220 :: .ref 221 :: .int 0 :: .int 0 :: .int 0 :: .int 0 :: .ref 222 :: .int 0 :: [])))] mv_L_200 rfl rfl h181 (c_X9_count_635 h181) rfl dL_law_1621 (Nat.le_of_ble_eq_true rfl) (Nat.le_of_ble_eq_true rfl) rfl (Nat.le_of_ble_eq_true rfl) (Nat.le_of_ble_eq_true rfl) (Nat.le_of_ble_eq_true rfl) rfl ?_
  refine aw_icmp_eq C 1629 dL_law_1624 (by decide) (fun _ => ?_) (fun q => absurd (by decide) q)
  refine aw_fl [some (.retAddr b), none, none, none, some (.int 0), none, none, none] (by simp [SubL]) ?_
  exact al_tail C S0 (Nat.le_of_ble_eq_true rfl) (Nat.le_of_ble_eq_true rfl)

set_option maxHeartbeats 4000000 in
set_option maxRecDepth 100000 in
theorem lc_30_f {X : GX} {p : Program} {l : Launch} {e : Env} {s : State} {m : MethodId} {below : List Frame} {meth : Method} {c : Code} {b : Nat} {xs : Nat → Int32} {f : AH} {n : Nat} {a2 : Int32} {a3 : Int32} {a4 : Int32} {a5 : Int32} (C : CC X p l room_1 s m #[Value.ref b] meth c RL cL_law 8 ret) (S0 : SC X b 6 xs s) (hl0 : l.stackTraces = false) (e1 : xs 1 = 4) (e2 : xs 2 = a2) (e3 : xs 3 = a3) (e4 : xs 4 = a4) (e5 : xs 5 = a5) (h0 : f 0 = some (.inr (8, [.ref 1, .ref 3, .ref 8, .ref 13, .ref 18, .ref 59, .ref 115, .ref 171, .ref 178, .int 0, .int 0, .int 0, .int 0, .int (-1)]))) (h3 : f 3 = some (.inr (7, [.ref 4, .int 0, .int (-1), .int 0, .int 1, .int 0, .null, .int 0, .ref 6, .ref 7]))) (h7 : f 7 = some (.inl (2, 40, .inr (.inr (fun _ => none))))) (h181 : f 181 = some (.inr (9, (.int 0 :: .ref 182 :: .ref 183 :: .ref 184 :: .ref 185 :: .int 0 :: .int 0 :: .int 0 :: .ref 186 :: .int 0 :: .int 0 :: .int 0 :: .int (-1) :: .ref 187 :: .ref 188 :: .ref 189 :: .int 0 :: .ref 190 :: .ref 191 :: .ref 192 :: .ref 193 :: .ref 194 :: .int 0 :: .ref 195 :: .ref 196 :: .ref 197 :: .int 0 :: .ref 198 :: .ref 199 :: .ref 200 :: .ref 201 :: .ref 202 :: .ref 203 :: .int 0 :: .ref 204 :: .ref 205 :: .ref 206 :: .ref 207 :: .ref 208 :: .ref 209 :: .ref 210 :: .ref 211 :: .ref 212 :: .ref 213 :: .ref 214 :: .int 0 :: .ref 215 :: .ref 216 :: .int 0 :: .ref 217 :: .ref 218 :: .ref 219 :: .ref 220 :: .ref 221 :: .int 0 :: .int 0 :: .int 0 :: .int 0 :: .ref 222 :: .int 0 :: [])))) : AW X p l e room_1 s m #[Value.ref b] below meth c 8 (lw_Z below #[Value.ref b] s) f n 1000 300000 1604 [some (.retAddr b), some (.ref 0), some (.ref 181), some (.ref 223), some (.int 0), none, none, none] [] := by
  refine ao_start ?_
  refine aw_ald_n C dL_law_1604 rfl ?_
  refine aw_raw_n C dL_law_1605 rfl ?_
  refine aw_iload C dL_law_1606 rfl ?_
  refine aw_iconst C 1 dL_law_1608 ki_1 ?_
  refine ae_iadd C 1 dL_law_1609 (by decide) ?_
  refine aw_sld C S0 4 (by unfold vp_in; decide) (by decide : _ = 1) e1 dL_law_1610 ?_
  refine ao_callV C (ci := 8) (b := 0) [.int 4] [] mv_L_197 rfl rfl h0 (c_X8_count_636 h0 h3 h7) rfl dL_law_1611 (Nat.le_of_ble_eq_true rfl) (Nat.le_of_ble_eq_true rfl) rfl (Nat.le_of_ble_eq_true rfl) (Nat.le_of_ble_eq_true rfl) (Nat.le_of_ble_eq_true rfl) rfl ?_
  refine aw_ald_n C dL_law_1614 rfl ?_
  refine aw_raw_n C dL_law_1615 rfl ?_
  refine aw_iload C dL_law_1616 rfl ?_
  refine aw_iconst C 1 dL_law_1618 ki_1 ?_
  refine ae_iadd C 1 dL_law_1619 (by decide) ?_
  refine aw_sld C S0 4 (by unfold vp_in; decide) (by decide : _ = 1) e1 dL_law_1620 ?_
  refine ao_callV C (ci := 9) (b := 181) [.int 4] [(181, .inr (9, (.int 0 :: .ref 182 :: .ref 183 :: .ref 184 :: .ref 185 :: .int 0 :: .int 0 :: .int 0 :: .ref 186 :: .int 0 :: .int 0 :: .int 0 :: .int (-1) :: .ref 187 :: .ref 188 :: .ref 189 :: .int 0 :: .ref 190 :: .ref 191 :: .ref 192 :: .ref 193 :: .ref 194 :: .int 0 :: .ref 195 :: .ref 196 :: .ref 197 :: .int 0 :: .ref 198 :: .ref 199 :: .ref 200 :: .ref 201 :: .ref 202 :: .ref 203 :: .int 0 :: .ref 204 :: .ref 205 :: .ref 206 :: .ref 207 :: .ref 208 :: .ref 209 :: .ref 210 :: .ref 211 :: .ref 212 :: .ref 213 :: .ref 214 :: .int 0 :: .ref 215 :: .ref 216 :: .int 0 :: .ref 217 :: .ref 218 :: .ref 219 :: .ref 220 :: .ref 221 :: .int 0 :: .int 0 :: .int 0 :: .int 0 :: .ref 222 :: .int 0 :: [])))] mv_L_200 rfl rfl h181 (c_X9_count_637 h181) rfl dL_law_1621 (Nat.le_of_ble_eq_true rfl) (Nat.le_of_ble_eq_true rfl) rfl (Nat.le_of_ble_eq_true rfl) (Nat.le_of_ble_eq_true rfl) (Nat.le_of_ble_eq_true rfl) rfl ?_
  refine aw_icmp_eq C 1629 dL_law_1624 (by decide) (fun _ => ?_) (fun q => absurd (by decide) q)
  refine aw_fl [some (.retAddr b), none, none, none, some (.int 0), none, none, none] (by simp [SubL]) ?_
  exact al_tail C S0 (Nat.le_of_ble_eq_true rfl) (Nat.le_of_ble_eq_true rfl)

set_option maxHeartbeats 4000000 in
set_option maxRecDepth 100000 in
theorem lc_30_g {X : GX} {p : Program} {l : Launch} {e : Env} {s : State} {m : MethodId} {below : List Frame} {meth : Method} {c : Code} {b : Nat} {xs : Nat → Int32} {f : AH} {n : Nat} {a2 : Int32} {a3 : Int32} {a4 : Int32} {a5 : Int32} (C : CC X p l room_1 s m #[Value.ref b] meth c RL cL_law 8 ret) (S0 : SC X b 6 xs s) (hl0 : l.stackTraces = false) (e1 : xs 1 = 5) (e2 : xs 2 = a2) (e3 : xs 3 = a3) (e4 : xs 4 = a4) (e5 : xs 5 = a5) (h0 : f 0 = some (.inr (8, [.ref 1, .ref 3, .ref 8, .ref 13, .ref 18, .ref 59, .ref 115, .ref 171, .ref 178, .int 0, .int 0, .int 0, .int 0, .int (-1)]))) (h171 : f 171 = some (.inr (0, [.ref 172, .ref 174, .ref 176, .int 0]))) (h172 : f 172 = some (.inr (5, [.ref 173, .int 0]))) (h181 : f 181 = some (.inr (9, (.int 0 :: .ref 182 :: .ref 183 :: .ref 184 :: .ref 185 :: .int 0 :: .int 0 :: .int 0 :: .ref 186 :: .int 0 :: .int 0 :: .int 0 :: .int (-1) :: .ref 187 :: .ref 188 :: .ref 189 :: .int 0 :: .ref 190 :: .ref 191 :: .ref 192 :: .ref 193 :: .ref 194 :: .int 0 :: .ref 195 :: .ref 196 :: .ref 197 :: .int 0 :: .ref 198 :: .ref 199 :: .ref 200 :: .ref 201 :: .ref 202 :: .ref 203 :: .int 0 :: .ref 204 :: .ref 205 :: .ref 206 :: .ref 207 :: .ref 208 :: .ref 209 :: .ref 210 :: .ref 211 :: .ref 212 :: .ref 213 :: .ref 214 :: .int 0 :: .ref 215 :: .ref 216 :: .int 0 :: .ref 217 :: .ref 218 :: .ref 219 :: .ref 220 :: .ref 221 :: .int 0 :: .int 0 :: .int 0 :: .int 0 :: .ref 222 :: .int 0 :: [])))) (h182 : f 182 = some (.inl (0, 4347, .inl (tl (upd (upd (fun _ => 0) 2 (-1)) 4 1) 40)))) : AW X p l e room_1 s m #[Value.ref b] below meth c 8 (lw_Z below #[Value.ref b] s) f n 1000 300000 1604 [some (.retAddr b), some (.ref 0), some (.ref 181), some (.ref 223), some (.int 0), none, none, none] [] := by
  refine ao_start ?_
  refine aw_ald_n C dL_law_1604 rfl ?_
  refine aw_raw_n C dL_law_1605 rfl ?_
  refine aw_iload C dL_law_1606 rfl ?_
  refine aw_iconst C 1 dL_law_1608 ki_1 ?_
  refine ae_iadd C 1 dL_law_1609 (by decide) ?_
  refine aw_sld C S0 5 (by unfold vp_in; decide) (by decide : _ = 1) e1 dL_law_1610 ?_
  refine ao_callV C (ci := 8) (b := 0) [.int 5] [] mv_L_197 rfl rfl h0 (c_X8_count_638 h0 h171 h172) rfl dL_law_1611 (Nat.le_of_ble_eq_true rfl) (Nat.le_of_ble_eq_true rfl) rfl (Nat.le_of_ble_eq_true rfl) (Nat.le_of_ble_eq_true rfl) (Nat.le_of_ble_eq_true rfl) rfl ?_
  refine aw_ald_n C dL_law_1614 rfl ?_
  refine aw_raw_n C dL_law_1615 rfl ?_
  refine aw_iload C dL_law_1616 rfl ?_
  refine aw_iconst C 1 dL_law_1618 ki_1 ?_
  refine ae_iadd C 1 dL_law_1619 (by decide) ?_
  refine aw_sld C S0 5 (by unfold vp_in; decide) (by decide : _ = 1) e1 dL_law_1620 ?_
  refine ao_callV C (ci := 9) (b := 181) [.int 5] [(181, .inr (9, (.int 0 :: .ref 182 :: .ref 183 :: .ref 184 :: .ref 185 :: .int 0 :: .int 0 :: .int 0 :: .ref 186 :: .int 0 :: .int 0 :: .int 0 :: .int (-1) :: .ref 187 :: .ref 188 :: .ref 189 :: .int 0 :: .ref 190 :: .ref 191 :: .ref 192 :: .ref 193 :: .ref 194 :: .int 0 :: .ref 195 :: .ref 196 :: .ref 197 :: .int 0 :: .ref 198 :: .ref 199 :: .ref 200 :: .ref 201 :: .ref 202 :: .ref 203 :: .int 0 :: .ref 204 :: .ref 205 :: .ref 206 :: .ref 207 :: .ref 208 :: .ref 209 :: .ref 210 :: .ref 211 :: .ref 212 :: .ref 213 :: .ref 214 :: .int 0 :: .ref 215 :: .ref 216 :: .int 0 :: .ref 217 :: .ref 218 :: .ref 219 :: .ref 220 :: .ref 221 :: .int 0 :: .int 0 :: .int 0 :: .int 0 :: .ref 222 :: .int 0 :: [])))] mv_L_200 rfl rfl h181 (c_X9_count_640 h181 h182) rfl dL_law_1621 (Nat.le_of_ble_eq_true rfl) (Nat.le_of_ble_eq_true rfl) rfl (Nat.le_of_ble_eq_true rfl) (Nat.le_of_ble_eq_true rfl) (Nat.le_of_ble_eq_true rfl) rfl ?_
  refine aw_icmp_eq C 1629 dL_law_1624 (by decide) (fun _ => ?_) (fun q => absurd (by decide) q)
  refine aw_fl [some (.retAddr b), none, none, none, some (.int 0), none, none, none] (by simp [SubL]) ?_
  exact al_tail C S0 (Nat.le_of_ble_eq_true rfl) (Nat.le_of_ble_eq_true rfl)

set_option maxHeartbeats 4000000 in
set_option maxRecDepth 100000 in
theorem lc_30_h {X : GX} {p : Program} {l : Launch} {e : Env} {s : State} {m : MethodId} {below : List Frame} {meth : Method} {c : Code} {b : Nat} {xs : Nat → Int32} {f : AH} {n : Nat} {a2 : Int32} {a3 : Int32} {a4 : Int32} {a5 : Int32} (C : CC X p l room_1 s m #[Value.ref b] meth c RL cL_law 8 ret) (S0 : SC X b 6 xs s) (hl0 : l.stackTraces = false) (e1 : xs 1 = 6) (e2 : xs 2 = a2) (e3 : xs 3 = a3) (e4 : xs 4 = a4) (e5 : xs 5 = a5) (h0 : f 0 = some (.inr (8, [.ref 1, .ref 3, .ref 8, .ref 13, .ref 18, .ref 59, .ref 115, .ref 171, .ref 178, .int 0, .int 0, .int 0, .int 0, .int (-1)]))) (h3 : f 3 = some (.inr (7, [.ref 4, .int 0, .int (-1), .int 0, .int 1, .int 0, .null, .int 0, .ref 6, .ref 7]))) (h4 : f 4 = some (.inr (5, [.ref 5, .int 0]))) (h59 : f 59 = some (.inr (1, [.ref 60, .ref 62, .ref 74, .int 0, .ref 68, .ref 71, .ref 64, .ref 66]))) (h181 : f 181 = some (.inr (9, (.int 0 :: .ref 182 :: .ref 183 :: .ref 184 :: .ref 185 :: .int 0 :: .int 0 :: .int 0 :: .ref 186 :: .int 0 :: .int 0 :: .int 0 :: .int (-1) :: .ref 187 :: .ref 188 :: .ref 189 :: .int 0 :: .ref 190 :: .ref 191 :: .ref 192 :: .ref 193 :: .ref 194 :: .int 0 :: .ref 195 :: .ref 196 :: .ref 197 :: .int 0 :: .ref 198 :: .ref 199 :: .ref 200 :: .ref 201 :: .ref 202 :: .ref 203 :: .int 0 :: .ref 204 :: .ref 205 :: .ref 206 :: .ref 207 :: .ref 208 :: .ref 209 :: .ref 210 :: .ref 211 :: .ref 212 :: .ref 213 :: .ref 214 :: .int 0 :: .ref 215 :: .ref 216 :: .int 0 :: .ref 217 :: .ref 218 :: .ref 219 :: .ref 220 :: .ref 221 :: .int 0 :: .int 0 :: .int 0 :: .int 0 :: .ref 222 :: .int 0 :: [])))) (h182 : f 182 = some (.inl (0, 4347, .inl (tl (upd (upd (fun _ => 0) 2 (-1)) 4 1) 40)))) : AW X p l e room_1 s m #[Value.ref b] below meth c 8 (lw_Z below #[Value.ref b] s) f n 1000 300000 1604 [some (.retAddr b), some (.ref 0), some (.ref 181), some (.ref 223), some (.int 0), none, none, none] [] := by
  refine ao_start ?_
  refine aw_ald_n C dL_law_1604 rfl ?_
  refine aw_raw_n C dL_law_1605 rfl ?_
  refine aw_iload C dL_law_1606 rfl ?_
  refine aw_iconst C 1 dL_law_1608 ki_1 ?_
  refine ae_iadd C 1 dL_law_1609 (by decide) ?_
  refine aw_sld C S0 6 (by unfold vp_in; decide) (by decide : _ = 1) e1 dL_law_1610 ?_
  refine ao_callV C (ci := 8) (b := 0) [.int 6] [] mv_L_197 rfl rfl h0 (c_X8_count_642 h0 h3 h4 h59) rfl dL_law_1611 (Nat.le_of_ble_eq_true rfl) (Nat.le_of_ble_eq_true rfl) rfl (Nat.le_of_ble_eq_true rfl) (Nat.le_of_ble_eq_true rfl) (Nat.le_of_ble_eq_true rfl) rfl ?_
  refine aw_ald_n C dL_law_1614 rfl ?_
  refine aw_raw_n C dL_law_1615 rfl ?_
  refine aw_iload C dL_law_1616 rfl ?_
  refine aw_iconst C 1 dL_law_1618 ki_1 ?_
  refine ae_iadd C 1 dL_law_1619 (by decide) ?_
  refine aw_sld C S0 6 (by unfold vp_in; decide) (by decide : _ = 1) e1 dL_law_1620 ?_
  refine ao_callV C (ci := 9) (b := 181) [.int 6] [(181, .inr (9, (.int 0 :: .ref 182 :: .ref 183 :: .ref 184 :: .ref 185 :: .int 0 :: .int 0 :: .int 0 :: .ref 186 :: .int 0 :: .int 0 :: .int 0 :: .int (-1) :: .ref 187 :: .ref 188 :: .ref 189 :: .int 0 :: .ref 190 :: .ref 191 :: .ref 192 :: .ref 193 :: .ref 194 :: .int 0 :: .ref 195 :: .ref 196 :: .ref 197 :: .int 0 :: .ref 198 :: .ref 199 :: .ref 200 :: .ref 201 :: .ref 202 :: .ref 203 :: .int 0 :: .ref 204 :: .ref 205 :: .ref 206 :: .ref 207 :: .ref 208 :: .ref 209 :: .ref 210 :: .ref 211 :: .ref 212 :: .ref 213 :: .ref 214 :: .int 0 :: .ref 215 :: .ref 216 :: .int 0 :: .ref 217 :: .ref 218 :: .ref 219 :: .ref 220 :: .ref 221 :: .int 0 :: .int 0 :: .int 0 :: .int 0 :: .ref 222 :: .int 0 :: [])))] mv_L_200 rfl rfl h181 (c_X9_count_644 h181 h182) rfl dL_law_1621 (Nat.le_of_ble_eq_true rfl) (Nat.le_of_ble_eq_true rfl) rfl (Nat.le_of_ble_eq_true rfl) (Nat.le_of_ble_eq_true rfl) (Nat.le_of_ble_eq_true rfl) rfl ?_
  refine aw_icmp_eq C 1629 dL_law_1624 (by decide) (fun _ => ?_) (fun q => absurd (by decide) q)
  refine aw_fl [some (.retAddr b), none, none, none, some (.int 0), none, none, none] (by simp [SubL]) ?_
  exact al_tail C S0 (Nat.le_of_ble_eq_true rfl) (Nat.le_of_ble_eq_true rfl)

set_option maxHeartbeats 4000000 in
set_option maxRecDepth 100000 in
theorem lc_30_i {X : GX} {p : Program} {l : Launch} {e : Env} {s : State} {m : MethodId} {below : List Frame} {meth : Method} {c : Code} {b : Nat} {xs : Nat → Int32} {f : AH} {n : Nat} {a2 : Int32} {a3 : Int32} {a4 : Int32} {a5 : Int32} (C : CC X p l room_1 s m #[Value.ref b] meth c RL cL_law 8 ret) (S0 : SC X b 6 xs s) (hl0 : l.stackTraces = false) (e1 : xs 1 = 7) (e2 : xs 2 = a2) (e3 : xs 3 = a3) (e4 : xs 4 = a4) (e5 : xs 5 = a5) (h0 : f 0 = some (.inr (8, [.ref 1, .ref 3, .ref 8, .ref 13, .ref 18, .ref 59, .ref 115, .ref 171, .ref 178, .int 0, .int 0, .int 0, .int 0, .int (-1)]))) (h3 : f 3 = some (.inr (7, [.ref 4, .int 0, .int (-1), .int 0, .int 1, .int 0, .null, .int 0, .ref 6, .ref 7]))) (h181 : f 181 = some (.inr (9, (.int 0 :: .ref 182 :: .ref 183 :: .ref 184 :: .ref 185 :: .int 0 :: .int 0 :: .int 0 :: .ref 186 :: .int 0 :: .int 0 :: .int 0 :: .int (-1) :: .ref 187 :: .ref 188 :: .ref 189 :: .int 0 :: .ref 190 :: .ref 191 :: .ref 192 :: .ref 193 :: .ref 194 :: .int 0 :: .ref 195 :: .ref 196 :: .ref 197 :: .int 0 :: .ref 198 :: .ref 199 :: .ref 200 :: .ref 201 :: .ref 202 :: .ref 203 :: .int 0 :: .ref 204 :: .ref 205 :: .ref 206 :: .ref 207 :: .ref 208 :: .ref 209 :: .ref 210 :: .ref 211 :: .ref 212 :: .ref 213 :: .ref 214 :: .int 0 :: .ref 215 :: .ref 216 :: .int 0 :: .ref 217 :: .ref 218 :: .ref 219 :: .ref 220 :: .ref 221 :: .int 0 :: .int 0 :: .int 0 :: .int 0 :: .ref 222 :: .int 0 :: [])))) (h182 : f 182 = some (.inl (0, 4347, .inl (tl (upd (upd (fun _ => 0) 2 (-1)) 4 1) 40)))) : AW X p l e room_1 s m #[Value.ref b] below meth c 8 (lw_Z below #[Value.ref b] s) f n 1000 300000 1604 [some (.retAddr b), some (.ref 0), some (.ref 181), some (.ref 223), some (.int 0), none, none, none] [] := by
  refine ao_start ?_
  refine aw_ald_n C dL_law_1604 rfl ?_
  refine aw_raw_n C dL_law_1605 rfl ?_
  refine aw_iload C dL_law_1606 rfl ?_
  refine aw_iconst C 1 dL_law_1608 ki_1 ?_
  refine ae_iadd C 1 dL_law_1609 (by decide) ?_
  refine aw_sld C S0 7 (by unfold vp_in; decide) (by decide : _ = 1) e1 dL_law_1610 ?_
  refine ao_callV C (ci := 8) (b := 0) [.int 7] [] mv_L_197 rfl rfl h0 (c_X8_count_645 h0 h3) rfl dL_law_1611 (Nat.le_of_ble_eq_true rfl) (Nat.le_of_ble_eq_true rfl) rfl (Nat.le_of_ble_eq_true rfl) (Nat.le_of_ble_eq_true rfl) (Nat.le_of_ble_eq_true rfl) rfl ?_
  refine aw_ald_n C dL_law_1614 rfl ?_
  refine aw_raw_n C dL_law_1615 rfl ?_
  refine aw_iload C dL_law_1616 rfl ?_
  refine aw_iconst C 1 dL_law_1618 ki_1 ?_
  refine ae_iadd C 1 dL_law_1619 (by decide) ?_
  refine aw_sld C S0 7 (by unfold vp_in; decide) (by decide : _ = 1) e1 dL_law_1620 ?_
  refine ao_callV C (ci := 9) (b := 181) [.int 7] [(181, .inr (9, (.int 0 :: .ref 182 :: .ref 183 :: .ref 184 :: .ref 185 :: .int 0 :: .int 0 :: .int 0 :: .ref 186 :: .int 0 :: .int 0 :: .int 0 :: .int (-1) :: .ref 187 :: .ref 188 :: .ref 189 :: .int 0 :: .ref 190 :: .ref 191 :: .ref 192 :: .ref 193 :: .ref 194 :: .int 0 :: .ref 195 :: .ref 196 :: .ref 197 :: .int 0 :: .ref 198 :: .ref 199 :: .ref 200 :: .ref 201 :: .ref 202 :: .ref 203 :: .int 0 :: .ref 204 :: .ref 205 :: .ref 206 :: .ref 207 :: .ref 208 :: .ref 209 :: .ref 210 :: .ref 211 :: .ref 212 :: .ref 213 :: .ref 214 :: .int 0 :: .ref 215 :: .ref 216 :: .int 0 :: .ref 217 :: .ref 218 :: .ref 219 :: .ref 220 :: .ref 221 :: .int 0 :: .int 0 :: .int 0 :: .int 0 :: .ref 222 :: .int 0 :: [])))] mv_L_200 rfl rfl h181 (c_X9_count_646 h181 h182) rfl dL_law_1621 (Nat.le_of_ble_eq_true rfl) (Nat.le_of_ble_eq_true rfl) rfl (Nat.le_of_ble_eq_true rfl) (Nat.le_of_ble_eq_true rfl) (Nat.le_of_ble_eq_true rfl) rfl ?_
  refine aw_icmp_eq C 1629 dL_law_1624 (by decide) (fun _ => ?_) (fun q => absurd (by decide) q)
  refine aw_fl [some (.retAddr b), none, none, none, some (.int 0), none, none, none] (by simp [SubL]) ?_
  exact al_tail C S0 (Nat.le_of_ble_eq_true rfl) (Nat.le_of_ble_eq_true rfl)

set_option maxHeartbeats 4000000 in
set_option maxRecDepth 100000 in
theorem lc_30_j {X : GX} {p : Program} {l : Launch} {e : Env} {s : State} {m : MethodId} {below : List Frame} {meth : Method} {c : Code} {b : Nat} {xs : Nat → Int32} {f : AH} {n : Nat} {a2 : Int32} {a3 : Int32} {a4 : Int32} {a5 : Int32} (C : CC X p l room_1 s m #[Value.ref b] meth c RL cL_law 8 ret) (S0 : SC X b 6 xs s) (hl0 : l.stackTraces = false) (e1 : xs 1 = 8) (e2 : xs 2 = a2) (e3 : xs 3 = a3) (e4 : xs 4 = a4) (e5 : xs 5 = a5) (h0 : f 0 = some (.inr (8, [.ref 1, .ref 3, .ref 8, .ref 13, .ref 18, .ref 59, .ref 115, .ref 171, .ref 178, .int 0, .int 0, .int 0, .int 0, .int (-1)]))) (h3 : f 3 = some (.inr (7, [.ref 4, .int 0, .int (-1), .int 0, .int 1, .int 0, .null, .int 0, .ref 6, .ref 7]))) (h181 : f 181 = some (.inr (9, (.int 0 :: .ref 182 :: .ref 183 :: .ref 184 :: .ref 185 :: .int 0 :: .int 0 :: .int 0 :: .ref 186 :: .int 0 :: .int 0 :: .int 0 :: .int (-1) :: .ref 187 :: .ref 188 :: .ref 189 :: .int 0 :: .ref 190 :: .ref 191 :: .ref 192 :: .ref 193 :: .ref 194 :: .int 0 :: .ref 195 :: .ref 196 :: .ref 197 :: .int 0 :: .ref 198 :: .ref 199 :: .ref 200 :: .ref 201 :: .ref 202 :: .ref 203 :: .int 0 :: .ref 204 :: .ref 205 :: .ref 206 :: .ref 207 :: .ref 208 :: .ref 209 :: .ref 210 :: .ref 211 :: .ref 212 :: .ref 213 :: .ref 214 :: .int 0 :: .ref 215 :: .ref 216 :: .int 0 :: .ref 217 :: .ref 218 :: .ref 219 :: .ref 220 :: .ref 221 :: .int 0 :: .int 0 :: .int 0 :: .int 0 :: .ref 222 :: .int 0 :: [])))) (h182 : f 182 = some (.inl (0, 4347, .inl (tl (upd (upd (fun _ => 0) 2 (-1)) 4 1) 40)))) : AW X p l e room_1 s m #[Value.ref b] below meth c 8 (lw_Z below #[Value.ref b] s) f n 1000 300000 1604 [some (.retAddr b), some (.ref 0), some (.ref 181), some (.ref 223), some (.int 0), none, none, none] [] := by
  refine ao_start ?_
  refine aw_ald_n C dL_law_1604 rfl ?_
  refine aw_raw_n C dL_law_1605 rfl ?_
  refine aw_iload C dL_law_1606 rfl ?_
  refine aw_iconst C 1 dL_law_1608 ki_1 ?_
  refine ae_iadd C 1 dL_law_1609 (by decide) ?_
  refine aw_sld C S0 8 (by unfold vp_in; decide) (by decide : _ = 1) e1 dL_law_1610 ?_
  refine ao_callV C (ci := 8) (b := 0) [.int 8] [] mv_L_197 rfl rfl h0 (c_X8_count_647 h0 h3) rfl dL_law_1611 (Nat.le_of_ble_eq_true rfl) (Nat.le_of_ble_eq_true rfl) rfl (Nat.le_of_ble_eq_true rfl) (Nat.le_of_ble_eq_true rfl) (Nat.le_of_ble_eq_true rfl) rfl ?_
  refine aw_ald_n C dL_law_1614 rfl ?_
  refine aw_raw_n C dL_law_1615 rfl ?_
  refine aw_iload C dL_law_1616 rfl ?_
  refine aw_iconst C 1 dL_law_1618 ki_1 ?_
  refine ae_iadd C 1 dL_law_1619 (by decide) ?_
  refine aw_sld C S0 8 (by unfold vp_in; decide) (by decide : _ = 1) e1 dL_law_1620 ?_
  refine ao_callV C (ci := 9) (b := 181) [.int 8] [(181, .inr (9, (.int 0 :: .ref 182 :: .ref 183 :: .ref 184 :: .ref 185 :: .int 0 :: .int 0 :: .int 0 :: .ref 186 :: .int 0 :: .int 0 :: .int 0 :: .int (-1) :: .ref 187 :: .ref 188 :: .ref 189 :: .int 0 :: .ref 190 :: .ref 191 :: .ref 192 :: .ref 193 :: .ref 194 :: .int 0 :: .ref 195 :: .ref 196 :: .ref 197 :: .int 0 :: .ref 198 :: .ref 199 :: .ref 200 :: .ref 201 :: .ref 202 :: .ref 203 :: .int 0 :: .ref 204 :: .ref 205 :: .ref 206 :: .ref 207 :: .ref 208 :: .ref 209 :: .ref 210 :: .ref 211 :: .ref 212 :: .ref 213 :: .ref 214 :: .int 0 :: .ref 215 :: .ref 216 :: .int 0 :: .ref 217 :: .ref 218 :: .ref 219 :: .ref 220 :: .ref 221 :: .int 0 :: .int 0 :: .int 0 :: .int 0 :: .ref 222 :: .int 0 :: [])))] mv_L_200 rfl rfl h181 (c_X9_count_648 h181 h182) rfl dL_law_1621 (Nat.le_of_ble_eq_true rfl) (Nat.le_of_ble_eq_true rfl) rfl (Nat.le_of_ble_eq_true rfl) (Nat.le_of_ble_eq_true rfl) (Nat.le_of_ble_eq_true rfl) rfl ?_
  refine aw_icmp_eq C 1629 dL_law_1624 (by decide) (fun _ => ?_) (fun q => absurd (by decide) q)
  refine aw_fl [some (.retAddr b), none, none, none, some (.int 0), none, none, none] (by simp [SubL]) ?_
  exact al_tail C S0 (Nat.le_of_ble_eq_true rfl) (Nat.le_of_ble_eq_true rfl)

set_option maxHeartbeats 4000000 in
set_option maxRecDepth 100000 in
theorem lc_30_k {X : GX} {p : Program} {l : Launch} {e : Env} {s : State} {m : MethodId} {below : List Frame} {meth : Method} {c : Code} {b : Nat} {xs : Nat → Int32} {f : AH} {n : Nat} {a2 : Int32} {a3 : Int32} {a4 : Int32} {a5 : Int32} (C : CC X p l room_1 s m #[Value.ref b] meth c RL cL_law 8 ret) (S0 : SC X b 6 xs s) (hl0 : l.stackTraces = false) (e1 : xs 1 = 9) (e2 : xs 2 = a2) (e3 : xs 3 = a3) (e4 : xs 4 = a4) (e5 : xs 5 = a5) (h0 : f 0 = some (.inr (8, [.ref 1, .ref 3, .ref 8, .ref 13, .ref 18, .ref 59, .ref 115, .ref 171, .ref 178, .int 0, .int 0, .int 0, .int 0, .int (-1)]))) (h3 : f 3 = some (.inr (7, [.ref 4, .int 0, .int (-1), .int 0, .int 1, .int 0, .null, .int 0, .ref 6, .ref 7]))) (h181 : f 181 = some (.inr (9, (.int 0 :: .ref 182 :: .ref 183 :: .ref 184 :: .ref 185 :: .int 0 :: .int 0 :: .int 0 :: .ref 186 :: .int 0 :: .int 0 :: .int 0 :: .int (-1) :: .ref 187 :: .ref 188 :: .ref 189 :: .int 0 :: .ref 190 :: .ref 191 :: .ref 192 :: .ref 193 :: .ref 194 :: .int 0 :: .ref 195 :: .ref 196 :: .ref 197 :: .int 0 :: .ref 198 :: .ref 199 :: .ref 200 :: .ref 201 :: .ref 202 :: .ref 203 :: .int 0 :: .ref 204 :: .ref 205 :: .ref 206 :: .ref 207 :: .ref 208 :: .ref 209 :: .ref 210 :: .ref 211 :: .ref 212 :: .ref 213 :: .ref 214 :: .int 0 :: .ref 215 :: .ref 216 :: .int 0 :: .ref 217 :: .ref 218 :: .ref 219 :: .ref 220 :: .ref 221 :: .int 0 :: .int 0 :: .int 0 :: .int 0 :: .ref 222 :: .int 0 :: [])))) (h182 : f 182 = some (.inl (0, 4347, .inl (tl (upd (upd (fun _ => 0) 2 (-1)) 4 1) 40)))) : AW X p l e room_1 s m #[Value.ref b] below meth c 8 (lw_Z below #[Value.ref b] s) f n 1000 300000 1604 [some (.retAddr b), some (.ref 0), some (.ref 181), some (.ref 223), some (.int 0), none, none, none] [] := by
  refine ao_start ?_
  refine aw_ald_n C dL_law_1604 rfl ?_
  refine aw_raw_n C dL_law_1605 rfl ?_
  refine aw_iload C dL_law_1606 rfl ?_
  refine aw_iconst C 1 dL_law_1608 ki_1 ?_
  refine ae_iadd C 1 dL_law_1609 (by decide) ?_
  refine aw_sld C S0 9 (by unfold vp_in; decide) (by decide : _ = 1) e1 dL_law_1610 ?_
  refine ao_callV C (ci := 8) (b := 0) [.int 9] [] mv_L_197 rfl rfl h0 (c_X8_count_649 h0 h3) rfl dL_law_1611 (Nat.le_of_ble_eq_true rfl) (Nat.le_of_ble_eq_true rfl) rfl (Nat.le_of_ble_eq_true rfl) (Nat.le_of_ble_eq_true rfl) (Nat.le_of_ble_eq_true rfl) rfl ?_
  refine aw_ald_n C dL_law_1614 rfl ?_
  refine aw_raw_n C dL_law_1615 rfl ?_
  refine aw_iload C dL_law_1616 rfl ?_
  refine aw_iconst C 1 dL_law_1618 ki_1 ?_
  refine ae_iadd C 1 dL_law_1619 (by decide) ?_
  refine aw_sld C S0 9 (by unfold vp_in; decide) (by decide : _ = 1) e1 dL_law_1620 ?_
  refine ao_callV C (ci := 9) (b := 181) [.int 9] [(181, .inr (9, (.int 0 :: .ref 182 :: .ref 183 :: .ref 184 :: .ref 185 :: .int 0 :: .int 0 :: .int 0 :: .ref 186 :: .int 0 :: .int 0 :: .int 0 :: .int (-1) :: .ref 187 :: .ref 188 :: .ref 189 :: .int 0 :: .ref 190 :: .ref 191 :: .ref 192 :: .ref 193 :: .ref 194 :: .int 0 :: .ref 195 :: .ref 196 :: .ref 197 :: .int 0 :: .ref 198 :: .ref 199 :: .ref 200 :: .ref 201 :: .ref 202 :: .ref 203 :: .int 0 :: .ref 204 :: .ref 205 :: .ref 206 :: .ref 207 :: .ref 208 :: .ref 209 :: .ref 210 :: .ref 211 :: .ref 212 :: .ref 213 :: .ref 214 :: .int 0 :: .ref 215 :: .ref 216 :: .int 0 :: .ref 217 :: .ref 218 :: .ref 219 :: .ref 220 :: .ref 221 :: .int 0 :: .int 0 :: .int 0 :: .int 0 :: .ref 222 :: .int 0 :: [])))] mv_L_200 rfl rfl h181 (c_X9_count_650 h181 h182) rfl dL_law_1621 (Nat.le_of_ble_eq_true rfl) (Nat.le_of_ble_eq_true rfl) rfl (Nat.le_of_ble_eq_true rfl) (Nat.le_of_ble_eq_true rfl) (Nat.le_of_ble_eq_true rfl) rfl ?_
  refine aw_icmp_eq C 1629 dL_law_1624 (by decide) (fun _ => ?_) (fun q => absurd (by decide) q)
  refine aw_fl [some (.retAddr b), none, none, none, some (.int 0), none, none, none] (by simp [SubL]) ?_
  exact al_tail C S0 (Nat.le_of_ble_eq_true rfl) (Nat.le_of_ble_eq_true rfl)

set_option maxHeartbeats 4000000 in
set_option maxRecDepth 100000 in
theorem lc_30_l {X : GX} {p : Program} {l : Launch} {e : Env} {s : State} {m : MethodId} {below : List Frame} {meth : Method} {c : Code} {b : Nat} {xs : Nat → Int32} {f : AH} {n : Nat} {a2 : Int32} {a3 : Int32} {a4 : Int32} {a5 : Int32} (C : CC X p l room_1 s m #[Value.ref b] meth c RL cL_law 8 ret) (S0 : SC X b 6 xs s) (hl0 : l.stackTraces = false) (e1 : xs 1 = 10) (e2 : xs 2 = a2) (e3 : xs 3 = a3) (e4 : xs 4 = a4) (e5 : xs 5 = a5) (h0 : f 0 = some (.inr (8, [.ref 1, .ref 3, .ref 8, .ref 13, .ref 18, .ref 59, .ref 115, .ref 171, .ref 178, .int 0, .int 0, .int 0, .int 0, .int (-1)]))) (h59 : f 59 = some (.inr (1, [.ref 60, .ref 62, .ref 74, .int 0, .ref 68, .ref 71, .ref 64, .ref 66]))) (h181 : f 181 = some (.inr (9, (.int 0 :: .ref 182 :: .ref 183 :: .ref 184 :: .ref 185 :: .int 0 :: .int 0 :: .int 0 :: .ref 186 :: .int 0 :: .int 0 :: .int 0 :: .int (-1) :: .ref 187 :: .ref 188 :: .ref 189 :: .int 0 :: .ref 190 :: .ref 191 :: .ref 192 :: .ref 193 :: .ref 194 :: .int 0 :: .ref 195 :: .ref 196 :: .ref 197 :: .int 0 :: .ref 198 :: .ref 199 :: .ref 200 :: .ref 201 :: .ref 202 :: .ref 203 :: .int 0 :: .ref 204 :: .ref 205 :: .ref 206 :: .ref 207 :: .ref 208 :: .ref 209 :: .ref 210 :: .ref 211 :: .ref 212 :: .ref 213 :: .ref 214 :: .int 0 :: .ref 215 :: .ref 216 :: .int 0 :: .ref 217 :: .ref 218 :: .ref 219 :: .ref 220 :: .ref 221 :: .int 0 :: .int 0 :: .int 0 :: .int 0 :: .ref 222 :: .int 0 :: [])))) : AW X p l e room_1 s m #[Value.ref b] below meth c 8 (lw_Z below #[Value.ref b] s) f n 1000 300000 1604 [some (.retAddr b), some (.ref 0), some (.ref 181), some (.ref 223), some (.int 0), none, none, none] [] := by
  refine ao_start ?_
  refine aw_ald_n C dL_law_1604 rfl ?_
  refine aw_raw_n C dL_law_1605 rfl ?_
  refine aw_iload C dL_law_1606 rfl ?_
  refine aw_iconst C 1 dL_law_1608 ki_1 ?_
  refine ae_iadd C 1 dL_law_1609 (by decide) ?_
  refine aw_sld C S0 10 (by unfold vp_in; decide) (by decide : _ = 1) e1 dL_law_1610 ?_
  refine ao_callV C (ci := 8) (b := 0) [.int 10] [] mv_L_197 rfl rfl h0 (c_X8_count_652 h0 h59) rfl dL_law_1611 (Nat.le_of_ble_eq_true rfl) (Nat.le_of_ble_eq_true rfl) rfl (Nat.le_of_ble_eq_true rfl) (Nat.le_of_ble_eq_true rfl) (Nat.le_of_ble_eq_true rfl) rfl ?_
  refine aw_ald_n C dL_law_1614 rfl ?_
  refine aw_raw_n C dL_law_1615 rfl ?_
  refine aw_iload C dL_law_1616 rfl ?_
  refine aw_iconst C 1 dL_law_1618 ki_1 ?_
  refine ae_iadd C 1 dL_law_1619 (by decide) ?_
  refine aw_sld C S0 10 (by unfold vp_in; decide) (by decide : _ = 1) e1 dL_law_1620 ?_
  refine ao_callV C (ci := 9) (b := 181) [.int 10] [(181, .inr (9, (.int 0 :: .ref 182 :: .ref 183 :: .ref 184 :: .ref 185 :: .int 0 :: .int 0 :: .int 0 :: .ref 186 :: .int 0 :: .int 0 :: .int 0 :: .int (-1) :: .ref 187 :: .ref 188 :: .ref 189 :: .int 0 :: .ref 190 :: .ref 191 :: .ref 192 :: .ref 193 :: .ref 194 :: .int 0 :: .ref 195 :: .ref 196 :: .ref 197 :: .int 0 :: .ref 198 :: .ref 199 :: .ref 200 :: .ref 201 :: .ref 202 :: .ref 203 :: .int 0 :: .ref 204 :: .ref 205 :: .ref 206 :: .ref 207 :: .ref 208 :: .ref 209 :: .ref 210 :: .ref 211 :: .ref 212 :: .ref 213 :: .ref 214 :: .int 0 :: .ref 215 :: .ref 216 :: .int 0 :: .ref 217 :: .ref 218 :: .ref 219 :: .ref 220 :: .ref 221 :: .int 0 :: .int 0 :: .int 0 :: .int 0 :: .ref 222 :: .int 0 :: [])))] mv_L_200 rfl rfl h181 (c_X9_count_654 h181) rfl dL_law_1621 (Nat.le_of_ble_eq_true rfl) (Nat.le_of_ble_eq_true rfl) rfl (Nat.le_of_ble_eq_true rfl) (Nat.le_of_ble_eq_true rfl) (Nat.le_of_ble_eq_true rfl) rfl ?_
  refine aw_icmp_eq C 1629 dL_law_1624 (by decide) (fun _ => ?_) (fun q => absurd (by decide) q)
  refine aw_fl [some (.retAddr b), none, none, none, some (.int 0), none, none, none] (by simp [SubL]) ?_
  exact al_tail C S0 (Nat.le_of_ble_eq_true rfl) (Nat.le_of_ble_eq_true rfl)

set_option maxHeartbeats 4000000 in
set_option maxRecDepth 100000 in
theorem lc_30_m {X : GX} {p : Program} {l : Launch} {e : Env} {s : State} {m : MethodId} {below : List Frame} {meth : Method} {c : Code} {b : Nat} {xs : Nat → Int32} {f : AH} {n : Nat} {a2 : Int32} {a3 : Int32} {a4 : Int32} {a5 : Int32} (C : CC X p l room_1 s m #[Value.ref b] meth c RL cL_law 8 ret) (S0 : SC X b 6 xs s) (hl0 : l.stackTraces = false) (e1 : xs 1 = 11) (e2 : xs 2 = a2) (e3 : xs 3 = a3) (e4 : xs 4 = a4) (e5 : xs 5 = a5) (h0 : f 0 = some (.inr (8, [.ref 1, .ref 3, .ref 8, .ref 13, .ref 18, .ref 59, .ref 115, .ref 171, .ref 178, .int 0, .int 0, .int 0, .int 0, .int (-1)]))) (h59 : f 59 = some (.inr (1, [.ref 60, .ref 62, .ref 74, .int 0, .ref 68, .ref 71, .ref 64, .ref 66]))) (h181 : f 181 = some (.inr (9, (.int 0 :: .ref 182 :: .ref 183 :: .ref 184 :: .ref 185 :: .int 0 :: .int 0 :: .int 0 :: .ref 186 :: .int 0 :: .int 0 :: .int 0 :: .int (-1) :: .ref 187 :: .ref 188 :: .ref 189 :: .int 0 :: .ref 190 :: .ref 191 :: .ref 192 :: .ref 193 :: .ref 194 :: .int 0 :: .ref 195 :: .ref 196 :: .ref 197 :: .int 0 :: .ref 198 :: .ref 199 :: .ref 200 :: .ref 201 :: .ref 202 :: .ref 203 :: .int 0 :: .ref 204 :: .ref 205 :: .ref 206 :: .ref 207 :: .ref 208 :: .ref 209 :: .ref 210 :: .ref 211 :: .ref 212 :: .ref 213 :: .ref 214 :: .int 0 :: .ref 215 :: .ref 216 :: .int 0 :: .ref 217 :: .ref 218 :: .ref 219 :: .ref 220 :: .ref 221 :: .int 0 :: .int 0 :: .int 0 :: .int 0 :: .ref 222 :: .int 0 :: [])))) : AW X p l e room_1 s m #[Value.ref b] below meth c 8 (lw_Z below #[Value.ref b] s) f n 1000 300000 1604 [some (.retAddr b), some (.ref 0), some (.ref 181), some (.ref 223), some (.int 0), none, none, none] [] := by
  refine ao_start ?_
  refine aw_ald_n C dL_law_1604 rfl ?_
  refine aw_raw_n C dL_law_1605 rfl ?_
  refine aw_iload C dL_law_1606 rfl ?_
  refine aw_iconst C 1 dL_law_1608 ki_1 ?_
  refine ae_iadd C 1 dL_law_1609 (by decide) ?_
  refine aw_sld C S0 11 (by unfold vp_in; decide) (by decide : _ = 1) e1 dL_law_1610 ?_
  refine ao_callV C (ci := 8) (b := 0) [.int 11] [] mv_L_197 rfl rfl h0 (c_X8_count_656 h0 h59) rfl dL_law_1611 (Nat.le_of_ble_eq_true rfl) (Nat.le_of_ble_eq_true rfl) rfl (Nat.le_of_ble_eq_true rfl) (Nat.le_of_ble_eq_true rfl) (Nat.le_of_ble_eq_true rfl) rfl ?_
  refine aw_ald_n C dL_law_1614 rfl ?_
  refine aw_raw_n C dL_law_1615 rfl ?_
  refine aw_iload C dL_law_1616 rfl ?_
  refine aw_iconst C 1 dL_law_1618 ki_1 ?_
  refine ae_iadd C 1 dL_law_1619 (by decide) ?_
  refine aw_sld C S0 11 (by unfold vp_in; decide) (by decide : _ = 1) e1 dL_law_1620 ?_
  refine ao_callV C (ci := 9) (b := 181) [.int 11] [(181, .inr (9, (.int 0 :: .ref 182 :: .ref 183 :: .ref 184 :: .ref 185 :: .int 0 :: .int 0 :: .int 0 :: .ref 186 :: .int 0 :: .int 0 :: .int 0 :: .int (-1) :: .ref 187 :: .ref 188 :: .ref 189 :: .int 0 :: .ref 190 :: .ref 191 :: .ref 192 :: .ref 193 :: .ref 194 :: .int 0 :: .ref 195 :: .ref 196 :: .ref 197 :: .int 0 :: .ref 198 :: .ref 199 :: .ref 200 :: .ref 201 :: .ref 202 :: .ref 203 :: .int 0 :: .ref 204 :: .ref 205 :: .ref 206 :: .ref 207 :: .ref 208 :: .ref 209 :: .ref 210 :: .ref 211 :: .ref 212 :: .ref 213 :: .ref 214 :: .int 0 :: .ref 215 :: .ref 216 :: .int 0 :: .ref 217 :: .ref 218 :: .ref 219 :: .ref 220 :: .ref 221 :: .int 0 :: .int 0 :: .int 0 :: .int 0 :: .ref 222 :: .int 0 :: [])))] mv_L_200 rfl rfl h181 (c_X9_count_658 h181) rfl dL_law_1621 (Nat.le_of_ble_eq_true rfl) (Nat.le_of_ble_eq_true rfl) rfl (Nat.le_of_ble_eq_true rfl) (Nat.le_of_ble_eq_true rfl) (Nat.le_of_ble_eq_true rfl) rfl ?_
  refine aw_icmp_eq C 1629 dL_law_1624 (by decide) (fun _ => ?_) (fun q => absurd (by decide) q)
  refine aw_fl [some (.retAddr b), none, none, none, some (.int 0), none, none, none] (by simp [SubL]) ?_
  exact al_tail C S0 (Nat.le_of_ble_eq_true rfl) (Nat.le_of_ble_eq_true rfl)

set_option maxHeartbeats 4000000 in
set_option maxRecDepth 100000 in
theorem lc_30_n {X : GX} {p : Program} {l : Launch} {e : Env} {s : State} {m : MethodId} {below : List Frame} {meth : Method} {c : Code} {b : Nat} {xs : Nat → Int32} {f : AH} {n : Nat} {a2 : Int32} {a3 : Int32} {a4 : Int32} {a5 : Int32} (C : CC X p l room_1 s m #[Value.ref b] meth c RL cL_law 8 ret) (S0 : SC X b 6 xs s) (hl0 : l.stackTraces = false) (e1 : xs 1 = 12) (e2 : xs 2 = a2) (e3 : xs 3 = a3) (e4 : xs 4 = a4) (e5 : xs 5 = a5) (h0 : f 0 = some (.inr (8, [.ref 1, .ref 3, .ref 8, .ref 13, .ref 18, .ref 59, .ref 115, .ref 171, .ref 178, .int 0, .int 0, .int 0, .int 0, .int (-1)]))) (h3 : f 3 = some (.inr (7, [.ref 4, .int 0, .int (-1), .int 0, .int 1, .int 0, .null, .int 0, .ref 6, .ref 7]))) (h181 : f 181 = some (.inr (9, (.int 0 :: .ref 182 :: .ref 183 :: .ref 184 :: .ref 185 :: .int 0 :: .int 0 :: .int 0 :: .ref 186 :: .int 0 :: .int 0 :: .int 0 :: .int (-1) :: .ref 187 :: .ref 188 :: .ref 189 :: .int 0 :: .ref 190 :: .ref 191 :: .ref 192 :: .ref 193 :: .ref 194 :: .int 0 :: .ref 195 :: .ref 196 :: .ref 197 :: .int 0 :: .ref 198 :: .ref 199 :: .ref 200 :: .ref 201 :: .ref 202 :: .ref 203 :: .int 0 :: .ref 204 :: .ref 205 :: .ref 206 :: .ref 207 :: .ref 208 :: .ref 209 :: .ref 210 :: .ref 211 :: .ref 212 :: .ref 213 :: .ref 214 :: .int 0 :: .ref 215 :: .ref 216 :: .int 0 :: .ref 217 :: .ref 218 :: .ref 219 :: .ref 220 :: .ref 221 :: .int 0 :: .int 0 :: .int 0 :: .int 0 :: .ref 222 :: .int 0 :: [])))) (h182 : f 182 = some (.inl (0, 4347, .inl (tl (upd (upd (fun _ => 0) 2 (-1)) 4 1) 40)))) : AW X p l e room_1 s m #[Value.ref b] below meth c 8 (lw_Z below #[Value.ref b] s) f n 1000 300000 1604 [some (.retAddr b), some (.ref 0), some (.ref 181), some (.ref 223), some (.int 0), none, none, none] [] := by
  refine ao_start ?_
  refine aw_ald_n C dL_law_1604 rfl ?_
  refine aw_raw_n C dL_law_1605 rfl ?_
  refine aw_iload C dL_law_1606 rfl ?_
  refine aw_iconst C 1 dL_law_1608 ki_1 ?_
  refine ae_iadd C 1 dL_law_1609 (by decide) ?_
  refine aw_sld C S0 12 (by unfold vp_in; decide) (by decide : _ = 1) e1 dL_law_1610 ?_
  refine ao_callV C (ci := 8) (b := 0) [.int 12] [] mv_L_197 rfl rfl h0 (c_X8_count_659 h0 h3) rfl dL_law_1611 (Nat.le_of_ble_eq_true rfl) (Nat.le_of_ble_eq_true rfl) rfl (Nat.le_of_ble_eq_true rfl) (Nat.le_of_ble_eq_true rfl) (Nat.le_of_ble_eq_true rfl) rfl ?_
  refine aw_ald_n C dL_law_1614 rfl ?_
  refine aw_raw_n C dL_law_1615 rfl ?_
  refine aw_iload C dL_law_1616 rfl ?_
  refine aw_iconst C 1 dL_law_1618 ki_1 ?_
  refine ae_iadd C 1 dL_law_1619 (by decide) ?_
  refine aw_sld C S0 12 (by unfold vp_in; decide) (by decide : _ = 1) e1 dL_law_1620 ?_
  refine ao_callV C (ci := 9) (b := 181) [.int 12] [(181, .inr (9, (.int 0 :: .ref 182 :: .ref 183 :: .ref 184 :: .ref 185 :: .int 0 :: .int 0 :: .int 0 :: .ref 186 :: .int 0 :: .int 0 :: .int 0 :: .int (-1) :: .ref 187 :: .ref 188 :: .ref 189 :: .int 0 :: .ref 190 :: .ref 191 :: .ref 192 :: .ref 193 :: .ref 194 :: .int 0 :: .ref 195 :: .ref 196 :: .ref 197 :: .int 0 :: .ref 198 :: .ref 199 :: .ref 200 :: .ref 201 :: .ref 202 :: .ref 203 :: .int 0 :: .ref 204 :: .ref 205 :: .ref 206 :: .ref 207 :: .ref 208 :: .ref 209 :: .ref 210 :: .ref 211 :: .ref 212 :: .ref 213 :: .ref 214 :: .int 0 :: .ref 215 :: .ref 216 :: .int 0 :: .ref 217 :: .ref 218 :: .ref 219 :: .ref 220 :: .ref 221 :: .int 0 :: .int 0 :: .int 0 :: .int 0 :: .ref 222 :: .int 0 :: [])))] mv_L_200 rfl rfl h181 (c_X9_count_660 h181 h182) rfl dL_law_1621 (Nat.le_of_ble_eq_true rfl) (Nat.le_of_ble_eq_true rfl) rfl (Nat.le_of_ble_eq_true rfl) (Nat.le_of_ble_eq_true rfl) (Nat.le_of_ble_eq_true rfl) rfl ?_
  refine aw_icmp_eq C 1629 dL_law_1624 (by decide) (fun _ => ?_) (fun q => absurd (by decide) q)
  refine aw_fl [some (.retAddr b), none, none, none, some (.int 0), none, none, none] (by simp [SubL]) ?_
  exact al_tail C S0 (Nat.le_of_ble_eq_true rfl) (Nat.le_of_ble_eq_true rfl)

set_option maxHeartbeats 4000000 in
set_option maxRecDepth 100000 in
theorem lc_30_o {X : GX} {p : Program} {l : Launch} {e : Env} {s : State} {m : MethodId} {below : List Frame} {meth : Method} {c : Code} {b : Nat} {xs : Nat → Int32} {f : AH} {n : Nat} {a2 : Int32} {a3 : Int32} {a4 : Int32} {a5 : Int32} (C : CC X p l room_1 s m #[Value.ref b] meth c RL cL_law 8 ret) (S0 : SC X b 6 xs s) (hl0 : l.stackTraces = false) (e1 : xs 1 = 13) (e2 : xs 2 = a2) (e3 : xs 3 = a3) (e4 : xs 4 = a4) (e5 : xs 5 = a5) (h0 : f 0 = some (.inr (8, [.ref 1, .ref 3, .ref 8, .ref 13, .ref 18, .ref 59, .ref 115, .ref 171, .ref 178, .int 0, .int 0, .int 0, .int 0, .int (-1)]))) (h59 : f 59 = some (.inr (1, [.ref 60, .ref 62, .ref 74, .int 0, .ref 68, .ref 71, .ref 64, .ref 66]))) (h181 : f 181 = some (.inr (9, (.int 0 :: .ref 182 :: .ref 183 :: .ref 184 :: .ref 185 :: .int 0 :: .int 0 :: .int 0 :: .ref 186 :: .int 0 :: .int 0 :: .int 0 :: .int (-1) :: .ref 187 :: .ref 188 :: .ref 189 :: .int 0 :: .ref 190 :: .ref 191 :: .ref 192 :: .ref 193 :: .ref 194 :: .int 0 :: .ref 195 :: .ref 196 :: .ref 197 :: .int 0 :: .ref 198 :: .ref 199 :: .ref 200 :: .ref 201 :: .ref 202 :: .ref 203 :: .int 0 :: .ref 204 :: .ref 205 :: .ref 206 :: .ref 207 :: .ref 208 :: .ref 209 :: .ref 210 :: .ref 211 :: .ref 212 :: .ref 213 :: .ref 214 :: .int 0 :: .ref 215 :: .ref 216 :: .int 0 :: .ref 217 :: .ref 218 :: .ref 219 :: .ref 220 :: .ref 221 :: .int 0 :: .int 0 :: .int 0 :: .int 0 :: .ref 222 :: .int 0 :: [])))) : AW X p l e room_1 s m #[Value.ref b] below meth c 8 (lw_Z below #[Value.ref b] s) f n 1000 300000 1604 [some (.retAddr b), some (.ref 0), some (.ref 181), some (.ref 223), some (.int 0), none, none, none] [] := by
  refine ao_start ?_
  refine aw_ald_n C dL_law_1604 rfl ?_
  refine aw_raw_n C dL_law_1605 rfl ?_
  refine aw_iload C dL_law_1606 rfl ?_
  refine aw_iconst C 1 dL_law_1608 ki_1 ?_
  refine ae_iadd C 1 dL_law_1609 (by decide) ?_
  refine aw_sld C S0 13 (by unfold vp_in; decide) (by decide : _ = 1) e1 dL_law_1610 ?_
  refine ao_callV C (ci := 8) (b := 0) [.int 13] [] mv_L_197 rfl rfl h0 (c_X8_count_662 h0 h59) rfl dL_law_1611 (Nat.le_of_ble_eq_true rfl) (Nat.le_of_ble_eq_true rfl) rfl (Nat.le_of_ble_eq_true rfl) (Nat.le_of_ble_eq_true rfl) (Nat.le_of_ble_eq_true rfl) rfl ?_
  refine aw_ald_n C dL_law_1614 rfl ?_
  refine aw_raw_n C dL_law_1615 rfl ?_
  refine aw_iload C dL_law_1616 rfl ?_
  refine aw_iconst C 1 dL_law_1618 ki_1 ?_
  refine ae_iadd C 1 dL_law_1619 (by decide) ?_
  refine aw_sld C S0 13 (by unfold vp_in; decide) (by decide : _ = 1) e1 dL_law_1620 ?_
  refine ao_callV C (ci := 9) (b := 181) [.int 13] [(181, .inr (9, (.int 0 :: .ref 182 :: .ref 183 :: .ref 184 :: .ref 185 :: .int 0 :: .int 0 :: .int 0 :: .ref 186 :: .int 0 :: .int 0 :: .int 0 :: .int (-1) :: .ref 187 :: .ref 188 :: .ref 189 :: .int 0 :: .ref 190 :: .ref 191 :: .ref 192 :: .ref 193 :: .ref 194 :: .int 0 :: .ref 195 :: .ref 196 :: .ref 197 :: .int 0 :: .ref 198 :: .ref 199 :: .ref 200 :: .ref 201 :: .ref 202 :: .ref 203 :: .int 0 :: .ref 204 :: .ref 205 :: .ref 206 :: .ref 207 :: .ref 208 :: .ref 209 :: .ref 210 :: .ref 211 :: .ref 212 :: .ref 213 :: .ref 214 :: .int 0 :: .ref 215 :: .ref 216 :: .int 0 :: .ref 217 :: .ref 218 :: .ref 219 :: .ref 220 :: .ref 221 :: .int 0 :: .int 0 :: .int 0 :: .int 0 :: .ref 222 :: .int 0 :: [])))] mv_L_200 rfl rfl h181 (c_X9_count_664 h181) rfl dL_law_1621 (Nat.le_of_ble_eq_true rfl) (Nat.le_of_ble_eq_true rfl) rfl (Nat.le_of_ble_eq_true rfl) (Nat.le_of_ble_eq_true rfl) (Nat.le_of_ble_eq_true rfl) rfl ?_
  refine aw_icmp_eq C 1629 dL_law_1624 (by decide) (fun _ => ?_) (fun q => absurd (by decide) q)
  refine aw_fl [some (.retAddr b), none, none, none, some (.int 0), none, none, none] (by simp [SubL]) ?_
  exact al_tail C S0 (Nat.le_of_ble_eq_true rfl) (Nat.le_of_ble_eq_true rfl)

set_option maxHeartbeats 4000000 in
set_option maxRecDepth 100000 in
theorem lc_30_p {X : GX} {p : Program} {l : Launch} {e : Env} {s : State} {m : MethodId} {below : List Frame} {meth : Method} {c : Code} {b : Nat} {xs : Nat → Int32} {f : AH} {n : Nat} {a2 : Int32} {a3 : Int32} {a4 : Int32} {a5 : Int32} (C : CC X p l room_1 s m #[Value.ref b] meth c RL cL_law 8 ret) (S0 : SC X b 6 xs s) (hl0 : l.stackTraces = false) (e1 : xs 1 = 14) (e2 : xs 2 = a2) (e3 : xs 3 = a3) (e4 : xs 4 = a4) (e5 : xs 5 = a5) (h0 : f 0 = some (.inr (8, [.ref 1, .ref 3, .ref 8, .ref 13, .ref 18, .ref 59, .ref 115, .ref 171, .ref 178, .int 0, .int 0, .int 0, .int 0, .int (-1)]))) (h181 : f 181 = some (.inr (9, (.int 0 :: .ref 182 :: .ref 183 :: .ref 184 :: .ref 185 :: .int 0 :: .int 0 :: .int 0 :: .ref 186 :: .int 0 :: .int 0 :: .int 0 :: .int (-1) :: .ref 187 :: .ref 188 :: .ref 189 :: .int 0 :: .ref 190 :: .ref 191 :: .ref 192 :: .ref 193 :: .ref 194 :: .int 0 :: .ref 195 :: .ref 196 :: .ref 197 :: .int 0 :: .ref 198 :: .ref 199 :: .ref 200 :: .ref 201 :: .ref 202 :: .ref 203 :: .int 0 :: .ref 204 :: .ref 205 :: .ref 206 :: .ref 207 :: .ref 208 :: .ref 209 :: .ref 210 :: .ref 211 :: .ref 212 :: .ref 213 :: .ref 214 :: .int 0 :: .ref 215 :: .ref 216 :: .int 0 :: .ref 217 :: .ref 218 :: .ref 219 :: .ref 220 :: .ref 221 :: .int 0 :: .int 0 :: .int 0 :: .int 0 :: .ref 222 :: .int 0 :: [])))) : AW X p l e room_1 s m #[Value.ref b] below meth c 8 (lw_Z below #[Value.ref b] s) f n 1000 300000 1604 [some (.retAddr b), some (.ref 0), some (.ref 181), some (.ref 223), some (.int 0), none, none, none] [] := by
  refine ao_start ?_
  refine aw_ald_n C dL_law_1604 rfl ?_
  refine aw_raw_n C dL_law_1605 rfl ?_
  refine aw_iload C dL_law_1606 rfl ?_
  refine aw_iconst C 1 dL_law_1608 ki_1 ?_
  refine ae_iadd C 1 dL_law_1609 (by decide) ?_
  refine aw_sld C S0 14 (by unfold vp_in; decide) (by decide : _ = 1) e1 dL_law_1610 ?_
  refine ao_callV C (ci := 8) (b := 0) [.int 14] [] mv_L_197 rfl rfl h0 (c_X8_count_665 h0) rfl dL_law_1611 (Nat.le_of_ble_eq_true rfl) (Nat.le_of_ble_eq_true rfl) rfl (Nat.le_of_ble_eq_true rfl) (Nat.le_of_ble_eq_true rfl) (Nat.le_of_ble_eq_true rfl) rfl ?_
  refine aw_ald_n C dL_law_1614 rfl ?_
  refine aw_raw_n C dL_law_1615 rfl ?_
  refine aw_iload C dL_law_1616 rfl ?_
  refine aw_iconst C 1 dL_law_1618 ki_1 ?_
  refine ae_iadd C 1 dL_law_1619 (by decide) ?_
  refine aw_sld C S0 14 (by unfold vp_in; decide) (by decide : _ = 1) e1 dL_law_1620 ?_
  refine ao_callV C (ci := 9) (b := 181) [.int 14] [(181, .inr (9, (.int 0 :: .ref 182 :: .ref 183 :: .ref 184 :: .ref 185 :: .int 0 :: .int 0 :: .int 0 :: .ref 186 :: .int 0 :: .int 0 :: .int 0 :: .int (-1) :: .ref 187 :: .ref 188 :: .ref 189 :: .int 0 :: .ref 190 :: .ref 191 :: .ref 192 :: .ref 193 :: .ref 194 :: .int 0 :: .ref 195 :: .ref 196 :: .ref 197 :: .int 0 :: .ref 198 :: .ref 199 :: .ref 200 :: .ref 201 :: .ref 202 :: .ref 203 :: .int 0 :: .ref 204 :: .ref 205 :: .ref 206 :: .ref 207 :: .ref 208 :: .ref 209 :: .ref 210 :: .ref 211 :: .ref 212 :: .ref 213 :: .ref 214 :: .int 0 :: .ref 215 :: .ref 216 :: .int 0 :: .ref 217 :: .ref 218 :: .ref 219 :: .ref 220 :: .ref 221 :: .int 0 :: .int 0 :: .int 0 :: .int 0 :: .ref 222 :: .int 0 :: [])))] mv_L_200 rfl rfl h181 (c_X9_count_666 h181) rfl dL_law_1621 (Nat.le_of_ble_eq_true rfl) (Nat.le_of_ble_eq_true rfl) rfl (Nat.le_of_ble_eq_true rfl) (Nat.le_of_ble_eq_true rfl) (Nat.le_of_ble_eq_true rfl) rfl ?_
  refine aw_icmp_eq C 1629 dL_law_1624 (by decide) (fun _ => ?_) (fun q => absurd (by decide) q)
  refine aw_fl [some (.retAddr b), none, none, none, some (.int 0), none, none, none] (by simp [SubL]) ?_
  exact al_tail C S0 (Nat.le_of_ble_eq_true rfl) (Nat.le_of_ble_eq_true rfl)

set_option maxHeartbeats 4000000 in
set_option maxRecDepth 100000 in
theorem lc_30_q {X : GX} {p : Program} {l : Launch} {e : Env} {s : State} {m : MethodId} {below : List Frame} {meth : Method} {c : Code} {b : Nat} {xs : Nat → Int32} {f : AH} {n : Nat} {a1 : Int32} {a2 : Int32} {a3 : Int32} {a4 : Int32} {a5 : Int32} (C : CC X p l room_1 s m #[Value.ref b] meth c RL cL_law 8 ret) (S0 : SC X b 6 xs s) (hl0 : l.stackTraces = false) (e1 : xs 1 = a1) (q1 : 15 ≤ a1.toInt ∧ a1.toInt ≤ 2147483647) (e2 : xs 2 = a2) (e3 : xs 3 = a3) (e4 : xs 4 = a4) (e5 : xs 5 = a5) (h0 : f 0 = some (.inr (8, [.ref 1, .ref 3, .ref 8, .ref 13, .ref 18, .ref 59, .ref 115, .ref 171, .ref 178, .int 0, .int 0, .int 0, .int 0, .int (-1)]))) (h181 : f 181 = some (.inr (9, (.int 0 :: .ref 182 :: .ref 183 :: .ref 184 :: .ref 185 :: .int 0 :: .int 0 :: .int 0 :: .ref 186 :: .int 0 :: .int 0 :: .int 0 :: .int (-1) :: .ref 187 :: .ref 188 :: .ref 189 :: .int 0 :: .ref 190 :: .ref 191 :: .ref 192 :: .ref 193 :: .ref 194 :: .int 0 :: .ref 195 :: .ref 196 :: .ref 197 :: .int 0 :: .ref 198 :: .ref 199 :: .ref 200 :: .ref 201 :: .ref 202 :: .ref 203 :: .int 0 :: .ref 204 :: .ref 205 :: .ref 206 :: .ref 207 :: .ref 208 :: .ref 209 :: .ref 210 :: .ref 211 :: .ref 212 :: .ref 213 :: .ref 214 :: .int 0 :: .ref 215 :: .ref 216 :: .int 0 :: .ref 217 :: .ref 218 :: .ref 219 :: .ref 220 :: .ref 221 :: .int 0 :: .int 0 :: .int 0 :: .int 0 :: .ref 222 :: .int 0 :: [])))) : AW X p l e room_1 s m #[Value.ref b] below meth c 8 (lw_Z below #[Value.ref b] s) f n 1000 300000 1604 [some (.retAddr b), some (.ref 0), some (.ref 181), some (.ref 223), some (.int 0), none, none, none] [] := by
  refine ao_start ?_
  obtain ⟨q1a, q1b⟩ := q1
  refine aw_ald_n C dL_law_1604 rfl ?_
  refine aw_raw_n C dL_law_1605 rfl ?_
  refine aw_iload C dL_law_1606 rfl ?_
  refine aw_iconst C 1 dL_law_1608 ki_1 ?_
  refine ae_iadd C 1 dL_law_1609 (by decide) ?_
  refine aw_sld C S0 a1 (by unfold vp_in; decide) (by decide : _ = 1) e1 dL_law_1610 ?_
  refine ao_callV C (ci := 8) (b := 0) [.int a1] [] mv_L_197 rfl rfl h0 (c_X8_count_667 ⟨by omega, by omega⟩) rfl dL_law_1611 (Nat.le_of_ble_eq_true rfl) (Nat.le_of_ble_eq_true rfl) rfl (Nat.le_of_ble_eq_true rfl) (Nat.le_of_ble_eq_true rfl) (Nat.le_of_ble_eq_true rfl) rfl ?_
  refine aw_ald_n C dL_law_1614 rfl ?_
  refine aw_raw_n C dL_law_1615 rfl ?_
  refine aw_iload C dL_law_1616 rfl ?_
  refine aw_iconst C 1 dL_law_1618 ki_1 ?_
  refine ae_iadd C 1 dL_law_1619 (by decide) ?_
  refine aw_sld C S0 a1 (by unfold vp_in; decide) (by decide : _ = 1) e1 dL_law_1620 ?_
  refine ao_callV C (ci := 9) (b := 181) [.int a1] [(181, .inr (9, (.int 0 :: .ref 182 :: .ref 183 :: .ref 184 :: .ref 185 :: .int 0 :: .int 0 :: .int 0 :: .ref 186 :: .int 0 :: .int 0 :: .int 0 :: .int (-1) :: .ref 187 :: .ref 188 :: .ref 189 :: .int 0 :: .ref 190 :: .ref 191 :: .ref 192 :: .ref 193 :: .ref 194 :: .int 0 :: .ref 195 :: .ref 196 :: .ref 197 :: .int 0 :: .ref 198 :: .ref 199 :: .ref 200 :: .ref 201 :: .ref 202 :: .ref 203 :: .int 0 :: .ref 204 :: .ref 205 :: .ref 206 :: .ref 207 :: .ref 208 :: .ref 209 :: .ref 210 :: .ref 211 :: .ref 212 :: .ref 213 :: .ref 214 :: .int 0 :: .ref 215 :: .ref 216 :: .int 0 :: .ref 217 :: .ref 218 :: .ref 219 :: .ref 220 :: .ref 221 :: .int 0 :: .int 0 :: .int 0 :: .int 0 :: .ref 222 :: .int 0 :: [])))] mv_L_200 rfl rfl h181 (c_X9_count_668 ⟨by omega, by omega⟩ h181) rfl dL_law_1621 (Nat.le_of_ble_eq_true rfl) (Nat.le_of_ble_eq_true rfl) rfl (Nat.le_of_ble_eq_true rfl) (Nat.le_of_ble_eq_true rfl) (Nat.le_of_ble_eq_true rfl) rfl ?_
  refine aw_icmp_eq C 1629 dL_law_1624 (by decide) (fun _ => ?_) (fun q => absurd (by decide) q)
  refine aw_fl [some (.retAddr b), none, none, none, some (.int 0), none, none, none] (by simp [SubL]) ?_
  exact al_tail C S0 (Nat.le_of_ble_eq_true rfl) (Nat.le_of_ble_eq_true rfl)

