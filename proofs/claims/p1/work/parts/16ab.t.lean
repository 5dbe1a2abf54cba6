set_option maxHeartbeats 4000000 in
set_option maxRecDepth 100000 in
theorem lc_6_fa {X : GX} {p : Program} {l : Launch} {e : Env} {s : State} {m : MethodId} {below : List Frame} {meth : Method} {c : Code} {b : Nat} {xs : Nat → Int32} {f : AH} {n : Nat} {a3 : Int32} {a4 : Int32} {a5 : Int32} {g74 : Nat → Option Nat} (C : CC X p l room_1 s m #[Value.ref b] meth c RL cL_law 8 ret) (S0 : SC X b 6 xs s) (hl0 : l.stackTraces = false) (e1 : xs 1 = 3) (e2 : xs 2 = 0) (e3 : xs 3 = a3) (e4 : xs 4 = a4) (e5 : xs 5 = a5) (h0 : f 0 = some (.inr (8, [.ref 1, .ref 3, .ref 8, .ref 13, .ref 18, .ref 59, .ref 115, .ref 171, .ref 178, .int 0, .int 0, .int 0, .int 0, .int (-1)]))) (h3 : f 3 = some (.inr (7, [.ref 4, .int 0, .int (-1), .int 0, .int 1, .int 0, .null, .int 0, .ref 6, .ref 7]))) (h8 : f 8 = some (.inr (7, [.ref 9, .int 0, .int (-1), .int 0, .int 1, .int 0, .null, .int 0, .ref 11, .ref 12]))) (h11 : f 11 = some (.inl (2, 4, .inr (.inr (fun _ => none))))) (h6 : f 6 = some (.inl (2, 4, .inr (.inr (fun _ => none))))) (h12 : f 12 = some (.inl (2, 40, .inr (.inr (fun _ => none))))) (h7 : f 7 = some (.inl (2, 40, .inr (.inr (fun _ => none))))) (h59 : f 59 = some (.inr (1, [.ref 60, .ref 62, .ref 74, .int 0, .ref 68, .ref 71, .ref 64, .ref 66]))) (h60 : f 60 = some (.inr (5, [.ref 61, .int 0]))) (h62 : f 62 = some (.inr (5, [.ref 63, .int 0]))) (h68 : f 68 = some (.inr (6, [.ref 69, .int 0, .int 0, .int 0, .int 0, .int 0, .int 0, .int 0, .int 0, .int 0]))) (h74 : f 74 = some (.inl (1, 40, .inr (.inr g74)))) (h4 : f 4 = some (.inr (5, [.ref 5, .int 0]))) (h171 : f 171 = some (.inr (0, [.ref 172, .ref 174, .ref 176, .int 0]))) (h172 : f 172 = some (.inr (5, [.ref 173, .int 0]))) (h18 : f 18 = some (.inl (3, 8, .inr (.inr (va_up (va_up (va_up (va_up (va_up (va_up (va_up (va_up (fun _ => none) 0 (some 19)) 1 (some 24)) 2 (some 29)) 3 (some 34)) 4 (some 39)) 5 (some 44)) 6 (some 49)) 7 (some 54)))))) (h19 : f 19 = some (.inr (7, [.ref 20, .int 0, .int (-1), .int 0, .int 1, .int 0, .null, .int 0, .ref 22, .ref 23]))) (h22 : f 22 = some (.inl (2, 4, .inr (.inr (fun _ => none))))) (h23 : f 23 = some (.inl (2, 40, .inr (.inr (fun _ => none))))) (h223 : f 223 = some (.inl (4, 1, .inr (.inl (fun _ => 0))))) (h181 : f 181 = some (.inr (9, (.int 0 :: .ref 182 :: .ref 183 :: .ref 184 :: .ref 185 :: .int 0 :: .int 0 :: .int 0 :: .ref 186 :: .int 0 :: .int 0 :: .int 0 :: .int (-1) :: .ref 187 :: .ref 188 :: .ref 189 :: .int 0 :: .ref 190 :: .ref 191 :: .ref 192 :: .ref 193 :: .ref 194 :: .int 0 :: .ref 195 :: .ref 196 :: .ref 197 :: .int 0 :: .ref 198 :: .ref 199 :: .ref 200 :: .ref 201 :: .ref 202 :: .ref 203 :: .int 0 :: .ref 204 :: .ref 205 :: .ref 206 :: .ref 207 :: .ref 208 :: .ref 209 :: .ref 210 :: .ref 211 :: .ref 212 :: .ref 213 :: .ref 214 :: .int 0 :: .ref 215 :: .ref 216 :: .int 0 :: .ref 217 :: .ref 218 :: .ref 219 :: .ref 220 :: .ref 221 :: .int 0 :: .int 0 :: .int 0 :: .int 0 :: .ref 222 :: .int 0 :: [])))) (h183 : f 183 = some (.inl (0, 4347, .inl (fun _ => 0)))) (h182 : f 182 = some (.inl (0, 4347, .inl (tl (upd (upd (fun _ => 0) 2 (-1)) 4 1) 40)))) (h185 : f 185 = some (.inl (0, 34776, .inl (fun _ => 0)))) : AW X p l e room_1 s m #[Value.ref b] below meth c 8 (lw_Z below #[Value.ref b] s) f n 1000 300000 361 [some (.retAddr b), some (.ref 0), some (.ref 181), some (.ref 223), some (.int 0), none, none, none] [] := by
  refine ao_start ?_
  refine aw_ald_n C dL_law_361 rfl ?_
  refine aw_raw_n C dL_law_362 rfl ?_
  refine aw_iload C dL_law_363 rfl ?_
  refine aw_iconst C 1 dL_law_365 ki_1 ?_
  refine ae_iadd C 1 dL_law_366 (by decide) ?_
  refine aw_sld C S0 3 (by unfold vp_in; decide) (by decide : _ = 1) e1 dL_law_367 ?_
  refine aw_raw_n C dL_law_368 rfl ?_
  refine aw_iload C dL_law_369 rfl ?_
  refine aw_iconst C 2 dL_law_371 ki_2 ?_
  refine ae_iadd C 2 dL_law_372 (by decide) ?_
  refine aw_sld C S0 0 (by unfold vp_in; decide) (by decide : _ = 2) e2 dL_law_373 ?_
  refine aw_if_eq C 381 dL_law_374 (by decide) (fun _ => ?_) (fun q => absurd (by decide) q)
  refine aw_iconst C 0 dL_law_381 ki_0 ?_
  refine aw_ald_n C dL_law_382 rfl ?_
  refine aw_callSW C [.ref 0, .int 3, .int 0, .ref 223] mw_L_112 (c_L_kind_330 h0 h3 h8 h11 h6 h12 h7 h59 h60 h62 h68 h74 h4 h171 h172 h18 h19 h22 h23 h223) rfl dL_law_383 (Nat.le_of_ble_eq_true rfl) (Nat.le_of_ble_eq_true rfl) rfl (Nat.le_of_ble_eq_true rfl) (Nat.le_of_ble_eq_true rfl) (Nat.le_of_ble_eq_true rfl) (fun v9 f9 n9 h9 => ?_)
  obtain ⟨rfl, rfl, rfl⟩ := h9
  refine ao_flat [(223, .inl (4, 1, .inr (.inl (vp_updL (fun _ => 0) 0 0)))), (8, .inr (7, [.ref 4, .int 0, .int (-1), .int 0, .int 1, .int 0, .null, .int 0, .ref 11, .ref 12])), (68, .inr (6, [.ref 4, .int 0, .int 0, .int 0, .int 0, .int 0, .int 0, .int 0, .int 3, .int 0])), (59, .inr (1, [.ref 60, .ref 62, .ref 74, .int 0, .ref 68, .ref 71, .ref 64, .ref 66])), (3, .inr (7, [.ref 4, .int 3, .int (-1), .int 0, .int 1, .int 0, .null, .int 0, .ref 6, .ref 7])), (0, .inr (8, [.ref 1, .ref 3, .ref 8, .ref 13, .ref 18, .ref 59, .ref 115, .ref 171, .ref 178, .int 0, .int 0, .int 1, .int 0, .int (-1)])), (19, .inr (7, [.ref 4, .int 0, .int (-1), .int 0, .int 1, .int 0, .null, .int 0, .ref 22, .ref 23]))] rfl ?_
  refine aw_istore C dL_law_386 (by decide) rfl ?_
  refine aw_nl [some (.retAddr b), some (.ref 0), some (.ref 181), some (.ref 223), some (.int 0), some (.int 0), none, none] rfl ?_
  refine aw_ald_n C dL_law_388 rfl ?_
  refine aw_raw_n C dL_law_389 rfl ?_
  refine aw_iload C dL_law_390 rfl ?_
  refine aw_iconst C 1 dL_law_392 ki_1 ?_
  refine ae_iadd C 1 dL_law_393 (by decide) ?_
  refine aw_sld C S0 3 (by unfold vp_in; decide) (by decide : _ = 1) e1 dL_law_394 ?_
  refine aw_raw_n C dL_law_395 rfl ?_
  refine aw_iload C dL_law_396 rfl ?_
  refine aw_iconst C 2 dL_law_398 ki_2 ?_
  refine ae_iadd C 2 dL_law_399 (by decide) ?_
  refine aw_sld C S0 0 (by unfold vp_in; decide) (by decide : _ = 2) e2 dL_law_400 ?_
  refine aw_if_eq C 408 dL_law_401 (by decide) (fun _ => ?_) (fun q => absurd (by decide) q)
  refine aw_iconst C 0 dL_law_408 ki_0 ?_
  refine ao_callV C (ci := 9) (b := 181) [.int 3, .int 0] [(223, .inl (4, 1, .inr (.inl (vp_updL (fun _ => 0) 0 0)))), (8, .inr (7, [.ref 4, .int 0, .int (-1), .int 0, .int 1, .int 0, .null, .int 0, .ref 11, .ref 12])), (68, .inr (6, [.ref 4, .int 0, .int 0, .int 0, .int 0, .int 0, .int 0, .int 0, .int 3, .int 0])), (59, .inr (1, [.ref 60, .ref 62, .ref 74, .int 0, .ref 68, .ref 71, .ref 64, .ref 66])), (3, .inr (7, [.ref 4, .int 3, .int (-1), .int 0, .int 1, .int 0, .null, .int 0, .ref 6, .ref 7])), (0, .inr (8, [.ref 1, .ref 3, .ref 8, .ref 13, .ref 18, .ref 59, .ref 115, .ref 171, .ref 178, .int 0, .int 0, .int 1, .int 0, .int (-1)])), (19, .inr (7, [.ref 4, .int 0, .int (-1), .int 0, .int 1, .int 0, .null, .int 0, .ref 22, .ref 23])), (185, .inl (0, 34776, .inl (cpy (cpy (tl (upd (upd (fun _ => 0) 2 (-1)) 4 1) 40) (fun _ => 0) 4347) (fun _ => 0) 4347))), (182, .inl (0, 4347, .inl (tl (upd (tl (upd (upd (fun _ => 0) 2 (-1)) 4 1) 40) 1 3) 40))), (183, .inl (0, 4347, .inl (cpy (tl (upd (upd (fun _ => 0) 2 (-1)) 4 1) 40) (fun _ => 0) 4347))), (181, .inr (9, (.int 0 :: .ref 182 :: .ref 183 :: .ref 184 :: .ref 185 :: .int 1 :: .int 0 :: .int 0 :: .ref 186 :: .int 0 :: .int 0 :: .int 0 :: .int (-1) :: .ref 187 :: .ref 188 :: .ref 189 :: .int 0 :: .ref 190 :: .ref 191 :: .ref 192 :: .ref 193 :: .ref 194 :: .int 0 :: .ref 195 :: .ref 196 :: .ref 197 :: .int 0 :: .ref 198 :: .ref 199 :: .ref 200 :: .ref 201 :: .ref 202 :: .ref 203 :: .int 0 :: .ref 204 :: .ref 205 :: .ref 206 :: .ref 207 :: .ref 208 :: .ref 209 :: .ref 210 :: .ref 211 :: .ref 212 :: .ref 213 :: .ref 214 :: .int 0 :: .ref 215 :: .ref 216 :: .int 0 :: .ref 217 :: .ref 218 :: .ref 219 :: .ref 220 :: .ref 221 :: .int 0 :: .int 0 :: .int 0 :: .int 0 :: .ref 222 :: .int 0 :: [])))] mv_L_115 rfl rfl h181 (c_X9_kind_339 h181 h183 h182 h185) rfl dL_law_409 (Nat.le_of_ble_eq_true rfl) (Nat.le_of_ble_eq_true rfl) rfl (Nat.le_of_ble_eq_true rfl) (Nat.le_of_ble_eq_true rfl) (Nat.le_of_ble_eq_true rfl) rfl ?_
  refine aw_istore C dL_law_412 (by decide) rfl ?_
  refine aw_nl [some (.retAddr b), some (.ref 0), some (.ref 181), some (.ref 223), some (.int 0), some (.int 0), some (.int 0), none] rfl ?_
  refine aw_ald_n C dL_law_414 rfl ?_
  refine ao_callV C (ci := 9) (b := 181) [] [(223, .inl (4, 1, .inr (.inl (vp_updL (fun _ => 0) 0 0)))), (8, .inr (7, [.ref 4, .int 0, .int (-1), .int 0, .int 1, .int 0, .null, .int 0, .ref 11, .ref 12])), (68, .inr (6, [.ref 4, .int 0, .int 0, .int 0, .int 0, .int 0, .int 0, .int 0, .int 3, .int 0])), (59, .inr (1, [.ref 60, .ref 62, .ref 74, .int 0, .ref 68, .ref 71, .ref 64, .ref 66])), (3, .inr (7, [.ref 4, .int 3, .int (-1), .int 0, .int 1, .int 0, .null, .int 0, .ref 6, .ref 7])), (0, .inr (8, [.ref 1, .ref 3, .ref 8, .ref 13, .ref 18, .ref 59, .ref 115, .ref 171, .ref 178, .int 0, .int 0, .int 1, .int 0, .int (-1)])), (19, .inr (7, [.ref 4, .int 0, .int (-1), .int 0, .int 1, .int 0, .null, .int 0, .ref 22, .ref 23])), (185, .inl (0, 34776, .inl (cpy (cpy (tl (upd (upd (fun _ => 0) 2 (-1)) 4 1) 40) (fun _ => 0) 4347) (fun _ => 0) 4347))), (182, .inl (0, 4347, .inl (tl (upd (tl (upd (upd (fun _ => 0) 2 (-1)) 4 1) 40) 1 3) 40))), (183, .inl (0, 4347, .inl (cpy (tl (upd (upd (fun _ => 0) 2 (-1)) 4 1) 40) (fun _ => 0) 4347))), (181, .inr (9, (.int 0 :: .ref 182 :: .ref 183 :: .ref 184 :: .ref 185 :: .int 1 :: .int 0 :: .int 0 :: .ref 186 :: .int 0 :: .int 0 :: .int 0 :: .int (-1) :: .ref 187 :: .ref 188 :: .ref 189 :: .int 0 :: .ref 190 :: .ref 191 :: .ref 192 :: .ref 193 :: .ref 194 :: .int 0 :: .ref 195 :: .ref 196 :: .ref 197 :: .int 0 :: .ref 198 :: .ref 199 :: .ref 200 :: .ref 201 :: .ref 202 :: .ref 203 :: .int 0 :: .ref 204 :: .ref 205 :: .ref 206 :: .ref 207 :: .ref 208 :: .ref 209 :: .ref 210 :: .ref 211 :: .ref 212 :: .ref 213 :: .ref 214 :: .int 0 :: .ref 215 :: .ref 216 :: .int 0 :: .ref 217 :: .ref 218 :: .ref 219 :: .ref 220 :: .ref 221 :: .int 0 :: .int 0 :: .int 0 :: .int 0 :: .ref 222 :: .int 0 :: [])))] mv_L_97 rfl rfl rfl (c_X9_thrown_239 rfl) rfl dL_law_415 (Nat.le_of_ble_eq_true rfl) (Nat.le_of_ble_eq_true rfl) rfl (Nat.le_of_ble_eq_true rfl) (Nat.le_of_ble_eq_true rfl) (Nat.le_of_ble_eq_true rfl) rfl ?_
  refine aw_iload C dL_law_418 rfl ?_
  refine aw_icmp_eq C 425 dL_law_420 (by decide) (fun _ => ?_) (fun q => absurd (by decide) q)
  refine aw_iload C dL_law_425 rfl ?_
  refine aw_if_ne C 442 dL_law_427 (by decide) (fun q => absurd (by decide) q) (fun _ => ?_)
  refine aw_ald_n C dL_law_430 rfl ?_
  refine aw_iconst C 0 dL_law_431 ki_0 ?_
  refine ao_lald C 0 rfl (by unfold vp_in; decide) (by decide : _ = 0) rfl dL_law_432 ?_
  refine aw_iload C dL_law_433 rfl ?_
  refine ae_i2l C 0 dL_law_435 (by decide) ?_
  refine ae_lcmp C 0 dL_law_436 (by decide) ?_
  refine aw_if_eq C 442 dL_law_437 (by decide) (fun _ => ?_) (fun q => absurd (by decide) q)
  refine aw_goto C 1629 dL_law_442 (by decide) ?_
  refine aw_fl [some (.retAddr b), none, none, none, some (.int 0), none, none, none] (by simp [SubL]) ?_
  exact al_tail C S0 (Nat.le_of_ble_eq_true rfl) (Nat.le_of_ble_eq_true rfl)

set_option maxHeartbeats 4000000 in
set_option maxRecDepth 100000 in
theorem lc_6_fb {X : GX} {p : Program} {l : Launch} {e : Env} {s : State} {m : MethodId} {below : List Frame} {meth : Method} {c : Code} {b : Nat} {xs : Nat → Int32} {f : AH} {n : Nat} {a2 : Int32} {a3 : Int32} {a4 : Int32} {a5 : Int32} {g74 : Nat → Option Nat} (C : CC X p l room_1 s m #[Value.ref b] meth c RL cL_law 8 ret) (S0 : SC X b 6 xs s) (hl0 : l.stackTraces = false) (e1 : xs 1 = 3) (e2 : xs 2 = a2) (z2 : ¬ a2 = 0) (e3 : xs 3 = a3) (e4 : xs 4 = a4) (e5 : xs 5 = a5) (h0 : f 0 = some (.inr (8, [.ref 1, .ref 3, .ref 8, .ref 13, .ref 18, .ref 59, .ref 115, .ref 171, .ref 178, .int 0, .int 0, .int 0, .int 0, .int (-1)]))) (h3 : f 3 = some (.inr (7, [.ref 4, .int 0, .int (-1), .int 0, .int 1, .int 0, .null, .int 0, .ref 6, .ref 7]))) (h8 : f 8 = some (.inr (7, [.ref 9, .int 0, .int (-1), .int 0, .int 1, .int 0, .null, .int 0, .ref 11, .ref 12]))) (h11 : f 11 = some (.inl (2, 4, .inr (.inr (fun _ => none))))) (h6 : f 6 = some (.inl (2, 4, .inr (.inr (fun _ => none))))) (h12 : f 12 = some (.inl (2, 40, .inr (.inr (fun _ => none))))) (h7 : f 7 = some (.inl (2, 40, .inr (.inr (fun _ => none))))) (h59 : f 59 = some (.inr (1, [.ref 60, .ref 62, .ref 74, .int 0, .ref 68, .ref 71, .ref 64, .ref 66]))) (h60 : f 60 = some (.inr (5, [.ref 61, .int 0]))) (h62 : f 62 = some (.inr (5, [.ref 63, .int 0]))) (h68 : f 68 = some (.inr (6, [.ref 69, .int 0, .int 0, .int 0, .int 0, .int 0, .int 0, .int 0, .int 0, .int 0]))) (h74 : f 74 = some (.inl (1, 40, .inr (.inr g74)))) (h4 : f 4 = some (.inr (5, [.ref 5, .int 0]))) (h171 : f 171 = some (.inr (0, [.ref 172, .ref 174, .ref 176, .int 0]))) (h172 : f 172 = some (.inr (5, [.ref 173, .int 0]))) (h18 : f 18 = some (.inl (3, 8, .inr (.inr (va_up (va_up (va_up (va_up (va_up (va_up (va_up (va_up (fun _ => none) 0 (some 19)) 1 (some 24)) 2 (some 29)) 3 (some 34)) 4 (some 39)) 5 (some 44)) 6 (some 49)) 7 (some 54)))))) (h19 : f 19 = some (.inr (7, [.ref 20, .int 0, .int (-1), .int 0, .int 1, .int 0, .null, .int 0, .ref 22, .ref 23]))) (h22 : f 22 = some (.inl (2, 4, .inr (.inr (fun _ => none))))) (h23 : f 23 = some (.inl (2, 40, .inr (.inr (fun _ => none))))) (h223 : f 223 = some (.inl (4, 1, .inr (.inl (fun _ => 0))))) (h181 : f 181 = some (.inr (9, (.int 0 :: .ref 182 :: .ref 183 :: .ref 184 :: .ref 185 :: .int 0 :: .int 0 :: .int 0 :: .ref 186 :: .int 0 :: .int 0 :: .int 0 :: .int (-1) :: .ref 187 :: .ref 188 :: .ref 189 :: .int 0 :: .ref 190 :: .ref 191 :: .ref 192 :: .ref 193 :: .ref 194 :: .int 0 :: .ref 195 :: .ref 196 :: .ref 197 :: .int 0 :: .ref 198 :: .ref 199 :: .ref 200 :: .ref 201 :: .ref 202 :: .ref 203 :: .int 0 :: .ref 204 :: .ref 205 :: .ref 206 :: .ref 207 :: .ref 208 :: .ref 209 :: .ref 210 :: .ref 211 :: .ref 212 :: .ref 213 :: .ref 214 :: .int 0 :: .ref 215 :: .ref 216 :: .int 0 :: .ref 217 :: .ref 218 :: .ref 219 :: .ref 220 :: .ref 221 :: .int 0 :: .int 0 :: .int 0 :: .int 0 :: .ref 222 :: .int 0 :: [])))) (h183 : f 183 = some (.inl (0, 4347, .inl (fun _ => 0)))) (h182 : f 182 = some (.inl (0, 4347, .inl (tl (upd (upd (fun _ => 0) 2 (-1)) 4 1) 40)))) (h185 : f 185 = some (.inl (0, 34776, .inl (fun _ => 0)))) : AW X p l e room_1 s m #[Value.ref b] below meth c 8 (lw_Z below #[Value.ref b] s) f n 1000 300000 361 [some (.retAddr b), some (.ref 0), some (.ref 181), some (.ref 223), some (.int 0), none, none, none] [] := by
  refine ao_start ?_
  refine aw_ald_n C dL_law_361 rfl ?_
  refine aw_raw_n C dL_law_362 rfl ?_
  refine aw_iload C dL_law_363 rfl ?_
  refine aw_iconst C 1 dL_law_365 ki_1 ?_
  refine ae_iadd C 1 dL_law_366 (by decide) ?_
  refine aw_sld C S0 3 (by unfold vp_in; decide) (by decide : _ = 1) e1 dL_law_367 ?_
  refine aw_raw_n C dL_law_368 rfl ?_
  refine aw_iload C dL_law_369 rfl ?_
  refine aw_iconst C 2 dL_law_371 ki_2 ?_
  refine ae_iadd C 2 dL_law_372 (by decide) ?_
  refine aw_sld C S0 a2 (by unfold vp_in; decide) (by decide : _ = 2) e2 dL_law_373 ?_
  refine aw_if_eq C 381 dL_law_374 (by decide) (fun q => absurd q z2) (fun _ => ?_)
  refine aw_iconst C 1 dL_law_377 ki_1 ?_
  refine aw_goto C 382 dL_law_378 (by decide) ?_
  refine aw_ald_n C dL_law_382 rfl ?_
  refine aw_callSW C [.ref 0, .int 3, .int 1, .ref 223] mw_L_112 (c_L_kind_346 h0 h3 h8 h11 h6 h12 h7 h59 h60 h62 h68 h74 h4 h171 h172 h18 h19 h22 h23 h223) rfl dL_law_383 (Nat.le_of_ble_eq_true rfl) (Nat.le_of_ble_eq_true rfl) rfl (Nat.le_of_ble_eq_true rfl) (Nat.le_of_ble_eq_true rfl) (Nat.le_of_ble_eq_true rfl) (fun v9 f9 n9 h9 => ?_)
  obtain ⟨rfl, rfl, rfl⟩ := h9
  refine ao_flat [(223, .inl (4, 1, .inr (.inl (vp_updL (fun _ => 0) 0 0)))), (8, .inr (7, [.ref 4, .int 0, .int (-1), .int 0, .int 1, .int 0, .null, .int 0, .ref 11, .ref 12])), (68, .inr (6, [.ref 4, .int 0, .int 0, .int 0, .int 0, .int 0, .int 0, .int 0, .int 0, .int 0])), (59, .inr (1, [.ref 60, .ref 62, .ref 74, .int 0, .ref 68, .ref 71, .ref 64, .ref 66])), (3, .inr (7, [.ref 4, .int 0, .int 3, .int 0, .int 1, .int 0, .null, .int 0, .ref 6, .ref 7])), (0, .inr (8, [.ref 1, .ref 3, .ref 8, .ref 13, .ref 18, .ref 59, .ref 115, .ref 171, .ref 178, .int 0, .int 0, .int 1, .int 0, .int (-1)])), (19, .inr (7, [.ref 4, .int 0, .int (-1), .int 0, .int 1, .int 0, .null, .int 0, .ref 22, .ref 23]))] rfl ?_
  refine aw_istore C dL_law_386 (by decide) rfl ?_
  refine aw_nl [some (.retAddr b), some (.ref 0), some (.ref 181), some (.ref 223), some (.int 0), some (.int 0), none, none] rfl ?_
  refine aw_ald_n C dL_law_388 rfl ?_
  refine aw_raw_n C dL_law_389 rfl ?_
  refine aw_iload C dL_law_390 rfl ?_
  refine aw_iconst C 1 dL_law_392 ki_1 ?_
  refine ae_iadd C 1 dL_law_393 (by decide) ?_
  refine aw_sld C S0 3 (by unfold vp_in; decide) (by decide : _ = 1) e1 dL_law_394 ?_
  refine aw_raw_n C dL_law_395 rfl ?_
  refine aw_iload C dL_law_396 rfl ?_
  refine aw_iconst C 2 dL_law_398 ki_2 ?_
  refine ae_iadd C 2 dL_law_399 (by decide) ?_
  refine aw_sld C S0 a2 (by unfold vp_in; decide) (by decide : _ = 2) e2 dL_law_400 ?_
  refine aw_if_eq C 408 dL_law_401 (by decide) (fun q => absurd q z2) (fun _ => ?_)
  refine aw_iconst C 1 dL_law_404 ki_1 ?_
  refine aw_goto C 409 dL_law_405 (by decide) ?_
  refine ao_callV C (ci := 9) (b := 181) [.int 3, .int 1] [(223, .inl (4, 1, .inr (.inl (vp_updL (fun _ => 0) 0 0)))), (8, .inr (7, [.ref 4, .int 0, .int (-1), .int 0, .int 1, .int 0, .null, .int 0, .ref 11, .ref 12])), (68, .inr (6, [.ref 4, .int 0, .int 0, .int 0, .int 0, .int 0, .int 0, .int 0, .int 0, .int 0])), (59, .inr (1, [.ref 60, .ref 62, .ref 74, .int 0, .ref 68, .ref 71, .ref 64, .ref 66])), (3, .inr (7, [.ref 4, .int 0, .int 3, .int 0, .int 1, .int 0, .null, .int 0, .ref 6, .ref 7])), (0, .inr (8, [.ref 1, .ref 3, .ref 8, .ref 13, .ref 18, .ref 59, .ref 115, .ref 171, .ref 178, .int 0, .int 0, .int 1, .int 0, .int (-1)])), (19, .inr (7, [.ref 4, .int 0, .int (-1), .int 0, .int 1, .int 0, .null, .int 0, .ref 22, .ref 23])), (185, .inl (0, 34776, .inl (cpy (cpy (tl (upd (upd (fun _ => 0) 2 (-1)) 4 1) 40) (fun _ => 0) 4347) (fun _ => 0) 4347))), (182, .inl (0, 4347, .inl (tl (upd (tl (upd (upd (fun _ => 0) 2 (-1)) 4 1) 40) 2 3) 40))), (183, .inl (0, 4347, .inl (cpy (tl (upd (upd (fun _ => 0) 2 (-1)) 4 1) 40) (fun _ => 0) 4347))), (181, .inr (9, (.int 0 :: .ref 182 :: .ref 183 :: .ref 184 :: .ref 185 :: .int 1 :: .int 0 :: .int 0 :: .ref 186 :: .int 0 :: .int 0 :: .int 0 :: .int (-1) :: .ref 187 :: .ref 188 :: .ref 189 :: .int 0 :: .ref 190 :: .ref 191 :: .ref 192 :: .ref 193 :: .ref 194 :: .int 0 :: .ref 195 :: .ref 196 :: .ref 197 :: .int 0 :: .ref 198 :: .ref 199 :: .ref 200 :: .ref 201 :: .ref 202 :: .ref 203 :: .int 0 :: .ref 204 :: .ref 205 :: .ref 206 :: .ref 207 :: .ref 208 :: .ref 209 :: .ref 210 :: .ref 211 :: .ref 212 :: .ref 213 :: .ref 214 :: .int 0 :: .ref 215 :: .ref 216 :: .int 0 :: .ref 217 :: .ref 218 :: .ref 219 :: .ref 220 :: .ref 221 :: .int 0 :: .int 0 :: .int 0 :: .int 0 :: .ref 222 :: .int 0 :: [])))] mv_L_115 rfl rfl h181 (c_X9_kind_352 h181 h183 h182 h185) rfl dL_law_409 (Nat.le_of_ble_eq_true rfl) (Nat.le_of_ble_eq_true rfl) rfl (Nat.le_of_ble_eq_true rfl) (Nat.le_of_ble_eq_true rfl) (Nat.le_of_ble_eq_true rfl) rfl ?_
  refine aw_istore C dL_law_412 (by decide) rfl ?_
  refine aw_nl [some (.retAddr b), some (.ref 0), some (.ref 181), some (.ref 223), some (.int 0), some (.int 0), some (.int 0), none] rfl ?_
  refine aw_ald_n C dL_law_414 rfl ?_
  refine ao_callV C (ci := 9) (b := 181) [] [(223, .inl (4, 1, .inr (.inl (vp_updL (fun _ => 0) 0 0)))), (8, .inr (7, [.ref 4, .int 0, .int (-1), .int 0, .int 1, .int 0, .null, .int 0, .ref 11, .ref 12])), (68, .inr (6, [.ref 4, .int 0, .int 0, .int 0, .int 0, .int 0, .int 0, .int 0, .int 0, .int 0])), (59, .inr (1, [.ref 60, .ref 62, .ref 74, .int 0, .ref 68, .ref 71, .ref 64, .ref 66])), (3, .inr (7, [.ref 4, .int 0, .int 3, .int 0, .int 1, .int 0, .null, .int 0, .ref 6, .ref 7])), (0, .inr (8, [.ref 1, .ref 3, .ref 8, .ref 13, .ref 18, .ref 59, .ref 115, .ref 171, .ref 178, .int 0, .int 0, .int 1, .int 0, .int (-1)])), (19, .inr (7, [.ref 4, .int 0, .int (-1), .int 0, .int 1, .int 0, .null, .int 0, .ref 22, .ref 23])), (185, .inl (0, 34776, .inl (cpy (cpy (tl (upd (upd (fun _ => 0) 2 (-1)) 4 1) 40) (fun _ => 0) 4347) (fun _ => 0) 4347))), (182, .inl (0, 4347, .inl (tl (upd (tl (upd (upd (fun _ => 0) 2 (-1)) 4 1) 40) 2 3) 40))), (183, .inl (0, 4347, .inl (cpy (tl (upd (upd (fun _ => 0) 2 (-1)) 4 1) 40) (fun _ => 0) 4347))), (181, .inr (9, (.int 0 :: .ref 182 :: .ref 183 :: .ref 184 :: .ref 185 :: .int 1 :: .int 0 :: .int 0 :: .ref 186 :: .int 0 :: .int 0 :: .int 0 :: .int (-1) :: .ref 187 :: .ref 188 :: .ref 189 :: .int 0 :: .ref 190 :: .ref 191 :: .ref 192 :: .ref 193 :: .ref 194 :: .int 0 :: .ref 195 :: .ref 196 :: .ref 197 :: .int 0 :: .ref 198 :: .ref 199 :: .ref 200 :: .ref 201 :: .ref 202 :: .ref 203 :: .int 0 :: .ref 204 :: .ref 205 :: .ref 206 :: .ref 207 :: .ref 208 :: .ref 209 :: .ref 210 :: .ref 211 :: .ref 212 :: .ref 213 :: .ref 214 :: .int 0 :: .ref 215 :: .ref 216 :: .int 0 :: .ref 217 :: .ref 218 :: .ref 219 :: .ref 220 :: .ref 221 :: .int 0 :: .int 0 :: .int 0 :: .int 0 :: .ref 222 :: .int 0 :: [])))] mv_L_97 rfl rfl rfl (c_X9_thrown_239 rfl) rfl dL_law_415 (Nat.le_of_ble_eq_true rfl) (Nat.le_of_ble_eq_true rfl) rfl (Nat.le_of_ble_eq_true rfl) (Nat.le_of_ble_eq_true rfl) (Nat.le_of_ble_eq_true rfl) rfl ?_
  refine aw_iload C dL_law_418 rfl ?_
  refine aw_icmp_eq C 425 dL_law_420 (by decide) (fun _ => ?_) (fun q => absurd (by decide) q)
  refine aw_iload C dL_law_425 rfl ?_
  refine aw_if_ne C 442 dL_law_427 (by decide) (fun q => absurd (by decide) q) (fun _ => ?_)
  refine aw_ald_n C dL_law_430 rfl ?_
  refine aw_iconst C 0 dL_law_431 ki_0 ?_
  refine ao_lald C 0 rfl (by unfold vp_in; decide) (by decide : _ = 0) rfl dL_law_432 ?_
  refine aw_iload C dL_law_433 rfl ?_
  refine ae_i2l C 0 dL_law_435 (by decide) ?_
  refine ae_lcmp C 0 dL_law_436 (by decide) ?_
  refine aw_if_eq C 442 dL_law_437 (by decide) (fun _ => ?_) (fun q => absurd (by decide) q)
  refine aw_goto C 1629 dL_law_442 (by decide) ?_
  refine aw_fl [some (.retAddr b), none, none, none, some (.int 0), none, none, none] (by simp [SubL]) ?_
  exact al_tail C S0 (Nat.le_of_ble_eq_true rfl) (Nat.le_of_ble_eq_true rfl)

set_option maxHeartbeats 4000000 in
set_option maxRecDepth 100000 in
theorem lc_6_ga {X : GX} {p : Program} {l : Launch} {e : Env} {s : State} {m : MethodId} {below : List Frame} {meth : Method} {c : Code} {b : Nat} {xs : Nat → Int32} {f : AH} {n : Nat} {a1 : Int32} {a3 : Int32} {a4 : Int32} {a5 : Int32} (C : CC X p l room_1 s m #[Value.ref b] meth c RL cL_law 8 ret) (S0 : SC X b 6 xs s) (hl0 : l.stackTraces = false) (e1 : xs 1 = a1) (q1 : 4 ≤ a1.toInt ∧ a1.toInt ≤ 2147483647) (e2 : xs 2 = 0) (e3 : xs 3 = a3) (e4 : xs 4 = a4) (e5 : xs 5 = a5) (h0 : f 0 = some (.inr (8, [.ref 1, .ref 3, .ref 8, .ref 13, .ref 18, .ref 59, .ref 115, .ref 171, .ref 178, .int 0, .int 0, .int 0, .int 0, .int (-1)]))) (h181 : f 181 = some (.inr (9, (.int 0 :: .ref 182 :: .ref 183 :: .ref 184 :: .ref 185 :: .int 0 :: .int 0 :: .int 0 :: .ref 186 :: .int 0 :: .int 0 :: .int 0 :: .int (-1) :: .ref 187 :: .ref 188 :: .ref 189 :: .int 0 :: .ref 190 :: .ref 191 :: .ref 192 :: .ref 193 :: .ref 194 :: .int 0 :: .ref 195 :: .ref 196 :: .ref 197 :: .int 0 :: .ref 198 :: .ref 199 :: .ref 200 :: .ref 201 :: .ref 202 :: .ref 203 :: .int 0 :: .ref 204 :: .ref 205 :: .ref 206 :: .ref 207 :: .ref 208 :: .ref 209 :: .ref 210 :: .ref 211 :: .ref 212 :: .ref 213 :: .ref 214 :: .int 0 :: .ref 215 :: .ref 216 :: .int 0 :: .ref 217 :: .ref 218 :: .ref 219 :: .ref 220 :: .ref 221 :: .int 0 :: .int 0 :: .int 0 :: .int 0 :: .ref 222 :: .int 0 :: [])))) : AW X p l e room_1 s m #[Value.ref b] below meth c 8 (lw_Z below #[Value.ref b] s) f n 1000 300000 361 [some (.retAddr b), some (.ref 0), some (.ref 181), some (.ref 223), some (.int 0), none, none, none] [] := by
  refine ao_start ?_
  obtain ⟨q1a, q1b⟩ := q1
  refine aw_ald_n C dL_law_361 rfl ?_
  refine aw_raw_n C dL_law_362 rfl ?_
  refine aw_iload C dL_law_363 rfl ?_
  refine aw_iconst C 1 dL_law_365 ki_1 ?_
  refine ae_iadd C 1 dL_law_366 (by decide) ?_
  refine aw_sld C S0 a1 (by unfold vp_in; decide) (by decide : _ = 1) e1 dL_law_367 ?_
  refine aw_raw_n C dL_law_368 rfl ?_
  refine aw_iload C dL_law_369 rfl ?_
  refine aw_iconst C 2 dL_law_371 ki_2 ?_
  refine ae_iadd C 2 dL_law_372 (by decide) ?_
  refine aw_sld C S0 0 (by unfold vp_in; decide) (by decide : _ = 2) e2 dL_law_373 ?_
  refine aw_if_eq C 381 dL_law_374 (by decide) (fun _ => ?_) (fun q => absurd (by decide) q)
  refine aw_iconst C 0 dL_law_381 ki_0 ?_
  refine aw_ald_n C dL_law_382 rfl ?_
  refine aw_callSW C [.ref 0, .int a1, .int 0, .ref 223] mw_L_112 (c_L_kind_354 hl0 ⟨by omega, by omega⟩ h0) rfl dL_law_383 (Nat.le_of_ble_eq_true rfl) (Nat.le_of_ble_eq_true rfl) rfl (Nat.le_of_ble_eq_true rfl) (Nat.le_of_ble_eq_true rfl) (Nat.le_of_ble_eq_true rfl) (fun v9 f9 n9 h9 => ?_)
  obtain ⟨rfl, rfl⟩ := h9
  refine ao_flat [] rfl ?_
  refine aw_istore C dL_law_386 (by decide) rfl ?_
  refine aw_nl [some (.retAddr b), some (.ref 0), some (.ref 181), some (.ref 223), some (.int 0), some (.int 1), none, none] rfl ?_
  refine aw_ald_n C dL_law_388 rfl ?_
  refine aw_raw_n C dL_law_389 rfl ?_
  refine aw_iload C dL_law_390 rfl ?_
  refine aw_iconst C 1 dL_law_392 ki_1 ?_
  refine ae_iadd C 1 dL_law_393 (by decide) ?_
  refine aw_sld C S0 a1 (by unfold vp_in; decide) (by decide : _ = 1) e1 dL_law_394 ?_
  refine aw_raw_n C dL_law_395 rfl ?_
  refine aw_iload C dL_law_396 rfl ?_
  refine aw_iconst C 2 dL_law_398 ki_2 ?_
  refine ae_iadd C 2 dL_law_399 (by decide) ?_
  refine aw_sld C S0 0 (by unfold vp_in; decide) (by decide : _ = 2) e2 dL_law_400 ?_
  refine aw_if_eq C 408 dL_law_401 (by decide) (fun _ => ?_) (fun q => absurd (by decide) q)
  refine aw_iconst C 0 dL_law_408 ki_0 ?_
  refine ao_callV C (ci := 9) (b := 181) [.int a1, .int 0] [(181, .inr (9, (.int 1 :: .ref 182 :: .ref 183 :: .ref 184 :: .ref 185 :: .int 0 :: .int 0 :: .int 0 :: .ref 186 :: .int 0 :: .int 0 :: .int 0 :: .int (-1) :: .ref 187 :: .ref 188 :: .ref 189 :: .int 0 :: .ref 190 :: .ref 191 :: .ref 192 :: .ref 193 :: .ref 194 :: .int 0 :: .ref 195 :: .ref 196 :: .ref 197 :: .int 0 :: .ref 198 :: .ref 199 :: .ref 200 :: .ref 201 :: .ref 202 :: .ref 203 :: .int 0 :: .ref 204 :: .ref 205 :: .ref 206 :: .ref 207 :: .ref 208 :: .ref 209 :: .ref 210 :: .ref 211 :: .ref 212 :: .ref 213 :: .ref 214 :: .int 0 :: .ref 215 :: .ref 216 :: .int 0 :: .ref 217 :: .ref 218 :: .ref 219 :: .ref 220 :: .ref 221 :: .int 0 :: .int 0 :: .int 0 :: .int 0 :: .ref 222 :: .int 0 :: [])))] mv_L_115 rfl rfl h181 (c_X9_kind_356 ⟨by omega, by omega⟩ h181) rfl dL_law_409 (Nat.le_of_ble_eq_true rfl) (Nat.le_of_ble_eq_true rfl) rfl (Nat.le_of_ble_eq_true rfl) (Nat.le_of_ble_eq_true rfl) (Nat.le_of_ble_eq_true rfl) rfl ?_
  refine aw_istore C dL_law_412 (by decide) rfl ?_
  refine aw_nl [some (.retAddr b), some (.ref 0), some (.ref 181), some (.ref 223), some (.int 0), some (.int 1), some (.int 0), none] rfl ?_
  refine aw_ald_n C dL_law_414 rfl ?_
  refine ao_callV C (ci := 9) (b := 181) [] [(181, .inr (9, (.int 1 :: .ref 182 :: .ref 183 :: .ref 184 :: .ref 185 :: .int 0 :: .int 0 :: .int 0 :: .ref 186 :: .int 0 :: .int 0 :: .int 0 :: .int (-1) :: .ref 187 :: .ref 188 :: .ref 189 :: .int 0 :: .ref 190 :: .ref 191 :: .ref 192 :: .ref 193 :: .ref 194 :: .int 0 :: .ref 195 :: .ref 196 :: .ref 197 :: .int 0 :: .ref 198 :: .ref 199 :: .ref 200 :: .ref 201 :: .ref 202 :: .ref 203 :: .int 0 :: .ref 204 :: .ref 205 :: .ref 206 :: .ref 207 :: .ref 208 :: .ref 209 :: .ref 210 :: .ref 211 :: .ref 212 :: .ref 213 :: .ref 214 :: .int 0 :: .ref 215 :: .ref 216 :: .int 0 :: .ref 217 :: .ref 218 :: .ref 219 :: .ref 220 :: .ref 221 :: .int 0 :: .int 0 :: .int 0 :: .int 0 :: .ref 222 :: .int 0 :: [])))] mv_L_97 rfl rfl rfl (c_X9_thrown_208 rfl) rfl dL_law_415 (Nat.le_of_ble_eq_true rfl) (Nat.le_of_ble_eq_true rfl) rfl (Nat.le_of_ble_eq_true rfl) (Nat.le_of_ble_eq_true rfl) (Nat.le_of_ble_eq_true rfl) rfl ?_
  refine aw_iload C dL_law_418 rfl ?_
  refine aw_icmp_eq C 425 dL_law_420 (by decide) (fun _ => ?_) (fun q => absurd (by decide) q)
  refine aw_iload C dL_law_425 rfl ?_
  refine aw_if_ne C 442 dL_law_427 (by decide) (fun _ => ?_) (fun q => absurd q (by decide))
  refine aw_goto C 1629 dL_law_442 (by decide) ?_
  refine aw_fl [some (.retAddr b), none, none, none, some (.int 0), none, none, none] (by simp [SubL]) ?_
  exact al_tail C S0 (Nat.le_of_ble_eq_true rfl) (Nat.le_of_ble_eq_true rfl)

set_option maxHeartbeats 4000000 in
set_option maxRecDepth 100000 in
theorem lc_6_gb {X : GX} {p : Program} {l : Launch} {e : Env} {s : State} {m : MethodId} {below : List Frame} {meth : Method} {c : Code} {b : Nat} {xs : Nat → Int32} {f : AH} {n : Nat} {a1 : Int32} {a2 : Int32} {a3 : Int32} {a4 : Int32} {a5 : Int32} (C : CC X p l room_1 s m #[Value.ref b] meth c RL cL_law 8 ret) (S0 : SC X b 6 xs s) (hl0 : l.stackTraces = false) (e1 : xs 1 = a1) (q1 : 4 ≤ a1.toInt ∧ a1.toInt ≤ 2147483647) (e2 : xs 2 = a2) (z2 : ¬ a2 = 0) (e3 : xs 3 = a3) (e4 : xs 4 = a4) (e5 : xs 5 = a5) (h0 : f 0 = some (.inr (8, [.ref 1, .ref 3, .ref 8, .ref 13, .ref 18, .ref 59, .ref 115, .ref 171, .ref 178, .int 0, .int 0, .int 0, .int 0, .int (-1)]))) (h181 : f 181 = some (.inr (9, (.int 0 :: .ref 182 :: .ref 183 :: .ref 184 :: .ref 185 :: .int 0 :: .int 0 :: .int 0 :: .ref 186 :: .int 0 :: .int 0 :: .int 0 :: .int (-1) :: .ref 187 :: .ref 188 :: .ref 189 :: .int 0 :: .ref 190 :: .ref 191 :: .ref 192 :: .ref 193 :: .ref 194 :: .int 0 :: .ref 195 :: .ref 196 :: .ref 197 :: .int 0 :: .ref 198 :: .ref 199 :: .ref 200 :: .ref 201 :: .ref 202 :: .ref 203 :: .int 0 :: .ref 204 :: .ref 205 :: .ref 206 :: .ref 207 :: .ref 208 :: .ref 209 :: .ref 210 :: .ref 211 :: .ref 212 :: .ref 213 :: .ref 214 :: .int 0 :: .ref 215 :: .ref 216 :: .int 0 :: .ref 217 :: .ref 218 :: .ref 219 :: .ref 220 :: .ref 221 :: .int 0 :: .int 0 :: .int 0 :: .int 0 :: .ref 222 :: .int 0 :: [])))) : AW X p l e room_1 s m #[Value.ref b] below meth c 8 (lw_Z below #[Value.ref b] s) f n 1000 300000 361 [some (.retAddr b), some (.ref 0), some (.ref 181), some (.ref 223), some (.int 0), none, none, none] [] := by
  refine ao_start ?_
  obtain ⟨q1a, q1b⟩ := q1
  refine aw_ald_n C dL_law_361 rfl ?_
  refine aw_raw_n C dL_law_362 rfl ?_
  refine aw_iload C dL_law_363 rfl ?_
  refine aw_iconst C 1 dL_law_365 ki_1 ?_
  refine ae_iadd C 1 dL_law_366 (by decide) ?_
  refine aw_sld C S0 a1 (by unfold vp_in; decide) (by decide : _ = 1) e1 dL_law_367 ?_
  refine aw_raw_n C dL_law_368 rfl ?_
  refine aw_iload C dL_law_369 rfl ?_
  refine aw_iconst C 2 dL_law_371 ki_2 ?_
  refine ae_iadd C 2 dL_law_372 (by decide) ?_
  refine aw_sld C S0 a2 (by unfold vp_in; decide) (by decide : _ = 2) e2 dL_law_373 ?_
  refine aw_if_eq C 381 dL_law_374 (by decide) (fun q => absurd q z2) (fun _ => ?_)
  refine aw_iconst C 1 dL_law_377 ki_1 ?_
  refine aw_goto C 382 dL_law_378 (by decide) ?_
  refine aw_ald_n C dL_law_382 rfl ?_
  refine aw_callSW C [.ref 0, .int a1, .int 1, .ref 223] mw_L_112 (c_L_kind_358 hl0 ⟨by omega, by omega⟩ h0) rfl dL_law_383 (Nat.le_of_ble_eq_true rfl) (Nat.le_of_ble_eq_true rfl) rfl (Nat.le_of_ble_eq_true rfl) (Nat.le_of_ble_eq_true rfl) (Nat.le_of_ble_eq_true rfl) (fun v9 f9 n9 h9 => ?_)
  obtain ⟨rfl, rfl⟩ := h9
  refine ao_flat [] rfl ?_
  refine aw_istore C dL_law_386 (by decide) rfl ?_
  refine aw_nl [some (.retAddr b), some (.ref 0), some (.ref 181), some (.ref 223), some (.int 0), some (.int 1), none, none] rfl ?_
  refine aw_ald_n C dL_law_388 rfl ?_
  refine aw_raw_n C dL_law_389 rfl ?_
  refine aw_iload C dL_law_390 rfl ?_
  refine aw_iconst C 1 dL_law_392 ki_1 ?_
  refine ae_iadd C 1 dL_law_393 (by decide) ?_
  refine aw_sld C S0 a1 (by unfold vp_in; decide) (by decide : _ = 1) e1 dL_law_394 ?_
  refine aw_raw_n C dL_law_395 rfl ?_
  refine aw_iload C dL_law_396 rfl ?_
  refine aw_iconst C 2 dL_law_398 ki_2 ?_
  refine ae_iadd C 2 dL_law_399 (by decide) ?_
  refine aw_sld C S0 a2 (by unfold vp_in; decide) (by decide : _ = 2) e2 dL_law_400 ?_
  refine aw_if_eq C 408 dL_law_401 (by decide) (fun q => absurd q z2) (fun _ => ?_)
  refine aw_iconst C 1 dL_law_404 ki_1 ?_
  refine aw_goto C 409 dL_law_405 (by decide) ?_
  refine ao_callV C (ci := 9) (b := 181) [.int a1, .int 1] [(181, .inr (9, (.int 1 :: .ref 182 :: .ref 183 :: .ref 184 :: .ref 185 :: .int 0 :: .int 0 :: .int 0 :: .ref 186 :: .int 0 :: .int 0 :: .int 0 :: .int (-1) :: .ref 187 :: .ref 188 :: .ref 189 :: .int 0 :: .ref 190 :: .ref 191 :: .ref 192 :: .ref 193 :: .ref 194 :: .int 0 :: .ref 195 :: .ref 196 :: .ref 197 :: .int 0 :: .ref 198 :: .ref 199 :: .ref 200 :: .ref 201 :: .ref 202 :: .ref 203 :: .int 0 :: .ref 204 :: .ref 205 :: .ref 206 :: .ref 207 :: .ref 208 :: .ref 209 :: .ref 210 :: .ref 211 :: .ref 212 :: .ref 213 :: .ref 214 :: .int 0 :: .ref 215 :: .ref 216 :: .int 0 :: .ref 217 :: .ref 218 :: .ref 219 :: .ref 220 :: .ref 221 :: .int 0 :: .int 0 :: .int 0 :: .int 0 :: .ref 222 :: .int 0 :: [])))] mv_L_115 rfl rfl h181 (c_X9_kind_360 ⟨by omega, by omega⟩ h181) rfl dL_law_409 (Nat.le_of_ble_eq_true rfl) (Nat.le_of_ble_eq_true rfl) rfl (Nat.le_of_ble_eq_true rfl) (Nat.le_of_ble_eq_true rfl) (Nat.le_of_ble_eq_true rfl) rfl ?_
  refine aw_istore C dL_law_412 (by decide) rfl ?_
  refine aw_nl [some (.retAddr b), some (.ref 0), some (.ref 181), some (.ref 223), some (.int 0), some (.int 1), some (.int 0), none] rfl ?_
  refine aw_ald_n C dL_law_414 rfl ?_
  refine ao_callV C (ci := 9) (b := 181) [] [(181, .inr (9, (.int 1 :: .ref 182 :: .ref 183 :: .ref 184 :: .ref 185 :: .int 0 :: .int 0 :: .int 0 :: .ref 186 :: .int 0 :: .int 0 :: .int 0 :: .int (-1) :: .ref 187 :: .ref 188 :: .ref 189 :: .int 0 :: .ref 190 :: .ref 191 :: .ref 192 :: .ref 193 :: .ref 194 :: .int 0 :: .ref 195 :: .ref 196 :: .ref 197 :: .int 0 :: .ref 198 :: .ref 199 :: .ref 200 :: .ref 201 :: .ref 202 :: .ref 203 :: .int 0 :: .ref 204 :: .ref 205 :: .ref 206 :: .ref 207 :: .ref 208 :: .ref 209 :: .ref 210 :: .ref 211 :: .ref 212 :: .ref 213 :: .ref 214 :: .int 0 :: .ref 215 :: .ref 216 :: .int 0 :: .ref 217 :: .ref 218 :: .ref 219 :: .ref 220 :: .ref 221 :: .int 0 :: .int 0 :: .int 0 :: .int 0 :: .ref 222 :: .int 0 :: [])))] mv_L_97 rfl rfl rfl (c_X9_thrown_208 rfl) rfl dL_law_415 (Nat.le_of_ble_eq_true rfl) (Nat.le_of_ble_eq_true rfl) rfl (Nat.le_of_ble_eq_true rfl) (Nat.le_of_ble_eq_true rfl) (Nat.le_of_ble_eq_true rfl) rfl ?_
  refine aw_iload C dL_law_418 rfl ?_
  refine aw_icmp_eq C 425 dL_law_420 (by decide) (fun _ => ?_) (fun q => absurd (by decide) q)
  refine aw_iload C dL_law_425 rfl ?_
  refine aw_if_ne C 442 dL_law_427 (by decide) (fun _ => ?_) (fun q => absurd q (by decide))
  refine aw_goto C 1629 dL_law_442 (by decide) ?_
  refine aw_fl [some (.retAddr b), none, none, none, some (.int 0), none, none, none] (by simp [SubL]) ?_
  exact al_tail C S0 (Nat.le_of_ble_eq_true rfl) (Nat.le_of_ble_eq_true rfl)

set_option maxHeartbeats 4000000 in
set_option maxRecDepth 100000 in
theorem lc_7_a {X : GX} {p : Program} {l : Launch} {e : Env} {s : State} {m : MethodId} {below : List Frame} {meth : Method} {c : Code} {b : Nat} {xs : Nat → Int32} {f : AH} {n : Nat} {a1 : Int32} {a2 : Int32} {a3 : Int32} {a4 : Int32} {a5 : Int32} (C : CC X p l room_1 s m #[Value.ref b] meth c RL cL_law 8 ret) (S0 : SC X b 6 xs s) (hl0 : l.stackTraces = false) (e1 : xs 1 = a1) (q1 : (-2147483648) ≤ a1.toInt ∧ a1.toInt ≤ (-1)) (e2 : xs 2 = a2) (e3 : xs 3 = a3) (e4 : xs 4 = a4) (e5 : xs 5 = a5) (h0 : f 0 = some (.inr (8, [.ref 1, .ref 3, .ref 8, .ref 13, .ref 18, .ref 59, .ref 115, .ref 171, .ref 178, .int 0, .int 0, .int 0, .int 0, .int (-1)]))) (h181 : f 181 = some (.inr (9, (.int 0 :: .ref 182 :: .ref 183 :: .ref 184 :: .ref 185 :: .int 0 :: .int 0 :: .int 0 :: .ref 186 :: .int 0 :: .int 0 :: .int 0 :: .int (-1) :: .ref 187 :: .ref 188 :: .ref 189 :: .int 0 :: .ref 190 :: .ref 191 :: .ref 192 :: .ref 193 :: .ref 194 :: .int 0 :: .ref 195 :: .ref 196 :: .ref 197 :: .int 0 :: .ref 198 :: .ref 199 :: .ref 200 :: .ref 201 :: .ref 202 :: .ref 203 :: .int 0 :: .ref 204 :: .ref 205 :: .ref 206 :: .ref 207 :: .ref 208 :: .ref 209 :: .ref 210 :: .ref 211 :: .ref 212 :: .ref 213 :: .ref 214 :: .int 0 :: .ref 215 :: .ref 216 :: .int 0 :: .ref 217 :: .ref 218 :: .ref 219 :: .ref 220 :: .ref 221 :: .int 0 :: .int 0 :: .int 0 :: .int 0 :: .ref 222 :: .int 0 :: [])))) : AW X p l e room_1 s m #[Value.ref b] below meth c 8 (lw_Z below #[Value.ref b] s) f n 1000 300000 445 [some (.retAddr b), some (.ref 0), some (.ref 181), some (.ref 223), some (.int 0), none, none, none] [] := by
  refine ao_start ?_
  obtain ⟨q1a, q1b⟩ := q1
  refine aw_ald_n C dL_law_445 rfl ?_
  refine aw_raw_n C dL_law_446 rfl ?_
  refine aw_iload C dL_law_447 rfl ?_
  refine aw_iconst C 1 dL_law_449 ki_1 ?_
  refine ae_iadd C 1 dL_law_450 (by decide) ?_
  refine aw_sld C S0 a1 (by unfold vp_in; decide) (by decide : _ = 1) e1 dL_law_451 ?_
  refine aw_raw_n C dL_law_452 rfl ?_
  refine aw_iload C dL_law_453 rfl ?_
  refine aw_iconst C 2 dL_law_455 ki_2 ?_
  refine ae_iadd C 2 dL_law_456 (by decide) ?_
  refine aw_sld C S0 a2 (by unfold vp_in; decide) (by decide : _ = 2) e2 dL_law_457 ?_
  refine aw_ald_n C dL_law_458 rfl ?_
  refine aw_callSW C [.ref 0, .int a1, .int a2, .ref 223] mw_L_116 (c_L_rule_362 hl0 ⟨by omega, by omega⟩ h0) rfl dL_law_459 (Nat.le_of_ble_eq_true rfl) (Nat.le_of_ble_eq_true rfl) rfl (Nat.le_of_ble_eq_true rfl) (Nat.le_of_ble_eq_true rfl) (Nat.le_of_ble_eq_true rfl) (fun v9 f9 n9 h9 => ?_)
  obtain ⟨rfl, rfl⟩ := h9
  refine ao_flat [] rfl ?_
  refine aw_istore C dL_law_462 (by decide) rfl ?_
  refine aw_nl [some (.retAddr b), some (.ref 0), some (.ref 181), some (.ref 223), some (.int 0), some (.int 1), none, none] rfl ?_
  refine aw_ald_n C dL_law_464 rfl ?_
  refine aw_raw_n C dL_law_465 rfl ?_
  refine aw_iload C dL_law_466 rfl ?_
  refine aw_iconst C 1 dL_law_468 ki_1 ?_
  refine ae_iadd C 1 dL_law_469 (by decide) ?_
  refine aw_sld C S0 a1 (by unfold vp_in; decide) (by decide : _ = 1) e1 dL_law_470 ?_
  refine aw_raw_n C dL_law_471 rfl ?_
  refine aw_iload C dL_law_472 rfl ?_
  refine aw_iconst C 2 dL_law_474 ki_2 ?_
  refine ae_iadd C 2 dL_law_475 (by decide) ?_
  refine aw_sld C S0 a2 (by unfold vp_in; decide) (by decide : _ = 2) e2 dL_law_476 ?_
  refine ao_callV C (ci := 9) (b := 181) [.int a1, .int a2] [(181, .inr (9, (.int 1 :: .ref 182 :: .ref 183 :: .ref 184 :: .ref 185 :: .int 0 :: .int 0 :: .int 0 :: .ref 186 :: .int 0 :: .int 0 :: .int 0 :: .int (-1) :: .ref 187 :: .ref 188 :: .ref 189 :: .int 0 :: .ref 190 :: .ref 191 :: .ref 192 :: .ref 193 :: .ref 194 :: .int 0 :: .ref 195 :: .ref 196 :: .ref 197 :: .int 0 :: .ref 198 :: .ref 199 :: .ref 200 :: .ref 201 :: .ref 202 :: .ref 203 :: .int 0 :: .ref 204 :: .ref 205 :: .ref 206 :: .ref 207 :: .ref 208 :: .ref 209 :: .ref 210 :: .ref 211 :: .ref 212 :: .ref 213 :: .ref 214 :: .int 0 :: .ref 215 :: .ref 216 :: .int 0 :: .ref 217 :: .ref 218 :: .ref 219 :: .ref 220 :: .ref 221 :: .int 0 :: .int 0 :: .int 0 :: .int 0 :: .ref 222 :: .int 0 :: [])))] mv_L_119 rfl rfl h181 (c_X9_rule_364 ⟨by omega, by omega⟩ h181) rfl dL_law_477 (Nat.le_of_ble_eq_true rfl) (Nat.le_of_ble_eq_true rfl) rfl (Nat.le_of_ble_eq_true rfl) (Nat.le_of_ble_eq_true rfl) (Nat.le_of_ble_eq_true rfl) rfl ?_
  refine aw_istore C dL_law_480 (by decide) rfl ?_
  refine aw_nl [some (.retAddr b), some (.ref 0), some (.ref 181), some (.ref 223), some (.int 0), some (.int 1), some (.int 0), none] rfl ?_
  refine aw_ald_n C dL_law_482 rfl ?_
  refine ao_callV C (ci := 9) (b := 181) [] [(181, .inr (9, (.int 1 :: .ref 182 :: .ref 183 :: .ref 184 :: .ref 185 :: .int 0 :: .int 0 :: .int 0 :: .ref 186 :: .int 0 :: .int 0 :: .int 0 :: .int (-1) :: .ref 187 :: .ref 188 :: .ref 189 :: .int 0 :: .ref 190 :: .ref 191 :: .ref 192 :: .ref 193 :: .ref 194 :: .int 0 :: .ref 195 :: .ref 196 :: .ref 197 :: .int 0 :: .ref 198 :: .ref 199 :: .ref 200 :: .ref 201 :: .ref 202 :: .ref 203 :: .int 0 :: .ref 204 :: .ref 205 :: .ref 206 :: .ref 207 :: .ref 208 :: .ref 209 :: .ref 210 :: .ref 211 :: .ref 212 :: .ref 213 :: .ref 214 :: .int 0 :: .ref 215 :: .ref 216 :: .int 0 :: .ref 217 :: .ref 218 :: .ref 219 :: .ref 220 :: .ref 221 :: .int 0 :: .int 0 :: .int 0 :: .int 0 :: .ref 222 :: .int 0 :: [])))] mv_L_97 rfl rfl rfl (c_X9_thrown_208 rfl) rfl dL_law_483 (Nat.le_of_ble_eq_true rfl) (Nat.le_of_ble_eq_true rfl) rfl (Nat.le_of_ble_eq_true rfl) (Nat.le_of_ble_eq_true rfl) (Nat.le_of_ble_eq_true rfl) rfl ?_
  refine aw_iload C dL_law_486 rfl ?_
  refine aw_icmp_eq C 493 dL_law_488 (by decide) (fun _ => ?_) (fun q => absurd (by decide) q)
  refine aw_iload C dL_law_493 rfl ?_
  refine aw_if_ne C 510 dL_law_495 (by decide) (fun _ => ?_) (fun q => absurd q (by decide))
  refine aw_goto C 1629 dL_law_510 (by decide) ?_
  refine aw_fl [some (.retAddr b), none, none, none, some (.int 0), none, none, none] (by simp [SubL]) ?_
  exact al_tail C S0 (Nat.le_of_ble_eq_true rfl) (Nat.le_of_ble_eq_true rfl)

set_option maxHeartbeats 4000000 in
set_option maxRecDepth 100000 in
theorem lc_7_ba {X : GX} {p : Program} {l : Launch} {e : Env} {s : State} {m : MethodId} {below : List Frame} {meth : Method} {c : Code} {b : Nat} {xs : Nat → Int32} {f : AH} {n : Nat} {a2 : Int32} {a3 : Int32} {a4 : Int32} {a5 : Int32} (C : CC X p l room_1 s m #[Value.ref b] meth c RL cL_law 8 ret) (S0 : SC X b 6 xs s) (hl0 : l.stackTraces = false) (e1 : xs 1 = 0) (e2 : xs 2 = a2) (q2 : (-2147483648) ≤ a2.toInt ∧ a2.toInt ≤ (-1)) (e3 : xs 3 = a3) (e4 : xs 4 = a4) (e5 : xs 5 = a5) (h0 : f 0 = some (.inr (8, [.ref 1, .ref 3, .ref 8, .ref 13, .ref 18, .ref 59, .ref 115, .ref 171, .ref 178, .int 0, .int 0, .int 0, .int 0, .int (-1)]))) (h181 : f 181 = some (.inr (9, (.int 0 :: .ref 182 :: .ref 183 :: .ref 184 :: .ref 185 :: .int 0 :: .int 0 :: .int 0 :: .ref 186 :: .int 0 :: .int 0 :: .int 0 :: .int (-1) :: .ref 187 :: .ref 188 :: .ref 189 :: .int 0 :: .ref 190 :: .ref 191 :: .ref 192 :: .ref 193 :: .ref 194 :: .int 0 :: .ref 195 :: .ref 196 :: .ref 197 :: .int 0 :: .ref 198 :: .ref 199 :: .ref 200 :: .ref 201 :: .ref 202 :: .ref 203 :: .int 0 :: .ref 204 :: .ref 205 :: .ref 206 :: .ref 207 :: .ref 208 :: .ref 209 :: .ref 210 :: .ref 211 :: .ref 212 :: .ref 213 :: .ref 214 :: .int 0 :: .ref 215 :: .ref 216 :: .int 0 :: .ref 217 :: .ref 218 :: .ref 219 :: .ref 220 :: .ref 221 :: .int 0 :: .int 0 :: .int 0 :: .int 0 :: .ref 222 :: .int 0 :: [])))) : AW X p l e room_1 s m #[Value.ref b] below meth c 8 (lw_Z below #[Value.ref b] s) f n 1000 300000 445 [some (.retAddr b), some (.ref 0), some (.ref 181), some (.ref 223), some (.int 0), none, none, none] [] := by
  refine ao_start ?_
  obtain ⟨q2a, q2b⟩ := q2
  refine aw_ald_n C dL_law_445 rfl ?_
  refine aw_raw_n C dL_law_446 rfl ?_
  refine aw_iload C dL_law_447 rfl ?_
  refine aw_iconst C 1 dL_law_449 ki_1 ?_
  refine ae_iadd C 1 dL_law_450 (by decide) ?_
  refine aw_sld C S0 0 (by unfold vp_in; decide) (by decide : _ = 1) e1 dL_law_451 ?_
  refine aw_raw_n C dL_law_452 rfl ?_
  refine aw_iload C dL_law_453 rfl ?_
  refine aw_iconst C 2 dL_law_455 ki_2 ?_
  refine ae_iadd C 2 dL_law_456 (by decide) ?_
  refine aw_sld C S0 a2 (by unfold vp_in; decide) (by decide : _ = 2) e2 dL_law_457 ?_
  refine aw_ald_n C dL_law_458 rfl ?_
  refine aw_callSW C [.ref 0, .int 0, .int a2, .ref 223] mw_L_116 (c_L_rule_366 hl0 ⟨by omega, by omega⟩ h0) rfl dL_law_459 (Nat.le_of_ble_eq_true rfl) (Nat.le_of_ble_eq_true rfl) rfl (Nat.le_of_ble_eq_true rfl) (Nat.le_of_ble_eq_true rfl) (Nat.le_of_ble_eq_true rfl) (fun v9 f9 n9 h9 => ?_)
  obtain ⟨rfl, rfl⟩ := h9
  refine ao_flat [] rfl ?_
  refine aw_istore C dL_law_462 (by decide) rfl ?_
  refine aw_nl [some (.retAddr b), some (.ref 0), some (.ref 181), some (.ref 223), some (.int 0), some (.int 2), none, none] rfl ?_
  refine aw_ald_n C dL_law_464 rfl ?_
  refine aw_raw_n C dL_law_465 rfl ?_
  refine aw_iload C dL_law_466 rfl ?_
  refine aw_iconst C 1 dL_law_468 ki_1 ?_
  refine ae_iadd C 1 dL_law_469 (by decide) ?_
  refine aw_sld C S0 0 (by unfold vp_in; decide) (by decide : _ = 1) e1 dL_law_470 ?_
  refine aw_raw_n C dL_law_471 rfl ?_
  refine aw_iload C dL_law_472 rfl ?_
  refine aw_iconst C 2 dL_law_474 ki_2 ?_
  refine ae_iadd C 2 dL_law_475 (by decide) ?_
  refine aw_sld C S0 a2 (by unfold vp_in; decide) (by decide : _ = 2) e2 dL_law_476 ?_
  refine ao_callV C (ci := 9) (b := 181) [.int 0, .int a2] [(181, .inr (9, (.int 2 :: .ref 182 :: .ref 183 :: .ref 184 :: .ref 185 :: .int 0 :: .int 0 :: .int 0 :: .ref 186 :: .int 0 :: .int 0 :: .int 0 :: .int (-1) :: .ref 187 :: .ref 188 :: .ref 189 :: .int 0 :: .ref 190 :: .ref 191 :: .ref 192 :: .ref 193 :: .ref 194 :: .int 0 :: .ref 195 :: .ref 196 :: .ref 197 :: .int 0 :: .ref 198 :: .ref 199 :: .ref 200 :: .ref 201 :: .ref 202 :: .ref 203 :: .int 0 :: .ref 204 :: .ref 205 :: .ref 206 :: .ref 207 :: .ref 208 :: .ref 209 :: .ref 210 :: .ref 211 :: .ref 212 :: .ref 213 :: .ref 214 :: .int 0 :: .ref 215 :: .ref 216 :: .int 0 :: .ref 217 :: .ref 218 :: .ref 219 :: .ref 220 :: .ref 221 :: .int 0 :: .int 0 :: .int 0 :: .int 0 :: .ref 222 :: .int 0 :: [])))] mv_L_119 rfl rfl h181 (c_X9_rule_368 ⟨by omega, by omega⟩ h181) rfl dL_law_477 (Nat.le_of_ble_eq_true rfl) (Nat.le_of_ble_eq_true rfl) rfl (Nat.le_of_ble_eq_true rfl) (Nat.le_of_ble_eq_true rfl) (Nat.le_of_ble_eq_true rfl) rfl ?_
  refine aw_istore C dL_law_480 (by decide) rfl ?_
  refine aw_nl [some (.retAddr b), some (.ref 0), some (.ref 181), some (.ref 223), some (.int 0), some (.int 2), some (.int 0), none] rfl ?_
  refine aw_ald_n C dL_law_482 rfl ?_
  refine ao_callV C (ci := 9) (b := 181) [] [(181, .inr (9, (.int 2 :: .ref 182 :: .ref 183 :: .ref 184 :: .ref 185 :: .int 0 :: .int 0 :: .int 0 :: .ref 186 :: .int 0 :: .int 0 :: .int 0 :: .int (-1) :: .ref 187 :: .ref 188 :: .ref 189 :: .int 0 :: .ref 190 :: .ref 191 :: .ref 192 :: .ref 193 :: .ref 194 :: .int 0 :: .ref 195 :: .ref 196 :: .ref 197 :: .int 0 :: .ref 198 :: .ref 199 :: .ref 200 :: .ref 201 :: .ref 202 :: .ref 203 :: .int 0 :: .ref 204 :: .ref 205 :: .ref 206 :: .ref 207 :: .ref 208 :: .ref 209 :: .ref 210 :: .ref 211 :: .ref 212 :: .ref 213 :: .ref 214 :: .int 0 :: .ref 215 :: .ref 216 :: .int 0 :: .ref 217 :: .ref 218 :: .ref 219 :: .ref 220 :: .ref 221 :: .int 0 :: .int 0 :: .int 0 :: .int 0 :: .ref 222 :: .int 0 :: [])))] mv_L_97 rfl rfl rfl (c_X9_thrown_369 rfl) rfl dL_law_483 (Nat.le_of_ble_eq_true rfl) (Nat.le_of_ble_eq_true rfl) rfl (Nat.le_of_ble_eq_true rfl) (Nat.le_of_ble_eq_true rfl) (Nat.le_of_ble_eq_true rfl) rfl ?_
  refine aw_iload C dL_law_486 rfl ?_
  refine aw_icmp_eq C 493 dL_law_488 (by decide) (fun _ => ?_) (fun q => absurd (by decide) q)
  refine aw_iload C dL_law_493 rfl ?_
  refine aw_if_ne C 510 dL_law_495 (by decide) (fun _ => ?_) (fun q => absurd q (by decide))
  refine aw_goto C 1629 dL_law_510 (by decide) ?_
  refine aw_fl [some (.retAddr b), none, none, none, some (.int 0), none, none, none] (by simp [SubL]) ?_
  exact al_tail C S0 (Nat.le_of_ble_eq_true rfl) (Nat.le_of_ble_eq_true rfl)

set_option maxHeartbeats 4000000 in
set_option maxRecDepth 100000 in
theorem lc_7_bb {X : GX} {p : Program} {l : Launch} {e : Env} {s : State} {m : MethodId} {below : List Frame} {meth : Method} {c : Code} {b : Nat} {xs : Nat → Int32} {f : AH} {n : Nat} {a3 : Int32} {a4 : Int32} {a5 : Int32} {g74 : Nat → Option Nat} (C : CC X p l room_1 s m #[Value.ref b] meth c RL cL_law 8 ret) (S0 : SC X b 6 xs s) (hl0 : l.stackTraces = false) (e1 : xs 1 = 0) (e2 : xs 2 = 0) (e3 : xs 3 = a3) (e4 : xs 4 = a4) (e5 : xs 5 = a5) (h0 : f 0 = some (.inr (8, [.ref 1, .ref 3, .ref 8, .ref 13, .ref 18, .ref 59, .ref 115, .ref 171, .ref 178, .int 0, .int 0, .int 0, .int 0, .int (-1)]))) (h3 : f 3 = some (.inr (7, [.ref 4, .int 0, .int (-1), .int 0, .int 1, .int 0, .null, .int 0, .ref 6, .ref 7]))) (h8 : f 8 = some (.inr (7, [.ref 9, .int 0, .int (-1), .int 0, .int 1, .int 0, .null, .int 0, .ref 11, .ref 12]))) (h11 : f 11 = some (.inl (2, 4, .inr (.inr (fun _ => none))))) (h6 : f 6 = some (.inl (2, 4, .inr (.inr (fun _ => none))))) (h12 : f 12 = some (.inl (2, 40, .inr (.inr (fun _ => none))))) (h7 : f 7 = some (.inl (2, 40, .inr (.inr (fun _ => none))))) (h59 : f 59 = some (.inr (1, [.ref 60, .ref 62, .ref 74, .int 0, .ref 68, .ref 71, .ref 64, .ref 66]))) (h60 : f 60 = some (.inr (5, [.ref 61, .int 0]))) (h62 : f 62 = some (.inr (5, [.ref 63, .int 0]))) (h68 : f 68 = some (.inr (6, [.ref 69, .int 0, .int 0, .int 0, .int 0, .int 0, .int 0, .int 0, .int 0, .int 0]))) (h74 : f 74 = some (.inl (1, 40, .inr (.inr g74)))) (h4 : f 4 = some (.inr (5, [.ref 5, .int 0]))) (h171 : f 171 = some (.inr (0, [.ref 172, .ref 174, .ref 176, .int 0]))) (h172 : f 172 = some (.inr (5, [.ref 173, .int 0]))) (h18 : f 18 = some (.inl (3, 8, .inr (.inr (va_up (va_up (va_up (va_up (va_up (va_up (va_up (va_up (fun _ => none) 0 (some 19)) 1 (some 24)) 2 (some 29)) 3 (some 34)) 4 (some 39)) 5 (some 44)) 6 (some 49)) 7 (some 54)))))) (h19 : f 19 = some (.inr (7, [.ref 20, .int 0, .int (-1), .int 0, .int 1, .int 0, .null, .int 0, .ref 22, .ref 23]))) (h22 : f 22 = some (.inl (2, 4, .inr (.inr (fun _ => none))))) (h23 : f 23 = some (.inl (2, 40, .inr (.inr (fun _ => none))))) (h223 : f 223 = some (.inl (4, 1, .inr (.inl (fun _ => 0))))) (h181 : f 181 = some (.inr (9, (.int 0 :: .ref 182 :: .ref 183 :: .ref 184 :: .ref 185 :: .int 0 :: .int 0 :: .int 0 :: .ref 186 :: .int 0 :: .int 0 :: .int 0 :: .int (-1) :: .ref 187 :: .ref 188 :: .ref 189 :: .int 0 :: .ref 190 :: .ref 191 :: .ref 192 :: .ref 193 :: .ref 194 :: .int 0 :: .ref 195 :: .ref 196 :: .ref 197 :: .int 0 :: .ref 198 :: .ref 199 :: .ref 200 :: .ref 201 :: .ref 202 :: .ref 203 :: .int 0 :: .ref 204 :: .ref 205 :: .ref 206 :: .ref 207 :: .ref 208 :: .ref 209 :: .ref 210 :: .ref 211 :: .ref 212 :: .ref 213 :: .ref 214 :: .int 0 :: .ref 215 :: .ref 216 :: .int 0 :: .ref 217 :: .ref 218 :: .ref 219 :: .ref 220 :: .ref 221 :: .int 0 :: .int 0 :: .int 0 :: .int 0 :: .ref 222 :: .int 0 :: [])))) (h183 : f 183 = some (.inl (0, 4347, .inl (fun _ => 0)))) (h182 : f 182 = some (.inl (0, 4347, .inl (tl (upd (upd (fun _ => 0) 2 (-1)) 4 1) 40)))) (h185 : f 185 = some (.inl (0, 34776, .inl (fun _ => 0)))) : AW X p l e room_1 s m #[Value.ref b] below meth c 8 (lw_Z below #[Value.ref b] s) f n 1000 300000 445 [some (.retAddr b), some (.ref 0), some (.ref 181), some (.ref 223), some (.int 0), none, none, none] [] := by
  refine ao_start ?_
  refine aw_ald_n C dL_law_445 rfl ?_
  refine aw_raw_n C dL_law_446 rfl ?_
  refine aw_iload C dL_law_447 rfl ?_
  refine aw_iconst C 1 dL_law_449 ki_1 ?_
  refine ae_iadd C 1 dL_law_450 (by decide) ?_
  refine aw_sld C S0 0 (by unfold vp_in; decide) (by decide : _ = 1) e1 dL_law_451 ?_
  refine aw_raw_n C dL_law_452 rfl ?_
  refine aw_iload C dL_law_453 rfl ?_
  refine aw_iconst C 2 dL_law_455 ki_2 ?_
  refine ae_iadd C 2 dL_law_456 (by decide) ?_
  refine aw_sld C S0 0 (by unfold vp_in; decide) (by decide : _ = 2) e2 dL_law_457 ?_
  refine aw_ald_n C dL_law_458 rfl ?_
  refine aw_callSW C [.ref 0, .int 0, .int 0, .ref 223] mw_L_116 (c_L_rule_372 h0 h3 h8 h11 h6 h12 h7 h59 h60 h62 h68 h74 h4 h171 h172 h18 h19 h22 h23 h223) rfl dL_law_459 (Nat.le_of_ble_eq_true rfl) (Nat.le_of_ble_eq_true rfl) rfl (Nat.le_of_ble_eq_true rfl) (Nat.le_of_ble_eq_true rfl) (Nat.le_of_ble_eq_true rfl) (fun v9 f9 n9 h9 => ?_)
  obtain ⟨rfl, rfl, rfl⟩ := h9
  refine ao_flat [(223, .inl (4, 1, .inr (.inl (vp_updL (fun _ => 0) 0 0)))), (8, .inr (7, [.ref 4, .int 0, .int (-1), .int 0, .int 1, .int 0, .null, .int 0, .ref 11, .ref 12])), (68, .inr (6, [.ref 4, .int 0, .int 0, .int 0, .int 0, .int 0, .int 0, .int 0, .int 0, .int 0])), (59, .inr (1, [.ref 60, .ref 62, .ref 74, .int 0, .ref 68, .ref 71, .ref 64, .ref 66])), (3, .inr (7, [.ref 4, .int 0, .int (-1), .int 0, .int 1, .int 0, .null, .int 0, .ref 6, .ref 7])), (0, .inr (8, [.ref 1, .ref 3, .ref 8, .ref 13, .ref 18, .ref 59, .ref 115, .ref 171, .ref 178, .int 0, .int 0, .int 1, .int 0, .int (-1)])), (19, .inr (7, [.ref 4, .int 0, .int (-1), .int 0, .int 1, .int 0, .null, .int 0, .ref 22, .ref 23]))] rfl ?_
  refine aw_istore C dL_law_462 (by decide) rfl ?_
  refine aw_nl [some (.retAddr b), some (.ref 0), some (.ref 181), some (.ref 223), some (.int 0), some (.int 0), none, none] rfl ?_
  refine aw_ald_n C dL_law_464 rfl ?_
  refine aw_raw_n C dL_law_465 rfl ?_
  refine aw_iload C dL_law_466 rfl ?_
  refine aw_iconst C 1 dL_law_468 ki_1 ?_
  refine ae_iadd C 1 dL_law_469 (by decide) ?_
  refine aw_sld C S0 0 (by unfold vp_in; decide) (by decide : _ = 1) e1 dL_law_470 ?_
  refine aw_raw_n C dL_law_471 rfl ?_
  refine aw_iload C dL_law_472 rfl ?_
  refine aw_iconst C 2 dL_law_474 ki_2 ?_
  refine ae_iadd C 2 dL_law_475 (by decide) ?_
  refine aw_sld C S0 0 (by unfold vp_in; decide) (by decide : _ = 2) e2 dL_law_476 ?_
  refine ao_callV C (ci := 9) (b := 181) [.int 0, .int 0] [(223, .inl (4, 1, .inr (.inl (vp_updL (fun _ => 0) 0 0)))), (8, .inr (7, [.ref 4, .int 0, .int (-1), .int 0, .int 1, .int 0, .null, .int 0, .ref 11, .ref 12])), (68, .inr (6, [.ref 4, .int 0, .int 0, .int 0, .int 0, .int 0, .int 0, .int 0, .int 0, .int 0])), (59, .inr (1, [.ref 60, .ref 62, .ref 74, .int 0, .ref 68, .ref 71, .ref 64, .ref 66])), (3, .inr (7, [.ref 4, .int 0, .int (-1), .int 0, .int 1, .int 0, .null, .int 0, .ref 6, .ref 7])), (0, .inr (8, [.ref 1, .ref 3, .ref 8, .ref 13, .ref 18, .ref 59, .ref 115, .ref 171, .ref 178, .int 0, .int 0, .int 1, .int 0, .int (-1)])), (19, .inr (7, [.ref 4, .int 0, .int (-1), .int 0, .int 1, .int 0, .null, .int 0, .ref 22, .ref 23])), (185, .inl (0, 34776, .inl (cpy (cpy (tl (upd (upd (fun _ => 0) 2 (-1)) 4 1) 40) (fun _ => 0) 4347) (fun _ => 0) 4347))), (182, .inl (0, 4347, .inl (tl (upd (tl (upd (upd (fun _ => 0) 2 (-1)) 4 1) 40) 3 0) 40))), (183, .inl (0, 4347, .inl (cpy (tl (upd (upd (fun _ => 0) 2 (-1)) 4 1) 40) (fun _ => 0) 4347))), (181, .inr (9, (.int 0 :: .ref 182 :: .ref 183 :: .ref 184 :: .ref 185 :: .int 1 :: .int 0 :: .int 0 :: .ref 186 :: .int 0 :: .int 0 :: .int 0 :: .int (-1) :: .ref 187 :: .ref 188 :: .ref 189 :: .int 0 :: .ref 190 :: .ref 191 :: .ref 192 :: .ref 193 :: .ref 194 :: .int 0 :: .ref 195 :: .ref 196 :: .ref 197 :: .int 0 :: .ref 198 :: .ref 199 :: .ref 200 :: .ref 201 :: .ref 202 :: .ref 203 :: .int 0 :: .ref 204 :: .ref 205 :: .ref 206 :: .ref 207 :: .ref 208 :: .ref 209 :: .ref 210 :: .ref 211 :: .ref 212 :: .ref 213 :: .ref 214 :: .int 0 :: .ref 215 :: .ref 216 :: .int 0 :: .ref 217 :: .ref 218 :: .ref 219 :: .ref 220 :: .ref 221 :: .int 0 :: .int 0 :: .int 0 :: .int 0 :: .ref 222 :: .int 0 :: [])))] mv_L_119 rfl rfl h181 (c_X9_rule_377 h181 h183 h182 h185) rfl dL_law_477 (Nat.le_of_ble_eq_true rfl) (Nat.le_of_ble_eq_true rfl) rfl (Nat.le_of_ble_eq_true rfl) (Nat.le_of_ble_eq_true rfl) (Nat.le_of_ble_eq_true rfl) rfl ?_
  refine aw_istore C dL_law_480 (by decide) rfl ?_
  refine aw_nl [some (.retAddr b), some (.ref 0), some (.ref 181), some (.ref 223), some (.int 0), some (.int 0), some (.int 0), none] rfl ?_
  refine aw_ald_n C dL_law_482 rfl ?_
  refine ao_callV C (ci := 9) (b := 181) [] [(223, .inl (4, 1, .inr (.inl (vp_updL (fun _ => 0) 0 0)))), (8, .inr (7, [.ref 4, .int 0, .int (-1), .int 0, .int 1, .int 0, .null, .int 0, .ref 11, .ref 12])), (68, .inr (6, [.ref 4, .int 0, .int 0, .int 0, .int 0, .int 0, .int 0, .int 0, .int 0, .int 0])), (59, .inr (1, [.ref 60, .ref 62, .ref 74, .int 0, .ref 68, .ref 71, .ref 64, .ref 66])), (3, .inr (7, [.ref 4, .int 0, .int (-1), .int 0, .int 1, .int 0, .null, .int 0, .ref 6, .ref 7])), (0, .inr (8, [.ref 1, .ref 3, .ref 8, .ref 13, .ref 18, .ref 59, .ref 115, .ref 171, .ref 178, .int 0, .int 0, .int 1, .int 0, .int (-1)])), (19, .inr (7, [.ref 4, .int 0, .int (-1), .int 0, .int 1, .int 0, .null, .int 0, .ref 22, .ref 23])), (185, .inl (0, 34776, .inl (cpy (cpy (tl (upd (upd (fun _ => 0) 2 (-1)) 4 1) 40) (fun _ => 0) 4347) (fun _ => 0) 4347))), (182, .inl (0, 4347, .inl (tl (upd (tl (upd (upd (fun _ => 0) 2 (-1)) 4 1) 40) 3 0) 40))), (183, .inl (0, 4347, .inl (cpy (tl (upd (upd (fun _ => 0) 2 (-1)) 4 1) 40) (fun _ => 0) 4347))), (181, .inr (9, (.int 0 :: .ref 182 :: .ref 183 :: .ref 184 :: .ref 185 :: .int 1 :: .int 0 :: .int 0 :: .ref 186 :: .int 0 :: .int 0 :: .int 0 :: .int (-1) :: .ref 187 :: .ref 188 :: .ref 189 :: .int 0 :: .ref 190 :: .ref 191 :: .ref 192 :: .ref 193 :: .ref 194 :: .int 0 :: .ref 195 :: .ref 196 :: .ref 197 :: .int 0 :: .ref 198 :: .ref 199 :: .ref 200 :: .ref 201 :: .ref 202 :: .ref 203 :: .int 0 :: .ref 204 :: .ref 205 :: .ref 206 :: .ref 207 :: .ref 208 :: .ref 209 :: .ref 210 :: .ref 211 :: .ref 212 :: .ref 213 :: .ref 214 :: .int 0 :: .ref 215 :: .ref 216 :: .int 0 :: .ref 217 :: .ref 218 :: .ref 219 :: .ref 220 :: .ref 221 :: .int 0 :: .int 0 :: .int 0 :: .int 0 :: .ref 222 :: .int 0 :: [])))] mv_L_97 rfl rfl rfl (c_X9_thrown_239 rfl) rfl dL_law_483 (Nat.le_of_ble_eq_true rfl) (Nat.le_of_ble_eq_true rfl) rfl (Nat.le_of_ble_eq_true rfl) (Nat.le_of_ble_eq_true rfl) (Nat.le_of_ble_eq_true rfl) rfl ?_
  refine aw_iload C dL_law_486 rfl ?_
  refine aw_icmp_eq C 493 dL_law_488 (by decide) (fun _ => ?_) (fun q => absurd (by decide) q)
  refine aw_iload C dL_law_493 rfl ?_
  refine aw_if_ne C 510 dL_law_495 (by decide) (fun q => absurd (by decide) q) (fun _ => ?_)
  refine aw_ald_n C dL_law_498 rfl ?_
  refine aw_iconst C 0 dL_law_499 ki_0 ?_
  refine ao_lald C 0 rfl (by unfold vp_in; decide) (by decide : _ = 0) rfl dL_law_500 ?_
  refine aw_iload C dL_law_501 rfl ?_
  refine ae_i2l C 0 dL_law_503 (by decide) ?_
  refine ae_lcmp C 0 dL_law_504 (by decide) ?_
  refine aw_if_eq C 510 dL_law_505 (by decide) (fun _ => ?_) (fun q => absurd (by decide) q)
  refine aw_goto C 1629 dL_law_510 (by decide) ?_
  refine aw_fl [some (.retAddr b), none, none, none, some (.int 0), none, none, none] (by simp [SubL]) ?_
  exact al_tail C S0 (Nat.le_of_ble_eq_true rfl) (Nat.le_of_ble_eq_true rfl)

set_option maxHeartbeats 4000000 in
set_option maxRecDepth 100000 in
theorem lc_7_bc {X : GX} {p : Program} {l : Launch} {e : Env} {s : State} {m : MethodId} {below : List Frame} {meth : Method} {c : Code} {b : Nat} {xs : Nat → Int32} {f : AH} {n : Nat} {a3 : Int32} {a4 : Int32} {a5 : Int32} {g74 : Nat → Option Nat} (C : CC X p l room_1 s m #[Value.ref b] meth c RL cL_law 8 ret) (S0 : SC X b 6 xs s) (hl0 : l.stackTraces = false) (e1 : xs 1 = 0) (e2 : xs 2 = 1) (e3 : xs 3 = a3) (e4 : xs 4 = a4) (e5 : xs 5 = a5) (h0 : f 0 = some (.inr (8, [.ref 1, .ref 3, .ref 8, .ref 13, .ref 18, .ref 59, .ref 115, .ref 171, .ref 178, .int 0, .int 0, .int 0, .int 0, .int (-1)]))) (h3 : f 3 = some (.inr (7, [.ref 4, .int 0, .int (-1), .int 0, .int 1, .int 0, .null, .int 0, .ref 6, .ref 7]))) (h8 : f 8 = some (.inr (7, [.ref 9, .int 0, .int (-1), .int 0, .int 1, .int 0, .null, .int 0, .ref 11, .ref 12]))) (h11 : f 11 = some (.inl (2, 4, .inr (.inr (fun _ => none))))) (h6 : f 6 = some (.inl (2, 4, .inr (.inr (fun _ => none))))) (h12 : f 12 = some (.inl (2, 40, .inr (.inr (fun _ => none))))) (h7 : f 7 = some (.inl (2, 40, .inr (.inr (fun _ => none))))) (h59 : f 59 = some (.inr (1, [.ref 60, .ref 62, .ref 74, .int 0, .ref 68, .ref 71, .ref 64, .ref 66]))) (h60 : f 60 = some (.inr (5, [.ref 61, .int 0]))) (h62 : f 62 = some (.inr (5, [.ref 63, .int 0]))) (h68 : f 68 = some (.inr (6, [.ref 69, .int 0, .int 0, .int 0, .int 0, .int 0, .int 0, .int 0, .int 0, .int 0]))) (h74 : f 74 = some (.inl (1, 40, .inr (.inr g74)))) (h4 : f 4 = some (.inr (5, [.ref 5, .int 0]))) (h171 : f 171 = some (.inr (0, [.ref 172, .ref 174, .ref 176, .int 0]))) (h172 : f 172 = some (.inr (5, [.ref 173, .int 0]))) (h18 : f 18 = some (.inl (3, 8, .inr (.inr (va_up (va_up (va_up (va_up (va_up (va_up (va_up (va_up (fun _ => none) 0 (some 19)) 1 (some 24)) 2 (some 29)) 3 (some 34)) 4 (some 39)) 5 (some 44)) 6 (some 49)) 7 (some 54)))))) (h19 : f 19 = some (.inr (7, [.ref 20, .int 0, .int (-1), .int 0, .int 1, .int 0, .null, .int 0, .ref 22, .ref 23]))) (h22 : f 22 = some (.inl (2, 4, .inr (.inr (fun _ => none))))) (h23 : f 23 = some (.inl (2, 40, .inr (.inr (fun _ => none))))) (h223 : f 223 = some (.inl (4, 1, .inr (.inl (fun _ => 0))))) (h181 : f 181 = some (.inr (9, (.int 0 :: .ref 182 :: .ref 183 :: .ref 184 :: .ref 185 :: .int 0 :: .int 0 :: .int 0 :: .ref 186 :: .int 0 :: .int 0 :: .int 0 :: .int (-1) :: .ref 187 :: .ref 188 :: .ref 189 :: .int 0 :: .ref 190 :: .ref 191 :: .ref 192 :: .ref 193 :: .ref 194 :: .int 0 :: .ref 195 :: .ref 196 :: .ref 197 :: .int 0 :: .ref 198 :: .ref 199 :: .ref 200 :: .ref 201 :: .ref 202 :: .ref 203 :: .int 0 :: .ref 204 :: .ref 205 :: .ref 206 :: .ref 207 :: .ref 208 :: .ref 209 :: .ref 210 :: .ref 211 :: .ref 212 :: .ref 213 :: .ref 214 :: .int 0 :: .ref 215 :: .ref 216 :: .int 0 :: .ref 217 :: .ref 218 :: .ref 219 :: .ref 220 :: .ref 221 :: .int 0 :: .int 0 :: .int 0 :: .int 0 :: .ref 222 :: .int 0 :: [])))) (h183 : f 183 = some (.inl (0, 4347, .inl (fun _ => 0)))) (h182 : f 182 = some (.inl (0, 4347, .inl (tl (upd (upd (fun _ => 0) 2 (-1)) 4 1) 40)))) (h185 : f 185 = some (.inl (0, 34776, .inl (fun _ => 0)))) : AW X p l e room_1 s m #[Value.ref b] below meth c 8 (lw_Z below #[Value.ref b] s) f n 1000 300000 445 [some (.retAddr b), some (.ref 0), some (.ref 181), some (.ref 223), some (.int 0), none, none, none] [] := by
  refine ao_start ?_
  refine aw_ald_n C dL_law_445 rfl ?_
  refine aw_raw_n C dL_law_446 rfl ?_
  refine aw_iload C dL_law_447 rfl ?_
  refine aw_iconst C 1 dL_law_449 ki_1 ?_
  refine ae_iadd C 1 dL_law_450 (by decide) ?_
  refine aw_sld C S0 0 (by unfold vp_in; decide) (by decide : _ = 1) e1 dL_law_451 ?_
  refine aw_raw_n C dL_law_452 rfl ?_
  refine aw_iload C dL_law_453 rfl ?_
  refine aw_iconst C 2 dL_law_455 ki_2 ?_
  refine ae_iadd C 2 dL_law_456 (by decide) ?_
  refine aw_sld C S0 1 (by unfold vp_in; decide) (by decide : _ = 2) e2 dL_law_457 ?_
  refine aw_ald_n C dL_law_458 rfl ?_
  refine aw_callSW C [.ref 0, .int 0, .int 1, .ref 223] mw_L_116 (c_L_rule_384 h0 h3 h8 h11 h6 h12 h7 h59 h60 h62 h68 h74 h4 h171 h172 h18 h19 h22 h23 h223) rfl dL_law_459 (Nat.le_of_ble_eq_true rfl) (Nat.le_of_ble_eq_true rfl) rfl (Nat.le_of_ble_eq_true rfl) (Nat.le_of_ble_eq_true rfl) (Nat.le_of_ble_eq_true rfl) (fun v9 f9 n9 h9 => ?_)
  obtain ⟨rfl, rfl, rfl⟩ := h9
  refine ao_flat [(223, .inl (4, 1, .inr (.inl (vp_updL (fun _ => 0) 0 0)))), (8, .inr (7, [.ref 4, .int 0, .int (-1), .int 0, .int 1, .int 0, .null, .int 0, .ref 11, .ref 12])), (68, .inr (6, [.ref 4, .int 0, .int 0, .int 0, .int 0, .int 0, .int 0, .int 0, .int 0, .int 0])), (59, .inr (1, [.ref 60, .ref 62, .ref 74, .int 0, .ref 68, .ref 71, .ref 64, .ref 66])), (3, .inr (7, [.ref 4, .int 0, .int (-1), .int 1, .int 1, .int 0, .null, .int 0, .ref 6, .ref 7])), (0, .inr (8, [.ref 1, .ref 3, .ref 8, .ref 13, .ref 18, .ref 59, .ref 115, .ref 171, .ref 178, .int 0, .int 0, .int 1, .int 0, .int (-1)])), (19, .inr (7, [.ref 4, .int 0, .int (-1), .int 0, .int 1, .int 0, .null, .int 0, .ref 22, .ref 23]))] rfl ?_
  refine aw_istore C dL_law_462 (by decide) rfl ?_
  refine aw_nl [some (.retAddr b), some (.ref 0), some (.ref 181), some (.ref 223), some (.int 0), some (.int 0), none, none] rfl ?_
  refine aw_ald_n C dL_law_464 rfl ?_
  refine aw_raw_n C dL_law_465 rfl ?_
  refine aw_iload C dL_law_466 rfl ?_
  refine aw_iconst C 1 dL_law_468 ki_1 ?_
  refine ae_iadd C 1 dL_law_469 (by decide) ?_
  refine aw_sld C S0 0 (by unfold vp_in; decide) (by decide : _ = 1) e1 dL_law_470 ?_
  refine aw_raw_n C dL_law_471 rfl ?_
  refine aw_iload C dL_law_472 rfl ?_
  refine aw_iconst C 2 dL_law_474 ki_2 ?_
  refine ae_iadd C 2 dL_law_475 (by decide) ?_
  refine aw_sld C S0 1 (by unfold vp_in; decide) (by decide : _ = 2) e2 dL_law_476 ?_
  refine ao_callV C (ci := 9) (b := 181) [.int 0, .int 1] [(223, .inl (4, 1, .inr (.inl (vp_updL (fun _ => 0) 0 0)))), (8, .inr (7, [.ref 4, .int 0, .int (-1), .int 0, .int 1, .int 0, .null, .int 0, .ref 11, .ref 12])), (68, .inr (6, [.ref 4, .int 0, .int 0, .int 0, .int 0, .int 0, .int 0, .int 0, .int 0, .int 0])), (59, .inr (1, [.ref 60, .ref 62, .ref 74, .int 0, .ref 68, .ref 71, .ref 64, .ref 66])), (3, .inr (7, [.ref 4, .int 0, .int (-1), .int 1, .int 1, .int 0, .null, .int 0, .ref 6, .ref 7])), (0, .inr (8, [.ref 1, .ref 3, .ref 8, .ref 13, .ref 18, .ref 59, .ref 115, .ref 171, .ref 178, .int 0, .int 0, .int 1, .int 0, .int (-1)])), (19, .inr (7, [.ref 4, .int 0, .int (-1), .int 0, .int 1, .int 0, .null, .int 0, .ref 22, .ref 23])), (185, .inl (0, 34776, .inl (cpy (cpy (tl (upd (upd (fun _ => 0) 2 (-1)) 4 1) 40) (fun _ => 0) 4347) (fun _ => 0) 4347))), (182, .inl (0, 4347, .inl (tl (upd (tl (upd (upd (fun _ => 0) 2 (-1)) 4 1) 40) 3 1) 40))), (183, .inl (0, 4347, .inl (cpy (tl (upd (upd (fun _ => 0) 2 (-1)) 4 1) 40) (fun _ => 0) 4347))), (181, .inr (9, (.int 0 :: .ref 182 :: .ref 183 :: .ref 184 :: .ref 185 :: .int 1 :: .int 0 :: .int 0 :: .ref 186 :: .int 0 :: .int 0 :: .int 0 :: .int (-1) :: .ref 187 :: .ref 188 :: .ref 189 :: .int 0 :: .ref 190 :: .ref 191 :: .ref 192 :: .ref 193 :: .ref 194 :: .int 0 :: .ref 195 :: .ref 196 :: .ref 197 :: .int 0 :: .ref 198 :: .ref 199 :: .ref 200 :: .ref 201 :: .ref 202 :: .ref 203 :: .int 0 :: .ref 204 :: .ref 205 :: .ref 206 :: .ref 207 :: .ref 208 :: .ref 209 :: .ref 210 :: .ref 211 :: .ref 212 :: .ref 213 :: .ref 214 :: .int 0 :: .ref 215 :: .ref 216 :: .int 0 :: .ref 217 :: .ref 218 :: .ref 219 :: .ref 220 :: .ref 221 :: .int 0 :: .int 0 :: .int 0 :: .int 0 :: .ref 222 :: .int 0 :: [])))] mv_L_119 rfl rfl h181 (c_X9_rule_390 h181 h183 h182 h185) rfl dL_law_477 (Nat.le_of_ble_eq_true rfl) (Nat.le_of_ble_eq_true rfl) rfl (Nat.le_of_ble_eq_true rfl) (Nat.le_of_ble_eq_true rfl) (Nat.le_of_ble_eq_true rfl) rfl ?_
  refine aw_istore C dL_law_480 (by decide) rfl ?_
  refine aw_nl [some (.retAddr b), some (.ref 0), some (.ref 181), some (.ref 223), some (.int 0), some (.int 0), some (.int 0), none] rfl ?_
  refine aw_ald_n C dL_law_482 rfl ?_
  refine ao_callV C (ci := 9) (b := 181) [] [(223, .inl (4, 1, .inr (.inl (vp_updL (fun _ => 0) 0 0)))), (8, .inr (7, [.ref 4, .int 0, .int (-1), .int 0, .int 1, .int 0, .null, .int 0, .ref 11, .ref 12])), (68, .inr (6, [.ref 4, .int 0, .int 0, .int 0, .int 0, .int 0, .int 0, .int 0, .int 0, .int 0])), (59, .inr (1, [.ref 60, .ref 62, .ref 74, .int 0, .ref 68, .ref 71, .ref 64, .ref 66])), (3, .inr (7, [.ref 4, .int 0, .int (-1), .int 1, .int 1, .int 0, .null, .int 0, .ref 6, .ref 7])), (0, .inr (8, [.ref 1, .ref 3, .ref 8, .ref 13, .ref 18, .ref 59, .ref 115, .ref 171, .ref 178, .int 0, .int 0, .int 1, .int 0, .int (-1)])), (19, .inr (7, [.ref 4, .int 0, .int (-1), .int 0, .int 1, .int 0, .null, .int 0, .ref 22, .ref 23])), (185, .inl (0, 34776, .inl (cpy (cpy (tl (upd (upd (fun _ => 0) 2 (-1)) 4 1) 40) (fun _ => 0) 4347) (fun _ => 0) 4347))), (182, .inl (0, 4347, .inl (tl (upd (tl (upd (upd (fun _ => 0) 2 (-1)) 4 1) 40) 3 1) 40))), (183, .inl (0, 4347, .inl (cpy (tl (upd (upd (fun _ => 0) 2 (-1)) 4 1) 40) (fun _ => 0) 4347))), (181, .inr (9, (.int 0 :: .ref 182 :: .ref 183 :: .ref 184 :: .ref 185 :: .int 1 :: .int 0 :: .int 0 :: .ref 186 :: .int 0 :: .int 0 :: .int 0 :: .int (-1) :: .ref 187 :: .ref 188 :: .ref 189 :: .int 0 :: .ref 190 :: .ref 191 :: .ref 192 :: .ref 193 :: .ref 194 :: .int 0 :: .ref 195 :: .ref 196 :: .ref 197 :: .int 0 :: .ref 198 :: .ref 199 :: .ref 200 :: .ref 201 :: .ref 202 :: .ref 203 :: .int 0 :: .ref 204 :: .ref 205 :: .ref 206 :: .ref 207 :: .ref 208 :: .ref 209 :: .ref 210 :: .ref 211 :: .ref 212 :: .ref 213 :: .ref 214 :: .int 0 :: .ref 215 :: .ref 216 :: .int 0 :: .ref 217 :: .ref 218 :: .ref 219 :: .ref 220 :: .ref 221 :: .int 0 :: .int 0 :: .int 0 :: .int 0 :: .ref 222 :: .int 0 :: [])))] mv_L_97 rfl rfl rfl (c_X9_thrown_239 rfl) rfl dL_law_483 (Nat.le_of_ble_eq_true rfl) (Nat.le_of_ble_eq_true rfl) rfl (Nat.le_of_ble_eq_true rfl) (Nat.le_of_ble_eq_true rfl) (Nat.le_of_ble_eq_true rfl) rfl ?_
  refine aw_iload C dL_law_486 rfl ?_
  refine aw_icmp_eq C 493 dL_law_488 (by decide) (fun _ => ?_) (fun q => absurd (by decide) q)
  refine aw_iload C dL_law_493 rfl ?_
  refine aw_if_ne C 510 dL_law_495 (by decide) (fun q => absurd (by decide) q) (fun _ => ?_)
  refine aw_ald_n C dL_law_498 rfl ?_
  refine aw_iconst C 0 dL_law_499 ki_0 ?_
  refine ao_lald C 0 rfl (by unfold vp_in; decide) (by decide : _ = 0) rfl dL_law_500 ?_
  refine aw_iload C dL_law_501 rfl ?_
  refine ae_i2l C 0 dL_law_503 (by decide) ?_
  refine ae_lcmp C 0 dL_law_504 (by decide) ?_
  refine aw_if_eq C 510 dL_law_505 (by decide) (fun _ => ?_) (fun q => absurd (by decide) q)
  refine aw_goto C 1629 dL_law_510 (by decide) ?_
  refine aw_fl [some (.retAddr b), none, none, none, some (.int 0), none, none, none] (by simp [SubL]) ?_
  exact al_tail C S0 (Nat.le_of_ble_eq_true rfl) (Nat.le_of_ble_eq_true rfl)

set_option maxHeartbeats 4000000 in
set_option maxRecDepth 100000 in
theorem lc_7_bd {X : GX} {p : Program} {l : Launch} {e : Env} {s : State} {m : MethodId} {below : List Frame} {meth : Method} {c : Code} {b : Nat} {xs : Nat → Int32} {f : AH} {n : Nat} {a2 : Int32} {a3 : Int32} {a4 : Int32} {a5 : Int32} (C : CC X p l room_1 s m #[Value.ref b] meth c RL cL_law 8 ret) (S0 : SC X b 6 xs s) (hl0 : l.stackTraces = false) (e1 : xs 1 = 0) (e2 : xs 2 = a2) (q2 : 2 ≤ a2.toInt ∧ a2.toInt ≤ 2147483647) (e3 : xs 3 = a3) (e4 : xs 4 = a4) (e5 : xs 5 = a5) (h0 : f 0 = some (.inr (8, [.ref 1, .ref 3, .ref 8, .ref 13, .ref 18, .ref 59, .ref 115, .ref 171, .ref 178, .int 0, .int 0, .int 0, .int 0, .int (-1)]))) (h181 : f 181 = some (.inr (9, (.int 0 :: .ref 182 :: .ref 183 :: .ref 184 :: .ref 185 :: .int 0 :: .int 0 :: .int 0 :: .ref 186 :: .int 0 :: .int 0 :: .int 0 :: .int (-1) :: .ref 187 :: .ref 188 :: .ref 189 :: .int 0 :: .ref 190 :: .ref 191 :: .ref 192 :: .ref 193 :: .ref 194 :: .int 0 :: .ref 195 :: .ref 196 :: .ref 197 :: .int 0 :: .ref 198 :: .ref 199 :: .ref 200 :: .ref 201 :: .ref 202 :: .ref 203 :: .int 0 :: .ref 204 :: .ref 205 :: .ref 206 :: .ref 207 :: .ref 208 :: .ref 209 :: .ref 210 :: .ref 211 :: .ref 212 :: .ref 213 :: .ref 214 :: .int 0 :: .ref 215 :: .ref 216 :: .int 0 :: .ref 217 :: .ref 218 :: .ref 219 :: .ref 220 :: .ref 221 :: .int 0 :: .int 0 :: .int 0 :: .int 0 :: .ref 222 :: .int 0 :: [])))) : AW X p l e room_1 s m #[Value.ref b] below meth c 8 (lw_Z below #[Value.ref b] s) f n 1000 300000 445 [some (.retAddr b), some (.ref 0), some (.ref 181), some (.ref 223), some (.int 0), none, none, none] [] := by
  refine ao_start ?_
  obtain ⟨q2a, q2b⟩ := q2
  refine aw_ald_n C dL_law_445 rfl ?_
  refine aw_raw_n C dL_law_446 rfl ?_
  refine aw_iload C dL_law_447 rfl ?_
  refine aw_iconst C 1 dL_law_449 ki_1 ?_
  refine ae_iadd C 1 dL_law_450 (by decide) ?_
  refine aw_sld C S0 0 (by unfold vp_in; decide) (by decide : _ = 1) e1 dL_law_451 ?_
  refine aw_raw_n C dL_law_452 rfl ?_
  refine aw_iload C dL_law_453 rfl ?_
  refine aw_iconst C 2 dL_law_455 ki_2 ?_
  refine ae_iadd C 2 dL_law_456 (by decide) ?_
  refine aw_sld C S0 a2 (by unfold vp_in; decide) (by decide : _ = 2) e2 dL_law_457 ?_
  refine aw_ald_n C dL_law_458 rfl ?_
  refine aw_callSW C [.ref 0, .int 0, .int a2, .ref 223] mw_L_116 (c_L_rule_392 hl0 ⟨by omega, by omega⟩ h0) rfl dL_law_459 (Nat.le_of_ble_eq_true rfl) (Nat.le_of_ble_eq_true rfl) rfl (Nat.le_of_ble_eq_true rfl) (Nat.le_of_ble_eq_true rfl) (Nat.le_of_ble_eq_true rfl) (fun v9 f9 n9 h9 => ?_)
  obtain ⟨rfl, rfl⟩ := h9
  refine ao_flat [] rfl ?_
  refine aw_istore C dL_law_462 (by decide) rfl ?_
  refine aw_nl [some (.retAddr b), some (.ref 0), some (.ref 181), some (.ref 223), some (.int 0), some (.int 2), none, none] rfl ?_
  refine aw_ald_n C dL_law_464 rfl ?_
  refine aw_raw_n C dL_law_465 rfl ?_
  refine aw_iload C dL_law_466 rfl ?_
  refine aw_iconst C 1 dL_law_468 ki_1 ?_
  refine ae_iadd C 1 dL_law_469 (by decide) ?_
  refine aw_sld C S0 0 (by unfold vp_in; decide) (by decide : _ = 1) e1 dL_law_470 ?_
  refine aw_raw_n C dL_law_471 rfl ?_
  refine aw_iload C dL_law_472 rfl ?_
  refine aw_iconst C 2 dL_law_474 ki_2 ?_
  refine ae_iadd C 2 dL_law_475 (by decide) ?_
  refine aw_sld C S0 a2 (by unfold vp_in; decide) (by decide : _ = 2) e2 dL_law_476 ?_
  refine ao_callV C (ci := 9) (b := 181) [.int 0, .int a2] [(181, .inr (9, (.int 2 :: .ref 182 :: .ref 183 :: .ref 184 :: .ref 185 :: .int 0 :: .int 0 :: .int 0 :: .ref 186 :: .int 0 :: .int 0 :: .int 0 :: .int (-1) :: .ref 187 :: .ref 188 :: .ref 189 :: .int 0 :: .ref 190 :: .ref 191 :: .ref 192 :: .ref 193 :: .ref 194 :: .int 0 :: .ref 195 :: .ref 196 :: .ref 197 :: .int 0 :: .ref 198 :: .ref 199 :: .ref 200 :: .ref 201 :: .ref 202 :: .ref 203 :: .int 0 :: .ref 204 :: .ref 205 :: .ref 206 :: .ref 207 :: .ref 208 :: .ref 209 :: .ref 210 :: .ref 211 :: .ref 212 :: .ref 213 :: .ref 214 :: .int 0 :: .ref 215 :: .ref 216 :: .int 0 :: .ref 217 :: .ref 218 :: .ref 219 :: .ref 220 :: .ref 221 :: .int 0 :: .int 0 :: .int 0 :: .int 0 :: .ref 222 :: .int 0 :: [])))] mv_L_119 rfl rfl h181 (c_X9_rule_394 ⟨by omega, by omega⟩ h181) rfl dL_law_477 (Nat.le_of_ble_eq_true rfl) (Nat.le_of_ble_eq_true rfl) rfl (Nat.le_of_ble_eq_true rfl) (Nat.le_of_ble_eq_true rfl) (Nat.le_of_ble_eq_true rfl) rfl ?_
  refine aw_istore C dL_law_480 (by decide) rfl ?_
  refine aw_nl [some (.retAddr b), some (.ref 0), some (.ref 181), some (.ref 223), some (.int 0), some (.int 2), some (.int 0), none] rfl ?_
  refine aw_ald_n C dL_law_482 rfl ?_
  refine ao_callV C (ci := 9) (b := 181) [] [(181, .inr (9, (.int 2 :: .ref 182 :: .ref 183 :: .ref 184 :: .ref 185 :: .int 0 :: .int 0 :: .int 0 :: .ref 186 :: .int 0 :: .int 0 :: .int 0 :: .int (-1) :: .ref 187 :: .ref 188 :: .ref 189 :: .int 0 :: .ref 190 :: .ref 191 :: .ref 192 :: .ref 193 :: .ref 194 :: .int 0 :: .ref 195 :: .ref 196 :: .ref 197 :: .int 0 :: .ref 198 :: .ref 199 :: .ref 200 :: .ref 201 :: .ref 202 :: .ref 203 :: .int 0 :: .ref 204 :: .ref 205 :: .ref 206 :: .ref 207 :: .ref 208 :: .ref 209 :: .ref 210 :: .ref 211 :: .ref 212 :: .ref 213 :: .ref 214 :: .int 0 :: .ref 215 :: .ref 216 :: .int 0 :: .ref 217 :: .ref 218 :: .ref 219 :: .ref 220 :: .ref 221 :: .int 0 :: .int 0 :: .int 0 :: .int 0 :: .ref 222 :: .int 0 :: [])))] mv_L_97 rfl rfl rfl (c_X9_thrown_369 rfl) rfl dL_law_483 (Nat.le_of_ble_eq_true rfl) (Nat.le_of_ble_eq_true rfl) rfl (Nat.le_of_ble_eq_true rfl) (Nat.le_of_ble_eq_true rfl) (Nat.le_of_ble_eq_true rfl) rfl ?_
  refine aw_iload C dL_law_486 rfl ?_
  refine aw_icmp_eq C 493 dL_law_488 (by decide) (fun _ => ?_) (fun q => absurd (by decide) q)
  refine aw_iload C dL_law_493 rfl ?_
  refine aw_if_ne C 510 dL_law_495 (by decide) (fun _ => ?_) (fun q => absurd q (by decide))
  refine aw_goto C 1629 dL_law_510 (by decide) ?_
  refine aw_fl [some (.retAddr b), none, none, none, some (.int 0), none, none, none] (by simp [SubL]) ?_
  exact al_tail C S0 (Nat.le_of_ble_eq_true rfl) (Nat.le_of_ble_eq_true rfl)

set_option maxHeartbeats 4000000 in
set_option maxRecDepth 100000 in
theorem lc_7_ca {X : GX} {p : Program} {l : Launch} {e : Env} {s : State} {m : MethodId} {below : List Frame} {meth : Method} {c : Code} {b : Nat} {xs : Nat → Int32} {f : AH} {n : Nat} {a2 : Int32} {a3 : Int32} {a4 : Int32} {a5 : Int32} (C : CC X p l room_1 s m #[Value.ref b] meth c RL cL_law 8 ret) (S0 : SC X b 6 xs s) (hl0 : l.stackTraces = false) (e1 : xs 1 = 1) (e2 : xs 2 = a2) (q2 : (-2147483648) ≤ a2.toInt ∧ a2.toInt ≤ 0) (e3 : xs 3 = a3) (e4 : xs 4 = a4) (e5 : xs 5 = a5) (h0 : f 0 = some (.inr (8, [.ref 1, .ref 3, .ref 8, .ref 13, .ref 18, .ref 59, .ref 115, .ref 171, .ref 178, .int 0, .int 0, .int 0, .int 0, .int (-1)]))) (h181 : f 181 = some (.inr (9, (.int 0 :: .ref 182 :: .ref 183 :: .ref 184 :: .ref 185 :: .int 0 :: .int 0 :: .int 0 :: .ref 186 :: .int 0 :: .int 0 :: .int 0 :: .int (-1) :: .ref 187 :: .ref 188 :: .ref 189 :: .int 0 :: .ref 190 :: .ref 191 :: .ref 192 :: .ref 193 :: .ref 194 :: .int 0 :: .ref 195 :: .ref 196 :: .ref 197 :: .int 0 :: .ref 198 :: .ref 199 :: .ref 200 :: .ref 201 :: .ref 202 :: .ref 203 :: .int 0 :: .ref 204 :: .ref 205 :: .ref 206 :: .ref 207 :: .ref 208 :: .ref 209 :: .ref 210 :: .ref 211 :: .ref 212 :: .ref 213 :: .ref 214 :: .int 0 :: .ref 215 :: .ref 216 :: .int 0 :: .ref 217 :: .ref 218 :: .ref 219 :: .ref 220 :: .ref 221 :: .int 0 :: .int 0 :: .int 0 :: .int 0 :: .ref 222 :: .int 0 :: [])))) : AW X p l e room_1 s m #[Value.ref b] below meth c 8 (lw_Z below #[Value.ref b] s) f n 1000 300000 445 [some (.retAddr b), some (.ref 0), some (.ref 181), some (.ref 223), some (.int 0), none, none, none] [] := by
  refine ao_start ?_
  obtain ⟨q2a, q2b⟩ := q2
  refine aw_ald_n C dL_law_445 rfl ?_
  refine aw_raw_n C dL_law_446 rfl ?_
  refine aw_iload C dL_law_447 rfl ?_
  refine aw_iconst C 1 dL_law_449 ki_1 ?_
  refine ae_iadd C 1 dL_law_450 (by decide) ?_
  refine aw_sld C S0 1 (by unfold vp_in; decide) (by decide : _ = 1) e1 dL_law_451 ?_
  refine aw_raw_n C dL_law_452 rfl ?_
  refine aw_iload C dL_law_453 rfl ?_
  refine aw_iconst C 2 dL_law_455 ki_2 ?_
  refine ae_iadd C 2 dL_law_456 (by decide) ?_
  refine aw_sld C S0 a2 (by unfold vp_in; decide) (by decide : _ = 2) e2 dL_law_457 ?_
  refine aw_ald_n C dL_law_458 rfl ?_
  refine aw_callSW C [.ref 0, .int 1, .int a2, .ref 223] mw_L_116 (c_L_rule_396 hl0 ⟨by omega, by omega⟩ h0) rfl dL_law_459 (Nat.le_of_ble_eq_true rfl) (Nat.le_of_ble_eq_true rfl) rfl (Nat.le_of_ble_eq_true rfl) (Nat.le_of_ble_eq_true rfl) (Nat.le_of_ble_eq_true rfl) (fun v9 f9 n9 h9 => ?_)
  obtain ⟨rfl, rfl⟩ := h9
  refine ao_flat [] rfl ?_
  refine aw_istore C dL_law_462 (by decide) rfl ?_
  refine aw_nl [some (.retAddr b), some (.ref 0), some (.ref 181), some (.ref 223), some (.int 0), some (.int 2), none, none] rfl ?_
  refine aw_ald_n C dL_law_464 rfl ?_
  refine aw_raw_n C dL_law_465 rfl ?_
  refine aw_iload C dL_law_466 rfl ?_
  refine aw_iconst C 1 dL_law_468 ki_1 ?_
  refine ae_iadd C 1 dL_law_469 (by decide) ?_
  refine aw_sld C S0 1 (by unfold vp_in; decide) (by decide : _ = 1) e1 dL_law_470 ?_
  refine aw_raw_n C dL_law_471 rfl ?_
  refine aw_iload C dL_law_472 rfl ?_
  refine aw_iconst C 2 dL_law_474 ki_2 ?_
  refine ae_iadd C 2 dL_law_475 (by decide) ?_
  refine aw_sld C S0 a2 (by unfold vp_in; decide) (by decide : _ = 2) e2 dL_law_476 ?_
  refine ao_callV C (ci := 9) (b := 181) [.int 1, .int a2] [(181, .inr (9, (.int 2 :: .ref 182 :: .ref 183 :: .ref 184 :: .ref 185 :: .int 0 :: .int 0 :: .int 0 :: .ref 186 :: .int 0 :: .int 0 :: .int 0 :: .int (-1) :: .ref 187 :: .ref 188 :: .ref 189 :: .int 0 :: .ref 190 :: .ref 191 :: .ref 192 :: .ref 193 :: .ref 194 :: .int 0 :: .ref 195 :: .ref 196 :: .ref 197 :: .int 0 :: .ref 198 :: .ref 199 :: .ref 200 :: .ref 201 :: .ref 202 :: .ref 203 :: .int 0 :: .ref 204 :: .ref 205 :: .ref 206 :: .ref 207 :: .ref 208 :: .ref 209 :: .ref 210 :: .ref 211 :: .ref 212 :: .ref 213 :: .ref 214 :: .int 0 :: .ref 215 :: .ref 216 :: .int 0 :: .ref 217 :: .ref 218 :: .ref 219 :: .ref 220 :: .ref 221 :: .int 0 :: .int 0 :: .int 0 :: .int 0 :: .ref 222 :: .int 0 :: [])))] mv_L_119 rfl rfl h181 (c_X9_rule_398 ⟨by omega, by omega⟩ h181) rfl dL_law_477 (Nat.le_of_ble_eq_true rfl) (Nat.le_of_ble_eq_true rfl) rfl (Nat.le_of_ble_eq_true rfl) (Nat.le_of_ble_eq_true rfl) (Nat.le_of_ble_eq_true rfl) rfl ?_
  refine aw_istore C dL_law_480 (by decide) rfl ?_
  refine aw_nl [some (.retAddr b), some (.ref 0), some (.ref 181), some (.ref 223), some (.int 0), some (.int 2), some (.int 0), none] rfl ?_
  refine aw_ald_n C dL_law_482 rfl ?_
  refine ao_callV C (ci := 9) (b := 181) [] [(181, .inr (9, (.int 2 :: .ref 182 :: .ref 183 :: .ref 184 :: .ref 185 :: .int 0 :: .int 0 :: .int 0 :: .ref 186 :: .int 0 :: .int 0 :: .int 0 :: .int (-1) :: .ref 187 :: .ref 188 :: .ref 189 :: .int 0 :: .ref 190 :: .ref 191 :: .ref 192 :: .ref 193 :: .ref 194 :: .int 0 :: .ref 195 :: .ref 196 :: .ref 197 :: .int 0 :: .ref 198 :: .ref 199 :: .ref 200 :: .ref 201 :: .ref 202 :: .ref 203 :: .int 0 :: .ref 204 :: .ref 205 :: .ref 206 :: .ref 207 :: .ref 208 :: .ref 209 :: .ref 210 :: .ref 211 :: .ref 212 :: .ref 213 :: .ref 214 :: .int 0 :: .ref 215 :: .ref 216 :: .int 0 :: .ref 217 :: .ref 218 :: .ref 219 :: .ref 220 :: .ref 221 :: .int 0 :: .int 0 :: .int 0 :: .int 0 :: .ref 222 :: .int 0 :: [])))] mv_L_97 rfl rfl rfl (c_X9_thrown_369 rfl) rfl dL_law_483 (Nat.le_of_ble_eq_true rfl) (Nat.le_of_ble_eq_true rfl) rfl (Nat.le_of_ble_eq_true rfl) (Nat.le_of_ble_eq_true rfl) (Nat.le_of_ble_eq_true rfl) rfl ?_
  refine aw_iload C dL_law_486 rfl ?_
  refine aw_icmp_eq C 493 dL_law_488 (by decide) (fun _ => ?_) (fun q => absurd (by decide) q)
  refine aw_iload C dL_law_493 rfl ?_
  refine aw_if_ne C 510 dL_law_495 (by decide) (fun _ => ?_) (fun q => absurd q (by decide))
  refine aw_goto C 1629 dL_law_510 (by decide) ?_
  refine aw_fl [some (.retAddr b), none, none, none, some (.int 0), none, none, none] (by simp [SubL]) ?_
  exact al_tail C S0 (Nat.le_of_ble_eq_true rfl) (Nat.le_of_ble_eq_true rfl)

set_option maxHeartbeats 4000000 in
set_option maxRecDepth 100000 in
theorem lc_7_cb {X : GX} {p : Program} {l : Launch} {e : Env} {s : State} {m : MethodId} {below : List Frame} {meth : Method} {c : Code} {b : Nat} {xs : Nat → Int32} {f : AH} {n : Nat} {a2 : Int32} {a3 : Int32} {a4 : Int32} {a5 : Int32} {g74 : Nat → Option Nat} (C : CC X p l room_1 s m #[Value.ref b] meth c RL cL_law 8 ret) (S0 : SC X b 6 xs s) (hl0 : l.stackTraces = false) (e1 : xs 1 = 1) (e2 : xs 2 = a2) (q2 : 1 ≤ a2.toInt ∧ a2.toInt ≤ 40) (e3 : xs 3 = a3) (e4 : xs 4 = a4) (e5 : xs 5 = a5) (h0 : f 0 = some (.inr (8, [.ref 1, .ref 3, .ref 8, .ref 13, .ref 18, .ref 59, .ref 115, .ref 171, .ref 178, .int 0, .int 0, .int 0, .int 0, .int (-1)]))) (h3 : f 3 = some (.inr (7, [.ref 4, .int 0, .int (-1), .int 0, .int 1, .int 0, .null, .int 0, .ref 6, .ref 7]))) (h8 : f 8 = some (.inr (7, [.ref 9, .int 0, .int (-1), .int 0, .int 1, .int 0, .null, .int 0, .ref 11, .ref 12]))) (h11 : f 11 = some (.inl (2, 4, .inr (.inr (fun _ => none))))) (h6 : f 6 = some (.inl (2, 4, .inr (.inr (fun _ => none))))) (h12 : f 12 = some (.inl (2, 40, .inr (.inr (fun _ => none))))) (h7 : f 7 = some (.inl (2, 40, .inr (.inr (fun _ => none))))) (h59 : f 59 = some (.inr (1, [.ref 60, .ref 62, .ref 74, .int 0, .ref 68, .ref 71, .ref 64, .ref 66]))) (h60 : f 60 = some (.inr (5, [.ref 61, .int 0]))) (h62 : f 62 = some (.inr (5, [.ref 63, .int 0]))) (h68 : f 68 = some (.inr (6, [.ref 69, .int 0, .int 0, .int 0, .int 0, .int 0, .int 0, .int 0, .int 0, .int 0]))) (h74 : f 74 = some (.inl (1, 40, .inr (.inr g74)))) (h4 : f 4 = some (.inr (5, [.ref 5, .int 0]))) (h171 : f 171 = some (.inr (0, [.ref 172, .ref 174, .ref 176, .int 0]))) (h172 : f 172 = some (.inr (5, [.ref 173, .int 0]))) (h18 : f 18 = some (.inl (3, 8, .inr (.inr (va_up (va_up (va_up (va_up (va_up (va_up (va_up (va_up (fun _ => none) 0 (some 19)) 1 (some 24)) 2 (some 29)) 3 (some 34)) 4 (some 39)) 5 (some 44)) 6 (some 49)) 7 (some 54)))))) (h19 : f 19 = some (.inr (7, [.ref 20, .int 0, .int (-1), .int 0, .int 1, .int 0, .null, .int 0, .ref 22, .ref 23]))) (h22 : f 22 = some (.inl (2, 4, .inr (.inr (fun _ => none))))) (h23 : f 23 = some (.inl (2, 40, .inr (.inr (fun _ => none))))) (h223 : f 223 = some (.inl (4, 1, .inr (.inl (fun _ => 0))))) (h181 : f 181 = some (.inr (9, (.int 0 :: .ref 182 :: .ref 183 :: .ref 184 :: .ref 185 :: .int 0 :: .int 0 :: .int 0 :: .ref 186 :: .int 0 :: .int 0 :: .int 0 :: .int (-1) :: .ref 187 :: .ref 188 :: .ref 189 :: .int 0 :: .ref 190 :: .ref 191 :: .ref 192 :: .ref 193 :: .ref 194 :: .int 0 :: .ref 195 :: .ref 196 :: .ref 197 :: .int 0 :: .ref 198 :: .ref 199 :: .ref 200 :: .ref 201 :: .ref 202 :: .ref 203 :: .int 0 :: .ref 204 :: .ref 205 :: .ref 206 :: .ref 207 :: .ref 208 :: .ref 209 :: .ref 210 :: .ref 211 :: .ref 212 :: .ref 213 :: .ref 214 :: .int 0 :: .ref 215 :: .ref 216 :: .int 0 :: .ref 217 :: .ref 218 :: .ref 219 :: .ref 220 :: .ref 221 :: .int 0 :: .int 0 :: .int 0 :: .int 0 :: .ref 222 :: .int 0 :: [])))) (h183 : f 183 = some (.inl (0, 4347, .inl (fun _ => 0)))) (h182 : f 182 = some (.inl (0, 4347, .inl (tl (upd (upd (fun _ => 0) 2 (-1)) 4 1) 40)))) (h185 : f 185 = some (.inl (0, 34776, .inl (fun _ => 0)))) : AW X p l e room_1 s m #[Value.ref b] below meth c 8 (lw_Z below #[Value.ref b] s) f n 1000 300000 445 [some (.retAddr b), some (.ref 0), some (.ref 181), some (.ref 223), some (.int 0), none, none, none] [] := by
  refine ao_start ?_
  obtain ⟨q2a, q2b⟩ := q2
  refine aw_ald_n C dL_law_445 rfl ?_
  refine aw_raw_n C dL_law_446 rfl ?_
  refine aw_iload C dL_law_447 rfl ?_
  refine aw_iconst C 1 dL_law_449 ki_1 ?_
  refine ae_iadd C 1 dL_law_450 (by decide) ?_
  refine aw_sld C S0 1 (by unfold vp_in; decide) (by decide : _ = 1) e1 dL_law_451 ?_
  refine aw_raw_n C dL_law_452 rfl ?_
  refine aw_iload C dL_law_453 rfl ?_
  refine aw_iconst C 2 dL_law_455 ki_2 ?_
  refine ae_iadd C 2 dL_law_456 (by decide) ?_
  refine aw_sld C S0 a2 (by unfold vp_in; decide) (by decide : _ = 2) e2 dL_law_457 ?_
  refine aw_ald_n C dL_law_458 rfl ?_
  refine aw_callSW C [.ref 0, .int 1, .int a2, .ref 223] mw_L_116 (c_L_rule_405 ⟨by omega, by omega⟩ h0 h3 h8 h11 h6 h12 h7 h59 h60 h62 h68 h74 h4 h171 h172 h18 h19 h22 h23 h223) rfl dL_law_459 (Nat.le_of_ble_eq_true rfl) (Nat.le_of_ble_eq_true rfl) rfl (Nat.le_of_ble_eq_true rfl) (Nat.le_of_ble_eq_true rfl) (Nat.le_of_ble_eq_true rfl) (fun v9 f9 n9 h9 => ?_)
  obtain ⟨rfl, rfl, rfl⟩ := h9
  refine ao_flat [(223, .inl (4, 1, .inr (.inl (vp_updL (fun _ => 0) 0 0)))), (8, .inr (7, [.ref 4, .int 0, .int (-1), .int 0, .int 1, .int 0, .null, .int 0, .ref 11, .ref 12])), (68, .inr (6, [.ref 4, .int 0, .int 0, .int 0, .int 0, .int 0, .int 0, .int 0, .int 0, .int 0])), (59, .inr (1, [.ref 60, .ref 62, .ref 74, .int 0, .ref 68, .ref 71, .ref 64, .ref 66])), (3, .inr (7, [.ref 4, .int 0, .int (-1), .int 0, .int a2, .int 0, .null, .int 0, .ref 6, .ref 7])), (0, .inr (8, [.ref 1, .ref 3, .ref 8, .ref 13, .ref 18, .ref 59, .ref 115, .ref 171, .ref 178, .int 0, .int 0, .int 1, .int 0, .int (-1)])), (19, .inr (7, [.ref 4, .int 0, .int (-1), .int 0, .int 1, .int 0, .null, .int 0, .ref 22, .ref 23]))] rfl ?_
  refine aw_istore C dL_law_462 (by decide) rfl ?_
  refine aw_nl [some (.retAddr b), some (.ref 0), some (.ref 181), some (.ref 223), some (.int 0), some (.int 0), none, none] rfl ?_
  refine aw_ald_n C dL_law_464 rfl ?_
  refine aw_raw_n C dL_law_465 rfl ?_
  refine aw_iload C dL_law_466 rfl ?_
  refine aw_iconst C 1 dL_law_468 ki_1 ?_
  refine ae_iadd C 1 dL_law_469 (by decide) ?_
  refine aw_sld C S0 1 (by unfold vp_in; decide) (by decide : _ = 1) e1 dL_law_470 ?_
  refine aw_raw_n C dL_law_471 rfl ?_
  refine aw_iload C dL_law_472 rfl ?_
  refine aw_iconst C 2 dL_law_474 ki_2 ?_
  refine ae_iadd C 2 dL_law_475 (by decide) ?_
  refine aw_sld C S0 a2 (by unfold vp_in; decide) (by decide : _ = 2) e2 dL_law_476 ?_
  refine ao_callV C (ci := 9) (b := 181) [.int 1, .int a2] [(223, .inl (4, 1, .inr (.inl (vp_updL (fun _ => 0) 0 0)))), (8, .inr (7, [.ref 4, .int 0, .int (-1), .int 0, .int 1, .int 0, .null, .int 0, .ref 11, .ref 12])), (68, .inr (6, [.ref 4, .int 0, .int 0, .int 0, .int 0, .int 0, .int 0, .int 0, .int 0, .int 0])), (59, .inr (1, [.ref 60, .ref 62, .ref 74, .int 0, .ref 68, .ref 71, .ref 64, .ref 66])), (3, .inr (7, [.ref 4, .int 0, .int (-1), .int 0, .int a2, .int 0, .null, .int 0, .ref 6, .ref 7])), (0, .inr (8, [.ref 1, .ref 3, .ref 8, .ref 13, .ref 18, .ref 59, .ref 115, .ref 171, .ref 178, .int 0, .int 0, .int 1, .int 0, .int (-1)])), (19, .inr (7, [.ref 4, .int 0, .int (-1), .int 0, .int 1, .int 0, .null, .int 0, .ref 22, .ref 23])), (185, .inl (0, 34776, .inl (cpy (cpy (tl (upd (upd (fun _ => 0) 2 (-1)) 4 1) 40) (fun _ => 0) 4347) (fun _ => 0) 4347))), (182, .inl (0, 4347, .inl (tl (upd (tl (upd (upd (fun _ => 0) 2 (-1)) 4 1) 40) 4 a2) 40))), (183, .inl (0, 4347, .inl (cpy (tl (upd (upd (fun _ => 0) 2 (-1)) 4 1) 40) (fun _ => 0) 4347))), (181, .inr (9, (.int 0 :: .ref 182 :: .ref 183 :: .ref 184 :: .ref 185 :: .int 1 :: .int 0 :: .int 0 :: .ref 186 :: .int 0 :: .int 0 :: .int 0 :: .int (-1) :: .ref 187 :: .ref 188 :: .ref 189 :: .int 0 :: .ref 190 :: .ref 191 :: .ref 192 :: .ref 193 :: .ref 194 :: .int 0 :: .ref 195 :: .ref 196 :: .ref 197 :: .int 0 :: .ref 198 :: .ref 199 :: .ref 200 :: .ref 201 :: .ref 202 :: .ref 203 :: .int 0 :: .ref 204 :: .ref 205 :: .ref 206 :: .ref 207 :: .ref 208 :: .ref 209 :: .ref 210 :: .ref 211 :: .ref 212 :: .ref 213 :: .ref 214 :: .int 0 :: .ref 215 :: .ref 216 :: .int 0 :: .ref 217 :: .ref 218 :: .ref 219 :: .ref 220 :: .ref 221 :: .int 0 :: .int 0 :: .int 0 :: .int 0 :: .ref 222 :: .int 0 :: [])))] mv_L_119 rfl rfl h181 (c_X9_rule_411 ⟨by omega, by omega⟩ h181 h183 h182 h185) rfl dL_law_477 (Nat.le_of_ble_eq_true rfl) (Nat.le_of_ble_eq_true rfl) rfl (Nat.le_of_ble_eq_true rfl) (Nat.le_of_ble_eq_true rfl) (Nat.le_of_ble_eq_true rfl) rfl ?_
  refine aw_istore C dL_law_480 (by decide) rfl ?_
  refine aw_nl [some (.retAddr b), some (.ref 0), some (.ref 181), some (.ref 223), some (.int 0), some (.int 0), some (.int 0), none] rfl ?_
  refine aw_ald_n C dL_law_482 rfl ?_
  refine ao_callV C (ci := 9) (b := 181) [] [(223, .inl (4, 1, .inr (.inl (vp_updL (fun _ => 0) 0 0)))), (8, .inr (7, [.ref 4, .int 0, .int (-1), .int 0, .int 1, .int 0, .null, .int 0, .ref 11, .ref 12])), (68, .inr (6, [.ref 4, .int 0, .int 0, .int 0, .int 0, .int 0, .int 0, .int 0, .int 0, .int 0])), (59, .inr (1, [.ref 60, .ref 62, .ref 74, .int 0, .ref 68, .ref 71, .ref 64, .ref 66])), (3, .inr (7, [.ref 4, .int 0, .int (-1), .int 0, .int a2, .int 0, .null, .int 0, .ref 6, .ref 7])), (0, .inr (8, [.ref 1, .ref 3, .ref 8, .ref 13, .ref 18, .ref 59, .ref 115, .ref 171, .ref 178, .int 0, .int 0, .int 1, .int 0, .int (-1)])), (19, .inr (7, [.ref 4, .int 0, .int (-1), .int 0, .int 1, .int 0, .null, .int 0, .ref 22, .ref 23])), (185, .inl (0, 34776, .inl (cpy (cpy (tl (upd (upd (fun _ => 0) 2 (-1)) 4 1) 40) (fun _ => 0) 4347) (fun _ => 0) 4347))), (182, .inl (0, 4347, .inl (tl (upd (tl (upd (upd (fun _ => 0) 2 (-1)) 4 1) 40) 4 a2) 40))), (183, .inl (0, 4347, .inl (cpy (tl (upd (upd (fun _ => 0) 2 (-1)) 4 1) 40) (fun _ => 0) 4347))), (181, .inr (9, (.int 0 :: .ref 182 :: .ref 183 :: .ref 184 :: .ref 185 :: .int 1 :: .int 0 :: .int 0 :: .ref 186 :: .int 0 :: .int 0 :: .int 0 :: .int (-1) :: .ref 187 :: .ref 188 :: .ref 189 :: .int 0 :: .ref 190 :: .ref 191 :: .ref 192 :: .ref 193 :: .ref 194 :: .int 0 :: .ref 195 :: .ref 196 :: .ref 197 :: .int 0 :: .ref 198 :: .ref 199 :: .ref 200 :: .ref 201 :: .ref 202 :: .ref 203 :: .int 0 :: .ref 204 :: .ref 205 :: .ref 206 :: .ref 207 :: .ref 208 :: .ref 209 :: .ref 210 :: .ref 211 :: .ref 212 :: .ref 213 :: .ref 214 :: .int 0 :: .ref 215 :: .ref 216 :: .int 0 :: .ref 217 :: .ref 218 :: .ref 219 :: .ref 220 :: .ref 221 :: .int 0 :: .int 0 :: .int 0 :: .int 0 :: .ref 222 :: .int 0 :: [])))] mv_L_97 rfl rfl rfl (c_X9_thrown_239 rfl) rfl dL_law_483 (Nat.le_of_ble_eq_true rfl) (Nat.le_of_ble_eq_true rfl) rfl (Nat.le_of_ble_eq_true rfl) (Nat.le_of_ble_eq_true rfl) (Nat.le_of_ble_eq_true rfl) rfl ?_
  refine aw_iload C dL_law_486 rfl ?_
  refine aw_icmp_eq C 493 dL_law_488 (by decide) (fun _ => ?_) (fun q => absurd (by decide) q)
  refine aw_iload C dL_law_493 rfl ?_
  refine aw_if_ne C 510 dL_law_495 (by decide) (fun q => absurd (by decide) q) (fun _ => ?_)
  refine aw_ald_n C dL_law_498 rfl ?_
  refine aw_iconst C 0 dL_law_499 ki_0 ?_
  refine ao_lald C 0 rfl (by unfold vp_in; decide) (by decide : _ = 0) rfl dL_law_500 ?_
  refine aw_iload C dL_law_501 rfl ?_
  refine ae_i2l C 0 dL_law_503 (by decide) ?_
  refine ae_lcmp C 0 dL_law_504 (by decide) ?_
  refine aw_if_eq C 510 dL_law_505 (by decide) (fun _ => ?_) (fun q => absurd (by decide) q)
  refine aw_goto C 1629 dL_law_510 (by decide) ?_
  refine aw_fl [some (.retAddr b), none, none, none, some (.int 0), none, none, none] (by simp [SubL]) ?_
  exact al_tail C S0 (Nat.le_of_ble_eq_true rfl) (Nat.le_of_ble_eq_true rfl)

set_option maxHeartbeats 4000000 in
set_option maxRecDepth 100000 in
theorem lc_7_cc {X : GX} {p : Program} {l : Launch} {e : Env} {s : State} {m : MethodId} {below : List Frame} {meth : Method} {c : Code} {b : Nat} {xs : Nat → Int32} {f : AH} {n : Nat} {a2 : Int32} {a3 : Int32} {a4 : Int32} {a5 : Int32} (C : CC X p l room_1 s m #[Value.ref b] meth c RL cL_law 8 ret) (S0 : SC X b 6 xs s) (hl0 : l.stackTraces = false) (e1 : xs 1 = 1) (e2 : xs 2 = a2) (q2 : 41 ≤ a2.toInt ∧ a2.toInt ≤ 2147483647) (e3 : xs 3 = a3) (e4 : xs 4 = a4) (e5 : xs 5 = a5) (h0 : f 0 = some (.inr (8, [.ref 1, .ref 3, .ref 8, .ref 13, .ref 18, .ref 59, .ref 115, .ref 171, .ref 178, .int 0, .int 0, .int 0, .int 0, .int (-1)]))) (h181 : f 181 = some (.inr (9, (.int 0 :: .ref 182 :: .ref 183 :: .ref 184 :: .ref 185 :: .int 0 :: .int 0 :: .int 0 :: .ref 186 :: .int 0 :: .int 0 :: .int 0 :: .int (-1) :: .ref 187 :: .ref 188 :: .ref 189 :: .int 0 :: .ref 190 :: .ref 191 :: .ref 192 :: .ref 193 :: .ref 194 :: .int 0 :: .ref 195 :: .ref 196 :: .ref 197 :: .int 0 :: .ref 198 :: .ref 199 :: .ref 200 :: .ref 201 :: .ref 202 :: .ref 203 :: .int 0 :: .ref 204 :: .ref 205 :: .ref 206 :: .ref 207 :: .ref 208 :: .ref 209 :: .ref 210 :: .ref 211 :: .ref 212 :: .ref 213 :: .ref 214 :: .int 0 :: .ref 215 :: .ref 216 :: .int 0 :: .ref 217 :: .ref 218 :: .ref 219 :: .ref 220 :: .ref 221 :: .int 0 :: .int 0 :: .int 0 :: .int 0 :: .ref 222 :: .int 0 :: [])))) : AW X p l e room_1 s m #[Value.ref b] below meth c 8 (lw_Z below #[Value.ref b] s) f n 1000 300000 445 [some (.retAddr b), some (.ref 0), some (.ref 181), some (.ref 223), some (.int 0), none, none, none] [] := by
  refine ao_start ?_
  obtain ⟨q2a, q2b⟩ := q2
  refine aw_ald_n C dL_law_445 rfl ?_
  refine aw_raw_n C dL_law_446 rfl ?_
  refine aw_iload C dL_law_447 rfl ?_
  refine aw_iconst C 1 dL_law_449 ki_1 ?_
  refine ae_iadd C 1 dL_law_450 (by decide) ?_
  refine aw_sld C S0 1 (by unfold vp_in; decide) (by decide : _ = 1) e1 dL_law_451 ?_
  refine aw_raw_n C dL_law_452 rfl ?_
  refine aw_iload C dL_law_453 rfl ?_
  refine aw_iconst C 2 dL_law_455 ki_2 ?_
  refine ae_iadd C 2 dL_law_456 (by decide) ?_
  refine aw_sld C S0 a2 (by unfold vp_in; decide) (by decide : _ = 2) e2 dL_law_457 ?_
  refine aw_ald_n C dL_law_458 rfl ?_
  refine aw_callSW C [.ref 0, .int 1, .int a2, .ref 223] mw_L_116 (c_L_rule_413 hl0 ⟨by omega, by omega⟩ h0) rfl dL_law_459 (Nat.le_of_ble_eq_true rfl) (Nat.le_of_ble_eq_true rfl) rfl (Nat.le_of_ble_eq_true rfl) (Nat.le_of_ble_eq_true rfl) (Nat.le_of_ble_eq_true rfl) (fun v9 f9 n9 h9 => ?_)
  obtain ⟨rfl, rfl⟩ := h9
  refine ao_flat [] rfl ?_
  refine aw_istore C dL_law_462 (by decide) rfl ?_
  refine aw_nl [some (.retAddr b), some (.ref 0), some (.ref 181), some (.ref 223), some (.int 0), some (.int 2), none, none] rfl ?_
  refine aw_ald_n C dL_law_464 rfl ?_
  refine aw_raw_n C dL_law_465 rfl ?_
  refine aw_iload C dL_law_466 rfl ?_
  refine aw_iconst C 1 dL_law_468 ki_1 ?_
  refine ae_iadd C 1 dL_law_469 (by decide) ?_
  refine aw_sld C S0 1 (by unfold vp_in; decide) (by decide : _ = 1) e1 dL_law_470 ?_
  refine aw_raw_n C dL_law_471 rfl ?_
  refine aw_iload C dL_law_472 rfl ?_
  refine aw_iconst C 2 dL_law_474 ki_2 ?_
  refine ae_iadd C 2 dL_law_475 (by decide) ?_
  refine aw_sld C S0 a2 (by unfold vp_in; decide) (by decide : _ = 2) e2 dL_law_476 ?_
  refine ao_callV C (ci := 9) (b := 181) [.int 1, .int a2] [(181, .inr (9, (.int 2 :: .ref 182 :: .ref 183 :: .ref 184 :: .ref 185 :: .int 0 :: .int 0 :: .int 0 :: .ref 186 :: .int 0 :: .int 0 :: .int 0 :: .int (-1) :: .ref 187 :: .ref 188 :: .ref 189 :: .int 0 :: .ref 190 :: .ref 191 :: .ref 192 :: .ref 193 :: .ref 194 :: .int 0 :: .ref 195 :: .ref 196 :: .ref 197 :: .int 0 :: .ref 198 :: .ref 199 :: .ref 200 :: .ref 201 :: .ref 202 :: .ref 203 :: .int 0 :: .ref 204 :: .ref 205 :: .ref 206 :: .ref 207 :: .ref 208 :: .ref 209 :: .ref 210 :: .ref 211 :: .ref 212 :: .ref 213 :: .ref 214 :: .int 0 :: .ref 215 :: .ref 216 :: .int 0 :: .ref 217 :: .ref 218 :: .ref 219 :: .ref 220 :: .ref 221 :: .int 0 :: .int 0 :: .int 0 :: .int 0 :: .ref 222 :: .int 0 :: [])))] mv_L_119 rfl rfl h181 (c_X9_rule_415 ⟨by omega, by omega⟩ h181) rfl dL_law_477 (Nat.le_of_ble_eq_true rfl) (Nat.le_of_ble_eq_true rfl) rfl (Nat.le_of_ble_eq_true rfl) (Nat.le_of_ble_eq_true rfl) (Nat.le_of_ble_eq_true rfl) rfl ?_
  refine aw_istore C dL_law_480 (by decide) rfl ?_
  refine aw_nl [some (.retAddr b), some (.ref 0), some (.ref 181), some (.ref 223), some (.int 0), some (.int 2), some (.int 0), none] rfl ?_
  refine aw_ald_n C dL_law_482 rfl ?_
  refine ao_callV C (ci := 9) (b := 181) [] [(181, .inr (9, (.int 2 :: .ref 182 :: .ref 183 :: .ref 184 :: .ref 185 :: .int 0 :: .int 0 :: .int 0 :: .ref 186 :: .int 0 :: .int 0 :: .int 0 :: .int (-1) :: .ref 187 :: .ref 188 :: .ref 189 :: .int 0 :: .ref 190 :: .ref 191 :: .ref 192 :: .ref 193 :: .ref 194 :: .int 0 :: .ref 195 :: .ref 196 :: .ref 197 :: .int 0 :: .ref 198 :: .ref 199 :: .ref 200 :: .ref 201 :: .ref 202 :: .ref 203 :: .int 0 :: .ref 204 :: .ref 205 :: .ref 206 :: .ref 207 :: .ref 208 :: .ref 209 :: .ref 210 :: .ref 211 :: .ref 212 :: .ref 213 :: .ref 214 :: .int 0 :: .ref 215 :: .ref 216 :: .int 0 :: .ref 217 :: .ref 218 :: .ref 219 :: .ref 220 :: .ref 221 :: .int 0 :: .int 0 :: .int 0 :: .int 0 :: .ref 222 :: .int 0 :: [])))] mv_L_97 rfl rfl rfl (c_X9_thrown_369 rfl) rfl dL_law_483 (Nat.le_of_ble_eq_true rfl) (Nat.le_of_ble_eq_true rfl) rfl (Nat.le_of_ble_eq_true rfl) (Nat.le_of_ble_eq_true rfl) (Nat.le_of_ble_eq_true rfl) rfl ?_
  refine aw_iload C dL_law_486 rfl ?_
  refine aw_icmp_eq C 493 dL_law_488 (by decide) (fun _ => ?_) (fun q => absurd (by decide) q)
  refine aw_iload C dL_law_493 rfl ?_
  refine aw_if_ne C 510 dL_law_495 (by decide) (fun _ => ?_) (fun q => absurd q (by decide))
  refine aw_goto C 1629 dL_law_510 (by decide) ?_
  refine aw_fl [some (.retAddr b), none, none, none, some (.int 0), none, none, none] (by simp [SubL]) ?_
  exact al_tail C S0 (Nat.le_of_ble_eq_true rfl) (Nat.le_of_ble_eq_true rfl)

set_option maxHeartbeats 4000000 in
set_option maxRecDepth 100000 in
theorem lc_7_d {X : GX} {p : Program} {l : Launch} {e : Env} {s : State} {m : MethodId} {below : List Frame} {meth : Method} {c : Code} {b : Nat} {xs : Nat → Int32} {f : AH} {n : Nat} {a1 : Int32} {a2 : Int32} {a3 : Int32} {a4 : Int32} {a5 : Int32} (C : CC X p l room_1 s m #[Value.ref b] meth c RL cL_law 8 ret) (S0 : SC X b 6 xs s) (hl0 : l.stackTraces = false) (e1 : xs 1 = a1) (q1 : 2 ≤ a1.toInt ∧ a1.toInt ≤ 2147483647) (e2 : xs 2 = a2) (e3 : xs 3 = a3) (e4 : xs 4 = a4) (e5 : xs 5 = a5) (h0 : f 0 = some (.inr (8, [.ref 1, .ref 3, .ref 8, .ref 13, .ref 18, .ref 59, .ref 115, .ref 171, .ref 178, .int 0, .int 0, .int 0, .int 0, .int (-1)]))) (h181 : f 181 = some (.inr (9, (.int 0 :: .ref 182 :: .ref 183 :: .ref 184 :: .ref 185 :: .int 0 :: .int 0 :: .int 0 :: .ref 186 :: .int 0 :: .int 0 :: .int 0 :: .int (-1) :: .ref 187 :: .ref 188 :: .ref 189 :: .int 0 :: .ref 190 :: .ref 191 :: .ref 192 :: .ref 193 :: .ref 194 :: .int 0 :: .ref 195 :: .ref 196 :: .ref 197 :: .int 0 :: .ref 198 :: .ref 199 :: .ref 200 :: .ref 201 :: .ref 202 :: .ref 203 :: .int 0 :: .ref 204 :: .ref 205 :: .ref 206 :: .ref 207 :: .ref 208 :: .ref 209 :: .ref 210 :: .ref 211 :: .ref 212 :: .ref 213 :: .ref 214 :: .int 0 :: .ref 215 :: .ref 216 :: .int 0 :: .ref 217 :: .ref 218 :: .ref 219 :: .ref 220 :: .ref 221 :: .int 0 :: .int 0 :: .int 0 :: .int 0 :: .ref 222 :: .int 0 :: [])))) : AW X p l e room_1 s m #[Value.ref b] below meth c 8 (lw_Z below #[Value.ref b] s) f n 1000 300000 445 [some (.retAddr b), some (.ref 0), some (.ref 181), some (.ref 223), some (.int 0), none, none, none] [] := by
  refine ao_start ?_
  obtain ⟨q1a, q1b⟩ := q1
  refine aw_ald_n C dL_law_445 rfl ?_
  refine aw_raw_n C dL_law_446 rfl ?_
  refine aw_iload C dL_law_447 rfl ?_
  refine aw_iconst C 1 dL_law_449 ki_1 ?_
  refine ae_iadd C 1 dL_law_450 (by decide) ?_
  refine aw_sld C S0 a1 (by unfold vp_in; decide) (by decide : _ = 1) e1 dL_law_451 ?_
  refine aw_raw_n C dL_law_452 rfl ?_
  refine aw_iload C dL_law_453 rfl ?_
  refine aw_iconst C 2 dL_law_455 ki_2 ?_
  refine ae_iadd C 2 dL_law_456 (by decide) ?_
  refine aw_sld C S0 a2 (by unfold vp_in; decide) (by decide : _ = 2) e2 dL_law_457 ?_
  refine aw_ald_n C dL_law_458 rfl ?_
  refine aw_callSW C [.ref 0, .int a1, .int a2, .ref 223] mw_L_116 (c_L_rule_417 hl0 ⟨by omega, by omega⟩ h0) rfl dL_law_459 (Nat.le_of_ble_eq_true rfl) (Nat.le_of_ble_eq_true rfl) rfl (Nat.le_of_ble_eq_true rfl) (Nat.le_of_ble_eq_true rfl) (Nat.le_of_ble_eq_true rfl) (fun v9 f9 n9 h9 => ?_)
  obtain ⟨rfl, rfl⟩ := h9
  refine ao_flat [] rfl ?_
  refine aw_istore C dL_law_462 (by decide) rfl ?_
  refine aw_nl [some (.retAddr b), some (.ref 0), some (.ref 181), some (.ref 223), some (.int 0), some (.int 1), none, none] rfl ?_
  refine aw_ald_n C dL_law_464 rfl ?_
  refine aw_raw_n C dL_law_465 rfl ?_
  refine aw_iload C dL_law_466 rfl ?_
  refine aw_iconst C 1 dL_law_468 ki_1 ?_
  refine ae_iadd C 1 dL_law_469 (by decide) ?_
  refine aw_sld C S0 a1 (by unfold vp_in; decide) (by decide : _ = 1) e1 dL_law_470 ?_
  refine aw_raw_n C dL_law_471 rfl ?_
  refine aw_iload C dL_law_472 rfl ?_
  refine aw_iconst C 2 dL_law_474 ki_2 ?_
  refine ae_iadd C 2 dL_law_475 (by decide) ?_
  refine aw_sld C S0 a2 (by unfold vp_in; decide) (by decide : _ = 2) e2 dL_law_476 ?_
  refine ao_callV C (ci := 9) (b := 181) [.int a1, .int a2] [(181, .inr (9, (.int 1 :: .ref 182 :: .ref 183 :: .ref 184 :: .ref 185 :: .int 0 :: .int 0 :: .int 0 :: .ref 186 :: .int 0 :: .int 0 :: .int 0 :: .int (-1) :: .ref 187 :: .ref 188 :: .ref 189 :: .int 0 :: .ref 190 :: .ref 191 :: .ref 192 :: .ref 193 :: .ref 194 :: .int 0 :: .ref 195 :: .ref 196 :: .ref 197 :: .int 0 :: .ref 198 :: .ref 199 :: .ref 200 :: .ref 201 :: .ref 202 :: .ref 203 :: .int 0 :: .ref 204 :: .ref 205 :: .ref 206 :: .ref 207 :: .ref 208 :: .ref 209 :: .ref 210 :: .ref 211 :: .ref 212 :: .ref 213 :: .ref 214 :: .int 0 :: .ref 215 :: .ref 216 :: .int 0 :: .ref 217 :: .ref 218 :: .ref 219 :: .ref 220 :: .ref 221 :: .int 0 :: .int 0 :: .int 0 :: .int 0 :: .ref 222 :: .int 0 :: [])))] mv_L_119 rfl rfl h181 (c_X9_rule_418 ⟨by omega, by omega⟩ h181) rfl dL_law_477 (Nat.le_of_ble_eq_true rfl) (Nat.le_of_ble_eq_true rfl) rfl (Nat.le_of_ble_eq_true rfl) (Nat.le_of_ble_eq_true rfl) (Nat.le_of_ble_eq_true rfl) rfl ?_
  refine aw_istore C dL_law_480 (by decide) rfl ?_
  refine aw_nl [some (.retAddr b), some (.ref 0), some (.ref 181), some (.ref 223), some (.int 0), some (.int 1), some (.int 0), none] rfl ?_
  refine aw_ald_n C dL_law_482 rfl ?_
  refine ao_callV C (ci := 9) (b := 181) [] [(181, .inr (9, (.int 1 :: .ref 182 :: .ref 183 :: .ref 184 :: .ref 185 :: .int 0 :: .int 0 :: .int 0 :: .ref 186 :: .int 0 :: .int 0 :: .int 0 :: .int (-1) :: .ref 187 :: .ref 188 :: .ref 189 :: .int 0 :: .ref 190 :: .ref 191 :: .ref 192 :: .ref 193 :: .ref 194 :: .int 0 :: .ref 195 :: .ref 196 :: .ref 197 :: .int 0 :: .ref 198 :: .ref 199 :: .ref 200 :: .ref 201 :: .ref 202 :: .ref 203 :: .int 0 :: .ref 204 :: .ref 205 :: .ref 206 :: .ref 207 :: .ref 208 :: .ref 209 :: .ref 210 :: .ref 211 :: .ref 212 :: .ref 213 :: .ref 214 :: .int 0 :: .ref 215 :: .ref 216 :: .int 0 :: .ref 217 :: .ref 218 :: .ref 219 :: .ref 220 :: .ref 221 :: .int 0 :: .int 0 :: .int 0 :: .int 0 :: .ref 222 :: .int 0 :: [])))] mv_L_97 rfl rfl rfl (c_X9_thrown_208 rfl) rfl dL_law_483 (Nat.le_of_ble_eq_true rfl) (Nat.le_of_ble_eq_true rfl) rfl (Nat.le_of_ble_eq_true rfl) (Nat.le_of_ble_eq_true rfl) (Nat.le_of_ble_eq_true rfl) rfl ?_
  refine aw_iload C dL_law_486 rfl ?_
  refine aw_icmp_eq C 493 dL_law_488 (by decide) (fun _ => ?_) (fun q => absurd (by decide) q)
  refine aw_iload C dL_law_493 rfl ?_
  refine aw_if_ne C 510 dL_law_495 (by decide) (fun _ => ?_) (fun q => absurd q (by decide))
  refine aw_goto C 1629 dL_law_510 (by decide) ?_
  refine aw_fl [some (.retAddr b), none, none, none, some (.int 0), none, none, none] (by simp [SubL]) ?_
  exact al_tail C S0 (Nat.le_of_ble_eq_true rfl) (Nat.le_of_ble_eq_true rfl)

set_option maxHeartbeats 4000000 in
set_option maxRecDepth 100000 in
theorem lc_8_x {X : GX} {p : Program} {l : Launch} {e : Env} {s : State} {m : MethodId} {below : List Frame} {meth : Method} {c : Code} {b : Nat} {xs : Nat → Int32} {f : AH} {n : Nat} {a1 : Int32} {a2 : Int32} {a3 : Int32} {a4 : Int32} {a5 : Int32} (C : CC X p l room_1 s m #[Value.ref b] meth c RL cL_law 8 ret) (S0 : SC X b 6 xs s) (hl0 : l.stackTraces = false) (e1 : xs 1 = a1) (e2 : xs 2 = a2) (e3 : xs 3 = a3) (e4 : xs 4 = a4) (e5 : xs 5 = a5) (h0 : f 0 = some (.inr (8, [.ref 1, .ref 3, .ref 8, .ref 13, .ref 18, .ref 59, .ref 115, .ref 171, .ref 178, .int 0, .int 0, .int 0, .int 0, .int (-1)]))) (h1 : f 1 = some (.inr (5, [.ref 2, .int 0]))) (h181 : f 181 = some (.inr (9, (.int 0 :: .ref 182 :: .ref 183 :: .ref 184 :: .ref 185 :: .int 0 :: .int 0 :: .int 0 :: .ref 186 :: .int 0 :: .int 0 :: .int 0 :: .int (-1) :: .ref 187 :: .ref 188 :: .ref 189 :: .int 0 :: .ref 190 :: .ref 191 :: .ref 192 :: .ref 193 :: .ref 194 :: .int 0 :: .ref 195 :: .ref 196 :: .ref 197 :: .int 0 :: .ref 198 :: .ref 199 :: .ref 200 :: .ref 201 :: .ref 202 :: .ref 203 :: .int 0 :: .ref 204 :: .ref 205 :: .ref 206 :: .ref 207 :: .ref 208 :: .ref 209 :: .ref 210 :: .ref 211 :: .ref 212 :: .ref 213 :: .ref 214 :: .int 0 :: .ref 215 :: .ref 216 :: .int 0 :: .ref 217 :: .ref 218 :: .ref 219 :: .ref 220 :: .ref 221 :: .int 0 :: .int 0 :: .int 0 :: .int 0 :: .ref 222 :: .int 0 :: [])))) : AW X p l e room_1 s m #[Value.ref b] below meth c 8 (lw_Z below #[Value.ref b] s) f n 1000 300000 513 [some (.retAddr b), some (.ref 0), some (.ref 181), some (.ref 223), some (.int 0), none, none, none] [] := by
  refine ao_start ?_
  refine aw_ald_n C dL_law_513 rfl ?_
  refine aw_ald_n C dL_law_514 rfl ?_
  refine aw_callSW C [.ref 0, .ref 223] mw_L_120 (c_L_lock_422 hl0 h0 h1) rfl dL_law_515 (Nat.le_of_ble_eq_true rfl) (Nat.le_of_ble_eq_true rfl) rfl (Nat.le_of_ble_eq_true rfl) (Nat.le_of_ble_eq_true rfl) (Nat.le_of_ble_eq_true rfl) (fun v9 f9 n9 h9 => ?_)
  obtain ⟨rfl, rfl⟩ := h9
  refine ao_flat [] rfl ?_
  refine aw_istore C dL_law_518 (by decide) rfl ?_
  refine aw_nl [some (.retAddr b), some (.ref 0), some (.ref 181), some (.ref 223), some (.int 0), some (.int 1), none, none] rfl ?_
  refine aw_ald_n C dL_law_520 rfl ?_
  refine ao_callV C (ci := 9) (b := 181) [] [(181, .inr (9, (.int 1 :: .ref 182 :: .ref 183 :: .ref 184 :: .ref 185 :: .int 0 :: .int 0 :: .int 0 :: .ref 186 :: .int 0 :: .int 0 :: .int 0 :: .int (-1) :: .ref 187 :: .ref 188 :: .ref 189 :: .int 0 :: .ref 190 :: .ref 191 :: .ref 192 :: .ref 193 :: .ref 194 :: .int 0 :: .ref 195 :: .ref 196 :: .ref 197 :: .int 0 :: .ref 198 :: .ref 199 :: .ref 200 :: .ref 201 :: .ref 202 :: .ref 203 :: .int 0 :: .ref 204 :: .ref 205 :: .ref 206 :: .ref 207 :: .ref 208 :: .ref 209 :: .ref 210 :: .ref 211 :: .ref 212 :: .ref 213 :: .ref 214 :: .int 0 :: .ref 215 :: .ref 216 :: .int 0 :: .ref 217 :: .ref 218 :: .ref 219 :: .ref 220 :: .ref 221 :: .int 0 :: .int 0 :: .int 0 :: .int 0 :: .ref 222 :: .int 0 :: [])))] mv_L_122 rfl rfl h181 (c_X9_lock_425 h181) rfl dL_law_521 (Nat.le_of_ble_eq_true rfl) (Nat.le_of_ble_eq_true rfl) rfl (Nat.le_of_ble_eq_true rfl) (Nat.le_of_ble_eq_true rfl) (Nat.le_of_ble_eq_true rfl) rfl ?_
  refine aw_istore C dL_law_524 (by decide) rfl ?_
  refine aw_nl [some (.retAddr b), some (.ref 0), some (.ref 181), some (.ref 223), some (.int 0), some (.int 1), some (.int 0), none] rfl ?_
  refine aw_ald_n C dL_law_526 rfl ?_
  refine ao_callV C (ci := 9) (b := 181) [] [(181, .inr (9, (.int 1 :: .ref 182 :: .ref 183 :: .ref 184 :: .ref 185 :: .int 0 :: .int 0 :: .int 0 :: .ref 186 :: .int 0 :: .int 0 :: .int 0 :: .int (-1) :: .ref 187 :: .ref 188 :: .ref 189 :: .int 0 :: .ref 190 :: .ref 191 :: .ref 192 :: .ref 193 :: .ref 194 :: .int 0 :: .ref 195 :: .ref 196 :: .ref 197 :: .int 0 :: .ref 198 :: .ref 199 :: .ref 200 :: .ref 201 :: .ref 202 :: .ref 203 :: .int 0 :: .ref 204 :: .ref 205 :: .ref 206 :: .ref 207 :: .ref 208 :: .ref 209 :: .ref 210 :: .ref 211 :: .ref 212 :: .ref 213 :: .ref 214 :: .int 0 :: .ref 215 :: .ref 216 :: .int 0 :: .ref 217 :: .ref 218 :: .ref 219 :: .ref 220 :: .ref 221 :: .int 0 :: .int 0 :: .int 0 :: .int 0 :: .ref 222 :: .int 0 :: [])))] mv_L_97 rfl rfl rfl (c_X9_thrown_208 rfl) rfl dL_law_527 (Nat.le_of_ble_eq_true rfl) (Nat.le_of_ble_eq_true rfl) rfl (Nat.le_of_ble_eq_true rfl) (Nat.le_of_ble_eq_true rfl) (Nat.le_of_ble_eq_true rfl) rfl ?_
  refine aw_iload C dL_law_530 rfl ?_
  refine aw_icmp_eq C 537 dL_law_532 (by decide) (fun _ => ?_) (fun q => absurd (by decide) q)
  refine aw_iload C dL_law_537 rfl ?_
  refine aw_if_ne C 554 dL_law_539 (by decide) (fun _ => ?_) (fun q => absurd q (by decide))
  refine aw_goto C 1629 dL_law_554 (by decide) ?_
  refine aw_fl [some (.retAddr b), none, none, none, some (.int 0), none, none, none] (by simp [SubL]) ?_
  exact al_tail C S0 (Nat.le_of_ble_eq_true rfl) (Nat.le_of_ble_eq_true rfl)

set_option maxHeartbeats 4000000 in
set_option maxRecDepth 100000 in
theorem lc_9_x {X : GX} {p : Program} {l : Launch} {e : Env} {s : State} {m : MethodId} {below : List Frame} {meth : Method} {c : Code} {b : Nat} {xs : Nat → Int32} {f : AH} {n : Nat} {a1 : Int32} {a2 : Int32} {a3 : Int32} {a4 : Int32} {a5 : Int32} {g74 : Nat → Option Nat} (C : CC X p l room_1 s m #[Value.ref b] meth c RL cL_law 8 ret) (S0 : SC X b 6 xs s) (hl0 : l.stackTraces = false) (e1 : xs 1 = a1) (e2 : xs 2 = a2) (e3 : xs 3 = a3) (e4 : xs 4 = a4) (e5 : xs 5 = a5) (h0 : f 0 = some (.inr (8, [.ref 1, .ref 3, .ref 8, .ref 13, .ref 18, .ref 59, .ref 115, .ref 171, .ref 178, .int 0, .int 0, .int 0, .int 0, .int (-1)]))) (h3 : f 3 = some (.inr (7, [.ref 4, .int 0, .int (-1), .int 0, .int 1, .int 0, .null, .int 0, .ref 6, .ref 7]))) (h8 : f 8 = some (.inr (7, [.ref 9, .int 0, .int (-1), .int 0, .int 1, .int 0, .null, .int 0, .ref 11, .ref 12]))) (h11 : f 11 = some (.inl (2, 4, .inr (.inr (fun _ => none))))) (h6 : f 6 = some (.inl (2, 4, .inr (.inr (fun _ => none))))) (h12 : f 12 = some (.inl (2, 40, .inr (.inr (fun _ => none))))) (h7 : f 7 = some (.inl (2, 40, .inr (.inr (fun _ => none))))) (h59 : f 59 = some (.inr (1, [.ref 60, .ref 62, .ref 74, .int 0, .ref 68, .ref 71, .ref 64, .ref 66]))) (h60 : f 60 = some (.inr (5, [.ref 61, .int 0]))) (h62 : f 62 = some (.inr (5, [.ref 63, .int 0]))) (h68 : f 68 = some (.inr (6, [.ref 69, .int 0, .int 0, .int 0, .int 0, .int 0, .int 0, .int 0, .int 0, .int 0]))) (h74 : f 74 = some (.inl (1, 40, .inr (.inr g74)))) (h4 : f 4 = some (.inr (5, [.ref 5, .int 0]))) (h171 : f 171 = some (.inr (0, [.ref 172, .ref 174, .ref 176, .int 0]))) (h172 : f 172 = some (.inr (5, [.ref 173, .int 0]))) (h18 : f 18 = some (.inl (3, 8, .inr (.inr (va_up (va_up (va_up (va_up (va_up (va_up (va_up (va_up (fun _ => none) 0 (some 19)) 1 (some 24)) 2 (some 29)) 3 (some 34)) 4 (some 39)) 5 (some 44)) 6 (some 49)) 7 (some 54)))))) (h19 : f 19 = some (.inr (7, [.ref 20, .int 0, .int (-1), .int 0, .int 1, .int 0, .null, .int 0, .ref 22, .ref 23]))) (h22 : f 22 = some (.inl (2, 4, .inr (.inr (fun _ => none))))) (h23 : f 23 = some (.inl (2, 40, .inr (.inr (fun _ => none))))) (h181 : f 181 = some (.inr (9, (.int 0 :: .ref 182 :: .ref 183 :: .ref 184 :: .ref 185 :: .int 0 :: .int 0 :: .int 0 :: .ref 186 :: .int 0 :: .int 0 :: .int 0 :: .int (-1) :: .ref 187 :: .ref 188 :: .ref 189 :: .int 0 :: .ref 190 :: .ref 191 :: .ref 192 :: .ref 193 :: .ref 194 :: .int 0 :: .ref 195 :: .ref 196 :: .ref 197 :: .int 0 :: .ref 198 :: .ref 199 :: .ref 200 :: .ref 201 :: .ref 202 :: .ref 203 :: .int 0 :: .ref 204 :: .ref 205 :: .ref 206 :: .ref 207 :: .ref 208 :: .ref 209 :: .ref 210 :: .ref 211 :: .ref 212 :: .ref 213 :: .ref 214 :: .int 0 :: .ref 215 :: .ref 216 :: .int 0 :: .ref 217 :: .ref 218 :: .ref 219 :: .ref 220 :: .ref 221 :: .int 0 :: .int 0 :: .int 0 :: .int 0 :: .ref 222 :: .int 0 :: [])))) (h183 : f 183 = some (.inl (0, 4347, .inl (fun _ => 0)))) (h182 : f 182 = some (.inl (0, 4347, .inl (tl (upd (upd (fun _ => 0) 2 (-1)) 4 1) 40)))) (h185 : f 185 = some (.inl (0, 34776, .inl (fun _ => 0)))) : AW X p l e room_1 s m #[Value.ref b] below meth c 8 (lw_Z below #[Value.ref b] s) f n 1000 300000 557 [some (.retAddr b), some (.ref 0), some (.ref 181), some (.ref 223), some (.int 0), none, none, none] [] := by
  refine ao_start ?_
  refine aw_ald_n C dL_law_557 rfl ?_
  refine ao_callV C (ci := 8) (b := 0) [] [(19, .inr (7, [.ref 4, .int 0, .int (-1), .int 0, .int 1, .int 0, .null, .int 0, .ref 22, .ref 23])), (0, .inr (8, [.ref 1, .ref 3, .ref 8, .ref 13, .ref 18, .ref 59, .ref 115, .ref 171, .ref 178, .int 0, .int 0, .int 1, .int 0, .int (-1)])), (3, .inr (7, [.ref 4, .int 0, .int (-1), .int 0, .int 1, .int 0, .null, .int 0, .ref 6, .ref 7])), (59, .inr (1, [.ref 60, .ref 62, .ref 74, .int 0, .ref 68, .ref 71, .ref 64, .ref 66])), (68, .inr (6, [.ref 4, .int 0, .int 0, .int 0, .int 0, .int 0, .int 0, .int 0, .int 0, .int 0])), (8, .inr (7, [.ref 4, .int 0, .int (-1), .int 0, .int 1, .int 0, .null, .int 0, .ref 11, .ref 12]))] mv_L_123 rfl rfl h0 (c_X8_unlock_427 h0 h3 h8 h11 h6 h12 h7 h59 h60 h62 h68 h74 h4 h171 h172 h18 h19 h22 h23) rfl dL_law_558 (Nat.le_of_ble_eq_true rfl) (Nat.le_of_ble_eq_true rfl) rfl (Nat.le_of_ble_eq_true rfl) (Nat.le_of_ble_eq_true rfl) (Nat.le_of_ble_eq_true rfl) rfl ?_
  refine aw_ald_n C dL_law_561 rfl ?_
  refine ao_callV C (ci := 9) (b := 181) [] [(19, .inr (7, [.ref 4, .int 0, .int (-1), .int 0, .int 1, .int 0, .null, .int 0, .ref 22, .ref 23])), (0, .inr (8, [.ref 1, .ref 3, .ref 8, .ref 13, .ref 18, .ref 59, .ref 115, .ref 171, .ref 178, .int 0, .int 0, .int 1, .int 0, .int (-1)])), (3, .inr (7, [.ref 4, .int 0, .int (-1), .int 0, .int 1, .int 0, .null, .int 0, .ref 6, .ref 7])), (59, .inr (1, [.ref 60, .ref 62, .ref 74, .int 0, .ref 68, .ref 71, .ref 64, .ref 66])), (68, .inr (6, [.ref 4, .int 0, .int 0, .int 0, .int 0, .int 0, .int 0, .int 0, .int 0, .int 0])), (8, .inr (7, [.ref 4, .int 0, .int (-1), .int 0, .int 1, .int 0, .null, .int 0, .ref 11, .ref 12])), (185, .inl (0, 34776, .inl (cpy (cpy (tl (upd (upd (fun _ => 0) 2 (-1)) 4 1) 40) (fun _ => 0) 4347) (fun _ => 0) 4347))), (182, .inl (0, 4347, .inl (tl (upd (tl (upd (upd (fun _ => 0) 2 (-1)) 4 1) 40) 5 0) 40))), (181, .inr (9, (.int 0 :: .ref 182 :: .ref 183 :: .ref 184 :: .ref 185 :: .int 1 :: .int 0 :: .int 0 :: .ref 186 :: .int 0 :: .int 0 :: .int 0 :: .int (-1) :: .ref 187 :: .ref 188 :: .ref 189 :: .int 0 :: .ref 190 :: .ref 191 :: .ref 192 :: .ref 193 :: .ref 194 :: .int 0 :: .ref 195 :: .ref 196 :: .ref 197 :: .int 0 :: .ref 198 :: .ref 199 :: .ref 200 :: .ref 201 :: .ref 202 :: .ref 203 :: .int 0 :: .ref 204 :: .ref 205 :: .ref 206 :: .ref 207 :: .ref 208 :: .ref 209 :: .ref 210 :: .ref 211 :: .ref 212 :: .ref 213 :: .ref 214 :: .int 0 :: .ref 215 :: .ref 216 :: .int 0 :: .ref 217 :: .ref 218 :: .ref 219 :: .ref 220 :: .ref 221 :: .int 0 :: .int 0 :: .int 0 :: .int 0 :: .ref 222 :: .int 0 :: []))), (183, .inl (0, 4347, .inl (cpy (tl (upd (upd (fun _ => 0) 2 (-1)) 4 1) 40) (fun _ => 0) 4347)))] mv_L_126 rfl rfl h181 (c_X9_unlock_432 h181 h183 h182 h185) rfl dL_law_562 (Nat.le_of_ble_eq_true rfl) (Nat.le_of_ble_eq_true rfl) rfl (Nat.le_of_ble_eq_true rfl) (Nat.le_of_ble_eq_true rfl) (Nat.le_of_ble_eq_true rfl) rfl ?_
  refine aw_icmp_eq C 1629 dL_law_565 (by decide) (fun _ => ?_) (fun q => absurd (by decide) q)
  refine aw_fl [some (.retAddr b), none, none, none, some (.int 0), none, none, none] (by simp [SubL]) ?_
  exact al_tail C S0 (Nat.le_of_ble_eq_true rfl) (Nat.le_of_ble_eq_true rfl)

set_option maxHeartbeats 4000000 in
set_option maxRecDepth 100000 in
theorem lc_10_a {X : GX} {p : Program} {l : Launch} {e : Env} {s : State} {m : MethodId} {below : List Frame} {meth : Method} {c : Code} {b : Nat} {xs : Nat → Int32} {f : AH} {a1 : Int32} {a2 : Int32} {a3 : Int32} {a4 : Int32} {a5 : Int32} (C : CC X p l room_1 s m #[Value.ref b] meth c RL cL_law 8 ret) (S0 : SC X b 6 xs s) (hl0 : l.stackTraces = false) (e1 : xs 1 = a1) (q1 : (-2147483648) ≤ a1.toInt ∧ a1.toInt ≤ (-1)) (e2 : xs 2 = a2) (e3 : xs 3 = a3) (e4 : xs 4 = a4) (e5 : xs 5 = a5) (h0 : f 0 = some (.inr (8, [.ref 1, .ref 3, .ref 8, .ref 13, .ref 18, .ref 59, .ref 115, .ref 171, .ref 178, .int 0, .int 0, .int 0, .int 0, .int (-1)]))) (h1 : f 1 = some (.inr (5, [.ref 2, .int 0]))) (h3 : f 3 = some (.inr (7, [.ref 4, .int 0, .int (-1), .int 0, .int 1, .int 0, .null, .int 0, .ref 6, .ref 7]))) (h8 : f 8 = some (.inr (7, [.ref 9, .int 0, .int (-1), .int 0, .int 1, .int 0, .null, .int 0, .ref 11, .ref 12]))) (h11 : f 11 = some (.inl (2, 4, .inr (.inr (fun _ => none))))) (h6 : f 6 = some (.inl (2, 4, .inr (.inr (fun _ => none))))) (h12 : f 12 = some (.inl (2, 40, .inr (.inr (fun _ => none))))) (h7 : f 7 = some (.inl (2, 40, .inr (.inr (fun _ => none))))) (h59 : f 59 = some (.inr (1, [.ref 60, .ref 62, .ref 74, .int 0, .ref 68, .ref 71, .ref 64, .ref 66]))) (h181 : f 181 = some (.inr (9, (.int 0 :: .ref 182 :: .ref 183 :: .ref 184 :: .ref 185 :: .int 0 :: .int 0 :: .int 0 :: .ref 186 :: .int 0 :: .int 0 :: .int 0 :: .int (-1) :: .ref 187 :: .ref 188 :: .ref 189 :: .int 0 :: .ref 190 :: .ref 191 :: .ref 192 :: .ref 193 :: .ref 194 :: .int 0 :: .ref 195 :: .ref 196 :: .ref 197 :: .int 0 :: .ref 198 :: .ref 199 :: .ref 200 :: .ref 201 :: .ref 202 :: .ref 203 :: .int 0 :: .ref 204 :: .ref 205 :: .ref 206 :: .ref 207 :: .ref 208 :: .ref 209 :: .ref 210 :: .ref 211 :: .ref 212 :: .ref 213 :: .ref 214 :: .int 0 :: .ref 215 :: .ref 216 :: .int 0 :: .ref 217 :: .ref 218 :: .ref 219 :: .ref 220 :: .ref 221 :: .int 0 :: .int 0 :: .int 0 :: .int 0 :: .ref 222 :: .int 0 :: [])))) (h183 : f 183 = some (.inl (0, 4347, .inl (fun _ => 0)))) (h182 : f 182 = some (.inl (0, 4347, .inl (tl (upd (upd (fun _ => 0) 2 (-1)) 4 1) 40)))) : AW X p l e room_1 s m #[Value.ref b] below meth c 8 (lw_Z below #[Value.ref b] s) f 224 1000 300000 570 [some (.retAddr b), some (.ref 0), some (.ref 181), some (.ref 223), some (.int 0), none, none, none] [] := by
  refine ao_start ?_
  obtain ⟨q1a, q1b⟩ := q1
  refine aw_ald_n C dL_law_570 rfl ?_
  refine aw_raw_n C dL_law_571 rfl ?_
  refine aw_iload C dL_law_572 rfl ?_
  refine aw_iconst C 1 dL_law_574 ki_1 ?_
  refine ae_iadd C 1 dL_law_575 (by decide) ?_
  refine aw_sld C S0 a1 (by unfold vp_in; decide) (by decide : _ = 1) e1 dL_law_576 ?_
  refine aw_ald_n C dL_law_577 rfl ?_
  refine aw_callSW C [.ref 0, .int a1, .ref 223] mw_L_127 (c_L_tell_439 hl0 ⟨by omega, by omega⟩ h0 h1 h3 h8 h11 h6 h12 h7 h59) rfl dL_law_578 (Nat.le_of_ble_eq_true rfl) (Nat.le_of_ble_eq_true rfl) rfl (Nat.le_of_ble_eq_true rfl) (Nat.le_of_ble_eq_true rfl) (Nat.le_of_ble_eq_true rfl) (fun v9 f9 n9 h9 => ?_)
  obtain ⟨rfl, rfl⟩ := h9
  refine ao_flat [(224, .inr (5, [.ref 225, .int 0])), (225, .inl (0, 0, .inl (fun _ => 0))), (8, .inr (7, [.ref 4, .int 0, .int (-1), .int 0, .int 1, .int 0, .null, .int 0, .ref 11, .ref 12])), (0, .inr (8, [.ref 1, .ref 3, .ref 8, .ref 13, .ref 18, .ref 59, .ref 115, .ref 171, .ref 178, .int 0, .int 0, .int 0, .int 1, .int (-1)]))] rfl ?_
  refine aw_istore C dL_law_581 (by decide) rfl ?_
  refine aw_nl [some (.retAddr b), some (.ref 0), some (.ref 181), some (.ref 223), some (.int 0), some (.int 2), none, none] rfl ?_
  refine aw_ald_n C dL_law_583 rfl ?_
  refine aw_raw_n C dL_law_584 rfl ?_
  refine aw_iload C dL_law_585 rfl ?_
  refine aw_iconst C 1 dL_law_587 ki_1 ?_
  refine ae_iadd C 1 dL_law_588 (by decide) ?_
  refine aw_sld C S0 a1 (by unfold vp_in; decide) (by decide : _ = 1) e1 dL_law_589 ?_
  refine ao_callV C (ci := 9) (b := 181) [.int a1] [(224, .inr (5, [.ref 225, .int 0])), (225, .inl (0, 0, .inl (fun _ => 0))), (8, .inr (7, [.ref 4, .int 0, .int (-1), .int 0, .int 1, .int 0, .null, .int 0, .ref 11, .ref 12])), (0, .inr (8, [.ref 1, .ref 3, .ref 8, .ref 13, .ref 18, .ref 59, .ref 115, .ref 171, .ref 178, .int 0, .int 0, .int 0, .int 1, .int (-1)])), (182, .inl (0, 4347, .inl (cpy (cpy (tl (upd (upd (fun _ => 0) 2 (-1)) 4 1) 40) (fun _ => 0) 4347) (tl (upd (upd (fun _ => 0) 2 (-1)) 4 1) 40) 4347))), (183, .inl (0, 4347, .inl (cpy (tl (upd (upd (fun _ => 0) 2 (-1)) 4 1) 40) (fun _ => 0) 4347))), (181, .inr (9, (.int 2 :: .ref 182 :: .ref 183 :: .ref 184 :: .ref 185 :: .int 0 :: .int 0 :: .int 1 :: .ref 186 :: .int 0 :: .int 0 :: .int 0 :: .int (-1) :: .ref 187 :: .ref 188 :: .ref 189 :: .int 0 :: .ref 190 :: .ref 191 :: .ref 192 :: .ref 193 :: .ref 194 :: .int 0 :: .ref 195 :: .ref 196 :: .ref 197 :: .int 0 :: .ref 198 :: .ref 199 :: .ref 200 :: .ref 201 :: .ref 202 :: .ref 203 :: .int 0 :: .ref 204 :: .ref 205 :: .ref 206 :: .ref 207 :: .ref 208 :: .ref 209 :: .ref 210 :: .ref 211 :: .ref 212 :: .ref 213 :: .ref 214 :: .int 0 :: .ref 215 :: .ref 216 :: .int 0 :: .ref 217 :: .ref 218 :: .ref 219 :: .ref 220 :: .ref 221 :: .int 0 :: .int 0 :: .int 0 :: .int 0 :: .ref 222 :: .int 0 :: [])))] mv_L_130 rfl rfl h181 (c_X9_tell_449 ⟨by omega, by omega⟩ h181 h183 h182) rfl dL_law_590 (Nat.le_of_ble_eq_true rfl) (Nat.le_of_ble_eq_true rfl) rfl (Nat.le_of_ble_eq_true rfl) (Nat.le_of_ble_eq_true rfl) (Nat.le_of_ble_eq_true rfl) rfl ?_
  refine aw_istore C dL_law_593 (by decide) rfl ?_
  refine aw_nl [some (.retAddr b), some (.ref 0), some (.ref 181), some (.ref 223), some (.int 0), some (.int 2), some (.int 0), none] rfl ?_
  refine aw_ald_n C dL_law_595 rfl ?_
  refine ao_callV C (ci := 9) (b := 181) [] [(224, .inr (5, [.ref 225, .int 0])), (225, .inl (0, 0, .inl (fun _ => 0))), (8, .inr (7, [.ref 4, .int 0, .int (-1), .int 0, .int 1, .int 0, .null, .int 0, .ref 11, .ref 12])), (0, .inr (8, [.ref 1, .ref 3, .ref 8, .ref 13, .ref 18, .ref 59, .ref 115, .ref 171, .ref 178, .int 0, .int 0, .int 0, .int 1, .int (-1)])), (182, .inl (0, 4347, .inl (cpy (cpy (tl (upd (upd (fun _ => 0) 2 (-1)) 4 1) 40) (fun _ => 0) 4347) (tl (upd (upd (fun _ => 0) 2 (-1)) 4 1) 40) 4347))), (183, .inl (0, 4347, .inl (cpy (tl (upd (upd (fun _ => 0) 2 (-1)) 4 1) 40) (fun _ => 0) 4347))), (181, .inr (9, (.int 2 :: .ref 182 :: .ref 183 :: .ref 184 :: .ref 185 :: .int 0 :: .int 0 :: .int 1 :: .ref 186 :: .int 0 :: .int 0 :: .int 0 :: .int (-1) :: .ref 187 :: .ref 188 :: .ref 189 :: .int 0 :: .ref 190 :: .ref 191 :: .ref 192 :: .ref 193 :: .ref 194 :: .int 0 :: .ref 195 :: .ref 196 :: .ref 197 :: .int 0 :: .ref 198 :: .ref 199 :: .ref 200 :: .ref 201 :: .ref 202 :: .ref 203 :: .int 0 :: .ref 204 :: .ref 205 :: .ref 206 :: .ref 207 :: .ref 208 :: .ref 209 :: .ref 210 :: .ref 211 :: .ref 212 :: .ref 213 :: .ref 214 :: .int 0 :: .ref 215 :: .ref 216 :: .int 0 :: .ref 217 :: .ref 218 :: .ref 219 :: .ref 220 :: .ref 221 :: .int 0 :: .int 0 :: .int 0 :: .int 0 :: .ref 222 :: .int 0 :: [])))] mv_L_97 rfl rfl rfl (c_X9_thrown_450 rfl) rfl dL_law_596 (Nat.le_of_ble_eq_true rfl) (Nat.le_of_ble_eq_true rfl) rfl (Nat.le_of_ble_eq_true rfl) (Nat.le_of_ble_eq_true rfl) (Nat.le_of_ble_eq_true rfl) rfl ?_
  refine aw_iload C dL_law_599 rfl ?_
  refine aw_icmp_eq C 606 dL_law_601 (by decide) (fun _ => ?_) (fun q => absurd (by decide) q)
  refine aw_iload C dL_law_606 rfl ?_
  refine aw_if_ne C 623 dL_law_608 (by decide) (fun _ => ?_) (fun q => absurd q (by decide))
  refine aw_goto C 1629 dL_law_623 (by decide) ?_
  refine aw_fl [some (.retAddr b), none, none, none, some (.int 0), none, none, none] (by simp [SubL]) ?_
  exact al_tail C S0 (Nat.le_of_ble_eq_true rfl) (Nat.le_of_ble_eq_true rfl)

set_option maxHeartbeats 4000000 in
set_option maxRecDepth 100000 in
theorem lc_10_b {X : GX} {p : Program} {l : Launch} {e : Env} {s : State} {m : MethodId} {below : List Frame} {meth : Method} {c : Code} {b : Nat} {xs : Nat → Int32} {f : AH} {a1 : Int32} {a2 : Int32} {a3 : Int32} {a4 : Int32} {a5 : Int32} (C : CC X p l room_1 s m #[Value.ref b] meth c RL cL_law 8 ret) (S0 : SC X b 6 xs s) (hl0 : l.stackTraces = false) (e1 : xs 1 = a1) (q1 : 0 ≤ a1.toInt ∧ a1.toInt ≤ 2147483647) (e2 : xs 2 = a2) (e3 : xs 3 = a3) (e4 : xs 4 = a4) (e5 : xs 5 = a5) (h0 : f 0 = some (.inr (8, [.ref 1, .ref 3, .ref 8, .ref 13, .ref 18, .ref 59, .ref 115, .ref 171, .ref 178, .int 0, .int 0, .int 0, .int 0, .int (-1)]))) (h1 : f 1 = some (.inr (5, [.ref 2, .int 0]))) (h3 : f 3 = some (.inr (7, [.ref 4, .int 0, .int (-1), .int 0, .int 1, .int 0, .null, .int 0, .ref 6, .ref 7]))) (h8 : f 8 = some (.inr (7, [.ref 9, .int 0, .int (-1), .int 0, .int 1, .int 0, .null, .int 0, .ref 11, .ref 12]))) (h11 : f 11 = some (.inl (2, 4, .inr (.inr (fun _ => none))))) (h6 : f 6 = some (.inl (2, 4, .inr (.inr (fun _ => none))))) (h12 : f 12 = some (.inl (2, 40, .inr (.inr (fun _ => none))))) (h7 : f 7 = some (.inl (2, 40, .inr (.inr (fun _ => none))))) (h59 : f 59 = some (.inr (1, [.ref 60, .ref 62, .ref 74, .int 0, .ref 68, .ref 71, .ref 64, .ref 66]))) (h181 : f 181 = some (.inr (9, (.int 0 :: .ref 182 :: .ref 183 :: .ref 184 :: .ref 185 :: .int 0 :: .int 0 :: .int 0 :: .ref 186 :: .int 0 :: .int 0 :: .int 0 :: .int (-1) :: .ref 187 :: .ref 188 :: .ref 189 :: .int 0 :: .ref 190 :: .ref 191 :: .ref 192 :: .ref 193 :: .ref 194 :: .int 0 :: .ref 195 :: .ref 196 :: .ref 197 :: .int 0 :: .ref 198 :: .ref 199 :: .ref 200 :: .ref 201 :: .ref 202 :: .ref 203 :: .int 0 :: .ref 204 :: .ref 205 :: .ref 206 :: .ref 207 :: .ref 208 :: .ref 209 :: .ref 210 :: .ref 211 :: .ref 212 :: .ref 213 :: .ref 214 :: .int 0 :: .ref 215 :: .ref 216 :: .int 0 :: .ref 217 :: .ref 218 :: .ref 219 :: .ref 220 :: .ref 221 :: .int 0 :: .int 0 :: .int 0 :: .int 0 :: .ref 222 :: .int 0 :: [])))) (h183 : f 183 = some (.inl (0, 4347, .inl (fun _ => 0)))) (h182 : f 182 = some (.inl (0, 4347, .inl (tl (upd (upd (fun _ => 0) 2 (-1)) 4 1) 40)))) : AW X p l e room_1 s m #[Value.ref b] below meth c 8 (lw_Z below #[Value.ref b] s) f 224 1000 300000 570 [some (.retAddr b), some (.ref 0), some (.ref 181), some (.ref 223), some (.int 0), none, none, none] [] := by
  refine ao_start ?_
  obtain ⟨q1a, q1b⟩ := q1
  refine aw_ald_n C dL_law_570 rfl ?_
  refine aw_raw_n C dL_law_571 rfl ?_
  refine aw_iload C dL_law_572 rfl ?_
  refine aw_iconst C 1 dL_law_574 ki_1 ?_
  refine ae_iadd C 1 dL_law_575 (by decide) ?_
  refine aw_sld C S0 a1 (by unfold vp_in; decide) (by decide : _ = 1) e1 dL_law_576 ?_
  refine aw_ald_n C dL_law_577 rfl ?_
  refine aw_callSW C [.ref 0, .int a1, .ref 223] mw_L_127 (c_L_tell_455 hl0 ⟨by omega, by omega⟩ h0 h1 h3 h8 h11 h6 h12 h7 h59) rfl dL_law_578 (Nat.le_of_ble_eq_true rfl) (Nat.le_of_ble_eq_true rfl) rfl (Nat.le_of_ble_eq_true rfl) (Nat.le_of_ble_eq_true rfl) (Nat.le_of_ble_eq_true rfl) (fun v9 f9 n9 h9 => ?_)
  obtain ⟨rfl, rfl⟩ := h9
  refine ao_flat [(224, .inr (5, [.ref 225, .int 0])), (225, .inl (0, 0, .inl (fun _ => 0))), (8, .inr (7, [.ref 4, .int 0, .int (-1), .int 0, .int 1, .int 0, .null, .int 0, .ref 11, .ref 12])), (0, .inr (8, [.ref 1, .ref 3, .ref 8, .ref 13, .ref 18, .ref 59, .ref 115, .ref 171, .ref 178, .int 0, .int 0, .int 0, .int 1, .int (-1)]))] rfl ?_
  refine aw_istore C dL_law_581 (by decide) rfl ?_
  refine aw_nl [some (.retAddr b), some (.ref 0), some (.ref 181), some (.ref 223), some (.int 0), some (.int 2), none, none] rfl ?_
  refine aw_ald_n C dL_law_583 rfl ?_
  refine aw_raw_n C dL_law_584 rfl ?_
  refine aw_iload C dL_law_585 rfl ?_
  refine aw_iconst C 1 dL_law_587 ki_1 ?_
  refine ae_iadd C 1 dL_law_588 (by decide) ?_
  refine aw_sld C S0 a1 (by unfold vp_in; decide) (by decide : _ = 1) e1 dL_law_589 ?_
  refine ao_callV C (ci := 9) (b := 181) [.int a1] [(224, .inr (5, [.ref 225, .int 0])), (225, .inl (0, 0, .inl (fun _ => 0))), (8, .inr (7, [.ref 4, .int 0, .int (-1), .int 0, .int 1, .int 0, .null, .int 0, .ref 11, .ref 12])), (0, .inr (8, [.ref 1, .ref 3, .ref 8, .ref 13, .ref 18, .ref 59, .ref 115, .ref 171, .ref 178, .int 0, .int 0, .int 0, .int 1, .int (-1)])), (182, .inl (0, 4347, .inl (cpy (cpy (tl (upd (upd (fun _ => 0) 2 (-1)) 4 1) 40) (fun _ => 0) 4347) (tl (upd (upd (fun _ => 0) 2 (-1)) 4 1) 40) 4347))), (183, .inl (0, 4347, .inl (cpy (tl (upd (upd (fun _ => 0) 2 (-1)) 4 1) 40) (fun _ => 0) 4347))), (181, .inr (9, (.int 2 :: .ref 182 :: .ref 183 :: .ref 184 :: .ref 185 :: .int 0 :: .int 0 :: .int 1 :: .ref 186 :: .int 0 :: .int 0 :: .int 0 :: .int (-1) :: .ref 187 :: .ref 188 :: .ref 189 :: .int 0 :: .ref 190 :: .ref 191 :: .ref 192 :: .ref 193 :: .ref 194 :: .int 0 :: .ref 195 :: .ref 196 :: .ref 197 :: .int 0 :: .ref 198 :: .ref 199 :: .ref 200 :: .ref 201 :: .ref 202 :: .ref 203 :: .int 0 :: .ref 204 :: .ref 205 :: .ref 206 :: .ref 207 :: .ref 208 :: .ref 209 :: .ref 210 :: .ref 211 :: .ref 212 :: .ref 213 :: .ref 214 :: .int 0 :: .ref 215 :: .ref 216 :: .int 0 :: .ref 217 :: .ref 218 :: .ref 219 :: .ref 220 :: .ref 221 :: .int 0 :: .int 0 :: .int 0 :: .int 0 :: .ref 222 :: .int 0 :: [])))] mv_L_130 rfl rfl h181 (c_X9_tell_459 ⟨by omega, by omega⟩ h181 h183 h182) rfl dL_law_590 (Nat.le_of_ble_eq_true rfl) (Nat.le_of_ble_eq_true rfl) rfl (Nat.le_of_ble_eq_true rfl) (Nat.le_of_ble_eq_true rfl) (Nat.le_of_ble_eq_true rfl) rfl ?_
  refine aw_istore C dL_law_593 (by decide) rfl ?_
  refine aw_nl [some (.retAddr b), some (.ref 0), some (.ref 181), some (.ref 223), some (.int 0), some (.int 2), some (.int 0), none] rfl ?_
  refine aw_ald_n C dL_law_595 rfl ?_
  refine ao_callV C (ci := 9) (b := 181) [] [(224, .inr (5, [.ref 225, .int 0])), (225, .inl (0, 0, .inl (fun _ => 0))), (8, .inr (7, [.ref 4, .int 0, .int (-1), .int 0, .int 1, .int 0, .null, .int 0, .ref 11, .ref 12])), (0, .inr (8, [.ref 1, .ref 3, .ref 8, .ref 13, .ref 18, .ref 59, .ref 115, .ref 171, .ref 178, .int 0, .int 0, .int 0, .int 1, .int (-1)])), (182, .inl (0, 4347, .inl (cpy (cpy (tl (upd (upd (fun _ => 0) 2 (-1)) 4 1) 40) (fun _ => 0) 4347) (tl (upd (upd (fun _ => 0) 2 (-1)) 4 1) 40) 4347))), (183, .inl (0, 4347, .inl (cpy (tl (upd (upd (fun _ => 0) 2 (-1)) 4 1) 40) (fun _ => 0) 4347))), (181, .inr (9, (.int 2 :: .ref 182 :: .ref 183 :: .ref 184 :: .ref 185 :: .int 0 :: .int 0 :: .int 1 :: .ref 186 :: .int 0 :: .int 0 :: .int 0 :: .int (-1) :: .ref 187 :: .ref 188 :: .ref 189 :: .int 0 :: .ref 190 :: .ref 191 :: .ref 192 :: .ref 193 :: .ref 194 :: .int 0 :: .ref 195 :: .ref 196 :: .ref 197 :: .int 0 :: .ref 198 :: .ref 199 :: .ref 200 :: .ref 201 :: .ref 202 :: .ref 203 :: .int 0 :: .ref 204 :: .ref 205 :: .ref 206 :: .ref 207 :: .ref 208 :: .ref 209 :: .ref 210 :: .ref 211 :: .ref 212 :: .ref 213 :: .ref 214 :: .int 0 :: .ref 215 :: .ref 216 :: .int 0 :: .ref 217 :: .ref 218 :: .ref 219 :: .ref 220 :: .ref 221 :: .int 0 :: .int 0 :: .int 0 :: .int 0 :: .ref 222 :: .int 0 :: [])))] mv_L_97 rfl rfl rfl (c_X9_thrown_450 rfl) rfl dL_law_596 (Nat.le_of_ble_eq_true rfl) (Nat.le_of_ble_eq_true rfl) rfl (Nat.le_of_ble_eq_true rfl) (Nat.le_of_ble_eq_true rfl) (Nat.le_of_ble_eq_true rfl) rfl ?_
  refine aw_iload C dL_law_599 rfl ?_
  refine aw_icmp_eq C 606 dL_law_601 (by decide) (fun _ => ?_) (fun q => absurd (by decide) q)
  refine aw_iload C dL_law_606 rfl ?_
  refine aw_if_ne C 623 dL_law_608 (by decide) (fun _ => ?_) (fun q => absurd q (by decide))
  refine aw_goto C 1629 dL_law_623 (by decide) ?_
  refine aw_fl [some (.retAddr b), none, none, none, some (.int 0), none, none, none] (by simp [SubL]) ?_
  exact al_tail C S0 (Nat.le_of_ble_eq_true rfl) (Nat.le_of_ble_eq_true rfl)

set_option maxHeartbeats 4000000 in
set_option maxRecDepth 100000 in
theorem lc_11_a {X : GX} {p : Program} {l : Launch} {e : Env} {s : State} {m : MethodId} {below : List Frame} {meth : Method} {c : Code} {b : Nat} {xs : Nat → Int32} {f : AH} {n : Nat} {a1 : Int32} {a2 : Int32} {a3 : Int32} {a4 : Int32} {a5 : Int32} (C : CC X p l room_1 s m #[Value.ref b] meth c RL cL_law 8 ret) (S0 : SC X b 6 xs s) (hl0 : l.stackTraces = false) (e1 : xs 1 = a1) (q1 : (-2147483648) ≤ a1.toInt ∧ a1.toInt ≤ (-1)) (e2 : xs 2 = a2) (e3 : xs 3 = a3) (e4 : xs 4 = a4) (e5 : xs 5 = a5) (h0 : f 0 = some (.inr (8, [.ref 1, .ref 3, .ref 8, .ref 13, .ref 18, .ref 59, .ref 115, .ref 171, .ref 178, .int 0, .int 0, .int 0, .int 0, .int (-1)]))) (h3 : f 3 = some (.inr (7, [.ref 4, .int 0, .int (-1), .int 0, .int 1, .int 0, .null, .int 0, .ref 6, .ref 7]))) (h8 : f 8 = some (.inr (7, [.ref 9, .int 0, .int (-1), .int 0, .int 1, .int 0, .null, .int 0, .ref 11, .ref 12]))) (h11 : f 11 = some (.inl (2, 4, .inr (.inr (fun _ => none))))) (h6 : f 6 = some (.inl (2, 4, .inr (.inr (fun _ => none))))) (h12 : f 12 = some (.inl (2, 40, .inr (.inr (fun _ => none))))) (h7 : f 7 = some (.inl (2, 40, .inr (.inr (fun _ => none))))) (h59 : f 59 = some (.inr (1, [.ref 60, .ref 62, .ref 74, .int 0, .ref 68, .ref 71, .ref 64, .ref 66]))) (h181 : f 181 = some (.inr (9, (.int 0 :: .ref 182 :: .ref 183 :: .ref 184 :: .ref 185 :: .int 0 :: .int 0 :: .int 0 :: .ref 186 :: .int 0 :: .int 0 :: .int 0 :: .int (-1) :: .ref 187 :: .ref 188 :: .ref 189 :: .int 0 :: .ref 190 :: .ref 191 :: .ref 192 :: .ref 193 :: .ref 194 :: .int 0 :: .ref 195 :: .ref 196 :: .ref 197 :: .int 0 :: .ref 198 :: .ref 199 :: .ref 200 :: .ref 201 :: .ref 202 :: .ref 203 :: .int 0 :: .ref 204 :: .ref 205 :: .ref 206 :: .ref 207 :: .ref 208 :: .ref 209 :: .ref 210 :: .ref 211 :: .ref 212 :: .ref 213 :: .ref 214 :: .int 0 :: .ref 215 :: .ref 216 :: .int 0 :: .ref 217 :: .ref 218 :: .ref 219 :: .ref 220 :: .ref 221 :: .int 0 :: .int 0 :: .int 0 :: .int 0 :: .ref 222 :: .int 0 :: [])))) (h183 : f 183 = some (.inl (0, 4347, .inl (fun _ => 0)))) (h182 : f 182 = some (.inl (0, 4347, .inl (tl (upd (upd (fun _ => 0) 2 (-1)) 4 1) 40)))) : AW X p l e room_1 s m #[Value.ref b] below meth c 8 (lw_Z below #[Value.ref b] s) f n 1000 300000 626 [some (.retAddr b), some (.ref 0), some (.ref 181), some (.ref 223), some (.int 0), none, none, none] [] := by
  refine ao_start ?_
  obtain ⟨q1a, q1b⟩ := q1
  refine aw_ald_n C dL_law_626 rfl ?_
  refine aw_raw_n C dL_law_627 rfl ?_
  refine aw_iload C dL_law_628 rfl ?_
  refine aw_iconst C 1 dL_law_630 ki_1 ?_
  refine ae_iadd C 1 dL_law_631 (by decide) ?_
  refine aw_sld C S0 a1 (by unfold vp_in; decide) (by decide : _ = 1) e1 dL_law_632 ?_
  refine aw_ald_n C dL_law_633 rfl ?_
  refine aw_callSW C [.ref 0, .int a1, .ref 223] mw_L_131 (c_L_free_463 hl0 ⟨by omega, by omega⟩ h0 h3 h8 h11 h6 h12 h7 h59) rfl dL_law_634 (Nat.le_of_ble_eq_true rfl) (Nat.le_of_ble_eq_true rfl) rfl (Nat.le_of_ble_eq_true rfl) (Nat.le_of_ble_eq_true rfl) (Nat.le_of_ble_eq_true rfl) (fun v9 f9 n9 h9 => ?_)
  obtain ⟨rfl, rfl⟩ := h9
  refine ao_flat [(8, .inr (7, [.ref 4, .int 0, .int (-1), .int 0, .int 1, .int 0, .null, .int 0, .ref 11, .ref 12])), (0, .inr (8, [.ref 1, .ref 3, .ref 8, .ref 13, .ref 18, .ref 59, .ref 115, .ref 171, .ref 178, .int 0, .int 0, .int 0, .int 1, .int (-1)]))] rfl ?_
  refine aw_istore C dL_law_637 (by decide) rfl ?_
  refine aw_nl [some (.retAddr b), some (.ref 0), some (.ref 181), some (.ref 223), some (.int 0), some (.int 1), none, none] rfl ?_
  refine aw_ald_n C dL_law_639 rfl ?_
  refine aw_raw_n C dL_law_640 rfl ?_
  refine aw_iload C dL_law_641 rfl ?_
  refine aw_iconst C 1 dL_law_643 ki_1 ?_
  refine ae_iadd C 1 dL_law_644 (by decide) ?_
  refine aw_sld C S0 a1 (by unfold vp_in; decide) (by decide : _ = 1) e1 dL_law_645 ?_
  refine ao_callV C (ci := 9) (b := 181) [.int a1] [(8, .inr (7, [.ref 4, .int 0, .int (-1), .int 0, .int 1, .int 0, .null, .int 0, .ref 11, .ref 12])), (0, .inr (8, [.ref 1, .ref 3, .ref 8, .ref 13, .ref 18, .ref 59, .ref 115, .ref 171, .ref 178, .int 0, .int 0, .int 0, .int 1, .int (-1)])), (181, .inr (9, (.int 1 :: .ref 182 :: .ref 183 :: .ref 184 :: .ref 185 :: .int 0 :: .int 0 :: .int 1 :: .ref 186 :: .int 0 :: .int 0 :: .int 0 :: .int (-1) :: .ref 187 :: .ref 188 :: .ref 189 :: .int 0 :: .ref 190 :: .ref 191 :: .ref 192 :: .ref 193 :: .ref 194 :: .int 0 :: .ref 195 :: .ref 196 :: .ref 197 :: .int 0 :: .ref 198 :: .ref 199 :: .ref 200 :: .ref 201 :: .ref 202 :: .ref 203 :: .int 0 :: .ref 204 :: .ref 205 :: .ref 206 :: .ref 207 :: .ref 208 :: .ref 209 :: .ref 210 :: .ref 211 :: .ref 212 :: .ref 213 :: .ref 214 :: .int 0 :: .ref 215 :: .ref 216 :: .int 0 :: .ref 217 :: .ref 218 :: .ref 219 :: .ref 220 :: .ref 221 :: .int 0 :: .int 0 :: .int 0 :: .int 0 :: .ref 222 :: .int 0 :: []))), (182, .inl (0, 4347, .inl (cpy (cpy (tl (upd (upd (fun _ => 0) 2 (-1)) 4 1) 40) (fun _ => 0) 4347) (tl (upd (upd (fun _ => 0) 2 (-1)) 4 1) 40) 4347))), (183, .inl (0, 4347, .inl (cpy (tl (upd (upd (fun _ => 0) 2 (-1)) 4 1) 40) (fun _ => 0) 4347)))] mv_L_133 rfl rfl h181 (c_X9_free_470 ⟨by omega, by omega⟩ h181 h183 h182) rfl dL_law_646 (Nat.le_of_ble_eq_true rfl) (Nat.le_of_ble_eq_true rfl) rfl (Nat.le_of_ble_eq_true rfl) (Nat.le_of_ble_eq_true rfl) (Nat.le_of_ble_eq_true rfl) rfl ?_
  refine aw_istore C dL_law_649 (by decide) rfl ?_
  refine aw_nl [some (.retAddr b), some (.ref 0), some (.ref 181), some (.ref 223), some (.int 0), some (.int 1), some (.int 0), none] rfl ?_
  refine aw_ald_n C dL_law_651 rfl ?_
  refine ao_callV C (ci := 9) (b := 181) [] [(8, .inr (7, [.ref 4, .int 0, .int (-1), .int 0, .int 1, .int 0, .null, .int 0, .ref 11, .ref 12])), (0, .inr (8, [.ref 1, .ref 3, .ref 8, .ref 13, .ref 18, .ref 59, .ref 115, .ref 171, .ref 178, .int 0, .int 0, .int 0, .int 1, .int (-1)])), (181, .inr (9, (.int 1 :: .ref 182 :: .ref 183 :: .ref 184 :: .ref 185 :: .int 0 :: .int 0 :: .int 1 :: .ref 186 :: .int 0 :: .int 0 :: .int 0 :: .int (-1) :: .ref 187 :: .ref 188 :: .ref 189 :: .int 0 :: .ref 190 :: .ref 191 :: .ref 192 :: .ref 193 :: .ref 194 :: .int 0 :: .ref 195 :: .ref 196 :: .ref 197 :: .int 0 :: .ref 198 :: .ref 199 :: .ref 200 :: .ref 201 :: .ref 202 :: .ref 203 :: .int 0 :: .ref 204 :: .ref 205 :: .ref 206 :: .ref 207 :: .ref 208 :: .ref 209 :: .ref 210 :: .ref 211 :: .ref 212 :: .ref 213 :: .ref 214 :: .int 0 :: .ref 215 :: .ref 216 :: .int 0 :: .ref 217 :: .ref 218 :: .ref 219 :: .ref 220 :: .ref 221 :: .int 0 :: .int 0 :: .int 0 :: .int 0 :: .ref 222 :: .int 0 :: []))), (182, .inl (0, 4347, .inl (cpy (cpy (tl (upd (upd (fun _ => 0) 2 (-1)) 4 1) 40) (fun _ => 0) 4347) (tl (upd (upd (fun _ => 0) 2 (-1)) 4 1) 40) 4347))), (183, .inl (0, 4347, .inl (cpy (tl (upd (upd (fun _ => 0) 2 (-1)) 4 1) 40) (fun _ => 0) 4347)))] mv_L_97 rfl rfl rfl (c_X9_thrown_471 rfl) rfl dL_law_652 (Nat.le_of_ble_eq_true rfl) (Nat.le_of_ble_eq_true rfl) rfl (Nat.le_of_ble_eq_true rfl) (Nat.le_of_ble_eq_true rfl) (Nat.le_of_ble_eq_true rfl) rfl ?_
  refine aw_iload C dL_law_655 rfl ?_
  refine aw_icmp_eq C 662 dL_law_657 (by decide) (fun _ => ?_) (fun q => absurd (by decide) q)
  refine aw_iload C dL_law_662 rfl ?_
  refine aw_if_ne C 679 dL_law_664 (by decide) (fun _ => ?_) (fun q => absurd q (by decide))
  refine aw_goto C 1629 dL_law_679 (by decide) ?_
  refine aw_fl [some (.retAddr b), none, none, none, some (.int 0), none, none, none] (by simp [SubL]) ?_
  exact al_tail C S0 (Nat.le_of_ble_eq_true rfl) (Nat.le_of_ble_eq_true rfl)

set_option maxHeartbeats 4000000 in
set_option maxRecDepth 100000 in
theorem lc_11_b {X : GX} {p : Program} {l : Launch} {e : Env} {s : State} {m : MethodId} {below : List Frame} {meth : Method} {c : Code} {b : Nat} {xs : Nat → Int32} {f : AH} {n : Nat} {a1 : Int32} {a2 : Int32} {a3 : Int32} {a4 : Int32} {a5 : Int32} (C : CC X p l room_1 s m #[Value.ref b] meth c RL cL_law 8 ret) (S0 : SC X b 6 xs s) (hl0 : l.stackTraces = false) (e1 : xs 1 = a1) (q1 : 0 ≤ a1.toInt ∧ a1.toInt ≤ 2147483647) (e2 : xs 2 = a2) (e3 : xs 3 = a3) (e4 : xs 4 = a4) (e5 : xs 5 = a5) (h0 : f 0 = some (.inr (8, [.ref 1, .ref 3, .ref 8, .ref 13, .ref 18, .ref 59, .ref 115, .ref 171, .ref 178, .int 0, .int 0, .int 0, .int 0, .int (-1)]))) (h3 : f 3 = some (.inr (7, [.ref 4, .int 0, .int (-1), .int 0, .int 1, .int 0, .null, .int 0, .ref 6, .ref 7]))) (h8 : f 8 = some (.inr (7, [.ref 9, .int 0, .int (-1), .int 0, .int 1, .int 0, .null, .int 0, .ref 11, .ref 12]))) (h11 : f 11 = some (.inl (2, 4, .inr (.inr (fun _ => none))))) (h6 : f 6 = some (.inl (2, 4, .inr (.inr (fun _ => none))))) (h12 : f 12 = some (.inl (2, 40, .inr (.inr (fun _ => none))))) (h7 : f 7 = some (.inl (2, 40, .inr (.inr (fun _ => none))))) (h59 : f 59 = some (.inr (1, [.ref 60, .ref 62, .ref 74, .int 0, .ref 68, .ref 71, .ref 64, .ref 66]))) (h181 : f 181 = some (.inr (9, (.int 0 :: .ref 182 :: .ref 183 :: .ref 184 :: .ref 185 :: .int 0 :: .int 0 :: .int 0 :: .ref 186 :: .int 0 :: .int 0 :: .int 0 :: .int (-1) :: .ref 187 :: .ref 188 :: .ref 189 :: .int 0 :: .ref 190 :: .ref 191 :: .ref 192 :: .ref 193 :: .ref 194 :: .int 0 :: .ref 195 :: .ref 196 :: .ref 197 :: .int 0 :: .ref 198 :: .ref 199 :: .ref 200 :: .ref 201 :: .ref 202 :: .ref 203 :: .int 0 :: .ref 204 :: .ref 205 :: .ref 206 :: .ref 207 :: .ref 208 :: .ref 209 :: .ref 210 :: .ref 211 :: .ref 212 :: .ref 213 :: .ref 214 :: .int 0 :: .ref 215 :: .ref 216 :: .int 0 :: .ref 217 :: .ref 218 :: .ref 219 :: .ref 220 :: .ref 221 :: .int 0 :: .int 0 :: .int 0 :: .int 0 :: .ref 222 :: .int 0 :: [])))) (h183 : f 183 = some (.inl (0, 4347, .inl (fun _ => 0)))) (h182 : f 182 = some (.inl (0, 4347, .inl (tl (upd (upd (fun _ => 0) 2 (-1)) 4 1) 40)))) : AW X p l e room_1 s m #[Value.ref b] below meth c 8 (lw_Z below #[Value.ref b] s) f n 1000 300000 626 [some (.retAddr b), some (.ref 0), some (.ref 181), some (.ref 223), some (.int 0), none, none, none] [] := by
  refine ao_start ?_
  obtain ⟨q1a, q1b⟩ := q1
  refine aw_ald_n C dL_law_626 rfl ?_
  refine aw_raw_n C dL_law_627 rfl ?_
  refine aw_iload C dL_law_628 rfl ?_
  refine aw_iconst C 1 dL_law_630 ki_1 ?_
  refine ae_iadd C 1 dL_law_631 (by decide) ?_
  refine aw_sld C S0 a1 (by unfold vp_in; decide) (by decide : _ = 1) e1 dL_law_632 ?_
  refine aw_ald_n C dL_law_633 rfl ?_
  refine aw_callSW C [.ref 0, .int a1, .ref 223] mw_L_131 (c_L_free_475 hl0 ⟨by omega, by omega⟩ h0 h3 h8 h11 h6 h12 h7 h59) rfl dL_law_634 (Nat.le_of_ble_eq_true rfl) (Nat.le_of_ble_eq_true rfl) rfl (Nat.le_of_ble_eq_true rfl) (Nat.le_of_ble_eq_true rfl) (Nat.le_of_ble_eq_true rfl) (fun v9 f9 n9 h9 => ?_)
  obtain ⟨rfl, rfl⟩ := h9
  refine ao_flat [(8, .inr (7, [.ref 4, .int 0, .int (-1), .int 0, .int 1, .int 0, .null, .int 0, .ref 11, .ref 12])), (0, .inr (8, [.ref 1, .ref 3, .ref 8, .ref 13, .ref 18, .ref 59, .ref 115, .ref 171, .ref 178, .int 0, .int 0, .int 0, .int 1, .int (-1)]))] rfl ?_
  refine aw_istore C dL_law_637 (by decide) rfl ?_
  refine aw_nl [some (.retAddr b), some (.ref 0), some (.ref 181), some (.ref 223), some (.int 0), some (.int 1), none, none] rfl ?_
  refine aw_ald_n C dL_law_639 rfl ?_
  refine aw_raw_n C dL_law_640 rfl ?_
  refine aw_iload C dL_law_641 rfl ?_
  refine aw_iconst C 1 dL_law_643 ki_1 ?_
  refine ae_iadd C 1 dL_law_644 (by decide) ?_
  refine aw_sld C S0 a1 (by unfold vp_in; decide) (by decide : _ = 1) e1 dL_law_645 ?_
  refine ao_callV C (ci := 9) (b := 181) [.int a1] [(8, .inr (7, [.ref 4, .int 0, .int (-1), .int 0, .int 1, .int 0, .null, .int 0, .ref 11, .ref 12])), (0, .inr (8, [.ref 1, .ref 3, .ref 8, .ref 13, .ref 18, .ref 59, .ref 115, .ref 171, .ref 178, .int 0, .int 0, .int 0, .int 1, .int (-1)])), (181, .inr (9, (.int 1 :: .ref 182 :: .ref 183 :: .ref 184 :: .ref 185 :: .int 0 :: .int 0 :: .int 1 :: .ref 186 :: .int 0 :: .int 0 :: .int 0 :: .int (-1) :: .ref 187 :: .ref 188 :: .ref 189 :: .int 0 :: .ref 190 :: .ref 191 :: .ref 192 :: .ref 193 :: .ref 194 :: .int 0 :: .ref 195 :: .ref 196 :: .ref 197 :: .int 0 :: .ref 198 :: .ref 199 :: .ref 200 :: .ref 201 :: .ref 202 :: .ref 203 :: .int 0 :: .ref 204 :: .ref 205 :: .ref 206 :: .ref 207 :: .ref 208 :: .ref 209 :: .ref 210 :: .ref 211 :: .ref 212 :: .ref 213 :: .ref 214 :: .int 0 :: .ref 215 :: .ref 216 :: .int 0 :: .ref 217 :: .ref 218 :: .ref 219 :: .ref 220 :: .ref 221 :: .int 0 :: .int 0 :: .int 0 :: .int 0 :: .ref 222 :: .int 0 :: []))), (182, .inl (0, 4347, .inl (cpy (cpy (tl (upd (upd (fun _ => 0) 2 (-1)) 4 1) 40) (fun _ => 0) 4347) (tl (upd (upd (fun _ => 0) 2 (-1)) 4 1) 40) 4347))), (183, .inl (0, 4347, .inl (cpy (tl (upd (upd (fun _ => 0) 2 (-1)) 4 1) 40) (fun _ => 0) 4347)))] mv_L_133 rfl rfl h181 (c_X9_free_477 ⟨by omega, by omega⟩ h181 h183 h182) rfl dL_law_646 (Nat.le_of_ble_eq_true rfl) (Nat.le_of_ble_eq_true rfl) rfl (Nat.le_of_ble_eq_true rfl) (Nat.le_of_ble_eq_true rfl) (Nat.le_of_ble_eq_true rfl) rfl ?_
  refine aw_istore C dL_law_649 (by decide) rfl ?_
  refine aw_nl [some (.retAddr b), some (.ref 0), some (.ref 181), some (.ref 223), some (.int 0), some (.int 1), some (.int 0), none] rfl ?_
  refine aw_ald_n C dL_law_651 rfl ?_
  refine ao_callV C (ci := 9) (b := 181) [] [(8, .inr (7, [.ref 4, .int 0, .int (-1), .int 0, .int 1, .int 0, .null, .int 0, .ref 11, .ref 12])), (0, .inr (8, [.ref 1, .ref 3, .ref 8, .ref 13, .ref 18, .ref 59, .ref 115, .ref 171, .ref 178, .int 0, .int 0, .int 0, .int 1, .int (-1)])), (181, .inr (9, (.int 1 :: .ref 182 :: .ref 183 :: .ref 184 :: .ref 185 :: .int 0 :: .int 0 :: .int 1 :: .ref 186 :: .int 0 :: .int 0 :: .int 0 :: .int (-1) :: .ref 187 :: .ref 188 :: .ref 189 :: .int 0 :: .ref 190 :: .ref 191 :: .ref 192 :: .ref 193 :: .ref 194 :: .int 0 :: .ref 195 :: .ref 196 :: .ref 197 :: .int 0 :: .ref 198 :: .ref 199 :: .ref 200 :: .ref 201 :: .ref 202 :: .ref 203 :: .int 0 :: .ref 204 :: .ref 205 :: .ref 206 :: .ref 207 :: .ref 208 :: .ref 209 :: .ref 210 :: .ref 211 :: .ref 212 :: .ref 213 :: .ref 214 :: .int 0 :: .ref 215 :: .ref 216 :: .int 0 :: .ref 217 :: .ref 218 :: .ref 219 :: .ref 220 :: .ref 221 :: .int 0 :: .int 0 :: .int 0 :: .int 0 :: .ref 222 :: .int 0 :: []))), (182, .inl (0, 4347, .inl (cpy (cpy (tl (upd (upd (fun _ => 0) 2 (-1)) 4 1) 40) (fun _ => 0) 4347) (tl (upd (upd (fun _ => 0) 2 (-1)) 4 1) 40) 4347))), (183, .inl (0, 4347, .inl (cpy (tl (upd (upd (fun _ => 0) 2 (-1)) 4 1) 40) (fun _ => 0) 4347)))] mv_L_97 rfl rfl rfl (c_X9_thrown_471 rfl) rfl dL_law_652 (Nat.le_of_ble_eq_true rfl) (Nat.le_of_ble_eq_true rfl) rfl (Nat.le_of_ble_eq_true rfl) (Nat.le_of_ble_eq_true rfl) (Nat.le_of_ble_eq_true rfl) rfl ?_
  refine aw_iload C dL_law_655 rfl ?_
  refine aw_icmp_eq C 662 dL_law_657 (by decide) (fun _ => ?_) (fun q => absurd (by decide) q)
  refine aw_iload C dL_law_662 rfl ?_
  refine aw_if_ne C 679 dL_law_664 (by decide) (fun _ => ?_) (fun q => absurd q (by decide))
  refine aw_goto C 1629 dL_law_679 (by decide) ?_
  refine aw_fl [some (.retAddr b), none, none, none, some (.int 0), none, none, none] (by simp [SubL]) ?_
  exact al_tail C S0 (Nat.le_of_ble_eq_true rfl) (Nat.le_of_ble_eq_true rfl)

