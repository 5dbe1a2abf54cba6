set_option maxHeartbeats 4000000 in
set_option maxRecDepth 100000 in
theorem lc_12_a {X : GX} {p : Program} {l : Launch} {e : Env} {s : State} {m : MethodId} {below : List Frame} {meth : Method} {c : Code} {b : Nat} {xs : Nat → Int32} {f : AH} {n : Nat} {a1 : Int32} {a2 : Int32} {a3 : Int32} {a4 : Int32} {a5 : Int32} (C : CC X p l room_1 s m #[Value.ref b] meth c RL cL_law 8 ret) (S0 : SC X b 6 xs s) (hl0 : l.stackTraces = false) (e1 : xs 1 = a1) (q1 : (-2147483648) ≤ a1.toInt ∧ a1.toInt ≤ (-1)) (e2 : xs 2 = a2) (e3 : xs 3 = a3) (e4 : xs 4 = a4) (e5 : xs 5 = a5) (h0 : f 0 = some (.inr (8, [.ref 1, .ref 3, .ref 8, .ref 13, .ref 18, .ref 59, .ref 115, .ref 171, .ref 178, .int 0, .int 0, .int 0, .int 0, .int (-1)]))) (h3 : f 3 = some (.inr (7, [.ref 4, .int 0, .int (-1), .int 0, .int 1, .int 0, .null, .int 0, .ref 6, .ref 7]))) (h8 : f 8 = some (.inr (7, [.ref 9, .int 0, .int (-1), .int 0, .int 1, .int 0, .null, .int 0, .ref 11, .ref 12]))) (h11 : f 11 = some (.inl (2, 4, .inr (.inr (fun _ => none))))) (h6 : f 6 = some (.inl (2, 4, .inr (.inr (fun _ => none))))) (h12 : f 12 = some (.inl (2, 40, .inr (.inr (fun _ => none))))) (h7 : f 7 = some (.inl (2, 40, .inr (.inr (fun _ => none))))) (h59 : f 59 = some (.inr (1, [.ref 60, .ref 62, .ref 74, .int 0, .ref 68, .ref 71, .ref 64, .ref 66]))) (h181 : f 181 = some (.inr (9, (.int 0 :: .ref 182 :: .ref 183 :: .ref 184 :: .ref 185 :: .int 0 :: .int 0 :: .int 0 :: .ref 186 :: .int 0 :: .int 0 :: .int 0 :: .int (-1) :: .ref 187 :: .ref 188 :: .ref 189 :: .int 0 :: .ref 190 :: .ref 191 :: .ref 192 :: .ref 193 :: .ref 194 :: .int 0 :: .ref 195 :: .ref 196 :: .ref 197 :: .int 0 :: .ref 198 :: .ref 199 :: .ref 200 :: .ref 201 :: .ref 202 :: .ref 203 :: .int 0 :: .ref 204 :: .ref 205 :: .ref 206 :: .ref 207 :: .ref 208 :: .ref 209 :: .ref 210 :: .ref 211 :: .ref 212 :: .ref 213 :: .ref 214 :: .int 0 :: .ref 215 :: .ref 216 :: .int 0 :: .ref 217 :: .ref 218 :: .ref 219 :: .ref 220 :: .ref 221 :: .int 0 :: .int 0 :: .int 0 :: .int 0 :: .ref 222 :: .int 0 :: [])))) (h183 : f 183 = some (.inl (0, 4347, .inl (fun _ => 0)))) (h182 : f 182 = some (.inl (0, 4347, .inl (tl (upd (upd (fun _ => 0) 2 (-1)) 4 1) 40)))) : AW X p l e room_1 s m #[Value.ref b] below meth c 8 (lw_Z below #[Value.ref b] s) f n 1000 300000 682 [some (.retAddr b), some (.ref 0), some (.ref 181), some (.ref 223), some (.int 0), none, none, none] [] := by
  refine ao_start ?_
  obtain ⟨q1a, q1b⟩ := q1
  refine aw_ald_n C dL_law_682 rfl ?_
  refine aw_raw_n C dL_law_683 rfl ?_
  refine aw_iload C dL_law_684 rfl ?_
  refine aw_iconst C 1 dL_law_686 ki_1 ?_
  refine ae_iadd C 1 dL_law_687 (by decide) ?_
  refine aw_sld C S0 a1 (by unfold vp_in; decide) (by decide : _ = 1) e1 dL_law_688 ?_
  refine aw_ald_n C dL_law_689 rfl ?_
  refine aw_callSW C [.ref 0, .int a1, .ref 223] mw_L_134 (c_L_spread_481 hl0 ⟨by omega, by omega⟩ h0 h3 h8 h11 h6 h12 h7 h59) rfl dL_law_690 (Nat.le_of_ble_eq_true rfl) (Nat.le_of_ble_eq_true rfl) rfl (Nat.le_of_ble_eq_true rfl) (Nat.le_of_ble_eq_true rfl) (Nat.le_of_ble_eq_true rfl) (fun v9 f9 n9 h9 => ?_)
  obtain ⟨rfl, rfl⟩ := h9
  refine ao_flat [(8, .inr (7, [.ref 4, .int 0, .int (-1), .int 0, .int 1, .int 0, .null, .int 0, .ref 11, .ref 12])), (0, .inr (8, [.ref 1, .ref 3, .ref 8, .ref 13, .ref 18, .ref 59, .ref 115, .ref 171, .ref 178, .int 0, .int 0, .int 0, .int 1, .int (-1)]))] rfl ?_
  refine aw_istore C dL_law_693 (by decide) rfl ?_
  refine aw_nl [some (.retAddr b), some (.ref 0), some (.ref 181), some (.ref 223), some (.int 0), some (.int 1), none, none] rfl ?_
  refine aw_ald_n C dL_law_695 rfl ?_
  refine aw_raw_n C dL_law_696 rfl ?_
  refine aw_iload C dL_law_697 rfl ?_
  refine aw_iconst C 1 dL_law_699 ki_1 ?_
  refine ae_iadd C 1 dL_law_700 (by decide) ?_
  refine aw_sld C S0 a1 (by unfold vp_in; decide) (by decide : _ = 1) e1 dL_law_701 ?_
  refine ao_callV C (ci := 9) (b := 181) [.int a1] [(8, .inr (7, [.ref 4, .int 0, .int (-1), .int 0, .int 1, .int 0, .null, .int 0, .ref 11, .ref 12])), (0, .inr (8, [.ref 1, .ref 3, .ref 8, .ref 13, .ref 18, .ref 59, .ref 115, .ref 171, .ref 178, .int 0, .int 0, .int 0, .int 1, .int (-1)])), (182, .inl (0, 4347, .inl (cpy (cpy (tl (upd (upd (fun _ => 0) 2 (-1)) 4 1) 40) (fun _ => 0) 4347) (tl (upd (upd (fun _ => 0) 2 (-1)) 4 1) 40) 4347))), (181, .inr (9, (.int 1 :: .ref 182 :: .ref 183 :: .ref 184 :: .ref 185 :: .int 0 :: .int 0 :: .int 1 :: .ref 186 :: .int 0 :: .int 0 :: .int 0 :: .int (-1) :: .ref 187 :: .ref 188 :: .ref 189 :: .int 0 :: .ref 190 :: .ref 191 :: .ref 192 :: .ref 193 :: .ref 194 :: .int 0 :: .ref 195 :: .ref 196 :: .ref 197 :: .int 0 :: .ref 198 :: .ref 199 :: .ref 200 :: .ref 201 :: .ref 202 :: .ref 203 :: .int 0 :: .ref 204 :: .ref 205 :: .ref 206 :: .ref 207 :: .ref 208 :: .ref 209 :: .ref 210 :: .ref 211 :: .ref 212 :: .ref 213 :: .ref 214 :: .int 0 :: .ref 215 :: .ref 216 :: .int 0 :: .ref 217 :: .ref 218 :: .ref 219 :: .ref 220 :: .ref 221 :: .int 0 :: .int 0 :: .int 0 :: .int 0 :: .ref 222 :: .int 0 :: []))), (183, .inl (0, 4347, .inl (cpy (tl (upd (upd (fun _ => 0) 2 (-1)) 4 1) 40) (fun _ => 0) 4347)))] mv_L_136 rfl rfl h181 (c_X9_spread_483 ⟨by omega, by omega⟩ h181 h183 h182) rfl dL_law_702 (Nat.le_of_ble_eq_true rfl) (Nat.le_of_ble_eq_true rfl) rfl (Nat.le_of_ble_eq_true rfl) (Nat.le_of_ble_eq_true rfl) (Nat.le_of_ble_eq_true rfl) rfl ?_
  refine aw_istore C dL_law_705 (by decide) rfl ?_
  refine aw_nl [some (.retAddr b), some (.ref 0), some (.ref 181), some (.ref 223), some (.int 0), some (.int 1), some (.int 0), none] rfl ?_
  refine aw_ald_n C dL_law_707 rfl ?_
  refine ao_callV C (ci := 9) (b := 181) [] [(8, .inr (7, [.ref 4, .int 0, .int (-1), .int 0, .int 1, .int 0, .null, .int 0, .ref 11, .ref 12])), (0, .inr (8, [.ref 1, .ref 3, .ref 8, .ref 13, .ref 18, .ref 59, .ref 115, .ref 171, .ref 178, .int 0, .int 0, .int 0, .int 1, .int (-1)])), (182, .inl (0, 4347, .inl (cpy (cpy (tl (upd (upd (fun _ => 0) 2 (-1)) 4 1) 40) (fun _ => 0) 4347) (tl (upd (upd (fun _ => 0) 2 (-1)) 4 1) 40) 4347))), (181, .inr (9, (.int 1 :: .ref 182 :: .ref 183 :: .ref 184 :: .ref 185 :: .int 0 :: .int 0 :: .int 1 :: .ref 186 :: .int 0 :: .int 0 :: .int 0 :: .int (-1) :: .ref 187 :: .ref 188 :: .ref 189 :: .int 0 :: .ref 190 :: .ref 191 :: .ref 192 :: .ref 193 :: .ref 194 :: .int 0 :: .ref 195 :: .ref 196 :: .ref 197 :: .int 0 :: .ref 198 :: .ref 199 :: .ref 200 :: .ref 201 :: .ref 202 :: .ref 203 :: .int 0 :: .ref 204 :: .ref 205 :: .ref 206 :: .ref 207 :: .ref 208 :: .ref 209 :: .ref 210 :: .ref 211 :: .ref 212 :: .ref 213 :: .ref 214 :: .int 0 :: .ref 215 :: .ref 216 :: .int 0 :: .ref 217 :: .ref 218 :: .ref 219 :: .ref 220 :: .ref 221 :: .int 0 :: .int 0 :: .int 0 :: .int 0 :: .ref 222 :: .int 0 :: []))), (183, .inl (0, 4347, .inl (cpy (tl (upd (upd (fun _ => 0) 2 (-1)) 4 1) 40) (fun _ => 0) 4347)))] mv_L_97 rfl rfl rfl (c_X9_thrown_471 rfl) rfl dL_law_708 (Nat.le_of_ble_eq_true rfl) (Nat.le_of_ble_eq_true rfl) rfl (Nat.le_of_ble_eq_true rfl) (Nat.le_of_ble_eq_true rfl) (Nat.le_of_ble_eq_true rfl) rfl ?_
  refine aw_iload C dL_law_711 rfl ?_
  refine aw_icmp_eq C 718 dL_law_713 (by decide) (fun _ => ?_) (fun q => absurd (by decide) q)
  refine aw_iload C dL_law_718 rfl ?_
  refine aw_if_ne C 735 dL_law_720 (by decide) (fun _ => ?_) (fun q => absurd q (by decide))
  refine aw_goto C 1629 dL_law_735 (by decide) ?_
  refine aw_fl [some (.retAddr b), none, none, none, some (.int 0), none, none, none] (by simp [SubL]) ?_
  exact al_tail C S0 (Nat.le_of_ble_eq_true rfl) (Nat.le_of_ble_eq_true rfl)

set_option maxHeartbeats 4000000 in
set_option maxRecDepth 100000 in
theorem lc_12_b {X : GX} {p : Program} {l : Launch} {e : Env} {s : State} {m : MethodId} {below : List Frame} {meth : Method} {c : Code} {b : Nat} {xs : Nat → Int32} {f : AH} {n : Nat} {a1 : Int32} {a2 : Int32} {a3 : Int32} {a4 : Int32} {a5 : Int32} (C : CC X p l room_1 s m #[Value.ref b] meth c RL cL_law 8 ret) (S0 : SC X b 6 xs s) (hl0 : l.stackTraces = false) (e1 : xs 1 = a1) (q1 : 0 ≤ a1.toInt ∧ a1.toInt ≤ 2147483647) (e2 : xs 2 = a2) (e3 : xs 3 = a3) (e4 : xs 4 = a4) (e5 : xs 5 = a5) (h0 : f 0 = some (.inr (8, [.ref 1, .ref 3, .ref 8, .ref 13, .ref 18, .ref 59, .ref 115, .ref 171, .ref 178, .int 0, .int 0, .int 0, .int 0, .int (-1)]))) (h3 : f 3 = some (.inr (7, [.ref 4, .int 0, .int (-1), .int 0, .int 1, .int 0, .null, .int 0, .ref 6, .ref 7]))) (h8 : f 8 = some (.inr (7, [.ref 9, .int 0, .int (-1), .int 0, .int 1, .int 0, .null, .int 0, .ref 11, .ref 12]))) (h11 : f 11 = some (.inl (2, 4, .inr (.inr (fun _ => none))))) (h6 : f 6 = some (.inl (2, 4, .inr (.inr (fun _ => none))))) (h12 : f 12 = some (.inl (2, 40, .inr (.inr (fun _ => none))))) (h7 : f 7 = some (.inl (2, 40, .inr (.inr (fun _ => none))))) (h59 : f 59 = some (.inr (1, [.ref 60, .ref 62, .ref 74, .int 0, .ref 68, .ref 71, .ref 64, .ref 66]))) (h181 : f 181 = some (.inr (9, (.int 0 :: .ref 182 :: .ref 183 :: .ref 184 :: .ref 185 :: .int 0 :: .int 0 :: .int 0 :: .ref 186 :: .int 0 :: .int 0 :: .int 0 :: .int (-1) :: .ref 187 :: .ref 188 :: .ref 189 :: .int 0 :: .ref 190 :: .ref 191 :: .ref 192 :: .ref 193 :: .ref 194 :: .int 0 :: .ref 195 :: .ref 196 :: .ref 197 :: .int 0 :: .ref 198 :: .ref 199 :: .ref 200 :: .ref 201 :: .ref 202 :: .ref 203 :: .int 0 :: .ref 204 :: .ref 205 :: .ref 206 :: .ref 207 :: .ref 208 :: .ref 209 :: .ref 210 :: .ref 211 :: .ref 212 :: .ref 213 :: .ref 214 :: .int 0 :: .ref 215 :: .ref 216 :: .int 0 :: .ref 217 :: .ref 218 :: .ref 219 :: .ref 220 :: .ref 221 :: .int 0 :: .int 0 :: .int 0 :: .int 0 :: .ref 222 :: .int 0 :: [])))) (h183 : f 183 = some (.inl (0, 4347, .inl (fun _ => 0)))) (h182 : f 182 = some (.inl (0, 4347, .inl (tl (upd (upd (fun _ => 0) 2 (-1)) 4 1) 40)))) : AW X p l e room_1 s m #[Value.ref b] below meth c 8 (lw_Z below #[Value.ref b] s) f n 1000 300000 682 [some (.retAddr b), some (.ref 0), some (.ref 181), some (.ref 223), some (.int 0), none, none, none] [] := by
  refine ao_start ?_
  obtain ⟨q1a, q1b⟩ := q1
  refine aw_ald_n C dL_law_682 rfl ?_
  refine aw_raw_n C dL_law_683 rfl ?_
  refine aw_iload C dL_law_684 rfl ?_
  refine aw_iconst C 1 dL_law_686 ki_1 ?_
  refine ae_iadd C 1 dL_law_687 (by decide) ?_
  refine aw_sld C S0 a1 (by unfold vp_in; decide) (by decide : _ = 1) e1 dL_law_688 ?_
  refine aw_ald_n C dL_law_689 rfl ?_
  refine aw_callSW C [.ref 0, .int a1, .ref 223] mw_L_134 (c_L_spread_487 hl0 ⟨by omega, by omega⟩ h0 h3 h8 h11 h6 h12 h7 h59) rfl dL_law_690 (Nat.le_of_ble_eq_true rfl) (Nat.le_of_ble_eq_true rfl) rfl (Nat.le_of_ble_eq_true rfl) (Nat.le_of_ble_eq_true rfl) (Nat.le_of_ble_eq_true rfl) (fun v9 f9 n9 h9 => ?_)
  obtain ⟨rfl, rfl⟩ := h9
  refine ao_flat [(8, .inr (7, [.ref 4, .int 0, .int (-1), .int 0, .int 1, .int 0, .null, .int 0, .ref 11, .ref 12])), (0, .inr (8, [.ref 1, .ref 3, .ref 8, .ref 13, .ref 18, .ref 59, .ref 115, .ref 171, .ref 178, .int 0, .int 0, .int 0, .int 1, .int (-1)]))] rfl ?_
  refine aw_istore C dL_law_693 (by decide) rfl ?_
  refine aw_nl [some (.retAddr b), some (.ref 0), some (.ref 181), some (.ref 223), some (.int 0), some (.int 1), none, none] rfl ?_
  refine aw_ald_n C dL_law_695 rfl ?_
  refine aw_raw_n C dL_law_696 rfl ?_
  refine aw_iload C dL_law_697 rfl ?_
  refine aw_iconst C 1 dL_law_699 ki_1 ?_
  refine ae_iadd C 1 dL_law_700 (by decide) ?_
  refine aw_sld C S0 a1 (by unfold vp_in; decide) (by decide : _ = 1) e1 dL_law_701 ?_
  refine ao_callV C (ci := 9) (b := 181) [.int a1] [(8, .inr (7, [.ref 4, .int 0, .int (-1), .int 0, .int 1, .int 0, .null, .int 0, .ref 11, .ref 12])), (0, .inr (8, [.ref 1, .ref 3, .ref 8, .ref 13, .ref 18, .ref 59, .ref 115, .ref 171, .ref 178, .int 0, .int 0, .int 0, .int 1, .int (-1)])), (182, .inl (0, 4347, .inl (cpy (cpy (tl (upd (upd (fun _ => 0) 2 (-1)) 4 1) 40) (fun _ => 0) 4347) (tl (upd (upd (fun _ => 0) 2 (-1)) 4 1) 40) 4347))), (181, .inr (9, (.int 1 :: .ref 182 :: .ref 183 :: .ref 184 :: .ref 185 :: .int 0 :: .int 0 :: .int 1 :: .ref 186 :: .int 0 :: .int 0 :: .int 0 :: .int (-1) :: .ref 187 :: .ref 188 :: .ref 189 :: .int 0 :: .ref 190 :: .ref 191 :: .ref 192 :: .ref 193 :: .ref 194 :: .int 0 :: .ref 195 :: .ref 196 :: .ref 197 :: .int 0 :: .ref 198 :: .ref 199 :: .ref 200 :: .ref 201 :: .ref 202 :: .ref 203 :: .int 0 :: .ref 204 :: .ref 205 :: .ref 206 :: .ref 207 :: .ref 208 :: .ref 209 :: .ref 210 :: .ref 211 :: .ref 212 :: .ref 213 :: .ref 214 :: .int 0 :: .ref 215 :: .ref 216 :: .int 0 :: .ref 217 :: .ref 218 :: .ref 219 :: .ref 220 :: .ref 221 :: .int 0 :: .int 0 :: .int 0 :: .int 0 :: .ref 222 :: .int 0 :: []))), (183, .inl (0, 4347, .inl (cpy (tl (upd (upd (fun _ => 0) 2 (-1)) 4 1) 40) (fun _ => 0) 4347)))] mv_L_136 rfl rfl h181 (c_X9_spread_489 ⟨by omega, by omega⟩ h181 h183 h182) rfl dL_law_702 (Nat.le_of_ble_eq_true rfl) (Nat.le_of_ble_eq_true rfl) rfl (Nat.le_of_ble_eq_true rfl) (Nat.le_of_ble_eq_true rfl) (Nat.le_of_ble_eq_true rfl) rfl ?_
  refine aw_istore C dL_law_705 (by decide) rfl ?_
  refine aw_nl [some (.retAddr b), some (.ref 0), some (.ref 181), some (.ref 223), some (.int 0), some (.int 1), some (.int 0), none] rfl ?_
  refine aw_ald_n C dL_law_707 rfl ?_
  refine ao_callV C (ci := 9) (b := 181) [] [(8, .inr (7, [.ref 4, .int 0, .int (-1), .int 0, .int 1, .int 0, .null, .int 0, .ref 11, .ref 12])), (0, .inr (8, [.ref 1, .ref 3, .ref 8, .ref 13, .ref 18, .ref 59, .ref 115, .ref 171, .ref 178, .int 0, .int 0, .int 0, .int 1, .int (-1)])), (182, .inl (0, 4347, .inl (cpy (cpy (tl (upd (upd (fun _ => 0) 2 (-1)) 4 1) 40) (fun _ => 0) 4347) (tl (upd (upd (fun _ => 0) 2 (-1)) 4 1) 40) 4347))), (181, .inr (9, (.int 1 :: .ref 182 :: .ref 183 :: .ref 184 :: .ref 185 :: .int 0 :: .int 0 :: .int 1 :: .ref 186 :: .int 0 :: .int 0 :: .int 0 :: .int (-1) :: .ref 187 :: .ref 188 :: .ref 189 :: .int 0 :: .ref 190 :: .ref 191 :: .ref 192 :: .ref 193 :: .ref 194 :: .int 0 :: .ref 195 :: .ref 196 :: .ref 197 :: .int 0 :: .ref 198 :: .ref 199 :: .ref 200 :: .ref 201 :: .ref 202 :: .ref 203 :: .int 0 :: .ref 204 :: .ref 205 :: .ref 206 :: .ref 207 :: .ref 208 :: .ref 209 :: .ref 210 :: .ref 211 :: .ref 212 :: .ref 213 :: .ref 214 :: .int 0 :: .ref 215 :: .ref 216 :: .int 0 :: .ref 217 :: .ref 218 :: .ref 219 :: .ref 220 :: .ref 221 :: .int 0 :: .int 0 :: .int 0 :: .int 0 :: .ref 222 :: .int 0 :: []))), (183, .inl (0, 4347, .inl (cpy (tl (upd (upd (fun _ => 0) 2 (-1)) 4 1) 40) (fun _ => 0) 4347)))] mv_L_97 rfl rfl rfl (c_X9_thrown_471 rfl) rfl dL_law_708 (Nat.le_of_ble_eq_true rfl) (Nat.le_of_ble_eq_true rfl) rfl (Nat.le_of_ble_eq_true rfl) (Nat.le_of_ble_eq_true rfl) (Nat.le_of_ble_eq_true rfl) rfl ?_
  refine aw_iload C dL_law_711 rfl ?_
  refine aw_icmp_eq C 718 dL_law_713 (by decide) (fun _ => ?_) (fun q => absurd (by decide) q)
  refine aw_iload C dL_law_718 rfl ?_
  refine aw_if_ne C 735 dL_law_720 (by decide) (fun _ => ?_) (fun q => absurd q (by decide))
  refine aw_goto C 1629 dL_law_735 (by decide) ?_
  refine aw_fl [some (.retAddr b), none, none, none, some (.int 0), none, none, none] (by simp [SubL]) ?_
  exact al_tail C S0 (Nat.le_of_ble_eq_true rfl) (Nat.le_of_ble_eq_true rfl)

set_option maxHeartbeats 4000000 in
set_option maxRecDepth 100000 in
theorem lc_13_aa {X : GX} {p : Program} {l : Launch} {e : Env} {s : State} {m : MethodId} {below : List Frame} {meth : Method} {c : Code} {b : Nat} {xs : Nat → Int32} {f : AH} {n : Nat} {a1 : Int32} {a2 : Int32} {a3 : Int32} {a4 : Int32} {a5 : Int32} (C : CC X p l room_1 s m #[Value.ref b] meth c RL cL_law 8 ret) (S0 : SC X b 6 xs s) (hl0 : l.stackTraces = false) (e1 : xs 1 = a1) (q1 : (-2147483648) ≤ a1.toInt ∧ a1.toInt ≤ (-1)) (e2 : xs 2 = a2) (q2 : (-2147483648) ≤ a2.toInt ∧ a2.toInt ≤ (-1)) (e3 : xs 3 = a3) (e4 : xs 4 = a4) (e5 : xs 5 = a5) (h0 : f 0 = some (.inr (8, [.ref 1, .ref 3, .ref 8, .ref 13, .ref 18, .ref 59, .ref 115, .ref 171, .ref 178, .int 0, .int 0, .int 0, .int 0, .int (-1)]))) (h3 : f 3 = some (.inr (7, [.ref 4, .int 0, .int (-1), .int 0, .int 1, .int 0, .null, .int 0, .ref 6, .ref 7]))) (h8 : f 8 = some (.inr (7, [.ref 9, .int 0, .int (-1), .int 0, .int 1, .int 0, .null, .int 0, .ref 11, .ref 12]))) (h11 : f 11 = some (.inl (2, 4, .inr (.inr (fun _ => none))))) (h6 : f 6 = some (.inl (2, 4, .inr (.inr (fun _ => none))))) (h12 : f 12 = some (.inl (2, 40, .inr (.inr (fun _ => none))))) (h7 : f 7 = some (.inl (2, 40, .inr (.inr (fun _ => none))))) (h59 : f 59 = some (.inr (1, [.ref 60, .ref 62, .ref 74, .int 0, .ref 68, .ref 71, .ref 64, .ref 66]))) (h181 : f 181 = some (.inr (9, (.int 0 :: .ref 182 :: .ref 183 :: .ref 184 :: .ref 185 :: .int 0 :: .int 0 :: .int 0 :: .ref 186 :: .int 0 :: .int 0 :: .int 0 :: .int (-1) :: .ref 187 :: .ref 188 :: .ref 189 :: .int 0 :: .ref 190 :: .ref 191 :: .ref 192 :: .ref 193 :: .ref 194 :: .int 0 :: .ref 195 :: .ref 196 :: .ref 197 :: .int 0 :: .ref 198 :: .ref 199 :: .ref 200 :: .ref 201 :: .ref 202 :: .ref 203 :: .int 0 :: .ref 204 :: .ref 205 :: .ref 206 :: .ref 207 :: .ref 208 :: .ref 209 :: .ref 210 :: .ref 211 :: .ref 212 :: .ref 213 :: .ref 214 :: .int 0 :: .ref 215 :: .ref 216 :: .int 0 :: .ref 217 :: .ref 218 :: .ref 219 :: .ref 220 :: .ref 221 :: .int 0 :: .int 0 :: .int 0 :: .int 0 :: .ref 222 :: .int 0 :: [])))) (h183 : f 183 = some (.inl (0, 4347, .inl (fun _ => 0)))) (h182 : f 182 = some (.inl (0, 4347, .inl (tl (upd (upd (fun _ => 0) 2 (-1)) 4 1) 40)))) : AW X p l e room_1 s m #[Value.ref b] below meth c 8 (lw_Z below #[Value.ref b] s) f n 1000 300000 738 [some (.retAddr b), some (.ref 0), some (.ref 181), some (.ref 223), some (.int 0), none, none, none] [] := by
  refine ao_start ?_
  obtain ⟨q1a, q1b⟩ := q1
  obtain ⟨q2a, q2b⟩ := q2
  refine aw_ald_n C dL_law_738 rfl ?_
  refine aw_raw_n C dL_law_739 rfl ?_
  refine aw_iload C dL_law_740 rfl ?_
  refine aw_iconst C 1 dL_law_742 ki_1 ?_
  refine ae_iadd C 1 dL_law_743 (by decide) ?_
  refine aw_sld C S0 a1 (by unfold vp_in; decide) (by decide : _ = 1) e1 dL_law_744 ?_
  refine aw_raw_n C dL_law_745 rfl ?_
  refine aw_iload C dL_law_746 rfl ?_
  refine aw_iconst C 2 dL_law_748 ki_2 ?_
  refine ae_iadd C 2 dL_law_749 (by decide) ?_
  refine aw_sld C S0 a2 (by unfold vp_in; decide) (by decide : _ = 2) e2 dL_law_750 ?_
  refine aw_ald_n C dL_law_751 rfl ?_
  refine aw_callSW C [.ref 0, .int a1, .int a2, .ref 223] mw_L_137 (c_L_swap_493 hl0 ⟨by omega, by omega⟩ ⟨by omega, by omega⟩ h0 h3 h8 h11 h6 h12 h7 h59) rfl dL_law_752 (Nat.le_of_ble_eq_true rfl) (Nat.le_of_ble_eq_true rfl) rfl (Nat.le_of_ble_eq_true rfl) (Nat.le_of_ble_eq_true rfl) (Nat.le_of_ble_eq_true rfl) (fun v9 f9 n9 h9 => ?_)
  obtain ⟨rfl, rfl⟩ := h9
  refine ao_flat [(8, .inr (7, [.ref 4, .int 0, .int (-1), .int 0, .int 1, .int 0, .null, .int 0, .ref 11, .ref 12])), (0, .inr (8, [.ref 1, .ref 3, .ref 8, .ref 13, .ref 18, .ref 59, .ref 115, .ref 171, .ref 178, .int 0, .int 0, .int 0, .int 1, .int (-1)]))] rfl ?_
  refine aw_istore C dL_law_755 (by decide) rfl ?_
  refine aw_nl [some (.retAddr b), some (.ref 0), some (.ref 181), some (.ref 223), some (.int 0), some (.int 1), none, none] rfl ?_
  refine aw_ald_n C dL_law_757 rfl ?_
  refine aw_raw_n C dL_law_758 rfl ?_
  refine aw_iload C dL_law_759 rfl ?_
  refine aw_iconst C 1 dL_law_761 ki_1 ?_
  refine ae_iadd C 1 dL_law_762 (by decide) ?_
  refine aw_sld C S0 a1 (by unfold vp_in; decide) (by decide : _ = 1) e1 dL_law_763 ?_
  refine aw_raw_n C dL_law_764 rfl ?_
  refine aw_iload C dL_law_765 rfl ?_
  refine aw_iconst C 2 dL_law_767 ki_2 ?_
  refine ae_iadd C 2 dL_law_768 (by decide) ?_
  refine aw_sld C S0 a2 (by unfold vp_in; decide) (by decide : _ = 2) e2 dL_law_769 ?_
  refine ao_callV C (ci := 9) (b := 181) [.int a1, .int a2] [(8, .inr (7, [.ref 4, .int 0, .int (-1), .int 0, .int 1, .int 0, .null, .int 0, .ref 11, .ref 12])), (0, .inr (8, [.ref 1, .ref 3, .ref 8, .ref 13, .ref 18, .ref 59, .ref 115, .ref 171, .ref 178, .int 0, .int 0, .int 0, .int 1, .int (-1)])), (181, .inr (9, (.int 1 :: .ref 182 :: .ref 183 :: .ref 184 :: .ref 185 :: .int 0 :: .int 0 :: .int 1 :: .ref 186 :: .int 0 :: .int 0 :: .int 0 :: .int (-1) :: .ref 187 :: .ref 188 :: .ref 189 :: .int 0 :: .ref 190 :: .ref 191 :: .ref 192 :: .ref 193 :: .ref 194 :: .int 0 :: .ref 195 :: .ref 196 :: .ref 197 :: .int 0 :: .ref 198 :: .ref 199 :: .ref 200 :: .ref 201 :: .ref 202 :: .ref 203 :: .int 0 :: .ref 204 :: .ref 205 :: .ref 206 :: .ref 207 :: .ref 208 :: .ref 209 :: .ref 210 :: .ref 211 :: .ref 212 :: .ref 213 :: .ref 214 :: .int 0 :: .ref 215 :: .ref 216 :: .int 0 :: .ref 217 :: .ref 218 :: .ref 219 :: .ref 220 :: .ref 221 :: .int 0 :: .int 0 :: .int 0 :: .int 0 :: .ref 222 :: .int 0 :: []))), (182, .inl (0, 4347, .inl (cpy (cpy (tl (upd (upd (fun _ => 0) 2 (-1)) 4 1) 40) (fun _ => 0) 4347) (tl (upd (upd (fun _ => 0) 2 (-1)) 4 1) 40) 4347))), (183, .inl (0, 4347, .inl (cpy (tl (upd (upd (fun _ => 0) 2 (-1)) 4 1) 40) (fun _ => 0) 4347)))] mv_L_139 rfl rfl h181 (c_X9_swap_495 ⟨by omega, by omega⟩ ⟨by omega, by omega⟩ h181 h183 h182) rfl dL_law_770 (Nat.le_of_ble_eq_true rfl) (Nat.le_of_ble_eq_true rfl) rfl (Nat.le_of_ble_eq_true rfl) (Nat.le_of_ble_eq_true rfl) (Nat.le_of_ble_eq_true rfl) rfl ?_
  refine aw_istore C dL_law_773 (by decide) rfl ?_
  refine aw_nl [some (.retAddr b), some (.ref 0), some (.ref 181), some (.ref 223), some (.int 0), some (.int 1), some (.int 0), none] rfl ?_
  refine aw_ald_n C dL_law_775 rfl ?_
  refine ao_callV C (ci := 9) (b := 181) [] [(8, .inr (7, [.ref 4, .int 0, .int (-1), .int 0, .int 1, .int 0, .null, .int 0, .ref 11, .ref 12])), (0, .inr (8, [.ref 1, .ref 3, .ref 8, .ref 13, .ref 18, .ref 59, .ref 115, .ref 171, .ref 178, .int 0, .int 0, .int 0, .int 1, .int (-1)])), (181, .inr (9, (.int 1 :: .ref 182 :: .ref 183 :: .ref 184 :: .ref 185 :: .int 0 :: .int 0 :: .int 1 :: .ref 186 :: .int 0 :: .int 0 :: .int 0 :: .int (-1) :: .ref 187 :: .ref 188 :: .ref 189 :: .int 0 :: .ref 190 :: .ref 191 :: .ref 192 :: .ref 193 :: .ref 194 :: .int 0 :: .ref 195 :: .ref 196 :: .ref 197 :: .int 0 :: .ref 198 :: .ref 199 :: .ref 200 :: .ref 201 :: .ref 202 :: .ref 203 :: .int 0 :: .ref 204 :: .ref 205 :: .ref 206 :: .ref 207 :: .ref 208 :: .ref 209 :: .ref 210 :: .ref 211 :: .ref 212 :: .ref 213 :: .ref 214 :: .int 0 :: .ref 215 :: .ref 216 :: .int 0 :: .ref 217 :: .ref 218 :: .ref 219 :: .ref 220 :: .ref 221 :: .int 0 :: .int 0 :: .int 0 :: .int 0 :: .ref 222 :: .int 0 :: []))), (182, .inl (0, 4347, .inl (cpy (cpy (tl (upd (upd (fun _ => 0) 2 (-1)) 4 1) 40) (fun _ => 0) 4347) (tl (upd (upd (fun _ => 0) 2 (-1)) 4 1) 40) 4347))), (183, .inl (0, 4347, .inl (cpy (tl (upd (upd (fun _ => 0) 2 (-1)) 4 1) 40) (fun _ => 0) 4347)))] mv_L_97 rfl rfl rfl (c_X9_thrown_471 rfl) rfl dL_law_776 (Nat.le_of_ble_eq_true rfl) (Nat.le_of_ble_eq_true rfl) rfl (Nat.le_of_ble_eq_true rfl) (Nat.le_of_ble_eq_true rfl) (Nat.le_of_ble_eq_true rfl) rfl ?_
  refine aw_iload C dL_law_779 rfl ?_
  refine aw_icmp_eq C 786 dL_law_781 (by decide) (fun _ => ?_) (fun q => absurd (by decide) q)
  refine aw_iload C dL_law_786 rfl ?_
  refine aw_if_ne C 803 dL_law_788 (by decide) (fun _ => ?_) (fun q => absurd q (by decide))
  refine aw_goto C 1629 dL_law_803 (by decide) ?_
  refine aw_fl [some (.retAddr b), none, none, none, some (.int 0), none, none, none] (by simp [SubL]) ?_
  exact al_tail C S0 (Nat.le_of_ble_eq_true rfl) (Nat.le_of_ble_eq_true rfl)

set_option maxHeartbeats 4000000 in
set_option maxRecDepth 100000 in
theorem lc_13_ab {X : GX} {p : Program} {l : Launch} {e : Env} {s : State} {m : MethodId} {below : List Frame} {meth : Method} {c : Code} {b : Nat} {xs : Nat → Int32} {f : AH} {n : Nat} {a1 : Int32} {a2 : Int32} {a3 : Int32} {a4 : Int32} {a5 : Int32} (C : CC X p l room_1 s m #[Value.ref b] meth c RL cL_law 8 ret) (S0 : SC X b 6 xs s) (hl0 : l.stackTraces = false) (e1 : xs 1 = a1) (q1 : (-2147483648) ≤ a1.toInt ∧ a1.toInt ≤ (-1)) (e2 : xs 2 = a2) (q2 : 0 ≤ a2.toInt ∧ a2.toInt ≤ 2147483647) (e3 : xs 3 = a3) (e4 : xs 4 = a4) (e5 : xs 5 = a5) (h0 : f 0 = some (.inr (8, [.ref 1, .ref 3, .ref 8, .ref 13, .ref 18, .ref 59, .ref 115, .ref 171, .ref 178, .int 0, .int 0, .int 0, .int 0, .int (-1)]))) (h3 : f 3 = some (.inr (7, [.ref 4, .int 0, .int (-1), .int 0, .int 1, .int 0, .null, .int 0, .ref 6, .ref 7]))) (h8 : f 8 = some (.inr (7, [.ref 9, .int 0, .int (-1), .int 0, .int 1, .int 0, .null, .int 0, .ref 11, .ref 12]))) (h11 : f 11 = some (.inl (2, 4, .inr (.inr (fun _ => none))))) (h6 : f 6 = some (.inl (2, 4, .inr (.inr (fun _ => none))))) (h12 : f 12 = some (.inl (2, 40, .inr (.inr (fun _ => none))))) (h7 : f 7 = some (.inl (2, 40, .inr (.inr (fun _ => none))))) (h59 : f 59 = some (.inr (1, [.ref 60, .ref 62, .ref 74, .int 0, .ref 68, .ref 71, .ref 64, .ref 66]))) (h181 : f 181 = some (.inr (9, (.int 0 :: .ref 182 :: .ref 183 :: .ref 184 :: .ref 185 :: .int 0 :: .int 0 :: .int 0 :: .ref 186 :: .int 0 :: .int 0 :: .int 0 :: .int (-1) :: .ref 187 :: .ref 188 :: .ref 189 :: .int 0 :: .ref 190 :: .ref 191 :: .ref 192 :: .ref 193 :: .ref 194 :: .int 0 :: .ref 195 :: .ref 196 :: .ref 197 :: .int 0 :: .ref 198 :: .ref 199 :: .ref 200 :: .ref 201 :: .ref 202 :: .ref 203 :: .int 0 :: .ref 204 :: .ref 205 :: .ref 206 :: .ref 207 :: .ref 208 :: .ref 209 :: .ref 210 :: .ref 211 :: .ref 212 :: .ref 213 :: .ref 214 :: .int 0 :: .ref 215 :: .ref 216 :: .int 0 :: .ref 217 :: .ref 218 :: .ref 219 :: .ref 220 :: .ref 221 :: .int 0 :: .int 0 :: .int 0 :: .int 0 :: .ref 222 :: .int 0 :: [])))) (h183 : f 183 = some (.inl (0, 4347, .inl (fun _ => 0)))) (h182 : f 182 = some (.inl (0, 4347, .inl (tl (upd (upd (fun _ => 0) 2 (-1)) 4 1) 40)))) : AW X p l e room_1 s m #[Value.ref b] below meth c 8 (lw_Z below #[Value.ref b] s) f n 1000 300000 738 [some (.retAddr b), some (.ref 0), some (.ref 181), some (.ref 223), some (.int 0), none, none, none] [] := by
  refine ao_start ?_
  obtain ⟨q1a, q1b⟩ := q1
  obtain ⟨q2a, q2b⟩ := q2
  refine aw_ald_n C dL_law_738 rfl ?_
  refine aw_raw_n C dL_law_739 rfl ?_
  refine aw_iload C dL_law_740 rfl ?_
  refine aw_iconst C 1 dL_law_742 ki_1 ?_
  refine ae_iadd C 1 dL_law_743 (by decide) ?_
  refine aw_sld C S0 a1 (by unfold vp_in; decide) (by decide : _ = 1) e1 dL_law_744 ?_
  refine aw_raw_n C dL_law_745 rfl ?_
  refine aw_iload C dL_law_746 rfl ?_
  refine aw_iconst C 2 dL_law_748 ki_2 ?_
  refine ae_iadd C 2 dL_law_749 (by decide) ?_
  refine aw_sld C S0 a2 (by unfold vp_in; decide) (by decide : _ = 2) e2 dL_law_750 ?_
  refine aw_ald_n C dL_law_751 rfl ?_
  refine aw_callSW C [.ref 0, .int a1, .int a2, .ref 223] mw_L_137 (c_L_swap_499 hl0 ⟨by omega, by omega⟩ ⟨by omega, by omega⟩ h0 h3 h8 h11 h6 h12 h7 h59) rfl dL_law_752 (Nat.le_of_ble_eq_true rfl) (Nat.le_of_ble_eq_true rfl) rfl (Nat.le_of_ble_eq_true rfl) (Nat.le_of_ble_eq_true rfl) (Nat.le_of_ble_eq_true rfl) (fun v9 f9 n9 h9 => ?_)
  obtain ⟨rfl, rfl⟩ := h9
  refine ao_flat [(8, .inr (7, [.ref 4, .int 0, .int (-1), .int 0, .int 1, .int 0, .null, .int 0, .ref 11, .ref 12])), (0, .inr (8, [.ref 1, .ref 3, .ref 8, .ref 13, .ref 18, .ref 59, .ref 115, .ref 171, .ref 178, .int 0, .int 0, .int 0, .int 1, .int (-1)]))] rfl ?_
  refine aw_istore C dL_law_755 (by decide) rfl ?_
  refine aw_nl [some (.retAddr b), some (.ref 0), some (.ref 181), some (.ref 223), some (.int 0), some (.int 1), none, none] rfl ?_
  refine aw_ald_n C dL_law_757 rfl ?_
  refine aw_raw_n C dL_law_758 rfl ?_
  refine aw_iload C dL_law_759 rfl ?_
  refine aw_iconst C 1 dL_law_761 ki_1 ?_
  refine ae_iadd C 1 dL_law_762 (by decide) ?_
  refine aw_sld C S0 a1 (by unfold vp_in; decide) (by decide : _ = 1) e1 dL_law_763 ?_
  refine aw_raw_n C dL_law_764 rfl ?_
  refine aw_iload C dL_law_765 rfl ?_
  refine aw_iconst C 2 dL_law_767 ki_2 ?_
  refine ae_iadd C 2 dL_law_768 (by decide) ?_
  refine aw_sld C S0 a2 (by unfold vp_in; decide) (by decide : _ = 2) e2 dL_law_769 ?_
  refine ao_callV C (ci := 9) (b := 181) [.int a1, .int a2] [(8, .inr (7, [.ref 4, .int 0, .int (-1), .int 0, .int 1, .int 0, .null, .int 0, .ref 11, .ref 12])), (0, .inr (8, [.ref 1, .ref 3, .ref 8, .ref 13, .ref 18, .ref 59, .ref 115, .ref 171, .ref 178, .int 0, .int 0, .int 0, .int 1, .int (-1)])), (181, .inr (9, (.int 1 :: .ref 182 :: .ref 183 :: .ref 184 :: .ref 185 :: .int 0 :: .int 0 :: .int 1 :: .ref 186 :: .int 0 :: .int 0 :: .int 0 :: .int (-1) :: .ref 187 :: .ref 188 :: .ref 189 :: .int 0 :: .ref 190 :: .ref 191 :: .ref 192 :: .ref 193 :: .ref 194 :: .int 0 :: .ref 195 :: .ref 196 :: .ref 197 :: .int 0 :: .ref 198 :: .ref 199 :: .ref 200 :: .ref 201 :: .ref 202 :: .ref 203 :: .int 0 :: .ref 204 :: .ref 205 :: .ref 206 :: .ref 207 :: .ref 208 :: .ref 209 :: .ref 210 :: .ref 211 :: .ref 212 :: .ref 213 :: .ref 214 :: .int 0 :: .ref 215 :: .ref 216 :: .int 0 :: .ref 217 :: .ref 218 :: .ref 219 :: .ref 220 :: .ref 221 :: .int 0 :: .int 0 :: .int 0 :: .int 0 :: .ref 222 :: .int 0 :: []))), (182, .inl (0, 4347, .inl (cpy (cpy (tl (upd (upd (fun _ => 0) 2 (-1)) 4 1) 40) (fun _ => 0) 4347) (tl (upd (upd (fun _ => 0) 2 (-1)) 4 1) 40) 4347))), (183, .inl (0, 4347, .inl (cpy (tl (upd (upd (fun _ => 0) 2 (-1)) 4 1) 40) (fun _ => 0) 4347)))] mv_L_139 rfl rfl h181 (c_X9_swap_501 ⟨by omega, by omega⟩ ⟨by omega, by omega⟩ h181 h183 h182) rfl dL_law_770 (Nat.le_of_ble_eq_true rfl) (Nat.le_of_ble_eq_true rfl) rfl (Nat.le_of_ble_eq_true rfl) (Nat.le_of_ble_eq_true rfl) (Nat.le_of_ble_eq_true rfl) rfl ?_
  refine aw_istore C dL_law_773 (by decide) rfl ?_
  refine aw_nl [some (.retAddr b), some (.ref 0), some (.ref 181), some (.ref 223), some (.int 0), some (.int 1), some (.int 0), none] rfl ?_
  refine aw_ald_n C dL_law_775 rfl ?_
  refine ao_callV C (ci := 9) (b := 181) [] [(8, .inr (7, [.ref 4, .int 0, .int (-1), .int 0, .int 1, .int 0, .null, .int 0, .ref 11, .ref 12])), (0, .inr (8, [.ref 1, .ref 3, .ref 8, .ref 13, .ref 18, .ref 59, .ref 115, .ref 171, .ref 178, .int 0, .int 0, .int 0, .int 1, .int (-1)])), (181, .inr (9, (.int 1 :: .ref 182 :: .ref 183 :: .ref 184 :: .ref 185 :: .int 0 :: .int 0 :: .int 1 :: .ref 186 :: .int 0 :: .int 0 :: .int 0 :: .int (-1) :: .ref 187 :: .ref 188 :: .ref 189 :: .int 0 :: .ref 190 :: .ref 191 :: .ref 192 :: .ref 193 :: .ref 194 :: .int 0 :: .ref 195 :: .ref 196 :: .ref 197 :: .int 0 :: .ref 198 :: .ref 199 :: .ref 200 :: .ref 201 :: .ref 202 :: .ref 203 :: .int 0 :: .ref 204 :: .ref 205 :: .ref 206 :: .ref 207 :: .ref 208 :: .ref 209 :: .ref 210 :: .ref 211 :: .ref 212 :: .ref 213 :: .ref 214 :: .int 0 :: .ref 215 :: .ref 216 :: .int 0 :: .ref 217 :: .ref 218 :: .ref 219 :: .ref 220 :: .ref 221 :: .int 0 :: .int 0 :: .int 0 :: .int 0 :: .ref 222 :: .int 0 :: []))), (182, .inl (0, 4347, .inl (cpy (cpy (tl (upd (upd (fun _ => 0) 2 (-1)) 4 1) 40) (fun _ => 0) 4347) (tl (upd (upd (fun _ => 0) 2 (-1)) 4 1) 40) 4347))), (183, .inl (0, 4347, .inl (cpy (tl (upd (upd (fun _ => 0) 2 (-1)) 4 1) 40) (fun _ => 0) 4347)))] mv_L_97 rfl rfl rfl (c_X9_thrown_471 rfl) rfl dL_law_776 (Nat.le_of_ble_eq_true rfl) (Nat.le_of_ble_eq_true rfl) rfl (Nat.le_of_ble_eq_true rfl) (Nat.le_of_ble_eq_true rfl) (Nat.le_of_ble_eq_true rfl) rfl ?_
  refine aw_iload C dL_law_779 rfl ?_
  refine aw_icmp_eq C 786 dL_law_781 (by decide) (fun _ => ?_) (fun q => absurd (by decide) q)
  refine aw_iload C dL_law_786 rfl ?_
  refine aw_if_ne C 803 dL_law_788 (by decide) (fun _ => ?_) (fun q => absurd q (by decide))
  refine aw_goto C 1629 dL_law_803 (by decide) ?_
  refine aw_fl [some (.retAddr b), none, none, none, some (.int 0), none, none, none] (by simp [SubL]) ?_
  exact al_tail C S0 (Nat.le_of_ble_eq_true rfl) (Nat.le_of_ble_eq_true rfl)

set_option maxHeartbeats 4000000 in
set_option maxRecDepth 100000 in
theorem lc_13_ba {X : GX} {p : Program} {l : Launch} {e : Env} {s : State} {m : MethodId} {below : List Frame} {meth : Method} {c : Code} {b : Nat} {xs : Nat → Int32} {f : AH} {n : Nat} {a1 : Int32} {a2 : Int32} {a3 : Int32} {a4 : Int32} {a5 : Int32} (C : CC X p l room_1 s m #[Value.ref b] meth c RL cL_law 8 ret) (S0 : SC X b 6 xs s) (hl0 : l.stackTraces = false) (e1 : xs 1 = a1) (q1 : 0 ≤ a1.toInt ∧ a1.toInt ≤ 2147483647) (e2 : xs 2 = a2) (q2 : (-2147483648) ≤ a2.toInt ∧ a2.toInt ≤ (-1)) (e3 : xs 3 = a3) (e4 : xs 4 = a4) (e5 : xs 5 = a5) (h0 : f 0 = some (.inr (8, [.ref 1, .ref 3, .ref 8, .ref 13, .ref 18, .ref 59, .ref 115, .ref 171, .ref 178, .int 0, .int 0, .int 0, .int 0, .int (-1)]))) (h3 : f 3 = some (.inr (7, [.ref 4, .int 0, .int (-1), .int 0, .int 1, .int 0, .null, .int 0, .ref 6, .ref 7]))) (h8 : f 8 = some (.inr (7, [.ref 9, .int 0, .int (-1), .int 0, .int 1, .int 0, .null, .int 0, .ref 11, .ref 12]))) (h11 : f 11 = some (.inl (2, 4, .inr (.inr (fun _ => none))))) (h6 : f 6 = some (.inl (2, 4, .inr (.inr (fun _ => none))))) (h12 : f 12 = some (.inl (2, 40, .inr (.inr (fun _ => none))))) (h7 : f 7 = some (.inl (2, 40, .inr (.inr (fun _ => none))))) (h59 : f 59 = some (.inr (1, [.ref 60, .ref 62, .ref 74, .int 0, .ref 68, .ref 71, .ref 64, .ref 66]))) (h181 : f 181 = some (.inr (9, (.int 0 :: .ref 182 :: .ref 183 :: .ref 184 :: .ref 185 :: .int 0 :: .int 0 :: .int 0 :: .ref 186 :: .int 0 :: .int 0 :: .int 0 :: .int (-1) :: .ref 187 :: .ref 188 :: .ref 189 :: .int 0 :: .ref 190 :: .ref 191 :: .ref 192 :: .ref 193 :: .ref 194 :: .int 0 :: .ref 195 :: .ref 196 :: .ref 197 :: .int 0 :: .ref 198 :: .ref 199 :: .ref 200 :: .ref 201 :: .ref 202 :: .ref 203 :: .int 0 :: .ref 204 :: .ref 205 :: .ref 206 :: .ref 207 :: .ref 208 :: .ref 209 :: .ref 210 :: .ref 211 :: .ref 212 :: .ref 213 :: .ref 214 :: .int 0 :: .ref 215 :: .ref 216 :: .int 0 :: .ref 217 :: .ref 218 :: .ref 219 :: .ref 220 :: .ref 221 :: .int 0 :: .int 0 :: .int 0 :: .int 0 :: .ref 222 :: .int 0 :: [])))) (h183 : f 183 = some (.inl (0, 4347, .inl (fun _ => 0)))) (h182 : f 182 = some (.inl (0, 4347, .inl (tl (upd (upd (fun _ => 0) 2 (-1)) 4 1) 40)))) : AW X p l e room_1 s m #[Value.ref b] below meth c 8 (lw_Z below #[Value.ref b] s) f n 1000 300000 738 [some (.retAddr b), some (.ref 0), some (.ref 181), some (.ref 223), some (.int 0), none, none, none] [] := by
  refine ao_start ?_
  obtain ⟨q1a, q1b⟩ := q1
  obtain ⟨q2a, q2b⟩ := q2
  refine aw_ald_n C dL_law_738 rfl ?_
  refine aw_raw_n C dL_law_739 rfl ?_
  refine aw_iload C dL_law_740 rfl ?_
  refine aw_iconst C 1 dL_law_742 ki_1 ?_
  refine ae_iadd C 1 dL_law_743 (by decide) ?_
  refine aw_sld C S0 a1 (by unfold vp_in; decide) (by decide : _ = 1) e1 dL_law_744 ?_
  refine aw_raw_n C dL_law_745 rfl ?_
  refine aw_iload C dL_law_746 rfl ?_
  refine aw_iconst C 2 dL_law_748 ki_2 ?_
  refine ae_iadd C 2 dL_law_749 (by decide) ?_
  refine aw_sld C S0 a2 (by unfold vp_in; decide) (by decide : _ = 2) e2 dL_law_750 ?_
  refine aw_ald_n C dL_law_751 rfl ?_
  refine aw_callSW C [.ref 0, .int a1, .int a2, .ref 223] mw_L_137 (c_L_swap_505 hl0 ⟨by omega, by omega⟩ ⟨by omega, by omega⟩ h0 h3 h8 h11 h6 h12 h7 h59) rfl dL_law_752 (Nat.le_of_ble_eq_true rfl) (Nat.le_of_ble_eq_true rfl) rfl (Nat.le_of_ble_eq_true rfl) (Nat.le_of_ble_eq_true rfl) (Nat.le_of_ble_eq_true rfl) (fun v9 f9 n9 h9 => ?_)
  obtain ⟨rfl, rfl⟩ := h9
  refine ao_flat [(8, .inr (7, [.ref 4, .int 0, .int (-1), .int 0, .int 1, .int 0, .null, .int 0, .ref 11, .ref 12])), (0, .inr (8, [.ref 1, .ref 3, .ref 8, .ref 13, .ref 18, .ref 59, .ref 115, .ref 171, .ref 178, .int 0, .int 0, .int 0, .int 1, .int (-1)]))] rfl ?_
  refine aw_istore C dL_law_755 (by decide) rfl ?_
  refine aw_nl [some (.retAddr b), some (.ref 0), some (.ref 181), some (.ref 223), some (.int 0), some (.int 1), none, none] rfl ?_
  refine aw_ald_n C dL_law_757 rfl ?_
  refine aw_raw_n C dL_law_758 rfl ?_
  refine aw_iload C dL_law_759 rfl ?_
  refine aw_iconst C 1 dL_law_761 ki_1 ?_
  refine ae_iadd C 1 dL_law_762 (by decide) ?_
  refine aw_sld C S0 a1 (by unfold vp_in; decide) (by decide : _ = 1) e1 dL_law_763 ?_
  refine aw_raw_n C dL_law_764 rfl ?_
  refine aw_iload C dL_law_765 rfl ?_
  refine aw_iconst C 2 dL_law_767 ki_2 ?_
  refine ae_iadd C 2 dL_law_768 (by decide) ?_
  refine aw_sld C S0 a2 (by unfold vp_in; decide) (by decide : _ = 2) e2 dL_law_769 ?_
  refine ao_callV C (ci := 9) (b := 181) [.int a1, .int a2] [(8, .inr (7, [.ref 4, .int 0, .int (-1), .int 0, .int 1, .int 0, .null, .int 0, .ref 11, .ref 12])), (0, .inr (8, [.ref 1, .ref 3, .ref 8, .ref 13, .ref 18, .ref 59, .ref 115, .ref 171, .ref 178, .int 0, .int 0, .int 0, .int 1, .int (-1)])), (181, .inr (9, (.int 1 :: .ref 182 :: .ref 183 :: .ref 184 :: .ref 185 :: .int 0 :: .int 0 :: .int 1 :: .ref 186 :: .int 0 :: .int 0 :: .int 0 :: .int (-1) :: .ref 187 :: .ref 188 :: .ref 189 :: .int 0 :: .ref 190 :: .ref 191 :: .ref 192 :: .ref 193 :: .ref 194 :: .int 0 :: .ref 195 :: .ref 196 :: .ref 197 :: .int 0 :: .ref 198 :: .ref 199 :: .ref 200 :: .ref 201 :: .ref 202 :: .ref 203 :: .int 0 :: .ref 204 :: .ref 205 :: .ref 206 :: .ref 207 :: .ref 208 :: .ref 209 :: .ref 210 :: .ref 211 :: .ref 212 :: .ref 213 :: .ref 214 :: .int 0 :: .ref 215 :: .ref 216 :: .int 0 :: .ref 217 :: .ref 218 :: .ref 219 :: .ref 220 :: .ref 221 :: .int 0 :: .int 0 :: .int 0 :: .int 0 :: .ref 222 :: .int 0 :: []))), (182, .inl (0, 4347, .inl (cpy (cpy (tl (upd (upd (fun _ => 0) 2 (-1)) 4 1) 40) (fun _ => 0) 4347) (tl (upd (upd (fun _ => 0) 2 (-1)) 4 1) 40) 4347))), (183, .inl (0, 4347, .inl (cpy (tl (upd (upd (fun _ => 0) 2 (-1)) 4 1) 40) (fun _ => 0) 4347)))] mv_L_139 rfl rfl h181 (c_X9_swap_507 ⟨by omega, by omega⟩ ⟨by omega, by omega⟩ h181 h183 h182) rfl dL_law_770 (Nat.le_of_ble_eq_true rfl) (Nat.le_of_ble_eq_true rfl) rfl (Nat.le_of_ble_eq_true rfl) (Nat.le_of_ble_eq_true rfl) (Nat.le_of_ble_eq_true rfl) rfl ?_
  refine aw_istore C dL_law_773 (by decide) rfl ?_
  refine aw_nl [some (.retAddr b), some (.ref 0), some (.ref 181), some (.ref 223), some (.int 0), some (.int 1), some (.int 0), none] rfl ?_
  refine aw_ald_n C dL_law_775 rfl ?_
  refine ao_callV C (ci := 9) (b := 181) [] [(8, .inr (7, [.ref 4, .int 0, .int (-1), .int 0, .int 1, .int 0, .null, .int 0, .ref 11, .ref 12])), (0, .inr (8, [.ref 1, .ref 3, .ref 8, .ref 13, .ref 18, .ref 59, .ref 115, .ref 171, .ref 178, .int 0, .int 0, .int 0, .int 1, .int (-1)])), (181, .inr (9, (.int 1 :: .ref 182 :: .ref 183 :: .ref 184 :: .ref 185 :: .int 0 :: .int 0 :: .int 1 :: .ref 186 :: .int 0 :: .int 0 :: .int 0 :: .int (-1) :: .ref 187 :: .ref 188 :: .ref 189 :: .int 0 :: .ref 190 :: .ref 191 :: .ref 192 :: .ref 193 :: .ref 194 :: .int 0 :: .ref 195 :: .ref 196 :: .ref 197 :: .int 0 :: .ref 198 :: .ref 199 :: .ref 200 :: .ref 201 :: .ref 202 :: .ref 203 :: .int 0 :: .ref 204 :: .ref 205 :: .ref 206 :: .ref 207 :: .ref 208 :: .ref 209 :: .ref 210 :: .ref 211 :: .ref 212 :: .ref 213 :: .ref 214 :: .int 0 :: .ref 215 :: .ref 216 :: .int 0 :: .ref 217 :: .ref 218 :: .ref 219 :: .ref 220 :: .ref 221 :: .int 0 :: .int 0 :: .int 0 :: .int 0 :: .ref 222 :: .int 0 :: []))), (182, .inl (0, 4347, .inl (cpy (cpy (tl (upd (upd (fun _ => 0) 2 (-1)) 4 1) 40) (fun _ => 0) 4347) (tl (upd (upd (fun _ => 0) 2 (-1)) 4 1) 40) 4347))), (183, .inl (0, 4347, .inl (cpy (tl (upd (upd (fun _ => 0) 2 (-1)) 4 1) 40) (fun _ => 0) 4347)))] mv_L_97 rfl rfl rfl (c_X9_thrown_471 rfl) rfl dL_law_776 (Nat.le_of_ble_eq_true rfl) (Nat.le_of_ble_eq_true rfl) rfl (Nat.le_of_ble_eq_true rfl) (Nat.le_of_ble_eq_true rfl) (Nat.le_of_ble_eq_true rfl) rfl ?_
  refine aw_iload C dL_law_779 rfl ?_
  refine aw_icmp_eq C 786 dL_law_781 (by decide) (fun _ => ?_) (fun q => absurd (by decide) q)
  refine aw_iload C dL_law_786 rfl ?_
  refine aw_if_ne C 803 dL_law_788 (by decide) (fun _ => ?_) (fun q => absurd q (by decide))
  refine aw_goto C 1629 dL_law_803 (by decide) ?_
  refine aw_fl [some (.retAddr b), none, none, none, some (.int 0), none, none, none] (by simp [SubL]) ?_
  exact al_tail C S0 (Nat.le_of_ble_eq_true rfl) (Nat.le_of_ble_eq_true rfl)

set_option maxHeartbeats 4000000 in
set_option maxRecDepth 100000 in
theorem lc_13_bb {X : GX} {p : Program} {l : Launch} {e : Env} {s : State} {m : MethodId} {below : List Frame} {meth : Method} {c : Code} {b : Nat} {xs : Nat → Int32} {f : AH} {n : Nat} {a1 : Int32} {a2 : Int32} {a3 : Int32} {a4 : Int32} {a5 : Int32} (C : CC X p l room_1 s m #[Value.ref b] meth c RL cL_law 8 ret) (S0 : SC X b 6 xs s) (hl0 : l.stackTraces = false) (e1 : xs 1 = a1) (q1 : 0 ≤ a1.toInt ∧ a1.toInt ≤ 2147483647) (e2 : xs 2 = a2) (q2 : 0 ≤ a2.toInt ∧ a2.toInt ≤ 2147483647) (e3 : xs 3 = a3) (e4 : xs 4 = a4) (e5 : xs 5 = a5) (h0 : f 0 = some (.inr (8, [.ref 1, .ref 3, .ref 8, .ref 13, .ref 18, .ref 59, .ref 115, .ref 171, .ref 178, .int 0, .int 0, .int 0, .int 0, .int (-1)]))) (h3 : f 3 = some (.inr (7, [.ref 4, .int 0, .int (-1), .int 0, .int 1, .int 0, .null, .int 0, .ref 6, .ref 7]))) (h8 : f 8 = some (.inr (7, [.ref 9, .int 0, .int (-1), .int 0, .int 1, .int 0, .null, .int 0, .ref 11, .ref 12]))) (h11 : f 11 = some (.inl (2, 4, .inr (.inr (fun _ => none))))) (h6 : f 6 = some (.inl (2, 4, .inr (.inr (fun _ => none))))) (h12 : f 12 = some (.inl (2, 40, .inr (.inr (fun _ => none))))) (h7 : f 7 = some (.inl (2, 40, .inr (.inr (fun _ => none))))) (h59 : f 59 = some (.inr (1, [.ref 60, .ref 62, .ref 74, .int 0, .ref 68, .ref 71, .ref 64, .ref 66]))) (h181 : f 181 = some (.inr (9, (.int 0 :: .ref 182 :: .ref 183 :: .ref 184 :: .ref 185 :: .int 0 :: .int 0 :: .int 0 :: .ref 186 :: .int 0 :: .int 0 :: .int 0 :: .int (-1) :: .ref 187 :: .ref 188 :: .ref 189 :: .int 0 :: .ref 190 :: .ref 191 :: .ref 192 :: .ref 193 :: .ref 194 :: .int 0 :: .ref 195 :: .ref 196 :: .ref 197 :: .int 0 :: .ref 198 :: .ref 199 :: .ref 200 :: .ref 201 :: .ref 202 :: .ref 203 :: .int 0 :: .ref 204 :: .ref 205 :: .ref 206 :: .ref 207 :: .ref 208 :: .ref 209 :: .ref 210 :: .ref 211 :: .ref 212 :: .ref 213 :: .ref 214 :: .int 0 :: .ref 215 :: .ref 216 :: .int 0 :: .ref 217 :: .ref 218 :: .ref 219 :: .ref 220 :: .ref 221 :: .int 0 :: .int 0 :: .int 0 :: .int 0 :: .ref 222 :: .int 0 :: [])))) (h183 : f 183 = some (.inl (0, 4347, .inl (fun _ => 0)))) (h182 : f 182 = some (.inl (0, 4347, .inl (tl (upd (upd (fun _ => 0) 2 (-1)) 4 1) 40)))) : AW X p l e room_1 s m #[Value.ref b] below meth c 8 (lw_Z below #[Value.ref b] s) f n 1000 300000 738 [some (.retAddr b), some (.ref 0), some (.ref 181), some (.ref 223), some (.int 0), none, none, none] [] := by
  refine ao_start ?_
  obtain ⟨q1a, q1b⟩ := q1
  obtain ⟨q2a, q2b⟩ := q2
  refine aw_ald_n C dL_law_738 rfl ?_
  refine aw_raw_n C dL_law_739 rfl ?_
  refine aw_iload C dL_law_740 rfl ?_
  refine aw_iconst C 1 dL_law_742 ki_1 ?_
  refine ae_iadd C 1 dL_law_743 (by decide) ?_
  refine aw_sld C S0 a1 (by unfold vp_in; decide) (by decide : _ = 1) e1 dL_law_744 ?_
  refine aw_raw_n C dL_law_745 rfl ?_
  refine aw_iload C dL_law_746 rfl ?_
  refine aw_iconst C 2 dL_law_748 ki_2 ?_
  refine ae_iadd C 2 dL_law_749 (by decide) ?_
  refine aw_sld C S0 a2 (by unfold vp_in; decide) (by decide : _ = 2) e2 dL_law_750 ?_
  refine aw_ald_n C dL_law_751 rfl ?_
  refine aw_callSW C [.ref 0, .int a1, .int a2, .ref 223] mw_L_137 (c_L_swap_511 hl0 ⟨by omega, by omega⟩ ⟨by omega, by omega⟩ h0 h3 h8 h11 h6 h12 h7 h59) rfl dL_law_752 (Nat.le_of_ble_eq_true rfl) (Nat.le_of_ble_eq_true rfl) rfl (Nat.le_of_ble_eq_true rfl) (Nat.le_of_ble_eq_true rfl) (Nat.le_of_ble_eq_true rfl) (fun v9 f9 n9 h9 => ?_)
  obtain ⟨rfl, rfl⟩ := h9
  refine ao_flat [(8, .inr (7, [.ref 4, .int 0, .int (-1), .int 0, .int 1, .int 0, .null, .int 0, .ref 11, .ref 12])), (0, .inr (8, [.ref 1, .ref 3, .ref 8, .ref 13, .ref 18, .ref 59, .ref 115, .ref 171, .ref 178, .int 0, .int 0, .int 0, .int 1, .int (-1)]))] rfl ?_
  refine aw_istore C dL_law_755 (by decide) rfl ?_
  refine aw_nl [some (.retAddr b), some (.ref 0), some (.ref 181), some (.ref 223), some (.int 0), some (.int 1), none, none] rfl ?_
  refine aw_ald_n C dL_law_757 rfl ?_
  refine aw_raw_n C dL_law_758 rfl ?_
  refine aw_iload C dL_law_759 rfl ?_
  refine aw_iconst C 1 dL_law_761 ki_1 ?_
  refine ae_iadd C 1 dL_law_762 (by decide) ?_
  refine aw_sld C S0 a1 (by unfold vp_in; decide) (by decide : _ = 1) e1 dL_law_763 ?_
  refine aw_raw_n C dL_law_764 rfl ?_
  refine aw_iload C dL_law_765 rfl ?_
  refine aw_iconst C 2 dL_law_767 ki_2 ?_
  refine ae_iadd C 2 dL_law_768 (by decide) ?_
  refine aw_sld C S0 a2 (by unfold vp_in; decide) (by decide : _ = 2) e2 dL_law_769 ?_
  refine ao_callV C (ci := 9) (b := 181) [.int a1, .int a2] [(8, .inr (7, [.ref 4, .int 0, .int (-1), .int 0, .int 1, .int 0, .null, .int 0, .ref 11, .ref 12])), (0, .inr (8, [.ref 1, .ref 3, .ref 8, .ref 13, .ref 18, .ref 59, .ref 115, .ref 171, .ref 178, .int 0, .int 0, .int 0, .int 1, .int (-1)])), (181, .inr (9, (.int 1 :: .ref 182 :: .ref 183 :: .ref 184 :: .ref 185 :: .int 0 :: .int 0 :: .int 1 :: .ref 186 :: .int 0 :: .int 0 :: .int 0 :: .int (-1) :: .ref 187 :: .ref 188 :: .ref 189 :: .int 0 :: .ref 190 :: .ref 191 :: .ref 192 :: .ref 193 :: .ref 194 :: .int 0 :: .ref 195 :: .ref 196 :: .ref 197 :: .int 0 :: .ref 198 :: .ref 199 :: .ref 200 :: .ref 201 :: .ref 202 :: .ref 203 :: .int 0 :: .ref 204 :: .ref 205 :: .ref 206 :: .ref 207 :: .ref 208 :: .ref 209 :: .ref 210 :: .ref 211 :: .ref 212 :: .ref 213 :: .ref 214 :: .int 0 :: .ref 215 :: .ref 216 :: .int 0 :: .ref 217 :: .ref 218 :: .ref 219 :: .ref 220 :: .ref 221 :: .int 0 :: .int 0 :: .int 0 :: .int 0 :: .ref 222 :: .int 0 :: []))), (182, .inl (0, 4347, .inl (cpy (cpy (tl (upd (upd (fun _ => 0) 2 (-1)) 4 1) 40) (fun _ => 0) 4347) (tl (upd (upd (fun _ => 0) 2 (-1)) 4 1) 40) 4347))), (183, .inl (0, 4347, .inl (cpy (tl (upd (upd (fun _ => 0) 2 (-1)) 4 1) 40) (fun _ => 0) 4347)))] mv_L_139 rfl rfl h181 (c_X9_swap_513 ⟨by omega, by omega⟩ ⟨by omega, by omega⟩ h181 h183 h182) rfl dL_law_770 (Nat.le_of_ble_eq_true rfl) (Nat.le_of_ble_eq_true rfl) rfl (Nat.le_of_ble_eq_true rfl) (Nat.le_of_ble_eq_true rfl) (Nat.le_of_ble_eq_true rfl) rfl ?_
  refine aw_istore C dL_law_773 (by decide) rfl ?_
  refine aw_nl [some (.retAddr b), some (.ref 0), some (.ref 181), some (.ref 223), some (.int 0), some (.int 1), some (.int 0), none] rfl ?_
  refine aw_ald_n C dL_law_775 rfl ?_
  refine ao_callV C (ci := 9) (b := 181) [] [(8, .inr (7, [.ref 4, .int 0, .int (-1), .int 0, .int 1, .int 0, .null, .int 0, .ref 11, .ref 12])), (0, .inr (8, [.ref 1, .ref 3, .ref 8, .ref 13, .ref 18, .ref 59, .ref 115, .ref 171, .ref 178, .int 0, .int 0, .int 0, .int 1, .int (-1)])), (181, .inr (9, (.int 1 :: .ref 182 :: .ref 183 :: .ref 184 :: .ref 185 :: .int 0 :: .int 0 :: .int 1 :: .ref 186 :: .int 0 :: .int 0 :: .int 0 :: .int (-1) :: .ref 187 :: .ref 188 :: .ref 189 :: .int 0 :: .ref 190 :: .ref 191 :: .ref 192 :: .ref 193 :: .ref 194 :: .int 0 :: .ref 195 :: .ref 196 :: .ref 197 :: .int 0 :: .ref 198 :: .ref 199 :: .ref 200 :: .ref 201 :: .ref 202 :: .ref 203 :: .int 0 :: .ref 204 :: .ref 205 :: .ref 206 :: .ref 207 :: .ref 208 :: .ref 209 :: .ref 210 :: .ref 211 :: .ref 212 :: .ref 213 :: .ref 214 :: .int 0 :: .ref 215 :: .ref 216 :: .int 0 :: .ref 217 :: .ref 218 :: .ref 219 :: .ref 220 :: .ref 221 :: .int 0 :: .int 0 :: .int 0 :: .int 0 :: .ref 222 :: .int 0 :: []))), (182, .inl (0, 4347, .inl (cpy (cpy (tl (upd (upd (fun _ => 0) 2 (-1)) 4 1) 40) (fun _ => 0) 4347) (tl (upd (upd (fun _ => 0) 2 (-1)) 4 1) 40) 4347))), (183, .inl (0, 4347, .inl (cpy (tl (upd (upd (fun _ => 0) 2 (-1)) 4 1) 40) (fun _ => 0) 4347)))] mv_L_97 rfl rfl rfl (c_X9_thrown_471 rfl) rfl dL_law_776 (Nat.le_of_ble_eq_true rfl) (Nat.le_of_ble_eq_true rfl) rfl (Nat.le_of_ble_eq_true rfl) (Nat.le_of_ble_eq_true rfl) (Nat.le_of_ble_eq_true rfl) rfl ?_
  refine aw_iload C dL_law_779 rfl ?_
  refine aw_icmp_eq C 786 dL_law_781 (by decide) (fun _ => ?_) (fun q => absurd (by decide) q)
  refine aw_iload C dL_law_786 rfl ?_
  refine aw_if_ne C 803 dL_law_788 (by decide) (fun _ => ?_) (fun q => absurd q (by decide))
  refine aw_goto C 1629 dL_law_803 (by decide) ?_
  refine aw_fl [some (.retAddr b), none, none, none, some (.int 0), none, none, none] (by simp [SubL]) ?_
  exact al_tail C S0 (Nat.le_of_ble_eq_true rfl) (Nat.le_of_ble_eq_true rfl)

set_option maxHeartbeats 4000000 in
set_option maxRecDepth 100000 in
theorem lc_14_x {X : GX} {p : Program} {l : Launch} {e : Env} {s : State} {m : MethodId} {below : List Frame} {meth : Method} {c : Code} {b : Nat} {xs : Nat → Int32} {f : AH} {n : Nat} {a1 : Int32} {a2 : Int32} {a3 : Int32} {a4 : Int32} {a5 : Int32} (C : CC X p l room_1 s m #[Value.ref b] meth c RL cL_law 8 ret) (S0 : SC X b 6 xs s) (hl0 : l.stackTraces = false) (e1 : xs 1 = a1) (e2 : xs 2 = a2) (e3 : xs 3 = a3) (e4 : xs 4 = a4) (e5 : xs 5 = a5) (h0 : f 0 = some (.inr (8, [.ref 1, .ref 3, .ref 8, .ref 13, .ref 18, .ref 59, .ref 115, .ref 171, .ref 178, .int 0, .int 0, .int 0, .int 0, .int (-1)]))) (h3 : f 3 = some (.inr (7, [.ref 4, .int 0, .int (-1), .int 0, .int 1, .int 0, .null, .int 0, .ref 6, .ref 7]))) (h7 : f 7 = some (.inl (2, 40, .inr (.inr (fun _ => none))))) (h8 : f 8 = some (.inr (7, [.ref 9, .int 0, .int (-1), .int 0, .int 1, .int 0, .null, .int 0, .ref 11, .ref 12]))) (h11 : f 11 = some (.inl (2, 4, .inr (.inr (fun _ => none))))) (h6 : f 6 = some (.inl (2, 4, .inr (.inr (fun _ => none))))) (h12 : f 12 = some (.inl (2, 40, .inr (.inr (fun _ => none))))) (h181 : f 181 = some (.inr (9, (.int 0 :: .ref 182 :: .ref 183 :: .ref 184 :: .ref 185 :: .int 0 :: .int 0 :: .int 0 :: .ref 186 :: .int 0 :: .int 0 :: .int 0 :: .int (-1) :: .ref 187 :: .ref 188 :: .ref 189 :: .int 0 :: .ref 190 :: .ref 191 :: .ref 192 :: .ref 193 :: .ref 194 :: .int 0 :: .ref 195 :: .ref 196 :: .ref 197 :: .int 0 :: .ref 198 :: .ref 199 :: .ref 200 :: .ref 201 :: .ref 202 :: .ref 203 :: .int 0 :: .ref 204 :: .ref 205 :: .ref 206 :: .ref 207 :: .ref 208 :: .ref 209 :: .ref 210 :: .ref 211 :: .ref 212 :: .ref 213 :: .ref 214 :: .int 0 :: .ref 215 :: .ref 216 :: .int 0 :: .ref 217 :: .ref 218 :: .ref 219 :: .ref 220 :: .ref 221 :: .int 0 :: .int 0 :: .int 0 :: .int 0 :: .ref 222 :: .int 0 :: [])))) (h183 : f 183 = some (.inl (0, 4347, .inl (fun _ => 0)))) (h182 : f 182 = some (.inl (0, 4347, .inl (tl (upd (upd (fun _ => 0) 2 (-1)) 4 1) 40)))) : AW X p l e room_1 s m #[Value.ref b] below meth c 8 (lw_Z below #[Value.ref b] s) f n 1000 300000 806 [some (.retAddr b), some (.ref 0), some (.ref 181), some (.ref 223), some (.int 0), none, none, none] [] := by
  refine ao_start ?_
  refine aw_ald_n C dL_law_806 rfl ?_
  refine aw_ald_n C dL_law_807 rfl ?_
  refine aw_callSW C [.ref 0, .ref 223] mw_L_140 (c_L_wipe_519 hl0 h0 h3 h7 h8 h11 h6 h12) rfl dL_law_808 (Nat.le_of_ble_eq_true rfl) (Nat.le_of_ble_eq_true rfl) rfl (Nat.le_of_ble_eq_true rfl) (Nat.le_of_ble_eq_true rfl) (Nat.le_of_ble_eq_true rfl) (fun v9 f9 n9 h9 => ?_)
  obtain ⟨rfl, rfl⟩ := h9
  refine ao_flat [(8, .inr (7, [.ref 4, .int 0, .int (-1), .int 0, .int 1, .int 0, .null, .int 0, .ref 11, .ref 12])), (0, .inr (8, [.ref 1, .ref 3, .ref 8, .ref 13, .ref 18, .ref 59, .ref 115, .ref 171, .ref 178, .int 0, .int 0, .int 0, .int 4, .int (-1)]))] rfl ?_
  refine aw_istore C dL_law_811 (by decide) rfl ?_
  refine aw_nl [some (.retAddr b), some (.ref 0), some (.ref 181), some (.ref 223), some (.int 0), some (.int 1), none, none] rfl ?_
  refine aw_ald_n C dL_law_813 rfl ?_
  refine ao_callV C (ci := 9) (b := 181) [] [(8, .inr (7, [.ref 4, .int 0, .int (-1), .int 0, .int 1, .int 0, .null, .int 0, .ref 11, .ref 12])), (0, .inr (8, [.ref 1, .ref 3, .ref 8, .ref 13, .ref 18, .ref 59, .ref 115, .ref 171, .ref 178, .int 0, .int 0, .int 0, .int 4, .int (-1)])), (181, .inr (9, (.int 1 :: .ref 182 :: .ref 183 :: .ref 184 :: .ref 185 :: .int 0 :: .int 0 :: .int 4 :: .ref 186 :: .int 0 :: .int 0 :: .int 0 :: .int (-1) :: .ref 187 :: .ref 188 :: .ref 189 :: .int 0 :: .ref 190 :: .ref 191 :: .ref 192 :: .ref 193 :: .ref 194 :: .int 0 :: .ref 195 :: .ref 196 :: .ref 197 :: .int 0 :: .ref 198 :: .ref 199 :: .ref 200 :: .ref 201 :: .ref 202 :: .ref 203 :: .int 0 :: .ref 204 :: .ref 205 :: .ref 206 :: .ref 207 :: .ref 208 :: .ref 209 :: .ref 210 :: .ref 211 :: .ref 212 :: .ref 213 :: .ref 214 :: .int 0 :: .ref 215 :: .ref 216 :: .int 0 :: .ref 217 :: .ref 218 :: .ref 219 :: .ref 220 :: .ref 221 :: .int 0 :: .int 0 :: .int 0 :: .int 0 :: .ref 222 :: .int 0 :: []))), (182, .inl (0, 4347, .inl (cpy (cpy (tl (upd (upd (fun _ => 0) 2 (-1)) 4 1) 40) (fun _ => 0) 4347) (tl (upd (upd (fun _ => 0) 2 (-1)) 4 1) 40) 4347))), (183, .inl (0, 4347, .inl (cpy (tl (upd (upd (fun _ => 0) 2 (-1)) 4 1) 40) (fun _ => 0) 4347)))] mv_L_142 rfl rfl h181 (c_X9_wipe_527 h181 h183 h182) rfl dL_law_814 (Nat.le_of_ble_eq_true rfl) (Nat.le_of_ble_eq_true rfl) rfl (Nat.le_of_ble_eq_true rfl) (Nat.le_of_ble_eq_true rfl) (Nat.le_of_ble_eq_true rfl) rfl ?_
  refine aw_istore C dL_law_817 (by decide) rfl ?_
  refine aw_nl [some (.retAddr b), some (.ref 0), some (.ref 181), some (.ref 223), some (.int 0), some (.int 1), some (.int 0), none] rfl ?_
  refine aw_ald_n C dL_law_819 rfl ?_
  refine ao_callV C (ci := 9) (b := 181) [] [(8, .inr (7, [.ref 4, .int 0, .int (-1), .int 0, .int 1, .int 0, .null, .int 0, .ref 11, .ref 12])), (0, .inr (8, [.ref 1, .ref 3, .ref 8, .ref 13, .ref 18, .ref 59, .ref 115, .ref 171, .ref 178, .int 0, .int 0, .int 0, .int 4, .int (-1)])), (181, .inr (9, (.int 1 :: .ref 182 :: .ref 183 :: .ref 184 :: .ref 185 :: .int 0 :: .int 0 :: .int 4 :: .ref 186 :: .int 0 :: .int 0 :: .int 0 :: .int (-1) :: .ref 187 :: .ref 188 :: .ref 189 :: .int 0 :: .ref 190 :: .ref 191 :: .ref 192 :: .ref 193 :: .ref 194 :: .int 0 :: .ref 195 :: .ref 196 :: .ref 197 :: .int 0 :: .ref 198 :: .ref 199 :: .ref 200 :: .ref 201 :: .ref 202 :: .ref 203 :: .int 0 :: .ref 204 :: .ref 205 :: .ref 206 :: .ref 207 :: .ref 208 :: .ref 209 :: .ref 210 :: .ref 211 :: .ref 212 :: .ref 213 :: .ref 214 :: .int 0 :: .ref 215 :: .ref 216 :: .int 0 :: .ref 217 :: .ref 218 :: .ref 219 :: .ref 220 :: .ref 221 :: .int 0 :: .int 0 :: .int 0 :: .int 0 :: .ref 222 :: .int 0 :: []))), (182, .inl (0, 4347, .inl (cpy (cpy (tl (upd (upd (fun _ => 0) 2 (-1)) 4 1) 40) (fun _ => 0) 4347) (tl (upd (upd (fun _ => 0) 2 (-1)) 4 1) 40) 4347))), (183, .inl (0, 4347, .inl (cpy (tl (upd (upd (fun _ => 0) 2 (-1)) 4 1) 40) (fun _ => 0) 4347)))] mv_L_97 rfl rfl rfl (c_X9_thrown_528 rfl) rfl dL_law_820 (Nat.le_of_ble_eq_true rfl) (Nat.le_of_ble_eq_true rfl) rfl (Nat.le_of_ble_eq_true rfl) (Nat.le_of_ble_eq_true rfl) (Nat.le_of_ble_eq_true rfl) rfl ?_
  refine aw_iload C dL_law_823 rfl ?_
  refine aw_icmp_eq C 830 dL_law_825 (by decide) (fun _ => ?_) (fun q => absurd (by decide) q)
  refine aw_iload C dL_law_830 rfl ?_
  refine aw_if_ne C 847 dL_law_832 (by decide) (fun _ => ?_) (fun q => absurd q (by decide))
  refine aw_goto C 1629 dL_law_847 (by decide) ?_
  refine aw_fl [some (.retAddr b), none, none, none, some (.int 0), none, none, none] (by simp [SubL]) ?_
  exact al_tail C S0 (Nat.le_of_ble_eq_true rfl) (Nat.le_of_ble_eq_true rfl)

set_option maxHeartbeats 4000000 in
set_option maxRecDepth 100000 in
theorem lc_15_x {X : GX} {p : Program} {l : Launch} {e : Env} {s : State} {m : MethodId} {below : List Frame} {meth : Method} {c : Code} {b : Nat} {xs : Nat → Int32} {f : AH} {n : Nat} {a1 : Int32} {a2 : Int32} {a3 : Int32} {a4 : Int32} {a5 : Int32} (C : CC X p l room_1 s m #[Value.ref b] meth c RL cL_law 8 ret) (S0 : SC X b 6 xs s) (hl0 : l.stackTraces = false) (e1 : xs 1 = a1) (e2 : xs 2 = a2) (e3 : xs 3 = a3) (e4 : xs 4 = a4) (e5 : xs 5 = a5) (h0 : f 0 = some (.inr (8, [.ref 1, .ref 3, .ref 8, .ref 13, .ref 18, .ref 59, .ref 115, .ref 171, .ref 178, .int 0, .int 0, .int 0, .int 0, .int (-1)]))) (h181 : f 181 = some (.inr (9, (.int 0 :: .ref 182 :: .ref 183 :: .ref 184 :: .ref 185 :: .int 0 :: .int 0 :: .int 0 :: .ref 186 :: .int 0 :: .int 0 :: .int 0 :: .int (-1) :: .ref 187 :: .ref 188 :: .ref 189 :: .int 0 :: .ref 190 :: .ref 191 :: .ref 192 :: .ref 193 :: .ref 194 :: .int 0 :: .ref 195 :: .ref 196 :: .ref 197 :: .int 0 :: .ref 198 :: .ref 199 :: .ref 200 :: .ref 201 :: .ref 202 :: .ref 203 :: .int 0 :: .ref 204 :: .ref 205 :: .ref 206 :: .ref 207 :: .ref 208 :: .ref 209 :: .ref 210 :: .ref 211 :: .ref 212 :: .ref 213 :: .ref 214 :: .int 0 :: .ref 215 :: .ref 216 :: .int 0 :: .ref 217 :: .ref 218 :: .ref 219 :: .ref 220 :: .ref 221 :: .int 0 :: .int 0 :: .int 0 :: .int 0 :: .ref 222 :: .int 0 :: [])))) : AW X p l e room_1 s m #[Value.ref b] below meth c 8 (lw_Z below #[Value.ref b] s) f n 1000 300000 850 [some (.retAddr b), some (.ref 0), some (.ref 181), some (.ref 223), some (.int 0), none, none, none] [] := by
  refine ao_start ?_
  refine aw_ald_n C dL_law_850 rfl ?_
  refine aw_ald_n C dL_law_851 rfl ?_
  refine aw_callSW C [.ref 0, .ref 223] mw_L_143 (c_L_undo_530 hl0 h0) rfl dL_law_852 (Nat.le_of_ble_eq_true rfl) (Nat.le_of_ble_eq_true rfl) rfl (Nat.le_of_ble_eq_true rfl) (Nat.le_of_ble_eq_true rfl) (Nat.le_of_ble_eq_true rfl) (fun v9 f9 n9 h9 => ?_)
  obtain ⟨rfl, rfl⟩ := h9
  refine ao_flat [] rfl ?_
  refine aw_istore C dL_law_855 (by decide) rfl ?_
  refine aw_nl [some (.retAddr b), some (.ref 0), some (.ref 181), some (.ref 223), some (.int 0), some (.int 1), none, none] rfl ?_
  refine aw_ald_n C dL_law_857 rfl ?_
  refine ao_callV C (ci := 9) (b := 181) [] [(181, .inr (9, (.int 1 :: .ref 182 :: .ref 183 :: .ref 184 :: .ref 185 :: .int 0 :: .int 0 :: .int 0 :: .ref 186 :: .int 0 :: .int 0 :: .int 0 :: .int (-1) :: .ref 187 :: .ref 188 :: .ref 189 :: .int 0 :: .ref 190 :: .ref 191 :: .ref 192 :: .ref 193 :: .ref 194 :: .int 0 :: .ref 195 :: .ref 196 :: .ref 197 :: .int 0 :: .ref 198 :: .ref 199 :: .ref 200 :: .ref 201 :: .ref 202 :: .ref 203 :: .int 0 :: .ref 204 :: .ref 205 :: .ref 206 :: .ref 207 :: .ref 208 :: .ref 209 :: .ref 210 :: .ref 211 :: .ref 212 :: .ref 213 :: .ref 214 :: .int 0 :: .ref 215 :: .ref 216 :: .int 0 :: .ref 217 :: .ref 218 :: .ref 219 :: .ref 220 :: .ref 221 :: .int 0 :: .int 0 :: .int 0 :: .int 0 :: .ref 222 :: .int 0 :: [])))] mv_L_145 rfl rfl h181 (c_X9_undo_531 h181) rfl dL_law_858 (Nat.le_of_ble_eq_true rfl) (Nat.le_of_ble_eq_true rfl) rfl (Nat.le_of_ble_eq_true rfl) (Nat.le_of_ble_eq_true rfl) (Nat.le_of_ble_eq_true rfl) rfl ?_
  refine aw_istore C dL_law_861 (by decide) rfl ?_
  refine aw_nl [some (.retAddr b), some (.ref 0), some (.ref 181), some (.ref 223), some (.int 0), some (.int 1), some (.int 0), none] rfl ?_
  refine aw_ald_n C dL_law_863 rfl ?_
  refine ao_callV C (ci := 9) (b := 181) [] [(181, .inr (9, (.int 1 :: .ref 182 :: .ref 183 :: .ref 184 :: .ref 185 :: .int 0 :: .int 0 :: .int 0 :: .ref 186 :: .int 0 :: .int 0 :: .int 0 :: .int (-1) :: .ref 187 :: .ref 188 :: .ref 189 :: .int 0 :: .ref 190 :: .ref 191 :: .ref 192 :: .ref 193 :: .ref 194 :: .int 0 :: .ref 195 :: .ref 196 :: .ref 197 :: .int 0 :: .ref 198 :: .ref 199 :: .ref 200 :: .ref 201 :: .ref 202 :: .ref 203 :: .int 0 :: .ref 204 :: .ref 205 :: .ref 206 :: .ref 207 :: .ref 208 :: .ref 209 :: .ref 210 :: .ref 211 :: .ref 212 :: .ref 213 :: .ref 214 :: .int 0 :: .ref 215 :: .ref 216 :: .int 0 :: .ref 217 :: .ref 218 :: .ref 219 :: .ref 220 :: .ref 221 :: .int 0 :: .int 0 :: .int 0 :: .int 0 :: .ref 222 :: .int 0 :: [])))] mv_L_97 rfl rfl rfl (c_X9_thrown_208 rfl) rfl dL_law_864 (Nat.le_of_ble_eq_true rfl) (Nat.le_of_ble_eq_true rfl) rfl (Nat.le_of_ble_eq_true rfl) (Nat.le_of_ble_eq_true rfl) (Nat.le_of_ble_eq_true rfl) rfl ?_
  refine aw_iload C dL_law_867 rfl ?_
  refine aw_icmp_eq C 874 dL_law_869 (by decide) (fun _ => ?_) (fun q => absurd (by decide) q)
  refine aw_iload C dL_law_874 rfl ?_
  refine aw_if_ne C 891 dL_law_876 (by decide) (fun _ => ?_) (fun q => absurd q (by decide))
  refine aw_goto C 1629 dL_law_891 (by decide) ?_
  refine aw_fl [some (.retAddr b), none, none, none, some (.int 0), none, none, none] (by simp [SubL]) ?_
  exact al_tail C S0 (Nat.le_of_ble_eq_true rfl) (Nat.le_of_ble_eq_true rfl)

set_option maxHeartbeats 4000000 in
set_option maxRecDepth 100000 in
theorem lc_16_a {X : GX} {p : Program} {l : Launch} {e : Env} {s : State} {m : MethodId} {below : List Frame} {meth : Method} {c : Code} {b : Nat} {xs : Nat → Int32} {f : AH} {n : Nat} {a1 : Int32} {a2 : Int32} {a3 : Int32} {a4 : Int32} {a5 : Int32} (C : CC X p l room_1 s m #[Value.ref b] meth c RL cL_law 8 ret) (S0 : SC X b 6 xs s) (hl0 : l.stackTraces = false) (e1 : xs 1 = a1) (q1 : (-2147483648) ≤ a1.toInt ∧ a1.toInt ≤ (-1)) (e2 : xs 2 = a2) (e3 : xs 3 = a3) (e4 : xs 4 = a4) (e5 : xs 5 = a5) (h0 : f 0 = some (.inr (8, [.ref 1, .ref 3, .ref 8, .ref 13, .ref 18, .ref 59, .ref 115, .ref 171, .ref 178, .int 0, .int 0, .int 0, .int 0, .int (-1)]))) (h59 : f 59 = some (.inr (1, [.ref 60, .ref 62, .ref 74, .int 0, .ref 68, .ref 71, .ref 64, .ref 66]))) (h181 : f 181 = some (.inr (9, (.int 0 :: .ref 182 :: .ref 183 :: .ref 184 :: .ref 185 :: .int 0 :: .int 0 :: .int 0 :: .ref 186 :: .int 0 :: .int 0 :: .int 0 :: .int (-1) :: .ref 187 :: .ref 188 :: .ref 189 :: .int 0 :: .ref 190 :: .ref 191 :: .ref 192 :: .ref 193 :: .ref 194 :: .int 0 :: .ref 195 :: .ref 196 :: .ref 197 :: .int 0 :: .ref 198 :: .ref 199 :: .ref 200 :: .ref 201 :: .ref 202 :: .ref 203 :: .int 0 :: .ref 204 :: .ref 205 :: .ref 206 :: .ref 207 :: .ref 208 :: .ref 209 :: .ref 210 :: .ref 211 :: .ref 212 :: .ref 213 :: .ref 214 :: .int 0 :: .ref 215 :: .ref 216 :: .int 0 :: .ref 217 :: .ref 218 :: .ref 219 :: .ref 220 :: .ref 221 :: .int 0 :: .int 0 :: .int 0 :: .int 0 :: .ref 222 :: .int 0 :: [])))) : AW X p l e room_1 s m #[Value.ref b] below meth c 8 (lw_Z below #[Value.ref b] s) f n 1000 300000 894 [some (.retAddr b), some (.ref 0), some (.ref 181), some (.ref 223), some (.int 0), none, none, none] [] := by
  refine ao_start ?_
  obtain ⟨q1a, q1b⟩ := q1
  refine aw_ald_n C dL_law_894 rfl ?_
  refine aw_raw_n C dL_law_895 rfl ?_
  refine aw_iload C dL_law_896 rfl ?_
  refine aw_iconst C 1 dL_law_898 ki_1 ?_
  refine ae_iadd C 1 dL_law_899 (by decide) ?_
  refine aw_sld C S0 a1 (by unfold vp_in; decide) (by decide : _ = 1) e1 dL_law_900 ?_
  refine aw_raw_n C dL_law_901 rfl ?_
  refine aw_iload C dL_law_902 rfl ?_
  refine aw_iconst C 2 dL_law_904 ki_2 ?_
  refine ae_iadd C 2 dL_law_905 (by decide) ?_
  refine aw_sld C S0 a2 (by unfold vp_in; decide) (by decide : _ = 2) e2 dL_law_906 ?_
  refine aw_ald_n C dL_law_907 rfl ?_
  refine aw_callSW C [.ref 0, .int a1, .int a2, .ref 223] mw_L_146 (c_L_piece_534 hl0 ⟨by omega, by omega⟩ h0 h59) rfl dL_law_908 (Nat.le_of_ble_eq_true rfl) (Nat.le_of_ble_eq_true rfl) rfl (Nat.le_of_ble_eq_true rfl) (Nat.le_of_ble_eq_true rfl) (Nat.le_of_ble_eq_true rfl) (fun v9 f9 n9 h9 => ?_)
  obtain ⟨rfl, rfl⟩ := h9
  refine ao_flat [] rfl ?_
  refine aw_istore C dL_law_911 (by decide) rfl ?_
  refine aw_nl [some (.retAddr b), some (.ref 0), some (.ref 181), some (.ref 223), some (.int 0), some (.int 1), none, none] rfl ?_
  refine aw_ald_n C dL_law_913 rfl ?_
  refine aw_raw_n C dL_law_914 rfl ?_
  refine aw_iload C dL_law_915 rfl ?_
  refine aw_iconst C 1 dL_law_917 ki_1 ?_
  refine ae_iadd C 1 dL_law_918 (by decide) ?_
  refine aw_sld C S0 a1 (by unfold vp_in; decide) (by decide : _ = 1) e1 dL_law_919 ?_
  refine aw_raw_n C dL_law_920 rfl ?_
  refine aw_iload C dL_law_921 rfl ?_
  refine aw_iconst C 2 dL_law_923 ki_2 ?_
  refine ae_iadd C 2 dL_law_924 (by decide) ?_
  refine aw_sld C S0 a2 (by unfold vp_in; decide) (by decide : _ = 2) e2 dL_law_925 ?_
  refine ao_callV C (ci := 9) (b := 181) [.int a1, .int a2] [(181, .inr (9, (.int 1 :: .ref 182 :: .ref 183 :: .ref 184 :: .ref 185 :: .int 0 :: .int 0 :: .int 0 :: .ref 186 :: .int 0 :: .int 0 :: .int 0 :: .int (-1) :: .ref 187 :: .ref 188 :: .ref 189 :: .int 0 :: .ref 190 :: .ref 191 :: .ref 192 :: .ref 193 :: .ref 194 :: .int 0 :: .ref 195 :: .ref 196 :: .ref 197 :: .int 0 :: .ref 198 :: .ref 199 :: .ref 200 :: .ref 201 :: .ref 202 :: .ref 203 :: .int 0 :: .ref 204 :: .ref 205 :: .ref 206 :: .ref 207 :: .ref 208 :: .ref 209 :: .ref 210 :: .ref 211 :: .ref 212 :: .ref 213 :: .ref 214 :: .int 0 :: .ref 215 :: .ref 216 :: .int 0 :: .ref 217 :: .ref 218 :: .ref 219 :: .ref 220 :: .ref 221 :: .int 0 :: .int 0 :: .int 0 :: .int 0 :: .ref 222 :: .int 0 :: [])))] mv_L_148 rfl rfl h181 (c_X9_piece_535 ⟨by omega, by omega⟩ h181) rfl dL_law_926 (Nat.le_of_ble_eq_true rfl) (Nat.le_of_ble_eq_true rfl) rfl (Nat.le_of_ble_eq_true rfl) (Nat.le_of_ble_eq_true rfl) (Nat.le_of_ble_eq_true rfl) rfl ?_
  refine aw_istore C dL_law_929 (by decide) rfl ?_
  refine aw_nl [some (.retAddr b), some (.ref 0), some (.ref 181), some (.ref 223), some (.int 0), some (.int 1), some (.int 0), none] rfl ?_
  refine aw_ald_n C dL_law_931 rfl ?_
  refine ao_callV C (ci := 9) (b := 181) [] [(181, .inr (9, (.int 1 :: .ref 182 :: .ref 183 :: .ref 184 :: .ref 185 :: .int 0 :: .int 0 :: .int 0 :: .ref 186 :: .int 0 :: .int 0 :: .int 0 :: .int (-1) :: .ref 187 :: .ref 188 :: .ref 189 :: .int 0 :: .ref 190 :: .ref 191 :: .ref 192 :: .ref 193 :: .ref 194 :: .int 0 :: .ref 195 :: .ref 196 :: .ref 197 :: .int 0 :: .ref 198 :: .ref 199 :: .ref 200 :: .ref 201 :: .ref 202 :: .ref 203 :: .int 0 :: .ref 204 :: .ref 205 :: .ref 206 :: .ref 207 :: .ref 208 :: .ref 209 :: .ref 210 :: .ref 211 :: .ref 212 :: .ref 213 :: .ref 214 :: .int 0 :: .ref 215 :: .ref 216 :: .int 0 :: .ref 217 :: .ref 218 :: .ref 219 :: .ref 220 :: .ref 221 :: .int 0 :: .int 0 :: .int 0 :: .int 0 :: .ref 222 :: .int 0 :: [])))] mv_L_97 rfl rfl rfl (c_X9_thrown_208 rfl) rfl dL_law_932 (Nat.le_of_ble_eq_true rfl) (Nat.le_of_ble_eq_true rfl) rfl (Nat.le_of_ble_eq_true rfl) (Nat.le_of_ble_eq_true rfl) (Nat.le_of_ble_eq_true rfl) rfl ?_
  refine aw_iload C dL_law_935 rfl ?_
  refine aw_icmp_eq C 942 dL_law_937 (by decide) (fun _ => ?_) (fun q => absurd (by decide) q)
  refine aw_iload C dL_law_942 rfl ?_
  refine aw_if_ne C 959 dL_law_944 (by decide) (fun _ => ?_) (fun q => absurd q (by decide))
  refine aw_goto C 1629 dL_law_959 (by decide) ?_
  refine aw_fl [some (.retAddr b), none, none, none, some (.int 0), none, none, none] (by simp [SubL]) ?_
  exact al_tail C S0 (Nat.le_of_ble_eq_true rfl) (Nat.le_of_ble_eq_true rfl)

set_option maxHeartbeats 4000000 in
set_option maxRecDepth 100000 in
theorem lc_16_b {X : GX} {p : Program} {l : Launch} {e : Env} {s : State} {m : MethodId} {below : List Frame} {meth : Method} {c : Code} {b : Nat} {xs : Nat → Int32} {f : AH} {n : Nat} {a1 : Int32} {a2 : Int32} {a3 : Int32} {a4 : Int32} {a5 : Int32} (C : CC X p l room_1 s m #[Value.ref b] meth c RL cL_law 8 ret) (S0 : SC X b 6 xs s) (hl0 : l.stackTraces = false) (e1 : xs 1 = a1) (q1 : 0 ≤ a1.toInt ∧ a1.toInt ≤ 2147483647) (e2 : xs 2 = a2) (e3 : xs 3 = a3) (e4 : xs 4 = a4) (e5 : xs 5 = a5) (h0 : f 0 = some (.inr (8, [.ref 1, .ref 3, .ref 8, .ref 13, .ref 18, .ref 59, .ref 115, .ref 171, .ref 178, .int 0, .int 0, .int 0, .int 0, .int (-1)]))) (h59 : f 59 = some (.inr (1, [.ref 60, .ref 62, .ref 74, .int 0, .ref 68, .ref 71, .ref 64, .ref 66]))) (h181 : f 181 = some (.inr (9, (.int 0 :: .ref 182 :: .ref 183 :: .ref 184 :: .ref 185 :: .int 0 :: .int 0 :: .int 0 :: .ref 186 :: .int 0 :: .int 0 :: .int 0 :: .int (-1) :: .ref 187 :: .ref 188 :: .ref 189 :: .int 0 :: .ref 190 :: .ref 191 :: .ref 192 :: .ref 193 :: .ref 194 :: .int 0 :: .ref 195 :: .ref 196 :: .ref 197 :: .int 0 :: .ref 198 :: .ref 199 :: .ref 200 :: .ref 201 :: .ref 202 :: .ref 203 :: .int 0 :: .ref 204 :: .ref 205 :: .ref 206 :: .ref 207 :: .ref 208 :: .ref 209 :: .ref 210 :: .ref 211 :: .ref 212 :: .ref 213 :: .ref 214 :: .int 0 :: .ref 215 :: .ref 216 :: .int 0 :: .ref 217 :: .ref 218 :: .ref 219 :: .ref 220 :: .ref 221 :: .int 0 :: .int 0 :: .int 0 :: .int 0 :: .ref 222 :: .int 0 :: [])))) : AW X p l e room_1 s m #[Value.ref b] below meth c 8 (lw_Z below #[Value.ref b] s) f n 1000 300000 894 [some (.retAddr b), some (.ref 0), some (.ref 181), some (.ref 223), some (.int 0), none, none, none] [] := by
  refine ao_start ?_
  obtain ⟨q1a, q1b⟩ := q1
  refine aw_ald_n C dL_law_894 rfl ?_
  refine aw_raw_n C dL_law_895 rfl ?_
  refine aw_iload C dL_law_896 rfl ?_
  refine aw_iconst C 1 dL_law_898 ki_1 ?_
  refine ae_iadd C 1 dL_law_899 (by decide) ?_
  refine aw_sld C S0 a1 (by unfold vp_in; decide) (by decide : _ = 1) e1 dL_law_900 ?_
  refine aw_raw_n C dL_law_901 rfl ?_
  refine aw_iload C dL_law_902 rfl ?_
  refine aw_iconst C 2 dL_law_904 ki_2 ?_
  refine ae_iadd C 2 dL_law_905 (by decide) ?_
  refine aw_sld C S0 a2 (by unfold vp_in; decide) (by decide : _ = 2) e2 dL_law_906 ?_
  refine aw_ald_n C dL_law_907 rfl ?_
  refine aw_callSW C [.ref 0, .int a1, .int a2, .ref 223] mw_L_146 (c_L_piece_538 hl0 ⟨by omega, by omega⟩ h0 h59) rfl dL_law_908 (Nat.le_of_ble_eq_true rfl) (Nat.le_of_ble_eq_true rfl) rfl (Nat.le_of_ble_eq_true rfl) (Nat.le_of_ble_eq_true rfl) (Nat.le_of_ble_eq_true rfl) (fun v9 f9 n9 h9 => ?_)
  obtain ⟨rfl, rfl⟩ := h9
  refine ao_flat [] rfl ?_
  refine aw_istore C dL_law_911 (by decide) rfl ?_
  refine aw_nl [some (.retAddr b), some (.ref 0), some (.ref 181), some (.ref 223), some (.int 0), some (.int 1), none, none] rfl ?_
  refine aw_ald_n C dL_law_913 rfl ?_
  refine aw_raw_n C dL_law_914 rfl ?_
  refine aw_iload C dL_law_915 rfl ?_
  refine aw_iconst C 1 dL_law_917 ki_1 ?_
  refine ae_iadd C 1 dL_law_918 (by decide) ?_
  refine aw_sld C S0 a1 (by unfold vp_in; decide) (by decide : _ = 1) e1 dL_law_919 ?_
  refine aw_raw_n C dL_law_920 rfl ?_
  refine aw_iload C dL_law_921 rfl ?_
  refine aw_iconst C 2 dL_law_923 ki_2 ?_
  refine ae_iadd C 2 dL_law_924 (by decide) ?_
  refine aw_sld C S0 a2 (by unfold vp_in; decide) (by decide : _ = 2) e2 dL_law_925 ?_
  refine ao_callV C (ci := 9) (b := 181) [.int a1, .int a2] [(181, .inr (9, (.int 1 :: .ref 182 :: .ref 183 :: .ref 184 :: .ref 185 :: .int 0 :: .int 0 :: .int 0 :: .ref 186 :: .int 0 :: .int 0 :: .int 0 :: .int (-1) :: .ref 187 :: .ref 188 :: .ref 189 :: .int 0 :: .ref 190 :: .ref 191 :: .ref 192 :: .ref 193 :: .ref 194 :: .int 0 :: .ref 195 :: .ref 196 :: .ref 197 :: .int 0 :: .ref 198 :: .ref 199 :: .ref 200 :: .ref 201 :: .ref 202 :: .ref 203 :: .int 0 :: .ref 204 :: .ref 205 :: .ref 206 :: .ref 207 :: .ref 208 :: .ref 209 :: .ref 210 :: .ref 211 :: .ref 212 :: .ref 213 :: .ref 214 :: .int 0 :: .ref 215 :: .ref 216 :: .int 0 :: .ref 217 :: .ref 218 :: .ref 219 :: .ref 220 :: .ref 221 :: .int 0 :: .int 0 :: .int 0 :: .int 0 :: .ref 222 :: .int 0 :: [])))] mv_L_148 rfl rfl h181 (c_X9_piece_539 ⟨by omega, by omega⟩ h181) rfl dL_law_926 (Nat.le_of_ble_eq_true rfl) (Nat.le_of_ble_eq_true rfl) rfl (Nat.le_of_ble_eq_true rfl) (Nat.le_of_ble_eq_true rfl) (Nat.le_of_ble_eq_true rfl) rfl ?_
  refine aw_istore C dL_law_929 (by decide) rfl ?_
  refine aw_nl [some (.retAddr b), some (.ref 0), some (.ref 181), some (.ref 223), some (.int 0), some (.int 1), some (.int 0), none] rfl ?_
  refine aw_ald_n C dL_law_931 rfl ?_
  refine ao_callV C (ci := 9) (b := 181) [] [(181, .inr (9, (.int 1 :: .ref 182 :: .ref 183 :: .ref 184 :: .ref 185 :: .int 0 :: .int 0 :: .int 0 :: .ref 186 :: .int 0 :: .int 0 :: .int 0 :: .int (-1) :: .ref 187 :: .ref 188 :: .ref 189 :: .int 0 :: .ref 190 :: .ref 191 :: .ref 192 :: .ref 193 :: .ref 194 :: .int 0 :: .ref 195 :: .ref 196 :: .ref 197 :: .int 0 :: .ref 198 :: .ref 199 :: .ref 200 :: .ref 201 :: .ref 202 :: .ref 203 :: .int 0 :: .ref 204 :: .ref 205 :: .ref 206 :: .ref 207 :: .ref 208 :: .ref 209 :: .ref 210 :: .ref 211 :: .ref 212 :: .ref 213 :: .ref 214 :: .int 0 :: .ref 215 :: .ref 216 :: .int 0 :: .ref 217 :: .ref 218 :: .ref 219 :: .ref 220 :: .ref 221 :: .int 0 :: .int 0 :: .int 0 :: .int 0 :: .ref 222 :: .int 0 :: [])))] mv_L_97 rfl rfl rfl (c_X9_thrown_208 rfl) rfl dL_law_932 (Nat.le_of_ble_eq_true rfl) (Nat.le_of_ble_eq_true rfl) rfl (Nat.le_of_ble_eq_true rfl) (Nat.le_of_ble_eq_true rfl) (Nat.le_of_ble_eq_true rfl) rfl ?_
  refine aw_iload C dL_law_935 rfl ?_
  refine aw_icmp_eq C 942 dL_law_937 (by decide) (fun _ => ?_) (fun q => absurd (by decide) q)
  refine aw_iload C dL_law_942 rfl ?_
  refine aw_if_ne C 959 dL_law_944 (by decide) (fun _ => ?_) (fun q => absurd q (by decide))
  refine aw_goto C 1629 dL_law_959 (by decide) ?_
  refine aw_fl [some (.retAddr b), none, none, none, some (.int 0), none, none, none] (by simp [SubL]) ?_
  exact al_tail C S0 (Nat.le_of_ble_eq_true rfl) (Nat.le_of_ble_eq_true rfl)

set_option maxHeartbeats 4000000 in
set_option maxRecDepth 100000 in
theorem lc_17_aa {X : GX} {p : Program} {l : Launch} {e : Env} {s : State} {m : MethodId} {below : List Frame} {meth : Method} {c : Code} {b : Nat} {xs : Nat → Int32} {f : AH} {n : Nat} {a1 : Int32} {a2 : Int32} {a4 : Int32} {a5 : Int32} (C : CC X p l room_1 s m #[Value.ref b] meth c RL cL_law 8 ret) (S0 : SC X b 6 xs s) (hl0 : l.stackTraces = false) (e1 : xs 1 = a1) (q1 : (-2147483648) ≤ a1.toInt ∧ a1.toInt ≤ (-1)) (e2 : xs 2 = a2) (e3 : xs 3 = 0) (e4 : xs 4 = a4) (e5 : xs 5 = a5) (h0 : f 0 = some (.inr (8, [.ref 1, .ref 3, .ref 8, .ref 13, .ref 18, .ref 59, .ref 115, .ref 171, .ref 178, .int 0, .int 0, .int 0, .int 0, .int (-1)]))) (h59 : f 59 = some (.inr (1, [.ref 60, .ref 62, .ref 74, .int 0, .ref 68, .ref 71, .ref 64, .ref 66]))) (h181 : f 181 = some (.inr (9, (.int 0 :: .ref 182 :: .ref 183 :: .ref 184 :: .ref 185 :: .int 0 :: .int 0 :: .int 0 :: .ref 186 :: .int 0 :: .int 0 :: .int 0 :: .int (-1) :: .ref 187 :: .ref 188 :: .ref 189 :: .int 0 :: .ref 190 :: .ref 191 :: .ref 192 :: .ref 193 :: .ref 194 :: .int 0 :: .ref 195 :: .ref 196 :: .ref 197 :: .int 0 :: .ref 198 :: .ref 199 :: .ref 200 :: .ref 201 :: .ref 202 :: .ref 203 :: .int 0 :: .ref 204 :: .ref 205 :: .ref 206 :: .ref 207 :: .ref 208 :: .ref 209 :: .ref 210 :: .ref 211 :: .ref 212 :: .ref 213 :: .ref 214 :: .int 0 :: .ref 215 :: .ref 216 :: .int 0 :: .ref 217 :: .ref 218 :: .ref 219 :: .ref 220 :: .ref 221 :: .int 0 :: .int 0 :: .int 0 :: .int 0 :: .ref 222 :: .int 0 :: [])))) : AW X p l e room_1 s m #[Value.ref b] below meth c 8 (lw_Z below #[Value.ref b] s) f n 1000 300000 962 [some (.retAddr b), some (.ref 0), some (.ref 181), some (.ref 223), some (.int 0), none, none, none] [] := by
  refine ao_start ?_
  obtain ⟨q1a, q1b⟩ := q1
  refine aw_ald_n C dL_law_962 rfl ?_
  refine aw_raw_n C dL_law_963 rfl ?_
  refine aw_iload C dL_law_964 rfl ?_
  refine aw_iconst C 1 dL_law_966 ki_1 ?_
  refine ae_iadd C 1 dL_law_967 (by decide) ?_
  refine aw_sld C S0 a1 (by unfold vp_in; decide) (by decide : _ = 1) e1 dL_law_968 ?_
  refine aw_raw_n C dL_law_969 rfl ?_
  refine aw_iload C dL_law_970 rfl ?_
  refine aw_iconst C 2 dL_law_972 ki_2 ?_
  refine ae_iadd C 2 dL_law_973 (by decide) ?_
  refine aw_sld C S0 a2 (by unfold vp_in; decide) (by decide : _ = 2) e2 dL_law_974 ?_
  refine aw_raw_n C dL_law_975 rfl ?_
  refine aw_iload C dL_law_976 rfl ?_
  refine aw_iconst C 3 dL_law_978 ki_3 ?_
  refine ae_iadd C 3 dL_law_979 (by decide) ?_
  refine aw_sld C S0 0 (by unfold vp_in; decide) (by decide : _ = 3) e3 dL_law_980 ?_
  refine aw_if_eq C 988 dL_law_981 (by decide) (fun _ => ?_) (fun q => absurd (by decide) q)
  refine aw_iconst C 0 dL_law_988 ki_0 ?_
  refine aw_ald_n C dL_law_989 rfl ?_
  refine aw_callSW C [.ref 0, .int a1, .int a2, .int 0, .ref 223] mw_L_149 (c_L_octet_541 hl0 ⟨by omega, by omega⟩ h0 h59) rfl dL_law_990 (Nat.le_of_ble_eq_true rfl) (Nat.le_of_ble_eq_true rfl) rfl (Nat.le_of_ble_eq_true rfl) (Nat.le_of_ble_eq_true rfl) (Nat.le_of_ble_eq_true rfl) (fun v9 f9 n9 h9 => ?_)
  obtain ⟨rfl, rfl⟩ := h9
  refine ao_flat [] rfl ?_
  refine aw_istore C dL_law_993 (by decide) rfl ?_
  refine aw_nl [some (.retAddr b), some (.ref 0), some (.ref 181), some (.ref 223), some (.int 0), some (.int 1), none, none] rfl ?_
  refine aw_ald_n C dL_law_995 rfl ?_
  refine aw_raw_n C dL_law_996 rfl ?_
  refine aw_iload C dL_law_997 rfl ?_
  refine aw_iconst C 1 dL_law_999 ki_1 ?_
  refine ae_iadd C 1 dL_law_1000 (by decide) ?_
  refine aw_sld C S0 a1 (by unfold vp_in; decide) (by decide : _ = 1) e1 dL_law_1001 ?_
  refine aw_raw_n C dL_law_1002 rfl ?_
  refine aw_iload C dL_law_1003 rfl ?_
  refine aw_iconst C 2 dL_law_1005 ki_2 ?_
  refine ae_iadd C 2 dL_law_1006 (by decide) ?_
  refine aw_sld C S0 a2 (by unfold vp_in; decide) (by decide : _ = 2) e2 dL_law_1007 ?_
  refine aw_raw_n C dL_law_1008 rfl ?_
  refine aw_iload C dL_law_1009 rfl ?_
  refine aw_iconst C 3 dL_law_1011 ki_3 ?_
  refine ae_iadd C 3 dL_law_1012 (by decide) ?_
  refine aw_sld C S0 0 (by unfold vp_in; decide) (by decide : _ = 3) e3 dL_law_1013 ?_
  refine aw_if_eq C 1021 dL_law_1014 (by decide) (fun _ => ?_) (fun q => absurd (by decide) q)
  refine aw_iconst C 0 dL_law_1021 ki_0 ?_
  refine ao_callV C (ci := 9) (b := 181) [.int a1, .int a2, .int 0] [(181, .inr (9, (.int 1 :: .ref 182 :: .ref 183 :: .ref 184 :: .ref 185 :: .int 0 :: .int 0 :: .int 0 :: .ref 186 :: .int 0 :: .int 0 :: .int 0 :: .int (-1) :: .ref 187 :: .ref 188 :: .ref 189 :: .int 0 :: .ref 190 :: .ref 191 :: .ref 192 :: .ref 193 :: .ref 194 :: .int 0 :: .ref 195 :: .ref 196 :: .ref 197 :: .int 0 :: .ref 198 :: .ref 199 :: .ref 200 :: .ref 201 :: .ref 202 :: .ref 203 :: .int 0 :: .ref 204 :: .ref 205 :: .ref 206 :: .ref 207 :: .ref 208 :: .ref 209 :: .ref 210 :: .ref 211 :: .ref 212 :: .ref 213 :: .ref 214 :: .int 0 :: .ref 215 :: .ref 216 :: .int 0 :: .ref 217 :: .ref 218 :: .ref 219 :: .ref 220 :: .ref 221 :: .int 0 :: .int 0 :: .int 0 :: .int 0 :: .ref 222 :: .int 0 :: [])))] mv_L_152 rfl rfl h181 (c_X9_octet_542 ⟨by omega, by omega⟩ h181) rfl dL_law_1022 (Nat.le_of_ble_eq_true rfl) (Nat.le_of_ble_eq_true rfl) rfl (Nat.le_of_ble_eq_true rfl) (Nat.le_of_ble_eq_true rfl) (Nat.le_of_ble_eq_true rfl) rfl ?_
  refine aw_istore C dL_law_1025 (by decide) rfl ?_
  refine aw_nl [some (.retAddr b), some (.ref 0), some (.ref 181), some (.ref 223), some (.int 0), some (.int 1), some (.int 0), none] rfl ?_
  refine aw_ald_n C dL_law_1027 rfl ?_
  refine ao_callV C (ci := 9) (b := 181) [] [(181, .inr (9, (.int 1 :: .ref 182 :: .ref 183 :: .ref 184 :: .ref 185 :: .int 0 :: .int 0 :: .int 0 :: .ref 186 :: .int 0 :: .int 0 :: .int 0 :: .int (-1) :: .ref 187 :: .ref 188 :: .ref 189 :: .int 0 :: .ref 190 :: .ref 191 :: .ref 192 :: .ref 193 :: .ref 194 :: .int 0 :: .ref 195 :: .ref 196 :: .ref 197 :: .int 0 :: .ref 198 :: .ref 199 :: .ref 200 :: .ref 201 :: .ref 202 :: .ref 203 :: .int 0 :: .ref 204 :: .ref 205 :: .ref 206 :: .ref 207 :: .ref 208 :: .ref 209 :: .ref 210 :: .ref 211 :: .ref 212 :: .ref 213 :: .ref 214 :: .int 0 :: .ref 215 :: .ref 216 :: .int 0 :: .ref 217 :: .ref 218 :: .ref 219 :: .ref 220 :: .ref 221 :: .int 0 :: .int 0 :: .int 0 :: .int 0 :: .ref 222 :: .int 0 :: [])))] mv_L_97 rfl rfl rfl (c_X9_thrown_208 rfl) rfl dL_law_1028 (Nat.le_of_ble_eq_true rfl) (Nat.le_of_ble_eq_true rfl) rfl (Nat.le_of_ble_eq_true rfl) (Nat.le_of_ble_eq_true rfl) (Nat.le_of_ble_eq_true rfl) rfl ?_
  refine aw_iload C dL_law_1031 rfl ?_
  refine aw_icmp_eq C 1038 dL_law_1033 (by decide) (fun _ => ?_) (fun q => absurd (by decide) q)
  refine aw_iload C dL_law_1038 rfl ?_
  refine aw_if_ne C 1055 dL_law_1040 (by decide) (fun _ => ?_) (fun q => absurd q (by decide))
  refine aw_goto C 1629 dL_law_1055 (by decide) ?_
  refine aw_fl [some (.retAddr b), none, none, none, some (.int 0), none, none, none] (by simp [SubL]) ?_
  exact al_tail C S0 (Nat.le_of_ble_eq_true rfl) (Nat.le_of_ble_eq_true rfl)

set_option maxHeartbeats 4000000 in
set_option maxRecDepth 100000 in
theorem lc_17_ab {X : GX} {p : Program} {l : Launch} {e : Env} {s : State} {m : MethodId} {below : List Frame} {meth : Method} {c : Code} {b : Nat} {xs : Nat → Int32} {f : AH} {n : Nat} {a1 : Int32} {a2 : Int32} {a3 : Int32} {a4 : Int32} {a5 : Int32} (C : CC X p l room_1 s m #[Value.ref b] meth c RL cL_law 8 ret) (S0 : SC X b 6 xs s) (hl0 : l.stackTraces = false) (e1 : xs 1 = a1) (q1 : (-2147483648) ≤ a1.toInt ∧ a1.toInt ≤ (-1)) (e2 : xs 2 = a2) (e3 : xs 3 = a3) (z3 : ¬ a3 = 0) (e4 : xs 4 = a4) (e5 : xs 5 = a5) (h0 : f 0 = some (.inr (8, [.ref 1, .ref 3, .ref 8, .ref 13, .ref 18, .ref 59, .ref 115, .ref 171, .ref 178, .int 0, .int 0, .int 0, .int 0, .int (-1)]))) (h59 : f 59 = some (.inr (1, [.ref 60, .ref 62, .ref 74, .int 0, .ref 68, .ref 71, .ref 64, .ref 66]))) (h181 : f 181 = some (.inr (9, (.int 0 :: .ref 182 :: .ref 183 :: .ref 184 :: .ref 185 :: .int 0 :: .int 0 :: .int 0 :: .ref 186 :: .int 0 :: .int 0 :: .int 0 :: .int (-1) :: .ref 187 :: .ref 188 :: .ref 189 :: .int 0 :: .ref 190 :: .ref 191 :: .ref 192 :: .ref 193 :: .ref 194 :: .int 0 :: .ref 195 :: .ref 196 :: .ref 197 :: .int 0 :: .ref 198 :: .ref 199 :: .ref 200 :: .ref 201 :: .ref 202 :: .ref 203 :: .int 0 :: .ref 204 :: .ref 205 :: .ref 206 :: .ref 207 :: .ref 208 :: .ref 209 :: .ref 210 :: .ref 211 :: .ref 212 :: .ref 213 :: .ref 214 :: .int 0 :: .ref 215 :: .ref 216 :: .int 0 :: .ref 217 :: .ref 218 :: .ref 219 :: .ref 220 :: .ref 221 :: .int 0 :: .int 0 :: .int 0 :: .int 0 :: .ref 222 :: .int 0 :: [])))) : AW X p l e room_1 s m #[Value.ref b] below meth c 8 (lw_Z below #[Value.ref b] s) f n 1000 300000 962 [some (.retAddr b), some (.ref 0), some (.ref 181), some (.ref 223), some (.int 0), none, none, none] [] := by
  refine ao_start ?_
  obtain ⟨q1a, q1b⟩ := q1
  refine aw_ald_n C dL_law_962 rfl ?_
  refine aw_raw_n C dL_law_963 rfl ?_
  refine aw_iload C dL_law_964 rfl ?_
  refine aw_iconst C 1 dL_law_966 ki_1 ?_
  refine ae_iadd C 1 dL_law_967 (by decide) ?_
  refine aw_sld C S0 a1 (by unfold vp_in; decide) (by decide : _ = 1) e1 dL_law_968 ?_
  refine aw_raw_n C dL_law_969 rfl ?_
  refine aw_iload C dL_law_970 rfl ?_
  refine aw_iconst C 2 dL_law_972 ki_2 ?_
  refine ae_iadd C 2 dL_law_973 (by decide) ?_
  refine aw_sld C S0 a2 (by unfold vp_in; decide) (by decide : _ = 2) e2 dL_law_974 ?_
  refine aw_raw_n C dL_law_975 rfl ?_
  refine aw_iload C dL_law_976 rfl ?_
  refine aw_iconst C 3 dL_law_978 ki_3 ?_
  refine ae_iadd C 3 dL_law_979 (by decide) ?_
  refine aw_sld C S0 a3 (by unfold vp_in; decide) (by decide : _ = 3) e3 dL_law_980 ?_
  refine aw_if_eq C 988 dL_law_981 (by decide) (fun q => absurd q z3) (fun _ => ?_)
  refine aw_iconst C 1 dL_law_984 ki_1 ?_
  refine aw_goto C 989 dL_law_985 (by decide) ?_
  refine aw_ald_n C dL_law_989 rfl ?_
  refine aw_callSW C [.ref 0, .int a1, .int a2, .int 1, .ref 223] mw_L_149 (c_L_octet_544 hl0 ⟨by omega, by omega⟩ h0 h59) rfl dL_law_990 (Nat.le_of_ble_eq_true rfl) (Nat.le_of_ble_eq_true rfl) rfl (Nat.le_of_ble_eq_true rfl) (Nat.le_of_ble_eq_true rfl) (Nat.le_of_ble_eq_true rfl) (fun v9 f9 n9 h9 => ?_)
  obtain ⟨rfl, rfl⟩ := h9
  refine ao_flat [] rfl ?_
  refine aw_istore C dL_law_993 (by decide) rfl ?_
  refine aw_nl [some (.retAddr b), some (.ref 0), some (.ref 181), some (.ref 223), some (.int 0), some (.int 1), none, none] rfl ?_
  refine aw_ald_n C dL_law_995 rfl ?_
  refine aw_raw_n C dL_law_996 rfl ?_
  refine aw_iload C dL_law_997 rfl ?_
  refine aw_iconst C 1 dL_law_999 ki_1 ?_
  refine ae_iadd C 1 dL_law_1000 (by decide) ?_
  refine aw_sld C S0 a1 (by unfold vp_in; decide) (by decide : _ = 1) e1 dL_law_1001 ?_
  refine aw_raw_n C dL_law_1002 rfl ?_
  refine aw_iload C dL_law_1003 rfl ?_
  refine aw_iconst C 2 dL_law_1005 ki_2 ?_
  refine ae_iadd C 2 dL_law_1006 (by decide) ?_
  refine aw_sld C S0 a2 (by unfold vp_in; decide) (by decide : _ = 2) e2 dL_law_1007 ?_
  refine aw_raw_n C dL_law_1008 rfl ?_
  refine aw_iload C dL_law_1009 rfl ?_
  refine aw_iconst C 3 dL_law_1011 ki_3 ?_
  refine ae_iadd C 3 dL_law_1012 (by decide) ?_
  refine aw_sld C S0 a3 (by unfold vp_in; decide) (by decide : _ = 3) e3 dL_law_1013 ?_
  refine aw_if_eq C 1021 dL_law_1014 (by decide) (fun q => absurd q z3) (fun _ => ?_)
  refine aw_iconst C 1 dL_law_1017 ki_1 ?_
  refine aw_goto C 1022 dL_law_1018 (by decide) ?_
  refine ao_callV C (ci := 9) (b := 181) [.int a1, .int a2, .int 1] [(181, .inr (9, (.int 1 :: .ref 182 :: .ref 183 :: .ref 184 :: .ref 185 :: .int 0 :: .int 0 :: .int 0 :: .ref 186 :: .int 0 :: .int 0 :: .int 0 :: .int (-1) :: .ref 187 :: .ref 188 :: .ref 189 :: .int 0 :: .ref 190 :: .ref 191 :: .ref 192 :: .ref 193 :: .ref 194 :: .int 0 :: .ref 195 :: .ref 196 :: .ref 197 :: .int 0 :: .ref 198 :: .ref 199 :: .ref 200 :: .ref 201 :: .ref 202 :: .ref 203 :: .int 0 :: .ref 204 :: .ref 205 :: .ref 206 :: .ref 207 :: .ref 208 :: .ref 209 :: .ref 210 :: .ref 211 :: .ref 212 :: .ref 213 :: .ref 214 :: .int 0 :: .ref 215 :: .ref 216 :: .int 0 :: .ref 217 :: .ref 218 :: .ref 219 :: .ref 220 :: .ref 221 :: .int 0 :: .int 0 :: .int 0 :: .int 0 :: .ref 222 :: .int 0 :: [])))] mv_L_152 rfl rfl h181 (c_X9_octet_545 ⟨by omega, by omega⟩ h181) rfl dL_law_1022 (Nat.le_of_ble_eq_true rfl) (Nat.le_of_ble_eq_true rfl) rfl (Nat.le_of_ble_eq_true rfl) (Nat.le_of_ble_eq_true rfl) (Nat.le_of_ble_eq_true rfl) rfl ?_
  refine aw_istore C dL_law_1025 (by decide) rfl ?_
  refine aw_nl [some (.retAddr b), some (.ref 0), some (.ref 181), some (.ref 223), some (.int 0), some (.int 1), some (.int 0), none] rfl ?_
  refine aw_ald_n C dL_law_1027 rfl ?_
  refine ao_callV C (ci := 9) (b := 181) [] [(181, .inr (9, (.int 1 :: .ref 182 :: .ref 183 :: .ref 184 :: .ref 185 :: .int 0 :: .int 0 :: .int 0 :: .ref 186 :: .int 0 :: .int 0 :: .int 0 :: .int (-1) :: .ref 187 :: .ref 188 :: .ref 189 :: .int 0 :: .ref 190 :: .ref 191 :: .ref 192 :: .ref 193 :: .ref 194 :: .int 0 :: .ref 195 :: .ref 196 :: .ref 197 :: .int 0 :: .ref 198 :: .ref 199 :: .ref 200 :: .ref 201 :: .ref 202 :: .ref 203 :: .int 0 :: .ref 204 :: .ref 205 :: .ref 206 :: .ref 207 :: .ref 208 :: .ref 209 :: .ref 210 :: .ref 211 :: .ref 212 :: .ref 213 :: .ref 214 :: .int 0 :: .ref 215 :: .ref 216 :: .int 0 :: .ref 217 :: .ref 218 :: .ref 219 :: .ref 220 :: .ref 221 :: .int 0 :: .int 0 :: .int 0 :: .int 0 :: .ref 222 :: .int 0 :: [])))] mv_L_97 rfl rfl rfl (c_X9_thrown_208 rfl) rfl dL_law_1028 (Nat.le_of_ble_eq_true rfl) (Nat.le_of_ble_eq_true rfl) rfl (Nat.le_of_ble_eq_true rfl) (Nat.le_of_ble_eq_true rfl) (Nat.le_of_ble_eq_true rfl) rfl ?_
  refine aw_iload C dL_law_1031 rfl ?_
  refine aw_icmp_eq C 1038 dL_law_1033 (by decide) (fun _ => ?_) (fun q => absurd (by decide) q)
  refine aw_iload C dL_law_1038 rfl ?_
  refine aw_if_ne C 1055 dL_law_1040 (by decide) (fun _ => ?_) (fun q => absurd q (by decide))
  refine aw_goto C 1629 dL_law_1055 (by decide) ?_
  refine aw_fl [some (.retAddr b), none, none, none, some (.int 0), none, none, none] (by simp [SubL]) ?_
  exact al_tail C S0 (Nat.le_of_ble_eq_true rfl) (Nat.le_of_ble_eq_true rfl)

set_option maxHeartbeats 4000000 in
set_option maxRecDepth 100000 in
theorem lc_17_ba {X : GX} {p : Program} {l : Launch} {e : Env} {s : State} {m : MethodId} {below : List Frame} {meth : Method} {c : Code} {b : Nat} {xs : Nat → Int32} {f : AH} {n : Nat} {a1 : Int32} {a2 : Int32} {a4 : Int32} {a5 : Int32} (C : CC X p l room_1 s m #[Value.ref b] meth c RL cL_law 8 ret) (S0 : SC X b 6 xs s) (hl0 : l.stackTraces = false) (e1 : xs 1 = a1) (q1 : 0 ≤ a1.toInt ∧ a1.toInt ≤ 2147483647) (e2 : xs 2 = a2) (e3 : xs 3 = 0) (e4 : xs 4 = a4) (e5 : xs 5 = a5) (h0 : f 0 = some (.inr (8, [.ref 1, .ref 3, .ref 8, .ref 13, .ref 18, .ref 59, .ref 115, .ref 171, .ref 178, .int 0, .int 0, .int 0, .int 0, .int (-1)]))) (h59 : f 59 = some (.inr (1, [.ref 60, .ref 62, .ref 74, .int 0, .ref 68, .ref 71, .ref 64, .ref 66]))) (h181 : f 181 = some (.inr (9, (.int 0 :: .ref 182 :: .ref 183 :: .ref 184 :: .ref 185 :: .int 0 :: .int 0 :: .int 0 :: .ref 186 :: .int 0 :: .int 0 :: .int 0 :: .int (-1) :: .ref 187 :: .ref 188 :: .ref 189 :: .int 0 :: .ref 190 :: .ref 191 :: .ref 192 :: .ref 193 :: .ref 194 :: .int 0 :: .ref 195 :: .ref 196 :: .ref 197 :: .int 0 :: .ref 198 :: .ref 199 :: .ref 200 :: .ref 201 :: .ref 202 :: .ref 203 :: .int 0 :: .ref 204 :: .ref 205 :: .ref 206 :: .ref 207 :: .ref 208 :: .ref 209 :: .ref 210 :: .ref 211 :: .ref 212 :: .ref 213 :: .ref 214 :: .int 0 :: .ref 215 :: .ref 216 :: .int 0 :: .ref 217 :: .ref 218 :: .ref 219 :: .ref 220 :: .ref 221 :: .int 0 :: .int 0 :: .int 0 :: .int 0 :: .ref 222 :: .int 0 :: [])))) : AW X p l e room_1 s m #[Value.ref b] below meth c 8 (lw_Z below #[Value.ref b] s) f n 1000 300000 962 [some (.retAddr b), some (.ref 0), some (.ref 181), some (.ref 223), some (.int 0), none, none, none] [] := by
  refine ao_start ?_
  obtain ⟨q1a, q1b⟩ := q1
  refine aw_ald_n C dL_law_962 rfl ?_
  refine aw_raw_n C dL_law_963 rfl ?_
  refine aw_iload C dL_law_964 rfl ?_
  refine aw_iconst C 1 dL_law_966 ki_1 ?_
  refine ae_iadd C 1 dL_law_967 (by decide) ?_
  refine aw_sld C S0 a1 (by unfold vp_in; decide) (by decide : _ = 1) e1 dL_law_968 ?_
  refine aw_raw_n C dL_law_969 rfl ?_
  refine aw_iload C dL_law_970 rfl ?_
  refine aw_iconst C 2 dL_law_972 ki_2 ?_
  refine ae_iadd C 2 dL_law_973 (by decide) ?_
  refine aw_sld C S0 a2 (by unfold vp_in; decide) (by decide : _ = 2) e2 dL_law_974 ?_
  refine aw_raw_n C dL_law_975 rfl ?_
  refine aw_iload C dL_law_976 rfl ?_
  refine aw_iconst C 3 dL_law_978 ki_3 ?_
  refine ae_iadd C 3 dL_law_979 (by decide) ?_
  refine aw_sld C S0 0 (by unfold vp_in; decide) (by decide : _ = 3) e3 dL_law_980 ?_
  refine aw_if_eq C 988 dL_law_981 (by decide) (fun _ => ?_) (fun q => absurd (by decide) q)
  refine aw_iconst C 0 dL_law_988 ki_0 ?_
  refine aw_ald_n C dL_law_989 rfl ?_
  refine aw_callSW C [.ref 0, .int a1, .int a2, .int 0, .ref 223] mw_L_149 (c_L_octet_547 hl0 ⟨by omega, by omega⟩ h0 h59) rfl dL_law_990 (Nat.le_of_ble_eq_true rfl) (Nat.le_of_ble_eq_true rfl) rfl (Nat.le_of_ble_eq_true rfl) (Nat.le_of_ble_eq_true rfl) (Nat.le_of_ble_eq_true rfl) (fun v9 f9 n9 h9 => ?_)
  obtain ⟨rfl, rfl⟩ := h9
  refine ao_flat [] rfl ?_
  refine aw_istore C dL_law_993 (by decide) rfl ?_
  refine aw_nl [some (.retAddr b), some (.ref 0), some (.ref 181), some (.ref 223), some (.int 0), some (.int 1), none, none] rfl ?_
  refine aw_ald_n C dL_law_995 rfl ?_
  refine aw_raw_n C dL_law_996 rfl ?_
  refine aw_iload C dL_law_997 rfl ?_
  refine aw_iconst C 1 dL_law_999 ki_1 ?_
  refine ae_iadd C 1 dL_law_1000 (by decide) ?_
  refine aw_sld C S0 a1 (by unfold vp_in; decide) (by decide : _ = 1) e1 dL_law_1001 ?_
  refine aw_raw_n C dL_law_1002 rfl ?_
  refine aw_iload C dL_law_1003 rfl ?_
  refine aw_iconst C 2 dL_law_1005 ki_2 ?_
  refine ae_iadd C 2 dL_law_1006 (by decide) ?_
  refine aw_sld C S0 a2 (by unfold vp_in; decide) (by decide : _ = 2) e2 dL_law_1007 ?_
  refine aw_raw_n C dL_law_1008 rfl ?_
  refine aw_iload C dL_law_1009 rfl ?_
  refine aw_iconst C 3 dL_law_1011 ki_3 ?_
  refine ae_iadd C 3 dL_law_1012 (by decide) ?_
  refine aw_sld C S0 0 (by unfold vp_in; decide) (by decide : _ = 3) e3 dL_law_1013 ?_
  refine aw_if_eq C 1021 dL_law_1014 (by decide) (fun _ => ?_) (fun q => absurd (by decide) q)
  refine aw_iconst C 0 dL_law_1021 ki_0 ?_
  refine ao_callV C (ci := 9) (b := 181) [.int a1, .int a2, .int 0] [(181, .inr (9, (.int 1 :: .ref 182 :: .ref 183 :: .ref 184 :: .ref 185 :: .int 0 :: .int 0 :: .int 0 :: .ref 186 :: .int 0 :: .int 0 :: .int 0 :: .int (-1) :: .ref 187 :: .ref 188 :: .ref 189 :: .int 0 :: .ref 190 :: .ref 191 :: .ref 192 :: .ref 193 :: .ref 194 :: .int 0 :: .ref 195 :: .ref 196 :: .ref 197 :: .int 0 :: .ref 198 :: .ref 199 :: .ref 200 :: .ref 201 :: .ref 202 :: .ref 203 :: .int 0 :: .ref 204 :: .ref 205 :: .ref 206 :: .ref 207 :: .ref 208 :: .ref 209 :: .ref 210 :: .ref 211 :: .ref 212 :: .ref 213 :: .ref 214 :: .int 0 :: .ref 215 :: .ref 216 :: .int 0 :: .ref 217 :: .ref 218 :: .ref 219 :: .ref 220 :: .ref 221 :: .int 0 :: .int 0 :: .int 0 :: .int 0 :: .ref 222 :: .int 0 :: [])))] mv_L_152 rfl rfl h181 (c_X9_octet_548 ⟨by omega, by omega⟩ h181) rfl dL_law_1022 (Nat.le_of_ble_eq_true rfl) (Nat.le_of_ble_eq_true rfl) rfl (Nat.le_of_ble_eq_true rfl) (Nat.le_of_ble_eq_true rfl) (Nat.le_of_ble_eq_true rfl) rfl ?_
  refine aw_istore C dL_law_1025 (by decide) rfl ?_
  refine aw_nl [some (.retAddr b), some (.ref 0), some (.ref 181), some (.ref 223), some (.int 0), some (.int 1), some (.int 0), none] rfl ?_
  refine aw_ald_n C dL_law_1027 rfl ?_
  refine ao_callV C (ci := 9) (b := 181) [] [(181, .inr (9, (.int 1 :: .ref 182 :: .ref 183 :: .ref 184 :: .ref 185 :: .int 0 :: .int 0 :: .int 0 :: .ref 186 :: .int 0 :: .int 0 :: .int 0 :: .int (-1) :: .ref 187 :: .ref 188 :: .ref 189 :: .int 0 :: .ref 190 :: .ref 191 :: .ref 192 :: .ref 193 :: .ref 194 :: .int 0 :: .ref 195 :: .ref 196 :: .ref 197 :: .int 0 :: .ref 198 :: .ref 199 :: .ref 200 :: .ref 201 :: .ref 202 :: .ref 203 :: .int 0 :: .ref 204 :: .ref 205 :: .ref 206 :: .ref 207 :: .ref 208 :: .ref 209 :: .ref 210 :: .ref 211 :: .ref 212 :: .ref 213 :: .ref 214 :: .int 0 :: .ref 215 :: .ref 216 :: .int 0 :: .ref 217 :: .ref 218 :: .ref 219 :: .ref 220 :: .ref 221 :: .int 0 :: .int 0 :: .int 0 :: .int 0 :: .ref 222 :: .int 0 :: [])))] mv_L_97 rfl rfl rfl (c_X9_thrown_208 rfl) rfl dL_law_1028 (Nat.le_of_ble_eq_true rfl) (Nat.le_of_ble_eq_true rfl) rfl (Nat.le_of_ble_eq_true rfl) (Nat.le_of_ble_eq_true rfl) (Nat.le_of_ble_eq_true rfl) rfl ?_
  refine aw_iload C dL_law_1031 rfl ?_
  refine aw_icmp_eq C 1038 dL_law_1033 (by decide) (fun _ => ?_) (fun q => absurd (by decide) q)
  refine aw_iload C dL_law_1038 rfl ?_
  refine aw_if_ne C 1055 dL_law_1040 (by decide) (fun _ => ?_) (fun q => absurd q (by decide))
  refine aw_goto C 1629 dL_law_1055 (by decide) ?_
  refine aw_fl [some (.retAddr b), none, none, none, some (.int 0), none, none, none] (by simp [SubL]) ?_
  exact al_tail C S0 (Nat.le_of_ble_eq_true rfl) (Nat.le_of_ble_eq_true rfl)

set_option maxHeartbeats 4000000 in
set_option maxRecDepth 100000 in
theorem lc_17_bb {X : GX} {p : Program} {l : Launch} {e : Env} {s : State} {m : MethodId} {below : List Frame} {meth : Method} {c : Code} {b : Nat} {xs : Nat → Int32} {f : AH} {n : Nat} {a1 : Int32} {a2 : Int32} {a3 : Int32} {a4 : Int32} {a5 : Int32} (C : CC X p l room_1 s m #[Value.ref b] meth c RL cL_law 8 ret) (S0 : SC X b 6 xs s) (hl0 : l.stackTraces = false) (e1 : xs 1 = a1) (q1 : 0 ≤ a1.toInt ∧ a1.toInt ≤ 2147483647) (e2 : xs 2 = a2) (e3 : xs 3 = a3) (z3 : ¬ a3 = 0) (e4 : xs 4 = a4) (e5 : xs 5 = a5) (h0 : f 0 = some (.inr (8, [.ref 1, .ref 3, .ref 8, .ref 13, .ref 18, .ref 59, .ref 115, .ref 171, .ref 178, .int 0, .int 0, .int 0, .int 0, .int (-1)]))) (h59 : f 59 = some (.inr (1, [.ref 60, .ref 62, .ref 74, .int 0, .ref 68, .ref 71, .ref 64, .ref 66]))) (h181 : f 181 = some (.inr (9, (.int 0 :: .ref 182 :: .ref 183 :: .ref 184 :: .ref 185 :: .int 0 :: .int 0 :: .int 0 :: .ref 186 :: .int 0 :: .int 0 :: .int 0 :: .int (-1) :: .ref 187 :: .ref 188 :: .ref 189 :: .int 0 :: .ref 190 :: .ref 191 :: .ref 192 :: .ref 193 :: .ref 194 :: .int 0 :: .ref 195 :: .ref 196 :: .ref 197 :: .int 0 :: .ref 198 :: .ref 199 :: .ref 200 :: .ref 201 :: .ref 202 :: .ref 203 :: .int 0 :: .ref 204 :: .ref 205 :: .ref 206 :: .ref 207 :: .ref 208 :: .ref 209 :: .ref 210 :: .ref 211 :: .ref 212 :: .ref 213 :: .ref 214 :: .int 0 :: .ref 215 :: .ref 216 :: .int 0 :: .ref 217 :: .ref 218 :: .ref 219 :: .ref 220 :: .ref 221 :: .int 0 :: .int 0 :: .int 0 :: .int 0 :: .ref 222 :: .int 0 :: [])))) : AW X p l e room_1 s m #[Value.ref b] below meth c 8 (lw_Z below #[Value.ref b] s) f n 1000 300000 962 [some (.retAddr b), some (.ref 0), some (.ref 181), some (.ref 223), some (.int 0), none, none, none] [] := by
  refine ao_start ?_
  obtain ⟨q1a, q1b⟩ := q1
  refine aw_ald_n C dL_law_962 rfl ?_
  refine aw_raw_n C dL_law_963 rfl ?_
  refine aw_iload C dL_law_964 rfl ?_
  refine aw_iconst C 1 dL_law_966 ki_1 ?_
  refine ae_iadd C 1 dL_law_967 (by decide) ?_
  refine aw_sld C S0 a1 (by unfold vp_in; decide) (by decide : _ = 1) e1 dL_law_968 ?_
  refine aw_raw_n C dL_law_969 rfl ?_
  refine aw_iload C dL_law_970 rfl ?_
  refine aw_iconst C 2 dL_law_972 ki_2 ?_
  refine ae_iadd C 2 dL_law_973 (by decide) ?_
  refine aw_sld C S0 a2 (by unfold vp_in; decide) (by decide : _ = 2) e2 dL_law_974 ?_
  refine aw_raw_n C dL_law_975 rfl ?_
  refine aw_iload C dL_law_976 rfl ?_
  refine aw_iconst C 3 dL_law_978 ki_3 ?_
  refine ae_iadd C 3 dL_law_979 (by decide) ?_
  refine aw_sld C S0 a3 (by unfold vp_in; decide) (by decide : _ = 3) e3 dL_law_980 ?_
  refine aw_if_eq C 988 dL_law_981 (by decide) (fun q => absurd q z3) (fun _ => ?_)
  refine aw_iconst C 1 dL_law_984 ki_1 ?_
  refine aw_goto C 989 dL_law_985 (by decide) ?_
  refine aw_ald_n C dL_law_989 rfl ?_
  refine aw_callSW C [.ref 0, .int a1, .int a2, .int 1, .ref 223] mw_L_149 (c_L_octet_550 hl0 ⟨by omega, by omega⟩ h0 h59) rfl dL_law_990 (Nat.le_of_ble_eq_true rfl) (Nat.le_of_ble_eq_true rfl) rfl (Nat.le_of_ble_eq_true rfl) (Nat.le_of_ble_eq_true rfl) (Nat.le_of_ble_eq_true rfl) (fun v9 f9 n9 h9 => ?_)
  obtain ⟨rfl, rfl⟩ := h9
  refine ao_flat [] rfl ?_
  refine aw_istore C dL_law_993 (by decide) rfl ?_
  refine aw_nl [some (.retAddr b), some (.ref 0), some (.ref 181), some (.ref 223), some (.int 0), some (.int 1), none, none] rfl ?_
  refine aw_ald_n C dL_law_995 rfl ?_
  refine aw_raw_n C dL_law_996 rfl ?_
  refine aw_iload C dL_law_997 rfl ?_
  refine aw_iconst C 1 dL_law_999 ki_1 ?_
  refine ae_iadd C 1 dL_law_1000 (by decide) ?_
  refine aw_sld C S0 a1 (by unfold vp_in; decide) (by decide : _ = 1) e1 dL_law_1001 ?_
  refine aw_raw_n C dL_law_1002 rfl ?_
  refine aw_iload C dL_law_1003 rfl ?_
  refine aw_iconst C 2 dL_law_1005 ki_2 ?_
  refine ae_iadd C 2 dL_law_1006 (by decide) ?_
  refine aw_sld C S0 a2 (by unfold vp_in; decide) (by decide : _ = 2) e2 dL_law_1007 ?_
  refine aw_raw_n C dL_law_1008 rfl ?_
  refine aw_iload C dL_law_1009 rfl ?_
  refine aw_iconst C 3 dL_law_1011 ki_3 ?_
  refine ae_iadd C 3 dL_law_1012 (by decide) ?_
  refine aw_sld C S0 a3 (by unfold vp_in; decide) (by decide : _ = 3) e3 dL_law_1013 ?_
  refine aw_if_eq C 1021 dL_law_1014 (by decide) (fun q => absurd q z3) (fun _ => ?_)
  refine aw_iconst C 1 dL_law_1017 ki_1 ?_
  refine aw_goto C 1022 dL_law_1018 (by decide) ?_
  refine ao_callV C (ci := 9) (b := 181) [.int a1, .int a2, .int 1] [(181, .inr (9, (.int 1 :: .ref 182 :: .ref 183 :: .ref 184 :: .ref 185 :: .int 0 :: .int 0 :: .int 0 :: .ref 186 :: .int 0 :: .int 0 :: .int 0 :: .int (-1) :: .ref 187 :: .ref 188 :: .ref 189 :: .int 0 :: .ref 190 :: .ref 191 :: .ref 192 :: .ref 193 :: .ref 194 :: .int 0 :: .ref 195 :: .ref 196 :: .ref 197 :: .int 0 :: .ref 198 :: .ref 199 :: .ref 200 :: .ref 201 :: .ref 202 :: .ref 203 :: .int 0 :: .ref 204 :: .ref 205 :: .ref 206 :: .ref 207 :: .ref 208 :: .ref 209 :: .ref 210 :: .ref 211 :: .ref 212 :: .ref 213 :: .ref 214 :: .int 0 :: .ref 215 :: .ref 216 :: .int 0 :: .ref 217 :: .ref 218 :: .ref 219 :: .ref 220 :: .ref 221 :: .int 0 :: .int 0 :: .int 0 :: .int 0 :: .ref 222 :: .int 0 :: [])))] mv_L_152 rfl rfl h181 (c_X9_octet_551 ⟨by omega, by omega⟩ h181) rfl dL_law_1022 (Nat.le_of_ble_eq_true rfl) (Nat.le_of_ble_eq_true rfl) rfl (Nat.le_of_ble_eq_true rfl) (Nat.le_of_ble_eq_true rfl) (Nat.le_of_ble_eq_true rfl) rfl ?_
  refine aw_istore C dL_law_1025 (by decide) rfl ?_
  refine aw_nl [some (.retAddr b), some (.ref 0), some (.ref 181), some (.ref 223), some (.int 0), some (.int 1), some (.int 0), none] rfl ?_
  refine aw_ald_n C dL_law_1027 rfl ?_
  refine ao_callV C (ci := 9) (b := 181) [] [(181, .inr (9, (.int 1 :: .ref 182 :: .ref 183 :: .ref 184 :: .ref 185 :: .int 0 :: .int 0 :: .int 0 :: .ref 186 :: .int 0 :: .int 0 :: .int 0 :: .int (-1) :: .ref 187 :: .ref 188 :: .ref 189 :: .int 0 :: .ref 190 :: .ref 191 :: .ref 192 :: .ref 193 :: .ref 194 :: .int 0 :: .ref 195 :: .ref 196 :: .ref 197 :: .int 0 :: .ref 198 :: .ref 199 :: .ref 200 :: .ref 201 :: .ref 202 :: .ref 203 :: .int 0 :: .ref 204 :: .ref 205 :: .ref 206 :: .ref 207 :: .ref 208 :: .ref 209 :: .ref 210 :: .ref 211 :: .ref 212 :: .ref 213 :: .ref 214 :: .int 0 :: .ref 215 :: .ref 216 :: .int 0 :: .ref 217 :: .ref 218 :: .ref 219 :: .ref 220 :: .ref 221 :: .int 0 :: .int 0 :: .int 0 :: .int 0 :: .ref 222 :: .int 0 :: [])))] mv_L_97 rfl rfl rfl (c_X9_thrown_208 rfl) rfl dL_law_1028 (Nat.le_of_ble_eq_true rfl) (Nat.le_of_ble_eq_true rfl) rfl (Nat.le_of_ble_eq_true rfl) (Nat.le_of_ble_eq_true rfl) (Nat.le_of_ble_eq_true rfl) rfl ?_
  refine aw_iload C dL_law_1031 rfl ?_
  refine aw_icmp_eq C 1038 dL_law_1033 (by decide) (fun _ => ?_) (fun q => absurd (by decide) q)
  refine aw_iload C dL_law_1038 rfl ?_
  refine aw_if_ne C 1055 dL_law_1040 (by decide) (fun _ => ?_) (fun q => absurd q (by decide))
  refine aw_goto C 1629 dL_law_1055 (by decide) ?_
  refine aw_fl [some (.retAddr b), none, none, none, some (.int 0), none, none, none] (by simp [SubL]) ?_
  exact al_tail C S0 (Nat.le_of_ble_eq_true rfl) (Nat.le_of_ble_eq_true rfl)

set_option maxHeartbeats 4000000 in
set_option maxRecDepth 100000 in
theorem lc_18_a {X : GX} {p : Program} {l : Launch} {e : Env} {s : State} {m : MethodId} {below : List Frame} {meth : Method} {c : Code} {b : Nat} {xs : Nat → Int32} {f : AH} {n : Nat} {a1 : Int32} {a2 : Int32} {a3 : Int32} {a4 : Int32} {a5 : Int32} (C : CC X p l room_1 s m #[Value.ref b] meth c RL cL_law 8 ret) (S0 : SC X b 6 xs s) (hl0 : l.stackTraces = false) (e1 : xs 1 = a1) (q1 : (-2147483648) ≤ a1.toInt ∧ a1.toInt ≤ (-1)) (e2 : xs 2 = a2) (e3 : xs 3 = a3) (e4 : xs 4 = a4) (e5 : xs 5 = a5) (h0 : f 0 = some (.inr (8, [.ref 1, .ref 3, .ref 8, .ref 13, .ref 18, .ref 59, .ref 115, .ref 171, .ref 178, .int 0, .int 0, .int 0, .int 0, .int (-1)]))) (h59 : f 59 = some (.inr (1, [.ref 60, .ref 62, .ref 74, .int 0, .ref 68, .ref 71, .ref 64, .ref 66]))) (h181 : f 181 = some (.inr (9, (.int 0 :: .ref 182 :: .ref 183 :: .ref 184 :: .ref 185 :: .int 0 :: .int 0 :: .int 0 :: .ref 186 :: .int 0 :: .int 0 :: .int 0 :: .int (-1) :: .ref 187 :: .ref 188 :: .ref 189 :: .int 0 :: .ref 190 :: .ref 191 :: .ref 192 :: .ref 193 :: .ref 194 :: .int 0 :: .ref 195 :: .ref 196 :: .ref 197 :: .int 0 :: .ref 198 :: .ref 199 :: .ref 200 :: .ref 201 :: .ref 202 :: .ref 203 :: .int 0 :: .ref 204 :: .ref 205 :: .ref 206 :: .ref 207 :: .ref 208 :: .ref 209 :: .ref 210 :: .ref 211 :: .ref 212 :: .ref 213 :: .ref 214 :: .int 0 :: .ref 215 :: .ref 216 :: .int 0 :: .ref 217 :: .ref 218 :: .ref 219 :: .ref 220 :: .ref 221 :: .int 0 :: .int 0 :: .int 0 :: .int 0 :: .ref 222 :: .int 0 :: [])))) : AW X p l e room_1 s m #[Value.ref b] below meth c 8 (lw_Z below #[Value.ref b] s) f n 1000 300000 1058 [some (.retAddr b), some (.ref 0), some (.ref 181), some (.ref 223), some (.int 0), none, none, none] [] := by
  refine ao_start ?_
  obtain ⟨q1a, q1b⟩ := q1
  refine aw_ald_n C dL_law_1058 rfl ?_
  refine aw_raw_n C dL_law_1059 rfl ?_
  refine aw_iload C dL_law_1060 rfl ?_
  refine aw_iconst C 1 dL_law_1062 ki_1 ?_
  refine ae_iadd C 1 dL_law_1063 (by decide) ?_
  refine aw_sld C S0 a1 (by unfold vp_in; decide) (by decide : _ = 1) e1 dL_law_1064 ?_
  refine aw_raw_n C dL_law_1065 rfl ?_
  refine aw_iload C dL_law_1066 rfl ?_
  refine aw_iconst C 2 dL_law_1068 ki_2 ?_
  refine ae_iadd C 2 dL_law_1069 (by decide) ?_
  refine aw_sld C S0 a2 (by unfold vp_in; decide) (by decide : _ = 2) e2 dL_law_1070 ?_
  refine aw_ald_n C dL_law_1071 rfl ?_
  refine aw_callSW C [.ref 0, .int a1, .int a2, .ref 223] mw_L_153 (c_L_origin_553 hl0 ⟨by omega, by omega⟩ h0 h59) rfl dL_law_1072 (Nat.le_of_ble_eq_true rfl) (Nat.le_of_ble_eq_true rfl) rfl (Nat.le_of_ble_eq_true rfl) (Nat.le_of_ble_eq_true rfl) (Nat.le_of_ble_eq_true rfl) (fun v9 f9 n9 h9 => ?_)
  obtain ⟨rfl, rfl⟩ := h9
  refine ao_flat [] rfl ?_
  refine aw_istore C dL_law_1075 (by decide) rfl ?_
  refine aw_nl [some (.retAddr b), some (.ref 0), some (.ref 181), some (.ref 223), some (.int 0), some (.int 1), none, none] rfl ?_
  refine aw_ald_n C dL_law_1077 rfl ?_
  refine aw_raw_n C dL_law_1078 rfl ?_
  refine aw_iload C dL_law_1079 rfl ?_
  refine aw_iconst C 1 dL_law_1081 ki_1 ?_
  refine ae_iadd C 1 dL_law_1082 (by decide) ?_
  refine aw_sld C S0 a1 (by unfold vp_in; decide) (by decide : _ = 1) e1 dL_law_1083 ?_
  refine aw_raw_n C dL_law_1084 rfl ?_
  refine aw_iload C dL_law_1085 rfl ?_
  refine aw_iconst C 2 dL_law_1087 ki_2 ?_
  refine ae_iadd C 2 dL_law_1088 (by decide) ?_
  refine aw_sld C S0 a2 (by unfold vp_in; decide) (by decide : _ = 2) e2 dL_law_1089 ?_
  refine ao_callV C (ci := 9) (b := 181) [.int a1, .int a2] [(181, .inr (9, (.int 1 :: .ref 182 :: .ref 183 :: .ref 184 :: .ref 185 :: .int 0 :: .int 0 :: .int 0 :: .ref 186 :: .int 0 :: .int 0 :: .int 0 :: .int (-1) :: .ref 187 :: .ref 188 :: .ref 189 :: .int 0 :: .ref 190 :: .ref 191 :: .ref 192 :: .ref 193 :: .ref 194 :: .int 0 :: .ref 195 :: .ref 196 :: .ref 197 :: .int 0 :: .ref 198 :: .ref 199 :: .ref 200 :: .ref 201 :: .ref 202 :: .ref 203 :: .int 0 :: .ref 204 :: .ref 205 :: .ref 206 :: .ref 207 :: .ref 208 :: .ref 209 :: .ref 210 :: .ref 211 :: .ref 212 :: .ref 213 :: .ref 214 :: .int 0 :: .ref 215 :: .ref 216 :: .int 0 :: .ref 217 :: .ref 218 :: .ref 219 :: .ref 220 :: .ref 221 :: .int 0 :: .int 0 :: .int 0 :: .int 0 :: .ref 222 :: .int 0 :: [])))] mv_L_155 rfl rfl h181 (c_X9_origin_554 ⟨by omega, by omega⟩ h181) rfl dL_law_1090 (Nat.le_of_ble_eq_true rfl) (Nat.le_of_ble_eq_true rfl) rfl (Nat.le_of_ble_eq_true rfl) (Nat.le_of_ble_eq_true rfl) (Nat.le_of_ble_eq_true rfl) rfl ?_
  refine aw_istore C dL_law_1093 (by decide) rfl ?_
  refine aw_nl [some (.retAddr b), some (.ref 0), some (.ref 181), some (.ref 223), some (.int 0), some (.int 1), some (.int 0), none] rfl ?_
  refine aw_ald_n C dL_law_1095 rfl ?_
  refine ao_callV C (ci := 9) (b := 181) [] [(181, .inr (9, (.int 1 :: .ref 182 :: .ref 183 :: .ref 184 :: .ref 185 :: .int 0 :: .int 0 :: .int 0 :: .ref 186 :: .int 0 :: .int 0 :: .int 0 :: .int (-1) :: .ref 187 :: .ref 188 :: .ref 189 :: .int 0 :: .ref 190 :: .ref 191 :: .ref 192 :: .ref 193 :: .ref 194 :: .int 0 :: .ref 195 :: .ref 196 :: .ref 197 :: .int 0 :: .ref 198 :: .ref 199 :: .ref 200 :: .ref 201 :: .ref 202 :: .ref 203 :: .int 0 :: .ref 204 :: .ref 205 :: .ref 206 :: .ref 207 :: .ref 208 :: .ref 209 :: .ref 210 :: .ref 211 :: .ref 212 :: .ref 213 :: .ref 214 :: .int 0 :: .ref 215 :: .ref 216 :: .int 0 :: .ref 217 :: .ref 218 :: .ref 219 :: .ref 220 :: .ref 221 :: .int 0 :: .int 0 :: .int 0 :: .int 0 :: .ref 222 :: .int 0 :: [])))] mv_L_97 rfl rfl rfl (c_X9_thrown_208 rfl) rfl dL_law_1096 (Nat.le_of_ble_eq_true rfl) (Nat.le_of_ble_eq_true rfl) rfl (Nat.le_of_ble_eq_true rfl) (Nat.le_of_ble_eq_true rfl) (Nat.le_of_ble_eq_true rfl) rfl ?_
  refine aw_iload C dL_law_1099 rfl ?_
  refine aw_icmp_eq C 1106 dL_law_1101 (by decide) (fun _ => ?_) (fun q => absurd (by decide) q)
  refine aw_iload C dL_law_1106 rfl ?_
  refine aw_if_ne C 1123 dL_law_1108 (by decide) (fun _ => ?_) (fun q => absurd q (by decide))
  refine aw_goto C 1629 dL_law_1123 (by decide) ?_
  refine aw_fl [some (.retAddr b), none, none, none, some (.int 0), none, none, none] (by simp [SubL]) ?_
  exact al_tail C S0 (Nat.le_of_ble_eq_true rfl) (Nat.le_of_ble_eq_true rfl)

set_option maxHeartbeats 4000000 in
set_option maxRecDepth 100000 in
theorem lc_18_b {X : GX} {p : Program} {l : Launch} {e : Env} {s : State} {m : MethodId} {below : List Frame} {meth : Method} {c : Code} {b : Nat} {xs : Nat → Int32} {f : AH} {n : Nat} {a1 : Int32} {a2 : Int32} {a3 : Int32} {a4 : Int32} {a5 : Int32} (C : CC X p l room_1 s m #[Value.ref b] meth c RL cL_law 8 ret) (S0 : SC X b 6 xs s) (hl0 : l.stackTraces = false) (e1 : xs 1 = a1) (q1 : 0 ≤ a1.toInt ∧ a1.toInt ≤ 2147483647) (e2 : xs 2 = a2) (e3 : xs 3 = a3) (e4 : xs 4 = a4) (e5 : xs 5 = a5) (h0 : f 0 = some (.inr (8, [.ref 1, .ref 3, .ref 8, .ref 13, .ref 18, .ref 59, .ref 115, .ref 171, .ref 178, .int 0, .int 0, .int 0, .int 0, .int (-1)]))) (h59 : f 59 = some (.inr (1, [.ref 60, .ref 62, .ref 74, .int 0, .ref 68, .ref 71, .ref 64, .ref 66]))) (h181 : f 181 = some (.inr (9, (.int 0 :: .ref 182 :: .ref 183 :: .ref 184 :: .ref 185 :: .int 0 :: .int 0 :: .int 0 :: .ref 186 :: .int 0 :: .int 0 :: .int 0 :: .int (-1) :: .ref 187 :: .ref 188 :: .ref 189 :: .int 0 :: .ref 190 :: .ref 191 :: .ref 192 :: .ref 193 :: .ref 194 :: .int 0 :: .ref 195 :: .ref 196 :: .ref 197 :: .int 0 :: .ref 198 :: .ref 199 :: .ref 200 :: .ref 201 :: .ref 202 :: .ref 203 :: .int 0 :: .ref 204 :: .ref 205 :: .ref 206 :: .ref 207 :: .ref 208 :: .ref 209 :: .ref 210 :: .ref 211 :: .ref 212 :: .ref 213 :: .ref 214 :: .int 0 :: .ref 215 :: .ref 216 :: .int 0 :: .ref 217 :: .ref 218 :: .ref 219 :: .ref 220 :: .ref 221 :: .int 0 :: .int 0 :: .int 0 :: .int 0 :: .ref 222 :: .int 0 :: [])))) : AW X p l e room_1 s m #[Value.ref b] below meth c 8 (lw_Z below #[Value.ref b] s) f n 1000 300000 1058 [some (.retAddr b), some (.ref 0), some (.ref 181), some (.ref 223), some (.int 0), none, none, none] [] := by
  refine ao_start ?_
  obtain ⟨q1a, q1b⟩ := q1
  refine aw_ald_n C dL_law_1058 rfl ?_
  refine aw_raw_n C dL_law_1059 rfl ?_
  refine aw_iload C dL_law_1060 rfl ?_
  refine aw_iconst C 1 dL_law_1062 ki_1 ?_
  refine ae_iadd C 1 dL_law_1063 (by decide) ?_
  refine aw_sld C S0 a1 (by unfold vp_in; decide) (by decide : _ = 1) e1 dL_law_1064 ?_
  refine aw_raw_n C dL_law_1065 rfl ?_
  refine aw_iload C dL_law_1066 rfl ?_
  refine aw_iconst C 2 dL_law_1068 ki_2 ?_
  refine ae_iadd C 2 dL_law_1069 (by decide) ?_
  refine aw_sld C S0 a2 (by unfold vp_in; decide) (by decide : _ = 2) e2 dL_law_1070 ?_
  refine aw_ald_n C dL_law_1071 rfl ?_
  refine aw_callSW C [.ref 0, .int a1, .int a2, .ref 223] mw_L_153 (c_L_origin_556 hl0 ⟨by omega, by omega⟩ h0 h59) rfl dL_law_1072 (Nat.le_of_ble_eq_true rfl) (Nat.le_of_ble_eq_true rfl) rfl (Nat.le_of_ble_eq_true rfl) (Nat.le_of_ble_eq_true rfl) (Nat.le_of_ble_eq_true rfl) (fun v9 f9 n9 h9 => ?_)
  obtain ⟨rfl, rfl⟩ := h9
  refine ao_flat [] rfl ?_
  refine aw_istore C dL_law_1075 (by decide) rfl ?_
  refine aw_nl [some (.retAddr b), some (.ref 0), some (.ref 181), some (.ref 223), some (.int 0), some (.int 1), none, none] rfl ?_
  refine aw_ald_n C dL_law_1077 rfl ?_
  refine aw_raw_n C dL_law_1078 rfl ?_
  refine aw_iload C dL_law_1079 rfl ?_
  refine aw_iconst C 1 dL_law_1081 ki_1 ?_
  refine ae_iadd C 1 dL_law_1082 (by decide) ?_
  refine aw_sld C S0 a1 (by unfold vp_in; decide) (by decide : _ = 1) e1 dL_law_1083 ?_
  refine aw_raw_n C dL_law_1084 rfl ?_
  refine aw_iload C dL_law_1085 rfl ?_
  refine aw_iconst C 2 dL_law_1087 ki_2 ?_
  refine ae_iadd C 2 dL_law_1088 (by decide) ?_
  refine aw_sld C S0 a2 (by unfold vp_in; decide) (by decide : _ = 2) e2 dL_law_1089 ?_
  refine ao_callV C (ci := 9) (b := 181) [.int a1, .int a2] [(181, .inr (9, (.int 1 :: .ref 182 :: .ref 183 :: .ref 184 :: .ref 185 :: .int 0 :: .int 0 :: .int 0 :: .ref 186 :: .int 0 :: .int 0 :: .int 0 :: .int (-1) :: .ref 187 :: .ref 188 :: .ref 189 :: .int 0 :: .ref 190 :: .ref 191 :: .ref 192 :: .ref 193 :: .ref 194 :: .int 0 :: .ref 195 :: .ref 196 :: .ref 197 :: .int 0 :: .ref 198 :: .ref 199 :: .ref 200 :: .ref 201 :: .ref 202 :: .ref 203 :: .int 0 :: .ref 204 :: .ref 205 :: .ref 206 :: .ref 207 :: .ref 208 :: .ref 209 :: .ref 210 :: .ref 211 :: .ref 212 :: .ref 213 :: .ref 214 :: .int 0 :: .ref 215 :: .ref 216 :: .int 0 :: .ref 217 :: .ref 218 :: .ref 219 :: .ref 220 :: .ref 221 :: .int 0 :: .int 0 :: .int 0 :: .int 0 :: .ref 222 :: .int 0 :: [])))] mv_L_155 rfl rfl h181 (c_X9_origin_557 ⟨by omega, by omega⟩ h181) rfl dL_law_1090 (Nat.le_of_ble_eq_true rfl) (Nat.le_of_ble_eq_true rfl) rfl (Nat.le_of_ble_eq_true rfl) (Nat.le_of_ble_eq_true rfl) (Nat.le_of_ble_eq_true rfl) rfl ?_
  refine aw_istore C dL_law_1093 (by decide) rfl ?_
  refine aw_nl [some (.retAddr b), some (.ref 0), some (.ref 181), some (.ref 223), some (.int 0), some (.int 1), some (.int 0), none] rfl ?_
  refine aw_ald_n C dL_law_1095 rfl ?_
  refine ao_callV C (ci := 9) (b := 181) [] [(181, .inr (9, (.int 1 :: .ref 182 :: .ref 183 :: .ref 184 :: .ref 185 :: .int 0 :: .int 0 :: .int 0 :: .ref 186 :: .int 0 :: .int 0 :: .int 0 :: .int (-1) :: .ref 187 :: .ref 188 :: .ref 189 :: .int 0 :: .ref 190 :: .ref 191 :: .ref 192 :: .ref 193 :: .ref 194 :: .int 0 :: .ref 195 :: .ref 196 :: .ref 197 :: .int 0 :: .ref 198 :: .ref 199 :: .ref 200 :: .ref 201 :: .ref 202 :: .ref 203 :: .int 0 :: .ref 204 :: .ref 205 :: .ref 206 :: .ref 207 :: .ref 208 :: .ref 209 :: .ref 210 :: .ref 211 :: .ref 212 :: .ref 213 :: .ref 214 :: .int 0 :: .ref 215 :: .ref 216 :: .int 0 :: .ref 217 :: .ref 218 :: .ref 219 :: .ref 220 :: .ref 221 :: .int 0 :: .int 0 :: .int 0 :: .int 0 :: .ref 222 :: .int 0 :: [])))] mv_L_97 rfl rfl rfl (c_X9_thrown_208 rfl) rfl dL_law_1096 (Nat.le_of_ble_eq_true rfl) (Nat.le_of_ble_eq_true rfl) rfl (Nat.le_of_ble_eq_true rfl) (Nat.le_of_ble_eq_true rfl) (Nat.le_of_ble_eq_true rfl) rfl ?_
  refine aw_iload C dL_law_1099 rfl ?_
  refine aw_icmp_eq C 1106 dL_law_1101 (by decide) (fun _ => ?_) (fun q => absurd (by decide) q)
  refine aw_iload C dL_law_1106 rfl ?_
  refine aw_if_ne C 1123 dL_law_1108 (by decide) (fun _ => ?_) (fun q => absurd q (by decide))
  refine aw_goto C 1629 dL_law_1123 (by decide) ?_
  refine aw_fl [some (.retAddr b), none, none, none, some (.int 0), none, none, none] (by simp [SubL]) ?_
  exact al_tail C S0 (Nat.le_of_ble_eq_true rfl) (Nat.le_of_ble_eq_true rfl)

set_option maxHeartbeats 4000000 in
set_option maxRecDepth 100000 in
theorem lc_19_a {X : GX} {p : Program} {l : Launch} {e : Env} {s : State} {m : MethodId} {below : List Frame} {meth : Method} {c : Code} {b : Nat} {xs : Nat → Int32} {f : AH} {n : Nat} {a1 : Int32} {a2 : Int32} {a3 : Int32} {a4 : Int32} {a5 : Int32} (C : CC X p l room_1 s m #[Value.ref b] meth c RL cL_law 8 ret) (S0 : SC X b 6 xs s) (hl0 : l.stackTraces = false) (e1 : xs 1 = a1) (q1 : (-2147483648) ≤ a1.toInt ∧ a1.toInt ≤ (-1)) (e2 : xs 2 = a2) (e3 : xs 3 = a3) (e4 : xs 4 = a4) (e5 : xs 5 = a5) (h0 : f 0 = some (.inr (8, [.ref 1, .ref 3, .ref 8, .ref 13, .ref 18, .ref 59, .ref 115, .ref 171, .ref 178, .int 0, .int 0, .int 0, .int 0, .int (-1)]))) (h59 : f 59 = some (.inr (1, [.ref 60, .ref 62, .ref 74, .int 0, .ref 68, .ref 71, .ref 64, .ref 66]))) (h181 : f 181 = some (.inr (9, (.int 0 :: .ref 182 :: .ref 183 :: .ref 184 :: .ref 185 :: .int 0 :: .int 0 :: .int 0 :: .ref 186 :: .int 0 :: .int 0 :: .int 0 :: .int (-1) :: .ref 187 :: .ref 188 :: .ref 189 :: .int 0 :: .ref 190 :: .ref 191 :: .ref 192 :: .ref 193 :: .ref 194 :: .int 0 :: .ref 195 :: .ref 196 :: .ref 197 :: .int 0 :: .ref 198 :: .ref 199 :: .ref 200 :: .ref 201 :: .ref 202 :: .ref 203 :: .int 0 :: .ref 204 :: .ref 205 :: .ref 206 :: .ref 207 :: .ref 208 :: .ref 209 :: .ref 210 :: .ref 211 :: .ref 212 :: .ref 213 :: .ref 214 :: .int 0 :: .ref 215 :: .ref 216 :: .int 0 :: .ref 217 :: .ref 218 :: .ref 219 :: .ref 220 :: .ref 221 :: .int 0 :: .int 0 :: .int 0 :: .int 0 :: .ref 222 :: .int 0 :: [])))) : AW X p l e room_1 s m #[Value.ref b] below meth c 8 (lw_Z below #[Value.ref b] s) f n 1000 300000 1126 [some (.retAddr b), some (.ref 0), some (.ref 181), some (.ref 223), some (.int 0), none, none, none] [] := by
  refine ao_start ?_
  obtain ⟨q1a, q1b⟩ := q1
  refine aw_ald_n C dL_law_1126 rfl ?_
  refine aw_raw_n C dL_law_1127 rfl ?_
  refine aw_iload C dL_law_1128 rfl ?_
  refine aw_iconst C 1 dL_law_1130 ki_1 ?_
  refine ae_iadd C 1 dL_law_1131 (by decide) ?_
  refine aw_sld C S0 a1 (by unfold vp_in; decide) (by decide : _ = 1) e1 dL_law_1132 ?_
  refine aw_raw_n C dL_law_1133 rfl ?_
  refine aw_iload C dL_law_1134 rfl ?_
  refine aw_iconst C 2 dL_law_1136 ki_2 ?_
  refine ae_iadd C 2 dL_law_1137 (by decide) ?_
  refine aw_sld C S0 a2 (by unfold vp_in; decide) (by decide : _ = 2) e2 dL_law_1138 ?_
  refine aw_ald_n C dL_law_1139 rfl ?_
  refine aw_callSW C [.ref 0, .int a1, .int a2, .ref 223] mw_L_156 (c_L_key_559 hl0 ⟨by omega, by omega⟩ h0 h59) rfl dL_law_1140 (Nat.le_of_ble_eq_true rfl) (Nat.le_of_ble_eq_true rfl) rfl (Nat.le_of_ble_eq_true rfl) (Nat.le_of_ble_eq_true rfl) (Nat.le_of_ble_eq_true rfl) (fun v9 f9 n9 h9 => ?_)
  obtain ⟨rfl, rfl⟩ := h9
  refine ao_flat [] rfl ?_
  refine aw_istore C dL_law_1143 (by decide) rfl ?_
  refine aw_nl [some (.retAddr b), some (.ref 0), some (.ref 181), some (.ref 223), some (.int 0), some (.int 1), none, none] rfl ?_
  refine aw_ald_n C dL_law_1145 rfl ?_
  refine aw_raw_n C dL_law_1146 rfl ?_
  refine aw_iload C dL_law_1147 rfl ?_
  refine aw_iconst C 1 dL_law_1149 ki_1 ?_
  refine ae_iadd C 1 dL_law_1150 (by decide) ?_
  refine aw_sld C S0 a1 (by unfold vp_in; decide) (by decide : _ = 1) e1 dL_law_1151 ?_
  refine aw_raw_n C dL_law_1152 rfl ?_
  refine aw_iload C dL_law_1153 rfl ?_
  refine aw_iconst C 2 dL_law_1155 ki_2 ?_
  refine ae_iadd C 2 dL_law_1156 (by decide) ?_
  refine aw_sld C S0 a2 (by unfold vp_in; decide) (by decide : _ = 2) e2 dL_law_1157 ?_
  refine ao_callV C (ci := 9) (b := 181) [.int a1, .int a2] [(181, .inr (9, (.int 1 :: .ref 182 :: .ref 183 :: .ref 184 :: .ref 185 :: .int 0 :: .int 0 :: .int 0 :: .ref 186 :: .int 0 :: .int 0 :: .int 0 :: .int (-1) :: .ref 187 :: .ref 188 :: .ref 189 :: .int 0 :: .ref 190 :: .ref 191 :: .ref 192 :: .ref 193 :: .ref 194 :: .int 0 :: .ref 195 :: .ref 196 :: .ref 197 :: .int 0 :: .ref 198 :: .ref 199 :: .ref 200 :: .ref 201 :: .ref 202 :: .ref 203 :: .int 0 :: .ref 204 :: .ref 205 :: .ref 206 :: .ref 207 :: .ref 208 :: .ref 209 :: .ref 210 :: .ref 211 :: .ref 212 :: .ref 213 :: .ref 214 :: .int 0 :: .ref 215 :: .ref 216 :: .int 0 :: .ref 217 :: .ref 218 :: .ref 219 :: .ref 220 :: .ref 221 :: .int 0 :: .int 0 :: .int 0 :: .int 0 :: .ref 222 :: .int 0 :: [])))] mv_L_158 rfl rfl h181 (c_X9_key_560 ⟨by omega, by omega⟩ h181) rfl dL_law_1158 (Nat.le_of_ble_eq_true rfl) (Nat.le_of_ble_eq_true rfl) rfl (Nat.le_of_ble_eq_true rfl) (Nat.le_of_ble_eq_true rfl) (Nat.le_of_ble_eq_true rfl) rfl ?_
  refine aw_istore C dL_law_1161 (by decide) rfl ?_
  refine aw_nl [some (.retAddr b), some (.ref 0), some (.ref 181), some (.ref 223), some (.int 0), some (.int 1), some (.int 0), none] rfl ?_
  refine aw_ald_n C dL_law_1163 rfl ?_
  refine ao_callV C (ci := 9) (b := 181) [] [(181, .inr (9, (.int 1 :: .ref 182 :: .ref 183 :: .ref 184 :: .ref 185 :: .int 0 :: .int 0 :: .int 0 :: .ref 186 :: .int 0 :: .int 0 :: .int 0 :: .int (-1) :: .ref 187 :: .ref 188 :: .ref 189 :: .int 0 :: .ref 190 :: .ref 191 :: .ref 192 :: .ref 193 :: .ref 194 :: .int 0 :: .ref 195 :: .ref 196 :: .ref 197 :: .int 0 :: .ref 198 :: .ref 199 :: .ref 200 :: .ref 201 :: .ref 202 :: .ref 203 :: .int 0 :: .ref 204 :: .ref 205 :: .ref 206 :: .ref 207 :: .ref 208 :: .ref 209 :: .ref 210 :: .ref 211 :: .ref 212 :: .ref 213 :: .ref 214 :: .int 0 :: .ref 215 :: .ref 216 :: .int 0 :: .ref 217 :: .ref 218 :: .ref 219 :: .ref 220 :: .ref 221 :: .int 0 :: .int 0 :: .int 0 :: .int 0 :: .ref 222 :: .int 0 :: [])))] mv_L_97 rfl rfl rfl (c_X9_thrown_208 rfl) rfl dL_law_1164 (Nat.le_of_ble_eq_true rfl) (Nat.le_of_ble_eq_true rfl) rfl (Nat.le_of_ble_eq_true rfl) (Nat.le_of_ble_eq_true rfl) (Nat.le_of_ble_eq_true rfl) rfl ?_
  refine aw_iload C dL_law_1167 rfl ?_
  refine aw_icmp_eq C 1174 dL_law_1169 (by decide) (fun _ => ?_) (fun q => absurd (by decide) q)
  refine aw_iload C dL_law_1174 rfl ?_
  refine aw_if_ne C 1191 dL_law_1176 (by decide) (fun _ => ?_) (fun q => absurd q (by decide))
  refine aw_goto C 1629 dL_law_1191 (by decide) ?_
  refine aw_fl [some (.retAddr b), none, none, none, some (.int 0), none, none, none] (by simp [SubL]) ?_
  exact al_tail C S0 (Nat.le_of_ble_eq_true rfl) (Nat.le_of_ble_eq_true rfl)

set_option maxHeartbeats 4000000 in
set_option maxRecDepth 100000 in
theorem lc_19_b {X : GX} {p : Program} {l : Launch} {e : Env} {s : State} {m : MethodId} {below : List Frame} {meth : Method} {c : Code} {b : Nat} {xs : Nat → Int32} {f : AH} {n : Nat} {a1 : Int32} {a2 : Int32} {a3 : Int32} {a4 : Int32} {a5 : Int32} (C : CC X p l room_1 s m #[Value.ref b] meth c RL cL_law 8 ret) (S0 : SC X b 6 xs s) (hl0 : l.stackTraces = false) (e1 : xs 1 = a1) (q1 : 0 ≤ a1.toInt ∧ a1.toInt ≤ 2147483647) (e2 : xs 2 = a2) (e3 : xs 3 = a3) (e4 : xs 4 = a4) (e5 : xs 5 = a5) (h0 : f 0 = some (.inr (8, [.ref 1, .ref 3, .ref 8, .ref 13, .ref 18, .ref 59, .ref 115, .ref 171, .ref 178, .int 0, .int 0, .int 0, .int 0, .int (-1)]))) (h59 : f 59 = some (.inr (1, [.ref 60, .ref 62, .ref 74, .int 0, .ref 68, .ref 71, .ref 64, .ref 66]))) (h181 : f 181 = some (.inr (9, (.int 0 :: .ref 182 :: .ref 183 :: .ref 184 :: .ref 185 :: .int 0 :: .int 0 :: .int 0 :: .ref 186 :: .int 0 :: .int 0 :: .int 0 :: .int (-1) :: .ref 187 :: .ref 188 :: .ref 189 :: .int 0 :: .ref 190 :: .ref 191 :: .ref 192 :: .ref 193 :: .ref 194 :: .int 0 :: .ref 195 :: .ref 196 :: .ref 197 :: .int 0 :: .ref 198 :: .ref 199 :: .ref 200 :: .ref 201 :: .ref 202 :: .ref 203 :: .int 0 :: .ref 204 :: .ref 205 :: .ref 206 :: .ref 207 :: .ref 208 :: .ref 209 :: .ref 210 :: .ref 211 :: .ref 212 :: .ref 213 :: .ref 214 :: .int 0 :: .ref 215 :: .ref 216 :: .int 0 :: .ref 217 :: .ref 218 :: .ref 219 :: .ref 220 :: .ref 221 :: .int 0 :: .int 0 :: .int 0 :: .int 0 :: .ref 222 :: .int 0 :: [])))) : AW X p l e room_1 s m #[Value.ref b] below meth c 8 (lw_Z below #[Value.ref b] s) f n 1000 300000 1126 [some (.retAddr b), some (.ref 0), some (.ref 181), some (.ref 223), some (.int 0), none, none, none] [] := by
  refine ao_start ?_
  obtain ⟨q1a, q1b⟩ := q1
  refine aw_ald_n C dL_law_1126 rfl ?_
  refine aw_raw_n C dL_law_1127 rfl ?_
  refine aw_iload C dL_law_1128 rfl ?_
  refine aw_iconst C 1 dL_law_1130 ki_1 ?_
  refine ae_iadd C 1 dL_law_1131 (by decide) ?_
  refine aw_sld C S0 a1 (by unfold vp_in; decide) (by decide : _ = 1) e1 dL_law_1132 ?_
  refine aw_raw_n C dL_law_1133 rfl ?_
  refine aw_iload C dL_law_1134 rfl ?_
  refine aw_iconst C 2 dL_law_1136 ki_2 ?_
  refine ae_iadd C 2 dL_law_1137 (by decide) ?_
  refine aw_sld C S0 a2 (by unfold vp_in; decide) (by decide : _ = 2) e2 dL_law_1138 ?_
  refine aw_ald_n C dL_law_1139 rfl ?_
  refine aw_callSW C [.ref 0, .int a1, .int a2, .ref 223] mw_L_156 (c_L_key_562 hl0 ⟨by omega, by omega⟩ h0 h59) rfl dL_law_1140 (Nat.le_of_ble_eq_true rfl) (Nat.le_of_ble_eq_true rfl) rfl (Nat.le_of_ble_eq_true rfl) (Nat.le_of_ble_eq_true rfl) (Nat.le_of_ble_eq_true rfl) (fun v9 f9 n9 h9 => ?_)
  obtain ⟨rfl, rfl⟩ := h9
  refine ao_flat [] rfl ?_
  refine aw_istore C dL_law_1143 (by decide) rfl ?_
  refine aw_nl [some (.retAddr b), some (.ref 0), some (.ref 181), some (.ref 223), some (.int 0), some (.int 1), none, none] rfl ?_
  refine aw_ald_n C dL_law_1145 rfl ?_
  refine aw_raw_n C dL_law_1146 rfl ?_
  refine aw_iload C dL_law_1147 rfl ?_
  refine aw_iconst C 1 dL_law_1149 ki_1 ?_
  refine ae_iadd C 1 dL_law_1150 (by decide) ?_
  refine aw_sld C S0 a1 (by unfold vp_in; decide) (by decide : _ = 1) e1 dL_law_1151 ?_
  refine aw_raw_n C dL_law_1152 rfl ?_
  refine aw_iload C dL_law_1153 rfl ?_
  refine aw_iconst C 2 dL_law_1155 ki_2 ?_
  refine ae_iadd C 2 dL_law_1156 (by decide) ?_
  refine aw_sld C S0 a2 (by unfold vp_in; decide) (by decide : _ = 2) e2 dL_law_1157 ?_
  refine ao_callV C (ci := 9) (b := 181) [.int a1, .int a2] [(181, .inr (9, (.int 1 :: .ref 182 :: .ref 183 :: .ref 184 :: .ref 185 :: .int 0 :: .int 0 :: .int 0 :: .ref 186 :: .int 0 :: .int 0 :: .int 0 :: .int (-1) :: .ref 187 :: .ref 188 :: .ref 189 :: .int 0 :: .ref 190 :: .ref 191 :: .ref 192 :: .ref 193 :: .ref 194 :: .int 0 :: .ref 195 :: .ref 196 :: .ref 197 :: .int 0 :: .ref 198 :: .ref 199 :: .ref 200 :: .ref 201 :: .ref 202 :: .ref 203 :: .int 0 :: .ref 204 :: .ref 205 :: .ref 206 :: .ref 207 :: .ref 208 :: .ref 209 :: .ref 210 :: .ref 211 :: .ref 212 :: .ref 213 :: .ref 214 :: .int 0 :: .ref 215 :: .ref 216 :: .int 0 :: .ref 217 :: .ref 218 :: .ref 219 :: .ref 220 :: .ref 221 :: .int 0 :: .int 0 :: .int 0 :: .int 0 :: .ref 222 :: .int 0 :: [])))] mv_L_158 rfl rfl h181 (c_X9_key_563 ⟨by omega, by omega⟩ h181) rfl dL_law_1158 (Nat.le_of_ble_eq_true rfl) (Nat.le_of_ble_eq_true rfl) rfl (Nat.le_of_ble_eq_true rfl) (Nat.le_of_ble_eq_true rfl) (Nat.le_of_ble_eq_true rfl) rfl ?_
  refine aw_istore C dL_law_1161 (by decide) rfl ?_
  refine aw_nl [some (.retAddr b), some (.ref 0), some (.ref 181), some (.ref 223), some (.int 0), some (.int 1), some (.int 0), none] rfl ?_
  refine aw_ald_n C dL_law_1163 rfl ?_
  refine ao_callV C (ci := 9) (b := 181) [] [(181, .inr (9, (.int 1 :: .ref 182 :: .ref 183 :: .ref 184 :: .ref 185 :: .int 0 :: .int 0 :: .int 0 :: .ref 186 :: .int 0 :: .int 0 :: .int 0 :: .int (-1) :: .ref 187 :: .ref 188 :: .ref 189 :: .int 0 :: .ref 190 :: .ref 191 :: .ref 192 :: .ref 193 :: .ref 194 :: .int 0 :: .ref 195 :: .ref 196 :: .ref 197 :: .int 0 :: .ref 198 :: .ref 199 :: .ref 200 :: .ref 201 :: .ref 202 :: .ref 203 :: .int 0 :: .ref 204 :: .ref 205 :: .ref 206 :: .ref 207 :: .ref 208 :: .ref 209 :: .ref 210 :: .ref 211 :: .ref 212 :: .ref 213 :: .ref 214 :: .int 0 :: .ref 215 :: .ref 216 :: .int 0 :: .ref 217 :: .ref 218 :: .ref 219 :: .ref 220 :: .ref 221 :: .int 0 :: .int 0 :: .int 0 :: .int 0 :: .ref 222 :: .int 0 :: [])))] mv_L_97 rfl rfl rfl (c_X9_thrown_208 rfl) rfl dL_law_1164 (Nat.le_of_ble_eq_true rfl) (Nat.le_of_ble_eq_true rfl) rfl (Nat.le_of_ble_eq_true rfl) (Nat.le_of_ble_eq_true rfl) (Nat.le_of_ble_eq_true rfl) rfl ?_
  refine aw_iload C dL_law_1167 rfl ?_
  refine aw_icmp_eq C 1174 dL_law_1169 (by decide) (fun _ => ?_) (fun q => absurd (by decide) q)
  refine aw_iload C dL_law_1174 rfl ?_
  refine aw_if_ne C 1191 dL_law_1176 (by decide) (fun _ => ?_) (fun q => absurd q (by decide))
  refine aw_goto C 1629 dL_law_1191 (by decide) ?_
  refine aw_fl [some (.retAddr b), none, none, none, some (.int 0), none, none, none] (by simp [SubL]) ?_
  exact al_tail C S0 (Nat.le_of_ble_eq_true rfl) (Nat.le_of_ble_eq_true rfl)

set_option maxHeartbeats 4000000 in
set_option maxRecDepth 100000 in
theorem lc_20_x {X : GX} {p : Program} {l : Launch} {e : Env} {s : State} {m : MethodId} {below : List Frame} {meth : Method} {c : Code} {b : Nat} {xs : Nat → Int32} {f : AH} {n : Nat} {a1 : Int32} {a2 : Int32} {a3 : Int32} {a4 : Int32} {a5 : Int32} (C : CC X p l room_1 s m #[Value.ref b] meth c RL cL_law 8 ret) (S0 : SC X b 6 xs s) (hl0 : l.stackTraces = false) (e1 : xs 1 = a1) (e2 : xs 2 = a2) (e3 : xs 3 = a3) (e4 : xs 4 = a4) (e5 : xs 5 = a5) (h0 : f 0 = some (.inr (8, [.ref 1, .ref 3, .ref 8, .ref 13, .ref 18, .ref 59, .ref 115, .ref 171, .ref 178, .int 0, .int 0, .int 0, .int 0, .int (-1)]))) (h59 : f 59 = some (.inr (1, [.ref 60, .ref 62, .ref 74, .int 0, .ref 68, .ref 71, .ref 64, .ref 66]))) (h181 : f 181 = some (.inr (9, (.int 0 :: .ref 182 :: .ref 183 :: .ref 184 :: .ref 185 :: .int 0 :: .int 0 :: .int 0 :: .ref 186 :: .int 0 :: .int 0 :: .int 0 :: .int (-1) :: .ref 187 :: .ref 188 :: .ref 189 :: .int 0 :: .ref 190 :: .ref 191 :: .ref 192 :: .ref 193 :: .ref 194 :: .int 0 :: .ref 195 :: .ref 196 :: .ref 197 :: .int 0 :: .ref 198 :: .ref 199 :: .ref 200 :: .ref 201 :: .ref 202 :: .ref 203 :: .int 0 :: .ref 204 :: .ref 205 :: .ref 206 :: .ref 207 :: .ref 208 :: .ref 209 :: .ref 210 :: .ref 211 :: .ref 212 :: .ref 213 :: .ref 214 :: .int 0 :: .ref 215 :: .ref 216 :: .int 0 :: .ref 217 :: .ref 218 :: .ref 219 :: .ref 220 :: .ref 221 :: .int 0 :: .int 0 :: .int 0 :: .int 0 :: .ref 222 :: .int 0 :: [])))) : AW X p l e room_1 s m #[Value.ref b] below meth c 8 (lw_Z below #[Value.ref b] s) f n 1000 300000 1194 [some (.retAddr b), some (.ref 0), some (.ref 181), some (.ref 223), some (.int 0), none, none, none] [] := by
  refine ao_start ?_
  refine aw_ald_n C dL_law_1194 rfl ?_
  refine aw_raw_n C dL_law_1195 rfl ?_
  refine aw_iload C dL_law_1196 rfl ?_
  refine aw_iconst C 1 dL_law_1198 ki_1 ?_
  refine ae_iadd C 1 dL_law_1199 (by decide) ?_
  refine aw_sld C S0 a1 (by unfold vp_in; decide) (by decide : _ = 1) e1 dL_law_1200 ?_
  refine ao_callV C (ci := 8) (b := 0) [.int a1] [] mv_L_159 rfl rfl h0 (c_X8_holder_564 h0 h59) rfl dL_law_1201 (Nat.le_of_ble_eq_true rfl) (Nat.le_of_ble_eq_true rfl) rfl (Nat.le_of_ble_eq_true rfl) (Nat.le_of_ble_eq_true rfl) (Nat.le_of_ble_eq_true rfl) rfl ?_
  refine aw_ald_n C dL_law_1204 rfl ?_
  refine aw_raw_n C dL_law_1205 rfl ?_
  refine aw_iload C dL_law_1206 rfl ?_
  refine aw_iconst C 1 dL_law_1208 ki_1 ?_
  refine ae_iadd C 1 dL_law_1209 (by decide) ?_
  refine aw_sld C S0 a1 (by unfold vp_in; decide) (by decide : _ = 1) e1 dL_law_1210 ?_
  refine ao_callV C (ci := 9) (b := 181) [.int a1] [(181, .inr (9, (.int 0 :: .ref 182 :: .ref 183 :: .ref 184 :: .ref 185 :: .int 0 :: .int 0 :: .int 0 :: .ref 186 :: .int 0 :: .int 0 :: .int 0 :: .int (-1) :: .ref 187 :: .ref 188 :: .ref 189 :: .int 0 :: .ref 190 :: .ref 191 :: .ref 192 :: .ref 193 :: .ref 194 :: .int 0 :: .ref 195 :: .ref 196 :: .ref 197 :: .int 0 :: .ref 198 :: .ref 199 :: .ref 200 :: .ref 201 :: .ref 202 :: .ref 203 :: .int 0 :: .ref 204 :: .ref 205 :: .ref 206 :: .ref 207 :: .ref 208 :: .ref 209 :: .ref 210 :: .ref 211 :: .ref 212 :: .ref 213 :: .ref 214 :: .int 0 :: .ref 215 :: .ref 216 :: .int 0 :: .ref 217 :: .ref 218 :: .ref 219 :: .ref 220 :: .ref 221 :: .int 0 :: .int 0 :: .int 0 :: .int 0 :: .ref 222 :: .int 0 :: [])))] mv_L_162 rfl rfl h181 (c_X9_holder_565 h181) rfl dL_law_1211 (Nat.le_of_ble_eq_true rfl) (Nat.le_of_ble_eq_true rfl) rfl (Nat.le_of_ble_eq_true rfl) (Nat.le_of_ble_eq_true rfl) (Nat.le_of_ble_eq_true rfl) rfl ?_
  refine aw_icmp_eq C 1629 dL_law_1214 (by decide) (fun _ => ?_) (fun q => absurd (by decide) q)
  refine aw_fl [some (.retAddr b), none, none, none, some (.int 0), none, none, none] (by simp [SubL]) ?_
  exact al_tail C S0 (Nat.le_of_ble_eq_true rfl) (Nat.le_of_ble_eq_true rfl)

set_option maxHeartbeats 4000000 in
set_option maxRecDepth 100000 in
theorem lc_21_aa {X : GX} {p : Program} {l : Launch} {e : Env} {s : State} {m : MethodId} {below : List Frame} {meth : Method} {c : Code} {b : Nat} {xs : Nat → Int32} {f : AH} {n : Nat} {a1 : Int32} {a3 : Int32} {a4 : Int32} {a5 : Int32} (C : CC X p l room_1 s m #[Value.ref b] meth c RL cL_law 8 ret) (S0 : SC X b 6 xs s) (hl0 : l.stackTraces = false) (e1 : xs 1 = a1) (q1 : (-2147483648) ≤ a1.toInt ∧ a1.toInt ≤ (-1)) (e2 : xs 2 = 0) (e3 : xs 3 = a3) (e4 : xs 4 = a4) (e5 : xs 5 = a5) (h0 : f 0 = some (.inr (8, [.ref 1, .ref 3, .ref 8, .ref 13, .ref 18, .ref 59, .ref 115, .ref 171, .ref 178, .int 0, .int 0, .int 0, .int 0, .int (-1)]))) (h3 : f 3 = some (.inr (7, [.ref 4, .int 0, .int (-1), .int 0, .int 1, .int 0, .null, .int 0, .ref 6, .ref 7]))) (h4 : f 4 = some (.inr (5, [.ref 5, .int 0]))) (h181 : f 181 = some (.inr (9, (.int 0 :: .ref 182 :: .ref 183 :: .ref 184 :: .ref 185 :: .int 0 :: .int 0 :: .int 0 :: .ref 186 :: .int 0 :: .int 0 :: .int 0 :: .int (-1) :: .ref 187 :: .ref 188 :: .ref 189 :: .int 0 :: .ref 190 :: .ref 191 :: .ref 192 :: .ref 193 :: .ref 194 :: .int 0 :: .ref 195 :: .ref 196 :: .ref 197 :: .int 0 :: .ref 198 :: .ref 199 :: .ref 200 :: .ref 201 :: .ref 202 :: .ref 203 :: .int 0 :: .ref 204 :: .ref 205 :: .ref 206 :: .ref 207 :: .ref 208 :: .ref 209 :: .ref 210 :: .ref 211 :: .ref 212 :: .ref 213 :: .ref 214 :: .int 0 :: .ref 215 :: .ref 216 :: .int 0 :: .ref 217 :: .ref 218 :: .ref 219 :: .ref 220 :: .ref 221 :: .int 0 :: .int 0 :: .int 0 :: .int 0 :: .ref 222 :: .int 0 :: [])))) (h182 : f 182 = some (.inl (0, 4347, .inl (tl (upd (upd (fun _ => 0) 2 (-1)) 4 1) 40)))) : AW X p l e room_1 s m #[Value.ref b] below meth c 8 (lw_Z below #[Value.ref b] s) f n 1000 300000 1219 [some (.retAddr b), some (.ref 0), some (.ref 181), some (.ref 223), some (.int 0), none, none, none] [] := by
  refine ao_start ?_
  obtain ⟨q1a, q1b⟩ := q1
  refine aw_ald_n C dL_law_1219 rfl ?_
  refine aw_raw_n C dL_law_1220 rfl ?_
  refine aw_iload C dL_law_1221 rfl ?_
  refine aw_iconst C 1 dL_law_1223 ki_1 ?_
  refine ae_iadd C 1 dL_law_1224 (by decide) ?_
  refine aw_sld C S0 a1 (by unfold vp_in; decide) (by decide : _ = 1) e1 dL_law_1225 ?_
  refine aw_raw_n C dL_law_1226 rfl ?_
  refine aw_iload C dL_law_1227 rfl ?_
  refine aw_iconst C 2 dL_law_1229 ki_2 ?_
  refine ae_iadd C 2 dL_law_1230 (by decide) ?_
  refine aw_sld C S0 0 (by unfold vp_in; decide) (by decide : _ = 2) e2 dL_law_1231 ?_
  refine aw_if_eq C 1239 dL_law_1232 (by decide) (fun _ => ?_) (fun q => absurd (by decide) q)
  refine aw_iconst C 0 dL_law_1239 ki_0 ?_
  refine ao_callV C (ci := 8) (b := 0) [.int a1, .int 0] [] mv_L_163 rfl rfl h0 (c_X8_at_567 ⟨by omega, by omega⟩ h0 h3 h4) rfl dL_law_1240 (Nat.le_of_ble_eq_true rfl) (Nat.le_of_ble_eq_true rfl) rfl (Nat.le_of_ble_eq_true rfl) (Nat.le_of_ble_eq_true rfl) (Nat.le_of_ble_eq_true rfl) rfl ?_
  refine aw_ald_n C dL_law_1243 rfl ?_
  refine aw_raw_n C dL_law_1244 rfl ?_
  refine aw_iload C dL_law_1245 rfl ?_
  refine aw_iconst C 1 dL_law_1247 ki_1 ?_
  refine ae_iadd C 1 dL_law_1248 (by decide) ?_
  refine aw_sld C S0 a1 (by unfold vp_in; decide) (by decide : _ = 1) e1 dL_law_1249 ?_
  refine aw_raw_n C dL_law_1250 rfl ?_
  refine aw_iload C dL_law_1251 rfl ?_
  refine aw_iconst C 2 dL_law_1253 ki_2 ?_
  refine ae_iadd C 2 dL_law_1254 (by decide) ?_
  refine aw_sld C S0 0 (by unfold vp_in; decide) (by decide : _ = 2) e2 dL_law_1255 ?_
  refine aw_if_eq C 1263 dL_law_1256 (by decide) (fun _ => ?_) (fun q => absurd (by decide) q)
  refine aw_iconst C 0 dL_law_1263 ki_0 ?_
  refine ao_callV C (ci := 9) (b := 181) [.int a1, .int 0] [(181, .inr (9, (.int 0 :: .ref 182 :: .ref 183 :: .ref 184 :: .ref 185 :: .int 0 :: .int 0 :: .int 0 :: .ref 186 :: .int 0 :: .int 0 :: .int 0 :: .int (-1) :: .ref 187 :: .ref 188 :: .ref 189 :: .int 0 :: .ref 190 :: .ref 191 :: .ref 192 :: .ref 193 :: .ref 194 :: .int 0 :: .ref 195 :: .ref 196 :: .ref 197 :: .int 0 :: .ref 198 :: .ref 199 :: .ref 200 :: .ref 201 :: .ref 202 :: .ref 203 :: .int 0 :: .ref 204 :: .ref 205 :: .ref 206 :: .ref 207 :: .ref 208 :: .ref 209 :: .ref 210 :: .ref 211 :: .ref 212 :: .ref 213 :: .ref 214 :: .int 0 :: .ref 215 :: .ref 216 :: .int 0 :: .ref 217 :: .ref 218 :: .ref 219 :: .ref 220 :: .ref 221 :: .int 0 :: .int 0 :: .int 0 :: .int 0 :: .ref 222 :: .int 0 :: [])))] mv_L_166 rfl rfl h181 (c_X9_at_568 ⟨by omega, by omega⟩ h181 h182) rfl dL_law_1264 (Nat.le_of_ble_eq_true rfl) (Nat.le_of_ble_eq_true rfl) rfl (Nat.le_of_ble_eq_true rfl) (Nat.le_of_ble_eq_true rfl) (Nat.le_of_ble_eq_true rfl) rfl ?_
  refine aw_icmp_eq C 1629 dL_law_1267 (by decide) (fun _ => ?_) (fun q => absurd (by decide) q)
  refine aw_fl [some (.retAddr b), none, none, none, some (.int 0), none, none, none] (by simp [SubL]) ?_
  exact al_tail C S0 (Nat.le_of_ble_eq_true rfl) (Nat.le_of_ble_eq_true rfl)

set_option maxHeartbeats 4000000 in
set_option maxRecDepth 100000 in
theorem lc_21_ab {X : GX} {p : Program} {l : Launch} {e : Env} {s : State} {m : MethodId} {below : List Frame} {meth : Method} {c : Code} {b : Nat} {xs : Nat → Int32} {f : AH} {n : Nat} {a1 : Int32} {a2 : Int32} {a3 : Int32} {a4 : Int32} {a5 : Int32} (C : CC X p l room_1 s m #[Value.ref b] meth c RL cL_law 8 ret) (S0 : SC X b 6 xs s) (hl0 : l.stackTraces = false) (e1 : xs 1 = a1) (q1 : (-2147483648) ≤ a1.toInt ∧ a1.toInt ≤ (-1)) (e2 : xs 2 = a2) (z2 : ¬ a2 = 0) (e3 : xs 3 = a3) (e4 : xs 4 = a4) (e5 : xs 5 = a5) (h0 : f 0 = some (.inr (8, [.ref 1, .ref 3, .ref 8, .ref 13, .ref 18, .ref 59, .ref 115, .ref 171, .ref 178, .int 0, .int 0, .int 0, .int 0, .int (-1)]))) (h171 : f 171 = some (.inr (0, [.ref 172, .ref 174, .ref 176, .int 0]))) (h172 : f 172 = some (.inr (5, [.ref 173, .int 0]))) (h181 : f 181 = some (.inr (9, (.int 0 :: .ref 182 :: .ref 183 :: .ref 184 :: .ref 185 :: .int 0 :: .int 0 :: .int 0 :: .ref 186 :: .int 0 :: .int 0 :: .int 0 :: .int (-1) :: .ref 187 :: .ref 188 :: .ref 189 :: .int 0 :: .ref 190 :: .ref 191 :: .ref 192 :: .ref 193 :: .ref 194 :: .int 0 :: .ref 195 :: .ref 196 :: .ref 197 :: .int 0 :: .ref 198 :: .ref 199 :: .ref 200 :: .ref 201 :: .ref 202 :: .ref 203 :: .int 0 :: .ref 204 :: .ref 205 :: .ref 206 :: .ref 207 :: .ref 208 :: .ref 209 :: .ref 210 :: .ref 211 :: .ref 212 :: .ref 213 :: .ref 214 :: .int 0 :: .ref 215 :: .ref 216 :: .int 0 :: .ref 217 :: .ref 218 :: .ref 219 :: .ref 220 :: .ref 221 :: .int 0 :: .int 0 :: .int 0 :: .int 0 :: .ref 222 :: .int 0 :: [])))) (h182 : f 182 = some (.inl (0, 4347, .inl (tl (upd (upd (fun _ => 0) 2 (-1)) 4 1) 40)))) : AW X p l e room_1 s m #[Value.ref b] below meth c 8 (lw_Z below #[Value.ref b] s) f n 1000 300000 1219 [some (.retAddr b), some (.ref 0), some (.ref 181), some (.ref 223), some (.int 0), none, none, none] [] := by
  refine ao_start ?_
  obtain ⟨q1a, q1b⟩ := q1
  refine aw_ald_n C dL_law_1219 rfl ?_
  refine aw_raw_n C dL_law_1220 rfl ?_
  refine aw_iload C dL_law_1221 rfl ?_
  refine aw_iconst C 1 dL_law_1223 ki_1 ?_
  refine ae_iadd C 1 dL_law_1224 (by decide) ?_
  refine aw_sld C S0 a1 (by unfold vp_in; decide) (by decide : _ = 1) e1 dL_law_1225 ?_
  refine aw_raw_n C dL_law_1226 rfl ?_
  refine aw_iload C dL_law_1227 rfl ?_
  refine aw_iconst C 2 dL_law_1229 ki_2 ?_
  refine ae_iadd C 2 dL_law_1230 (by decide) ?_
  refine aw_sld C S0 a2 (by unfold vp_in; decide) (by decide : _ = 2) e2 dL_law_1231 ?_
  refine aw_if_eq C 1239 dL_law_1232 (by decide) (fun q => absurd q z2) (fun _ => ?_)
  refine aw_iconst C 1 dL_law_1235 ki_1 ?_
  refine aw_goto C 1240 dL_law_1236 (by decide) ?_
  refine ao_callV C (ci := 8) (b := 0) [.int a1, .int 1] [] mv_L_163 rfl rfl h0 (c_X8_at_570 ⟨by omega, by omega⟩ h0 h171 h172) rfl dL_law_1240 (Nat.le_of_ble_eq_true rfl) (Nat.le_of_ble_eq_true rfl) rfl (Nat.le_of_ble_eq_true rfl) (Nat.le_of_ble_eq_true rfl) (Nat.le_of_ble_eq_true rfl) rfl ?_
  refine aw_ald_n C dL_law_1243 rfl ?_
  refine aw_raw_n C dL_law_1244 rfl ?_
  refine aw_iload C dL_law_1245 rfl ?_
  refine aw_iconst C 1 dL_law_1247 ki_1 ?_
  refine ae_iadd C 1 dL_law_1248 (by decide) ?_
  refine aw_sld C S0 a1 (by unfold vp_in; decide) (by decide : _ = 1) e1 dL_law_1249 ?_
  refine aw_raw_n C dL_law_1250 rfl ?_
  refine aw_iload C dL_law_1251 rfl ?_
  refine aw_iconst C 2 dL_law_1253 ki_2 ?_
  refine ae_iadd C 2 dL_law_1254 (by decide) ?_
  refine aw_sld C S0 a2 (by unfold vp_in; decide) (by decide : _ = 2) e2 dL_law_1255 ?_
  refine aw_if_eq C 1263 dL_law_1256 (by decide) (fun q => absurd q z2) (fun _ => ?_)
  refine aw_iconst C 1 dL_law_1259 ki_1 ?_
  refine aw_goto C 1264 dL_law_1260 (by decide) ?_
  refine ao_callV C (ci := 9) (b := 181) [.int a1, .int 1] [(181, .inr (9, (.int 0 :: .ref 182 :: .ref 183 :: .ref 184 :: .ref 185 :: .int 0 :: .int 0 :: .int 0 :: .ref 186 :: .int 0 :: .int 0 :: .int 0 :: .int (-1) :: .ref 187 :: .ref 188 :: .ref 189 :: .int 0 :: .ref 190 :: .ref 191 :: .ref 192 :: .ref 193 :: .ref 194 :: .int 0 :: .ref 195 :: .ref 196 :: .ref 197 :: .int 0 :: .ref 198 :: .ref 199 :: .ref 200 :: .ref 201 :: .ref 202 :: .ref 203 :: .int 0 :: .ref 204 :: .ref 205 :: .ref 206 :: .ref 207 :: .ref 208 :: .ref 209 :: .ref 210 :: .ref 211 :: .ref 212 :: .ref 213 :: .ref 214 :: .int 0 :: .ref 215 :: .ref 216 :: .int 0 :: .ref 217 :: .ref 218 :: .ref 219 :: .ref 220 :: .ref 221 :: .int 0 :: .int 0 :: .int 0 :: .int 0 :: .ref 222 :: .int 0 :: [])))] mv_L_166 rfl rfl h181 (c_X9_at_572 ⟨by omega, by omega⟩ h181 h182) rfl dL_law_1264 (Nat.le_of_ble_eq_true rfl) (Nat.le_of_ble_eq_true rfl) rfl (Nat.le_of_ble_eq_true rfl) (Nat.le_of_ble_eq_true rfl) (Nat.le_of_ble_eq_true rfl) rfl ?_
  refine aw_icmp_eq C 1629 dL_law_1267 (by decide) (fun _ => ?_) (fun q => absurd (by decide) q)
  refine aw_fl [some (.retAddr b), none, none, none, some (.int 0), none, none, none] (by simp [SubL]) ?_
  exact al_tail C S0 (Nat.le_of_ble_eq_true rfl) (Nat.le_of_ble_eq_true rfl)

set_option maxHeartbeats 4000000 in
set_option maxRecDepth 100000 in
theorem lc_21_ba {X : GX} {p : Program} {l : Launch} {e : Env} {s : State} {m : MethodId} {below : List Frame} {meth : Method} {c : Code} {b : Nat} {xs : Nat → Int32} {f : AH} {n : Nat} {a1 : Int32} {a3 : Int32} {a4 : Int32} {a5 : Int32} (C : CC X p l room_1 s m #[Value.ref b] meth c RL cL_law 8 ret) (S0 : SC X b 6 xs s) (hl0 : l.stackTraces = false) (e1 : xs 1 = a1) (q1 : 0 ≤ a1.toInt ∧ a1.toInt ≤ 2147483647) (e2 : xs 2 = 0) (e3 : xs 3 = a3) (e4 : xs 4 = a4) (e5 : xs 5 = a5) (h0 : f 0 = some (.inr (8, [.ref 1, .ref 3, .ref 8, .ref 13, .ref 18, .ref 59, .ref 115, .ref 171, .ref 178, .int 0, .int 0, .int 0, .int 0, .int (-1)]))) (h3 : f 3 = some (.inr (7, [.ref 4, .int 0, .int (-1), .int 0, .int 1, .int 0, .null, .int 0, .ref 6, .ref 7]))) (h4 : f 4 = some (.inr (5, [.ref 5, .int 0]))) (h181 : f 181 = some (.inr (9, (.int 0 :: .ref 182 :: .ref 183 :: .ref 184 :: .ref 185 :: .int 0 :: .int 0 :: .int 0 :: .ref 186 :: .int 0 :: .int 0 :: .int 0 :: .int (-1) :: .ref 187 :: .ref 188 :: .ref 189 :: .int 0 :: .ref 190 :: .ref 191 :: .ref 192 :: .ref 193 :: .ref 194 :: .int 0 :: .ref 195 :: .ref 196 :: .ref 197 :: .int 0 :: .ref 198 :: .ref 199 :: .ref 200 :: .ref 201 :: .ref 202 :: .ref 203 :: .int 0 :: .ref 204 :: .ref 205 :: .ref 206 :: .ref 207 :: .ref 208 :: .ref 209 :: .ref 210 :: .ref 211 :: .ref 212 :: .ref 213 :: .ref 214 :: .int 0 :: .ref 215 :: .ref 216 :: .int 0 :: .ref 217 :: .ref 218 :: .ref 219 :: .ref 220 :: .ref 221 :: .int 0 :: .int 0 :: .int 0 :: .int 0 :: .ref 222 :: .int 0 :: [])))) (h182 : f 182 = some (.inl (0, 4347, .inl (tl (upd (upd (fun _ => 0) 2 (-1)) 4 1) 40)))) : AW X p l e room_1 s m #[Value.ref b] below meth c 8 (lw_Z below #[Value.ref b] s) f n 1000 300000 1219 [some (.retAddr b), some (.ref 0), some (.ref 181), some (.ref 223), some (.int 0), none, none, none] [] := by
  refine ao_start ?_
  obtain ⟨q1a, q1b⟩ := q1
  refine aw_ald_n C dL_law_1219 rfl ?_
  refine aw_raw_n C dL_law_1220 rfl ?_
  refine aw_iload C dL_law_1221 rfl ?_
  refine aw_iconst C 1 dL_law_1223 ki_1 ?_
  refine ae_iadd C 1 dL_law_1224 (by decide) ?_
  refine aw_sld C S0 a1 (by unfold vp_in; decide) (by decide : _ = 1) e1 dL_law_1225 ?_
  refine aw_raw_n C dL_law_1226 rfl ?_
  refine aw_iload C dL_law_1227 rfl ?_
  refine aw_iconst C 2 dL_law_1229 ki_2 ?_
  refine ae_iadd C 2 dL_law_1230 (by decide) ?_
  refine aw_sld C S0 0 (by unfold vp_in; decide) (by decide : _ = 2) e2 dL_law_1231 ?_
  refine aw_if_eq C 1239 dL_law_1232 (by decide) (fun _ => ?_) (fun q => absurd (by decide) q)
  refine aw_iconst C 0 dL_law_1239 ki_0 ?_
  refine ao_callV C (ci := 8) (b := 0) [.int a1, .int 0] [] mv_L_163 rfl rfl h0 (c_X8_at_574 ⟨by omega, by omega⟩ h0 h3 h4) rfl dL_law_1240 (Nat.le_of_ble_eq_true rfl) (Nat.le_of_ble_eq_true rfl) rfl (Nat.le_of_ble_eq_true rfl) (Nat.le_of_ble_eq_true rfl) (Nat.le_of_ble_eq_true rfl) rfl ?_
  refine aw_ald_n C dL_law_1243 rfl ?_
  refine aw_raw_n C dL_law_1244 rfl ?_
  refine aw_iload C dL_law_1245 rfl ?_
  refine aw_iconst C 1 dL_law_1247 ki_1 ?_
  refine ae_iadd C 1 dL_law_1248 (by decide) ?_
  refine aw_sld C S0 a1 (by unfold vp_in; decide) (by decide : _ = 1) e1 dL_law_1249 ?_
  refine aw_raw_n C dL_law_1250 rfl ?_
  refine aw_iload C dL_law_1251 rfl ?_
  refine aw_iconst C 2 dL_law_1253 ki_2 ?_
  refine ae_iadd C 2 dL_law_1254 (by decide) ?_
  refine aw_sld C S0 0 (by unfold vp_in; decide) (by decide : _ = 2) e2 dL_law_1255 ?_
  refine aw_if_eq C 1263 dL_law_1256 (by decide) (fun _ => ?_) (fun q => absurd (by decide) q)
  refine aw_iconst C 0 dL_law_1263 ki_0 ?_
  refine ao_callV C (ci := 9) (b := 181) [.int a1, .int 0] [(181, .inr (9, (.int 0 :: .ref 182 :: .ref 183 :: .ref 184 :: .ref 185 :: .int 0 :: .int 0 :: .int 0 :: .ref 186 :: .int 0 :: .int 0 :: .int 0 :: .int (-1) :: .ref 187 :: .ref 188 :: .ref 189 :: .int 0 :: .ref 190 :: .ref 191 :: .ref 192 :: .ref 193 :: .ref 194 :: .int 0 :: .ref 195 :: .ref 196 :: .ref 197 :: .int 0 :: .ref 198 :: .ref 199 :: .ref 200 :: .ref 201 :: .ref 202 :: .ref 203 :: .int 0 :: .ref 204 :: .ref 205 :: .ref 206 :: .ref 207 :: .ref 208 :: .ref 209 :: .ref 210 :: .ref 211 :: .ref 212 :: .ref 213 :: .ref 214 :: .int 0 :: .ref 215 :: .ref 216 :: .int 0 :: .ref 217 :: .ref 218 :: .ref 219 :: .ref 220 :: .ref 221 :: .int 0 :: .int 0 :: .int 0 :: .int 0 :: .ref 222 :: .int 0 :: [])))] mv_L_166 rfl rfl h181 (c_X9_at_575 ⟨by omega, by omega⟩ h181 h182) rfl dL_law_1264 (Nat.le_of_ble_eq_true rfl) (Nat.le_of_ble_eq_true rfl) rfl (Nat.le_of_ble_eq_true rfl) (Nat.le_of_ble_eq_true rfl) (Nat.le_of_ble_eq_true rfl) rfl ?_
  refine aw_icmp_eq C 1629 dL_law_1267 (by decide) (fun _ => ?_) (fun q => absurd (by decide) q)
  refine aw_fl [some (.retAddr b), none, none, none, some (.int 0), none, none, none] (by simp [SubL]) ?_
  exact al_tail C S0 (Nat.le_of_ble_eq_true rfl) (Nat.le_of_ble_eq_true rfl)

set_option maxHeartbeats 4000000 in
set_option maxRecDepth 100000 in
theorem lc_21_bb {X : GX} {p : Program} {l : Launch} {e : Env} {s : State} {m : MethodId} {below : List Frame} {meth : Method} {c : Code} {b : Nat} {xs : Nat → Int32} {f : AH} {n : Nat} {a1 : Int32} {a2 : Int32} {a3 : Int32} {a4 : Int32} {a5 : Int32} (C : CC X p l room_1 s m #[Value.ref b] meth c RL cL_law 8 ret) (S0 : SC X b 6 xs s) (hl0 : l.stackTraces = false) (e1 : xs 1 = a1) (q1 : 0 ≤ a1.toInt ∧ a1.toInt ≤ 2147483647) (e2 : xs 2 = a2) (z2 : ¬ a2 = 0) (e3 : xs 3 = a3) (e4 : xs 4 = a4) (e5 : xs 5 = a5) (h0 : f 0 = some (.inr (8, [.ref 1, .ref 3, .ref 8, .ref 13, .ref 18, .ref 59, .ref 115, .ref 171, .ref 178, .int 0, .int 0, .int 0, .int 0, .int (-1)]))) (h171 : f 171 = some (.inr (0, [.ref 172, .ref 174, .ref 176, .int 0]))) (h172 : f 172 = some (.inr (5, [.ref 173, .int 0]))) (h181 : f 181 = some (.inr (9, (.int 0 :: .ref 182 :: .ref 183 :: .ref 184 :: .ref 185 :: .int 0 :: .int 0 :: .int 0 :: .ref 186 :: .int 0 :: .int 0 :: .int 0 :: .int (-1) :: .ref 187 :: .ref 188 :: .ref 189 :: .int 0 :: .ref 190 :: .ref 191 :: .ref 192 :: .ref 193 :: .ref 194 :: .int 0 :: .ref 195 :: .ref 196 :: .ref 197 :: .int 0 :: .ref 198 :: .ref 199 :: .ref 200 :: .ref 201 :: .ref 202 :: .ref 203 :: .int 0 :: .ref 204 :: .ref 205 :: .ref 206 :: .ref 207 :: .ref 208 :: .ref 209 :: .ref 210 :: .ref 211 :: .ref 212 :: .ref 213 :: .ref 214 :: .int 0 :: .ref 215 :: .ref 216 :: .int 0 :: .ref 217 :: .ref 218 :: .ref 219 :: .ref 220 :: .ref 221 :: .int 0 :: .int 0 :: .int 0 :: .int 0 :: .ref 222 :: .int 0 :: [])))) (h182 : f 182 = some (.inl (0, 4347, .inl (tl (upd (upd (fun _ => 0) 2 (-1)) 4 1) 40)))) : AW X p l e room_1 s m #[Value.ref b] below meth c 8 (lw_Z below #[Value.ref b] s) f n 1000 300000 1219 [some (.retAddr b), some (.ref 0), some (.ref 181), some (.ref 223), some (.int 0), none, none, none] [] := by
  refine ao_start ?_
  obtain ⟨q1a, q1b⟩ := q1
  refine aw_ald_n C dL_law_1219 rfl ?_
  refine aw_raw_n C dL_law_1220 rfl ?_
  refine aw_iload C dL_law_1221 rfl ?_
  refine aw_iconst C 1 dL_law_1223 ki_1 ?_
  refine ae_iadd C 1 dL_law_1224 (by decide) ?_
  refine aw_sld C S0 a1 (by unfold vp_in; decide) (by decide : _ = 1) e1 dL_law_1225 ?_
  refine aw_raw_n C dL_law_1226 rfl ?_
  refine aw_iload C dL_law_1227 rfl ?_
  refine aw_iconst C 2 dL_law_1229 ki_2 ?_
  refine ae_iadd C 2 dL_law_1230 (by decide) ?_
  refine aw_sld C S0 a2 (by unfold vp_in; decide) (by decide : _ = 2) e2 dL_law_1231 ?_
  refine aw_if_eq C 1239 dL_law_1232 (by decide) (fun q => absurd q z2) (fun _ => ?_)
  refine aw_iconst C 1 dL_law_1235 ki_1 ?_
  refine aw_goto C 1240 dL_law_1236 (by decide) ?_
  refine ao_callV C (ci := 8) (b := 0) [.int a1, .int 1] [] mv_L_163 rfl rfl h0 (c_X8_at_577 ⟨by omega, by omega⟩ h0 h171 h172) rfl dL_law_1240 (Nat.le_of_ble_eq_true rfl) (Nat.le_of_ble_eq_true rfl) rfl (Nat.le_of_ble_eq_true rfl) (Nat.le_of_ble_eq_true rfl) (Nat.le_of_ble_eq_true rfl) rfl ?_
  refine aw_ald_n C dL_law_1243 rfl ?_
  refine aw_raw_n C dL_law_1244 rfl ?_
  refine aw_iload C dL_law_1245 rfl ?_
  refine aw_iconst C 1 dL_law_1247 ki_1 ?_
  refine ae_iadd C 1 dL_law_1248 (by decide) ?_
  refine aw_sld C S0 a1 (by unfold vp_in; decide) (by decide : _ = 1) e1 dL_law_1249 ?_
  refine aw_raw_n C dL_law_1250 rfl ?_
  refine aw_iload C dL_law_1251 rfl ?_
  refine aw_iconst C 2 dL_law_1253 ki_2 ?_
  refine ae_iadd C 2 dL_law_1254 (by decide) ?_
  refine aw_sld C S0 a2 (by unfold vp_in; decide) (by decide : _ = 2) e2 dL_law_1255 ?_
  refine aw_if_eq C 1263 dL_law_1256 (by decide) (fun q => absurd q z2) (fun _ => ?_)
  refine aw_iconst C 1 dL_law_1259 ki_1 ?_
  refine aw_goto C 1264 dL_law_1260 (by decide) ?_
  refine ao_callV C (ci := 9) (b := 181) [.int a1, .int 1] [(181, .inr (9, (.int 0 :: .ref 182 :: .ref 183 :: .ref 184 :: .ref 185 :: .int 0 :: .int 0 :: .int 0 :: .ref 186 :: .int 0 :: .int 0 :: .int 0 :: .int (-1) :: .ref 187 :: .ref 188 :: .ref 189 :: .int 0 :: .ref 190 :: .ref 191 :: .ref 192 :: .ref 193 :: .ref 194 :: .int 0 :: .ref 195 :: .ref 196 :: .ref 197 :: .int 0 :: .ref 198 :: .ref 199 :: .ref 200 :: .ref 201 :: .ref 202 :: .ref 203 :: .int 0 :: .ref 204 :: .ref 205 :: .ref 206 :: .ref 207 :: .ref 208 :: .ref 209 :: .ref 210 :: .ref 211 :: .ref 212 :: .ref 213 :: .ref 214 :: .int 0 :: .ref 215 :: .ref 216 :: .int 0 :: .ref 217 :: .ref 218 :: .ref 219 :: .ref 220 :: .ref 221 :: .int 0 :: .int 0 :: .int 0 :: .int 0 :: .ref 222 :: .int 0 :: [])))] mv_L_166 rfl rfl h181 (c_X9_at_578 ⟨by omega, by omega⟩ h181 h182) rfl dL_law_1264 (Nat.le_of_ble_eq_true rfl) (Nat.le_of_ble_eq_true rfl) rfl (Nat.le_of_ble_eq_true rfl) (Nat.le_of_ble_eq_true rfl) (Nat.le_of_ble_eq_true rfl) rfl ?_
  refine aw_icmp_eq C 1629 dL_law_1267 (by decide) (fun _ => ?_) (fun q => absurd (by decide) q)
  refine aw_fl [some (.retAddr b), none, none, none, some (.int 0), none, none, none] (by simp [SubL]) ?_
  exact al_tail C S0 (Nat.le_of_ble_eq_true rfl) (Nat.le_of_ble_eq_true rfl)

