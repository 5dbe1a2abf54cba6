set_option maxHeartbeats 4000000 in
set_option maxRecDepth 100000 in
theorem c_X8_swap_492 {X : GX} {l : Launch} {f : AH} {n : Nat} {a1 : Int32} {a2 : Int32} (hl0 : l.stackTraces = false) (q0 : (-2147483648) ≤ a1.toInt ∧ a1.toInt ≤ (-1)) (q1 : (-2147483648) ≤ a2.toInt ∧ a2.toInt ≤ (-1)) (h0 : f 0 = some (.inr (8, [.ref 1, .ref 3, .ref 8, .ref 13, .ref 18, .ref 59, .ref 115, .ref 171, .ref 178, .int 0, .int 0, .int 0, .int 0, .int (-1)]))) (h3 : f 3 = some (.inr (7, [.ref 4, .int 0, .int (-1), .int 0, .int 1, .int 0, .null, .int 0, .ref 6, .ref 7]))) (h8 : f 8 = some (.inr (7, [.ref 9, .int 0, .int (-1), .int 0, .int 1, .int 0, .null, .int 0, .ref 11, .ref 12]))) (h11 : f 11 = some (.inl (2, 4, .inr (.inr (fun _ => none))))) (h6 : f 6 = some (.inl (2, 4, .inr (.inr (fun _ => none))))) (h12 : f 12 = some (.inl (2, 40, .inr (.inr (fun _ => none))))) (h7 : f 7 = some (.inl (2, 40, .inr (.inr (fun _ => none))))) (h59 : f 59 = some (.inr (1, [.ref 60, .ref 62, .ref 74, .int 0, .ref 68, .ref 71, .ref 64, .ref 66]))) : AX X l yX8_swap cX8_swap 3 (some .int) 7 1 6 [.ref 0, .int a1, .int a2] f n (fun _ _ _ => False) (TXO eS f [(8, .inr (7, [.ref 4, .int 0, .int (-1), .int 0, .int 1, .int 0, .null, .int 0, .ref 11, .ref 12])), (0, .inr (8, [.ref 1, .ref 3, .ref 8, .ref 13, .ref 18, .ref 59, .ref 115, .ref 171, .ref 178, .int 0, .int 0, .int 0, .int 1, .int (-1)]))] n) := by
  refine AX.of (by decide +kernel) rfl (Nat.le_of_ble_eq_true rfl) (fun p e s m args below meth c C htab => ?_)
  refine ao_start ?_
  refine aw_nl [some (.ref 0), some (.int a1), some (.int a2)] rfl ?_
  obtain ⟨q0a, q0b⟩ := q0
  obtain ⟨q1a, q1b⟩ := q1
  refine aw_ald_n C dX8_swap_0 rfl ?_
  refine aw_get C gf_X8_25 h0 rfl dX8_swap_1 ?_
  refine aw_ald_n C dX8_swap_4 rfl ?_
  refine aw_get C gf_X8_21 h0 rfl dX8_swap_5 ?_
  refine ao_callV C (ci := 7) (b := 8) [.ref 3] [(8, .inr (7, [.ref 4, .int 0, .int (-1), .int 0, .int 1, .int 0, .null, .int 0, .ref 11, .ref 12]))] mv_X8_73 rfl rfl h8 (c_X7_copyFrom_168 h3 h8 h11 h6 h12 h7) rfl dX8_swap_8 (Nat.le_of_ble_eq_true rfl) (Nat.le_of_ble_eq_true rfl) rfl (Nat.le_of_ble_eq_true rfl) (Nat.le_of_ble_eq_true rfl) (Nat.le_of_ble_eq_true rfl) rfl ?_
  refine aw_ald_n C dX8_swap_11 rfl ?_
  refine aw_ald_n C dX8_swap_12 rfl ?_
  refine aw_bipush C 10 dX8_swap_13 kb_10 ?_
  refine aw_iload_n C dX8_swap_15 rfl ?_
  refine aw_iload_n C dX8_swap_16 rfl ?_
  refine aw_null C dX8_swap_17 ?_
  refine ao_callV C (ci := 8) (b := 0) [.int 10, .int a1, .int a2, .null] [(8, .inr (7, [.ref 4, .int 0, .int (-1), .int 0, .int 1, .int 0, .null, .int 0, .ref 11, .ref 12])), (0, .inr (8, [.ref 1, .ref 3, .ref 8, .ref 13, .ref 18, .ref 59, .ref 115, .ref 171, .ref 178, .int 0, .int 0, .int 0, .int 0, .int (-1)]))] mv_X8_103 rfl rfl h0 (c_X8_doAct_491 ⟨by omega, by omega⟩ ⟨by omega, by omega⟩ h0 h59) rfl dX8_swap_18 (Nat.le_of_ble_eq_true rfl) (Nat.le_of_ble_eq_true rfl) rfl (Nat.le_of_ble_eq_true rfl) (Nat.le_of_ble_eq_true rfl) (Nat.le_of_ble_eq_true rfl) rfl ?_
  refine ax_callV C (ci := 8) (b := 0) [.int 1] mv_X8_139 rfl rfl rfl (c_X8_finishCall_437 hl0 rfl) rfl dX8_swap_21 (Nat.le_of_ble_eq_true rfl) (Nat.le_of_ble_eq_true rfl) rfl (Nat.le_of_ble_eq_true rfl) (Nat.le_of_ble_eq_true rfl) (Nat.le_of_ble_eq_true rfl) (fun E9 f9 n9 h9 => ?_) (fun _ _ _ h9 => h9.elim)
  obtain ⟨rfl, rfl, h9⟩ := h9
  refine at_flat [(8, .inr (7, [.ref 4, .int 0, .int (-1), .int 0, .int 1, .int 0, .null, .int 0, .ref 11, .ref 12])), (0, .inr (8, [.ref 1, .ref 3, .ref 8, .ref 13, .ref 18, .ref 59, .ref 115, .ref 171, .ref 178, .int 0, .int 0, .int 0, .int 1, .int (-1)]))] rfl ?_
  exact at_out C htab ⟨rfl, rfl, h9⟩ (Nat.le_of_ble_eq_true rfl) (Nat.le_of_ble_eq_true rfl)

set_option maxHeartbeats 4000000 in
set_option maxRecDepth 100000 in
theorem c_L_swap_493 {X : GX} {l : Launch} {f : AH} {n : Nat} {a1 : Int32} {a2 : Int32} (hl0 : l.stackTraces = false) (q0 : (-2147483648) ≤ a1.toInt ∧ a1.toInt ≤ (-1)) (q1 : (-2147483648) ≤ a2.toInt ∧ a2.toInt ≤ (-1)) (h0 : f 0 = some (.inr (8, [.ref 1, .ref 3, .ref 8, .ref 13, .ref 18, .ref 59, .ref 115, .ref 171, .ref 178, .int 0, .int 0, .int 0, .int 0, .int (-1)]))) (h3 : f 3 = some (.inr (7, [.ref 4, .int 0, .int (-1), .int 0, .int 1, .int 0, .null, .int 0, .ref 6, .ref 7]))) (h8 : f 8 = some (.inr (7, [.ref 9, .int 0, .int (-1), .int 0, .int 1, .int 0, .null, .int 0, .ref 11, .ref 12]))) (h11 : f 11 = some (.inl (2, 4, .inr (.inr (fun _ => none))))) (h6 : f 6 = some (.inl (2, 4, .inr (.inr (fun _ => none))))) (h12 : f 12 = some (.inl (2, 40, .inr (.inr (fun _ => none))))) (h7 : f 7 = some (.inl (2, 40, .inr (.inr (fun _ => none))))) (h59 : f 59 = some (.inr (1, [.ref 60, .ref 62, .ref 74, .int 0, .ref 68, .ref 71, .ref 64, .ref 66]))) : AMW X l yL_swap cL_swap 5 (some .int) [(0, 10, 13, 28)] 8 1 6 [.ref 0, .int a1, .int a2, .ref 223] f n (EXN f [(0, .inr (8, [.ref 1, .ref 3, .ref 8, .ref 13, .ref 18, .ref 59, .ref 115, .ref 171, .ref 178, .int 0, .int 0, .int 0, .int 1, .int (-1)])), (8, .inr (7, [.ref 4, .int 0, .int (-1), .int 0, .int 1, .int 0, .null, .int 0, .ref 11, .ref 12]))] (some (.int 1))) := by
  refine AMW.of (by decide +kernel) rfl (Nat.le_of_ble_eq_true rfl) (fun p e s m args below meth c C htab => ?_)
  refine ao_start ?_
  refine aw_nl [some (.ref 0), some (.int a1), some (.int a2), some (.ref 223), none] rfl ?_
  obtain ⟨q0a, q0b⟩ := q0
  obtain ⟨q1a, q1b⟩ := q1
  refine aw_ald_n C dL_swap_0 rfl ?_
  refine aw_iconst C 0 dL_swap_1 ki_0 ?_
  refine aw_ald_n C dL_swap_2 rfl ?_
  refine aw_iload_n C dL_swap_3 rfl ?_
  refine aw_iload_n C dL_swap_4 rfl ?_
  refine ax_callV C (ci := 8) (b := 0) [.int a1, .int a2] mv_L_40 rfl rfl h0 (c_X8_swap_492 hl0 ⟨by omega, by omega⟩ ⟨by omega, by omega⟩ h0 h3 h8 h11 h6 h12 h7 h59) rfl dL_swap_5 (Nat.le_of_ble_eq_true rfl) (Nat.le_of_ble_eq_true rfl) rfl (Nat.le_of_ble_eq_true rfl) (Nat.le_of_ble_eq_true rfl) (Nat.le_of_ble_eq_true rfl) (fun E9 f9 n9 h9 => ?_) (fun _ _ _ h9 => h9.elim)
  obtain ⟨rfl, rfl, h9⟩ := h9
  refine at_flat [(0, .inr (8, [.ref 1, .ref 3, .ref 8, .ref 13, .ref 18, .ref 59, .ref 115, .ref 171, .ref 178, .int 0, .int 0, .int 0, .int 1, .int (-1)])), (8, .inr (7, [.ref 4, .int 0, .int (-1), .int 0, .int 1, .int 0, .null, .int 0, .ref 11, .ref 12]))] rfl ?_
  refine at_catch C htab [] ⟨0, 10, 13, 28⟩ [] rfl (fun z hz => nomatch hz) (by decide) (by decide) cl_L_28 (by decide) (ah_astore C dL_swap_13 (by decide) rfl ?_)
  refine aw_nl [some (.ref 0), some (.int a1), some (.int a2), some (.ref 223), none] rfl ?_
  refine aw_iconst C 1 dL_swap_15 ki_1 ?_
  exact aw_iret C rfl rfl dL_swap_16 (Nat.le_of_ble_eq_true rfl) (Nat.le_of_ble_eq_true rfl) ⟨rfl, rfl⟩

set_option maxHeartbeats 4000000 in
set_option maxRecDepth 100000 in
theorem c_X9_swap0_494 {X : GX} {l : Launch} {f : AH} {n : Nat} {a1 : Int32} {a2 : Int32} (q0 : (-2147483648) ≤ a1.toInt ∧ a1.toInt ≤ (-1)) (q1 : (-2147483648) ≤ a2.toInt ∧ a2.toInt ≤ (-1)) (h181 : f 181 = some (.inr (9, (.int 0 :: .ref 182 :: .ref 183 :: .ref 184 :: .ref 185 :: .int 0 :: .int 0 :: .int 0 :: .ref 186 :: .int 0 :: .int 0 :: .int 0 :: .int (-1) :: .ref 187 :: .ref 188 :: .ref 189 :: .int 0 :: .ref 190 :: .ref 191 :: .ref 192 :: .ref 193 :: .ref 194 :: .int 0 :: .ref 195 :: .ref 196 :: .ref 197 :: .int 0 :: .ref 198 :: .ref 199 :: .ref 200 :: .ref 201 :: .ref 202 :: .ref 203 :: .int 0 :: .ref 204 :: .ref 205 :: .ref 206 :: .ref 207 :: .ref 208 :: .ref 209 :: .ref 210 :: .ref 211 :: .ref 212 :: .ref 213 :: .ref 214 :: .int 0 :: .ref 215 :: .ref 216 :: .int 0 :: .ref 217 :: .ref 218 :: .ref 219 :: .ref 220 :: .ref 221 :: .int 0 :: .int 0 :: .int 0 :: .int 0 :: .ref 222 :: .int 0 :: [])))) : AM X l yX9_swap0 cX9_swap0 6 (some .int) 2 0 0 [.ref 181, .int a1, .int a2] f n (EXO f [] (some (.int 1)) n) := by
  refine AM.of (by decide +kernel) rfl (Nat.le_of_ble_eq_true rfl) (fun p e s m args below meth c C hnm => ?_)
  refine ao_start ?_
  refine aw_nl [some (.ref 181), some (.int a1), some (.int a2), none, none, none] rfl ?_
  obtain ⟨q0a, q0b⟩ := q0
  obtain ⟨q1a, q1b⟩ := q1
  refine aw_ald_n C dX9_swap0_0 rfl ?_
  refine aw_iload_n C dX9_swap0_1 rfl ?_
  refine ao_callV C (ci := 9) (b := 181) [.int a1] [] mv_X9_293 rfl rfl h181 (c_X9_isPieceThere_442 ⟨by omega, by omega⟩ h181) rfl dX9_swap0_2 (Nat.le_of_ble_eq_true rfl) (Nat.le_of_ble_eq_true rfl) rfl (Nat.le_of_ble_eq_true rfl) (Nat.le_of_ble_eq_true rfl) (Nat.le_of_ble_eq_true rfl) rfl ?_
  refine aw_if_eq C 16 dX9_swap0_5 (by decide) (fun _ => ?_) (fun q => absurd (by decide) q)
  refine aw_iconst C 1 dX9_swap0_16 ki_1 ?_
  exact aw_iret C rfl rfl dX9_swap0_17 (Nat.le_of_ble_eq_true rfl) (Nat.le_of_ble_eq_true rfl) ⟨rfl, rfl, rfl⟩

set_option maxHeartbeats 4000000 in
set_option maxRecDepth 100000 in
theorem c_X9_swap_495 {X : GX} {l : Launch} {f : AH} {n : Nat} {a1 : Int32} {a2 : Int32} (q0 : (-2147483648) ≤ a1.toInt ∧ a1.toInt ≤ (-1)) (q1 : (-2147483648) ≤ a2.toInt ∧ a2.toInt ≤ (-1)) (h181 : f 181 = some (.inr (9, (.int 0 :: .ref 182 :: .ref 183 :: .ref 184 :: .ref 185 :: .int 0 :: .int 0 :: .int 0 :: .ref 186 :: .int 0 :: .int 0 :: .int 0 :: .int (-1) :: .ref 187 :: .ref 188 :: .ref 189 :: .int 0 :: .ref 190 :: .ref 191 :: .ref 192 :: .ref 193 :: .ref 194 :: .int 0 :: .ref 195 :: .ref 196 :: .ref 197 :: .int 0 :: .ref 198 :: .ref 199 :: .ref 200 :: .ref 201 :: .ref 202 :: .ref 203 :: .int 0 :: .ref 204 :: .ref 205 :: .ref 206 :: .ref 207 :: .ref 208 :: .ref 209 :: .ref 210 :: .ref 211 :: .ref 212 :: .ref 213 :: .ref 214 :: .int 0 :: .ref 215 :: .ref 216 :: .int 0 :: .ref 217 :: .ref 218 :: .ref 219 :: .ref 220 :: .ref 221 :: .int 0 :: .int 0 :: .int 0 :: .int 0 :: .ref 222 :: .int 0 :: [])))) (h183 : f 183 = some (.inl (0, 4347, .inl (fun _ => 0)))) (h182 : f 182 = some (.inl (0, 4347, .inl (tl (upd (upd (fun _ => 0) 2 (-1)) 4 1) 40)))) : AM X l yX9_swap cX9_swap 3 (some .int) 6 0 0 [.ref 181, .int a1, .int a2] f n (EXO f [(183, .inl (0, 4347, .inl (cpy (tl (upd (upd (fun _ => 0) 2 (-1)) 4 1) 40) (fun _ => 0) 4347))), (182, .inl (0, 4347, .inl (cpy (cpy (tl (upd (upd (fun _ => 0) 2 (-1)) 4 1) 40) (fun _ => 0) 4347) (tl (upd (upd (fun _ => 0) 2 (-1)) 4 1) 40) 4347))), (181, .inr (9, (.int 1 :: .ref 182 :: .ref 183 :: .ref 184 :: .ref 185 :: .int 0 :: .int 0 :: .int 1 :: .ref 186 :: .int 0 :: .int 0 :: .int 0 :: .int (-1) :: .ref 187 :: .ref 188 :: .ref 189 :: .int 0 :: .ref 190 :: .ref 191 :: .ref 192 :: .ref 193 :: .ref 194 :: .int 0 :: .ref 195 :: .ref 196 :: .ref 197 :: .int 0 :: .ref 198 :: .ref 199 :: .ref 200 :: .ref 201 :: .ref 202 :: .ref 203 :: .int 0 :: .ref 204 :: .ref 205 :: .ref 206 :: .ref 207 :: .ref 208 :: .ref 209 :: .ref 210 :: .ref 211 :: .ref 212 :: .ref 213 :: .ref 214 :: .int 0 :: .ref 215 :: .ref 216 :: .int 0 :: .ref 217 :: .ref 218 :: .ref 219 :: .ref 220 :: .ref 221 :: .int 0 :: .int 0 :: .int 0 :: .int 0 :: .ref 222 :: .int 0 :: [])))] (some (.int 0)) n) := by
  refine AM.of (by decide +kernel) rfl (Nat.le_of_ble_eq_true rfl) (fun p e s m args below meth c C hnm => ?_)
  refine ao_start ?_
  refine aw_nl [some (.ref 181), some (.int a1), some (.int a2)] rfl ?_
  obtain ⟨q0a, q0b⟩ := q0
  obtain ⟨q1a, q1b⟩ := q1
  refine aw_ald_n C dX9_swap_0 rfl ?_
  refine ao_callV C (ci := 9) (b := 181) [] [(183, .inl (0, 4347, .inl (cpy (tl (upd (upd (fun _ => 0) 2 (-1)) 4 1) 40) (fun _ => 0) 4347)))] mv_X9_420 rfl rfl h181 (c_X9_putsAside_173 h181 h183 h182) rfl dX9_swap_1 (Nat.le_of_ble_eq_true rfl) (Nat.le_of_ble_eq_true rfl) rfl (Nat.le_of_ble_eq_true rfl) (Nat.le_of_ble_eq_true rfl) (Nat.le_of_ble_eq_true rfl) rfl ?_
  refine aw_ald_n C dX9_swap_4 rfl ?_
  refine aw_ald_n C dX9_swap_5 rfl ?_
  refine aw_iload_n C dX9_swap_6 rfl ?_
  refine aw_iload_n C dX9_swap_7 rfl ?_
  refine ao_callV C (ci := 9) (b := 181) [.int a1, .int a2] [(183, .inl (0, 4347, .inl (cpy (tl (upd (upd (fun _ => 0) 2 (-1)) 4 1) 40) (fun _ => 0) 4347)))] mv_X9_364 rfl rfl h181 (c_X9_swap0_494 ⟨by omega, by omega⟩ ⟨by omega, by omega⟩ h181) rfl dX9_swap_8 (Nat.le_of_ble_eq_true rfl) (Nat.le_of_ble_eq_true rfl) rfl (Nat.le_of_ble_eq_true rfl) (Nat.le_of_ble_eq_true rfl) (Nat.le_of_ble_eq_true rfl) rfl ?_
  refine aw_iconst C 1 dX9_swap_11 ki_1 ?_
  refine ao_callV C (ci := 9) (b := 181) [.int 1, .int 1] [(183, .inl (0, 4347, .inl (cpy (tl (upd (upd (fun _ => 0) 2 (-1)) 4 1) 40) (fun _ => 0) 4347))), (182, .inl (0, 4347, .inl (cpy (cpy (tl (upd (upd (fun _ => 0) 2 (-1)) 4 1) 40) (fun _ => 0) 4347) (tl (upd (upd (fun _ => 0) 2 (-1)) 4 1) 40) 4347))), (181, .inr (9, (.int 1 :: .ref 182 :: .ref 183 :: .ref 184 :: .ref 185 :: .int 0 :: .int 0 :: .int 1 :: .ref 186 :: .int 0 :: .int 0 :: .int 0 :: .int (-1) :: .ref 187 :: .ref 188 :: .ref 189 :: .int 0 :: .ref 190 :: .ref 191 :: .ref 192 :: .ref 193 :: .ref 194 :: .int 0 :: .ref 195 :: .ref 196 :: .ref 197 :: .int 0 :: .ref 198 :: .ref 199 :: .ref 200 :: .ref 201 :: .ref 202 :: .ref 203 :: .int 0 :: .ref 204 :: .ref 205 :: .ref 206 :: .ref 207 :: .ref 208 :: .ref 209 :: .ref 210 :: .ref 211 :: .ref 212 :: .ref 213 :: .ref 214 :: .int 0 :: .ref 215 :: .ref 216 :: .int 0 :: .ref 217 :: .ref 218 :: .ref 219 :: .ref 220 :: .ref 221 :: .int 0 :: .int 0 :: .int 0 :: .int 0 :: .ref 222 :: .int 0 :: [])))] mv_X9_429 rfl rfl h181 (c_X9_isDone_469 h181 h182 rfl) rfl dX9_swap_12 (Nat.le_of_ble_eq_true rfl) (Nat.le_of_ble_eq_true rfl) rfl (Nat.le_of_ble_eq_true rfl) (Nat.le_of_ble_eq_true rfl) (Nat.le_of_ble_eq_true rfl) rfl ?_
  refine aw_if_eq C 25 dX9_swap_15 (by decide) (fun _ => ?_) (fun q => absurd (by decide) q)
  refine aw_iconst C 0 dX9_swap_25 ki_0 ?_
  exact aw_iret C rfl rfl dX9_swap_26 (Nat.le_of_ble_eq_true rfl) (Nat.le_of_ble_eq_true rfl) ⟨rfl, rfl, rfl⟩

set_option maxHeartbeats 4000000 in
set_option maxRecDepth 100000 in
theorem c_X8_swapPieces_496 {X : GX} {l : Launch} {f : AH} {n : Nat} {a1 : Int32} {a2 : Int32} (q0 : (-2147483648) ≤ a1.toInt ∧ a1.toInt ≤ (-1)) (q1 : 0 ≤ a2.toInt ∧ a2.toInt ≤ 2147483647) (h0 : f 0 = some (.inr (8, [.ref 1, .ref 3, .ref 8, .ref 13, .ref 18, .ref 59, .ref 115, .ref 171, .ref 178, .int 0, .int 0, .int 0, .int 0, .int (-1)]))) (h59 : f 59 = some (.inr (1, [.ref 60, .ref 62, .ref 74, .int 0, .ref 68, .ref 71, .ref 64, .ref 66]))) : AM X l yX8_swapPieces cX8_swapPieces 7 (some .int) 1 0 0 [.ref 0, .int a1, .int a2] f n (EXO f [] (some (.int 1)) n) := by
  refine AM.of (by decide +kernel) rfl (Nat.le_of_ble_eq_true rfl) (fun p e s m args below meth c C hnm => ?_)
  refine ao_start ?_
  refine aw_nl [some (.ref 0), some (.int a1), some (.int a2), none, none, none, none] rfl ?_
  obtain ⟨q0a, q0b⟩ := q0
  obtain ⟨q1a, q1b⟩ := q1
  refine aw_ald_n C dX8_swapPieces_0 rfl ?_
  refine aw_get C gf_X8_38 h0 rfl dX8_swapPieces_1 ?_
  refine aw_iload_n C dX8_swapPieces_4 rfl ?_
  refine ao_callV C (ci := 1) (b := 59) [.int a1] [] mv_X8_241 rfl rfl h59 (c_X1_get_434 ⟨by omega, by omega⟩) rfl dX8_swapPieces_5 (Nat.le_of_ble_eq_true rfl) (Nat.le_of_ble_eq_true rfl) rfl (Nat.le_of_ble_eq_true rfl) (Nat.le_of_ble_eq_true rfl) (Nat.le_of_ble_eq_true rfl) rfl ?_
  refine aw_astore_n C dX8_swapPieces_8 (by decide) rfl (Or.inl rfl) ?_
  refine aw_nl [some (.ref 0), some (.int a1), some (.int a2), some (.null), none, none, none] rfl ?_
  refine aw_ald_n C dX8_swapPieces_9 rfl ?_
  refine aw_get C gf_X8_38 h0 rfl dX8_swapPieces_10 ?_
  refine aw_iload_n C dX8_swapPieces_13 rfl ?_
  refine ao_callV C (ci := 1) (b := 59) [.int a2] [] mv_X8_241 rfl rfl h59 (c_X1_get_451 ⟨by omega, by omega⟩ h59) rfl dX8_swapPieces_14 (Nat.le_of_ble_eq_true rfl) (Nat.le_of_ble_eq_true rfl) rfl (Nat.le_of_ble_eq_true rfl) (Nat.le_of_ble_eq_true rfl) (Nat.le_of_ble_eq_true rfl) rfl ?_
  refine aw_astore C dX8_swapPieces_17 (by decide) rfl (Or.inl rfl) ?_
  refine aw_nl [some (.ref 0), some (.int a1), some (.int a2), some (.null), some (.null), none, none] rfl ?_
  refine aw_aload_n C dX8_swapPieces_19 rfl (Or.inl rfl) ?_
  refine aw_ifnull_n C 28 dX8_swapPieces_20 (by decide) ?_
  refine aw_iconst C 1 dX8_swapPieces_28 ki_1 ?_
  exact aw_iret C rfl rfl dX8_swapPieces_29 (Nat.le_of_ble_eq_true rfl) (Nat.le_of_ble_eq_true rfl) ⟨rfl, rfl, rfl⟩

set_option maxHeartbeats 4000000 in
set_option maxRecDepth 100000 in
theorem c_X8_doAct_497 {X : GX} {l : Launch} {f : AH} {n : Nat} {a2 : Int32} {a3 : Int32} (q0 : (-2147483648) ≤ a2.toInt ∧ a2.toInt ≤ (-1)) (q1 : 0 ≤ a3.toInt ∧ a3.toInt ≤ 2147483647) (h0 : f 0 = some (.inr (8, [.ref 1, .ref 3, .ref 8, .ref 13, .ref 18, .ref 59, .ref 115, .ref 171, .ref 178, .int 0, .int 0, .int 0, .int 0, .int (-1)]))) (h59 : f 59 = some (.inr (1, [.ref 60, .ref 62, .ref 74, .int 0, .ref 68, .ref 71, .ref 64, .ref 66]))) : AM X l yX8_doAct cX8_doAct 6 (some .int) 2 0 0 [.ref 0, .int 10, .int a2, .int a3, .null] f n (EXO f [(0, .inr (8, [.ref 1, .ref 3, .ref 8, .ref 13, .ref 18, .ref 59, .ref 115, .ref 171, .ref 178, .int 0, .int 0, .int 0, .int 0, .int (-1)]))] (some (.int 1)) n) := by
  refine AM.of (by decide +kernel) rfl (Nat.le_of_ble_eq_true rfl) (fun p e s m args below meth c C hnm => ?_)
  refine ao_start ?_
  refine aw_nl [some (.ref 0), some (.int 10), some (.int a2), some (.int a3), some (.null), none] rfl ?_
  obtain ⟨q0a, q0b⟩ := q0
  obtain ⟨q1a, q1b⟩ := q1
  refine aw_ald_n C dX8_doAct_0 rfl ?_
  refine aw_iconst C 0 dX8_doAct_1 ki_0 ?_
  refine ao_put C [(0, .inr (8, [.ref 1, .ref 3, .ref 8, .ref 13, .ref 18, .ref 59, .ref 115, .ref 171, .ref 178, .int 0, .int 0, .int 0, .int 0, .int (-1)]))] gf_X8_334 cf8 nf8_10 h0 (Nat.le_of_ble_eq_true rfl) (by decide) (by decide) dX8_doAct_2 rfl ?_
  refine aw_iload_n C dX8_doAct_5 rfl ?_
  refine aw_tabIn C (off := 191) 197 dX8_doAct_6 (by decide) (by decide) (by decide) (by decide) ?_
  refine aw_ald_n C dX8_doAct_197 rfl ?_
  refine aw_iload_n C dX8_doAct_198 rfl ?_
  refine aw_iload_n C dX8_doAct_199 rfl ?_
  refine ao_callV C (ci := 8) (b := 0) [.int a2, .int a3] [(0, .inr (8, [.ref 1, .ref 3, .ref 8, .ref 13, .ref 18, .ref 59, .ref 115, .ref 171, .ref 178, .int 0, .int 0, .int 0, .int 0, .int (-1)]))] mv_X8_347 rfl rfl rfl (c_X8_swapPieces_496 ⟨by omega, by omega⟩ ⟨by omega, by omega⟩ rfl h59) rfl dX8_doAct_200 (Nat.le_of_ble_eq_true rfl) (Nat.le_of_ble_eq_true rfl) rfl (Nat.le_of_ble_eq_true rfl) (Nat.le_of_ble_eq_true rfl) (Nat.le_of_ble_eq_true rfl) rfl ?_
  exact aw_iret C rfl rfl dX8_doAct_203 (Nat.le_of_ble_eq_true rfl) (Nat.le_of_ble_eq_true rfl) ⟨rfl, rfl, rfl⟩

set_option maxHeartbeats 4000000 in
set_option maxRecDepth 100000 in
theorem c_X8_swap_498 {X : GX} {l : Launch} {f : AH} {n : Nat} {a1 : Int32} {a2 : Int32} (hl0 : l.stackTraces = false) (q0 : (-2147483648) ≤ a1.toInt ∧ a1.toInt ≤ (-1)) (q1 : 0 ≤ a2.toInt ∧ a2.toInt ≤ 2147483647) (h0 : f 0 = some (.inr (8, [.ref 1, .ref 3, .ref 8, .ref 13, .ref 18, .ref 59, .ref 115, .ref 171, .ref 178, .int 0, .int 0, .int 0, .int 0, .int (-1)]))) (h3 : f 3 = some (.inr (7, [.ref 4, .int 0, .int (-1), .int 0, .int 1, .int 0, .null, .int 0, .ref 6, .ref 7]))) (h8 : f 8 = some (.inr (7, [.ref 9, .int 0, .int (-1), .int 0, .int 1, .int 0, .null, .int 0, .ref 11, .ref 12]))) (h11 : f 11 = some (.inl (2, 4, .inr (.inr (fun _ => none))))) (h6 : f 6 = some (.inl (2, 4, .inr (.inr (fun _ => none))))) (h12 : f 12 = some (.inl (2, 40, .inr (.inr (fun _ => none))))) (h7 : f 7 = some (.inl (2, 40, .inr (.inr (fun _ => none))))) (h59 : f 59 = some (.inr (1, [.ref 60, .ref 62, .ref 74, .int 0, .ref 68, .ref 71, .ref 64, .ref 66]))) : AX X l yX8_swap cX8_swap 3 (some .int) 7 1 6 [.ref 0, .int a1, .int a2] f n (fun _ _ _ => False) (TXO eS f [(8, .inr (7, [.ref 4, .int 0, .int (-1), .int 0, .int 1, .int 0, .null, .int 0, .ref 11, .ref 12])), (0, .inr (8, [.ref 1, .ref 3, .ref 8, .ref 13, .ref 18, .ref 59, .ref 115, .ref 171, .ref 178, .int 0, .int 0, .int 0, .int 1, .int (-1)]))] n) := by
  refine AX.of (by decide +kernel) rfl (Nat.le_of_ble_eq_true rfl) (fun p e s m args below meth c C htab => ?_)
  refine ao_start ?_
  refine aw_nl [some (.ref 0), some (.int a1), some (.int a2)] rfl ?_
  obtain ⟨q0a, q0b⟩ := q0
  obtain ⟨q1a, q1b⟩ := q1
  refine aw_ald_n C dX8_swap_0 rfl ?_
  refine aw_get C gf_X8_25 h0 rfl dX8_swap_1 ?_
  refine aw_ald_n C dX8_swap_4 rfl ?_
  refine aw_get C gf_X8_21 h0 rfl dX8_swap_5 ?_
  refine ao_callV C (ci := 7) (b := 8) [.ref 3] [(8, .inr (7, [.ref 4, .int 0, .int (-1), .int 0, .int 1, .int 0, .null, .int 0, .ref 11, .ref 12]))] mv_X8_73 rfl rfl h8 (c_X7_copyFrom_168 h3 h8 h11 h6 h12 h7) rfl dX8_swap_8 (Nat.le_of_ble_eq_true rfl) (Nat.le_of_ble_eq_true rfl) rfl (Nat.le_of_ble_eq_true rfl) (Nat.le_of_ble_eq_true rfl) (Nat.le_of_ble_eq_true rfl) rfl ?_
  refine aw_ald_n C dX8_swap_11 rfl ?_
  refine aw_ald_n C dX8_swap_12 rfl ?_
  refine aw_bipush C 10 dX8_swap_13 kb_10 ?_
  refine aw_iload_n C dX8_swap_15 rfl ?_
  refine aw_iload_n C dX8_swap_16 rfl ?_
  refine aw_null C dX8_swap_17 ?_
  refine ao_callV C (ci := 8) (b := 0) [.int 10, .int a1, .int a2, .null] [(8, .inr (7, [.ref 4, .int 0, .int (-1), .int 0, .int 1, .int 0, .null, .int 0, .ref 11, .ref 12])), (0, .inr (8, [.ref 1, .ref 3, .ref 8, .ref 13, .ref 18, .ref 59, .ref 115, .ref 171, .ref 178, .int 0, .int 0, .int 0, .int 0, .int (-1)]))] mv_X8_103 rfl rfl h0 (c_X8_doAct_497 ⟨by omega, by omega⟩ ⟨by omega, by omega⟩ h0 h59) rfl dX8_swap_18 (Nat.le_of_ble_eq_true rfl) (Nat.le_of_ble_eq_true rfl) rfl (Nat.le_of_ble_eq_true rfl) (Nat.le_of_ble_eq_true rfl) (Nat.le_of_ble_eq_true rfl) rfl ?_
  refine ax_callV C (ci := 8) (b := 0) [.int 1] mv_X8_139 rfl rfl rfl (c_X8_finishCall_437 hl0 rfl) rfl dX8_swap_21 (Nat.le_of_ble_eq_true rfl) (Nat.le_of_ble_eq_true rfl) rfl (Nat.le_of_ble_eq_true rfl) (Nat.le_of_ble_eq_true rfl) (Nat.le_of_ble_eq_true rfl) (fun E9 f9 n9 h9 => ?_) (fun _ _ _ h9 => h9.elim)
  obtain ⟨rfl, rfl, h9⟩ := h9
  refine at_flat [(8, .inr (7, [.ref 4, .int 0, .int (-1), .int 0, .int 1, .int 0, .null, .int 0, .ref 11, .ref 12])), (0, .inr (8, [.ref 1, .ref 3, .ref 8, .ref 13, .ref 18, .ref 59, .ref 115, .ref 171, .ref 178, .int 0, .int 0, .int 0, .int 1, .int (-1)]))] rfl ?_
  exact at_out C htab ⟨rfl, rfl, h9⟩ (Nat.le_of_ble_eq_true rfl) (Nat.le_of_ble_eq_true rfl)

set_option maxHeartbeats 4000000 in
set_option maxRecDepth 100000 in
theorem c_L_swap_499 {X : GX} {l : Launch} {f : AH} {n : Nat} {a1 : Int32} {a2 : Int32} (hl0 : l.stackTraces = false) (q0 : (-2147483648) ≤ a1.toInt ∧ a1.toInt ≤ (-1)) (q1 : 0 ≤ a2.toInt ∧ a2.toInt ≤ 2147483647) (h0 : f 0 = some (.inr (8, [.ref 1, .ref 3, .ref 8, .ref 13, .ref 18, .ref 59, .ref 115, .ref 171, .ref 178, .int 0, .int 0, .int 0, .int 0, .int (-1)]))) (h3 : f 3 = some (.inr (7, [.ref 4, .int 0, .int (-1), .int 0, .int 1, .int 0, .null, .int 0, .ref 6, .ref 7]))) (h8 : f 8 = some (.inr (7, [.ref 9, .int 0, .int (-1), .int 0, .int 1, .int 0, .null, .int 0, .ref 11, .ref 12]))) (h11 : f 11 = some (.inl (2, 4, .inr (.inr (fun _ => none))))) (h6 : f 6 = some (.inl (2, 4, .inr (.inr (fun _ => none))))) (h12 : f 12 = some (.inl (2, 40, .inr (.inr (fun _ => none))))) (h7 : f 7 = some (.inl (2, 40, .inr (.inr (fun _ => none))))) (h59 : f 59 = some (.inr (1, [.ref 60, .ref 62, .ref 74, .int 0, .ref 68, .ref 71, .ref 64, .ref 66]))) : AMW X l yL_swap cL_swap 5 (some .int) [(0, 10, 13, 28)] 8 1 6 [.ref 0, .int a1, .int a2, .ref 223] f n (EXN f [(0, .inr (8, [.ref 1, .ref 3, .ref 8, .ref 13, .ref 18, .ref 59, .ref 115, .ref 171, .ref 178, .int 0, .int 0, .int 0, .int 1, .int (-1)])), (8, .inr (7, [.ref 4, .int 0, .int (-1), .int 0, .int 1, .int 0, .null, .int 0, .ref 11, .ref 12]))] (some (.int 1))) := by
  refine AMW.of (by decide +kernel) rfl (Nat.le_of_ble_eq_true rfl) (fun p e s m args below meth c C htab => ?_)
  refine ao_start ?_
  refine aw_nl [some (.ref 0), some (.int a1), some (.int a2), some (.ref 223), none] rfl ?_
  obtain ⟨q0a, q0b⟩ := q0
  obtain ⟨q1a, q1b⟩ := q1
  refine aw_ald_n C dL_swap_0 rfl ?_
  refine aw_iconst C 0 dL_swap_1 ki_0 ?_
  refine aw_ald_n C dL_swap_2 rfl ?_
  refine aw_iload_n C dL_swap_3 rfl ?_
  refine aw_iload_n C dL_swap_4 rfl ?_
  refine ax_callV C (ci := 8) (b := 0) [.int a1, .int a2] mv_L_40 rfl rfl h0 (c_X8_swap_498 hl0 ⟨by omega, by omega⟩ ⟨by omega, by omega⟩ h0 h3 h8 h11 h6 h12 h7 h59) rfl dL_swap_5 (Nat.le_of_ble_eq_true rfl) (Nat.le_of_ble_eq_true rfl) rfl (Nat.le_of_ble_eq_true rfl) (Nat.le_of_ble_eq_true rfl) (Nat.le_of_ble_eq_true rfl) (fun E9 f9 n9 h9 => ?_) (fun _ _ _ h9 => h9.elim)
  obtain ⟨rfl, rfl, h9⟩ := h9
  refine at_flat [(0, .inr (8, [.ref 1, .ref 3, .ref 8, .ref 13, .ref 18, .ref 59, .ref 115, .ref 171, .ref 178, .int 0, .int 0, .int 0, .int 1, .int (-1)])), (8, .inr (7, [.ref 4, .int 0, .int (-1), .int 0, .int 1, .int 0, .null, .int 0, .ref 11, .ref 12]))] rfl ?_
  refine at_catch C htab [] ⟨0, 10, 13, 28⟩ [] rfl (fun z hz => nomatch hz) (by decide) (by decide) cl_L_28 (by decide) (ah_astore C dL_swap_13 (by decide) rfl ?_)
  refine aw_nl [some (.ref 0), some (.int a1), some (.int a2), some (.ref 223), none] rfl ?_
  refine aw_iconst C 1 dL_swap_15 ki_1 ?_
  exact aw_iret C rfl rfl dL_swap_16 (Nat.le_of_ble_eq_true rfl) (Nat.le_of_ble_eq_true rfl) ⟨rfl, rfl⟩

set_option maxHeartbeats 4000000 in
set_option maxRecDepth 100000 in
theorem c_X9_swap0_500 {X : GX} {l : Launch} {f : AH} {n : Nat} {a1 : Int32} {a2 : Int32} (q0 : (-2147483648) ≤ a1.toInt ∧ a1.toInt ≤ (-1)) (q1 : 0 ≤ a2.toInt ∧ a2.toInt ≤ 2147483647) (h181 : f 181 = some (.inr (9, (.int 0 :: .ref 182 :: .ref 183 :: .ref 184 :: .ref 185 :: .int 0 :: .int 0 :: .int 0 :: .ref 186 :: .int 0 :: .int 0 :: .int 0 :: .int (-1) :: .ref 187 :: .ref 188 :: .ref 189 :: .int 0 :: .ref 190 :: .ref 191 :: .ref 192 :: .ref 193 :: .ref 194 :: .int 0 :: .ref 195 :: .ref 196 :: .ref 197 :: .int 0 :: .ref 198 :: .ref 199 :: .ref 200 :: .ref 201 :: .ref 202 :: .ref 203 :: .int 0 :: .ref 204 :: .ref 205 :: .ref 206 :: .ref 207 :: .ref 208 :: .ref 209 :: .ref 210 :: .ref 211 :: .ref 212 :: .ref 213 :: .ref 214 :: .int 0 :: .ref 215 :: .ref 216 :: .int 0 :: .ref 217 :: .ref 218 :: .ref 219 :: .ref 220 :: .ref 221 :: .int 0 :: .int 0 :: .int 0 :: .int 0 :: .ref 222 :: .int 0 :: [])))) : AM X l yX9_swap0 cX9_swap0 6 (some .int) 2 0 0 [.ref 181, .int a1, .int a2] f n (EXO f [] (some (.int 1)) n) := by
  refine AM.of (by decide +kernel) rfl (Nat.le_of_ble_eq_true rfl) (fun p e s m args below meth c C hnm => ?_)
  refine ao_start ?_
  refine aw_nl [some (.ref 181), some (.int a1), some (.int a2), none, none, none] rfl ?_
  obtain ⟨q0a, q0b⟩ := q0
  obtain ⟨q1a, q1b⟩ := q1
  refine aw_ald_n C dX9_swap0_0 rfl ?_
  refine aw_iload_n C dX9_swap0_1 rfl ?_
  refine ao_callV C (ci := 9) (b := 181) [.int a1] [] mv_X9_293 rfl rfl h181 (c_X9_isPieceThere_442 ⟨by omega, by omega⟩ h181) rfl dX9_swap0_2 (Nat.le_of_ble_eq_true rfl) (Nat.le_of_ble_eq_true rfl) rfl (Nat.le_of_ble_eq_true rfl) (Nat.le_of_ble_eq_true rfl) (Nat.le_of_ble_eq_true rfl) rfl ?_
  refine aw_if_eq C 16 dX9_swap0_5 (by decide) (fun _ => ?_) (fun q => absurd (by decide) q)
  refine aw_iconst C 1 dX9_swap0_16 ki_1 ?_
  exact aw_iret C rfl rfl dX9_swap0_17 (Nat.le_of_ble_eq_true rfl) (Nat.le_of_ble_eq_true rfl) ⟨rfl, rfl, rfl⟩

set_option maxHeartbeats 4000000 in
set_option maxRecDepth 100000 in
theorem c_X9_swap_501 {X : GX} {l : Launch} {f : AH} {n : Nat} {a1 : Int32} {a2 : Int32} (q0 : (-2147483648) ≤ a1.toInt ∧ a1.toInt ≤ (-1)) (q1 : 0 ≤ a2.toInt ∧ a2.toInt ≤ 2147483647) (h181 : f 181 = some (.inr (9, (.int 0 :: .ref 182 :: .ref 183 :: .ref 184 :: .ref 185 :: .int 0 :: .int 0 :: .int 0 :: .ref 186 :: .int 0 :: .int 0 :: .int 0 :: .int (-1) :: .ref 187 :: .ref 188 :: .ref 189 :: .int 0 :: .ref 190 :: .ref 191 :: .ref 192 :: .ref 193 :: .ref 194 :: .int 0 :: .ref 195 :: .ref 196 :: .ref 197 :: .int 0 :: .ref 198 :: .ref 199 :: .ref 200 :: .ref 201 :: .ref 202 :: .ref 203 :: .int 0 :: .ref 204 :: .ref 205 :: .ref 206 :: .ref 207 :: .ref 208 :: .ref 209 :: .ref 210 :: .ref 211 :: .ref 212 :: .ref 213 :: .ref 214 :: .int 0 :: .ref 215 :: .ref 216 :: .int 0 :: .ref 217 :: .ref 218 :: .ref 219 :: .ref 220 :: .ref 221 :: .int 0 :: .int 0 :: .int 0 :: .int 0 :: .ref 222 :: .int 0 :: [])))) (h183 : f 183 = some (.inl (0, 4347, .inl (fun _ => 0)))) (h182 : f 182 = some (.inl (0, 4347, .inl (tl (upd (upd (fun _ => 0) 2 (-1)) 4 1) 40)))) : AM X l yX9_swap cX9_swap 3 (some .int) 6 0 0 [.ref 181, .int a1, .int a2] f n (EXO f [(183, .inl (0, 4347, .inl (cpy (tl (upd (upd (fun _ => 0) 2 (-1)) 4 1) 40) (fun _ => 0) 4347))), (182, .inl (0, 4347, .inl (cpy (cpy (tl (upd (upd (fun _ => 0) 2 (-1)) 4 1) 40) (fun _ => 0) 4347) (tl (upd (upd (fun _ => 0) 2 (-1)) 4 1) 40) 4347))), (181, .inr (9, (.int 1 :: .ref 182 :: .ref 183 :: .ref 184 :: .ref 185 :: .int 0 :: .int 0 :: .int 1 :: .ref 186 :: .int 0 :: .int 0 :: .int 0 :: .int (-1) :: .ref 187 :: .ref 188 :: .ref 189 :: .int 0 :: .ref 190 :: .ref 191 :: .ref 192 :: .ref 193 :: .ref 194 :: .int 0 :: .ref 195 :: .ref 196 :: .ref 197 :: .int 0 :: .ref 198 :: .ref 199 :: .ref 200 :: .ref 201 :: .ref 202 :: .ref 203 :: .int 0 :: .ref 204 :: .ref 205 :: .ref 206 :: .ref 207 :: .ref 208 :: .ref 209 :: .ref 210 :: .ref 211 :: .ref 212 :: .ref 213 :: .ref 214 :: .int 0 :: .ref 215 :: .ref 216 :: .int 0 :: .ref 217 :: .ref 218 :: .ref 219 :: .ref 220 :: .ref 221 :: .int 0 :: .int 0 :: .int 0 :: .int 0 :: .ref 222 :: .int 0 :: [])))] (some (.int 0)) n) := by
  refine AM.of (by decide +kernel) rfl (Nat.le_of_ble_eq_true rfl) (fun p e s m args below meth c C hnm => ?_)
  refine ao_start ?_
  refine aw_nl [some (.ref 181), some (.int a1), some (.int a2)] rfl ?_
  obtain ⟨q0a, q0b⟩ := q0
  obtain ⟨q1a, q1b⟩ := q1
  refine aw_ald_n C dX9_swap_0 rfl ?_
  refine ao_callV C (ci := 9) (b := 181) [] [(183, .inl (0, 4347, .inl (cpy (tl (upd (upd (fun _ => 0) 2 (-1)) 4 1) 40) (fun _ => 0) 4347)))] mv_X9_420 rfl rfl h181 (c_X9_putsAside_173 h181 h183 h182) rfl dX9_swap_1 (Nat.le_of_ble_eq_true rfl) (Nat.le_of_ble_eq_true rfl) rfl (Nat.le_of_ble_eq_true rfl) (Nat.le_of_ble_eq_true rfl) (Nat.le_of_ble_eq_true rfl) rfl ?_
  refine aw_ald_n C dX9_swap_4 rfl ?_
  refine aw_ald_n C dX9_swap_5 rfl ?_
  refine aw_iload_n C dX9_swap_6 rfl ?_
  refine aw_iload_n C dX9_swap_7 rfl ?_
  refine ao_callV C (ci := 9) (b := 181) [.int a1, .int a2] [(183, .inl (0, 4347, .inl (cpy (tl (upd (upd (fun _ => 0) 2 (-1)) 4 1) 40) (fun _ => 0) 4347)))] mv_X9_364 rfl rfl h181 (c_X9_swap0_500 ⟨by omega, by omega⟩ ⟨by omega, by omega⟩ h181) rfl dX9_swap_8 (Nat.le_of_ble_eq_true rfl) (Nat.le_of_ble_eq_true rfl) rfl (Nat.le_of_ble_eq_true rfl) (Nat.le_of_ble_eq_true rfl) (Nat.le_of_ble_eq_true rfl) rfl ?_
  refine aw_iconst C 1 dX9_swap_11 ki_1 ?_
  refine ao_callV C (ci := 9) (b := 181) [.int 1, .int 1] [(183, .inl (0, 4347, .inl (cpy (tl (upd (upd (fun _ => 0) 2 (-1)) 4 1) 40) (fun _ => 0) 4347))), (182, .inl (0, 4347, .inl (cpy (cpy (tl (upd (upd (fun _ => 0) 2 (-1)) 4 1) 40) (fun _ => 0) 4347) (tl (upd (upd (fun _ => 0) 2 (-1)) 4 1) 40) 4347))), (181, .inr (9, (.int 1 :: .ref 182 :: .ref 183 :: .ref 184 :: .ref 185 :: .int 0 :: .int 0 :: .int 1 :: .ref 186 :: .int 0 :: .int 0 :: .int 0 :: .int (-1) :: .ref 187 :: .ref 188 :: .ref 189 :: .int 0 :: .ref 190 :: .ref 191 :: .ref 192 :: .ref 193 :: .ref 194 :: .int 0 :: .ref 195 :: .ref 196 :: .ref 197 :: .int 0 :: .ref 198 :: .ref 199 :: .ref 200 :: .ref 201 :: .ref 202 :: .ref 203 :: .int 0 :: .ref 204 :: .ref 205 :: .ref 206 :: .ref 207 :: .ref 208 :: .ref 209 :: .ref 210 :: .ref 211 :: .ref 212 :: .ref 213 :: .ref 214 :: .int 0 :: .ref 215 :: .ref 216 :: .int 0 :: .ref 217 :: .ref 218 :: .ref 219 :: .ref 220 :: .ref 221 :: .int 0 :: .int 0 :: .int 0 :: .int 0 :: .ref 222 :: .int 0 :: [])))] mv_X9_429 rfl rfl h181 (c_X9_isDone_469 h181 h182 rfl) rfl dX9_swap_12 (Nat.le_of_ble_eq_true rfl) (Nat.le_of_ble_eq_true rfl) rfl (Nat.le_of_ble_eq_true rfl) (Nat.le_of_ble_eq_true rfl) (Nat.le_of_ble_eq_true rfl) rfl ?_
  refine aw_if_eq C 25 dX9_swap_15 (by decide) (fun _ => ?_) (fun q => absurd (by decide) q)
  refine aw_iconst C 0 dX9_swap_25 ki_0 ?_
  exact aw_iret C rfl rfl dX9_swap_26 (Nat.le_of_ble_eq_true rfl) (Nat.le_of_ble_eq_true rfl) ⟨rfl, rfl, rfl⟩

set_option maxHeartbeats 4000000 in
set_option maxRecDepth 100000 in
theorem c_X8_swapPieces_502 {X : GX} {l : Launch} {f : AH} {n : Nat} {a1 : Int32} {a2 : Int32} (q0 : 0 ≤ a1.toInt ∧ a1.toInt ≤ 2147483647) (q1 : (-2147483648) ≤ a2.toInt ∧ a2.toInt ≤ (-1)) (h0 : f 0 = some (.inr (8, [.ref 1, .ref 3, .ref 8, .ref 13, .ref 18, .ref 59, .ref 115, .ref 171, .ref 178, .int 0, .int 0, .int 0, .int 0, .int (-1)]))) (h59 : f 59 = some (.inr (1, [.ref 60, .ref 62, .ref 74, .int 0, .ref 68, .ref 71, .ref 64, .ref 66]))) : AM X l yX8_swapPieces cX8_swapPieces 7 (some .int) 1 0 0 [.ref 0, .int a1, .int a2] f n (EXO f [] (some (.int 1)) n) := by
  refine AM.of (by decide +kernel) rfl (Nat.le_of_ble_eq_true rfl) (fun p e s m args below meth c C hnm => ?_)
  refine ao_start ?_
  refine aw_nl [some (.ref 0), some (.int a1), some (.int a2), none, none, none, none] rfl ?_
  obtain ⟨q0a, q0b⟩ := q0
  obtain ⟨q1a, q1b⟩ := q1
  refine aw_ald_n C dX8_swapPieces_0 rfl ?_
  refine aw_get C gf_X8_38 h0 rfl dX8_swapPieces_1 ?_
  refine aw_iload_n C dX8_swapPieces_4 rfl ?_
  refine ao_callV C (ci := 1) (b := 59) [.int a1] [] mv_X8_241 rfl rfl h59 (c_X1_get_451 ⟨by omega, by omega⟩ h59) rfl dX8_swapPieces_5 (Nat.le_of_ble_eq_true rfl) (Nat.le_of_ble_eq_true rfl) rfl (Nat.le_of_ble_eq_true rfl) (Nat.le_of_ble_eq_true rfl) (Nat.le_of_ble_eq_true rfl) rfl ?_
  refine aw_astore_n C dX8_swapPieces_8 (by decide) rfl (Or.inl rfl) ?_
  refine aw_nl [some (.ref 0), some (.int a1), some (.int a2), some (.null), none, none, none] rfl ?_
  refine aw_ald_n C dX8_swapPieces_9 rfl ?_
  refine aw_get C gf_X8_38 h0 rfl dX8_swapPieces_10 ?_
  refine aw_iload_n C dX8_swapPieces_13 rfl ?_
  refine ao_callV C (ci := 1) (b := 59) [.int a2] [] mv_X8_241 rfl rfl h59 (c_X1_get_434 ⟨by omega, by omega⟩) rfl dX8_swapPieces_14 (Nat.le_of_ble_eq_true rfl) (Nat.le_of_ble_eq_true rfl) rfl (Nat.le_of_ble_eq_true rfl) (Nat.le_of_ble_eq_true rfl) (Nat.le_of_ble_eq_true rfl) rfl ?_
  refine aw_astore C dX8_swapPieces_17 (by decide) rfl (Or.inl rfl) ?_
  refine aw_nl [some (.ref 0), some (.int a1), some (.int a2), some (.null), some (.null), none, none] rfl ?_
  refine aw_aload_n C dX8_swapPieces_19 rfl (Or.inl rfl) ?_
  refine aw_ifnull_n C 28 dX8_swapPieces_20 (by decide) ?_
  refine aw_iconst C 1 dX8_swapPieces_28 ki_1 ?_
  exact aw_iret C rfl rfl dX8_swapPieces_29 (Nat.le_of_ble_eq_true rfl) (Nat.le_of_ble_eq_true rfl) ⟨rfl, rfl, rfl⟩

set_option maxHeartbeats 4000000 in
set_option maxRecDepth 100000 in
theorem c_X8_doAct_503 {X : GX} {l : Launch} {f : AH} {n : Nat} {a2 : Int32} {a3 : Int32} (q0 : 0 ≤ a2.toInt ∧ a2.toInt ≤ 2147483647) (q1 : (-2147483648) ≤ a3.toInt ∧ a3.toInt ≤ (-1)) (h0 : f 0 = some (.inr (8, [.ref 1, .ref 3, .ref 8, .ref 13, .ref 18, .ref 59, .ref 115, .ref 171, .ref 178, .int 0, .int 0, .int 0, .int 0, .int (-1)]))) (h59 : f 59 = some (.inr (1, [.ref 60, .ref 62, .ref 74, .int 0, .ref 68, .ref 71, .ref 64, .ref 66]))) : AM X l yX8_doAct cX8_doAct 6 (some .int) 2 0 0 [.ref 0, .int 10, .int a2, .int a3, .null] f n (EXO f [(0, .inr (8, [.ref 1, .ref 3, .ref 8, .ref 13, .ref 18, .ref 59, .ref 115, .ref 171, .ref 178, .int 0, .int 0, .int 0, .int 0, .int (-1)]))] (some (.int 1)) n) := by
  refine AM.of (by decide +kernel) rfl (Nat.le_of_ble_eq_true rfl) (fun p e s m args below meth c C hnm => ?_)
  refine ao_start ?_
  refine aw_nl [some (.ref 0), some (.int 10), some (.int a2), some (.int a3), some (.null), none] rfl ?_
  obtain ⟨q0a, q0b⟩ := q0
  obtain ⟨q1a, q1b⟩ := q1
  refine aw_ald_n C dX8_doAct_0 rfl ?_
  refine aw_iconst C 0 dX8_doAct_1 ki_0 ?_
  refine ao_put C [(0, .inr (8, [.ref 1, .ref 3, .ref 8, .ref 13, .ref 18, .ref 59, .ref 115, .ref 171, .ref 178, .int 0, .int 0, .int 0, .int 0, .int (-1)]))] gf_X8_334 cf8 nf8_10 h0 (Nat.le_of_ble_eq_true rfl) (by decide) (by decide) dX8_doAct_2 rfl ?_
  refine aw_iload_n C dX8_doAct_5 rfl ?_
  refine aw_tabIn C (off := 191) 197 dX8_doAct_6 (by decide) (by decide) (by decide) (by decide) ?_
  refine aw_ald_n C dX8_doAct_197 rfl ?_
  refine aw_iload_n C dX8_doAct_198 rfl ?_
  refine aw_iload_n C dX8_doAct_199 rfl ?_
  refine ao_callV C (ci := 8) (b := 0) [.int a2, .int a3] [(0, .inr (8, [.ref 1, .ref 3, .ref 8, .ref 13, .ref 18, .ref 59, .ref 115, .ref 171, .ref 178, .int 0, .int 0, .int 0, .int 0, .int (-1)]))] mv_X8_347 rfl rfl rfl (c_X8_swapPieces_502 ⟨by omega, by omega⟩ ⟨by omega, by omega⟩ rfl h59) rfl dX8_doAct_200 (Nat.le_of_ble_eq_true rfl) (Nat.le_of_ble_eq_true rfl) rfl (Nat.le_of_ble_eq_true rfl) (Nat.le_of_ble_eq_true rfl) (Nat.le_of_ble_eq_true rfl) rfl ?_
  exact aw_iret C rfl rfl dX8_doAct_203 (Nat.le_of_ble_eq_true rfl) (Nat.le_of_ble_eq_true rfl) ⟨rfl, rfl, rfl⟩

set_option maxHeartbeats 4000000 in
set_option maxRecDepth 100000 in
theorem c_X8_swap_504 {X : GX} {l : Launch} {f : AH} {n : Nat} {a1 : Int32} {a2 : Int32} (hl0 : l.stackTraces = false) (q0 : 0 ≤ a1.toInt ∧ a1.toInt ≤ 2147483647) (q1 : (-2147483648) ≤ a2.toInt ∧ a2.toInt ≤ (-1)) (h0 : f 0 = some (.inr (8, [.ref 1, .ref 3, .ref 8, .ref 13, .ref 18, .ref 59, .ref 115, .ref 171, .ref 178, .int 0, .int 0, .int 0, .int 0, .int (-1)]))) (h3 : f 3 = some (.inr (7, [.ref 4, .int 0, .int (-1), .int 0, .int 1, .int 0, .null, .int 0, .ref 6, .ref 7]))) (h8 : f 8 = some (.inr (7, [.ref 9, .int 0, .int (-1), .int 0, .int 1, .int 0, .null, .int 0, .ref 11, .ref 12]))) (h11 : f 11 = some (.inl (2, 4, .inr (.inr (fun _ => none))))) (h6 : f 6 = some (.inl (2, 4, .inr (.inr (fun _ => none))))) (h12 : f 12 = some (.inl (2, 40, .inr (.inr (fun _ => none))))) (h7 : f 7 = some (.inl (2, 40, .inr (.inr (fun _ => none))))) (h59 : f 59 = some (.inr (1, [.ref 60, .ref 62, .ref 74, .int 0, .ref 68, .ref 71, .ref 64, .ref 66]))) : AX X l yX8_swap cX8_swap 3 (some .int) 7 1 6 [.ref 0, .int a1, .int a2] f n (fun _ _ _ => False) (TXO eS f [(8, .inr (7, [.ref 4, .int 0, .int (-1), .int 0, .int 1, .int 0, .null, .int 0, .ref 11, .ref 12])), (0, .inr (8, [.ref 1, .ref 3, .ref 8, .ref 13, .ref 18, .ref 59, .ref 115, .ref 171, .ref 178, .int 0, .int 0, .int 0, .int 1, .int (-1)]))] n) := by
  refine AX.of (by decide +kernel) rfl (Nat.le_of_ble_eq_true rfl) (fun p e s m args below meth c C htab => ?_)
  refine ao_start ?_
  refine aw_nl [some (.ref 0), some (.int a1), some (.int a2)] rfl ?_
  obtain ⟨q0a, q0b⟩ := q0
  obtain ⟨q1a, q1b⟩ := q1
  refine aw_ald_n C dX8_swap_0 rfl ?_
  refine aw_get C gf_X8_25 h0 rfl dX8_swap_1 ?_
  refine aw_ald_n C dX8_swap_4 rfl ?_
  refine aw_get C gf_X8_21 h0 rfl dX8_swap_5 ?_
  refine ao_callV C (ci := 7) (b := 8) [.ref 3] [(8, .inr (7, [.ref 4, .int 0, .int (-1), .int 0, .int 1, .int 0, .null, .int 0, .ref 11, .ref 12]))] mv_X8_73 rfl rfl h8 (c_X7_copyFrom_168 h3 h8 h11 h6 h12 h7) rfl dX8_swap_8 (Nat.le_of_ble_eq_true rfl) (Nat.le_of_ble_eq_true rfl) rfl (Nat.le_of_ble_eq_true rfl) (Nat.le_of_ble_eq_true rfl) (Nat.le_of_ble_eq_true rfl) rfl ?_
  refine aw_ald_n C dX8_swap_11 rfl ?_
  refine aw_ald_n C dX8_swap_12 rfl ?_
  refine aw_bipush C 10 dX8_swap_13 kb_10 ?_
  refine aw_iload_n C dX8_swap_15 rfl ?_
  refine aw_iload_n C dX8_swap_16 rfl ?_
  refine aw_null C dX8_swap_17 ?_
  refine ao_callV C (ci := 8) (b := 0) [.int 10, .int a1, .int a2, .null] [(8, .inr (7, [.ref 4, .int 0, .int (-1), .int 0, .int 1, .int 0, .null, .int 0, .ref 11, .ref 12])), (0, .inr (8, [.ref 1, .ref 3, .ref 8, .ref 13, .ref 18, .ref 59, .ref 115, .ref 171, .ref 178, .int 0, .int 0, .int 0, .int 0, .int (-1)]))] mv_X8_103 rfl rfl h0 (c_X8_doAct_503 ⟨by omega, by omega⟩ ⟨by omega, by omega⟩ h0 h59) rfl dX8_swap_18 (Nat.le_of_ble_eq_true rfl) (Nat.le_of_ble_eq_true rfl) rfl (Nat.le_of_ble_eq_true rfl) (Nat.le_of_ble_eq_true rfl) (Nat.le_of_ble_eq_true rfl) rfl ?_
  refine ax_callV C (ci := 8) (b := 0) [.int 1] mv_X8_139 rfl rfl rfl (c_X8_finishCall_437 hl0 rfl) rfl dX8_swap_21 (Nat.le_of_ble_eq_true rfl) (Nat.le_of_ble_eq_true rfl) rfl (Nat.le_of_ble_eq_true rfl) (Nat.le_of_ble_eq_true rfl) (Nat.le_of_ble_eq_true rfl) (fun E9 f9 n9 h9 => ?_) (fun _ _ _ h9 => h9.elim)
  obtain ⟨rfl, rfl, h9⟩ := h9
  refine at_flat [(8, .inr (7, [.ref 4, .int 0, .int (-1), .int 0, .int 1, .int 0, .null, .int 0, .ref 11, .ref 12])), (0, .inr (8, [.ref 1, .ref 3, .ref 8, .ref 13, .ref 18, .ref 59, .ref 115, .ref 171, .ref 178, .int 0, .int 0, .int 0, .int 1, .int (-1)]))] rfl ?_
  exact at_out C htab ⟨rfl, rfl, h9⟩ (Nat.le_of_ble_eq_true rfl) (Nat.le_of_ble_eq_true rfl)

set_option maxHeartbeats 4000000 in
set_option maxRecDepth 100000 in
theorem c_L_swap_505 {X : GX} {l : Launch} {f : AH} {n : Nat} {a1 : Int32} {a2 : Int32} (hl0 : l.stackTraces = false) (q0 : 0 ≤ a1.toInt ∧ a1.toInt ≤ 2147483647) (q1 : (-2147483648) ≤ a2.toInt ∧ a2.toInt ≤ (-1)) (h0 : f 0 = some (.inr (8, [.ref 1, .ref 3, .ref 8, .ref 13, .ref 18, .ref 59, .ref 115, .ref 171, .ref 178, .int 0, .int 0, .int 0, .int 0, .int (-1)]))) (h3 : f 3 = some (.inr (7, [.ref 4, .int 0, .int (-1), .int 0, .int 1, .int 0, .null, .int 0, .ref 6, .ref 7]))) (h8 : f 8 = some (.inr (7, [.ref 9, .int 0, .int (-1), .int 0, .int 1, .int 0, .null, .int 0, .ref 11, .ref 12]))) (h11 : f 11 = some (.inl (2, 4, .inr (.inr (fun _ => none))))) (h6 : f 6 = some (.inl (2, 4, .inr (.inr (fun _ => none))))) (h12 : f 12 = some (.inl (2, 40, .inr (.inr (fun _ => none))))) (h7 : f 7 = some (.inl (2, 40, .inr (.inr (fun _ => none))))) (h59 : f 59 = some (.inr (1, [.ref 60, .ref 62, .ref 74, .int 0, .ref 68, .ref 71, .ref 64, .ref 66]))) : AMW X l yL_swap cL_swap 5 (some .int) [(0, 10, 13, 28)] 8 1 6 [.ref 0, .int a1, .int a2, .ref 223] f n (EXN f [(0, .inr (8, [.ref 1, .ref 3, .ref 8, .ref 13, .ref 18, .ref 59, .ref 115, .ref 171, .ref 178, .int 0, .int 0, .int 0, .int 1, .int (-1)])), (8, .inr (7, [.ref 4, .int 0, .int (-1), .int 0, .int 1, .int 0, .null, .int 0, .ref 11, .ref 12]))] (some (.int 1))) := by
  refine AMW.of (by decide +kernel) rfl (Nat.le_of_ble_eq_true rfl) (fun p e s m args below meth c C htab => ?_)
  refine ao_start ?_
  refine aw_nl [some (.ref 0), some (.int a1), some (.int a2), some (.ref 223), none] rfl ?_
  obtain ⟨q0a, q0b⟩ := q0
  obtain ⟨q1a, q1b⟩ := q1
  refine aw_ald_n C dL_swap_0 rfl ?_
  refine aw_iconst C 0 dL_swap_1 ki_0 ?_
  refine aw_ald_n C dL_swap_2 rfl ?_
  refine aw_iload_n C dL_swap_3 rfl ?_
  refine aw_iload_n C dL_swap_4 rfl ?_
  refine ax_callV C (ci := 8) (b := 0) [.int a1, .int a2] mv_L_40 rfl rfl h0 (c_X8_swap_504 hl0 ⟨by omega, by omega⟩ ⟨by omega, by omega⟩ h0 h3 h8 h11 h6 h12 h7 h59) rfl dL_swap_5 (Nat.le_of_ble_eq_true rfl) (Nat.le_of_ble_eq_true rfl) rfl (Nat.le_of_ble_eq_true rfl) (Nat.le_of_ble_eq_true rfl) (Nat.le_of_ble_eq_true rfl) (fun E9 f9 n9 h9 => ?_) (fun _ _ _ h9 => h9.elim)
  obtain ⟨rfl, rfl, h9⟩ := h9
  refine at_flat [(0, .inr (8, [.ref 1, .ref 3, .ref 8, .ref 13, .ref 18, .ref 59, .ref 115, .ref 171, .ref 178, .int 0, .int 0, .int 0, .int 1, .int (-1)])), (8, .inr (7, [.ref 4, .int 0, .int (-1), .int 0, .int 1, .int 0, .null, .int 0, .ref 11, .ref 12]))] rfl ?_
  refine at_catch C htab [] ⟨0, 10, 13, 28⟩ [] rfl (fun z hz => nomatch hz) (by decide) (by decide) cl_L_28 (by decide) (ah_astore C dL_swap_13 (by decide) rfl ?_)
  refine aw_nl [some (.ref 0), some (.int a1), some (.int a2), some (.ref 223), none] rfl ?_
  refine aw_iconst C 1 dL_swap_15 ki_1 ?_
  exact aw_iret C rfl rfl dL_swap_16 (Nat.le_of_ble_eq_true rfl) (Nat.le_of_ble_eq_true rfl) ⟨rfl, rfl⟩

set_option maxHeartbeats 4000000 in
set_option maxRecDepth 100000 in
theorem c_X9_swap0_506 {X : GX} {l : Launch} {f : AH} {n : Nat} {a1 : Int32} {a2 : Int32} (q0 : 0 ≤ a1.toInt ∧ a1.toInt ≤ 2147483647) (q1 : (-2147483648) ≤ a2.toInt ∧ a2.toInt ≤ (-1)) (h181 : f 181 = some (.inr (9, (.int 0 :: .ref 182 :: .ref 183 :: .ref 184 :: .ref 185 :: .int 0 :: .int 0 :: .int 0 :: .ref 186 :: .int 0 :: .int 0 :: .int 0 :: .int (-1) :: .ref 187 :: .ref 188 :: .ref 189 :: .int 0 :: .ref 190 :: .ref 191 :: .ref 192 :: .ref 193 :: .ref 194 :: .int 0 :: .ref 195 :: .ref 196 :: .ref 197 :: .int 0 :: .ref 198 :: .ref 199 :: .ref 200 :: .ref 201 :: .ref 202 :: .ref 203 :: .int 0 :: .ref 204 :: .ref 205 :: .ref 206 :: .ref 207 :: .ref 208 :: .ref 209 :: .ref 210 :: .ref 211 :: .ref 212 :: .ref 213 :: .ref 214 :: .int 0 :: .ref 215 :: .ref 216 :: .int 0 :: .ref 217 :: .ref 218 :: .ref 219 :: .ref 220 :: .ref 221 :: .int 0 :: .int 0 :: .int 0 :: .int 0 :: .ref 222 :: .int 0 :: [])))) : AM X l yX9_swap0 cX9_swap0 6 (some .int) 2 0 0 [.ref 181, .int a1, .int a2] f n (EXO f [] (some (.int 1)) n) := by
  refine AM.of (by decide +kernel) rfl (Nat.le_of_ble_eq_true rfl) (fun p e s m args below meth c C hnm => ?_)
  refine ao_start ?_
  refine aw_nl [some (.ref 181), some (.int a1), some (.int a2), none, none, none] rfl ?_
  obtain ⟨q0a, q0b⟩ := q0
  obtain ⟨q1a, q1b⟩ := q1
  refine aw_ald_n C dX9_swap0_0 rfl ?_
  refine aw_iload_n C dX9_swap0_1 rfl ?_
  refine ao_callV C (ci := 9) (b := 181) [.int a1] [] mv_X9_293 rfl rfl h181 (c_X9_isPieceThere_457 ⟨by omega, by omega⟩ h181) rfl dX9_swap0_2 (Nat.le_of_ble_eq_true rfl) (Nat.le_of_ble_eq_true rfl) rfl (Nat.le_of_ble_eq_true rfl) (Nat.le_of_ble_eq_true rfl) (Nat.le_of_ble_eq_true rfl) rfl ?_
  refine aw_if_eq C 16 dX9_swap0_5 (by decide) (fun _ => ?_) (fun q => absurd (by decide) q)
  refine aw_iconst C 1 dX9_swap0_16 ki_1 ?_
  exact aw_iret C rfl rfl dX9_swap0_17 (Nat.le_of_ble_eq_true rfl) (Nat.le_of_ble_eq_true rfl) ⟨rfl, rfl, rfl⟩

set_option maxHeartbeats 4000000 in
set_option maxRecDepth 100000 in
theorem c_X9_swap_507 {X : GX} {l : Launch} {f : AH} {n : Nat} {a1 : Int32} {a2 : Int32} (q0 : 0 ≤ a1.toInt ∧ a1.toInt ≤ 2147483647) (q1 : (-2147483648) ≤ a2.toInt ∧ a2.toInt ≤ (-1)) (h181 : f 181 = some (.inr (9, (.int 0 :: .ref 182 :: .ref 183 :: .ref 184 :: .ref 185 :: .int 0 :: .int 0 :: .int 0 :: .ref 186 :: .int 0 :: .int 0 :: .int 0 :: .int (-1) :: .ref 187 :: .ref 188 :: .ref 189 :: .int 0 :: .ref 190 :: .ref 191 :: .ref 192 :: .ref 193 :: .ref 194 :: .int 0 :: .ref 195 :: .ref 196 :: .ref 197 :: .int 0 :: .ref 198 :: .ref 199 :: .ref 200 :: .ref 201 :: .ref 202 :: .ref 203 :: .int 0 :: .ref 204 :: .ref 205 :: .ref 206 :: .ref 207 :: .ref 208 :: .ref 209 :: .ref 210 :: .ref 211 :: .ref 212 :: .ref 213 :: .ref 214 :: .int 0 :: .ref 215 :: .ref 216 :: .int 0 :: .ref 217 :: .ref 218 :: .ref 219 :: .ref 220 :: .ref 221 :: .int 0 :: .int 0 :: .int 0 :: .int 0 :: .ref 222 :: .int 0 :: [])))) (h183 : f 183 = some (.inl (0, 4347, .inl (fun _ => 0)))) (h182 : f 182 = some (.inl (0, 4347, .inl (tl (upd (upd (fun _ => 0) 2 (-1)) 4 1) 40)))) : AM X l yX9_swap cX9_swap 3 (some .int) 6 0 0 [.ref 181, .int a1, .int a2] f n (EXO f [(183, .inl (0, 4347, .inl (cpy (tl (upd (upd (fun _ => 0) 2 (-1)) 4 1) 40) (fun _ => 0) 4347))), (182, .inl (0, 4347, .inl (cpy (cpy (tl (upd (upd (fun _ => 0) 2 (-1)) 4 1) 40) (fun _ => 0) 4347) (tl (upd (upd (fun _ => 0) 2 (-1)) 4 1) 40) 4347))), (181, .inr (9, (.int 1 :: .ref 182 :: .ref 183 :: .ref 184 :: .ref 185 :: .int 0 :: .int 0 :: .int 1 :: .ref 186 :: .int 0 :: .int 0 :: .int 0 :: .int (-1) :: .ref 187 :: .ref 188 :: .ref 189 :: .int 0 :: .ref 190 :: .ref 191 :: .ref 192 :: .ref 193 :: .ref 194 :: .int 0 :: .ref 195 :: .ref 196 :: .ref 197 :: .int 0 :: .ref 198 :: .ref 199 :: .ref 200 :: .ref 201 :: .ref 202 :: .ref 203 :: .int 0 :: .ref 204 :: .ref 205 :: .ref 206 :: .ref 207 :: .ref 208 :: .ref 209 :: .ref 210 :: .ref 211 :: .ref 212 :: .ref 213 :: .ref 214 :: .int 0 :: .ref 215 :: .ref 216 :: .int 0 :: .ref 217 :: .ref 218 :: .ref 219 :: .ref 220 :: .ref 221 :: .int 0 :: .int 0 :: .int 0 :: .int 0 :: .ref 222 :: .int 0 :: [])))] (some (.int 0)) n) := by
  refine AM.of (by decide +kernel) rfl (Nat.le_of_ble_eq_true rfl) (fun p e s m args below meth c C hnm => ?_)
  refine ao_start ?_
  refine aw_nl [some (.ref 181), some (.int a1), some (.int a2)] rfl ?_
  obtain ⟨q0a, q0b⟩ := q0
  obtain ⟨q1a, q1b⟩ := q1
  refine aw_ald_n C dX9_swap_0 rfl ?_
  refine ao_callV C (ci := 9) (b := 181) [] [(183, .inl (0, 4347, .inl (cpy (tl (upd (upd (fun _ => 0) 2 (-1)) 4 1) 40) (fun _ => 0) 4347)))] mv_X9_420 rfl rfl h181 (c_X9_putsAside_173 h181 h183 h182) rfl dX9_swap_1 (Nat.le_of_ble_eq_true rfl) (Nat.le_of_ble_eq_true rfl) rfl (Nat.le_of_ble_eq_true rfl) (Nat.le_of_ble_eq_true rfl) (Nat.le_of_ble_eq_true rfl) rfl ?_
  refine aw_ald_n C dX9_swap_4 rfl ?_
  refine aw_ald_n C dX9_swap_5 rfl ?_
  refine aw_iload_n C dX9_swap_6 rfl ?_
  refine aw_iload_n C dX9_swap_7 rfl ?_
  refine ao_callV C (ci := 9) (b := 181) [.int a1, .int a2] [(183, .inl (0, 4347, .inl (cpy (tl (upd (upd (fun _ => 0) 2 (-1)) 4 1) 40) (fun _ => 0) 4347)))] mv_X9_364 rfl rfl h181 (c_X9_swap0_506 ⟨by omega, by omega⟩ ⟨by omega, by omega⟩ h181) rfl dX9_swap_8 (Nat.le_of_ble_eq_true rfl) (Nat.le_of_ble_eq_true rfl) rfl (Nat.le_of_ble_eq_true rfl) (Nat.le_of_ble_eq_true rfl) (Nat.le_of_ble_eq_true rfl) rfl ?_
  refine aw_iconst C 1 dX9_swap_11 ki_1 ?_
  refine ao_callV C (ci := 9) (b := 181) [.int 1, .int 1] [(183, .inl (0, 4347, .inl (cpy (tl (upd (upd (fun _ => 0) 2 (-1)) 4 1) 40) (fun _ => 0) 4347))), (182, .inl (0, 4347, .inl (cpy (cpy (tl (upd (upd (fun _ => 0) 2 (-1)) 4 1) 40) (fun _ => 0) 4347) (tl (upd (upd (fun _ => 0) 2 (-1)) 4 1) 40) 4347))), (181, .inr (9, (.int 1 :: .ref 182 :: .ref 183 :: .ref 184 :: .ref 185 :: .int 0 :: .int 0 :: .int 1 :: .ref 186 :: .int 0 :: .int 0 :: .int 0 :: .int (-1) :: .ref 187 :: .ref 188 :: .ref 189 :: .int 0 :: .ref 190 :: .ref 191 :: .ref 192 :: .ref 193 :: .ref 194 :: .int 0 :: .ref 195 :: .ref 196 :: .ref 197 :: .int 0 :: .ref 198 :: .ref 199 :: .ref 200 :: .ref 201 :: .ref 202 :: .ref 203 :: .int 0 :: .ref 204 :: .ref 205 :: .ref 206 :: .ref 207 :: .ref 208 :: .ref 209 :: .ref 210 :: .ref 211 :: .ref 212 :: .ref 213 :: .ref 214 :: .int 0 :: .ref 215 :: .ref 216 :: .int 0 :: .ref 217 :: .ref 218 :: .ref 219 :: .ref 220 :: .ref 221 :: .int 0 :: .int 0 :: .int 0 :: .int 0 :: .ref 222 :: .int 0 :: [])))] mv_X9_429 rfl rfl h181 (c_X9_isDone_469 h181 h182 rfl) rfl dX9_swap_12 (Nat.le_of_ble_eq_true rfl) (Nat.le_of_ble_eq_true rfl) rfl (Nat.le_of_ble_eq_true rfl) (Nat.le_of_ble_eq_true rfl) (Nat.le_of_ble_eq_true rfl) rfl ?_
  refine aw_if_eq C 25 dX9_swap_15 (by decide) (fun _ => ?_) (fun q => absurd (by decide) q)
  refine aw_iconst C 0 dX9_swap_25 ki_0 ?_
  exact aw_iret C rfl rfl dX9_swap_26 (Nat.le_of_ble_eq_true rfl) (Nat.le_of_ble_eq_true rfl) ⟨rfl, rfl, rfl⟩

set_option maxHeartbeats 4000000 in
set_option maxRecDepth 100000 in
theorem c_X8_swapPieces_508 {X : GX} {l : Launch} {f : AH} {n : Nat} {a1 : Int32} {a2 : Int32} (q0 : 0 ≤ a1.toInt ∧ a1.toInt ≤ 2147483647) (q1 : 0 ≤ a2.toInt ∧ a2.toInt ≤ 2147483647) (h0 : f 0 = some (.inr (8, [.ref 1, .ref 3, .ref 8, .ref 13, .ref 18, .ref 59, .ref 115, .ref 171, .ref 178, .int 0, .int 0, .int 0, .int 0, .int (-1)]))) (h59 : f 59 = some (.inr (1, [.ref 60, .ref 62, .ref 74, .int 0, .ref 68, .ref 71, .ref 64, .ref 66]))) : AM X l yX8_swapPieces cX8_swapPieces 7 (some .int) 1 0 0 [.ref 0, .int a1, .int a2] f n (EXO f [] (some (.int 1)) n) := by
  refine AM.of (by decide +kernel) rfl (Nat.le_of_ble_eq_true rfl) (fun p e s m args below meth c C hnm => ?_)
  refine ao_start ?_
  refine aw_nl [some (.ref 0), some (.int a1), some (.int a2), none, none, none, none] rfl ?_
  obtain ⟨q0a, q0b⟩ := q0
  obtain ⟨q1a, q1b⟩ := q1
  refine aw_ald_n C dX8_swapPieces_0 rfl ?_
  refine aw_get C gf_X8_38 h0 rfl dX8_swapPieces_1 ?_
  refine aw_iload_n C dX8_swapPieces_4 rfl ?_
  refine ao_callV C (ci := 1) (b := 59) [.int a1] [] mv_X8_241 rfl rfl h59 (c_X1_get_451 ⟨by omega, by omega⟩ h59) rfl dX8_swapPieces_5 (Nat.le_of_ble_eq_true rfl) (Nat.le_of_ble_eq_true rfl) rfl (Nat.le_of_ble_eq_true rfl) (Nat.le_of_ble_eq_true rfl) (Nat.le_of_ble_eq_true rfl) rfl ?_
  refine aw_astore_n C dX8_swapPieces_8 (by decide) rfl (Or.inl rfl) ?_
  refine aw_nl [some (.ref 0), some (.int a1), some (.int a2), some (.null), none, none, none] rfl ?_
  refine aw_ald_n C dX8_swapPieces_9 rfl ?_
  refine aw_get C gf_X8_38 h0 rfl dX8_swapPieces_10 ?_
  refine aw_iload_n C dX8_swapPieces_13 rfl ?_
  refine ao_callV C (ci := 1) (b := 59) [.int a2] [] mv_X8_241 rfl rfl h59 (c_X1_get_451 ⟨by omega, by omega⟩ h59) rfl dX8_swapPieces_14 (Nat.le_of_ble_eq_true rfl) (Nat.le_of_ble_eq_true rfl) rfl (Nat.le_of_ble_eq_true rfl) (Nat.le_of_ble_eq_true rfl) (Nat.le_of_ble_eq_true rfl) rfl ?_
  refine aw_astore C dX8_swapPieces_17 (by decide) rfl (Or.inl rfl) ?_
  refine aw_nl [some (.ref 0), some (.int a1), some (.int a2), some (.null), some (.null), none, none] rfl ?_
  refine aw_aload_n C dX8_swapPieces_19 rfl (Or.inl rfl) ?_
  refine aw_ifnull_n C 28 dX8_swapPieces_20 (by decide) ?_
  refine aw_iconst C 1 dX8_swapPieces_28 ki_1 ?_
  exact aw_iret C rfl rfl dX8_swapPieces_29 (Nat.le_of_ble_eq_true rfl) (Nat.le_of_ble_eq_true rfl) ⟨rfl, rfl, rfl⟩

set_option maxHeartbeats 4000000 in
set_option maxRecDepth 100000 in
theorem c_X8_doAct_509 {X : GX} {l : Launch} {f : AH} {n : Nat} {a2 : Int32} {a3 : Int32} (q0 : 0 ≤ a2.toInt ∧ a2.toInt ≤ 2147483647) (q1 : 0 ≤ a3.toInt ∧ a3.toInt ≤ 2147483647) (h0 : f 0 = some (.inr (8, [.ref 1, .ref 3, .ref 8, .ref 13, .ref 18, .ref 59, .ref 115, .ref 171, .ref 178, .int 0, .int 0, .int 0, .int 0, .int (-1)]))) (h59 : f 59 = some (.inr (1, [.ref 60, .ref 62, .ref 74, .int 0, .ref 68, .ref 71, .ref 64, .ref 66]))) : AM X l yX8_doAct cX8_doAct 6 (some .int) 2 0 0 [.ref 0, .int 10, .int a2, .int a3, .null] f n (EXO f [(0, .inr (8, [.ref 1, .ref 3, .ref 8, .ref 13, .ref 18, .ref 59, .ref 115, .ref 171, .ref 178, .int 0, .int 0, .int 0, .int 0, .int (-1)]))] (some (.int 1)) n) := by
  refine AM.of (by decide +kernel) rfl (Nat.le_of_ble_eq_true rfl) (fun p e s m args below meth c C hnm => ?_)
  refine ao_start ?_
  refine aw_nl [some (.ref 0), some (.int 10), some (.int a2), some (.int a3), some (.null), none] rfl ?_
  obtain ⟨q0a, q0b⟩ := q0
  obtain ⟨q1a, q1b⟩ := q1
  refine aw_ald_n C dX8_doAct_0 rfl ?_
  refine aw_iconst C 0 dX8_doAct_1 ki_0 ?_
  refine ao_put C [(0, .inr (8, [.ref 1, .ref 3, .ref 8, .ref 13, .ref 18, .ref 59, .ref 115, .ref 171, .ref 178, .int 0, .int 0, .int 0, .int 0, .int (-1)]))] gf_X8_334 cf8 nf8_10 h0 (Nat.le_of_ble_eq_true rfl) (by decide) (by decide) dX8_doAct_2 rfl ?_
  refine aw_iload_n C dX8_doAct_5 rfl ?_
  refine aw_tabIn C (off := 191) 197 dX8_doAct_6 (by decide) (by decide) (by decide) (by decide) ?_
  refine aw_ald_n C dX8_doAct_197 rfl ?_
  refine aw_iload_n C dX8_doAct_198 rfl ?_
  refine aw_iload_n C dX8_doAct_199 rfl ?_
  refine ao_callV C (ci := 8) (b := 0) [.int a2, .int a3] [(0, .inr (8, [.ref 1, .ref 3, .ref 8, .ref 13, .ref 18, .ref 59, .ref 115, .ref 171, .ref 178, .int 0, .int 0, .int 0, .int 0, .int (-1)]))] mv_X8_347 rfl rfl rfl (c_X8_swapPieces_508 ⟨by omega, by omega⟩ ⟨by omega, by omega⟩ rfl h59) rfl dX8_doAct_200 (Nat.le_of_ble_eq_true rfl) (Nat.le_of_ble_eq_true rfl) rfl (Nat.le_of_ble_eq_true rfl) (Nat.le_of_ble_eq_true rfl) (Nat.le_of_ble_eq_true rfl) rfl ?_
  exact aw_iret C rfl rfl dX8_doAct_203 (Nat.le_of_ble_eq_true rfl) (Nat.le_of_ble_eq_true rfl) ⟨rfl, rfl, rfl⟩

set_option maxHeartbeats 4000000 in
set_option maxRecDepth 100000 in
theorem c_X8_swap_510 {X : GX} {l : Launch} {f : AH} {n : Nat} {a1 : Int32} {a2 : Int32} (hl0 : l.stackTraces = false) (q0 : 0 ≤ a1.toInt ∧ a1.toInt ≤ 2147483647) (q1 : 0 ≤ a2.toInt ∧ a2.toInt ≤ 2147483647) (h0 : f 0 = some (.inr (8, [.ref 1, .ref 3, .ref 8, .ref 13, .ref 18, .ref 59, .ref 115, .ref 171, .ref 178, .int 0, .int 0, .int 0, .int 0, .int (-1)]))) (h3 : f 3 = some (.inr (7, [.ref 4, .int 0, .int (-1), .int 0, .int 1, .int 0, .null, .int 0, .ref 6, .ref 7]))) (h8 : f 8 = some (.inr (7, [.ref 9, .int 0, .int (-1), .int 0, .int 1, .int 0, .null, .int 0, .ref 11, .ref 12]))) (h11 : f 11 = some (.inl (2, 4, .inr (.inr (fun _ => none))))) (h6 : f 6 = some (.inl (2, 4, .inr (.inr (fun _ => none))))) (h12 : f 12 = some (.inl (2, 40, .inr (.inr (fun _ => none))))) (h7 : f 7 = some (.inl (2, 40, .inr (.inr (fun _ => none))))) (h59 : f 59 = some (.inr (1, [.ref 60, .ref 62, .ref 74, .int 0, .ref 68, .ref 71, .ref 64, .ref 66]))) : AX X l yX8_swap cX8_swap 3 (some .int) 7 1 6 [.ref 0, .int a1, .int a2] f n (fun _ _ _ => False) (TXO eS f [(8, .inr (7, [.ref 4, .int 0, .int (-1), .int 0, .int 1, .int 0, .null, .int 0, .ref 11, .ref 12])), (0, .inr (8, [.ref 1, .ref 3, .ref 8, .ref 13, .ref 18, .ref 59, .ref 115, .ref 171, .ref 178, .int 0, .int 0, .int 0, .int 1, .int (-1)]))] n) := by
  refine AX.of (by decide +kernel) rfl (Nat.le_of_ble_eq_true rfl) (fun p e s m args below meth c C htab => ?_)
  refine ao_start ?_
  refine aw_nl [some (.ref 0), some (.int a1), some (.int a2)] rfl ?_
  obtain ⟨q0a, q0b⟩ := q0
  obtain ⟨q1a, q1b⟩ := q1
  refine aw_ald_n C dX8_swap_0 rfl ?_
  refine aw_get C gf_X8_25 h0 rfl dX8_swap_1 ?_
  refine aw_ald_n C dX8_swap_4 rfl ?_
  refine aw_get C gf_X8_21 h0 rfl dX8_swap_5 ?_
  refine ao_callV C (ci := 7) (b := 8) [.ref 3] [(8, .inr (7, [.ref 4, .int 0, .int (-1), .int 0, .int 1, .int 0, .null, .int 0, .ref 11, .ref 12]))] mv_X8_73 rfl rfl h8 (c_X7_copyFrom_168 h3 h8 h11 h6 h12 h7) rfl dX8_swap_8 (Nat.le_of_ble_eq_true rfl) (Nat.le_of_ble_eq_true rfl) rfl (Nat.le_of_ble_eq_true rfl) (Nat.le_of_ble_eq_true rfl) (Nat.le_of_ble_eq_true rfl) rfl ?_
  refine aw_ald_n C dX8_swap_11 rfl ?_
  refine aw_ald_n C dX8_swap_12 rfl ?_
  refine aw_bipush C 10 dX8_swap_13 kb_10 ?_
  refine aw_iload_n C dX8_swap_15 rfl ?_
  refine aw_iload_n C dX8_swap_16 rfl ?_
  refine aw_null C dX8_swap_17 ?_
  refine ao_callV C (ci := 8) (b := 0) [.int 10, .int a1, .int a2, .null] [(8, .inr (7, [.ref 4, .int 0, .int (-1), .int 0, .int 1, .int 0, .null, .int 0, .ref 11, .ref 12])), (0, .inr (8, [.ref 1, .ref 3, .ref 8, .ref 13, .ref 18, .ref 59, .ref 115, .ref 171, .ref 178, .int 0, .int 0, .int 0, .int 0, .int (-1)]))] mv_X8_103 rfl rfl h0 (c_X8_doAct_509 ⟨by omega, by omega⟩ ⟨by omega, by omega⟩ h0 h59) rfl dX8_swap_18 (Nat.le_of_ble_eq_true rfl) (Nat.le_of_ble_eq_true rfl) rfl (Nat.le_of_ble_eq_true rfl) (Nat.le_of_ble_eq_true rfl) (Nat.le_of_ble_eq_true rfl) rfl ?_
  refine ax_callV C (ci := 8) (b := 0) [.int 1] mv_X8_139 rfl rfl rfl (c_X8_finishCall_437 hl0 rfl) rfl dX8_swap_21 (Nat.le_of_ble_eq_true rfl) (Nat.le_of_ble_eq_true rfl) rfl (Nat.le_of_ble_eq_true rfl) (Nat.le_of_ble_eq_true rfl) (Nat.le_of_ble_eq_true rfl) (fun E9 f9 n9 h9 => ?_) (fun _ _ _ h9 => h9.elim)
  obtain ⟨rfl, rfl, h9⟩ := h9
  refine at_flat [(8, .inr (7, [.ref 4, .int 0, .int (-1), .int 0, .int 1, .int 0, .null, .int 0, .ref 11, .ref 12])), (0, .inr (8, [.ref 1, .ref 3, .ref 8, .ref 13, .ref 18, .ref 59, .ref 115, .ref 171, .ref 178, .int 0, .int 0, .int 0, .int 1, .int (-1)]))] rfl ?_
  exact at_out C htab ⟨rfl, rfl, h9⟩ (Nat.le_of_ble_eq_true rfl) (Nat.le_of_ble_eq_true rfl)

set_option maxHeartbeats 4000000 in
set_option maxRecDepth 100000 in
theorem c_L_swap_511 {X : GX} {l : Launch} {f : AH} {n : Nat} {a1 : Int32} {a2 : Int32} (hl0 : l.stackTraces = false) (q0 : 0 ≤ a1.toInt ∧ a1.toInt ≤ 2147483647) (q1 : 0 ≤ a2.toInt ∧ a2.toInt ≤ 2147483647) (h0 : f 0 = some (.inr (8, [.ref 1, .ref 3, .ref 8, .ref 13, .ref 18, .ref 59, .ref 115, .ref 171, .ref 178, .int 0, .int 0, .int 0, .int 0, .int (-1)]))) (h3 : f 3 = some (.inr (7, [.ref 4, .int 0, .int (-1), .int 0, .int 1, .int 0, .null, .int 0, .ref 6, .ref 7]))) (h8 : f 8 = some (.inr (7, [.ref 9, .int 0, .int (-1), .int 0, .int 1, .int 0, .null, .int 0, .ref 11, .ref 12]))) (h11 : f 11 = some (.inl (2, 4, .inr (.inr (fun _ => none))))) (h6 : f 6 = some (.inl (2, 4, .inr (.inr (fun _ => none))))) (h12 : f 12 = some (.inl (2, 40, .inr (.inr (fun _ => none))))) (h7 : f 7 = some (.inl (2, 40, .inr (.inr (fun _ => none))))) (h59 : f 59 = some (.inr (1, [.ref 60, .ref 62, .ref 74, .int 0, .ref 68, .ref 71, .ref 64, .ref 66]))) : AMW X l yL_swap cL_swap 5 (some .int) [(0, 10, 13, 28)] 8 1 6 [.ref 0, .int a1, .int a2, .ref 223] f n (EXN f [(0, .inr (8, [.ref 1, .ref 3, .ref 8, .ref 13, .ref 18, .ref 59, .ref 115, .ref 171, .ref 178, .int 0, .int 0, .int 0, .int 1, .int (-1)])), (8, .inr (7, [.ref 4, .int 0, .int (-1), .int 0, .int 1, .int 0, .null, .int 0, .ref 11, .ref 12]))] (some (.int 1))) := by
  refine AMW.of (by decide +kernel) rfl (Nat.le_of_ble_eq_true rfl) (fun p e s m args below meth c C htab => ?_)
  refine ao_start ?_
  refine aw_nl [some (.ref 0), some (.int a1), some (.int a2), some (.ref 223), none] rfl ?_
  obtain ⟨q0a, q0b⟩ := q0
  obtain ⟨q1a, q1b⟩ := q1
  refine aw_ald_n C dL_swap_0 rfl ?_
  refine aw_iconst C 0 dL_swap_1 ki_0 ?_
  refine aw_ald_n C dL_swap_2 rfl ?_
  refine aw_iload_n C dL_swap_3 rfl ?_
  refine aw_iload_n C dL_swap_4 rfl ?_
  refine ax_callV C (ci := 8) (b := 0) [.int a1, .int a2] mv_L_40 rfl rfl h0 (c_X8_swap_510 hl0 ⟨by omega, by omega⟩ ⟨by omega, by omega⟩ h0 h3 h8 h11 h6 h12 h7 h59) rfl dL_swap_5 (Nat.le_of_ble_eq_true rfl) (Nat.le_of_ble_eq_true rfl) rfl (Nat.le_of_ble_eq_true rfl) (Nat.le_of_ble_eq_true rfl) (Nat.le_of_ble_eq_true rfl) (fun E9 f9 n9 h9 => ?_) (fun _ _ _ h9 => h9.elim)
  obtain ⟨rfl, rfl, h9⟩ := h9
  refine at_flat [(0, .inr (8, [.ref 1, .ref 3, .ref 8, .ref 13, .ref 18, .ref 59, .ref 115, .ref 171, .ref 178, .int 0, .int 0, .int 0, .int 1, .int (-1)])), (8, .inr (7, [.ref 4, .int 0, .int (-1), .int 0, .int 1, .int 0, .null, .int 0, .ref 11, .ref 12]))] rfl ?_
  refine at_catch C htab [] ⟨0, 10, 13, 28⟩ [] rfl (fun z hz => nomatch hz) (by decide) (by decide) cl_L_28 (by decide) (ah_astore C dL_swap_13 (by decide) rfl ?_)
  refine aw_nl [some (.ref 0), some (.int a1), some (.int a2), some (.ref 223), none] rfl ?_
  refine aw_iconst C 1 dL_swap_15 ki_1 ?_
  exact aw_iret C rfl rfl dL_swap_16 (Nat.le_of_ble_eq_true rfl) (Nat.le_of_ble_eq_true rfl) ⟨rfl, rfl⟩

set_option maxHeartbeats 4000000 in
set_option maxRecDepth 100000 in
theorem c_X9_swap0_512 {X : GX} {l : Launch} {f : AH} {n : Nat} {a1 : Int32} {a2 : Int32} (q0 : 0 ≤ a1.toInt ∧ a1.toInt ≤ 2147483647) (q1 : 0 ≤ a2.toInt ∧ a2.toInt ≤ 2147483647) (h181 : f 181 = some (.inr (9, (.int 0 :: .ref 182 :: .ref 183 :: .ref 184 :: .ref 185 :: .int 0 :: .int 0 :: .int 0 :: .ref 186 :: .int 0 :: .int 0 :: .int 0 :: .int (-1) :: .ref 187 :: .ref 188 :: .ref 189 :: .int 0 :: .ref 190 :: .ref 191 :: .ref 192 :: .ref 193 :: .ref 194 :: .int 0 :: .ref 195 :: .ref 196 :: .ref 197 :: .int 0 :: .ref 198 :: .ref 199 :: .ref 200 :: .ref 201 :: .ref 202 :: .ref 203 :: .int 0 :: .ref 204 :: .ref 205 :: .ref 206 :: .ref 207 :: .ref 208 :: .ref 209 :: .ref 210 :: .ref 211 :: .ref 212 :: .ref 213 :: .ref 214 :: .int 0 :: .ref 215 :: .ref 216 :: .int 0 :: .ref 217 :: .ref 218 :: .ref 219 :: .ref 220 :: .ref 221 :: .int 0 :: .int 0 :: .int 0 :: .int 0 :: .ref 222 :: .int 0 :: [])))) : AM X l yX9_swap0 cX9_swap0 6 (some .int) 2 0 0 [.ref 181, .int a1, .int a2] f n (EXO f [] (some (.int 1)) n) := by
  refine AM.of (by decide +kernel) rfl (Nat.le_of_ble_eq_true rfl) (fun p e s m args below meth c C hnm => ?_)
  refine ao_start ?_
  refine aw_nl [some (.ref 181), some (.int a1), some (.int a2), none, none, none] rfl ?_
  obtain ⟨q0a, q0b⟩ := q0
  obtain ⟨q1a, q1b⟩ := q1
  refine aw_ald_n C dX9_swap0_0 rfl ?_
  refine aw_iload_n C dX9_swap0_1 rfl ?_
  refine ao_callV C (ci := 9) (b := 181) [.int a1] [] mv_X9_293 rfl rfl h181 (c_X9_isPieceThere_457 ⟨by omega, by omega⟩ h181) rfl dX9_swap0_2 (Nat.le_of_ble_eq_true rfl) (Nat.le_of_ble_eq_true rfl) rfl (Nat.le_of_ble_eq_true rfl) (Nat.le_of_ble_eq_true rfl) (Nat.le_of_ble_eq_true rfl) rfl ?_
  refine aw_if_eq C 16 dX9_swap0_5 (by decide) (fun _ => ?_) (fun q => absurd (by decide) q)
  refine aw_iconst C 1 dX9_swap0_16 ki_1 ?_
  exact aw_iret C rfl rfl dX9_swap0_17 (Nat.le_of_ble_eq_true rfl) (Nat.le_of_ble_eq_true rfl) ⟨rfl, rfl, rfl⟩

set_option maxHeartbeats 4000000 in
set_option maxRecDepth 100000 in
theorem c_X9_swap_513 {X : GX} {l : Launch} {f : AH} {n : Nat} {a1 : Int32} {a2 : Int32} (q0 : 0 ≤ a1.toInt ∧ a1.toInt ≤ 2147483647) (q1 : 0 ≤ a2.toInt ∧ a2.toInt ≤ 2147483647) (h181 : f 181 = some (.inr (9, (.int 0 :: .ref 182 :: .ref 183 :: .ref 184 :: .ref 185 :: .int 0 :: .int 0 :: .int 0 :: .ref 186 :: .int 0 :: .int 0 :: .int 0 :: .int (-1) :: .ref 187 :: .ref 188 :: .ref 189 :: .int 0 :: .ref 190 :: .ref 191 :: .ref 192 :: .ref 193 :: .ref 194 :: .int 0 :: .ref 195 :: .ref 196 :: .ref 197 :: .int 0 :: .ref 198 :: .ref 199 :: .ref 200 :: .ref 201 :: .ref 202 :: .ref 203 :: .int 0 :: .ref 204 :: .ref 205 :: .ref 206 :: .ref 207 :: .ref 208 :: .ref 209 :: .ref 210 :: .ref 211 :: .ref 212 :: .ref 213 :: .ref 214 :: .int 0 :: .ref 215 :: .ref 216 :: .int 0 :: .ref 217 :: .ref 218 :: .ref 219 :: .ref 220 :: .ref 221 :: .int 0 :: .int 0 :: .int 0 :: .int 0 :: .ref 222 :: .int 0 :: [])))) (h183 : f 183 = some (.inl (0, 4347, .inl (fun _ => 0)))) (h182 : f 182 = some (.inl (0, 4347, .inl (tl (upd (upd (fun _ => 0) 2 (-1)) 4 1) 40)))) : AM X l yX9_swap cX9_swap 3 (some .int) 6 0 0 [.ref 181, .int a1, .int a2] f n (EXO f [(183, .inl (0, 4347, .inl (cpy (tl (upd (upd (fun _ => 0) 2 (-1)) 4 1) 40) (fun _ => 0) 4347))), (182, .inl (0, 4347, .inl (cpy (cpy (tl (upd (upd (fun _ => 0) 2 (-1)) 4 1) 40) (fun _ => 0) 4347) (tl (upd (upd (fun _ => 0) 2 (-1)) 4 1) 40) 4347))), (181, .inr (9, (.int 1 :: .ref 182 :: .ref 183 :: .ref 184 :: .ref 185 :: .int 0 :: .int 0 :: .int 1 :: .ref 186 :: .int 0 :: .int 0 :: .int 0 :: .int (-1) :: .ref 187 :: .ref 188 :: .ref 189 :: .int 0 :: .ref 190 :: .ref 191 :: .ref 192 :: .ref 193 :: .ref 194 :: .int 0 :: .ref 195 :: .ref 196 :: .ref 197 :: .int 0 :: .ref 198 :: .ref 199 :: .ref 200 :: .ref 201 :: .ref 202 :: .ref 203 :: .int 0 :: .ref 204 :: .ref 205 :: .ref 206 :: .ref 207 :: .ref 208 :: .ref 209 :: .ref 210 :: .ref 211 :: .ref 212 :: .ref 213 :: .ref 214 :: .int 0 :: .ref 215 :: .ref 216 :: .int 0 :: .ref 217 :: .ref 218 :: .ref 219 :: .ref 220 :: .ref 221 :: .int 0 :: .int 0 :: .int 0 :: .int 0 :: .ref 222 :: .int 0 :: [])))] (some (.int 0)) n) := by
  refine AM.of (by decide +kernel) rfl (Nat.le_of_ble_eq_true rfl) (fun p e s m args below meth c C hnm => ?_)
  refine ao_start ?_
  refine aw_nl [some (.ref 181), some (.int a1), some (.int a2)] rfl ?_
  obtain ⟨q0a, q0b⟩ := q0
  obtain ⟨q1a, q1b⟩ := q1
  refine aw_ald_n C dX9_swap_0 rfl ?_
  refine ao_callV C (ci := 9) (b := 181) [] [(183, .inl (0, 4347, .inl (cpy (tl (upd (upd (fun _ => 0) 2 (-1)) 4 1) 40) (fun _ => 0) 4347)))] mv_X9_420 rfl rfl h181 (c_X9_putsAside_173 h181 h183 h182) rfl dX9_swap_1 (Nat.le_of_ble_eq_true rfl) (Nat.le_of_ble_eq_true rfl) rfl (Nat.le_of_ble_eq_true rfl) (Nat.le_of_ble_eq_true rfl) (Nat.le_of_ble_eq_true rfl) rfl ?_
  refine aw_ald_n C dX9_swap_4 rfl ?_
  refine aw_ald_n C dX9_swap_5 rfl ?_
  refine aw_iload_n C dX9_swap_6 rfl ?_
  refine aw_iload_n C dX9_swap_7 rfl ?_
  refine ao_callV C (ci := 9) (b := 181) [.int a1, .int a2] [(183, .inl (0, 4347, .inl (cpy (tl (upd (upd (fun _ => 0) 2 (-1)) 4 1) 40) (fun _ => 0) 4347)))] mv_X9_364 rfl rfl h181 (c_X9_swap0_512 ⟨by omega, by omega⟩ ⟨by omega, by omega⟩ h181) rfl dX9_swap_8 (Nat.le_of_ble_eq_true rfl) (Nat.le_of_ble_eq_true rfl) rfl (Nat.le_of_ble_eq_true rfl) (Nat.le_of_ble_eq_true rfl) (Nat.le_of_ble_eq_true rfl) rfl ?_
  refine aw_iconst C 1 dX9_swap_11 ki_1 ?_
  refine ao_callV C (ci := 9) (b := 181) [.int 1, .int 1] [(183, .inl (0, 4347, .inl (cpy (tl (upd (upd (fun _ => 0) 2 (-1)) 4 1) 40) (fun _ => 0) 4347))), (182, .inl (0, 4347, .inl (cpy (cpy (tl (upd (upd (fun _ => 0) 2 (-1)) 4 1) 40) (fun _ => 0) 4347) (tl (upd (upd (fun _ => 0) 2 (-1)) 4 1) 40) 4347))), (181, .inr (9, (.int 1 :: .ref 182 :: .ref 183 :: .ref 184 :: .ref 185 :: .int 0 :: .int 0 :: .int 1 :: .ref 186 :: .int 0 :: .int 0 :: .int 0 :: .int (-1) :: .ref 187 :: .ref 188 :: .ref 189 :: .int 0 :: .ref 190 :: .ref 191 :: .ref 192 :: .ref 193 :: .ref 194 :: .int 0 :: .ref 195 :: .ref 196 :: .ref 197 :: .int 0 :: .ref 198 :: .ref 199 :: .ref 200 :: .ref 201 :: .ref 202 :: .ref 203 :: .int 0 :: .ref 204 :: .ref 205 :: .ref 206 :: .ref 207 :: .ref 208 :: .ref 209 :: .ref 210 :: .ref 211 :: .ref 212 :: .ref 213 :: .ref 214 :: .int 0 :: .ref 215 :: .ref 216 :: .int 0 :: .ref 217 :: .ref 218 :: .ref 219 :: .ref 220 :: .ref 221 :: .int 0 :: .int 0 :: .int 0 :: .int 0 :: .ref 222 :: .int 0 :: [])))] mv_X9_429 rfl rfl h181 (c_X9_isDone_469 h181 h182 rfl) rfl dX9_swap_12 (Nat.le_of_ble_eq_true rfl) (Nat.le_of_ble_eq_true rfl) rfl (Nat.le_of_ble_eq_true rfl) (Nat.le_of_ble_eq_true rfl) (Nat.le_of_ble_eq_true rfl) rfl ?_
  refine aw_if_eq C 25 dX9_swap_15 (by decide) (fun _ => ?_) (fun q => absurd (by decide) q)
  refine aw_iconst C 0 dX9_swap_25 ki_0 ?_
  exact aw_iret C rfl rfl dX9_swap_26 (Nat.le_of_ble_eq_true rfl) (Nat.le_of_ble_eq_true rfl) ⟨rfl, rfl, rfl⟩

set_option maxHeartbeats 4000000 in
set_option maxRecDepth 100000 in
theorem c_X7_toldCount_514 {X : GX} {l : Launch} {f : AH} {n : Nat} (h3 : f 3 = some (.inr (7, [.ref 4, .int 0, .int (-1), .int 0, .int 1, .int 0, .null, .int 0, .ref 6, .ref 7]))) (h7 : f 7 = some (.inl (2, 40, .inr (.inr (fun _ => none))))) : AM X l yX7_toldCount cX7_toldCount 3 (some .int) 0 0 0 [.ref 3] f n (EXO f [] (some (.int 0)) n) := by
  refine AM.of (by decide +kernel) rfl (by decide) (fun p e s m args below meth c C hnm => ?_)
  refine ao_start ?_
  refine aw_nl [some (.ref 3), none, none] rfl ?_
  refine aw_iconst C 0 dX7_toldCount_0 ki_0 ?_
  refine aw_istore_n C dX7_toldCount_1 (by decide) rfl ?_
  refine aw_nl [some (.ref 3), some (.int 0), none] rfl ?_
  refine aw_iconst C 0 dX7_toldCount_2 ki_0 ?_
  refine aw_istore_n C dX7_toldCount_3 (by decide) rfl ?_
  refine aw_nl [some (.ref 3), some (.int 0), some (.int 0)] rfl ?_
  refine lz_count C (f := ovl f []) (S := 3) (a := 7) (fs := [.ref 4, .int 0, .int (-1), .int 0, .int 1, .int 0, .null, .int 0, .ref 6, .ref 7]) h3 rfl h7 ?_ 40 0 rfl
  refine aw_iload_n C dX7_toldCount_31 rfl ?_
  exact aw_iret C rfl rfl dX7_toldCount_32 (Nat.le_of_ble_eq_true rfl) (Nat.le_of_ble_eq_true rfl) ⟨rfl, rfl, rfl⟩

set_option maxHeartbeats 4000000 in
set_option maxRecDepth 100000 in
theorem c_X8_wipePieces_515 {X : GX} {l : Launch} {f : AH} {n : Nat} (h0 : f 0 = some (.inr (8, [.ref 1, .ref 3, .ref 8, .ref 13, .ref 18, .ref 59, .ref 115, .ref 171, .ref 178, .int 0, .int 0, .int 0, .int 0, .int (-1)]))) (h3 : f 3 = some (.inr (7, [.ref 4, .int 0, .int (-1), .int 0, .int 1, .int 0, .null, .int 0, .ref 6, .ref 7]))) (h7 : f 7 = some (.inl (2, 40, .inr (.inr (fun _ => none))))) : AM X l yX8_wipePieces cX8_wipePieces 1 (some .int) 1 0 0 [.ref 0] f n (EXO f [] (some (.int 4)) n) := by
  refine AM.of (by decide +kernel) rfl (by decide) (fun p e s m args below meth c C hnm => ?_)
  refine ao_start ?_
  refine aw_nl [some (.ref 0)] rfl ?_
  refine aw_ald_n C dX8_wipePieces_0 rfl ?_
  refine aw_get C gf_X8_21 h0 rfl dX8_wipePieces_1 ?_
  refine ao_callV C (ci := 7) (b := 3) [] [] mv_X8_167 rfl rfl h3 (c_X7_toldCount_514 h3 h7) rfl dX8_wipePieces_4 (Nat.le_of_ble_eq_true rfl) (Nat.le_of_ble_eq_true rfl) rfl (Nat.le_of_ble_eq_true rfl) (Nat.le_of_ble_eq_true rfl) (Nat.le_of_ble_eq_true rfl) rfl ?_
  refine aw_if_ne C 12 dX8_wipePieces_7 (by decide) (fun q => absurd (by decide) q) (fun _ => ?_)
  refine aw_iconst C 4 dX8_wipePieces_10 ki_4 ?_
  exact aw_iret C rfl rfl dX8_wipePieces_11 (Nat.le_of_ble_eq_true rfl) (Nat.le_of_ble_eq_true rfl) ⟨rfl, rfl, rfl⟩

set_option maxHeartbeats 4000000 in
set_option maxRecDepth 100000 in
theorem c_X8_doAct_516 {X : GX} {l : Launch} {f : AH} {n : Nat} (h0 : f 0 = some (.inr (8, [.ref 1, .ref 3, .ref 8, .ref 13, .ref 18, .ref 59, .ref 115, .ref 171, .ref 178, .int 0, .int 0, .int 0, .int 0, .int (-1)]))) (h3 : f 3 = some (.inr (7, [.ref 4, .int 0, .int (-1), .int 0, .int 1, .int 0, .null, .int 0, .ref 6, .ref 7]))) (h7 : f 7 = some (.inl (2, 40, .inr (.inr (fun _ => none))))) : AM X l yX8_doAct cX8_doAct 6 (some .int) 2 0 0 [.ref 0, .int 11, .int 0, .int 0, .null] f n (EXO f [(0, .inr (8, [.ref 1, .ref 3, .ref 8, .ref 13, .ref 18, .ref 59, .ref 115, .ref 171, .ref 178, .int 0, .int 0, .int 0, .int 0, .int (-1)]))] (some (.int 4)) n) := by
  refine AM.of (by decide +kernel) rfl (by decide) (fun p e s m args below meth c C hnm => ?_)
  refine ao_start ?_
  refine aw_nl [some (.ref 0), some (.int 11), some (.int 0), some (.int 0), some (.null), none] rfl ?_
  refine aw_ald_n C dX8_doAct_0 rfl ?_
  refine aw_iconst C 0 dX8_doAct_1 ki_0 ?_
  refine ao_put C [(0, .inr (8, [.ref 1, .ref 3, .ref 8, .ref 13, .ref 18, .ref 59, .ref 115, .ref 171, .ref 178, .int 0, .int 0, .int 0, .int 0, .int (-1)]))] gf_X8_334 cf8 nf8_10 h0 (Nat.le_of_ble_eq_true rfl) (by decide) (by decide) dX8_doAct_2 rfl ?_
  refine aw_iload_n C dX8_doAct_5 rfl ?_
  refine aw_tabIn C (off := 198) 204 dX8_doAct_6 (by decide) (by decide) (by decide) (by decide) ?_
  refine aw_ald_n C dX8_doAct_204 rfl ?_
  refine ao_callV C (ci := 8) (b := 0) [] [(0, .inr (8, [.ref 1, .ref 3, .ref 8, .ref 13, .ref 18, .ref 59, .ref 115, .ref 171, .ref 178, .int 0, .int 0, .int 0, .int 0, .int (-1)]))] mv_X8_351 rfl rfl rfl (c_X8_wipePieces_515 rfl h3 h7) rfl dX8_doAct_205 (Nat.le_of_ble_eq_true rfl) (Nat.le_of_ble_eq_true rfl) rfl (Nat.le_of_ble_eq_true rfl) (Nat.le_of_ble_eq_true rfl) (Nat.le_of_ble_eq_true rfl) rfl ?_
  exact aw_iret C rfl rfl dX8_doAct_208 (Nat.le_of_ble_eq_true rfl) (Nat.le_of_ble_eq_true rfl) ⟨rfl, rfl, rfl⟩

set_option maxHeartbeats 4000000 in
set_option maxRecDepth 100000 in
theorem c_X8_finishCall_517 {X : GX} {l : Launch} {f : AH} {n : Nat} (hl0 : l.stackTraces = false) (h0 : f 0 = some (.inr (8, [.ref 1, .ref 3, .ref 8, .ref 13, .ref 18, .ref 59, .ref 115, .ref 171, .ref 178, .int 0, .int 0, .int 0, .int 0, .int (-1)]))) : AX X l yX8_finishCall cX8_finishCall 2 none 6 1 6 [.ref 0, .int 4] f n (fun _ _ _ => False) (TXO eS f [(0, .inr (8, [.ref 1, .ref 3, .ref 8, .ref 13, .ref 18, .ref 59, .ref 115, .ref 171, .ref 178, .int 0, .int 0, .int 0, .int 4, .int (-1)]))] n) := by
  refine AX.of (by decide +kernel) rfl (by decide) (fun p e s m args below meth c C htab => ?_)
  refine ao_start ?_
  refine aw_nl [some (.ref 0), some (.int 4)] rfl ?_
  refine aw_ald_n C dX8_finishCall_0 rfl ?_
  refine aw_iload_n C dX8_finishCall_1 rfl ?_
  refine ao_put C [(0, .inr (8, [.ref 1, .ref 3, .ref 8, .ref 13, .ref 18, .ref 59, .ref 115, .ref 171, .ref 178, .int 0, .int 0, .int 0, .int 4, .int (-1)]))] gf_X8_110 cf8 nf8_12 h0 (Nat.le_of_ble_eq_true rfl) rfl rfl dX8_finishCall_2 rfl ?_
  refine aw_iload_n C dX8_finishCall_5 rfl ?_
  refine aw_iconst C 3 dX8_finishCall_6 ki_3 ?_
  refine aw_icmp_ne C 18 dX8_finishCall_7 (by decide) (fun _ => ?_) (fun q => absurd q (by decide))
  refine aw_iload_n C dX8_finishCall_18 rfl ?_
  refine aw_if_eq C 33 dX8_finishCall_19 (by decide) (fun q => absurd q (by decide)) (fun _ => ?_)
  exact ax_throwW C htab hl0 th_eS sx_326 dX8_finishCall_22 dX8_finishCall_25 dX8_finishCall_26 dX8_finishCall_29 dX8_finishCall_32 (Nat.le_of_ble_eq_true rfl) (Nat.le_of_ble_eq_true rfl) (Nat.le_of_ble_eq_true rfl) (Nat.le_of_ble_eq_true rfl) (Nat.le_of_ble_eq_true rfl) (Nat.le_of_ble_eq_true rfl) (fun n9 h9 => ⟨rfl, rfl, h9⟩)

set_option maxHeartbeats 4000000 in
set_option maxRecDepth 100000 in
theorem c_X8_wipe_518 {X : GX} {l : Launch} {f : AH} {n : Nat} (hl0 : l.stackTraces = false) (h0 : f 0 = some (.inr (8, [.ref 1, .ref 3, .ref 8, .ref 13, .ref 18, .ref 59, .ref 115, .ref 171, .ref 178, .int 0, .int 0, .int 0, .int 0, .int (-1)]))) (h3 : f 3 = some (.inr (7, [.ref 4, .int 0, .int (-1), .int 0, .int 1, .int 0, .null, .int 0, .ref 6, .ref 7]))) (h7 : f 7 = some (.inl (2, 40, .inr (.inr (fun _ => none))))) (h8 : f 8 = some (.inr (7, [.ref 9, .int 0, .int (-1), .int 0, .int 1, .int 0, .null, .int 0, .ref 11, .ref 12]))) (h11 : f 11 = some (.inl (2, 4, .inr (.inr (fun _ => none))))) (h6 : f 6 = some (.inl (2, 4, .inr (.inr (fun _ => none))))) (h12 : f 12 = some (.inl (2, 40, .inr (.inr (fun _ => none))))) : AX X l yX8_wipe cX8_wipe 2 (some .int) 7 1 6 [.ref 0] f n (fun _ _ _ => False) (TXO eS f [(8, .inr (7, [.ref 4, .int 0, .int (-1), .int 0, .int 1, .int 0, .null, .int 0, .ref 11, .ref 12])), (0, .inr (8, [.ref 1, .ref 3, .ref 8, .ref 13, .ref 18, .ref 59, .ref 115, .ref 171, .ref 178, .int 0, .int 0, .int 0, .int 4, .int (-1)]))] n) := by
  refine AX.of (by decide +kernel) rfl (by decide) (fun p e s m args below meth c C htab => ?_)
  refine ao_start ?_
  refine aw_nl [some (.ref 0), none] rfl ?_
  refine aw_ald_n C dX8_wipe_0 rfl ?_
  refine aw_get C gf_X8_21 h0 rfl dX8_wipe_1 ?_
  refine ao_callV C (ci := 7) (b := 3) [] [] mv_X8_167 rfl rfl h3 (c_X7_toldCount_514 h3 h7) rfl dX8_wipe_4 (Nat.le_of_ble_eq_true rfl) (Nat.le_of_ble_eq_true rfl) rfl (Nat.le_of_ble_eq_true rfl) (Nat.le_of_ble_eq_true rfl) (Nat.le_of_ble_eq_true rfl) rfl ?_
  refine aw_istore_n C dX8_wipe_7 (by decide) rfl ?_
  refine aw_nl [some (.ref 0), some (.int 0)] rfl ?_
  refine aw_ald_n C dX8_wipe_8 rfl ?_
  refine aw_get C gf_X8_25 h0 rfl dX8_wipe_9 ?_
  refine aw_ald_n C dX8_wipe_12 rfl ?_
  refine aw_get C gf_X8_21 h0 rfl dX8_wipe_13 ?_
  refine ao_callV C (ci := 7) (b := 8) [.ref 3] [(8, .inr (7, [.ref 4, .int 0, .int (-1), .int 0, .int 1, .int 0, .null, .int 0, .ref 11, .ref 12]))] mv_X8_73 rfl rfl h8 (c_X7_copyFrom_168 h3 h8 h11 h6 h12 h7) rfl dX8_wipe_16 (Nat.le_of_ble_eq_true rfl) (Nat.le_of_ble_eq_true rfl) rfl (Nat.le_of_ble_eq_true rfl) (Nat.le_of_ble_eq_true rfl) (Nat.le_of_ble_eq_true rfl) rfl ?_
  refine aw_ald_n C dX8_wipe_19 rfl ?_
  refine aw_ald_n C dX8_wipe_20 rfl ?_
  refine aw_bipush C 11 dX8_wipe_21 kb_11 ?_
  refine aw_iconst C 0 dX8_wipe_23 ki_0 ?_
  refine aw_iconst C 0 dX8_wipe_24 ki_0 ?_
  refine aw_null C dX8_wipe_25 ?_
  refine ao_callV C (ci := 8) (b := 0) [.int 11, .int 0, .int 0, .null] [(8, .inr (7, [.ref 4, .int 0, .int (-1), .int 0, .int 1, .int 0, .null, .int 0, .ref 11, .ref 12])), (0, .inr (8, [.ref 1, .ref 3, .ref 8, .ref 13, .ref 18, .ref 59, .ref 115, .ref 171, .ref 178, .int 0, .int 0, .int 0, .int 0, .int (-1)]))] mv_X8_103 rfl rfl h0 (c_X8_doAct_516 h0 h3 h7) rfl dX8_wipe_26 (Nat.le_of_ble_eq_true rfl) (Nat.le_of_ble_eq_true rfl) rfl (Nat.le_of_ble_eq_true rfl) (Nat.le_of_ble_eq_true rfl) (Nat.le_of_ble_eq_true rfl) rfl ?_
  refine ax_callV C (ci := 8) (b := 0) [.int 4] mv_X8_139 rfl rfl rfl (c_X8_finishCall_517 hl0 rfl) rfl dX8_wipe_29 (Nat.le_of_ble_eq_true rfl) (Nat.le_of_ble_eq_true rfl) rfl (Nat.le_of_ble_eq_true rfl) (Nat.le_of_ble_eq_true rfl) (Nat.le_of_ble_eq_true rfl) (fun E9 f9 n9 h9 => ?_) (fun _ _ _ h9 => h9.elim)
  obtain ⟨rfl, rfl, h9⟩ := h9
  refine at_flat [(8, .inr (7, [.ref 4, .int 0, .int (-1), .int 0, .int 1, .int 0, .null, .int 0, .ref 11, .ref 12])), (0, .inr (8, [.ref 1, .ref 3, .ref 8, .ref 13, .ref 18, .ref 59, .ref 115, .ref 171, .ref 178, .int 0, .int 0, .int 0, .int 4, .int (-1)]))] rfl ?_
  exact at_out C htab ⟨rfl, rfl, h9⟩ (Nat.le_of_ble_eq_true rfl) (Nat.le_of_ble_eq_true rfl)

set_option maxHeartbeats 4000000 in
set_option maxRecDepth 100000 in
theorem c_L_wipe_519 {X : GX} {l : Launch} {f : AH} {n : Nat} (hl0 : l.stackTraces = false) (h0 : f 0 = some (.inr (8, [.ref 1, .ref 3, .ref 8, .ref 13, .ref 18, .ref 59, .ref 115, .ref 171, .ref 178, .int 0, .int 0, .int 0, .int 0, .int (-1)]))) (h3 : f 3 = some (.inr (7, [.ref 4, .int 0, .int (-1), .int 0, .int 1, .int 0, .null, .int 0, .ref 6, .ref 7]))) (h7 : f 7 = some (.inl (2, 40, .inr (.inr (fun _ => none))))) (h8 : f 8 = some (.inr (7, [.ref 9, .int 0, .int (-1), .int 0, .int 1, .int 0, .null, .int 0, .ref 11, .ref 12]))) (h11 : f 11 = some (.inl (2, 4, .inr (.inr (fun _ => none))))) (h6 : f 6 = some (.inl (2, 4, .inr (.inr (fun _ => none))))) (h12 : f 12 = some (.inl (2, 40, .inr (.inr (fun _ => none))))) : AMW X l yL_wipe cL_wipe 3 (some .int) [(0, 8, 11, 28)] 8 1 6 [.ref 0, .ref 223] f n (EXN f [(0, .inr (8, [.ref 1, .ref 3, .ref 8, .ref 13, .ref 18, .ref 59, .ref 115, .ref 171, .ref 178, .int 0, .int 0, .int 0, .int 4, .int (-1)])), (8, .inr (7, [.ref 4, .int 0, .int (-1), .int 0, .int 1, .int 0, .null, .int 0, .ref 11, .ref 12]))] (some (.int 1))) := by
  refine AMW.of (by decide +kernel) rfl (by decide) (fun p e s m args below meth c C htab => ?_)
  refine ao_start ?_
  refine aw_nl [some (.ref 0), some (.ref 223), none] rfl ?_
  refine aw_ald_n C dL_wipe_0 rfl ?_
  refine aw_iconst C 0 dL_wipe_1 ki_0 ?_
  refine aw_ald_n C dL_wipe_2 rfl ?_
  refine ax_callV C (ci := 8) (b := 0) [] mv_L_43 rfl rfl h0 (c_X8_wipe_518 hl0 h0 h3 h7 h8 h11 h6 h12) rfl dL_wipe_3 (Nat.le_of_ble_eq_true rfl) (Nat.le_of_ble_eq_true rfl) rfl (Nat.le_of_ble_eq_true rfl) (Nat.le_of_ble_eq_true rfl) (Nat.le_of_ble_eq_true rfl) (fun E9 f9 n9 h9 => ?_) (fun _ _ _ h9 => h9.elim)
  obtain ⟨rfl, rfl, h9⟩ := h9
  refine at_flat [(0, .inr (8, [.ref 1, .ref 3, .ref 8, .ref 13, .ref 18, .ref 59, .ref 115, .ref 171, .ref 178, .int 0, .int 0, .int 0, .int 4, .int (-1)])), (8, .inr (7, [.ref 4, .int 0, .int (-1), .int 0, .int 1, .int 0, .null, .int 0, .ref 11, .ref 12]))] rfl ?_
  refine at_catch C htab [] ⟨0, 8, 11, 28⟩ [] rfl (fun z hz => nomatch hz) (by decide) (by decide) cl_L_28 (by decide) (ah_astore_n C dL_wipe_11 (by decide) rfl ?_)
  refine aw_nl [some (.ref 0), some (.ref 223), none] rfl ?_
  refine aw_iconst C 1 dL_wipe_12 ki_1 ?_
  exact aw_iret C rfl rfl dL_wipe_13 (Nat.le_of_ble_eq_true rfl) (Nat.le_of_ble_eq_true rfl) ⟨rfl, rfl⟩

set_option maxHeartbeats 4000000 in
set_option maxRecDepth 100000 in
theorem c_X9_toldMany_520 {X : GX} {l : Launch} {f : AH} {n : Nat} (h181 : f 181 = some (.inr (9, (.int 0 :: .ref 182 :: .ref 183 :: .ref 184 :: .ref 185 :: .int 0 :: .int 0 :: .int 0 :: .ref 186 :: .int 0 :: .int 0 :: .int 0 :: .int (-1) :: .ref 187 :: .ref 188 :: .ref 189 :: .int 0 :: .ref 190 :: .ref 191 :: .ref 192 :: .ref 193 :: .ref 194 :: .int 0 :: .ref 195 :: .ref 196 :: .ref 197 :: .int 0 :: .ref 198 :: .ref 199 :: .ref 200 :: .ref 201 :: .ref 202 :: .ref 203 :: .int 0 :: .ref 204 :: .ref 205 :: .ref 206 :: .ref 207 :: .ref 208 :: .ref 209 :: .ref 210 :: .ref 211 :: .ref 212 :: .ref 213 :: .ref 214 :: .int 0 :: .ref 215 :: .ref 216 :: .int 0 :: .ref 217 :: .ref 218 :: .ref 219 :: .ref 220 :: .ref 221 :: .int 0 :: .int 0 :: .int 0 :: .int 0 :: .ref 222 :: .int 0 :: [])))) : AM X l yX9_toldMany cX9_toldMany 3 (some .int) 0 0 0 [.ref 181] f n (EXO f [] (some (.int 0)) n) := by
  refine AM.of (by decide +kernel) rfl (by decide) (fun p e s m args below meth c C hnm => ?_)
  refine ao_start ?_
  refine aw_nl [some (.ref 181), none, none] rfl ?_
  refine aw_iconst C 0 dX9_toldMany_0 ki_0 ?_
  refine aw_istore_n C dX9_toldMany_1 (by decide) rfl ?_
  refine aw_nl [some (.ref 181), some (.int 0), none] rfl ?_
  refine aw_iconst C 0 dX9_toldMany_2 ki_0 ?_
  refine aw_istore_n C dX9_toldMany_3 (by decide) rfl ?_
  refine aw_nl [some (.ref 181), some (.int 0), some (.int 0)] rfl ?_
  refine aw_iload_n C dX9_toldMany_4 rfl ?_
  refine aw_ald_n C dX9_toldMany_5 rfl ?_
  refine aw_get C gf_X9_204 h181 rfl dX9_toldMany_6 ?_
  refine aw_icmp_ge C 35 dX9_toldMany_9 (by decide) (fun _ => ?_) (fun q => absurd (by decide) q)
  refine aw_iload_n C dX9_toldMany_35 rfl ?_
  exact aw_iret C rfl rfl dX9_toldMany_36 (Nat.le_of_ble_eq_true rfl) (Nat.le_of_ble_eq_true rfl) ⟨rfl, rfl, rfl⟩

set_option maxHeartbeats 4000000 in
set_option maxRecDepth 100000 in
theorem c_X9_wipe0_521 {X : GX} {l : Launch} {f : AH} {n : Nat} (h181 : f 181 = some (.inr (9, (.int 0 :: .ref 182 :: .ref 183 :: .ref 184 :: .ref 185 :: .int 0 :: .int 0 :: .int 0 :: .ref 186 :: .int 0 :: .int 0 :: .int 0 :: .int (-1) :: .ref 187 :: .ref 188 :: .ref 189 :: .int 0 :: .ref 190 :: .ref 191 :: .ref 192 :: .ref 193 :: .ref 194 :: .int 0 :: .ref 195 :: .ref 196 :: .ref 197 :: .int 0 :: .ref 198 :: .ref 199 :: .ref 200 :: .ref 201 :: .ref 202 :: .ref 203 :: .int 0 :: .ref 204 :: .ref 205 :: .ref 206 :: .ref 207 :: .ref 208 :: .ref 209 :: .ref 210 :: .ref 211 :: .ref 212 :: .ref 213 :: .ref 214 :: .int 0 :: .ref 215 :: .ref 216 :: .int 0 :: .ref 217 :: .ref 218 :: .ref 219 :: .ref 220 :: .ref 221 :: .int 0 :: .int 0 :: .int 0 :: .int 0 :: .ref 222 :: .int 0 :: [])))) : AM X l yX9_wipe0 cX9_wipe0 2 (some .int) 1 0 0 [.ref 181] f n (EXO f [] (some (.int 4)) n) := by
  refine AM.of (by decide +kernel) rfl (by decide) (fun p e s m args below meth c C hnm => ?_)
  refine ao_start ?_
  refine aw_nl [some (.ref 181), none] rfl ?_
  refine aw_ald_n C dX9_wipe0_0 rfl ?_
  refine ao_callV C (ci := 9) (b := 181) [] [] mv_X9_319 rfl rfl h181 (c_X9_toldMany_520 h181) rfl dX9_wipe0_1 (Nat.le_of_ble_eq_true rfl) (Nat.le_of_ble_eq_true rfl) rfl (Nat.le_of_ble_eq_true rfl) (Nat.le_of_ble_eq_true rfl) (Nat.le_of_ble_eq_true rfl) rfl ?_
  refine aw_if_ne C 9 dX9_wipe0_4 (by decide) (fun q => absurd (by decide) q) (fun _ => ?_)
  refine aw_iconst C 4 dX9_wipe0_7 ki_4 ?_
  exact aw_iret C rfl rfl dX9_wipe0_8 (Nat.le_of_ble_eq_true rfl) (Nat.le_of_ble_eq_true rfl) ⟨rfl, rfl, rfl⟩

set_option maxHeartbeats 4000000 in
set_option maxRecDepth 100000 in
theorem c_X9_cuts_522 {X : GX} {l : Launch} {f : AH} {n : Nat} (h181 : f 181 = some (.inr (9, (.int 1 :: .ref 182 :: .ref 183 :: .ref 184 :: .ref 185 :: .int 0 :: .int 0 :: .int 4 :: .ref 186 :: .int 0 :: .int 0 :: .int 0 :: .int (-1) :: .ref 187 :: .ref 188 :: .ref 189 :: .int 0 :: .ref 190 :: .ref 191 :: .ref 192 :: .ref 193 :: .ref 194 :: .int 0 :: .ref 195 :: .ref 196 :: .ref 197 :: .int 0 :: .ref 198 :: .ref 199 :: .ref 200 :: .ref 201 :: .ref 202 :: .ref 203 :: .int 0 :: .ref 204 :: .ref 205 :: .ref 206 :: .ref 207 :: .ref 208 :: .ref 209 :: .ref 210 :: .ref 211 :: .ref 212 :: .ref 213 :: .ref 214 :: .int 0 :: .ref 215 :: .ref 216 :: .int 0 :: .ref 217 :: .ref 218 :: .ref 219 :: .ref 220 :: .ref 221 :: .int 0 :: .int 0 :: .int 0 :: .int 0 :: .ref 222 :: .int 0 :: [])))) : AM X l yX9_cuts cX9_cuts 7 (some .int) 1 0 0 [.ref 181, .int 0, .ref 187, .int 0, .ref 190, .ref 191, .ref 192] f n (EXO f [(181, .inr (9, (.int 1 :: .ref 182 :: .ref 183 :: .ref 184 :: .ref 185 :: .int 0 :: .int 0 :: .int 4 :: .ref 186 :: .int 0 :: .int 0 :: .int 0 :: .int (-1) :: .ref 187 :: .ref 188 :: .ref 189 :: .int 0 :: .ref 190 :: .ref 191 :: .ref 192 :: .ref 193 :: .ref 194 :: .int 0 :: .ref 195 :: .ref 196 :: .ref 197 :: .int 0 :: .ref 198 :: .ref 199 :: .ref 200 :: .ref 201 :: .ref 202 :: .ref 203 :: .int 0 :: .ref 204 :: .ref 205 :: .ref 206 :: .ref 207 :: .ref 208 :: .ref 209 :: .ref 210 :: .ref 211 :: .ref 212 :: .ref 213 :: .ref 214 :: .int 0 :: .ref 215 :: .ref 216 :: .int 0 :: .ref 217 :: .ref 218 :: .ref 219 :: .ref 220 :: .ref 221 :: .int 0 :: .int 0 :: .int 0 :: .int 0 :: .ref 222 :: .int 0 :: [])))] (some (.int 0)) n) := by
  refine AM.of (by decide +kernel) rfl (by decide) (fun p e s m args below meth c C hnm => ?_)
  refine ao_start ?_
  refine aw_nl [some (.ref 181), some (.int 0), some (.ref 187), some (.int 0), some (.ref 190), some (.ref 191), some (.ref 192)] rfl ?_
  refine aw_ald_n C dX9_cuts_0 rfl ?_
  refine aw_iconst C 0 dX9_cuts_1 ki_0 ?_
  refine ao_put C [(181, .inr (9, (.int 1 :: .ref 182 :: .ref 183 :: .ref 184 :: .ref 185 :: .int 0 :: .int 0 :: .int 4 :: .ref 186 :: .int 0 :: .int 0 :: .int 0 :: .int (-1) :: .ref 187 :: .ref 188 :: .ref 189 :: .int 0 :: .ref 190 :: .ref 191 :: .ref 192 :: .ref 193 :: .ref 194 :: .int 0 :: .ref 195 :: .ref 196 :: .ref 197 :: .int 0 :: .ref 198 :: .ref 199 :: .ref 200 :: .ref 201 :: .ref 202 :: .ref 203 :: .int 0 :: .ref 204 :: .ref 205 :: .ref 206 :: .ref 207 :: .ref 208 :: .ref 209 :: .ref 210 :: .ref 211 :: .ref 212 :: .ref 213 :: .ref 214 :: .int 0 :: .ref 215 :: .ref 216 :: .int 0 :: .ref 217 :: .ref 218 :: .ref 219 :: .ref 220 :: .ref 221 :: .int 0 :: .int 0 :: .int 0 :: .int 0 :: .ref 222 :: .int 0 :: [])))] gf_X9_145 cf9 nf9_54 h181 (Nat.le_of_ble_eq_true rfl) rfl rfl dX9_cuts_2 rfl ?_
  refine aw_iload_n C dX9_cuts_5 rfl ?_
  refine aw_if_ne C 24 dX9_cuts_6 (by decide) (fun q => absurd (by decide) q) (fun _ => ?_)
  refine aw_ald_n C dX9_cuts_9 rfl ?_
  refine aw_ald_n C dX9_cuts_10 rfl ?_
  refine aw_iload_n C dX9_cuts_11 rfl ?_
  refine aw_ald C dX9_cuts_12 rfl ?_
  refine aw_ald C dX9_cuts_14 rfl ?_
  refine aw_ald C dX9_cuts_16 rfl ?_
  refine ao_callV C (ci := 9) (b := 181) [.ref 187, .int 0, .ref 190, .ref 191, .ref 192] [(181, .inr (9, (.int 1 :: .ref 182 :: .ref 183 :: .ref 184 :: .ref 185 :: .int 0 :: .int 0 :: .int 4 :: .ref 186 :: .int 0 :: .int 0 :: .int 0 :: .int (-1) :: .ref 187 :: .ref 188 :: .ref 189 :: .int 0 :: .ref 190 :: .ref 191 :: .ref 192 :: .ref 193 :: .ref 194 :: .int 0 :: .ref 195 :: .ref 196 :: .ref 197 :: .int 0 :: .ref 198 :: .ref 199 :: .ref 200 :: .ref 201 :: .ref 202 :: .ref 203 :: .int 0 :: .ref 204 :: .ref 205 :: .ref 206 :: .ref 207 :: .ref 208 :: .ref 209 :: .ref 210 :: .ref 211 :: .ref 212 :: .ref 213 :: .ref 214 :: .int 0 :: .ref 215 :: .ref 216 :: .int 0 :: .ref 217 :: .ref 218 :: .ref 219 :: .ref 220 :: .ref 221 :: .int 0 :: .int 0 :: .int 0 :: .int 0 :: .ref 222 :: .int 0 :: [])))] mv_X9_160 rfl rfl rfl (c_X9_cutsLines_198) rfl dX9_cuts_18 (Nat.le_of_ble_eq_true rfl) (Nat.le_of_ble_eq_true rfl) rfl (Nat.le_of_ble_eq_true rfl) (Nat.le_of_ble_eq_true rfl) (Nat.le_of_ble_eq_true rfl) rfl ?_
  refine aw_goto C 76 dX9_cuts_21 (by decide) ?_
  refine aw_ald_n C dX9_cuts_76 rfl ?_
  refine aw_get C gf_X9_145 rfl rfl dX9_cuts_77 ?_
  exact aw_iret C rfl rfl dX9_cuts_80 (Nat.le_of_ble_eq_true rfl) (Nat.le_of_ble_eq_true rfl) ⟨rfl, rfl, rfl⟩

set_option maxHeartbeats 4000000 in
set_option maxRecDepth 100000 in
theorem c_X9_cutsAll_523 {X : GX} {l : Launch} {f : AH} {n : Nat} {g182dx182dx182 : Nat → Int32} (h181 : f 181 = some (.inr (9, (.int 1 :: .ref 182 :: .ref 183 :: .ref 184 :: .ref 185 :: .int 0 :: .int 0 :: .int 4 :: .ref 186 :: .int 0 :: .int 0 :: .int 0 :: .int (-1) :: .ref 187 :: .ref 188 :: .ref 189 :: .int 0 :: .ref 190 :: .ref 191 :: .ref 192 :: .ref 193 :: .ref 194 :: .int 0 :: .ref 195 :: .ref 196 :: .ref 197 :: .int 0 :: .ref 198 :: .ref 199 :: .ref 200 :: .ref 201 :: .ref 202 :: .ref 203 :: .int 0 :: .ref 204 :: .ref 205 :: .ref 206 :: .ref 207 :: .ref 208 :: .ref 209 :: .ref 210 :: .ref 211 :: .ref 212 :: .ref 213 :: .ref 214 :: .int 0 :: .ref 215 :: .ref 216 :: .int 0 :: .ref 217 :: .ref 218 :: .ref 219 :: .ref 220 :: .ref 221 :: .int 0 :: .int 0 :: .int 0 :: .int 0 :: .ref 222 :: .int 0 :: [])))) (h182 : f 182 = some (.inl (0, 4347, .inl (cpy (cpy (tl (upd (upd (fun _ => 0) 2 (-1)) 4 1) 40) (fun _ => 0) 4347) g182dx182dx182 4347)))) : AM X l yX9_cutsAll cX9_cutsAll 5 none 2 0 0 [.ref 181] f n (EXO f [(181, .inr (9, (.int 1 :: .ref 182 :: .ref 183 :: .ref 184 :: .ref 185 :: .int 0 :: .int 0 :: .int 4 :: .ref 186 :: .int 0 :: .int 0 :: .int 0 :: .int (-1) :: .ref 187 :: .ref 188 :: .ref 189 :: .int 0 :: .ref 190 :: .ref 191 :: .ref 192 :: .ref 193 :: .ref 194 :: .int 0 :: .ref 195 :: .ref 196 :: .ref 197 :: .int 0 :: .ref 198 :: .ref 199 :: .ref 200 :: .ref 201 :: .ref 202 :: .ref 203 :: .int 0 :: .ref 204 :: .ref 205 :: .ref 206 :: .ref 207 :: .ref 208 :: .ref 209 :: .ref 210 :: .ref 211 :: .ref 212 :: .ref 213 :: .ref 214 :: .int 0 :: .ref 215 :: .ref 216 :: .int 0 :: .ref 217 :: .ref 218 :: .ref 219 :: .ref 220 :: .ref 221 :: .int 0 :: .int 0 :: .int 0 :: .int 0 :: .ref 222 :: .int 0 :: [])))] none n) := by
  refine AM.of (by decide +kernel) rfl (by decide) (fun p e s m args below meth c C hnm => ?_)
  refine ao_start ?_
  refine aw_nl [some (.ref 181), none, none, none, none] rfl ?_
  refine aw_ald_n C dX9_cutsAll_0 rfl ?_
  refine aw_iconst C 0 dX9_cutsAll_1 ki_0 ?_
  refine ao_put C [(181, .inr (9, (.int 1 :: .ref 182 :: .ref 183 :: .ref 184 :: .ref 185 :: .int 0 :: .int 0 :: .int 4 :: .ref 186 :: .int 0 :: .int 0 :: .int 0 :: .int (-1) :: .ref 187 :: .ref 188 :: .ref 189 :: .int 0 :: .ref 190 :: .ref 191 :: .ref 192 :: .ref 193 :: .ref 194 :: .int 0 :: .ref 195 :: .ref 196 :: .ref 197 :: .int 0 :: .ref 198 :: .ref 199 :: .ref 200 :: .ref 201 :: .ref 202 :: .ref 203 :: .int 0 :: .ref 204 :: .ref 205 :: .ref 206 :: .ref 207 :: .ref 208 :: .ref 209 :: .ref 210 :: .ref 211 :: .ref 212 :: .ref 213 :: .ref 214 :: .int 0 :: .ref 215 :: .ref 216 :: .int 0 :: .ref 217 :: .ref 218 :: .ref 219 :: .ref 220 :: .ref 221 :: .int 0 :: .int 0 :: .int 0 :: .int 0 :: .ref 222 :: .int 0 :: [])))] gf_X9_204 cf9 nf9_33 h181 (Nat.le_of_ble_eq_true rfl) rfl rfl dX9_cutsAll_2 rfl ?_
  refine aw_ald_n C dX9_cutsAll_5 rfl ?_
  refine aw_iconst C 0 dX9_cutsAll_6 ki_0 ?_
  refine ao_put C [(181, .inr (9, (.int 1 :: .ref 182 :: .ref 183 :: .ref 184 :: .ref 185 :: .int 0 :: .int 0 :: .int 4 :: .ref 186 :: .int 0 :: .int 0 :: .int 0 :: .int (-1) :: .ref 187 :: .ref 188 :: .ref 189 :: .int 0 :: .ref 190 :: .ref 191 :: .ref 192 :: .ref 193 :: .ref 194 :: .int 0 :: .ref 195 :: .ref 196 :: .ref 197 :: .int 0 :: .ref 198 :: .ref 199 :: .ref 200 :: .ref 201 :: .ref 202 :: .ref 203 :: .int 0 :: .ref 204 :: .ref 205 :: .ref 206 :: .ref 207 :: .ref 208 :: .ref 209 :: .ref 210 :: .ref 211 :: .ref 212 :: .ref 213 :: .ref 214 :: .int 0 :: .ref 215 :: .ref 216 :: .int 0 :: .ref 217 :: .ref 218 :: .ref 219 :: .ref 220 :: .ref 221 :: .int 0 :: .int 0 :: .int 0 :: .int 0 :: .ref 222 :: .int 0 :: [])))] gf_X9_217 cf9 nf9_45 rfl (Nat.le_of_ble_eq_true rfl) rfl rfl dX9_cutsAll_7 rfl ?_
  refine aw_iconst C 0 dX9_cutsAll_10 ki_0 ?_
  refine aw_istore_n C dX9_cutsAll_11 (by decide) rfl ?_
  refine aw_nl [some (.ref 181), some (.int 0), none, none, none] rfl ?_
  refine aw_iload_n C dX9_cutsAll_12 rfl ?_
  refine aw_ald_n C dX9_cutsAll_13 rfl ?_
  refine aw_get C gf_X9_220 rfl rfl dX9_cutsAll_14 ?_
  refine aw_icmp_ge C 42 dX9_cutsAll_17 (by decide) (fun _ => ?_) (fun q => absurd (by decide) q)
  refine aw_ald_n C dX9_cutsAll_42 rfl ?_
  refine aw_ald_n C dX9_cutsAll_43 rfl ?_
  refine aw_ald_n C dX9_cutsAll_44 rfl ?_
  refine aw_get C gf_X9_7 rfl rfl dX9_cutsAll_45 ?_
  refine aw_iconst C 1 dX9_cutsAll_48 ki_1 ?_
  refine ao_iald C 0 h182 (by unfold vp_in; decide) (by decide : _ = 1) rfl dX9_cutsAll_49 ?_
  refine aw_ald_n C dX9_cutsAll_50 rfl ?_
  refine aw_get C gf_X9_30 rfl rfl dX9_cutsAll_51 ?_
  refine aw_ald_n C dX9_cutsAll_54 rfl ?_
  refine aw_get C gf_X9_220 rfl rfl dX9_cutsAll_55 ?_
  refine aw_ald_n C dX9_cutsAll_58 rfl ?_
  refine aw_get C gf_X9_39 rfl rfl dX9_cutsAll_59 ?_
  refine aw_ald_n C dX9_cutsAll_62 rfl ?_
  refine aw_get C gf_X9_42 rfl rfl dX9_cutsAll_63 ?_
  refine aw_ald_n C dX9_cutsAll_66 rfl ?_
  refine aw_get C gf_X9_45 rfl rfl dX9_cutsAll_67 ?_
  refine ao_callV C (ci := 9) (b := 181) [.int 0, .ref 187, .int 0, .ref 190, .ref 191, .ref 192] [(181, .inr (9, (.int 1 :: .ref 182 :: .ref 183 :: .ref 184 :: .ref 185 :: .int 0 :: .int 0 :: .int 4 :: .ref 186 :: .int 0 :: .int 0 :: .int 0 :: .int (-1) :: .ref 187 :: .ref 188 :: .ref 189 :: .int 0 :: .ref 190 :: .ref 191 :: .ref 192 :: .ref 193 :: .ref 194 :: .int 0 :: .ref 195 :: .ref 196 :: .ref 197 :: .int 0 :: .ref 198 :: .ref 199 :: .ref 200 :: .ref 201 :: .ref 202 :: .ref 203 :: .int 0 :: .ref 204 :: .ref 205 :: .ref 206 :: .ref 207 :: .ref 208 :: .ref 209 :: .ref 210 :: .ref 211 :: .ref 212 :: .ref 213 :: .ref 214 :: .int 0 :: .ref 215 :: .ref 216 :: .int 0 :: .ref 217 :: .ref 218 :: .ref 219 :: .ref 220 :: .ref 221 :: .int 0 :: .int 0 :: .int 0 :: .int 0 :: .ref 222 :: .int 0 :: [])))] mv_X9_223 rfl rfl rfl (c_X9_cuts_522 rfl) rfl dX9_cutsAll_70 (Nat.le_of_ble_eq_true rfl) (Nat.le_of_ble_eq_true rfl) rfl (Nat.le_of_ble_eq_true rfl) (Nat.le_of_ble_eq_true rfl) (Nat.le_of_ble_eq_true rfl) rfl ?_
  refine ao_put C [(181, .inr (9, (.int 1 :: .ref 182 :: .ref 183 :: .ref 184 :: .ref 185 :: .int 0 :: .int 0 :: .int 4 :: .ref 186 :: .int 0 :: .int 0 :: .int 0 :: .int (-1) :: .ref 187 :: .ref 188 :: .ref 189 :: .int 0 :: .ref 190 :: .ref 191 :: .ref 192 :: .ref 193 :: .ref 194 :: .int 0 :: .ref 195 :: .ref 196 :: .ref 197 :: .int 0 :: .ref 198 :: .ref 199 :: .ref 200 :: .ref 201 :: .ref 202 :: .ref 203 :: .int 0 :: .ref 204 :: .ref 205 :: .ref 206 :: .ref 207 :: .ref 208 :: .ref 209 :: .ref 210 :: .ref 211 :: .ref 212 :: .ref 213 :: .ref 214 :: .int 0 :: .ref 215 :: .ref 216 :: .int 0 :: .ref 217 :: .ref 218 :: .ref 219 :: .ref 220 :: .ref 221 :: .int 0 :: .int 0 :: .int 0 :: .int 0 :: .ref 222 :: .int 0 :: [])))] gf_X9_227 cf9 nf9_22 rfl (Nat.le_of_ble_eq_true rfl) rfl rfl dX9_cutsAll_73 rfl ?_
  refine aw_iconst C 0 dX9_cutsAll_76 ki_0 ?_
  refine aw_istore_n C dX9_cutsAll_77 (by decide) rfl ?_
  refine aw_nl [some (.ref 181), some (.int 0), none, none, none] rfl ?_
  refine aw_iload_n C dX9_cutsAll_78 rfl ?_
  refine aw_ald_n C dX9_cutsAll_79 rfl ?_
  refine aw_get C gf_X9_227 rfl rfl dX9_cutsAll_80 ?_
  refine aw_icmp_ge C 339 dX9_cutsAll_83 (by decide) (fun _ => ?_) (fun q => absurd (by decide) q)
  exact aw_vret C rfl dX9_cutsAll_339 (Nat.le_of_ble_eq_true rfl) (Nat.le_of_ble_eq_true rfl) ⟨rfl, rfl, rfl⟩

set_option maxHeartbeats 4000000 in
set_option maxRecDepth 100000 in
theorem c_X9_cutsFile_524 {X : GX} {l : Launch} {f : AH} {n : Nat} {g182dx182 : Nat → Int32} (h181 : f 181 = some (.inr (9, (.int 1 :: .ref 182 :: .ref 183 :: .ref 184 :: .ref 185 :: .int 0 :: .int 0 :: .int 4 :: .ref 186 :: .int 0 :: .int 0 :: .int 0 :: .int (-1) :: .ref 187 :: .ref 188 :: .ref 189 :: .int 0 :: .ref 190 :: .ref 191 :: .ref 192 :: .ref 193 :: .ref 194 :: .int 0 :: .ref 195 :: .ref 196 :: .ref 197 :: .int 0 :: .ref 198 :: .ref 199 :: .ref 200 :: .ref 201 :: .ref 202 :: .ref 203 :: .int 0 :: .ref 204 :: .ref 205 :: .ref 206 :: .ref 207 :: .ref 208 :: .ref 209 :: .ref 210 :: .ref 211 :: .ref 212 :: .ref 213 :: .ref 214 :: .int 0 :: .ref 215 :: .ref 216 :: .int 0 :: .ref 217 :: .ref 218 :: .ref 219 :: .ref 220 :: .ref 221 :: .int 0 :: .int 0 :: .int 0 :: .int 0 :: .ref 222 :: .int 0 :: [])))) (h182 : f 182 = some (.inl (0, 4347, .inl (cpy (cpy (tl (upd (upd (fun _ => 0) 2 (-1)) 4 1) 40) (fun _ => 0) 4347) g182dx182 4347)))) : AM X l yX9_cutsFile cX9_cutsFile 2 none 3 0 0 [.ref 181] f n (EXO f [(181, .inr (9, (.int 1 :: .ref 182 :: .ref 183 :: .ref 184 :: .ref 185 :: .int 0 :: .int 0 :: .int 4 :: .ref 186 :: .int 0 :: .int 0 :: .int 0 :: .int (-1) :: .ref 187 :: .ref 188 :: .ref 189 :: .int 0 :: .ref 190 :: .ref 191 :: .ref 192 :: .ref 193 :: .ref 194 :: .int 0 :: .ref 195 :: .ref 196 :: .ref 197 :: .int 0 :: .ref 198 :: .ref 199 :: .ref 200 :: .ref 201 :: .ref 202 :: .ref 203 :: .int 0 :: .ref 204 :: .ref 205 :: .ref 206 :: .ref 207 :: .ref 208 :: .ref 209 :: .ref 210 :: .ref 211 :: .ref 212 :: .ref 213 :: .ref 214 :: .int 0 :: .ref 215 :: .ref 216 :: .int 0 :: .ref 217 :: .ref 218 :: .ref 219 :: .ref 220 :: .ref 221 :: .int 0 :: .int 0 :: .int 0 :: .int 0 :: .ref 222 :: .int 0 :: [])))] none n) := by
  refine AM.of (by decide +kernel) rfl (by decide) (fun p e s m args below meth c C hnm => ?_)
  refine ao_start ?_
  refine aw_nl [some (.ref 181), none] rfl ?_
  refine aw_ald_n C dX9_cutsFile_0 rfl ?_
  refine aw_ald_n C dX9_cutsFile_1 rfl ?_
  refine aw_get C gf_X9_7 h181 rfl dX9_cutsFile_2 ?_
  refine aw_iconst C 0 dX9_cutsFile_5 ki_0 ?_
  refine ao_iald C 0 h182 (by unfold vp_in; decide) (by decide : _ = 0) rfl dX9_cutsFile_6 ?_
  refine ao_put C [(181, .inr (9, (.int 1 :: .ref 182 :: .ref 183 :: .ref 184 :: .ref 185 :: .int 0 :: .int 0 :: .int 4 :: .ref 186 :: .int 0 :: .int 0 :: .int 0 :: .int (-1) :: .ref 187 :: .ref 188 :: .ref 189 :: .int 0 :: .ref 190 :: .ref 191 :: .ref 192 :: .ref 193 :: .ref 194 :: .int 0 :: .ref 195 :: .ref 196 :: .ref 197 :: .int 0 :: .ref 198 :: .ref 199 :: .ref 200 :: .ref 201 :: .ref 202 :: .ref 203 :: .int 0 :: .ref 204 :: .ref 205 :: .ref 206 :: .ref 207 :: .ref 208 :: .ref 209 :: .ref 210 :: .ref 211 :: .ref 212 :: .ref 213 :: .ref 214 :: .int 0 :: .ref 215 :: .ref 216 :: .int 0 :: .ref 217 :: .ref 218 :: .ref 219 :: .ref 220 :: .ref 221 :: .int 0 :: .int 0 :: .int 0 :: .int 0 :: .ref 222 :: .int 0 :: [])))] gf_X9_220 cf9 nf9_16 h181 (Nat.le_of_ble_eq_true rfl) rfl rfl dX9_cutsFile_7 rfl ?_
  refine aw_iconst C 0 dX9_cutsFile_10 ki_0 ?_
  refine aw_istore_n C dX9_cutsFile_11 (by decide) rfl ?_
  refine aw_nl [some (.ref 181), some (.int 0)] rfl ?_
  refine aw_iload_n C dX9_cutsFile_12 rfl ?_
  refine aw_ald_n C dX9_cutsFile_13 rfl ?_
  refine aw_get C gf_X9_220 rfl rfl dX9_cutsFile_14 ?_
  refine aw_icmp_ge C 41 dX9_cutsFile_17 (by decide) (fun _ => ?_) (fun q => absurd (by decide) q)
  refine aw_ald_n C dX9_cutsFile_41 rfl ?_
  refine ao_callV C (ci := 9) (b := 181) [] [(181, .inr (9, (.int 1 :: .ref 182 :: .ref 183 :: .ref 184 :: .ref 185 :: .int 0 :: .int 0 :: .int 4 :: .ref 186 :: .int 0 :: .int 0 :: .int 0 :: .int (-1) :: .ref 187 :: .ref 188 :: .ref 189 :: .int 0 :: .ref 190 :: .ref 191 :: .ref 192 :: .ref 193 :: .ref 194 :: .int 0 :: .ref 195 :: .ref 196 :: .ref 197 :: .int 0 :: .ref 198 :: .ref 199 :: .ref 200 :: .ref 201 :: .ref 202 :: .ref 203 :: .int 0 :: .ref 204 :: .ref 205 :: .ref 206 :: .ref 207 :: .ref 208 :: .ref 209 :: .ref 210 :: .ref 211 :: .ref 212 :: .ref 213 :: .ref 214 :: .int 0 :: .ref 215 :: .ref 216 :: .int 0 :: .ref 217 :: .ref 218 :: .ref 219 :: .ref 220 :: .ref 221 :: .int 0 :: .int 0 :: .int 0 :: .int 0 :: .ref 222 :: .int 0 :: [])))] mv_X9_241 rfl rfl rfl (c_X9_cutsAll_523 rfl h182) rfl dX9_cutsFile_42 (Nat.le_of_ble_eq_true rfl) (Nat.le_of_ble_eq_true rfl) rfl (Nat.le_of_ble_eq_true rfl) (Nat.le_of_ble_eq_true rfl) (Nat.le_of_ble_eq_true rfl) rfl ?_
  exact aw_vret C rfl dX9_cutsFile_45 (Nat.le_of_ble_eq_true rfl) (Nat.le_of_ble_eq_true rfl) ⟨rfl, rfl, rfl⟩

set_option maxHeartbeats 4000000 in
set_option maxRecDepth 100000 in
theorem c_X9_putsBack_525 {X : GX} {l : Launch} {f : AH} {n : Nat} {g182 : Nat → Int32} (h181 : f 181 = some (.inr (9, (.int 1 :: .ref 182 :: .ref 183 :: .ref 184 :: .ref 185 :: .int 0 :: .int 0 :: .int 4 :: .ref 186 :: .int 0 :: .int 0 :: .int 0 :: .int (-1) :: .ref 187 :: .ref 188 :: .ref 189 :: .int 0 :: .ref 190 :: .ref 191 :: .ref 192 :: .ref 193 :: .ref 194 :: .int 0 :: .ref 195 :: .ref 196 :: .ref 197 :: .int 0 :: .ref 198 :: .ref 199 :: .ref 200 :: .ref 201 :: .ref 202 :: .ref 203 :: .int 0 :: .ref 204 :: .ref 205 :: .ref 206 :: .ref 207 :: .ref 208 :: .ref 209 :: .ref 210 :: .ref 211 :: .ref 212 :: .ref 213 :: .ref 214 :: .int 0 :: .ref 215 :: .ref 216 :: .int 0 :: .ref 217 :: .ref 218 :: .ref 219 :: .ref 220 :: .ref 221 :: .int 0 :: .int 0 :: .int 0 :: .int 0 :: .ref 222 :: .int 0 :: [])))) (h182 : f 182 = some (.inl (0, 4347, .inl g182))) (h183 : f 183 = some (.inl (0, 4347, .inl (cpy (tl (upd (upd (fun _ => 0) 2 (-1)) 4 1) 40) (fun _ => 0) 4347)))) : AM X l yX9_putsBack cX9_putsBack 2 none 4 0 0 [.ref 181] f n (EXO f [(182, .inl (0, 4347, .inl (cpy (cpy (tl (upd (upd (fun _ => 0) 2 (-1)) 4 1) 40) (fun _ => 0) 4347) g182 4347))), (181, .inr (9, (.int 1 :: .ref 182 :: .ref 183 :: .ref 184 :: .ref 185 :: .int 0 :: .int 0 :: .int 4 :: .ref 186 :: .int 0 :: .int 0 :: .int 0 :: .int (-1) :: .ref 187 :: .ref 188 :: .ref 189 :: .int 0 :: .ref 190 :: .ref 191 :: .ref 192 :: .ref 193 :: .ref 194 :: .int 0 :: .ref 195 :: .ref 196 :: .ref 197 :: .int 0 :: .ref 198 :: .ref 199 :: .ref 200 :: .ref 201 :: .ref 202 :: .ref 203 :: .int 0 :: .ref 204 :: .ref 205 :: .ref 206 :: .ref 207 :: .ref 208 :: .ref 209 :: .ref 210 :: .ref 211 :: .ref 212 :: .ref 213 :: .ref 214 :: .int 0 :: .ref 215 :: .ref 216 :: .int 0 :: .ref 217 :: .ref 218 :: .ref 219 :: .ref 220 :: .ref 221 :: .int 0 :: .int 0 :: .int 0 :: .int 0 :: .ref 222 :: .int 0 :: [])))] none n) := by
  refine AM.of (by decide +kernel) rfl (by decide) (fun p e s m args below meth c C hnm => ?_)
  refine ao_start ?_
  refine aw_nl [some (.ref 181), none] rfl ?_
  refine aw_iconst C 0 dX9_putsBack_0 ki_0 ?_
  refine aw_istore_n C dX9_putsBack_1 (by decide) rfl ?_
  refine aw_nl [some (.ref 181), some (.int 0)] rfl ?_
  refine lp_X9_putsBack C (M := 181) (a := 182) (b := 183) (fs := (.int 1 :: .ref 182 :: .ref 183 :: .ref 184 :: .ref 185 :: .int 0 :: .int 0 :: .int 4 :: .ref 186 :: .int 0 :: .int 0 :: .int 0 :: .int (-1) :: .ref 187 :: .ref 188 :: .ref 189 :: .int 0 :: .ref 190 :: .ref 191 :: .ref 192 :: .ref 193 :: .ref 194 :: .int 0 :: .ref 195 :: .ref 196 :: .ref 197 :: .int 0 :: .ref 198 :: .ref 199 :: .ref 200 :: .ref 201 :: .ref 202 :: .ref 203 :: .int 0 :: .ref 204 :: .ref 205 :: .ref 206 :: .ref 207 :: .ref 208 :: .ref 209 :: .ref 210 :: .ref 211 :: .ref 212 :: .ref 213 :: .ref 214 :: .int 0 :: .ref 215 :: .ref 216 :: .int 0 :: .ref 217 :: .ref 218 :: .ref 219 :: .ref 220 :: .ref 221 :: .int 0 :: .int 0 :: .int 0 :: .int 0 :: .ref 222 :: .int 0 :: [])) (g := g182) (src := cpy (tl (upd (upd (fun _ => 0) 2 (-1)) 4 1) 40) (fun _ => 0) 4347) [(182, .inl (0, 4347, .inl (cpy (cpy (tl (upd (upd (fun _ => 0) 2 (-1)) 4 1) 40) (fun _ => 0) 4347) g182 4347)))] h181 rfl rfl (by decide) (by decide) h182 h183 rfl ?_
  refine aw_ald_n C dX9_putsBack_27 rfl ?_
  refine ao_callV C (ci := 9) (b := 181) [] [(182, .inl (0, 4347, .inl (cpy (cpy (tl (upd (upd (fun _ => 0) 2 (-1)) 4 1) 40) (fun _ => 0) 4347) g182 4347))), (181, .inr (9, (.int 1 :: .ref 182 :: .ref 183 :: .ref 184 :: .ref 185 :: .int 0 :: .int 0 :: .int 4 :: .ref 186 :: .int 0 :: .int 0 :: .int 0 :: .int (-1) :: .ref 187 :: .ref 188 :: .ref 189 :: .int 0 :: .ref 190 :: .ref 191 :: .ref 192 :: .ref 193 :: .ref 194 :: .int 0 :: .ref 195 :: .ref 196 :: .ref 197 :: .int 0 :: .ref 198 :: .ref 199 :: .ref 200 :: .ref 201 :: .ref 202 :: .ref 203 :: .int 0 :: .ref 204 :: .ref 205 :: .ref 206 :: .ref 207 :: .ref 208 :: .ref 209 :: .ref 210 :: .ref 211 :: .ref 212 :: .ref 213 :: .ref 214 :: .int 0 :: .ref 215 :: .ref 216 :: .int 0 :: .ref 217 :: .ref 218 :: .ref 219 :: .ref 220 :: .ref 221 :: .int 0 :: .int 0 :: .int 0 :: .int 0 :: .ref 222 :: .int 0 :: [])))] mv_X9_244 rfl rfl h181 (c_X9_cutsFile_524 h181 rfl) rfl dX9_putsBack_28 (Nat.le_of_ble_eq_true rfl) (Nat.le_of_ble_eq_true rfl) rfl (Nat.le_of_ble_eq_true rfl) (Nat.le_of_ble_eq_true rfl) (Nat.le_of_ble_eq_true rfl) rfl ?_
  exact aw_vret C rfl dX9_putsBack_31 (Nat.le_of_ble_eq_true rfl) (Nat.le_of_ble_eq_true rfl) ⟨rfl, rfl, rfl⟩

set_option maxHeartbeats 4000000 in
set_option maxRecDepth 100000 in
theorem c_X9_isDone_526 {X : GX} {l : Launch} {f : AH} {n : Nat} {g182 : Nat → Int32} (h181 : f 181 = some (.inr (9, (.int 0 :: .ref 182 :: .ref 183 :: .ref 184 :: .ref 185 :: .int 0 :: .int 0 :: .int 0 :: .ref 186 :: .int 0 :: .int 0 :: .int 0 :: .int (-1) :: .ref 187 :: .ref 188 :: .ref 189 :: .int 0 :: .ref 190 :: .ref 191 :: .ref 192 :: .ref 193 :: .ref 194 :: .int 0 :: .ref 195 :: .ref 196 :: .ref 197 :: .int 0 :: .ref 198 :: .ref 199 :: .ref 200 :: .ref 201 :: .ref 202 :: .ref 203 :: .int 0 :: .ref 204 :: .ref 205 :: .ref 206 :: .ref 207 :: .ref 208 :: .ref 209 :: .ref 210 :: .ref 211 :: .ref 212 :: .ref 213 :: .ref 214 :: .int 0 :: .ref 215 :: .ref 216 :: .int 0 :: .ref 217 :: .ref 218 :: .ref 219 :: .ref 220 :: .ref 221 :: .int 0 :: .int 0 :: .int 0 :: .int 0 :: .ref 222 :: .int 0 :: [])))) (h182 : f 182 = some (.inl (0, 4347, .inl g182))) (h183 : f 183 = some (.inl (0, 4347, .inl (cpy (tl (upd (upd (fun _ => 0) 2 (-1)) 4 1) 40) (fun _ => 0) 4347)))) : AM X l yX9_isDone cX9_isDone 3 (some .boolean) 5 0 0 [.ref 181, .int 4, .int 1] f n (EXO f [(181, .inr (9, (.int 1 :: .ref 182 :: .ref 183 :: .ref 184 :: .ref 185 :: .int 0 :: .int 0 :: .int 4 :: .ref 186 :: .int 0 :: .int 0 :: .int 0 :: .int (-1) :: .ref 187 :: .ref 188 :: .ref 189 :: .int 0 :: .ref 190 :: .ref 191 :: .ref 192 :: .ref 193 :: .ref 194 :: .int 0 :: .ref 195 :: .ref 196 :: .ref 197 :: .int 0 :: .ref 198 :: .ref 199 :: .ref 200 :: .ref 201 :: .ref 202 :: .ref 203 :: .int 0 :: .ref 204 :: .ref 205 :: .ref 206 :: .ref 207 :: .ref 208 :: .ref 209 :: .ref 210 :: .ref 211 :: .ref 212 :: .ref 213 :: .ref 214 :: .int 0 :: .ref 215 :: .ref 216 :: .int 0 :: .ref 217 :: .ref 218 :: .ref 219 :: .ref 220 :: .ref 221 :: .int 0 :: .int 0 :: .int 0 :: .int 0 :: .ref 222 :: .int 0 :: []))), (182, .inl (0, 4347, .inl (cpy (cpy (tl (upd (upd (fun _ => 0) 2 (-1)) 4 1) 40) (fun _ => 0) 4347) g182 4347)))] (some (.int 0)) n) := by
  refine AM.of (by decide +kernel) rfl (by decide) (fun p e s m args below meth c C hnm => ?_)
  refine ao_start ?_
  refine aw_nl [some (.ref 181), some (.int 4), some (.int 1)] rfl ?_
  refine aw_ald_n C dX9_isDone_0 rfl ?_
  refine aw_iload_n C dX9_isDone_1 rfl ?_
  refine ao_put C [(181, .inr (9, (.int 0 :: .ref 182 :: .ref 183 :: .ref 184 :: .ref 185 :: .int 0 :: .int 0 :: .int 4 :: .ref 186 :: .int 0 :: .int 0 :: .int 0 :: .int (-1) :: .ref 187 :: .ref 188 :: .ref 189 :: .int 0 :: .ref 190 :: .ref 191 :: .ref 192 :: .ref 193 :: .ref 194 :: .int 0 :: .ref 195 :: .ref 196 :: .ref 197 :: .int 0 :: .ref 198 :: .ref 199 :: .ref 200 :: .ref 201 :: .ref 202 :: .ref 203 :: .int 0 :: .ref 204 :: .ref 205 :: .ref 206 :: .ref 207 :: .ref 208 :: .ref 209 :: .ref 210 :: .ref 211 :: .ref 212 :: .ref 213 :: .ref 214 :: .int 0 :: .ref 215 :: .ref 216 :: .int 0 :: .ref 217 :: .ref 218 :: .ref 219 :: .ref 220 :: .ref 221 :: .int 0 :: .int 0 :: .int 0 :: .int 0 :: .ref 222 :: .int 0 :: [])))] gf_X9_328 cf9 nf9_7 h181 (Nat.le_of_ble_eq_true rfl) rfl rfl dX9_isDone_2 rfl ?_
  refine aw_ald_n C dX9_isDone_5 rfl ?_
  refine aw_iload_n C dX9_isDone_6 rfl ?_
  refine aw_if_le C 14 dX9_isDone_7 (by decide) (fun q => absurd q (by decide)) (fun _ => ?_)
  refine aw_iload_n C dX9_isDone_10 rfl ?_
  refine aw_goto C 15 dX9_isDone_11 (by decide) ?_
  refine ao_put C [(181, .inr (9, (.int 1 :: .ref 182 :: .ref 183 :: .ref 184 :: .ref 185 :: .int 0 :: .int 0 :: .int 4 :: .ref 186 :: .int 0 :: .int 0 :: .int 0 :: .int (-1) :: .ref 187 :: .ref 188 :: .ref 189 :: .int 0 :: .ref 190 :: .ref 191 :: .ref 192 :: .ref 193 :: .ref 194 :: .int 0 :: .ref 195 :: .ref 196 :: .ref 197 :: .int 0 :: .ref 198 :: .ref 199 :: .ref 200 :: .ref 201 :: .ref 202 :: .ref 203 :: .int 0 :: .ref 204 :: .ref 205 :: .ref 206 :: .ref 207 :: .ref 208 :: .ref 209 :: .ref 210 :: .ref 211 :: .ref 212 :: .ref 213 :: .ref 214 :: .int 0 :: .ref 215 :: .ref 216 :: .int 0 :: .ref 217 :: .ref 218 :: .ref 219 :: .ref 220 :: .ref 221 :: .int 0 :: .int 0 :: .int 0 :: .int 0 :: .ref 222 :: .int 0 :: [])))] gf_X9_138 cf9 nf9_0 rfl (Nat.le_of_ble_eq_true rfl) rfl rfl dX9_isDone_15 rfl ?_
  refine aw_iload_n C dX9_isDone_18 rfl ?_
  refine aw_if_ne C 29 dX9_isDone_19 (by decide) (fun _ => ?_) (fun q => absurd q (by decide))
  refine aw_ald_n C dX9_isDone_29 rfl ?_
  refine ao_callV C (ci := 9) (b := 181) [] [(181, .inr (9, (.int 1 :: .ref 182 :: .ref 183 :: .ref 184 :: .ref 185 :: .int 0 :: .int 0 :: .int 4 :: .ref 186 :: .int 0 :: .int 0 :: .int 0 :: .int (-1) :: .ref 187 :: .ref 188 :: .ref 189 :: .int 0 :: .ref 190 :: .ref 191 :: .ref 192 :: .ref 193 :: .ref 194 :: .int 0 :: .ref 195 :: .ref 196 :: .ref 197 :: .int 0 :: .ref 198 :: .ref 199 :: .ref 200 :: .ref 201 :: .ref 202 :: .ref 203 :: .int 0 :: .ref 204 :: .ref 205 :: .ref 206 :: .ref 207 :: .ref 208 :: .ref 209 :: .ref 210 :: .ref 211 :: .ref 212 :: .ref 213 :: .ref 214 :: .int 0 :: .ref 215 :: .ref 216 :: .int 0 :: .ref 217 :: .ref 218 :: .ref 219 :: .ref 220 :: .ref 221 :: .int 0 :: .int 0 :: .int 0 :: .int 0 :: .ref 222 :: .int 0 :: []))), (182, .inl (0, 4347, .inl (cpy (cpy (tl (upd (upd (fun _ => 0) 2 (-1)) 4 1) 40) (fun _ => 0) 4347) g182 4347)))] mv_X9_334 rfl rfl rfl (c_X9_putsBack_525 rfl h182 h183) rfl dX9_isDone_30 (Nat.le_of_ble_eq_true rfl) (Nat.le_of_ble_eq_true rfl) rfl (Nat.le_of_ble_eq_true rfl) (Nat.le_of_ble_eq_true rfl) (Nat.le_of_ble_eq_true rfl) rfl ?_
  refine aw_iload_n C dX9_isDone_33 rfl ?_
  refine aw_if_ne C 41 dX9_isDone_34 (by decide) (fun _ => ?_) (fun q => absurd q (by decide))
  refine aw_iconst C 0 dX9_isDone_41 ki_0 ?_
  exact aw_iret C rfl (by decide) dX9_isDone_42 (Nat.le_of_ble_eq_true rfl) (Nat.le_of_ble_eq_true rfl) ⟨rfl, rfl, rfl⟩

set_option maxHeartbeats 4000000 in
set_option maxRecDepth 100000 in
theorem c_X9_wipe_527 {X : GX} {l : Launch} {f : AH} {n : Nat} (h181 : f 181 = some (.inr (9, (.int 0 :: .ref 182 :: .ref 183 :: .ref 184 :: .ref 185 :: .int 0 :: .int 0 :: .int 0 :: .ref 186 :: .int 0 :: .int 0 :: .int 0 :: .int (-1) :: .ref 187 :: .ref 188 :: .ref 189 :: .int 0 :: .ref 190 :: .ref 191 :: .ref 192 :: .ref 193 :: .ref 194 :: .int 0 :: .ref 195 :: .ref 196 :: .ref 197 :: .int 0 :: .ref 198 :: .ref 199 :: .ref 200 :: .ref 201 :: .ref 202 :: .ref 203 :: .int 0 :: .ref 204 :: .ref 205 :: .ref 206 :: .ref 207 :: .ref 208 :: .ref 209 :: .ref 210 :: .ref 211 :: .ref 212 :: .ref 213 :: .ref 214 :: .int 0 :: .ref 215 :: .ref 216 :: .int 0 :: .ref 217 :: .ref 218 :: .ref 219 :: .ref 220 :: .ref 221 :: .int 0 :: .int 0 :: .int 0 :: .int 0 :: .ref 222 :: .int 0 :: [])))) (h183 : f 183 = some (.inl (0, 4347, .inl (fun _ => 0)))) (h182 : f 182 = some (.inl (0, 4347, .inl (tl (upd (upd (fun _ => 0) 2 (-1)) 4 1) 40)))) : AM X l yX9_wipe cX9_wipe 2 (some .int) 6 0 0 [.ref 181] f n (EXO f [(183, .inl (0, 4347, .inl (cpy (tl (upd (upd (fun _ => 0) 2 (-1)) 4 1) 40) (fun _ => 0) 4347))), (182, .inl (0, 4347, .inl (cpy (cpy (tl (upd (upd (fun _ => 0) 2 (-1)) 4 1) 40) (fun _ => 0) 4347) (tl (upd (upd (fun _ => 0) 2 (-1)) 4 1) 40) 4347))), (181, .inr (9, (.int 1 :: .ref 182 :: .ref 183 :: .ref 184 :: .ref 185 :: .int 0 :: .int 0 :: .int 4 :: .ref 186 :: .int 0 :: .int 0 :: .int 0 :: .int (-1) :: .ref 187 :: .ref 188 :: .ref 189 :: .int 0 :: .ref 190 :: .ref 191 :: .ref 192 :: .ref 193 :: .ref 194 :: .int 0 :: .ref 195 :: .ref 196 :: .ref 197 :: .int 0 :: .ref 198 :: .ref 199 :: .ref 200 :: .ref 201 :: .ref 202 :: .ref 203 :: .int 0 :: .ref 204 :: .ref 205 :: .ref 206 :: .ref 207 :: .ref 208 :: .ref 209 :: .ref 210 :: .ref 211 :: .ref 212 :: .ref 213 :: .ref 214 :: .int 0 :: .ref 215 :: .ref 216 :: .int 0 :: .ref 217 :: .ref 218 :: .ref 219 :: .ref 220 :: .ref 221 :: .int 0 :: .int 0 :: .int 0 :: .int 0 :: .ref 222 :: .int 0 :: [])))] (some (.int 0)) n) := by
  refine AM.of (by decide +kernel) rfl (by decide) (fun p e s m args below meth c C hnm => ?_)
  refine ao_start ?_
  refine aw_nl [some (.ref 181), none] rfl ?_
  refine aw_ald_n C dX9_wipe_0 rfl ?_
  refine ao_callV C (ci := 9) (b := 181) [] [(183, .inl (0, 4347, .inl (cpy (tl (upd (upd (fun _ => 0) 2 (-1)) 4 1) 40) (fun _ => 0) 4347)))] mv_X9_420 rfl rfl h181 (c_X9_putsAside_173 h181 h183 h182) rfl dX9_wipe_1 (Nat.le_of_ble_eq_true rfl) (Nat.le_of_ble_eq_true rfl) rfl (Nat.le_of_ble_eq_true rfl) (Nat.le_of_ble_eq_true rfl) (Nat.le_of_ble_eq_true rfl) rfl ?_
  refine aw_ald_n C dX9_wipe_4 rfl ?_
  refine ao_callV C (ci := 9) (b := 181) [] [(183, .inl (0, 4347, .inl (cpy (tl (upd (upd (fun _ => 0) 2 (-1)) 4 1) 40) (fun _ => 0) 4347)))] mv_X9_319 rfl rfl h181 (c_X9_toldMany_520 h181) rfl dX9_wipe_5 (Nat.le_of_ble_eq_true rfl) (Nat.le_of_ble_eq_true rfl) rfl (Nat.le_of_ble_eq_true rfl) (Nat.le_of_ble_eq_true rfl) (Nat.le_of_ble_eq_true rfl) rfl ?_
  refine aw_istore_n C dX9_wipe_8 (by decide) rfl ?_
  refine aw_nl [some (.ref 181), some (.int 0)] rfl ?_
  refine aw_ald_n C dX9_wipe_9 rfl ?_
  refine aw_ald_n C dX9_wipe_10 rfl ?_
  refine ao_callV C (ci := 9) (b := 181) [] [(183, .inl (0, 4347, .inl (cpy (tl (upd (upd (fun _ => 0) 2 (-1)) 4 1) 40) (fun _ => 0) 4347)))] mv_X9_417 rfl rfl h181 (c_X9_wipe0_521 h181) rfl dX9_wipe_11 (Nat.le_of_ble_eq_true rfl) (Nat.le_of_ble_eq_true rfl) rfl (Nat.le_of_ble_eq_true rfl) (Nat.le_of_ble_eq_true rfl) (Nat.le_of_ble_eq_true rfl) rfl ?_
  refine aw_iconst C 1 dX9_wipe_14 ki_1 ?_
  refine ao_callV C (ci := 9) (b := 181) [.int 4, .int 1] [(183, .inl (0, 4347, .inl (cpy (tl (upd (upd (fun _ => 0) 2 (-1)) 4 1) 40) (fun _ => 0) 4347))), (182, .inl (0, 4347, .inl (cpy (cpy (tl (upd (upd (fun _ => 0) 2 (-1)) 4 1) 40) (fun _ => 0) 4347) (tl (upd (upd (fun _ => 0) 2 (-1)) 4 1) 40) 4347))), (181, .inr (9, (.int 1 :: .ref 182 :: .ref 183 :: .ref 184 :: .ref 185 :: .int 0 :: .int 0 :: .int 4 :: .ref 186 :: .int 0 :: .int 0 :: .int 0 :: .int (-1) :: .ref 187 :: .ref 188 :: .ref 189 :: .int 0 :: .ref 190 :: .ref 191 :: .ref 192 :: .ref 193 :: .ref 194 :: .int 0 :: .ref 195 :: .ref 196 :: .ref 197 :: .int 0 :: .ref 198 :: .ref 199 :: .ref 200 :: .ref 201 :: .ref 202 :: .ref 203 :: .int 0 :: .ref 204 :: .ref 205 :: .ref 206 :: .ref 207 :: .ref 208 :: .ref 209 :: .ref 210 :: .ref 211 :: .ref 212 :: .ref 213 :: .ref 214 :: .int 0 :: .ref 215 :: .ref 216 :: .int 0 :: .ref 217 :: .ref 218 :: .ref 219 :: .ref 220 :: .ref 221 :: .int 0 :: .int 0 :: .int 0 :: .int 0 :: .ref 222 :: .int 0 :: [])))] mv_X9_429 rfl rfl h181 (c_X9_isDone_526 h181 h182 rfl) rfl dX9_wipe_15 (Nat.le_of_ble_eq_true rfl) (Nat.le_of_ble_eq_true rfl) rfl (Nat.le_of_ble_eq_true rfl) (Nat.le_of_ble_eq_true rfl) (Nat.le_of_ble_eq_true rfl) rfl ?_
  refine aw_if_eq C 25 dX9_wipe_18 (by decide) (fun _ => ?_) (fun q => absurd (by decide) q)
  refine aw_iconst C 0 dX9_wipe_25 ki_0 ?_
  exact aw_iret C rfl rfl dX9_wipe_26 (Nat.le_of_ble_eq_true rfl) (Nat.le_of_ble_eq_true rfl) ⟨rfl, rfl, rfl⟩

set_option maxHeartbeats 4000000 in
set_option maxRecDepth 100000 in
theorem c_X9_thrown_528 {X : GX} {l : Launch} {f : AH} {n : Nat} (h181 : f 181 = some (.inr (9, (.int 1 :: .ref 182 :: .ref 183 :: .ref 184 :: .ref 185 :: .int 0 :: .int 0 :: .int 4 :: .ref 186 :: .int 0 :: .int 0 :: .int 0 :: .int (-1) :: .ref 187 :: .ref 188 :: .ref 189 :: .int 0 :: .ref 190 :: .ref 191 :: .ref 192 :: .ref 193 :: .ref 194 :: .int 0 :: .ref 195 :: .ref 196 :: .ref 197 :: .int 0 :: .ref 198 :: .ref 199 :: .ref 200 :: .ref 201 :: .ref 202 :: .ref 203 :: .int 0 :: .ref 204 :: .ref 205 :: .ref 206 :: .ref 207 :: .ref 208 :: .ref 209 :: .ref 210 :: .ref 211 :: .ref 212 :: .ref 213 :: .ref 214 :: .int 0 :: .ref 215 :: .ref 216 :: .int 0 :: .ref 217 :: .ref 218 :: .ref 219 :: .ref 220 :: .ref 221 :: .int 0 :: .int 0 :: .int 0 :: .int 0 :: .ref 222 :: .int 0 :: [])))) : AM X l yX9_thrown cX9_thrown 1 (some .int) 0 0 0 [.ref 181] f n (EXO f [] (some (.int 1)) n) := by
  refine AM.of (by decide +kernel) rfl (by decide) (fun p e s m args below meth c C hnm => ?_)
  refine ao_start ?_
  refine aw_nl [some (.ref 181)] rfl ?_
  refine aw_ald_n C dX9_thrown_0 rfl ?_
  refine aw_get C gf_X9_138 h181 rfl dX9_thrown_1 ?_
  exact aw_iret C rfl rfl dX9_thrown_4 (Nat.le_of_ble_eq_true rfl) (Nat.le_of_ble_eq_true rfl) ⟨rfl, rfl, rfl⟩

set_option maxHeartbeats 4000000 in
set_option maxRecDepth 100000 in
theorem c_X8_undo_529 {X : GX} {l : Launch} {f : AH} {n : Nat} (hl0 : l.stackTraces = false) (h0 : f 0 = some (.inr (8, [.ref 1, .ref 3, .ref 8, .ref 13, .ref 18, .ref 59, .ref 115, .ref 171, .ref 178, .int 0, .int 0, .int 0, .int 0, .int (-1)]))) : AX X l yX8_undo cX8_undo 1 (some .int) 6 1 6 [.ref 0] f n (fun _ _ _ => False) (TXO eS f [] n) := by
  refine AX.of (by decide +kernel) rfl (by decide) (fun p e s m args below meth c C htab => ?_)
  refine ao_start ?_
  refine aw_nl [some (.ref 0)] rfl ?_
  refine aw_ald_n C dX8_undo_0 rfl ?_
  refine aw_get C gf_X8_123 h0 rfl dX8_undo_1 ?_
  refine aw_iconst C 1 dX8_undo_4 ki_1 ?_
  refine aw_icmp_lt C 34 dX8_undo_5 (by decide) (fun _ => ?_) (fun q => absurd (by decide) q)
  exact ax_throw C htab hl0 th_eS sx_172 dX8_undo_34 dX8_undo_37 dX8_undo_38 dX8_undo_40 dX8_undo_43 (Nat.le_of_ble_eq_true rfl) (Nat.le_of_ble_eq_true rfl) (Nat.le_of_ble_eq_true rfl) (Nat.le_of_ble_eq_true rfl) (Nat.le_of_ble_eq_true rfl) (Nat.le_of_ble_eq_true rfl) (fun n9 h9 => ⟨rfl, rfl, h9⟩)

set_option maxHeartbeats 4000000 in
set_option maxRecDepth 100000 in
theorem c_L_undo_530 {X : GX} {l : Launch} {f : AH} {n : Nat} (hl0 : l.stackTraces = false) (h0 : f 0 = some (.inr (8, [.ref 1, .ref 3, .ref 8, .ref 13, .ref 18, .ref 59, .ref 115, .ref 171, .ref 178, .int 0, .int 0, .int 0, .int 0, .int (-1)]))) : AMW X l yL_undo cL_undo 3 (some .int) [(0, 8, 11, 28)] 7 1 6 [.ref 0, .ref 223] f n (EXN f [] (some (.int 1))) := by
  refine AMW.of (by decide +kernel) rfl (by decide) (fun p e s m args below meth c C htab => ?_)
  refine ao_start ?_
  refine aw_nl [some (.ref 0), some (.ref 223), none] rfl ?_
  refine aw_ald_n C dL_undo_0 rfl ?_
  refine aw_iconst C 0 dL_undo_1 ki_0 ?_
  refine aw_ald_n C dL_undo_2 rfl ?_
  refine ax_callV C (ci := 8) (b := 0) [] mv_L_46 rfl rfl h0 (c_X8_undo_529 hl0 h0) rfl dL_undo_3 (Nat.le_of_ble_eq_true rfl) (Nat.le_of_ble_eq_true rfl) rfl (Nat.le_of_ble_eq_true rfl) (Nat.le_of_ble_eq_true rfl) (Nat.le_of_ble_eq_true rfl) (fun E9 f9 n9 h9 => ?_) (fun _ _ _ h9 => h9.elim)
  obtain ⟨rfl, rfl, h9⟩ := h9
  refine at_flat [] rfl ?_
  refine at_catch C htab [] ⟨0, 8, 11, 28⟩ [] rfl (fun z hz => nomatch hz) (by decide) (by decide) cl_L_28 (by decide) (ah_astore_n C dL_undo_11 (by decide) rfl ?_)
  refine aw_nl [some (.ref 0), some (.ref 223), none] rfl ?_
  refine aw_iconst C 1 dL_undo_12 ki_1 ?_
  exact aw_iret C rfl rfl dL_undo_13 (Nat.le_of_ble_eq_true rfl) (Nat.le_of_ble_eq_true rfl) ⟨rfl, rfl⟩

set_option maxHeartbeats 4000000 in
set_option maxRecDepth 100000 in
theorem c_X9_undo_531 {X : GX} {l : Launch} {f : AH} {n : Nat} (h181 : f 181 = some (.inr (9, (.int 0 :: .ref 182 :: .ref 183 :: .ref 184 :: .ref 185 :: .int 0 :: .int 0 :: .int 0 :: .ref 186 :: .int 0 :: .int 0 :: .int 0 :: .int (-1) :: .ref 187 :: .ref 188 :: .ref 189 :: .int 0 :: .ref 190 :: .ref 191 :: .ref 192 :: .ref 193 :: .ref 194 :: .int 0 :: .ref 195 :: .ref 196 :: .ref 197 :: .int 0 :: .ref 198 :: .ref 199 :: .ref 200 :: .ref 201 :: .ref 202 :: .ref 203 :: .int 0 :: .ref 204 :: .ref 205 :: .ref 206 :: .ref 207 :: .ref 208 :: .ref 209 :: .ref 210 :: .ref 211 :: .ref 212 :: .ref 213 :: .ref 214 :: .int 0 :: .ref 215 :: .ref 216 :: .int 0 :: .ref 217 :: .ref 218 :: .ref 219 :: .ref 220 :: .ref 221 :: .int 0 :: .int 0 :: .int 0 :: .int 0 :: .ref 222 :: .int 0 :: [])))) : AM X l yX9_undo cX9_undo 2 (some .int) 0 0 0 [.ref 181] f n (EXO f [(181, .inr (9, (.int 1 :: .ref 182 :: .ref 183 :: .ref 184 :: .ref 185 :: .int 0 :: .int 0 :: .int 0 :: .ref 186 :: .int 0 :: .int 0 :: .int 0 :: .int (-1) :: .ref 187 :: .ref 188 :: .ref 189 :: .int 0 :: .ref 190 :: .ref 191 :: .ref 192 :: .ref 193 :: .ref 194 :: .int 0 :: .ref 195 :: .ref 196 :: .ref 197 :: .int 0 :: .ref 198 :: .ref 199 :: .ref 200 :: .ref 201 :: .ref 202 :: .ref 203 :: .int 0 :: .ref 204 :: .ref 205 :: .ref 206 :: .ref 207 :: .ref 208 :: .ref 209 :: .ref 210 :: .ref 211 :: .ref 212 :: .ref 213 :: .ref 214 :: .int 0 :: .ref 215 :: .ref 216 :: .int 0 :: .ref 217 :: .ref 218 :: .ref 219 :: .ref 220 :: .ref 221 :: .int 0 :: .int 0 :: .int 0 :: .int 0 :: .ref 222 :: .int 0 :: [])))] (some (.int 0)) n) := by
  refine AM.of (by decide +kernel) rfl (by decide) (fun p e s m args below meth c C hnm => ?_)
  refine ao_start ?_
  refine aw_nl [some (.ref 181), none] rfl ?_
  refine aw_ald_n C dX9_undo_0 rfl ?_
  refine aw_ald_n C dX9_undo_1 rfl ?_
  refine aw_get C gf_X9_325 h181 rfl dX9_undo_2 ?_
  refine aw_if_ne C 12 dX9_undo_5 (by decide) (fun q => absurd (by decide) q) (fun _ => ?_)
  refine aw_iconst C 1 dX9_undo_8 ki_1 ?_
  refine aw_goto C 13 dX9_undo_9 (by decide) ?_
  refine ao_put C [(181, .inr (9, (.int 1 :: .ref 182 :: .ref 183 :: .ref 184 :: .ref 185 :: .int 0 :: .int 0 :: .int 0 :: .ref 186 :: .int 0 :: .int 0 :: .int 0 :: .int (-1) :: .ref 187 :: .ref 188 :: .ref 189 :: .int 0 :: .ref 190 :: .ref 191 :: .ref 192 :: .ref 193 :: .ref 194 :: .int 0 :: .ref 195 :: .ref 196 :: .ref 197 :: .int 0 :: .ref 198 :: .ref 199 :: .ref 200 :: .ref 201 :: .ref 202 :: .ref 203 :: .int 0 :: .ref 204 :: .ref 205 :: .ref 206 :: .ref 207 :: .ref 208 :: .ref 209 :: .ref 210 :: .ref 211 :: .ref 212 :: .ref 213 :: .ref 214 :: .int 0 :: .ref 215 :: .ref 216 :: .int 0 :: .ref 217 :: .ref 218 :: .ref 219 :: .ref 220 :: .ref 221 :: .int 0 :: .int 0 :: .int 0 :: .int 0 :: .ref 222 :: .int 0 :: [])))] gf_X9_138 cf9 nf9_0 h181 (Nat.le_of_ble_eq_true rfl) rfl rfl dX9_undo_13 rfl ?_
  refine aw_ald_n C dX9_undo_16 rfl ?_
  refine aw_get C gf_X9_138 rfl rfl dX9_undo_17 ?_
  refine aw_if_le C 25 dX9_undo_20 (by decide) (fun q => absurd q (by decide)) (fun _ => ?_)
  refine aw_iconst C 0 dX9_undo_23 ki_0 ?_
  exact aw_iret C rfl rfl dX9_undo_24 (Nat.le_of_ble_eq_true rfl) (Nat.le_of_ble_eq_true rfl) ⟨rfl, rfl, rfl⟩

set_option maxHeartbeats 4000000 in
set_option maxRecDepth 100000 in
theorem c_X8_pieceOrThrow_532 {X : GX} {l : Launch} {f : AH} {n : Nat} {a1 : Int32} (hl0 : l.stackTraces = false) (q0 : (-2147483648) ≤ a1.toInt ∧ a1.toInt ≤ (-1)) (h0 : f 0 = some (.inr (8, [.ref 1, .ref 3, .ref 8, .ref 13, .ref 18, .ref 59, .ref 115, .ref 171, .ref 178, .int 0, .int 0, .int 0, .int 0, .int (-1)]))) (h59 : f 59 = some (.inr (1, [.ref 60, .ref 62, .ref 74, .int 0, .ref 68, .ref 71, .ref 64, .ref 66]))) : AX X l yX8_pieceOrThrow cX8_pieceOrThrow 3 (some (.object "PieceFiles$Piece")) 6 1 6 [.ref 0, .int a1] f n (fun _ _ _ => False) (TXO eI f [] n) := by
  refine AX.of (by decide +kernel) rfl (Nat.le_of_ble_eq_true rfl) (fun p e s m args below meth c C htab => ?_)
  refine ao_start ?_
  refine aw_nl [some (.ref 0), some (.int a1), none] rfl ?_
  obtain ⟨q0a, q0b⟩ := q0
  refine aw_ald_n C dX8_pieceOrThrow_0 rfl ?_
  refine aw_get C gf_X8_38 h0 rfl dX8_pieceOrThrow_1 ?_
  refine aw_iload_n C dX8_pieceOrThrow_4 rfl ?_
  refine ao_callV C (ci := 1) (b := 59) [.int a1] [] mv_X8_241 rfl rfl h59 (c_X1_get_434 ⟨by omega, by omega⟩) rfl dX8_pieceOrThrow_5 (Nat.le_of_ble_eq_true rfl) (Nat.le_of_ble_eq_true rfl) rfl (Nat.le_of_ble_eq_true rfl) (Nat.le_of_ble_eq_true rfl) (Nat.le_of_ble_eq_true rfl) rfl ?_
  refine aw_astore_n C dX8_pieceOrThrow_8 (by decide) rfl (Or.inl rfl) ?_
  refine aw_nl [some (.ref 0), some (.int a1), some (.null)] rfl ?_
  refine aw_aload_n C dX8_pieceOrThrow_9 rfl (Or.inl rfl) ?_
  refine aw_ifnonnull_n C 24 dX8_pieceOrThrow_10 (by decide) ?_
  exact ax_throwW C htab hl0 th_eI sx_323 dX8_pieceOrThrow_13 dX8_pieceOrThrow_16 dX8_pieceOrThrow_17 dX8_pieceOrThrow_20 dX8_pieceOrThrow_23 (Nat.le_of_ble_eq_true rfl) (Nat.le_of_ble_eq_true rfl) (Nat.le_of_ble_eq_true rfl) (Nat.le_of_ble_eq_true rfl) (Nat.le_of_ble_eq_true rfl) (Nat.le_of_ble_eq_true rfl) (fun n9 h9 => ⟨rfl, rfl, h9⟩)

set_option maxHeartbeats 4000000 in
set_option maxRecDepth 100000 in
theorem c_X8_piece_533 {X : GX} {l : Launch} {f : AH} {n : Nat} {a1 : Int32} {a2 : Int32} (hl0 : l.stackTraces = false) (q0 : (-2147483648) ≤ a1.toInt ∧ a1.toInt ≤ (-1)) (h0 : f 0 = some (.inr (8, [.ref 1, .ref 3, .ref 8, .ref 13, .ref 18, .ref 59, .ref 115, .ref 171, .ref 178, .int 0, .int 0, .int 0, .int 0, .int (-1)]))) (h59 : f 59 = some (.inr (1, [.ref 60, .ref 62, .ref 74, .int 0, .ref 68, .ref 71, .ref 64, .ref 66]))) : AX X l yX8_piece cX8_piece 4 (some .int) 7 1 6 [.ref 0, .int a1, .int a2] f n (fun _ _ _ => False) (TXO eI f [] n) := by
  refine AX.of (by decide +kernel) rfl (Nat.le_of_ble_eq_true rfl) (fun p e s m args below meth c C htab => ?_)
  refine ao_start ?_
  refine aw_nl [some (.ref 0), some (.int a1), some (.int a2), none] rfl ?_
  obtain ⟨q0a, q0b⟩ := q0
  refine aw_ald_n C dX8_piece_0 rfl ?_
  refine aw_iload_n C dX8_piece_1 rfl ?_
  refine ax_callV C (ci := 8) (b := 0) [.int a1] mv_X8_175 rfl rfl h0 (c_X8_pieceOrThrow_532 hl0 ⟨by omega, by omega⟩ h0 h59) rfl dX8_piece_2 (Nat.le_of_ble_eq_true rfl) (Nat.le_of_ble_eq_true rfl) rfl (Nat.le_of_ble_eq_true rfl) (Nat.le_of_ble_eq_true rfl) (Nat.le_of_ble_eq_true rfl) (fun E9 f9 n9 h9 => ?_) (fun _ _ _ h9 => h9.elim)
  obtain ⟨rfl, rfl, h9⟩ := h9
  refine at_flat [] rfl ?_
  exact at_out C htab ⟨rfl, rfl, h9⟩ (Nat.le_of_ble_eq_true rfl) (Nat.le_of_ble_eq_true rfl)

set_option maxHeartbeats 4000000 in
set_option maxRecDepth 100000 in
theorem c_L_piece_534 {X : GX} {l : Launch} {f : AH} {n : Nat} {a1 : Int32} {a2 : Int32} (hl0 : l.stackTraces = false) (q0 : (-2147483648) ≤ a1.toInt ∧ a1.toInt ≤ (-1)) (h0 : f 0 = some (.inr (8, [.ref 1, .ref 3, .ref 8, .ref 13, .ref 18, .ref 59, .ref 115, .ref 171, .ref 178, .int 0, .int 0, .int 0, .int 0, .int (-1)]))) (h59 : f 59 = some (.inr (1, [.ref 60, .ref 62, .ref 74, .int 0, .ref 68, .ref 71, .ref 64, .ref 66]))) : AMW X l yL_piece cL_piece 5 (some .int) [(0, 10, 13, 52), (0, 10, 17, 23)] 8 1 6 [.ref 0, .int a1, .int a2, .ref 223] f n (EXN f [] (some (.int 1))) := by
  refine AMW.of (by decide +kernel) rfl (Nat.le_of_ble_eq_true rfl) (fun p e s m args below meth c C htab => ?_)
  refine ao_start ?_
  refine aw_nl [some (.ref 0), some (.int a1), some (.int a2), some (.ref 223), none] rfl ?_
  obtain ⟨q0a, q0b⟩ := q0
  refine aw_ald_n C dL_piece_0 rfl ?_
  refine aw_iconst C 0 dL_piece_1 ki_0 ?_
  refine aw_ald_n C dL_piece_2 rfl ?_
  refine aw_iload_n C dL_piece_3 rfl ?_
  refine aw_iload_n C dL_piece_4 rfl ?_
  refine ax_callV C (ci := 8) (b := 0) [.int a1, .int a2] mv_L_49 rfl rfl h0 (c_X8_piece_533 hl0 ⟨by omega, by omega⟩ h0 h59) rfl dL_piece_5 (Nat.le_of_ble_eq_true rfl) (Nat.le_of_ble_eq_true rfl) rfl (Nat.le_of_ble_eq_true rfl) (Nat.le_of_ble_eq_true rfl) (Nat.le_of_ble_eq_true rfl) (fun E9 f9 n9 h9 => ?_) (fun _ _ _ h9 => h9.elim)
  obtain ⟨rfl, rfl, h9⟩ := h9
  refine at_flat [] rfl ?_
  refine at_catch C htab [] ⟨0, 10, 13, 52⟩ [⟨0, 10, 17, 23⟩] rfl (fun z hz => nomatch hz) (by decide) (by decide) cl_L_52 (by decide) (ah_astore C dL_piece_13 (by decide) rfl ?_)
  refine aw_nl [some (.ref 0), some (.int a1), some (.int a2), some (.ref 223), none] rfl ?_
  refine aw_iconst C 1 dL_piece_15 ki_1 ?_
  exact aw_iret C rfl rfl dL_piece_16 (Nat.le_of_ble_eq_true rfl) (Nat.le_of_ble_eq_true rfl) ⟨rfl, rfl⟩

set_option maxHeartbeats 4000000 in
set_option maxRecDepth 100000 in
theorem c_X9_piece_535 {X : GX} {l : Launch} {f : AH} {n : Nat} {a1 : Int32} {a2 : Int32} (q0 : (-2147483648) ≤ a1.toInt ∧ a1.toInt ≤ (-1)) (h181 : f 181 = some (.inr (9, (.int 0 :: .ref 182 :: .ref 183 :: .ref 184 :: .ref 185 :: .int 0 :: .int 0 :: .int 0 :: .ref 186 :: .int 0 :: .int 0 :: .int 0 :: .int (-1) :: .ref 187 :: .ref 188 :: .ref 189 :: .int 0 :: .ref 190 :: .ref 191 :: .ref 192 :: .ref 193 :: .ref 194 :: .int 0 :: .ref 195 :: .ref 196 :: .ref 197 :: .int 0 :: .ref 198 :: .ref 199 :: .ref 200 :: .ref 201 :: .ref 202 :: .ref 203 :: .int 0 :: .ref 204 :: .ref 205 :: .ref 206 :: .ref 207 :: .ref 208 :: .ref 209 :: .ref 210 :: .ref 211 :: .ref 212 :: .ref 213 :: .ref 214 :: .int 0 :: .ref 215 :: .ref 216 :: .int 0 :: .ref 217 :: .ref 218 :: .ref 219 :: .ref 220 :: .ref 221 :: .int 0 :: .int 0 :: .int 0 :: .int 0 :: .ref 222 :: .int 0 :: [])))) : AM X l yX9_piece cX9_piece 3 (some .int) 2 0 0 [.ref 181, .int a1, .int a2] f n (EXO f [(181, .inr (9, (.int 1 :: .ref 182 :: .ref 183 :: .ref 184 :: .ref 185 :: .int 0 :: .int 0 :: .int 0 :: .ref 186 :: .int 0 :: .int 0 :: .int 0 :: .int (-1) :: .ref 187 :: .ref 188 :: .ref 189 :: .int 0 :: .ref 190 :: .ref 191 :: .ref 192 :: .ref 193 :: .ref 194 :: .int 0 :: .ref 195 :: .ref 196 :: .ref 197 :: .int 0 :: .ref 198 :: .ref 199 :: .ref 200 :: .ref 201 :: .ref 202 :: .ref 203 :: .int 0 :: .ref 204 :: .ref 205 :: .ref 206 :: .ref 207 :: .ref 208 :: .ref 209 :: .ref 210 :: .ref 211 :: .ref 212 :: .ref 213 :: .ref 214 :: .int 0 :: .ref 215 :: .ref 216 :: .int 0 :: .ref 217 :: .ref 218 :: .ref 219 :: .ref 220 :: .ref 221 :: .int 0 :: .int 0 :: .int 0 :: .int 0 :: .ref 222 :: .int 0 :: [])))] (some (.int 0)) n) := by
  refine AM.of (by decide +kernel) rfl (Nat.le_of_ble_eq_true rfl) (fun p e s m args below meth c C hnm => ?_)
  refine ao_start ?_
  refine aw_nl [some (.ref 181), some (.int a1), some (.int a2)] rfl ?_
  obtain ⟨q0a, q0b⟩ := q0
  refine aw_ald_n C dX9_piece_0 rfl ?_
  refine aw_ald_n C dX9_piece_1 rfl ?_
  refine aw_iload_n C dX9_piece_2 rfl ?_
  refine ao_callV C (ci := 9) (b := 181) [.int a1] [] mv_X9_293 rfl rfl h181 (c_X9_isPieceThere_442 ⟨by omega, by omega⟩ h181) rfl dX9_piece_3 (Nat.le_of_ble_eq_true rfl) (Nat.le_of_ble_eq_true rfl) rfl (Nat.le_of_ble_eq_true rfl) (Nat.le_of_ble_eq_true rfl) (Nat.le_of_ble_eq_true rfl) rfl ?_
  refine aw_if_ne C 13 dX9_piece_6 (by decide) (fun q => absurd (by decide) q) (fun _ => ?_)
  refine aw_iconst C 1 dX9_piece_9 ki_1 ?_
  refine aw_goto C 28 dX9_piece_10 (by decide) ?_
  refine ao_put C [(181, .inr (9, (.int 1 :: .ref 182 :: .ref 183 :: .ref 184 :: .ref 185 :: .int 0 :: .int 0 :: .int 0 :: .ref 186 :: .int 0 :: .int 0 :: .int 0 :: .int (-1) :: .ref 187 :: .ref 188 :: .ref 189 :: .int 0 :: .ref 190 :: .ref 191 :: .ref 192 :: .ref 193 :: .ref 194 :: .int 0 :: .ref 195 :: .ref 196 :: .ref 197 :: .int 0 :: .ref 198 :: .ref 199 :: .ref 200 :: .ref 201 :: .ref 202 :: .ref 203 :: .int 0 :: .ref 204 :: .ref 205 :: .ref 206 :: .ref 207 :: .ref 208 :: .ref 209 :: .ref 210 :: .ref 211 :: .ref 212 :: .ref 213 :: .ref 214 :: .int 0 :: .ref 215 :: .ref 216 :: .int 0 :: .ref 217 :: .ref 218 :: .ref 219 :: .ref 220 :: .ref 221 :: .int 0 :: .int 0 :: .int 0 :: .int 0 :: .ref 222 :: .int 0 :: [])))] gf_X9_138 cf9 nf9_0 h181 (Nat.le_of_ble_eq_true rfl) rfl rfl dX9_piece_28 rfl ?_
  refine aw_ald_n C dX9_piece_31 rfl ?_
  refine aw_get C gf_X9_138 rfl rfl dX9_piece_32 ?_
  refine aw_if_le C 40 dX9_piece_35 (by decide) (fun q => absurd q (by decide)) (fun _ => ?_)
  refine aw_iconst C 0 dX9_piece_38 ki_0 ?_
  exact aw_iret C rfl rfl dX9_piece_39 (Nat.le_of_ble_eq_true rfl) (Nat.le_of_ble_eq_true rfl) ⟨rfl, rfl, rfl⟩

set_option maxHeartbeats 4000000 in
set_option maxRecDepth 100000 in
theorem c_X8_pieceOrThrow_536 {X : GX} {l : Launch} {f : AH} {n : Nat} {a1 : Int32} (hl0 : l.stackTraces = false) (q0 : 0 ≤ a1.toInt ∧ a1.toInt ≤ 2147483647) (h0 : f 0 = some (.inr (8, [.ref 1, .ref 3, .ref 8, .ref 13, .ref 18, .ref 59, .ref 115, .ref 171, .ref 178, .int 0, .int 0, .int 0, .int 0, .int (-1)]))) (h59 : f 59 = some (.inr (1, [.ref 60, .ref 62, .ref 74, .int 0, .ref 68, .ref 71, .ref 64, .ref 66]))) : AX X l yX8_pieceOrThrow cX8_pieceOrThrow 3 (some (.object "PieceFiles$Piece")) 6 1 6 [.ref 0, .int a1] f n (fun _ _ _ => False) (TXO eI f [] n) := by
  refine AX.of (by decide +kernel) rfl (Nat.le_of_ble_eq_true rfl) (fun p e s m args below meth c C htab => ?_)
  refine ao_start ?_
  refine aw_nl [some (.ref 0), some (.int a1), none] rfl ?_
  obtain ⟨q0a, q0b⟩ := q0
  refine aw_ald_n C dX8_pieceOrThrow_0 rfl ?_
  refine aw_get C gf_X8_38 h0 rfl dX8_pieceOrThrow_1 ?_
  refine aw_iload_n C dX8_pieceOrThrow_4 rfl ?_
  refine ao_callV C (ci := 1) (b := 59) [.int a1] [] mv_X8_241 rfl rfl h59 (c_X1_get_451 ⟨by omega, by omega⟩ h59) rfl dX8_pieceOrThrow_5 (Nat.le_of_ble_eq_true rfl) (Nat.le_of_ble_eq_true rfl) rfl (Nat.le_of_ble_eq_true rfl) (Nat.le_of_ble_eq_true rfl) (Nat.le_of_ble_eq_true rfl) rfl ?_
  refine aw_astore_n C dX8_pieceOrThrow_8 (by decide) rfl (Or.inl rfl) ?_
  refine aw_nl [some (.ref 0), some (.int a1), some (.null)] rfl ?_
  refine aw_aload_n C dX8_pieceOrThrow_9 rfl (Or.inl rfl) ?_
  refine aw_ifnonnull_n C 24 dX8_pieceOrThrow_10 (by decide) ?_
  exact ax_throwW C htab hl0 th_eI sx_323 dX8_pieceOrThrow_13 dX8_pieceOrThrow_16 dX8_pieceOrThrow_17 dX8_pieceOrThrow_20 dX8_pieceOrThrow_23 (Nat.le_of_ble_eq_true rfl) (Nat.le_of_ble_eq_true rfl) (Nat.le_of_ble_eq_true rfl) (Nat.le_of_ble_eq_true rfl) (Nat.le_of_ble_eq_true rfl) (Nat.le_of_ble_eq_true rfl) (fun n9 h9 => ⟨rfl, rfl, h9⟩)

set_option maxHeartbeats 4000000 in
set_option maxRecDepth 100000 in
theorem c_X8_piece_537 {X : GX} {l : Launch} {f : AH} {n : Nat} {a1 : Int32} {a2 : Int32} (hl0 : l.stackTraces = false) (q0 : 0 ≤ a1.toInt ∧ a1.toInt ≤ 2147483647) (h0 : f 0 = some (.inr (8, [.ref 1, .ref 3, .ref 8, .ref 13, .ref 18, .ref 59, .ref 115, .ref 171, .ref 178, .int 0, .int 0, .int 0, .int 0, .int (-1)]))) (h59 : f 59 = some (.inr (1, [.ref 60, .ref 62, .ref 74, .int 0, .ref 68, .ref 71, .ref 64, .ref 66]))) : AX X l yX8_piece cX8_piece 4 (some .int) 7 1 6 [.ref 0, .int a1, .int a2] f n (fun _ _ _ => False) (TXO eI f [] n) := by
  refine AX.of (by decide +kernel) rfl (Nat.le_of_ble_eq_true rfl) (fun p e s m args below meth c C htab => ?_)
  refine ao_start ?_
  refine aw_nl [some (.ref 0), some (.int a1), some (.int a2), none] rfl ?_
  obtain ⟨q0a, q0b⟩ := q0
  refine aw_ald_n C dX8_piece_0 rfl ?_
  refine aw_iload_n C dX8_piece_1 rfl ?_
  refine ax_callV C (ci := 8) (b := 0) [.int a1] mv_X8_175 rfl rfl h0 (c_X8_pieceOrThrow_536 hl0 ⟨by omega, by omega⟩ h0 h59) rfl dX8_piece_2 (Nat.le_of_ble_eq_true rfl) (Nat.le_of_ble_eq_true rfl) rfl (Nat.le_of_ble_eq_true rfl) (Nat.le_of_ble_eq_true rfl) (Nat.le_of_ble_eq_true rfl) (fun E9 f9 n9 h9 => ?_) (fun _ _ _ h9 => h9.elim)
  obtain ⟨rfl, rfl, h9⟩ := h9
  refine at_flat [] rfl ?_
  exact at_out C htab ⟨rfl, rfl, h9⟩ (Nat.le_of_ble_eq_true rfl) (Nat.le_of_ble_eq_true rfl)

set_option maxHeartbeats 4000000 in
set_option maxRecDepth 100000 in
theorem c_L_piece_538 {X : GX} {l : Launch} {f : AH} {n : Nat} {a1 : Int32} {a2 : Int32} (hl0 : l.stackTraces = false) (q0 : 0 ≤ a1.toInt ∧ a1.toInt ≤ 2147483647) (h0 : f 0 = some (.inr (8, [.ref 1, .ref 3, .ref 8, .ref 13, .ref 18, .ref 59, .ref 115, .ref 171, .ref 178, .int 0, .int 0, .int 0, .int 0, .int (-1)]))) (h59 : f 59 = some (.inr (1, [.ref 60, .ref 62, .ref 74, .int 0, .ref 68, .ref 71, .ref 64, .ref 66]))) : AMW X l yL_piece cL_piece 5 (some .int) [(0, 10, 13, 52), (0, 10, 17, 23)] 8 1 6 [.ref 0, .int a1, .int a2, .ref 223] f n (EXN f [] (some (.int 1))) := by
  refine AMW.of (by decide +kernel) rfl (Nat.le_of_ble_eq_true rfl) (fun p e s m args below meth c C htab => ?_)
  refine ao_start ?_
  refine aw_nl [some (.ref 0), some (.int a1), some (.int a2), some (.ref 223), none] rfl ?_
  obtain ⟨q0a, q0b⟩ := q0
  refine aw_ald_n C dL_piece_0 rfl ?_
  refine aw_iconst C 0 dL_piece_1 ki_0 ?_
  refine aw_ald_n C dL_piece_2 rfl ?_
  refine aw_iload_n C dL_piece_3 rfl ?_
  refine aw_iload_n C dL_piece_4 rfl ?_
  refine ax_callV C (ci := 8) (b := 0) [.int a1, .int a2] mv_L_49 rfl rfl h0 (c_X8_piece_537 hl0 ⟨by omega, by omega⟩ h0 h59) rfl dL_piece_5 (Nat.le_of_ble_eq_true rfl) (Nat.le_of_ble_eq_true rfl) rfl (Nat.le_of_ble_eq_true rfl) (Nat.le_of_ble_eq_true rfl) (Nat.le_of_ble_eq_true rfl) (fun E9 f9 n9 h9 => ?_) (fun _ _ _ h9 => h9.elim)
  obtain ⟨rfl, rfl, h9⟩ := h9
  refine at_flat [] rfl ?_
  refine at_catch C htab [] ⟨0, 10, 13, 52⟩ [⟨0, 10, 17, 23⟩] rfl (fun z hz => nomatch hz) (by decide) (by decide) cl_L_52 (by decide) (ah_astore C dL_piece_13 (by decide) rfl ?_)
  refine aw_nl [some (.ref 0), some (.int a1), some (.int a2), some (.ref 223), none] rfl ?_
  refine aw_iconst C 1 dL_piece_15 ki_1 ?_
  exact aw_iret C rfl rfl dL_piece_16 (Nat.le_of_ble_eq_true rfl) (Nat.le_of_ble_eq_true rfl) ⟨rfl, rfl⟩

set_option maxHeartbeats 4000000 in
set_option maxRecDepth 100000 in
theorem c_X9_piece_539 {X : GX} {l : Launch} {f : AH} {n : Nat} {a1 : Int32} {a2 : Int32} (q0 : 0 ≤ a1.toInt ∧ a1.toInt ≤ 2147483647) (h181 : f 181 = some (.inr (9, (.int 0 :: .ref 182 :: .ref 183 :: .ref 184 :: .ref 185 :: .int 0 :: .int 0 :: .int 0 :: .ref 186 :: .int 0 :: .int 0 :: .int 0 :: .int (-1) :: .ref 187 :: .ref 188 :: .ref 189 :: .int 0 :: .ref 190 :: .ref 191 :: .ref 192 :: .ref 193 :: .ref 194 :: .int 0 :: .ref 195 :: .ref 196 :: .ref 197 :: .int 0 :: .ref 198 :: .ref 199 :: .ref 200 :: .ref 201 :: .ref 202 :: .ref 203 :: .int 0 :: .ref 204 :: .ref 205 :: .ref 206 :: .ref 207 :: .ref 208 :: .ref 209 :: .ref 210 :: .ref 211 :: .ref 212 :: .ref 213 :: .ref 214 :: .int 0 :: .ref 215 :: .ref 216 :: .int 0 :: .ref 217 :: .ref 218 :: .ref 219 :: .ref 220 :: .ref 221 :: .int 0 :: .int 0 :: .int 0 :: .int 0 :: .ref 222 :: .int 0 :: [])))) : AM X l yX9_piece cX9_piece 3 (some .int) 2 0 0 [.ref 181, .int a1, .int a2] f n (EXO f [(181, .inr (9, (.int 1 :: .ref 182 :: .ref 183 :: .ref 184 :: .ref 185 :: .int 0 :: .int 0 :: .int 0 :: .ref 186 :: .int 0 :: .int 0 :: .int 0 :: .int (-1) :: .ref 187 :: .ref 188 :: .ref 189 :: .int 0 :: .ref 190 :: .ref 191 :: .ref 192 :: .ref 193 :: .ref 194 :: .int 0 :: .ref 195 :: .ref 196 :: .ref 197 :: .int 0 :: .ref 198 :: .ref 199 :: .ref 200 :: .ref 201 :: .ref 202 :: .ref 203 :: .int 0 :: .ref 204 :: .ref 205 :: .ref 206 :: .ref 207 :: .ref 208 :: .ref 209 :: .ref 210 :: .ref 211 :: .ref 212 :: .ref 213 :: .ref 214 :: .int 0 :: .ref 215 :: .ref 216 :: .int 0 :: .ref 217 :: .ref 218 :: .ref 219 :: .ref 220 :: .ref 221 :: .int 0 :: .int 0 :: .int 0 :: .int 0 :: .ref 222 :: .int 0 :: [])))] (some (.int 0)) n) := by
  refine AM.of (by decide +kernel) rfl (Nat.le_of_ble_eq_true rfl) (fun p e s m args below meth c C hnm => ?_)
  refine ao_start ?_
  refine aw_nl [some (.ref 181), some (.int a1), some (.int a2)] rfl ?_
  obtain ⟨q0a, q0b⟩ := q0
  refine aw_ald_n C dX9_piece_0 rfl ?_
  refine aw_ald_n C dX9_piece_1 rfl ?_
  refine aw_iload_n C dX9_piece_2 rfl ?_
  refine ao_callV C (ci := 9) (b := 181) [.int a1] [] mv_X9_293 rfl rfl h181 (c_X9_isPieceThere_457 ⟨by omega, by omega⟩ h181) rfl dX9_piece_3 (Nat.le_of_ble_eq_true rfl) (Nat.le_of_ble_eq_true rfl) rfl (Nat.le_of_ble_eq_true rfl) (Nat.le_of_ble_eq_true rfl) (Nat.le_of_ble_eq_true rfl) rfl ?_
  refine aw_if_ne C 13 dX9_piece_6 (by decide) (fun q => absurd (by decide) q) (fun _ => ?_)
  refine aw_iconst C 1 dX9_piece_9 ki_1 ?_
  refine aw_goto C 28 dX9_piece_10 (by decide) ?_
  refine ao_put C [(181, .inr (9, (.int 1 :: .ref 182 :: .ref 183 :: .ref 184 :: .ref 185 :: .int 0 :: .int 0 :: .int 0 :: .ref 186 :: .int 0 :: .int 0 :: .int 0 :: .int (-1) :: .ref 187 :: .ref 188 :: .ref 189 :: .int 0 :: .ref 190 :: .ref 191 :: .ref 192 :: .ref 193 :: .ref 194 :: .int 0 :: .ref 195 :: .ref 196 :: .ref 197 :: .int 0 :: .ref 198 :: .ref 199 :: .ref 200 :: .ref 201 :: .ref 202 :: .ref 203 :: .int 0 :: .ref 204 :: .ref 205 :: .ref 206 :: .ref 207 :: .ref 208 :: .ref 209 :: .ref 210 :: .ref 211 :: .ref 212 :: .ref 213 :: .ref 214 :: .int 0 :: .ref 215 :: .ref 216 :: .int 0 :: .ref 217 :: .ref 218 :: .ref 219 :: .ref 220 :: .ref 221 :: .int 0 :: .int 0 :: .int 0 :: .int 0 :: .ref 222 :: .int 0 :: [])))] gf_X9_138 cf9 nf9_0 h181 (Nat.le_of_ble_eq_true rfl) rfl rfl dX9_piece_28 rfl ?_
  refine aw_ald_n C dX9_piece_31 rfl ?_
  refine aw_get C gf_X9_138 rfl rfl dX9_piece_32 ?_
  refine aw_if_le C 40 dX9_piece_35 (by decide) (fun q => absurd q (by decide)) (fun _ => ?_)
  refine aw_iconst C 0 dX9_piece_38 ki_0 ?_
  exact aw_iret C rfl rfl dX9_piece_39 (Nat.le_of_ble_eq_true rfl) (Nat.le_of_ble_eq_true rfl) ⟨rfl, rfl, rfl⟩

set_option maxHeartbeats 4000000 in
set_option maxRecDepth 100000 in
theorem c_X8_octet_540 {X : GX} {l : Launch} {f : AH} {n : Nat} {a1 : Int32} {a2 : Int32} (hl0 : l.stackTraces = false) (q0 : (-2147483648) ≤ a1.toInt ∧ a1.toInt ≤ (-1)) (h0 : f 0 = some (.inr (8, [.ref 1, .ref 3, .ref 8, .ref 13, .ref 18, .ref 59, .ref 115, .ref 171, .ref 178, .int 0, .int 0, .int 0, .int 0, .int (-1)]))) (h59 : f 59 = some (.inr (1, [.ref 60, .ref 62, .ref 74, .int 0, .ref 68, .ref 71, .ref 64, .ref 66]))) : AX X l yX8_octet cX8_octet 5 (some .int) 7 1 6 [.ref 0, .int a1, .int a2, .int 0] f n (fun _ _ _ => False) (TXO eI f [] n) := by
  refine AX.of (by decide +kernel) rfl (Nat.le_of_ble_eq_true rfl) (fun p e s m args below meth c C htab => ?_)
  refine ao_start ?_
  refine aw_nl [some (.ref 0), some (.int a1), some (.int a2), some (.int 0), none] rfl ?_
  obtain ⟨q0a, q0b⟩ := q0
  refine aw_ald_n C dX8_octet_0 rfl ?_
  refine aw_iload_n C dX8_octet_1 rfl ?_
  refine ax_callV C (ci := 8) (b := 0) [.int a1] mv_X8_175 rfl rfl h0 (c_X8_pieceOrThrow_532 hl0 ⟨by omega, by omega⟩ h0 h59) rfl dX8_octet_2 (Nat.le_of_ble_eq_true rfl) (Nat.le_of_ble_eq_true rfl) rfl (Nat.le_of_ble_eq_true rfl) (Nat.le_of_ble_eq_true rfl) (Nat.le_of_ble_eq_true rfl) (fun E9 f9 n9 h9 => ?_) (fun _ _ _ h9 => h9.elim)
  obtain ⟨rfl, rfl, h9⟩ := h9
  refine at_flat [] rfl ?_
  exact at_out C htab ⟨rfl, rfl, h9⟩ (Nat.le_of_ble_eq_true rfl) (Nat.le_of_ble_eq_true rfl)

set_option maxHeartbeats 4000000 in
set_option maxRecDepth 100000 in
theorem c_L_octet_541 {X : GX} {l : Launch} {f : AH} {n : Nat} {a1 : Int32} {a2 : Int32} (hl0 : l.stackTraces = false) (q0 : (-2147483648) ≤ a1.toInt ∧ a1.toInt ≤ (-1)) (h0 : f 0 = some (.inr (8, [.ref 1, .ref 3, .ref 8, .ref 13, .ref 18, .ref 59, .ref 115, .ref 171, .ref 178, .int 0, .int 0, .int 0, .int 0, .int (-1)]))) (h59 : f 59 = some (.inr (1, [.ref 60, .ref 62, .ref 74, .int 0, .ref 68, .ref 71, .ref 64, .ref 66]))) : AMW X l yL_octet cL_octet 6 (some .int) [(0, 12, 15, 52)] 8 1 6 [.ref 0, .int a1, .int a2, .int 0, .ref 223] f n (EXN f [] (some (.int 1))) := by
  refine AMW.of (by decide +kernel) rfl (Nat.le_of_ble_eq_true rfl) (fun p e s m args below meth c C htab => ?_)
  refine ao_start ?_
  refine aw_nl [some (.ref 0), some (.int a1), some (.int a2), some (.int 0), some (.ref 223), none] rfl ?_
  obtain ⟨q0a, q0b⟩ := q0
  refine aw_ald C dL_octet_0 rfl ?_
  refine aw_iconst C 0 dL_octet_2 ki_0 ?_
  refine aw_ald_n C dL_octet_3 rfl ?_
  refine aw_iload_n C dL_octet_4 rfl ?_
  refine aw_iload_n C dL_octet_5 rfl ?_
  refine aw_iload_n C dL_octet_6 rfl ?_
  refine ax_callV C (ci := 8) (b := 0) [.int a1, .int a2, .int 0] mv_L_54 rfl rfl h0 (c_X8_octet_540 hl0 ⟨by omega, by omega⟩ h0 h59) rfl dL_octet_7 (Nat.le_of_ble_eq_true rfl) (Nat.le_of_ble_eq_true rfl) rfl (Nat.le_of_ble_eq_true rfl) (Nat.le_of_ble_eq_true rfl) (Nat.le_of_ble_eq_true rfl) (fun E9 f9 n9 h9 => ?_) (fun _ _ _ h9 => h9.elim)
  obtain ⟨rfl, rfl, h9⟩ := h9
  refine at_flat [] rfl ?_
  refine at_catch C htab [] ⟨0, 12, 15, 52⟩ [] rfl (fun z hz => nomatch hz) (by decide) (by decide) cl_L_52 (by decide) (ah_astore C dL_octet_15 (by decide) rfl ?_)
  refine aw_nl [some (.ref 0), some (.int a1), some (.int a2), some (.int 0), some (.ref 223), none] rfl ?_
  refine aw_iconst C 1 dL_octet_17 ki_1 ?_
  exact aw_iret C rfl rfl dL_octet_18 (Nat.le_of_ble_eq_true rfl) (Nat.le_of_ble_eq_true rfl) ⟨rfl, rfl⟩

set_option maxHeartbeats 4000000 in
set_option maxRecDepth 100000 in
theorem c_X9_octet_542 {X : GX} {l : Launch} {f : AH} {n : Nat} {a1 : Int32} {a2 : Int32} (q0 : (-2147483648) ≤ a1.toInt ∧ a1.toInt ≤ (-1)) (h181 : f 181 = some (.inr (9, (.int 0 :: .ref 182 :: .ref 183 :: .ref 184 :: .ref 185 :: .int 0 :: .int 0 :: .int 0 :: .ref 186 :: .int 0 :: .int 0 :: .int 0 :: .int (-1) :: .ref 187 :: .ref 188 :: .ref 189 :: .int 0 :: .ref 190 :: .ref 191 :: .ref 192 :: .ref 193 :: .ref 194 :: .int 0 :: .ref 195 :: .ref 196 :: .ref 197 :: .int 0 :: .ref 198 :: .ref 199 :: .ref 200 :: .ref 201 :: .ref 202 :: .ref 203 :: .int 0 :: .ref 204 :: .ref 205 :: .ref 206 :: .ref 207 :: .ref 208 :: .ref 209 :: .ref 210 :: .ref 211 :: .ref 212 :: .ref 213 :: .ref 214 :: .int 0 :: .ref 215 :: .ref 216 :: .int 0 :: .ref 217 :: .ref 218 :: .ref 219 :: .ref 220 :: .ref 221 :: .int 0 :: .int 0 :: .int 0 :: .int 0 :: .ref 222 :: .int 0 :: [])))) : AM X l yX9_octet cX9_octet 4 (some .int) 2 0 0 [.ref 181, .int a1, .int a2, .int 0] f n (EXO f [(181, .inr (9, (.int 1 :: .ref 182 :: .ref 183 :: .ref 184 :: .ref 185 :: .int 0 :: .int 0 :: .int 0 :: .ref 186 :: .int 0 :: .int 0 :: .int 0 :: .int (-1) :: .ref 187 :: .ref 188 :: .ref 189 :: .int 0 :: .ref 190 :: .ref 191 :: .ref 192 :: .ref 193 :: .ref 194 :: .int 0 :: .ref 195 :: .ref 196 :: .ref 197 :: .int 0 :: .ref 198 :: .ref 199 :: .ref 200 :: .ref 201 :: .ref 202 :: .ref 203 :: .int 0 :: .ref 204 :: .ref 205 :: .ref 206 :: .ref 207 :: .ref 208 :: .ref 209 :: .ref 210 :: .ref 211 :: .ref 212 :: .ref 213 :: .ref 214 :: .int 0 :: .ref 215 :: .ref 216 :: .int 0 :: .ref 217 :: .ref 218 :: .ref 219 :: .ref 220 :: .ref 221 :: .int 0 :: .int 0 :: .int 0 :: .int 0 :: .ref 222 :: .int 0 :: [])))] (some (.int 0)) n) := by
  refine AM.of (by decide +kernel) rfl (Nat.le_of_ble_eq_true rfl) (fun p e s m args below meth c C hnm => ?_)
  refine ao_start ?_
  refine aw_nl [some (.ref 181), some (.int a1), some (.int a2), some (.int 0)] rfl ?_
  obtain ⟨q0a, q0b⟩ := q0
  refine aw_ald_n C dX9_octet_0 rfl ?_
  refine aw_ald_n C dX9_octet_1 rfl ?_
  refine aw_iload_n C dX9_octet_2 rfl ?_
  refine ao_callV C (ci := 9) (b := 181) [.int a1] [] mv_X9_293 rfl rfl h181 (c_X9_isPieceThere_442 ⟨by omega, by omega⟩ h181) rfl dX9_octet_3 (Nat.le_of_ble_eq_true rfl) (Nat.le_of_ble_eq_true rfl) rfl (Nat.le_of_ble_eq_true rfl) (Nat.le_of_ble_eq_true rfl) (Nat.le_of_ble_eq_true rfl) rfl ?_
  refine aw_if_eq C 13 dX9_octet_6 (by decide) (fun _ => ?_) (fun q => absurd (by decide) q)
  refine aw_iconst C 1 dX9_octet_13 ki_1 ?_
  refine ao_put C [(181, .inr (9, (.int 1 :: .ref 182 :: .ref 183 :: .ref 184 :: .ref 185 :: .int 0 :: .int 0 :: .int 0 :: .ref 186 :: .int 0 :: .int 0 :: .int 0 :: .int (-1) :: .ref 187 :: .ref 188 :: .ref 189 :: .int 0 :: .ref 190 :: .ref 191 :: .ref 192 :: .ref 193 :: .ref 194 :: .int 0 :: .ref 195 :: .ref 196 :: .ref 197 :: .int 0 :: .ref 198 :: .ref 199 :: .ref 200 :: .ref 201 :: .ref 202 :: .ref 203 :: .int 0 :: .ref 204 :: .ref 205 :: .ref 206 :: .ref 207 :: .ref 208 :: .ref 209 :: .ref 210 :: .ref 211 :: .ref 212 :: .ref 213 :: .ref 214 :: .int 0 :: .ref 215 :: .ref 216 :: .int 0 :: .ref 217 :: .ref 218 :: .ref 219 :: .ref 220 :: .ref 221 :: .int 0 :: .int 0 :: .int 0 :: .int 0 :: .ref 222 :: .int 0 :: [])))] gf_X9_138 cf9 nf9_0 h181 (Nat.le_of_ble_eq_true rfl) rfl rfl dX9_octet_14 rfl ?_
  refine aw_ald_n C dX9_octet_17 rfl ?_
  refine aw_get C gf_X9_138 rfl rfl dX9_octet_18 ?_
  refine aw_if_le C 26 dX9_octet_21 (by decide) (fun q => absurd q (by decide)) (fun _ => ?_)
  refine aw_iconst C 0 dX9_octet_24 ki_0 ?_
  exact aw_iret C rfl rfl dX9_octet_25 (Nat.le_of_ble_eq_true rfl) (Nat.le_of_ble_eq_true rfl) ⟨rfl, rfl, rfl⟩

set_option maxHeartbeats 4000000 in
set_option maxRecDepth 100000 in
theorem c_X8_octet_543 {X : GX} {l : Launch} {f : AH} {n : Nat} {a1 : Int32} {a2 : Int32} (hl0 : l.stackTraces = false) (q0 : (-2147483648) ≤ a1.toInt ∧ a1.toInt ≤ (-1)) (h0 : f 0 = some (.inr (8, [.ref 1, .ref 3, .ref 8, .ref 13, .ref 18, .ref 59, .ref 115, .ref 171, .ref 178, .int 0, .int 0, .int 0, .int 0, .int (-1)]))) (h59 : f 59 = some (.inr (1, [.ref 60, .ref 62, .ref 74, .int 0, .ref 68, .ref 71, .ref 64, .ref 66]))) : AX X l yX8_octet cX8_octet 5 (some .int) 7 1 6 [.ref 0, .int a1, .int a2, .int 1] f n (fun _ _ _ => False) (TXO eI f [] n) := by
  refine AX.of (by decide +kernel) rfl (Nat.le_of_ble_eq_true rfl) (fun p e s m args below meth c C htab => ?_)
  refine ao_start ?_
  refine aw_nl [some (.ref 0), some (.int a1), some (.int a2), some (.int 1), none] rfl ?_
  obtain ⟨q0a, q0b⟩ := q0
  refine aw_ald_n C dX8_octet_0 rfl ?_
  refine aw_iload_n C dX8_octet_1 rfl ?_
  refine ax_callV C (ci := 8) (b := 0) [.int a1] mv_X8_175 rfl rfl h0 (c_X8_pieceOrThrow_532 hl0 ⟨by omega, by omega⟩ h0 h59) rfl dX8_octet_2 (Nat.le_of_ble_eq_true rfl) (Nat.le_of_ble_eq_true rfl) rfl (Nat.le_of_ble_eq_true rfl) (Nat.le_of_ble_eq_true rfl) (Nat.le_of_ble_eq_true rfl) (fun E9 f9 n9 h9 => ?_) (fun _ _ _ h9 => h9.elim)
  obtain ⟨rfl, rfl, h9⟩ := h9
  refine at_flat [] rfl ?_
  exact at_out C htab ⟨rfl, rfl, h9⟩ (Nat.le_of_ble_eq_true rfl) (Nat.le_of_ble_eq_true rfl)

