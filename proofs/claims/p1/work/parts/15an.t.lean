set_option maxHeartbeats 4000000 in
set_option maxRecDepth 100000 in
theorem c_X9_memory_601 {X : GX} {l : Launch} {f : AH} {n : Nat} {a1 : Int32} {a3 : Int32} (q0 : 0 ≤ a1.toInt ∧ a1.toInt ≤ 2147483647) (h181 : f 181 = some (.inr (9, (.int 0 :: .ref 182 :: .ref 183 :: .ref 184 :: .ref 185 :: .int 0 :: .int 0 :: .int 0 :: .ref 186 :: .int 0 :: .int 0 :: .int 0 :: .int (-1) :: .ref 187 :: .ref 188 :: .ref 189 :: .int 0 :: .ref 190 :: .ref 191 :: .ref 192 :: .ref 193 :: .ref 194 :: .int 0 :: .ref 195 :: .ref 196 :: .ref 197 :: .int 0 :: .ref 198 :: .ref 199 :: .ref 200 :: .ref 201 :: .ref 202 :: .ref 203 :: .int 0 :: .ref 204 :: .ref 205 :: .ref 206 :: .ref 207 :: .ref 208 :: .ref 209 :: .ref 210 :: .ref 211 :: .ref 212 :: .ref 213 :: .ref 214 :: .int 0 :: .ref 215 :: .ref 216 :: .int 0 :: .ref 217 :: .ref 218 :: .ref 219 :: .ref 220 :: .ref 221 :: .int 0 :: .int 0 :: .int 0 :: .int 0 :: .ref 222 :: .int 0 :: [])))) (h182 : f 182 = some (.inl (0, 4347, .inl (tl (upd (upd (fun _ => 0) 2 (-1)) 4 1) 40)))) : AM X l yX9_memory cX9_memory 5 (some .int) 1 0 0 [.ref 181, .int a1, .int 1, .int a3] f n (EXO f [(181, .inr (9, (.int 0 :: .ref 182 :: .ref 183 :: .ref 184 :: .ref 185 :: .int 0 :: .int 0 :: .int 0 :: .ref 186 :: .int 0 :: .int 0 :: .int 0 :: .int (-1) :: .ref 187 :: .ref 188 :: .ref 189 :: .int 0 :: .ref 190 :: .ref 191 :: .ref 192 :: .ref 193 :: .ref 194 :: .int 0 :: .ref 195 :: .ref 196 :: .ref 197 :: .int 0 :: .ref 198 :: .ref 199 :: .ref 200 :: .ref 201 :: .ref 202 :: .ref 203 :: .int 0 :: .ref 204 :: .ref 205 :: .ref 206 :: .ref 207 :: .ref 208 :: .ref 209 :: .ref 210 :: .ref 211 :: .ref 212 :: .ref 213 :: .ref 214 :: .int 0 :: .ref 215 :: .ref 216 :: .int 0 :: .ref 217 :: .ref 218 :: .ref 219 :: .ref 220 :: .ref 221 :: .int 0 :: .int 0 :: .int 0 :: .int 0 :: .ref 222 :: .int 0 :: [])))] (some (.int (-1))) n) := by
  refine AM.of (by decide +kernel) rfl (Nat.le_of_ble_eq_true rfl) (fun p e s m args below meth c C hnm => ?_)
  refine ao_start ?_
  refine aw_nl [some (.ref 181), some (.int a1), some (.int 1), some (.int a3), none] rfl ?_
  obtain ⟨q0a, q0b⟩ := q0
  refine aw_ald_n C dX9_memory_0 rfl ?_
  refine aw_iconst C 0 dX9_memory_1 ki_0 ?_
  refine ao_put C [(181, .inr (9, (.int 0 :: .ref 182 :: .ref 183 :: .ref 184 :: .ref 185 :: .int 0 :: .int 0 :: .int 0 :: .ref 186 :: .int 0 :: .int 0 :: .int 0 :: .int (-1) :: .ref 187 :: .ref 188 :: .ref 189 :: .int 0 :: .ref 190 :: .ref 191 :: .ref 192 :: .ref 193 :: .ref 194 :: .int 0 :: .ref 195 :: .ref 196 :: .ref 197 :: .int 0 :: .ref 198 :: .ref 199 :: .ref 200 :: .ref 201 :: .ref 202 :: .ref 203 :: .int 0 :: .ref 204 :: .ref 205 :: .ref 206 :: .ref 207 :: .ref 208 :: .ref 209 :: .ref 210 :: .ref 211 :: .ref 212 :: .ref 213 :: .ref 214 :: .int 0 :: .ref 215 :: .ref 216 :: .int 0 :: .ref 217 :: .ref 218 :: .ref 219 :: .ref 220 :: .ref 221 :: .int 0 :: .int 0 :: .int 0 :: .int 0 :: .ref 222 :: .int 0 :: [])))] gf_X9_138 cf9 nf9_0 h181 (Nat.le_of_ble_eq_true rfl) rfl rfl dX9_memory_2 rfl ?_
  refine aw_iload_n C dX9_memory_5 rfl ?_
  refine aw_iconst C 0 dX9_memory_6 ki_0 ?_
  refine aw_ald_n C dX9_memory_7 rfl ?_
  refine aw_get C gf_X9_7 rfl rfl dX9_memory_8 ?_
  refine aw_bipush C 42 dX9_memory_11 kb_42 ?_
  refine ao_iald C 0 h182 (by unfold vp_in; decide) (by decide : _ = 42) rfl dX9_memory_13 ?_
  refine aw_iconst C 1 dX9_memory_14 ki_1 ?_
  refine ae_isub C (-1) dX9_memory_15 (by decide) ?_
  refine ao_callS C [.int a1, .int 0, .int (-1)] [(181, .inr (9, (.int 0 :: .ref 182 :: .ref 183 :: .ref 184 :: .ref 185 :: .int 0 :: .int 0 :: .int 0 :: .ref 186 :: .int 0 :: .int 0 :: .int 0 :: .int (-1) :: .ref 187 :: .ref 188 :: .ref 189 :: .int 0 :: .ref 190 :: .ref 191 :: .ref 192 :: .ref 193 :: .ref 194 :: .int 0 :: .ref 195 :: .ref 196 :: .ref 197 :: .int 0 :: .ref 198 :: .ref 199 :: .ref 200 :: .ref 201 :: .ref 202 :: .ref 203 :: .int 0 :: .ref 204 :: .ref 205 :: .ref 206 :: .ref 207 :: .ref 208 :: .ref 209 :: .ref 210 :: .ref 211 :: .ref 212 :: .ref 213 :: .ref 214 :: .int 0 :: .ref 215 :: .ref 216 :: .int 0 :: .ref 217 :: .ref 218 :: .ref 219 :: .ref 220 :: .ref 221 :: .int 0 :: .int 0 :: .int 0 :: .int 0 :: .ref 222 :: .int 0 :: [])))] ms_X9_141 (c_X9_isIn_456 ⟨by omega, by omega⟩) rfl dX9_memory_16 (Nat.le_of_ble_eq_true rfl) (Nat.le_of_ble_eq_true rfl) rfl (Nat.le_of_ble_eq_true rfl) (Nat.le_of_ble_eq_true rfl) (Nat.le_of_ble_eq_true rfl) rfl ?_
  refine aw_if_ne C 24 dX9_memory_19 (by decide) (fun q => absurd (by decide) q) (fun _ => ?_)
  refine aw_iconst C (-1) dX9_memory_22 ki_m1 ?_
  exact aw_iret C rfl rfl dX9_memory_23 (Nat.le_of_ble_eq_true rfl) (Nat.le_of_ble_eq_true rfl) ⟨rfl, rfl, rfl⟩

set_option maxHeartbeats 4000000 in
set_option maxRecDepth 100000 in
theorem c_X8_kept_602 {X : GX} {l : Launch} {f : AH} {n : Nat} {a1 : Int32} (hl0 : l.stackTraces = false) (q0 : (-2147483648) ≤ a1.toInt ∧ a1.toInt ≤ (-1)) (h0 : f 0 = some (.inr (8, [.ref 1, .ref 3, .ref 8, .ref 13, .ref 18, .ref 59, .ref 115, .ref 171, .ref 178, .int 0, .int 0, .int 0, .int 0, .int (-1)]))) (h59 : f 59 = some (.inr (1, [.ref 60, .ref 62, .ref 74, .int 0, .ref 68, .ref 71, .ref 64, .ref 66]))) : AX X l yX8_kept cX8_kept 5 (some .boolean) 7 1 6 [.ref 0, .int a1] f n (fun _ _ _ => False) (TXO eI f [] n) := by
  refine AX.of (by decide +kernel) rfl (Nat.le_of_ble_eq_true rfl) (fun p e s m args below meth c C htab => ?_)
  refine ao_start ?_
  refine aw_nl [some (.ref 0), some (.int a1), none, none, none] rfl ?_
  obtain ⟨q0a, q0b⟩ := q0
  refine aw_ald_n C dX8_kept_0 rfl ?_
  refine aw_iload_n C dX8_kept_1 rfl ?_
  refine ax_callV C (ci := 8) (b := 0) [.int a1] mv_X8_175 rfl rfl h0 (c_X8_pieceOrThrow_532 hl0 ⟨by omega, by omega⟩ h0 h59) rfl dX8_kept_2 (Nat.le_of_ble_eq_true rfl) (Nat.le_of_ble_eq_true rfl) rfl (Nat.le_of_ble_eq_true rfl) (Nat.le_of_ble_eq_true rfl) (Nat.le_of_ble_eq_true rfl) (fun E9 f9 n9 h9 => ?_) (fun _ _ _ h9 => h9.elim)
  obtain ⟨rfl, rfl, h9⟩ := h9
  refine at_flat [] rfl ?_
  exact at_out C htab ⟨rfl, rfl, h9⟩ (Nat.le_of_ble_eq_true rfl) (Nat.le_of_ble_eq_true rfl)

set_option maxHeartbeats 4000000 in
set_option maxRecDepth 100000 in
theorem c_L_kept_603 {X : GX} {l : Launch} {f : AH} {n : Nat} {a1 : Int32} (hl0 : l.stackTraces = false) (q0 : (-2147483648) ≤ a1.toInt ∧ a1.toInt ≤ (-1)) (h0 : f 0 = some (.inr (8, [.ref 1, .ref 3, .ref 8, .ref 13, .ref 18, .ref 59, .ref 115, .ref 171, .ref 178, .int 0, .int 0, .int 0, .int 0, .int (-1)]))) (h59 : f 59 = some (.inr (1, [.ref 60, .ref 62, .ref 74, .int 0, .ref 68, .ref 71, .ref 64, .ref 66]))) : AMW X l yL_kept cL_kept 4 (some .int) [(0, 16, 19, 52)] 8 1 6 [.ref 0, .int a1, .ref 223] f n (EXN f [] (some (.int 1))) := by
  refine AMW.of (by decide +kernel) rfl (Nat.le_of_ble_eq_true rfl) (fun p e s m args below meth c C htab => ?_)
  refine ao_start ?_
  refine aw_nl [some (.ref 0), some (.int a1), some (.ref 223), none] rfl ?_
  obtain ⟨q0a, q0b⟩ := q0
  refine aw_ald_n C dL_kept_0 rfl ?_
  refine aw_iconst C 0 dL_kept_1 ki_0 ?_
  refine aw_ald_n C dL_kept_2 rfl ?_
  refine aw_iload_n C dL_kept_3 rfl ?_
  refine ax_callV C (ci := 8) (b := 0) [.int a1] mv_L_74 rfl rfl h0 (c_X8_kept_602 hl0 ⟨by omega, by omega⟩ h0 h59) rfl dL_kept_4 (Nat.le_of_ble_eq_true rfl) (Nat.le_of_ble_eq_true rfl) rfl (Nat.le_of_ble_eq_true rfl) (Nat.le_of_ble_eq_true rfl) (Nat.le_of_ble_eq_true rfl) (fun E9 f9 n9 h9 => ?_) (fun _ _ _ h9 => h9.elim)
  obtain ⟨rfl, rfl, h9⟩ := h9
  refine at_flat [] rfl ?_
  refine at_catch C htab [] ⟨0, 16, 19, 52⟩ [] rfl (fun z hz => nomatch hz) (by decide) (by decide) cl_L_52 (by decide) (ah_astore_n C dL_kept_19 (by decide) rfl ?_)
  refine aw_nl [some (.ref 0), some (.int a1), some (.ref 223), none] rfl ?_
  refine aw_iconst C 1 dL_kept_20 ki_1 ?_
  exact aw_iret C rfl rfl dL_kept_21 (Nat.le_of_ble_eq_true rfl) (Nat.le_of_ble_eq_true rfl) ⟨rfl, rfl⟩

set_option maxHeartbeats 4000000 in
set_option maxRecDepth 100000 in
theorem c_X9_kept_604 {X : GX} {l : Launch} {f : AH} {n : Nat} {a1 : Int32} (q0 : (-2147483648) ≤ a1.toInt ∧ a1.toInt ≤ (-1)) (h181 : f 181 = some (.inr (9, (.int 0 :: .ref 182 :: .ref 183 :: .ref 184 :: .ref 185 :: .int 0 :: .int 0 :: .int 0 :: .ref 186 :: .int 0 :: .int 0 :: .int 0 :: .int (-1) :: .ref 187 :: .ref 188 :: .ref 189 :: .int 0 :: .ref 190 :: .ref 191 :: .ref 192 :: .ref 193 :: .ref 194 :: .int 0 :: .ref 195 :: .ref 196 :: .ref 197 :: .int 0 :: .ref 198 :: .ref 199 :: .ref 200 :: .ref 201 :: .ref 202 :: .ref 203 :: .int 0 :: .ref 204 :: .ref 205 :: .ref 206 :: .ref 207 :: .ref 208 :: .ref 209 :: .ref 210 :: .ref 211 :: .ref 212 :: .ref 213 :: .ref 214 :: .int 0 :: .ref 215 :: .ref 216 :: .int 0 :: .ref 217 :: .ref 218 :: .ref 219 :: .ref 220 :: .ref 221 :: .int 0 :: .int 0 :: .int 0 :: .int 0 :: .ref 222 :: .int 0 :: [])))) : AM X l yX9_kept cX9_kept 5 (some .boolean) 2 0 0 [.ref 181, .int a1] f n (EXO f [(181, .inr (9, (.int 1 :: .ref 182 :: .ref 183 :: .ref 184 :: .ref 185 :: .int 0 :: .int 0 :: .int 0 :: .ref 186 :: .int 0 :: .int 0 :: .int 0 :: .int (-1) :: .ref 187 :: .ref 188 :: .ref 189 :: .int 0 :: .ref 190 :: .ref 191 :: .ref 192 :: .ref 193 :: .ref 194 :: .int 0 :: .ref 195 :: .ref 196 :: .ref 197 :: .int 0 :: .ref 198 :: .ref 199 :: .ref 200 :: .ref 201 :: .ref 202 :: .ref 203 :: .int 0 :: .ref 204 :: .ref 205 :: .ref 206 :: .ref 207 :: .ref 208 :: .ref 209 :: .ref 210 :: .ref 211 :: .ref 212 :: .ref 213 :: .ref 214 :: .int 0 :: .ref 215 :: .ref 216 :: .int 0 :: .ref 217 :: .ref 218 :: .ref 219 :: .ref 220 :: .ref 221 :: .int 0 :: .int 0 :: .int 0 :: .int 0 :: .ref 222 :: .int 0 :: [])))] (some (.int 0)) n) := by
  refine AM.of (by decide +kernel) rfl (Nat.le_of_ble_eq_true rfl) (fun p e s m args below meth c C hnm => ?_)
  refine ao_start ?_
  refine aw_nl [some (.ref 181), some (.int a1), none, none, none] rfl ?_
  obtain ⟨q0a, q0b⟩ := q0
  refine aw_ald_n C dX9_kept_0 rfl ?_
  refine aw_ald_n C dX9_kept_1 rfl ?_
  refine aw_iload_n C dX9_kept_2 rfl ?_
  refine ao_callV C (ci := 9) (b := 181) [.int a1] [] mv_X9_293 rfl rfl h181 (c_X9_isPieceThere_442 ⟨by omega, by omega⟩ h181) rfl dX9_kept_3 (Nat.le_of_ble_eq_true rfl) (Nat.le_of_ble_eq_true rfl) rfl (Nat.le_of_ble_eq_true rfl) (Nat.le_of_ble_eq_true rfl) (Nat.le_of_ble_eq_true rfl) rfl ?_
  refine aw_if_eq C 13 dX9_kept_6 (by decide) (fun _ => ?_) (fun q => absurd (by decide) q)
  refine aw_iconst C 1 dX9_kept_13 ki_1 ?_
  refine ao_put C [(181, .inr (9, (.int 1 :: .ref 182 :: .ref 183 :: .ref 184 :: .ref 185 :: .int 0 :: .int 0 :: .int 0 :: .ref 186 :: .int 0 :: .int 0 :: .int 0 :: .int (-1) :: .ref 187 :: .ref 188 :: .ref 189 :: .int 0 :: .ref 190 :: .ref 191 :: .ref 192 :: .ref 193 :: .ref 194 :: .int 0 :: .ref 195 :: .ref 196 :: .ref 197 :: .int 0 :: .ref 198 :: .ref 199 :: .ref 200 :: .ref 201 :: .ref 202 :: .ref 203 :: .int 0 :: .ref 204 :: .ref 205 :: .ref 206 :: .ref 207 :: .ref 208 :: .ref 209 :: .ref 210 :: .ref 211 :: .ref 212 :: .ref 213 :: .ref 214 :: .int 0 :: .ref 215 :: .ref 216 :: .int 0 :: .ref 217 :: .ref 218 :: .ref 219 :: .ref 220 :: .ref 221 :: .int 0 :: .int 0 :: .int 0 :: .int 0 :: .ref 222 :: .int 0 :: [])))] gf_X9_138 cf9 nf9_0 h181 (Nat.le_of_ble_eq_true rfl) rfl rfl dX9_kept_14 rfl ?_
  refine aw_ald_n C dX9_kept_17 rfl ?_
  refine aw_get C gf_X9_138 rfl rfl dX9_kept_18 ?_
  refine aw_if_le C 26 dX9_kept_21 (by decide) (fun q => absurd q (by decide)) (fun _ => ?_)
  refine aw_iconst C 0 dX9_kept_24 ki_0 ?_
  exact aw_iret C rfl (by decide) dX9_kept_25 (Nat.le_of_ble_eq_true rfl) (Nat.le_of_ble_eq_true rfl) ⟨rfl, rfl, rfl⟩

set_option maxHeartbeats 4000000 in
set_option maxRecDepth 100000 in
theorem c_X8_kept_605 {X : GX} {l : Launch} {f : AH} {n : Nat} {a1 : Int32} (hl0 : l.stackTraces = false) (q0 : 0 ≤ a1.toInt ∧ a1.toInt ≤ 2147483647) (h0 : f 0 = some (.inr (8, [.ref 1, .ref 3, .ref 8, .ref 13, .ref 18, .ref 59, .ref 115, .ref 171, .ref 178, .int 0, .int 0, .int 0, .int 0, .int (-1)]))) (h59 : f 59 = some (.inr (1, [.ref 60, .ref 62, .ref 74, .int 0, .ref 68, .ref 71, .ref 64, .ref 66]))) : AX X l yX8_kept cX8_kept 5 (some .boolean) 7 1 6 [.ref 0, .int a1] f n (fun _ _ _ => False) (TXO eI f [] n) := by
  refine AX.of (by decide +kernel) rfl (Nat.le_of_ble_eq_true rfl) (fun p e s m args below meth c C htab => ?_)
  refine ao_start ?_
  refine aw_nl [some (.ref 0), some (.int a1), none, none, none] rfl ?_
  obtain ⟨q0a, q0b⟩ := q0
  refine aw_ald_n C dX8_kept_0 rfl ?_
  refine aw_iload_n C dX8_kept_1 rfl ?_
  refine ax_callV C (ci := 8) (b := 0) [.int a1] mv_X8_175 rfl rfl h0 (c_X8_pieceOrThrow_536 hl0 ⟨by omega, by omega⟩ h0 h59) rfl dX8_kept_2 (Nat.le_of_ble_eq_true rfl) (Nat.le_of_ble_eq_true rfl) rfl (Nat.le_of_ble_eq_true rfl) (Nat.le_of_ble_eq_true rfl) (Nat.le_of_ble_eq_true rfl) (fun E9 f9 n9 h9 => ?_) (fun _ _ _ h9 => h9.elim)
  obtain ⟨rfl, rfl, h9⟩ := h9
  refine at_flat [] rfl ?_
  exact at_out C htab ⟨rfl, rfl, h9⟩ (Nat.le_of_ble_eq_true rfl) (Nat.le_of_ble_eq_true rfl)

set_option maxHeartbeats 4000000 in
set_option maxRecDepth 100000 in
theorem c_L_kept_606 {X : GX} {l : Launch} {f : AH} {n : Nat} {a1 : Int32} (hl0 : l.stackTraces = false) (q0 : 0 ≤ a1.toInt ∧ a1.toInt ≤ 2147483647) (h0 : f 0 = some (.inr (8, [.ref 1, .ref 3, .ref 8, .ref 13, .ref 18, .ref 59, .ref 115, .ref 171, .ref 178, .int 0, .int 0, .int 0, .int 0, .int (-1)]))) (h59 : f 59 = some (.inr (1, [.ref 60, .ref 62, .ref 74, .int 0, .ref 68, .ref 71, .ref 64, .ref 66]))) : AMW X l yL_kept cL_kept 4 (some .int) [(0, 16, 19, 52)] 8 1 6 [.ref 0, .int a1, .ref 223] f n (EXN f [] (some (.int 1))) := by
  refine AMW.of (by decide +kernel) rfl (Nat.le_of_ble_eq_true rfl) (fun p e s m args below meth c C htab => ?_)
  refine ao_start ?_
  refine aw_nl [some (.ref 0), some (.int a1), some (.ref 223), none] rfl ?_
  obtain ⟨q0a, q0b⟩ := q0
  refine aw_ald_n C dL_kept_0 rfl ?_
  refine aw_iconst C 0 dL_kept_1 ki_0 ?_
  refine aw_ald_n C dL_kept_2 rfl ?_
  refine aw_iload_n C dL_kept_3 rfl ?_
  refine ax_callV C (ci := 8) (b := 0) [.int a1] mv_L_74 rfl rfl h0 (c_X8_kept_605 hl0 ⟨by omega, by omega⟩ h0 h59) rfl dL_kept_4 (Nat.le_of_ble_eq_true rfl) (Nat.le_of_ble_eq_true rfl) rfl (Nat.le_of_ble_eq_true rfl) (Nat.le_of_ble_eq_true rfl) (Nat.le_of_ble_eq_true rfl) (fun E9 f9 n9 h9 => ?_) (fun _ _ _ h9 => h9.elim)
  obtain ⟨rfl, rfl, h9⟩ := h9
  refine at_flat [] rfl ?_
  refine at_catch C htab [] ⟨0, 16, 19, 52⟩ [] rfl (fun z hz => nomatch hz) (by decide) (by decide) cl_L_52 (by decide) (ah_astore_n C dL_kept_19 (by decide) rfl ?_)
  refine aw_nl [some (.ref 0), some (.int a1), some (.ref 223), none] rfl ?_
  refine aw_iconst C 1 dL_kept_20 ki_1 ?_
  exact aw_iret C rfl rfl dL_kept_21 (Nat.le_of_ble_eq_true rfl) (Nat.le_of_ble_eq_true rfl) ⟨rfl, rfl⟩

set_option maxHeartbeats 4000000 in
set_option maxRecDepth 100000 in
theorem c_X9_kept_607 {X : GX} {l : Launch} {f : AH} {n : Nat} {a1 : Int32} (q0 : 0 ≤ a1.toInt ∧ a1.toInt ≤ 2147483647) (h181 : f 181 = some (.inr (9, (.int 0 :: .ref 182 :: .ref 183 :: .ref 184 :: .ref 185 :: .int 0 :: .int 0 :: .int 0 :: .ref 186 :: .int 0 :: .int 0 :: .int 0 :: .int (-1) :: .ref 187 :: .ref 188 :: .ref 189 :: .int 0 :: .ref 190 :: .ref 191 :: .ref 192 :: .ref 193 :: .ref 194 :: .int 0 :: .ref 195 :: .ref 196 :: .ref 197 :: .int 0 :: .ref 198 :: .ref 199 :: .ref 200 :: .ref 201 :: .ref 202 :: .ref 203 :: .int 0 :: .ref 204 :: .ref 205 :: .ref 206 :: .ref 207 :: .ref 208 :: .ref 209 :: .ref 210 :: .ref 211 :: .ref 212 :: .ref 213 :: .ref 214 :: .int 0 :: .ref 215 :: .ref 216 :: .int 0 :: .ref 217 :: .ref 218 :: .ref 219 :: .ref 220 :: .ref 221 :: .int 0 :: .int 0 :: .int 0 :: .int 0 :: .ref 222 :: .int 0 :: [])))) : AM X l yX9_kept cX9_kept 5 (some .boolean) 2 0 0 [.ref 181, .int a1] f n (EXO f [(181, .inr (9, (.int 1 :: .ref 182 :: .ref 183 :: .ref 184 :: .ref 185 :: .int 0 :: .int 0 :: .int 0 :: .ref 186 :: .int 0 :: .int 0 :: .int 0 :: .int (-1) :: .ref 187 :: .ref 188 :: .ref 189 :: .int 0 :: .ref 190 :: .ref 191 :: .ref 192 :: .ref 193 :: .ref 194 :: .int 0 :: .ref 195 :: .ref 196 :: .ref 197 :: .int 0 :: .ref 198 :: .ref 199 :: .ref 200 :: .ref 201 :: .ref 202 :: .ref 203 :: .int 0 :: .ref 204 :: .ref 205 :: .ref 206 :: .ref 207 :: .ref 208 :: .ref 209 :: .ref 210 :: .ref 211 :: .ref 212 :: .ref 213 :: .ref 214 :: .int 0 :: .ref 215 :: .ref 216 :: .int 0 :: .ref 217 :: .ref 218 :: .ref 219 :: .ref 220 :: .ref 221 :: .int 0 :: .int 0 :: .int 0 :: .int 0 :: .ref 222 :: .int 0 :: [])))] (some (.int 0)) n) := by
  refine AM.of (by decide +kernel) rfl (Nat.le_of_ble_eq_true rfl) (fun p e s m args below meth c C hnm => ?_)
  refine ao_start ?_
  refine aw_nl [some (.ref 181), some (.int a1), none, none, none] rfl ?_
  obtain ⟨q0a, q0b⟩ := q0
  refine aw_ald_n C dX9_kept_0 rfl ?_
  refine aw_ald_n C dX9_kept_1 rfl ?_
  refine aw_iload_n C dX9_kept_2 rfl ?_
  refine ao_callV C (ci := 9) (b := 181) [.int a1] [] mv_X9_293 rfl rfl h181 (c_X9_isPieceThere_457 ⟨by omega, by omega⟩ h181) rfl dX9_kept_3 (Nat.le_of_ble_eq_true rfl) (Nat.le_of_ble_eq_true rfl) rfl (Nat.le_of_ble_eq_true rfl) (Nat.le_of_ble_eq_true rfl) (Nat.le_of_ble_eq_true rfl) rfl ?_
  refine aw_if_eq C 13 dX9_kept_6 (by decide) (fun _ => ?_) (fun q => absurd (by decide) q)
  refine aw_iconst C 1 dX9_kept_13 ki_1 ?_
  refine ao_put C [(181, .inr (9, (.int 1 :: .ref 182 :: .ref 183 :: .ref 184 :: .ref 185 :: .int 0 :: .int 0 :: .int 0 :: .ref 186 :: .int 0 :: .int 0 :: .int 0 :: .int (-1) :: .ref 187 :: .ref 188 :: .ref 189 :: .int 0 :: .ref 190 :: .ref 191 :: .ref 192 :: .ref 193 :: .ref 194 :: .int 0 :: .ref 195 :: .ref 196 :: .ref 197 :: .int 0 :: .ref 198 :: .ref 199 :: .ref 200 :: .ref 201 :: .ref 202 :: .ref 203 :: .int 0 :: .ref 204 :: .ref 205 :: .ref 206 :: .ref 207 :: .ref 208 :: .ref 209 :: .ref 210 :: .ref 211 :: .ref 212 :: .ref 213 :: .ref 214 :: .int 0 :: .ref 215 :: .ref 216 :: .int 0 :: .ref 217 :: .ref 218 :: .ref 219 :: .ref 220 :: .ref 221 :: .int 0 :: .int 0 :: .int 0 :: .int 0 :: .ref 222 :: .int 0 :: [])))] gf_X9_138 cf9 nf9_0 h181 (Nat.le_of_ble_eq_true rfl) rfl rfl dX9_kept_14 rfl ?_
  refine aw_ald_n C dX9_kept_17 rfl ?_
  refine aw_get C gf_X9_138 rfl rfl dX9_kept_18 ?_
  refine aw_if_le C 26 dX9_kept_21 (by decide) (fun q => absurd q (by decide)) (fun _ => ?_)
  refine aw_iconst C 0 dX9_kept_24 ki_0 ?_
  exact aw_iret C rfl (by decide) dX9_kept_25 (Nat.le_of_ble_eq_true rfl) (Nat.le_of_ble_eq_true rfl) ⟨rfl, rfl, rfl⟩

set_option maxHeartbeats 4000000 in
set_option maxRecDepth 100000 in
theorem c_X5_cutTo_608 {X : GX} {l : Launch} {f : AH} {n : Nat} (h116 : f 116 = some (.inr (5, [.ref 117, .int 0]))) : AM X l yX5_cutTo cX5_cutTo 2 none 0 0 0 [.ref 116, .int 0] f n (EXO f [] none n) := by
  refine AM.of (by decide +kernel) rfl (by decide) (fun p e s m args below meth c C hnm => ?_)
  refine ao_start ?_
  refine aw_nl [some (.ref 116), some (.int 0)] rfl ?_
  refine aw_iload_n C dX5_cutTo_0 rfl ?_
  refine aw_if_lt C 17 dX5_cutTo_1 (by decide) (fun q => absurd q (by decide)) (fun _ => ?_)
  refine aw_iload_n C dX5_cutTo_4 rfl ?_
  refine aw_ald_n C dX5_cutTo_5 rfl ?_
  refine aw_get C gf_X5_15 h116 rfl dX5_cutTo_6 ?_
  refine aw_icmp_ge C 17 dX5_cutTo_9 (by decide) (fun _ => ?_) (fun q => absurd (by decide) q)
  exact aw_vret C rfl dX5_cutTo_17 (Nat.le_of_ble_eq_true rfl) (Nat.le_of_ble_eq_true rfl) ⟨rfl, rfl, rfl⟩

set_option maxHeartbeats 4000000 in
set_option maxRecDepth 100000 in
theorem c_X5_cutTo_609 {X : GX} {l : Launch} {f : AH} {n : Nat} (h118 : f 118 = some (.inr (5, [.ref 119, .int 0]))) : AM X l yX5_cutTo cX5_cutTo 2 none 0 0 0 [.ref 118, .int 0] f n (EXO f [] none n) := by
  refine AM.of (by decide +kernel) rfl (by decide) (fun p e s m args below meth c C hnm => ?_)
  refine ao_start ?_
  refine aw_nl [some (.ref 118), some (.int 0)] rfl ?_
  refine aw_iload_n C dX5_cutTo_0 rfl ?_
  refine aw_if_lt C 17 dX5_cutTo_1 (by decide) (fun q => absurd q (by decide)) (fun _ => ?_)
  refine aw_iload_n C dX5_cutTo_4 rfl ?_
  refine aw_ald_n C dX5_cutTo_5 rfl ?_
  refine aw_get C gf_X5_15 h118 rfl dX5_cutTo_6 ?_
  refine aw_icmp_ge C 17 dX5_cutTo_9 (by decide) (fun _ => ?_) (fun q => absurd (by decide) q)
  exact aw_vret C rfl dX5_cutTo_17 (Nat.le_of_ble_eq_true rfl) (Nat.le_of_ble_eq_true rfl) ⟨rfl, rfl, rfl⟩

set_option maxHeartbeats 4000000 in
set_option maxRecDepth 100000 in
theorem c_X6_start_610 {X : GX} {l : Launch} {f : AH} {n : Nat} (h124 : f 124 = some (.inr (6, [.ref 125, .int 0, .int 0, .int 0, .int 0, .int 0, .int 0, .int 0, .int 0, .int 0]))) : AM X l yX6_start cX6_start 3 none 0 0 0 [.ref 124, .ref 172, .int 0] f n (EXO f [(124, .inr (6, [.ref 172, .int 0, .int 0, .int 0, .int 0, .int 0, .int 0, .int 0, .int 0, .int 0]))] none n) := by
  refine AM.of (by decide +kernel) rfl (by decide) (fun p e s m args below meth c C hnm => ?_)
  refine ao_start ?_
  refine aw_nl [some (.ref 124), some (.ref 172), some (.int 0)] rfl ?_
  refine aw_ald_n C dX6_start_0 rfl ?_
  refine aw_ald_n C dX6_start_1 rfl ?_
  refine ao_put C [(124, .inr (6, [.ref 172, .int 0, .int 0, .int 0, .int 0, .int 0, .int 0, .int 0, .int 0, .int 0]))] gf_X6_14 cf6 nf6_0 h124 (Nat.le_of_ble_eq_true rfl) rfl rfl dX6_start_2 rfl ?_
  refine aw_ald_n C dX6_start_5 rfl ?_
  refine aw_iload_n C dX6_start_6 rfl ?_
  refine ao_put C [(124, .inr (6, [.ref 172, .int 0, .int 0, .int 0, .int 0, .int 0, .int 0, .int 0, .int 0, .int 0]))] gf_X6_20 cf6 nf6_8 rfl (Nat.le_of_ble_eq_true rfl) rfl rfl dX6_start_7 rfl ?_
  refine aw_ald_n C dX6_start_10 rfl ?_
  refine aw_iconst C 0 dX6_start_11 ki_0 ?_
  refine ao_put C [(124, .inr (6, [.ref 172, .int 0, .int 0, .int 0, .int 0, .int 0, .int 0, .int 0, .int 0, .int 0]))] gf_X6_24 cf6 nf6_9 rfl (Nat.le_of_ble_eq_true rfl) rfl rfl dX6_start_12 rfl ?_
  refine aw_ald_n C dX6_start_15 rfl ?_
  refine aw_iconst C 0 dX6_start_16 ki_0 ?_
  refine ao_put C [(124, .inr (6, [.ref 172, .int 0, .int 0, .int 0, .int 0, .int 0, .int 0, .int 0, .int 0, .int 0]))] gf_X6_27 cf6 nf6_3 rfl (Nat.le_of_ble_eq_true rfl) (by decide) (by decide) dX6_start_17 rfl ?_
  refine aw_ald_n C dX6_start_20 rfl ?_
  refine aw_iconst C 0 dX6_start_21 ki_0 ?_
  refine ao_put C [(124, .inr (6, [.ref 172, .int 0, .int 0, .int 0, .int 0, .int 0, .int 0, .int 0, .int 0, .int 0]))] gf_X6_31 cf6 nf6_4 rfl (Nat.le_of_ble_eq_true rfl) rfl rfl dX6_start_22 rfl ?_
  refine aw_ald_n C dX6_start_25 rfl ?_
  refine aw_iconst C 0 dX6_start_26 ki_0 ?_
  refine ao_put C [(124, .inr (6, [.ref 172, .int 0, .int 0, .int 0, .int 0, .int 0, .int 0, .int 0, .int 0, .int 0]))] gf_X6_34 cf6 nf6_5 rfl (Nat.le_of_ble_eq_true rfl) rfl rfl dX6_start_27 rfl ?_
  exact aw_vret C rfl dX6_start_30 (Nat.le_of_ble_eq_true rfl) (Nat.le_of_ble_eq_true rfl) ⟨rfl, rfl, rfl⟩

set_option maxHeartbeats 4000000 in
set_option maxRecDepth 100000 in
theorem c_X5_size_611 {X : GX} {l : Launch} {f : AH} {n : Nat} (h172 : f 172 = some (.inr (5, [.ref 173, .int 0]))) : AM X l yX5_size cX5_size 1 (some .int) 0 0 0 [.ref 172] f n (EXO f [] (some (.int 0)) n) := by
  refine AM.of (by decide +kernel) rfl (by decide) (fun p e s m args below meth c C hnm => ?_)
  refine ao_start ?_
  refine aw_nl [some (.ref 172)] rfl ?_
  refine aw_ald_n C dX5_size_0 rfl ?_
  refine aw_get C gf_X5_15 h172 rfl dX5_size_1 ?_
  exact aw_iret C rfl rfl dX5_size_4 (Nat.le_of_ble_eq_true rfl) (Nat.le_of_ble_eq_true rfl) ⟨rfl, rfl, rfl⟩

set_option maxHeartbeats 4000000 in
set_option maxRecDepth 100000 in
theorem c_X6_next_612 {X : GX} {l : Launch} {f : AH} {n : Nat} (h124 : f 124 = some (.inr (6, [.ref 172, .int 0, .int 0, .int 0, .int 0, .int 0, .int 0, .int 0, .int 0, .int 0]))) (h172 : f 172 = some (.inr (5, [.ref 173, .int 0]))) : AM X l yX6_next cX6_next 2 (some .boolean) 1 0 0 [.ref 124] f n (EXO f [] (some (.int 0)) n) := by
  refine AM.of (by decide +kernel) rfl (by decide) (fun p e s m args below meth c C hnm => ?_)
  refine ao_start ?_
  refine aw_nl [some (.ref 124), none] rfl ?_
  refine aw_iconst C 0 dX6_next_0 ki_0 ?_
  refine aw_istore_n C dX6_next_1 (by decide) rfl ?_
  refine aw_nl [some (.ref 124), some (.int 0)] rfl ?_
  refine aw_iload_n C dX6_next_2 rfl ?_
  refine aw_sipush C 600 dX6_next_3 ks_600 ?_
  refine aw_icmp_gt C 96 dX6_next_6 (by decide) (fun q => absurd q (by decide)) (fun _ => ?_)
  refine aw_ald_n C dX6_next_9 rfl ?_
  refine aw_get C gf_X6_24 h124 rfl dX6_next_10 ?_
  refine aw_ald_n C dX6_next_13 rfl ?_
  refine aw_get C gf_X6_14 h124 rfl dX6_next_14 ?_
  refine ao_callV C (ci := 5) (b := 172) [] [] mv_X6_37 rfl rfl h172 (c_X5_size_611 h172) rfl dX6_next_17 (Nat.le_of_ble_eq_true rfl) (Nat.le_of_ble_eq_true rfl) rfl (Nat.le_of_ble_eq_true rfl) (Nat.le_of_ble_eq_true rfl) (Nat.le_of_ble_eq_true rfl) rfl ?_
  refine aw_icmp_ge C 96 dX6_next_20 (by decide) (fun _ => ?_) (fun q => absurd (by decide) q)
  refine aw_iconst C 0 dX6_next_96 ki_0 ?_
  exact aw_iret C rfl (by decide) dX6_next_97 (Nat.le_of_ble_eq_true rfl) (Nat.le_of_ble_eq_true rfl) ⟨rfl, rfl, rfl⟩

set_option maxHeartbeats 4000000 in
set_option maxRecDepth 100000 in
theorem c_X1_find_613 {X : GX} {l : Launch} {f : AH} {n : Nat} {g130 : Nat → Option Nat} (h115 : f 115 = some (.inr (1, [.ref 116, .ref 118, .ref 130, .int 0, .ref 124, .ref 127, .ref 120, .ref 122]))) (h116 : f 116 = some (.inr (5, [.ref 117, .int 0]))) (h118 : f 118 = some (.inr (5, [.ref 119, .int 0]))) (h3 : f 3 = some (.inr (7, [.ref 4, .int 0, .int (-1), .int 0, .int 1, .int 0, .null, .int 0, .ref 6, .ref 7]))) (h124 : f 124 = some (.inr (6, [.ref 125, .int 0, .int 0, .int 0, .int 0, .int 0, .int 0, .int 0, .int 0, .int 0]))) (h130 : f 130 = some (.inl (1, 40, .inr (.inr g130)))) (h172 : f 172 = some (.inr (5, [.ref 173, .int 0]))) : AM X l yX1_find cX1_find 5 none 2 0 0 [.ref 115, .ref 172, .ref 3] f n (EXO f [(115, .inr (1, [.ref 116, .ref 118, .ref 130, .int 0, .ref 124, .ref 127, .ref 120, .ref 122])), (124, .inr (6, [.ref 172, .int 0, .int 0, .int 0, .int 0, .int 0, .int 0, .int 0, .int 0, .int 0]))] none n) := by
  refine AM.of (by decide +kernel) rfl (by decide) (fun p e s m args below meth c C hnm => ?_)
  refine ao_start ?_
  refine aw_nl [some (.ref 115), some (.ref 172), some (.ref 3), none, none] rfl ?_
  refine aw_ald_n C dX1_find_0 rfl ?_
  refine aw_iconst C 0 dX1_find_1 ki_0 ?_
  refine ao_put C [(115, .inr (1, [.ref 116, .ref 118, .ref 130, .int 0, .ref 124, .ref 127, .ref 120, .ref 122]))] gf_X1_46 cf1 nf1_3 h115 (Nat.le_of_ble_eq_true rfl) rfl rfl dX1_find_2 rfl ?_
  refine aw_ald_n C dX1_find_5 rfl ?_
  refine aw_get C gf_X1_14 rfl rfl dX1_find_6 ?_
  refine aw_iconst C 0 dX1_find_9 ki_0 ?_
  refine ao_callV C (ci := 5) (b := 116) [.int 0] [(115, .inr (1, [.ref 116, .ref 118, .ref 130, .int 0, .ref 124, .ref 127, .ref 120, .ref 122]))] mv_X1_50 rfl rfl h116 (c_X5_cutTo_608 h116) rfl dX1_find_10 (Nat.le_of_ble_eq_true rfl) (Nat.le_of_ble_eq_true rfl) rfl (Nat.le_of_ble_eq_true rfl) (Nat.le_of_ble_eq_true rfl) (Nat.le_of_ble_eq_true rfl) rfl ?_
  refine aw_ald_n C dX1_find_13 rfl ?_
  refine aw_get C gf_X1_20 rfl rfl dX1_find_14 ?_
  refine aw_iconst C 0 dX1_find_17 ki_0 ?_
  refine ao_callV C (ci := 5) (b := 118) [.int 0] [(115, .inr (1, [.ref 116, .ref 118, .ref 130, .int 0, .ref 124, .ref 127, .ref 120, .ref 122]))] mv_X1_50 rfl rfl h118 (c_X5_cutTo_609 h118) rfl dX1_find_18 (Nat.le_of_ble_eq_true rfl) (Nat.le_of_ble_eq_true rfl) rfl (Nat.le_of_ble_eq_true rfl) (Nat.le_of_ble_eq_true rfl) (Nat.le_of_ble_eq_true rfl) rfl ?_
  refine aw_ald_n C dX1_find_21 rfl ?_
  refine aw_get C gf_X1_32 rfl rfl dX1_find_22 ?_
  refine aw_ald_n C dX1_find_25 rfl ?_
  refine aw_ald_n C dX1_find_26 rfl ?_
  refine aw_get C gf_X1_53 h3 rfl dX1_find_27 ?_
  refine ao_callV C (ci := 6) (b := 124) [.ref 172, .int 0] [(115, .inr (1, [.ref 116, .ref 118, .ref 130, .int 0, .ref 124, .ref 127, .ref 120, .ref 122])), (124, .inr (6, [.ref 172, .int 0, .int 0, .int 0, .int 0, .int 0, .int 0, .int 0, .int 0, .int 0]))] mv_X1_58 rfl rfl h124 (c_X6_start_610 h124) rfl dX1_find_30 (Nat.le_of_ble_eq_true rfl) (Nat.le_of_ble_eq_true rfl) rfl (Nat.le_of_ble_eq_true rfl) (Nat.le_of_ble_eq_true rfl) (Nat.le_of_ble_eq_true rfl) rfl ?_
  refine aw_iconst C 0 dX1_find_33 ki_0 ?_
  refine aw_istore_n C dX1_find_34 (by decide) rfl ?_
  refine aw_nl [some (.ref 115), some (.ref 172), some (.ref 3), some (.int 0), none] rfl ?_
  refine aw_iload_n C dX1_find_35 rfl ?_
  refine aw_sipush C 600 dX1_find_36 ks_600 ?_
  refine aw_icmp_gt C 174 dX1_find_39 (by decide) (fun q => absurd q (by decide)) (fun _ => ?_)
  refine aw_ald_n C dX1_find_42 rfl ?_
  refine aw_get C gf_X1_46 rfl rfl dX1_find_43 ?_
  refine aw_ald_n C dX1_find_46 rfl ?_
  refine aw_get C gf_X1_41 rfl rfl dX1_find_47 ?_
  refine aw_alen C (by decide) h130 dX1_find_50 ?_
  refine aw_top 40 (by decide) ?_
  refine aw_icmp_ge C 174 dX1_find_51 (by decide) (fun q => absurd q (by decide)) (fun _ => ?_)
  refine aw_ald_n C dX1_find_54 rfl ?_
  refine aw_get C gf_X1_32 rfl rfl dX1_find_55 ?_
  refine ao_callV C (ci := 6) (b := 124) [] [(115, .inr (1, [.ref 116, .ref 118, .ref 130, .int 0, .ref 124, .ref 127, .ref 120, .ref 122])), (124, .inr (6, [.ref 172, .int 0, .int 0, .int 0, .int 0, .int 0, .int 0, .int 0, .int 0, .int 0]))] mv_X1_62 rfl rfl rfl (c_X6_next_612 rfl h172) rfl dX1_find_58 (Nat.le_of_ble_eq_true rfl) (Nat.le_of_ble_eq_true rfl) rfl (Nat.le_of_ble_eq_true rfl) (Nat.le_of_ble_eq_true rfl) (Nat.le_of_ble_eq_true rfl) rfl ?_
  refine aw_if_eq C 174 dX1_find_61 (by decide) (fun _ => ?_) (fun q => absurd (by decide) q)
  exact aw_vret C rfl dX1_find_174 (Nat.le_of_ble_eq_true rfl) (Nat.le_of_ble_eq_true rfl) ⟨rfl, rfl, rfl⟩

set_option maxHeartbeats 4000000 in
set_option maxRecDepth 100000 in
theorem c_X8_cutAgain_614 {X : GX} {l : Launch} {f : AH} {n : Nat} {g130 : Nat → Option Nat} (h0 : f 0 = some (.inr (8, [.ref 1, .ref 3, .ref 8, .ref 13, .ref 18, .ref 59, .ref 115, .ref 171, .ref 178, .int 0, .int 0, .int 0, .int 0, .int (-1)]))) (h171 : f 171 = some (.inr (0, [.ref 172, .ref 174, .ref 176, .int 0]))) (h115 : f 115 = some (.inr (1, [.ref 116, .ref 118, .ref 130, .int 0, .ref 124, .ref 127, .ref 120, .ref 122]))) (h116 : f 116 = some (.inr (5, [.ref 117, .int 0]))) (h118 : f 118 = some (.inr (5, [.ref 119, .int 0]))) (h3 : f 3 = some (.inr (7, [.ref 4, .int 0, .int (-1), .int 0, .int 1, .int 0, .null, .int 0, .ref 6, .ref 7]))) (h124 : f 124 = some (.inr (6, [.ref 125, .int 0, .int 0, .int 0, .int 0, .int 0, .int 0, .int 0, .int 0, .int 0]))) (h130 : f 130 = some (.inl (1, 40, .inr (.inr g130)))) (h172 : f 172 = some (.inr (5, [.ref 173, .int 0]))) : AM X l yX8_cutAgain cX8_cutAgain 1 none 3 0 0 [.ref 0] f n (EXO f [(124, .inr (6, [.ref 172, .int 0, .int 0, .int 0, .int 0, .int 0, .int 0, .int 0, .int 0, .int 0])), (115, .inr (1, [.ref 116, .ref 118, .ref 130, .int 0, .ref 124, .ref 127, .ref 120, .ref 122])), (0, .inr (8, [.ref 1, .ref 3, .ref 8, .ref 13, .ref 18, .ref 59, .ref 115, .ref 171, .ref 178, .int 0, .int 1, .int 0, .int 0, .int (-1)]))] none n) := by
  refine AM.of (by decide +kernel) rfl (by decide) (fun p e s m args below meth c C hnm => ?_)
  refine ao_start ?_
  refine aw_nl [some (.ref 0)] rfl ?_
  refine aw_ald_n C dX8_cutAgain_0 rfl ?_
  refine aw_get C gf_X8_334 h0 rfl dX8_cutAgain_1 ?_
  refine aw_if_ne C 30 dX8_cutAgain_4 (by decide) (fun q => absurd (by decide) q) (fun _ => ?_)
  refine aw_ald_n C dX8_cutAgain_7 rfl ?_
  refine aw_get C gf_X8_42 h0 rfl dX8_cutAgain_8 ?_
  refine aw_ald_n C dX8_cutAgain_11 rfl ?_
  refine aw_get C gf_X8_48 h0 rfl dX8_cutAgain_12 ?_
  refine aw_get C gf_X8_160 h171 rfl dX8_cutAgain_15 ?_
  refine aw_ald_n C dX8_cutAgain_18 rfl ?_
  refine aw_get C gf_X8_21 h0 rfl dX8_cutAgain_19 ?_
  refine ao_callV C (ci := 1) (b := 115) [.ref 172, .ref 3] [(124, .inr (6, [.ref 172, .int 0, .int 0, .int 0, .int 0, .int 0, .int 0, .int 0, .int 0, .int 0])), (115, .inr (1, [.ref 116, .ref 118, .ref 130, .int 0, .ref 124, .ref 127, .ref 120, .ref 122]))] mv_X8_361 rfl rfl h115 (c_X1_find_613 h115 h116 h118 h3 h124 h130 h172) rfl dX8_cutAgain_22 (Nat.le_of_ble_eq_true rfl) (Nat.le_of_ble_eq_true rfl) rfl (Nat.le_of_ble_eq_true rfl) (Nat.le_of_ble_eq_true rfl) (Nat.le_of_ble_eq_true rfl) rfl ?_
  refine aw_ald_n C dX8_cutAgain_25 rfl ?_
  refine aw_iconst C 1 dX8_cutAgain_26 ki_1 ?_
  refine ao_put C [(124, .inr (6, [.ref 172, .int 0, .int 0, .int 0, .int 0, .int 0, .int 0, .int 0, .int 0, .int 0])), (115, .inr (1, [.ref 116, .ref 118, .ref 130, .int 0, .ref 124, .ref 127, .ref 120, .ref 122])), (0, .inr (8, [.ref 1, .ref 3, .ref 8, .ref 13, .ref 18, .ref 59, .ref 115, .ref 171, .ref 178, .int 0, .int 1, .int 0, .int 0, .int (-1)]))] gf_X8_334 cf8 nf8_10 h0 (Nat.le_of_ble_eq_true rfl) (by decide) (by decide) dX8_cutAgain_27 rfl ?_
  exact aw_vret C rfl dX8_cutAgain_30 (Nat.le_of_ble_eq_true rfl) (Nat.le_of_ble_eq_true rfl) ⟨rfl, rfl, rfl⟩

set_option maxHeartbeats 4000000 in
set_option maxRecDepth 100000 in
theorem c_X1_size_615 {X : GX} {l : Launch} {f : AH} {n : Nat} (h115 : f 115 = some (.inr (1, [.ref 116, .ref 118, .ref 130, .int 0, .ref 124, .ref 127, .ref 120, .ref 122]))) : AM X l yX1_size cX1_size 1 (some .int) 0 0 0 [.ref 115] f n (EXO f [] (some (.int 0)) n) := by
  refine AM.of (by decide +kernel) rfl (by decide) (fun p e s m args below meth c C hnm => ?_)
  refine ao_start ?_
  refine aw_nl [some (.ref 115)] rfl ?_
  refine aw_ald_n C dX1_size_0 rfl ?_
  refine aw_get C gf_X1_46 h115 rfl dX1_size_1 ?_
  exact aw_iret C rfl rfl dX1_size_4 (Nat.le_of_ble_eq_true rfl) (Nat.le_of_ble_eq_true rfl) ⟨rfl, rfl, rfl⟩

set_option maxHeartbeats 4000000 in
set_option maxRecDepth 100000 in
theorem c_X8_twice_616 {X : GX} {l : Launch} {f : AH} {n : Nat} {g130 : Nat → Option Nat} (h0 : f 0 = some (.inr (8, [.ref 1, .ref 3, .ref 8, .ref 13, .ref 18, .ref 59, .ref 115, .ref 171, .ref 178, .int 0, .int 0, .int 0, .int 0, .int (-1)]))) (h171 : f 171 = some (.inr (0, [.ref 172, .ref 174, .ref 176, .int 0]))) (h115 : f 115 = some (.inr (1, [.ref 116, .ref 118, .ref 130, .int 0, .ref 124, .ref 127, .ref 120, .ref 122]))) (h116 : f 116 = some (.inr (5, [.ref 117, .int 0]))) (h118 : f 118 = some (.inr (5, [.ref 119, .int 0]))) (h3 : f 3 = some (.inr (7, [.ref 4, .int 0, .int (-1), .int 0, .int 1, .int 0, .null, .int 0, .ref 6, .ref 7]))) (h124 : f 124 = some (.inr (6, [.ref 125, .int 0, .int 0, .int 0, .int 0, .int 0, .int 0, .int 0, .int 0, .int 0]))) (h130 : f 130 = some (.inl (1, 40, .inr (.inr g130)))) (h172 : f 172 = some (.inr (5, [.ref 173, .int 0]))) (h59 : f 59 = some (.inr (1, [.ref 60, .ref 62, .ref 74, .int 0, .ref 68, .ref 71, .ref 64, .ref 66]))) : AM X l yX8_twice cX8_twice 4 (some .boolean) 4 0 0 [.ref 0] f n (EXO f [(0, .inr (8, [.ref 1, .ref 3, .ref 8, .ref 13, .ref 18, .ref 59, .ref 115, .ref 171, .ref 178, .int 0, .int 1, .int 0, .int 0, .int (-1)])), (115, .inr (1, [.ref 116, .ref 118, .ref 130, .int 0, .ref 124, .ref 127, .ref 120, .ref 122])), (124, .inr (6, [.ref 172, .int 0, .int 0, .int 0, .int 0, .int 0, .int 0, .int 0, .int 0, .int 0]))] (some (.int 1)) n) := by
  refine AM.of (by decide +kernel) rfl (by decide) (fun p e s m args below meth c C hnm => ?_)
  refine ao_start ?_
  refine aw_nl [some (.ref 0), none, none, none] rfl ?_
  refine aw_ald_n C dX8_twice_0 rfl ?_
  refine ao_callV C (ci := 8) (b := 0) [] [(0, .inr (8, [.ref 1, .ref 3, .ref 8, .ref 13, .ref 18, .ref 59, .ref 115, .ref 171, .ref 178, .int 0, .int 1, .int 0, .int 0, .int (-1)])), (115, .inr (1, [.ref 116, .ref 118, .ref 130, .int 0, .ref 124, .ref 127, .ref 120, .ref 122])), (124, .inr (6, [.ref 172, .int 0, .int 0, .int 0, .int 0, .int 0, .int 0, .int 0, .int 0, .int 0]))] mv_X8_276 rfl rfl h0 (c_X8_cutAgain_614 h0 h171 h115 h116 h118 h3 h124 h130 h172) rfl dX8_twice_1 (Nat.le_of_ble_eq_true rfl) (Nat.le_of_ble_eq_true rfl) rfl (Nat.le_of_ble_eq_true rfl) (Nat.le_of_ble_eq_true rfl) (Nat.le_of_ble_eq_true rfl) rfl ?_
  refine aw_ald_n C dX8_twice_4 rfl ?_
  refine aw_get C gf_X8_42 rfl rfl dX8_twice_5 ?_
  refine ao_callV C (ci := 1) (b := 115) [] [(0, .inr (8, [.ref 1, .ref 3, .ref 8, .ref 13, .ref 18, .ref 59, .ref 115, .ref 171, .ref 178, .int 0, .int 1, .int 0, .int 0, .int (-1)])), (115, .inr (1, [.ref 116, .ref 118, .ref 130, .int 0, .ref 124, .ref 127, .ref 120, .ref 122])), (124, .inr (6, [.ref 172, .int 0, .int 0, .int 0, .int 0, .int 0, .int 0, .int 0, .int 0, .int 0]))] mv_X8_136 rfl rfl rfl (c_X1_size_615 rfl) rfl dX8_twice_8 (Nat.le_of_ble_eq_true rfl) (Nat.le_of_ble_eq_true rfl) rfl (Nat.le_of_ble_eq_true rfl) (Nat.le_of_ble_eq_true rfl) (Nat.le_of_ble_eq_true rfl) rfl ?_
  refine aw_ald_n C dX8_twice_11 rfl ?_
  refine aw_get C gf_X8_38 rfl rfl dX8_twice_12 ?_
  refine ao_callV C (ci := 1) (b := 59) [] [(0, .inr (8, [.ref 1, .ref 3, .ref 8, .ref 13, .ref 18, .ref 59, .ref 115, .ref 171, .ref 178, .int 0, .int 1, .int 0, .int 0, .int (-1)])), (115, .inr (1, [.ref 116, .ref 118, .ref 130, .int 0, .ref 124, .ref 127, .ref 120, .ref 122])), (124, .inr (6, [.ref 172, .int 0, .int 0, .int 0, .int 0, .int 0, .int 0, .int 0, .int 0, .int 0]))] mv_X8_136 rfl rfl h59 (c_X1_size_192 h59) rfl dX8_twice_15 (Nat.le_of_ble_eq_true rfl) (Nat.le_of_ble_eq_true rfl) rfl (Nat.le_of_ble_eq_true rfl) (Nat.le_of_ble_eq_true rfl) (Nat.le_of_ble_eq_true rfl) rfl ?_
  refine aw_icmp_eq C 23 dX8_twice_18 (by decide) (fun _ => ?_) (fun q => absurd (by decide) q)
  refine aw_iconst C 0 dX8_twice_23 ki_0 ?_
  refine aw_istore_n C dX8_twice_24 (by decide) rfl ?_
  refine aw_nl [some (.ref 0), some (.int 0), none, none] rfl ?_
  refine aw_iload_n C dX8_twice_25 rfl ?_
  refine aw_ald_n C dX8_twice_26 rfl ?_
  refine aw_get C gf_X8_38 rfl rfl dX8_twice_27 ?_
  refine ao_callV C (ci := 1) (b := 59) [] [(0, .inr (8, [.ref 1, .ref 3, .ref 8, .ref 13, .ref 18, .ref 59, .ref 115, .ref 171, .ref 178, .int 0, .int 1, .int 0, .int 0, .int (-1)])), (115, .inr (1, [.ref 116, .ref 118, .ref 130, .int 0, .ref 124, .ref 127, .ref 120, .ref 122])), (124, .inr (6, [.ref 172, .int 0, .int 0, .int 0, .int 0, .int 0, .int 0, .int 0, .int 0, .int 0]))] mv_X8_136 rfl rfl h59 (c_X1_size_192 h59) rfl dX8_twice_30 (Nat.le_of_ble_eq_true rfl) (Nat.le_of_ble_eq_true rfl) rfl (Nat.le_of_ble_eq_true rfl) (Nat.le_of_ble_eq_true rfl) (Nat.le_of_ble_eq_true rfl) rfl ?_
  refine aw_icmp_ge C 80 dX8_twice_33 (by decide) (fun _ => ?_) (fun q => absurd (by decide) q)
  refine aw_iconst C 1 dX8_twice_80 ki_1 ?_
  exact aw_iret C rfl (by decide) dX8_twice_81 (Nat.le_of_ble_eq_true rfl) (Nat.le_of_ble_eq_true rfl) ⟨rfl, rfl, rfl⟩

set_option maxHeartbeats 4000000 in
set_option maxRecDepth 100000 in
theorem c_X9_cutsAll_617 {X : GX} {l : Launch} {f : AH} {n : Nat} (h181 : f 181 = some (.inr (9, (.int 0 :: .ref 182 :: .ref 183 :: .ref 184 :: .ref 185 :: .int 0 :: .int 0 :: .int 0 :: .ref 186 :: .int 0 :: .int 0 :: .int 0 :: .int (-1) :: .ref 187 :: .ref 188 :: .ref 189 :: .int 0 :: .ref 190 :: .ref 191 :: .ref 192 :: .ref 193 :: .ref 194 :: .int 0 :: .ref 195 :: .ref 196 :: .ref 197 :: .int 0 :: .ref 198 :: .ref 199 :: .ref 200 :: .ref 201 :: .ref 202 :: .ref 203 :: .int 0 :: .ref 204 :: .ref 205 :: .ref 206 :: .ref 207 :: .ref 208 :: .ref 209 :: .ref 210 :: .ref 211 :: .ref 212 :: .ref 213 :: .ref 214 :: .int 0 :: .ref 215 :: .ref 216 :: .int 0 :: .ref 217 :: .ref 218 :: .ref 219 :: .ref 220 :: .ref 221 :: .int 0 :: .int 0 :: .int 0 :: .int 0 :: .ref 222 :: .int 0 :: [])))) (h182 : f 182 = some (.inl (0, 4347, .inl (tl (upd (upd (fun _ => 0) 2 (-1)) 4 1) 40)))) : AM X l yX9_cutsAll cX9_cutsAll 5 none 2 0 0 [.ref 181] f n (EXO f [(181, .inr (9, (.int 0 :: .ref 182 :: .ref 183 :: .ref 184 :: .ref 185 :: .int 0 :: .int 0 :: .int 0 :: .ref 186 :: .int 0 :: .int 0 :: .int 0 :: .int (-1) :: .ref 187 :: .ref 188 :: .ref 189 :: .int 0 :: .ref 190 :: .ref 191 :: .ref 192 :: .ref 193 :: .ref 194 :: .int 0 :: .ref 195 :: .ref 196 :: .ref 197 :: .int 0 :: .ref 198 :: .ref 199 :: .ref 200 :: .ref 201 :: .ref 202 :: .ref 203 :: .int 0 :: .ref 204 :: .ref 205 :: .ref 206 :: .ref 207 :: .ref 208 :: .ref 209 :: .ref 210 :: .ref 211 :: .ref 212 :: .ref 213 :: .ref 214 :: .int 0 :: .ref 215 :: .ref 216 :: .int 0 :: .ref 217 :: .ref 218 :: .ref 219 :: .ref 220 :: .ref 221 :: .int 0 :: .int 0 :: .int 0 :: .int 0 :: .ref 222 :: .int 0 :: [])))] none n) := by
  refine AM.of (by decide +kernel) rfl (by decide) (fun p e s m args below meth c C hnm => ?_)
  refine ao_start ?_
  refine aw_nl [some (.ref 181), none, none, none, none] rfl ?_
  refine aw_ald_n C dX9_cutsAll_0 rfl ?_
  refine aw_iconst C 0 dX9_cutsAll_1 ki_0 ?_
  refine ao_put C [(181, .inr (9, (.int 0 :: .ref 182 :: .ref 183 :: .ref 184 :: .ref 185 :: .int 0 :: .int 0 :: .int 0 :: .ref 186 :: .int 0 :: .int 0 :: .int 0 :: .int (-1) :: .ref 187 :: .ref 188 :: .ref 189 :: .int 0 :: .ref 190 :: .ref 191 :: .ref 192 :: .ref 193 :: .ref 194 :: .int 0 :: .ref 195 :: .ref 196 :: .ref 197 :: .int 0 :: .ref 198 :: .ref 199 :: .ref 200 :: .ref 201 :: .ref 202 :: .ref 203 :: .int 0 :: .ref 204 :: .ref 205 :: .ref 206 :: .ref 207 :: .ref 208 :: .ref 209 :: .ref 210 :: .ref 211 :: .ref 212 :: .ref 213 :: .ref 214 :: .int 0 :: .ref 215 :: .ref 216 :: .int 0 :: .ref 217 :: .ref 218 :: .ref 219 :: .ref 220 :: .ref 221 :: .int 0 :: .int 0 :: .int 0 :: .int 0 :: .ref 222 :: .int 0 :: [])))] gf_X9_204 cf9 nf9_33 h181 (Nat.le_of_ble_eq_true rfl) rfl rfl dX9_cutsAll_2 rfl ?_
  refine aw_ald_n C dX9_cutsAll_5 rfl ?_
  refine aw_iconst C 0 dX9_cutsAll_6 ki_0 ?_
  refine ao_put C [(181, .inr (9, (.int 0 :: .ref 182 :: .ref 183 :: .ref 184 :: .ref 185 :: .int 0 :: .int 0 :: .int 0 :: .ref 186 :: .int 0 :: .int 0 :: .int 0 :: .int (-1) :: .ref 187 :: .ref 188 :: .ref 189 :: .int 0 :: .ref 190 :: .ref 191 :: .ref 192 :: .ref 193 :: .ref 194 :: .int 0 :: .ref 195 :: .ref 196 :: .ref 197 :: .int 0 :: .ref 198 :: .ref 199 :: .ref 200 :: .ref 201 :: .ref 202 :: .ref 203 :: .int 0 :: .ref 204 :: .ref 205 :: .ref 206 :: .ref 207 :: .ref 208 :: .ref 209 :: .ref 210 :: .ref 211 :: .ref 212 :: .ref 213 :: .ref 214 :: .int 0 :: .ref 215 :: .ref 216 :: .int 0 :: .ref 217 :: .ref 218 :: .ref 219 :: .ref 220 :: .ref 221 :: .int 0 :: .int 0 :: .int 0 :: .int 0 :: .ref 222 :: .int 0 :: [])))] gf_X9_217 cf9 nf9_45 rfl (Nat.le_of_ble_eq_true rfl) rfl rfl dX9_cutsAll_7 rfl ?_
  refine aw_iconst C 0 dX9_cutsAll_10 ki_0 ?_
  refine aw_istore_n C dX9_cutsAll_11 (by decide) rfl ?_
  refine aw_nl [some (.ref 181), some (.int 0), none, none, none] rfl ?_
  refine aw_iload_n C dX9_cutsAll_12 rfl ?_
  refine aw_ald_n C dX9_cutsAll_13 rfl ?_
  refine aw_get C gf_X9_220 rfl rfl dX9_cutsAll_14 ?_
  refine aw_icmp_ge C 42 dX9_cutsAll_17 (by decide) (fun _ => ?_) (fun q => absurd (by decide) q)
  refine aw_ald_n C dX9_cutsAll_42 rfl ?_
  refine aw_ald_n C dX9_cutsAll_43 rfl ?_
  refine aw_ald_n C dX9_cutsAll_44 rfl ?_
  refine aw_get C gf_X9_7 rfl rfl dX9_cutsAll_45 ?_
  refine aw_iconst C 1 dX9_cutsAll_48 ki_1 ?_
  refine ao_iald C 0 h182 (by unfold vp_in; decide) (by decide : _ = 1) rfl dX9_cutsAll_49 ?_
  refine aw_ald_n C dX9_cutsAll_50 rfl ?_
  refine aw_get C gf_X9_30 rfl rfl dX9_cutsAll_51 ?_
  refine aw_ald_n C dX9_cutsAll_54 rfl ?_
  refine aw_get C gf_X9_220 rfl rfl dX9_cutsAll_55 ?_
  refine aw_ald_n C dX9_cutsAll_58 rfl ?_
  refine aw_get C gf_X9_39 rfl rfl dX9_cutsAll_59 ?_
  refine aw_ald_n C dX9_cutsAll_62 rfl ?_
  refine aw_get C gf_X9_42 rfl rfl dX9_cutsAll_63 ?_
  refine aw_ald_n C dX9_cutsAll_66 rfl ?_
  refine aw_get C gf_X9_45 rfl rfl dX9_cutsAll_67 ?_
  refine ao_callV C (ci := 9) (b := 181) [.int 0, .ref 187, .int 0, .ref 190, .ref 191, .ref 192] [(181, .inr (9, (.int 0 :: .ref 182 :: .ref 183 :: .ref 184 :: .ref 185 :: .int 0 :: .int 0 :: .int 0 :: .ref 186 :: .int 0 :: .int 0 :: .int 0 :: .int (-1) :: .ref 187 :: .ref 188 :: .ref 189 :: .int 0 :: .ref 190 :: .ref 191 :: .ref 192 :: .ref 193 :: .ref 194 :: .int 0 :: .ref 195 :: .ref 196 :: .ref 197 :: .int 0 :: .ref 198 :: .ref 199 :: .ref 200 :: .ref 201 :: .ref 202 :: .ref 203 :: .int 0 :: .ref 204 :: .ref 205 :: .ref 206 :: .ref 207 :: .ref 208 :: .ref 209 :: .ref 210 :: .ref 211 :: .ref 212 :: .ref 213 :: .ref 214 :: .int 0 :: .ref 215 :: .ref 216 :: .int 0 :: .ref 217 :: .ref 218 :: .ref 219 :: .ref 220 :: .ref 221 :: .int 0 :: .int 0 :: .int 0 :: .int 0 :: .ref 222 :: .int 0 :: [])))] mv_X9_223 rfl rfl rfl (c_X9_cuts_199 rfl) rfl dX9_cutsAll_70 (Nat.le_of_ble_eq_true rfl) (Nat.le_of_ble_eq_true rfl) rfl (Nat.le_of_ble_eq_true rfl) (Nat.le_of_ble_eq_true rfl) (Nat.le_of_ble_eq_true rfl) rfl ?_
  refine ao_put C [(181, .inr (9, (.int 0 :: .ref 182 :: .ref 183 :: .ref 184 :: .ref 185 :: .int 0 :: .int 0 :: .int 0 :: .ref 186 :: .int 0 :: .int 0 :: .int 0 :: .int (-1) :: .ref 187 :: .ref 188 :: .ref 189 :: .int 0 :: .ref 190 :: .ref 191 :: .ref 192 :: .ref 193 :: .ref 194 :: .int 0 :: .ref 195 :: .ref 196 :: .ref 197 :: .int 0 :: .ref 198 :: .ref 199 :: .ref 200 :: .ref 201 :: .ref 202 :: .ref 203 :: .int 0 :: .ref 204 :: .ref 205 :: .ref 206 :: .ref 207 :: .ref 208 :: .ref 209 :: .ref 210 :: .ref 211 :: .ref 212 :: .ref 213 :: .ref 214 :: .int 0 :: .ref 215 :: .ref 216 :: .int 0 :: .ref 217 :: .ref 218 :: .ref 219 :: .ref 220 :: .ref 221 :: .int 0 :: .int 0 :: .int 0 :: .int 0 :: .ref 222 :: .int 0 :: [])))] gf_X9_227 cf9 nf9_22 rfl (Nat.le_of_ble_eq_true rfl) rfl rfl dX9_cutsAll_73 rfl ?_
  refine aw_iconst C 0 dX9_cutsAll_76 ki_0 ?_
  refine aw_istore_n C dX9_cutsAll_77 (by decide) rfl ?_
  refine aw_nl [some (.ref 181), some (.int 0), none, none, none] rfl ?_
  refine aw_iload_n C dX9_cutsAll_78 rfl ?_
  refine aw_ald_n C dX9_cutsAll_79 rfl ?_
  refine aw_get C gf_X9_227 rfl rfl dX9_cutsAll_80 ?_
  refine aw_icmp_ge C 339 dX9_cutsAll_83 (by decide) (fun _ => ?_) (fun q => absurd (by decide) q)
  exact aw_vret C rfl dX9_cutsAll_339 (Nat.le_of_ble_eq_true rfl) (Nat.le_of_ble_eq_true rfl) ⟨rfl, rfl, rfl⟩

set_option maxHeartbeats 4000000 in
set_option maxRecDepth 100000 in
theorem c_X9_cutsBuilt_618 {X : GX} {l : Launch} {f : AH} {n : Nat} (h181 : f 181 = some (.inr (9, (.int 0 :: .ref 182 :: .ref 183 :: .ref 184 :: .ref 185 :: .int 0 :: .int 0 :: .int 0 :: .ref 186 :: .int 0 :: .int 0 :: .int 0 :: .int (-1) :: .ref 187 :: .ref 188 :: .ref 189 :: .int 0 :: .ref 190 :: .ref 191 :: .ref 192 :: .ref 193 :: .ref 194 :: .int 0 :: .ref 195 :: .ref 196 :: .ref 197 :: .int 0 :: .ref 198 :: .ref 199 :: .ref 200 :: .ref 201 :: .ref 202 :: .ref 203 :: .int 0 :: .ref 204 :: .ref 205 :: .ref 206 :: .ref 207 :: .ref 208 :: .ref 209 :: .ref 210 :: .ref 211 :: .ref 212 :: .ref 213 :: .ref 214 :: .int 0 :: .ref 215 :: .ref 216 :: .int 0 :: .ref 217 :: .ref 218 :: .ref 219 :: .ref 220 :: .ref 221 :: .int 0 :: .int 0 :: .int 0 :: .int 0 :: .ref 222 :: .int 0 :: [])))) (h182 : f 182 = some (.inl (0, 4347, .inl (tl (upd (upd (fun _ => 0) 2 (-1)) 4 1) 40)))) (h219 : f 219 = some (.inl (0, 41, .inl (fun _ => 0)))) : AM X l yX9_cutsBuilt cX9_cutsBuilt 6 none 3 0 0 [.ref 181] f n (EXO f [(181, .inr (9, (.int 0 :: .ref 182 :: .ref 183 :: .ref 184 :: .ref 185 :: .int 0 :: .int 0 :: .int 0 :: .ref 186 :: .int 0 :: .int 0 :: .int 0 :: .int (-1) :: .ref 187 :: .ref 188 :: .ref 189 :: .int 0 :: .ref 190 :: .ref 191 :: .ref 192 :: .ref 193 :: .ref 194 :: .int 0 :: .ref 195 :: .ref 196 :: .ref 197 :: .int 0 :: .ref 198 :: .ref 199 :: .ref 200 :: .ref 201 :: .ref 202 :: .ref 203 :: .int 0 :: .ref 204 :: .ref 205 :: .ref 206 :: .ref 207 :: .ref 208 :: .ref 209 :: .ref 210 :: .ref 211 :: .ref 212 :: .ref 213 :: .ref 214 :: .int 0 :: .ref 215 :: .ref 216 :: .int 0 :: .ref 217 :: .ref 218 :: .ref 219 :: .ref 220 :: .ref 221 :: .int 0 :: .int 0 :: .int 0 :: .int 0 :: .ref 222 :: .int 0 :: []))), (219, .inl (0, 41, .inl (upd (fun _ => 0) 0 0)))] none n) := by
  refine AM.of (by decide +kernel) rfl (by decide) (fun p e s m args below meth c C hnm => ?_)
  refine ao_start ?_
  refine aw_nl [some (.ref 181), none, none, none, none, none] rfl ?_
  refine aw_ald_n C dX9_cutsBuilt_0 rfl ?_
  refine ao_callV C (ci := 9) (b := 181) [] [] mv_X9_441 rfl rfl h181 (c_X9_builds_571 h181 h182) rfl dX9_cutsBuilt_1 (Nat.le_of_ble_eq_true rfl) (Nat.le_of_ble_eq_true rfl) rfl (Nat.le_of_ble_eq_true rfl) (Nat.le_of_ble_eq_true rfl) (Nat.le_of_ble_eq_true rfl) rfl ?_
  refine aw_istore_n C dX9_cutsBuilt_4 (by decide) rfl ?_
  refine aw_nl [some (.ref 181), some (.int 0), none, none, none, none] rfl ?_
  refine aw_ald_n C dX9_cutsBuilt_5 rfl ?_
  refine aw_get C gf_X9_204 h181 rfl dX9_cutsBuilt_6 ?_
  refine aw_istore_n C dX9_cutsBuilt_9 (by decide) rfl ?_
  refine aw_nl [some (.ref 181), some (.int 0), some (.int 0), none, none, none] rfl ?_
  refine aw_iconst C 0 dX9_cutsBuilt_10 ki_0 ?_
  refine aw_istore_n C dX9_cutsBuilt_11 (by decide) rfl ?_
  refine aw_nl [some (.ref 181), some (.int 0), some (.int 0), some (.int 0), none, none] rfl ?_
  refine aw_ald_n C dX9_cutsBuilt_12 rfl ?_
  refine aw_iload_n C dX9_cutsBuilt_13 rfl ?_
  refine ao_put C [(181, .inr (9, (.int 0 :: .ref 182 :: .ref 183 :: .ref 184 :: .ref 185 :: .int 0 :: .int 0 :: .int 0 :: .ref 186 :: .int 0 :: .int 0 :: .int 0 :: .int (-1) :: .ref 187 :: .ref 188 :: .ref 189 :: .int 0 :: .ref 190 :: .ref 191 :: .ref 192 :: .ref 193 :: .ref 194 :: .int 0 :: .ref 195 :: .ref 196 :: .ref 197 :: .int 0 :: .ref 198 :: .ref 199 :: .ref 200 :: .ref 201 :: .ref 202 :: .ref 203 :: .int 0 :: .ref 204 :: .ref 205 :: .ref 206 :: .ref 207 :: .ref 208 :: .ref 209 :: .ref 210 :: .ref 211 :: .ref 212 :: .ref 213 :: .ref 214 :: .int 0 :: .ref 215 :: .ref 216 :: .int 0 :: .ref 217 :: .ref 218 :: .ref 219 :: .ref 220 :: .ref 221 :: .int 0 :: .int 0 :: .int 0 :: .int 0 :: .ref 222 :: .int 0 :: [])))] gf_X9_459 cf9 nf9_59 h181 (Nat.le_of_ble_eq_true rfl) rfl rfl dX9_cutsBuilt_14 rfl ?_
  refine aw_iconst C 0 dX9_cutsBuilt_17 ki_0 ?_
  refine aw_istore C dX9_cutsBuilt_18 (by decide) rfl ?_
  refine aw_nl [some (.ref 181), some (.int 0), some (.int 0), some (.int 0), some (.int 0), none] rfl ?_
  refine aw_iload C dX9_cutsBuilt_20 rfl ?_
  refine aw_iload_n C dX9_cutsBuilt_22 rfl ?_
  refine aw_icmp_ge C 84 dX9_cutsBuilt_23 (by decide) (fun _ => ?_) (fun q => absurd (by decide) q)
  refine aw_ald_n C dX9_cutsBuilt_84 rfl ?_
  refine aw_get C gf_X9_126 rfl rfl dX9_cutsBuilt_85 ?_
  refine aw_iload_n C dX9_cutsBuilt_88 rfl ?_
  refine aw_iload_n C dX9_cutsBuilt_89 rfl ?_
  refine ao_iast C [(181, .inr (9, (.int 0 :: .ref 182 :: .ref 183 :: .ref 184 :: .ref 185 :: .int 0 :: .int 0 :: .int 0 :: .ref 186 :: .int 0 :: .int 0 :: .int 0 :: .int (-1) :: .ref 187 :: .ref 188 :: .ref 189 :: .int 0 :: .ref 190 :: .ref 191 :: .ref 192 :: .ref 193 :: .ref 194 :: .int 0 :: .ref 195 :: .ref 196 :: .ref 197 :: .int 0 :: .ref 198 :: .ref 199 :: .ref 200 :: .ref 201 :: .ref 202 :: .ref 203 :: .int 0 :: .ref 204 :: .ref 205 :: .ref 206 :: .ref 207 :: .ref 208 :: .ref 209 :: .ref 210 :: .ref 211 :: .ref 212 :: .ref 213 :: .ref 214 :: .int 0 :: .ref 215 :: .ref 216 :: .int 0 :: .ref 217 :: .ref 218 :: .ref 219 :: .ref 220 :: .ref 221 :: .int 0 :: .int 0 :: .int 0 :: .int 0 :: .ref 222 :: .int 0 :: []))), (219, .inl (0, 41, .inl (upd (fun _ => 0) 0 0)))] h219 (by unfold vp_in; decide) (by decide : _ = 0) dX9_cutsBuilt_90 rfl ?_
  refine aw_ald_n C dX9_cutsBuilt_91 rfl ?_
  refine aw_iload_n C dX9_cutsBuilt_92 rfl ?_
  refine ao_put C [(181, .inr (9, (.int 0 :: .ref 182 :: .ref 183 :: .ref 184 :: .ref 185 :: .int 0 :: .int 0 :: .int 0 :: .ref 186 :: .int 0 :: .int 0 :: .int 0 :: .int (-1) :: .ref 187 :: .ref 188 :: .ref 189 :: .int 0 :: .ref 190 :: .ref 191 :: .ref 192 :: .ref 193 :: .ref 194 :: .int 0 :: .ref 195 :: .ref 196 :: .ref 197 :: .int 0 :: .ref 198 :: .ref 199 :: .ref 200 :: .ref 201 :: .ref 202 :: .ref 203 :: .int 0 :: .ref 204 :: .ref 205 :: .ref 206 :: .ref 207 :: .ref 208 :: .ref 209 :: .ref 210 :: .ref 211 :: .ref 212 :: .ref 213 :: .ref 214 :: .int 0 :: .ref 215 :: .ref 216 :: .int 0 :: .ref 217 :: .ref 218 :: .ref 219 :: .ref 220 :: .ref 221 :: .int 0 :: .int 0 :: .int 0 :: .int 0 :: .ref 222 :: .int 0 :: []))), (219, .inl (0, 41, .inl (upd (fun _ => 0) 0 0)))] gf_X9_220 cf9 nf9_16 rfl (Nat.le_of_ble_eq_true rfl) rfl rfl dX9_cutsBuilt_93 rfl ?_
  refine aw_iconst C 0 dX9_cutsBuilt_96 ki_0 ?_
  refine aw_istore C dX9_cutsBuilt_97 (by decide) rfl ?_
  refine aw_nl [some (.ref 181), some (.int 0), some (.int 0), some (.int 0), some (.int 0), none] rfl ?_
  refine aw_iload C dX9_cutsBuilt_99 rfl ?_
  refine aw_iload_n C dX9_cutsBuilt_101 rfl ?_
  refine aw_icmp_ge C 125 dX9_cutsBuilt_102 (by decide) (fun _ => ?_) (fun q => absurd (by decide) q)
  refine aw_ald_n C dX9_cutsBuilt_125 rfl ?_
  refine ao_callV C (ci := 9) (b := 181) [] [(181, .inr (9, (.int 0 :: .ref 182 :: .ref 183 :: .ref 184 :: .ref 185 :: .int 0 :: .int 0 :: .int 0 :: .ref 186 :: .int 0 :: .int 0 :: .int 0 :: .int (-1) :: .ref 187 :: .ref 188 :: .ref 189 :: .int 0 :: .ref 190 :: .ref 191 :: .ref 192 :: .ref 193 :: .ref 194 :: .int 0 :: .ref 195 :: .ref 196 :: .ref 197 :: .int 0 :: .ref 198 :: .ref 199 :: .ref 200 :: .ref 201 :: .ref 202 :: .ref 203 :: .int 0 :: .ref 204 :: .ref 205 :: .ref 206 :: .ref 207 :: .ref 208 :: .ref 209 :: .ref 210 :: .ref 211 :: .ref 212 :: .ref 213 :: .ref 214 :: .int 0 :: .ref 215 :: .ref 216 :: .int 0 :: .ref 217 :: .ref 218 :: .ref 219 :: .ref 220 :: .ref 221 :: .int 0 :: .int 0 :: .int 0 :: .int 0 :: .ref 222 :: .int 0 :: []))), (219, .inl (0, 41, .inl (upd (fun _ => 0) 0 0)))] mv_X9_241 rfl rfl rfl (c_X9_cutsAll_617 rfl h182) rfl dX9_cutsBuilt_126 (Nat.le_of_ble_eq_true rfl) (Nat.le_of_ble_eq_true rfl) rfl (Nat.le_of_ble_eq_true rfl) (Nat.le_of_ble_eq_true rfl) (Nat.le_of_ble_eq_true rfl) rfl ?_
  exact aw_vret C rfl dX9_cutsBuilt_129 (Nat.le_of_ble_eq_true rfl) (Nat.le_of_ble_eq_true rfl) ⟨rfl, rfl, rfl⟩

set_option maxHeartbeats 4000000 in
set_option maxRecDepth 100000 in
theorem c_X9_cutsFile_619 {X : GX} {l : Launch} {f : AH} {n : Nat} (h181 : f 181 = some (.inr (9, (.int 0 :: .ref 182 :: .ref 183 :: .ref 184 :: .ref 185 :: .int 0 :: .int 0 :: .int 0 :: .ref 186 :: .int 0 :: .int 0 :: .int 0 :: .int (-1) :: .ref 187 :: .ref 188 :: .ref 189 :: .int 0 :: .ref 190 :: .ref 191 :: .ref 192 :: .ref 193 :: .ref 194 :: .int 0 :: .ref 195 :: .ref 196 :: .ref 197 :: .int 0 :: .ref 198 :: .ref 199 :: .ref 200 :: .ref 201 :: .ref 202 :: .ref 203 :: .int 0 :: .ref 204 :: .ref 205 :: .ref 206 :: .ref 207 :: .ref 208 :: .ref 209 :: .ref 210 :: .ref 211 :: .ref 212 :: .ref 213 :: .ref 214 :: .int 0 :: .ref 215 :: .ref 216 :: .int 0 :: .ref 217 :: .ref 218 :: .ref 219 :: .ref 220 :: .ref 221 :: .int 0 :: .int 0 :: .int 0 :: .int 0 :: .ref 222 :: .int 0 :: [])))) (h182 : f 182 = some (.inl (0, 4347, .inl (tl (upd (upd (fun _ => 0) 2 (-1)) 4 1) 40)))) : AM X l yX9_cutsFile cX9_cutsFile 2 none 3 0 0 [.ref 181] f n (EXO f [(181, .inr (9, (.int 0 :: .ref 182 :: .ref 183 :: .ref 184 :: .ref 185 :: .int 0 :: .int 0 :: .int 0 :: .ref 186 :: .int 0 :: .int 0 :: .int 0 :: .int (-1) :: .ref 187 :: .ref 188 :: .ref 189 :: .int 0 :: .ref 190 :: .ref 191 :: .ref 192 :: .ref 193 :: .ref 194 :: .int 0 :: .ref 195 :: .ref 196 :: .ref 197 :: .int 0 :: .ref 198 :: .ref 199 :: .ref 200 :: .ref 201 :: .ref 202 :: .ref 203 :: .int 0 :: .ref 204 :: .ref 205 :: .ref 206 :: .ref 207 :: .ref 208 :: .ref 209 :: .ref 210 :: .ref 211 :: .ref 212 :: .ref 213 :: .ref 214 :: .int 0 :: .ref 215 :: .ref 216 :: .int 0 :: .ref 217 :: .ref 218 :: .ref 219 :: .ref 220 :: .ref 221 :: .int 0 :: .int 0 :: .int 0 :: .int 0 :: .ref 222 :: .int 0 :: [])))] none n) := by
  refine AM.of (by decide +kernel) rfl (by decide) (fun p e s m args below meth c C hnm => ?_)
  refine ao_start ?_
  refine aw_nl [some (.ref 181), none] rfl ?_
  refine aw_ald_n C dX9_cutsFile_0 rfl ?_
  refine aw_ald_n C dX9_cutsFile_1 rfl ?_
  refine aw_get C gf_X9_7 h181 rfl dX9_cutsFile_2 ?_
  refine aw_iconst C 0 dX9_cutsFile_5 ki_0 ?_
  refine ao_iald C 0 h182 (by unfold vp_in; decide) (by decide : _ = 0) rfl dX9_cutsFile_6 ?_
  refine ao_put C [(181, .inr (9, (.int 0 :: .ref 182 :: .ref 183 :: .ref 184 :: .ref 185 :: .int 0 :: .int 0 :: .int 0 :: .ref 186 :: .int 0 :: .int 0 :: .int 0 :: .int (-1) :: .ref 187 :: .ref 188 :: .ref 189 :: .int 0 :: .ref 190 :: .ref 191 :: .ref 192 :: .ref 193 :: .ref 194 :: .int 0 :: .ref 195 :: .ref 196 :: .ref 197 :: .int 0 :: .ref 198 :: .ref 199 :: .ref 200 :: .ref 201 :: .ref 202 :: .ref 203 :: .int 0 :: .ref 204 :: .ref 205 :: .ref 206 :: .ref 207 :: .ref 208 :: .ref 209 :: .ref 210 :: .ref 211 :: .ref 212 :: .ref 213 :: .ref 214 :: .int 0 :: .ref 215 :: .ref 216 :: .int 0 :: .ref 217 :: .ref 218 :: .ref 219 :: .ref 220 :: .ref 221 :: .int 0 :: .int 0 :: .int 0 :: .int 0 :: .ref 222 :: .int 0 :: [])))] gf_X9_220 cf9 nf9_16 h181 (Nat.le_of_ble_eq_true rfl) rfl rfl dX9_cutsFile_7 rfl ?_
  refine aw_iconst C 0 dX9_cutsFile_10 ki_0 ?_
  refine aw_istore_n C dX9_cutsFile_11 (by decide) rfl ?_
  refine aw_nl [some (.ref 181), some (.int 0)] rfl ?_
  refine aw_iload_n C dX9_cutsFile_12 rfl ?_
  refine aw_ald_n C dX9_cutsFile_13 rfl ?_
  refine aw_get C gf_X9_220 rfl rfl dX9_cutsFile_14 ?_
  refine aw_icmp_ge C 41 dX9_cutsFile_17 (by decide) (fun _ => ?_) (fun q => absurd (by decide) q)
  refine aw_ald_n C dX9_cutsFile_41 rfl ?_
  refine ao_callV C (ci := 9) (b := 181) [] [(181, .inr (9, (.int 0 :: .ref 182 :: .ref 183 :: .ref 184 :: .ref 185 :: .int 0 :: .int 0 :: .int 0 :: .ref 186 :: .int 0 :: .int 0 :: .int 0 :: .int (-1) :: .ref 187 :: .ref 188 :: .ref 189 :: .int 0 :: .ref 190 :: .ref 191 :: .ref 192 :: .ref 193 :: .ref 194 :: .int 0 :: .ref 195 :: .ref 196 :: .ref 197 :: .int 0 :: .ref 198 :: .ref 199 :: .ref 200 :: .ref 201 :: .ref 202 :: .ref 203 :: .int 0 :: .ref 204 :: .ref 205 :: .ref 206 :: .ref 207 :: .ref 208 :: .ref 209 :: .ref 210 :: .ref 211 :: .ref 212 :: .ref 213 :: .ref 214 :: .int 0 :: .ref 215 :: .ref 216 :: .int 0 :: .ref 217 :: .ref 218 :: .ref 219 :: .ref 220 :: .ref 221 :: .int 0 :: .int 0 :: .int 0 :: .int 0 :: .ref 222 :: .int 0 :: [])))] mv_X9_241 rfl rfl rfl (c_X9_cutsAll_617 rfl h182) rfl dX9_cutsFile_42 (Nat.le_of_ble_eq_true rfl) (Nat.le_of_ble_eq_true rfl) rfl (Nat.le_of_ble_eq_true rfl) (Nat.le_of_ble_eq_true rfl) (Nat.le_of_ble_eq_true rfl) rfl ?_
  exact aw_vret C rfl dX9_cutsFile_45 (Nat.le_of_ble_eq_true rfl) (Nat.le_of_ble_eq_true rfl) ⟨rfl, rfl, rfl⟩

set_option maxHeartbeats 4000000 in
set_option maxRecDepth 100000 in
theorem c_X9_twice_620 {X : GX} {l : Launch} {f : AH} {n : Nat} (h181 : f 181 = some (.inr (9, (.int 0 :: .ref 182 :: .ref 183 :: .ref 184 :: .ref 185 :: .int 0 :: .int 0 :: .int 0 :: .ref 186 :: .int 0 :: .int 0 :: .int 0 :: .int (-1) :: .ref 187 :: .ref 188 :: .ref 189 :: .int 0 :: .ref 190 :: .ref 191 :: .ref 192 :: .ref 193 :: .ref 194 :: .int 0 :: .ref 195 :: .ref 196 :: .ref 197 :: .int 0 :: .ref 198 :: .ref 199 :: .ref 200 :: .ref 201 :: .ref 202 :: .ref 203 :: .int 0 :: .ref 204 :: .ref 205 :: .ref 206 :: .ref 207 :: .ref 208 :: .ref 209 :: .ref 210 :: .ref 211 :: .ref 212 :: .ref 213 :: .ref 214 :: .int 0 :: .ref 215 :: .ref 216 :: .int 0 :: .ref 217 :: .ref 218 :: .ref 219 :: .ref 220 :: .ref 221 :: .int 0 :: .int 0 :: .int 0 :: .int 0 :: .ref 222 :: .int 0 :: [])))) (h182 : f 182 = some (.inl (0, 4347, .inl (tl (upd (upd (fun _ => 0) 2 (-1)) 4 1) 40)))) (h219 : f 219 = some (.inl (0, 41, .inl (fun _ => 0)))) : AM X l yX9_twice cX9_twice 3 (some .boolean) 4 0 0 [.ref 181] f n (EXO f [(181, .inr (9, (.int 0 :: .ref 182 :: .ref 183 :: .ref 184 :: .ref 185 :: .int 0 :: .int 0 :: .int 0 :: .ref 186 :: .int 0 :: .int 0 :: .int 0 :: .int (-1) :: .ref 187 :: .ref 188 :: .ref 189 :: .int 0 :: .ref 190 :: .ref 191 :: .ref 192 :: .ref 193 :: .ref 194 :: .int 0 :: .ref 195 :: .ref 196 :: .ref 197 :: .int 0 :: .ref 198 :: .ref 199 :: .ref 200 :: .ref 201 :: .ref 202 :: .ref 203 :: .int 0 :: .ref 204 :: .ref 205 :: .ref 206 :: .ref 207 :: .ref 208 :: .ref 209 :: .ref 210 :: .ref 211 :: .ref 212 :: .ref 213 :: .ref 214 :: .int 0 :: .ref 215 :: .ref 216 :: .int 0 :: .ref 217 :: .ref 218 :: .ref 219 :: .ref 220 :: .ref 221 :: .int 0 :: .int 0 :: .int 0 :: .int 0 :: .ref 222 :: .int 0 :: []))), (219, .inl (0, 41, .inl (upd (fun _ => 0) 0 0)))] (some (.int 1)) n) := by
  refine AM.of (by decide +kernel) rfl (by decide) (fun p e s m args below meth c C hnm => ?_)
  refine ao_start ?_
  refine aw_nl [some (.ref 181), none, none] rfl ?_
  refine aw_ald_n C dX9_twice_0 rfl ?_
  refine aw_iconst C 0 dX9_twice_1 ki_0 ?_
  refine ao_put C [(181, .inr (9, (.int 0 :: .ref 182 :: .ref 183 :: .ref 184 :: .ref 185 :: .int 0 :: .int 0 :: .int 0 :: .ref 186 :: .int 0 :: .int 0 :: .int 0 :: .int (-1) :: .ref 187 :: .ref 188 :: .ref 189 :: .int 0 :: .ref 190 :: .ref 191 :: .ref 192 :: .ref 193 :: .ref 194 :: .int 0 :: .ref 195 :: .ref 196 :: .ref 197 :: .int 0 :: .ref 198 :: .ref 199 :: .ref 200 :: .ref 201 :: .ref 202 :: .ref 203 :: .int 0 :: .ref 204 :: .ref 205 :: .ref 206 :: .ref 207 :: .ref 208 :: .ref 209 :: .ref 210 :: .ref 211 :: .ref 212 :: .ref 213 :: .ref 214 :: .int 0 :: .ref 215 :: .ref 216 :: .int 0 :: .ref 217 :: .ref 218 :: .ref 219 :: .ref 220 :: .ref 221 :: .int 0 :: .int 0 :: .int 0 :: .int 0 :: .ref 222 :: .int 0 :: [])))] gf_X9_138 cf9 nf9_0 h181 (Nat.le_of_ble_eq_true rfl) rfl rfl dX9_twice_2 rfl ?_
  refine aw_ald_n C dX9_twice_5 rfl ?_
  refine ao_callV C (ci := 9) (b := 181) [] [(181, .inr (9, (.int 0 :: .ref 182 :: .ref 183 :: .ref 184 :: .ref 185 :: .int 0 :: .int 0 :: .int 0 :: .ref 186 :: .int 0 :: .int 0 :: .int 0 :: .int (-1) :: .ref 187 :: .ref 188 :: .ref 189 :: .int 0 :: .ref 190 :: .ref 191 :: .ref 192 :: .ref 193 :: .ref 194 :: .int 0 :: .ref 195 :: .ref 196 :: .ref 197 :: .int 0 :: .ref 198 :: .ref 199 :: .ref 200 :: .ref 201 :: .ref 202 :: .ref 203 :: .int 0 :: .ref 204 :: .ref 205 :: .ref 206 :: .ref 207 :: .ref 208 :: .ref 209 :: .ref 210 :: .ref 211 :: .ref 212 :: .ref 213 :: .ref 214 :: .int 0 :: .ref 215 :: .ref 216 :: .int 0 :: .ref 217 :: .ref 218 :: .ref 219 :: .ref 220 :: .ref 221 :: .int 0 :: .int 0 :: .int 0 :: .int 0 :: .ref 222 :: .int 0 :: []))), (219, .inl (0, 41, .inl (upd (fun _ => 0) 0 0)))] mv_X9_462 rfl rfl rfl (c_X9_cutsBuilt_618 rfl h182 h219) rfl dX9_twice_6 (Nat.le_of_ble_eq_true rfl) (Nat.le_of_ble_eq_true rfl) rfl (Nat.le_of_ble_eq_true rfl) (Nat.le_of_ble_eq_true rfl) (Nat.le_of_ble_eq_true rfl) rfl ?_
  refine aw_ald_n C dX9_twice_9 rfl ?_
  refine aw_get C gf_X9_204 rfl rfl dX9_twice_10 ?_
  refine aw_ald_n C dX9_twice_13 rfl ?_
  refine aw_get C gf_X9_459 rfl rfl dX9_twice_14 ?_
  refine aw_icmp_ne C 24 dX9_twice_17 (by decide) (fun q => absurd (by decide) q) (fun _ => ?_)
  refine aw_iconst C 1 dX9_twice_20 ki_1 ?_
  refine aw_goto C 25 dX9_twice_21 (by decide) ?_
  refine aw_istore_n C dX9_twice_25 (by decide) rfl ?_
  refine aw_nl [some (.ref 181), some (.int 1), none] rfl ?_
  refine aw_iconst C 0 dX9_twice_26 ki_0 ?_
  refine aw_istore_n C dX9_twice_27 (by decide) rfl ?_
  refine aw_nl [some (.ref 181), some (.int 1), some (.int 0)] rfl ?_
  refine aw_iload_n C dX9_twice_28 rfl ?_
  refine aw_ald_n C dX9_twice_29 rfl ?_
  refine aw_get C gf_X9_459 rfl rfl dX9_twice_30 ?_
  refine aw_icmp_ge C 53 dX9_twice_33 (by decide) (fun _ => ?_) (fun q => absurd (by decide) q)
  refine aw_ald_n C dX9_twice_53 rfl ?_
  refine ao_callV C (ci := 9) (b := 181) [] [(181, .inr (9, (.int 0 :: .ref 182 :: .ref 183 :: .ref 184 :: .ref 185 :: .int 0 :: .int 0 :: .int 0 :: .ref 186 :: .int 0 :: .int 0 :: .int 0 :: .int (-1) :: .ref 187 :: .ref 188 :: .ref 189 :: .int 0 :: .ref 190 :: .ref 191 :: .ref 192 :: .ref 193 :: .ref 194 :: .int 0 :: .ref 195 :: .ref 196 :: .ref 197 :: .int 0 :: .ref 198 :: .ref 199 :: .ref 200 :: .ref 201 :: .ref 202 :: .ref 203 :: .int 0 :: .ref 204 :: .ref 205 :: .ref 206 :: .ref 207 :: .ref 208 :: .ref 209 :: .ref 210 :: .ref 211 :: .ref 212 :: .ref 213 :: .ref 214 :: .int 0 :: .ref 215 :: .ref 216 :: .int 0 :: .ref 217 :: .ref 218 :: .ref 219 :: .ref 220 :: .ref 221 :: .int 0 :: .int 0 :: .int 0 :: .int 0 :: .ref 222 :: .int 0 :: []))), (219, .inl (0, 41, .inl (upd (fun _ => 0) 0 0)))] mv_X9_244 rfl rfl rfl (c_X9_cutsFile_619 rfl h182) rfl dX9_twice_54 (Nat.le_of_ble_eq_true rfl) (Nat.le_of_ble_eq_true rfl) rfl (Nat.le_of_ble_eq_true rfl) (Nat.le_of_ble_eq_true rfl) (Nat.le_of_ble_eq_true rfl) rfl ?_
  refine aw_iload_n C dX9_twice_57 rfl ?_
  exact aw_iret C rfl (by decide) dX9_twice_58 (Nat.le_of_ble_eq_true rfl) (Nat.le_of_ble_eq_true rfl) ⟨rfl, rfl, rfl⟩

set_option maxHeartbeats 4000000 in
set_option maxRecDepth 100000 in
theorem c_X7_copyFrom_621 {X : GX} {l : Launch} {f : AH} {n : Nat} (h3 : f 3 = some (.inr (7, [.ref 4, .int 0, .int (-1), .int 0, .int 1, .int 0, .null, .int 0, .ref 6, .ref 7]))) (h13 : f 13 = some (.inr (7, [.ref 14, .int 0, .int (-1), .int 0, .int 1, .int 0, .null, .int 0, .ref 16, .ref 17]))) (h16 : f 16 = some (.inl (2, 4, .inr (.inr (fun _ => none))))) (h6 : f 6 = some (.inl (2, 4, .inr (.inr (fun _ => none))))) (h17 : f 17 = some (.inl (2, 40, .inr (.inr (fun _ => none))))) (h7 : f 7 = some (.inl (2, 40, .inr (.inr (fun _ => none))))) : AM X l yX7_copyFrom cX7_copyFrom 3 none 0 0 0 [.ref 13, .ref 3] f n (EXO f [(13, .inr (7, [.ref 4, .int 0, .int (-1), .int 0, .int 1, .int 0, .null, .int 0, .ref 16, .ref 17]))] none n) := by
  refine AM.of (by decide +kernel) rfl (by decide) (fun p e s m args below meth c C hnm => ?_)
  refine ao_start ?_
  refine aw_nl [some (.ref 13), some (.ref 3), none] rfl ?_
  refine aw_ald_n C dX7_copyFrom_0 rfl ?_
  refine aw_ald_n C dX7_copyFrom_1 rfl ?_
  refine aw_get C gf_X7_14 h3 rfl dX7_copyFrom_2 ?_
  refine ao_put C [(13, .inr (7, [.ref 4, .int 0, .int (-1), .int 0, .int 1, .int 0, .null, .int 0, .ref 16, .ref 17]))] gf_X7_14 cf7 nf7_0 h13 (Nat.le_of_ble_eq_true rfl) rfl rfl dX7_copyFrom_5 rfl ?_
  refine aw_ald_n C dX7_copyFrom_8 rfl ?_
  refine aw_ald_n C dX7_copyFrom_9 rfl ?_
  refine aw_get C gf_X7_20 h3 rfl dX7_copyFrom_10 ?_
  refine ao_put C [(13, .inr (7, [.ref 4, .int 0, .int (-1), .int 0, .int 1, .int 0, .null, .int 0, .ref 16, .ref 17]))] gf_X7_20 cf7 nf7_1 rfl (Nat.le_of_ble_eq_true rfl) rfl rfl dX7_copyFrom_13 rfl ?_
  refine aw_ald_n C dX7_copyFrom_16 rfl ?_
  refine aw_ald_n C dX7_copyFrom_17 rfl ?_
  refine aw_get C gf_X7_24 h3 rfl dX7_copyFrom_18 ?_
  refine ao_put C [(13, .inr (7, [.ref 4, .int 0, .int (-1), .int 0, .int 1, .int 0, .null, .int 0, .ref 16, .ref 17]))] gf_X7_24 cf7 nf7_2 rfl (Nat.le_of_ble_eq_true rfl) rfl rfl dX7_copyFrom_21 rfl ?_
  refine aw_ald_n C dX7_copyFrom_24 rfl ?_
  refine aw_ald_n C dX7_copyFrom_25 rfl ?_
  refine aw_get C gf_X7_37 h3 rfl dX7_copyFrom_26 ?_
  refine ao_put C [(13, .inr (7, [.ref 4, .int 0, .int (-1), .int 0, .int 1, .int 0, .null, .int 0, .ref 16, .ref 17]))] gf_X7_37 cf7 nf7_3 rfl (Nat.le_of_ble_eq_true rfl) (by decide) (by decide) dX7_copyFrom_29 rfl ?_
  refine aw_ald_n C dX7_copyFrom_32 rfl ?_
  refine aw_ald_n C dX7_copyFrom_33 rfl ?_
  refine aw_get C gf_X7_27 h3 rfl dX7_copyFrom_34 ?_
  refine ao_put C [(13, .inr (7, [.ref 4, .int 0, .int (-1), .int 0, .int 1, .int 0, .null, .int 0, .ref 16, .ref 17]))] gf_X7_27 cf7 nf7_4 rfl (Nat.le_of_ble_eq_true rfl) rfl rfl dX7_copyFrom_37 rfl ?_
  refine aw_ald_n C dX7_copyFrom_40 rfl ?_
  refine aw_ald_n C dX7_copyFrom_41 rfl ?_
  refine aw_get C gf_X7_41 h3 rfl dX7_copyFrom_42 ?_
  refine ao_put C [(13, .inr (7, [.ref 4, .int 0, .int (-1), .int 0, .int 1, .int 0, .null, .int 0, .ref 16, .ref 17]))] gf_X7_41 cf7 nf7_5 rfl (Nat.le_of_ble_eq_true rfl) rfl rfl dX7_copyFrom_45 rfl ?_
  refine aw_ald_n C dX7_copyFrom_48 rfl ?_
  refine aw_ald_n C dX7_copyFrom_49 rfl ?_
  refine aw_get C gf_X7_44 h3 rfl dX7_copyFrom_50 ?_
  refine ao_put C [(13, .inr (7, [.ref 4, .int 0, .int (-1), .int 0, .int 1, .int 0, .null, .int 0, .ref 16, .ref 17]))] gf_X7_44 cf7 nf7_6 rfl (Nat.le_of_ble_eq_true rfl) rfl rfl dX7_copyFrom_53 rfl ?_
  refine aw_ald_n C dX7_copyFrom_56 rfl ?_
  refine aw_ald_n C dX7_copyFrom_57 rfl ?_
  refine aw_get C gf_X7_48 h3 rfl dX7_copyFrom_58 ?_
  refine ao_put C [(13, .inr (7, [.ref 4, .int 0, .int (-1), .int 0, .int 1, .int 0, .null, .int 0, .ref 16, .ref 17]))] gf_X7_48 cf7 nf7_7 rfl (Nat.le_of_ble_eq_true rfl) rfl rfl dX7_copyFrom_61 rfl ?_
  refine aw_iconst C 0 dX7_copyFrom_64 ki_0 ?_
  refine aw_istore_n C dX7_copyFrom_65 (by decide) rfl ?_
  refine aw_nl [some (.ref 13), some (.ref 3), some (.int 0)] rfl ?_
  refine lz_locks C (f := ovl f [(13, .inr (7, [.ref 4, .int 0, .int (-1), .int 0, .int 1, .int 0, .null, .int 0, .ref 16, .ref 17]))]) (S := 13) (T := 3) (a := 16) (b := 6) (fs := [.ref 4, .int 0, .int (-1), .int 0, .int 1, .int 0, .null, .int 0, .ref 16, .ref 17]) (gs := [.ref 4, .int 0, .int (-1), .int 0, .int 1, .int 0, .null, .int 0, .ref 6, .ref 7]) rfl h3 rfl rfl h16 h6 ?_ 4 0 rfl
  refine aw_iconst C 0 dX7_copyFrom_102 ki_0 ?_
  refine aw_istore_n C dX7_copyFrom_103 (by decide) rfl ?_
  refine aw_nl [some (.ref 13), some (.ref 3), some (.int 0)] rfl ?_
  refine lz_told C (f := ovl f [(13, .inr (7, [.ref 4, .int 0, .int (-1), .int 0, .int 1, .int 0, .null, .int 0, .ref 16, .ref 17]))]) (S := 13) (T := 3) (a := 17) (b := 7) (fs := [.ref 4, .int 0, .int (-1), .int 0, .int 1, .int 0, .null, .int 0, .ref 16, .ref 17]) (gs := [.ref 4, .int 0, .int (-1), .int 0, .int 1, .int 0, .null, .int 0, .ref 6, .ref 7]) rfl h3 rfl rfl h17 h7 ?_ 40 0 rfl
  exact aw_vret C rfl dX7_copyFrom_140 (Nat.le_of_ble_eq_true rfl) (Nat.le_of_ble_eq_true rfl) ⟨rfl, rfl, rfl⟩

set_option maxHeartbeats 4000000 in
set_option maxRecDepth 100000 in
theorem c_X8_image_622 {X : GX} {l : Launch} {f : AH} {n : Nat} (h0 : f 0 = some (.inr (8, [.ref 1, .ref 3, .ref 8, .ref 13, .ref 18, .ref 59, .ref 115, .ref 171, .ref 178, .int 0, .int 0, .int 0, .int 0, .int (-1)]))) (h3 : f 3 = some (.inr (7, [.ref 4, .int 0, .int (-1), .int 0, .int 1, .int 0, .null, .int 0, .ref 6, .ref 7]))) (h13 : f 13 = some (.inr (7, [.ref 14, .int 0, .int (-1), .int 0, .int 1, .int 0, .null, .int 0, .ref 16, .ref 17]))) (h16 : f 16 = some (.inl (2, 4, .inr (.inr (fun _ => none))))) (h6 : f 6 = some (.inl (2, 4, .inr (.inr (fun _ => none))))) (h17 : f 17 = some (.inl (2, 40, .inr (.inr (fun _ => none))))) (h7 : f 7 = some (.inl (2, 40, .inr (.inr (fun _ => none))))) : AM X l yX8_image cX8_image 1 none 1 0 0 [.ref 0] f n (EXO f [(13, .inr (7, [.ref 4, .int 0, .int (-1), .int 0, .int 1, .int 0, .null, .int 0, .ref 16, .ref 17])), (0, .inr (8, [.ref 1, .ref 3, .ref 8, .ref 13, .ref 18, .ref 59, .ref 115, .ref 171, .ref 178, .int 1, .int 0, .int 0, .int 0, .int (-1)]))] none n) := by
  refine AM.of (by decide +kernel) rfl (by decide) (fun p e s m args below meth c C hnm => ?_)
  refine ao_start ?_
  refine aw_nl [some (.ref 0)] rfl ?_
  refine aw_ald_n C dX8_image_0 rfl ?_
  refine aw_get C gf_X8_28 h0 rfl dX8_image_1 ?_
  refine aw_ald_n C dX8_image_4 rfl ?_
  refine aw_get C gf_X8_21 h0 rfl dX8_image_5 ?_
  refine ao_callV C (ci := 7) (b := 13) [.ref 3] [(13, .inr (7, [.ref 4, .int 0, .int (-1), .int 0, .int 1, .int 0, .null, .int 0, .ref 16, .ref 17]))] mv_X8_73 rfl rfl h13 (c_X7_copyFrom_621 h3 h13 h16 h6 h17 h7) rfl dX8_image_8 (Nat.le_of_ble_eq_true rfl) (Nat.le_of_ble_eq_true rfl) rfl (Nat.le_of_ble_eq_true rfl) (Nat.le_of_ble_eq_true rfl) (Nat.le_of_ble_eq_true rfl) rfl ?_
  refine aw_ald_n C dX8_image_11 rfl ?_
  refine aw_iconst C 1 dX8_image_12 ki_1 ?_
  refine ao_put C [(13, .inr (7, [.ref 4, .int 0, .int (-1), .int 0, .int 1, .int 0, .null, .int 0, .ref 16, .ref 17])), (0, .inr (8, [.ref 1, .ref 3, .ref 8, .ref 13, .ref 18, .ref 59, .ref 115, .ref 171, .ref 178, .int 1, .int 0, .int 0, .int 0, .int (-1)]))] gf_X8_287 cf8 nf8_9 h0 (Nat.le_of_ble_eq_true rfl) (by decide) (by decide) dX8_image_13 rfl ?_
  exact aw_vret C rfl dX8_image_16 (Nat.le_of_ble_eq_true rfl) (Nat.le_of_ble_eq_true rfl) ⟨rfl, rfl, rfl⟩

set_option maxHeartbeats 4000000 in
set_option maxRecDepth 100000 in
theorem c_X9_image_623 {X : GX} {l : Launch} {f : AH} {n : Nat} {g182 : Nat → Int32} (h181 : f 181 = some (.inr (9, (.int 0 :: .ref 182 :: .ref 183 :: .ref 184 :: .ref 185 :: .int 0 :: .int 0 :: .int 0 :: .ref 186 :: .int 0 :: .int 0 :: .int 0 :: .int (-1) :: .ref 187 :: .ref 188 :: .ref 189 :: .int 0 :: .ref 190 :: .ref 191 :: .ref 192 :: .ref 193 :: .ref 194 :: .int 0 :: .ref 195 :: .ref 196 :: .ref 197 :: .int 0 :: .ref 198 :: .ref 199 :: .ref 200 :: .ref 201 :: .ref 202 :: .ref 203 :: .int 0 :: .ref 204 :: .ref 205 :: .ref 206 :: .ref 207 :: .ref 208 :: .ref 209 :: .ref 210 :: .ref 211 :: .ref 212 :: .ref 213 :: .ref 214 :: .int 0 :: .ref 215 :: .ref 216 :: .int 0 :: .ref 217 :: .ref 218 :: .ref 219 :: .ref 220 :: .ref 221 :: .int 0 :: .int 0 :: .int 0 :: .int 0 :: .ref 222 :: .int 0 :: [])))) (h184 : f 184 = some (.inl (0, 4347, .inl (fun _ => 0)))) (h182 : f 182 = some (.inl (0, 4347, .inl g182))) : AM X l yX9_image cX9_image 2 none 0 0 0 [.ref 181] f n (EXO f [(181, .inr (9, (.int 0 :: .ref 182 :: .ref 183 :: .ref 184 :: .ref 185 :: .int 0 :: .int 1 :: .int 0 :: .ref 186 :: .int 0 :: .int 0 :: .int 0 :: .int (-1) :: .ref 187 :: .ref 188 :: .ref 189 :: .int 0 :: .ref 190 :: .ref 191 :: .ref 192 :: .ref 193 :: .ref 194 :: .int 0 :: .ref 195 :: .ref 196 :: .ref 197 :: .int 0 :: .ref 198 :: .ref 199 :: .ref 200 :: .ref 201 :: .ref 202 :: .ref 203 :: .int 0 :: .ref 204 :: .ref 205 :: .ref 206 :: .ref 207 :: .ref 208 :: .ref 209 :: .ref 210 :: .ref 211 :: .ref 212 :: .ref 213 :: .ref 214 :: .int 0 :: .ref 215 :: .ref 216 :: .int 0 :: .ref 217 :: .ref 218 :: .ref 219 :: .ref 220 :: .ref 221 :: .int 0 :: .int 0 :: .int 0 :: .int 0 :: .ref 222 :: .int 0 :: []))), (184, .inl (0, 4347, .inl (cpy g182 (fun _ => 0) 4347)))] none n) := by
  refine AM.of (by decide +kernel) rfl (by decide) (fun p e s m args below meth c C hnm => ?_)
  refine ao_start ?_
  refine aw_nl [some (.ref 181), none] rfl ?_
  refine aw_ald_n C dX9_image_0 rfl ?_
  refine aw_iconst C 0 dX9_image_1 ki_0 ?_
  refine ao_put C [(181, .inr (9, (.int 0 :: .ref 182 :: .ref 183 :: .ref 184 :: .ref 185 :: .int 0 :: .int 0 :: .int 0 :: .ref 186 :: .int 0 :: .int 0 :: .int 0 :: .int (-1) :: .ref 187 :: .ref 188 :: .ref 189 :: .int 0 :: .ref 190 :: .ref 191 :: .ref 192 :: .ref 193 :: .ref 194 :: .int 0 :: .ref 195 :: .ref 196 :: .ref 197 :: .int 0 :: .ref 198 :: .ref 199 :: .ref 200 :: .ref 201 :: .ref 202 :: .ref 203 :: .int 0 :: .ref 204 :: .ref 205 :: .ref 206 :: .ref 207 :: .ref 208 :: .ref 209 :: .ref 210 :: .ref 211 :: .ref 212 :: .ref 213 :: .ref 214 :: .int 0 :: .ref 215 :: .ref 216 :: .int 0 :: .ref 217 :: .ref 218 :: .ref 219 :: .ref 220 :: .ref 221 :: .int 0 :: .int 0 :: .int 0 :: .int 0 :: .ref 222 :: .int 0 :: [])))] gf_X9_138 cf9 nf9_0 h181 (Nat.le_of_ble_eq_true rfl) rfl rfl dX9_image_2 rfl ?_
  refine aw_iconst C 0 dX9_image_5 ki_0 ?_
  refine aw_istore_n C dX9_image_6 (by decide) rfl ?_
  refine aw_nl [some (.ref 181), some (.int 0)] rfl ?_
  refine lp_X9_image C (M := 181) (a := 184) (b := 182) (fs := (.int 0 :: .ref 182 :: .ref 183 :: .ref 184 :: .ref 185 :: .int 0 :: .int 0 :: .int 0 :: .ref 186 :: .int 0 :: .int 0 :: .int 0 :: .int (-1) :: .ref 187 :: .ref 188 :: .ref 189 :: .int 0 :: .ref 190 :: .ref 191 :: .ref 192 :: .ref 193 :: .ref 194 :: .int 0 :: .ref 195 :: .ref 196 :: .ref 197 :: .int 0 :: .ref 198 :: .ref 199 :: .ref 200 :: .ref 201 :: .ref 202 :: .ref 203 :: .int 0 :: .ref 204 :: .ref 205 :: .ref 206 :: .ref 207 :: .ref 208 :: .ref 209 :: .ref 210 :: .ref 211 :: .ref 212 :: .ref 213 :: .ref 214 :: .int 0 :: .ref 215 :: .ref 216 :: .int 0 :: .ref 217 :: .ref 218 :: .ref 219 :: .ref 220 :: .ref 221 :: .int 0 :: .int 0 :: .int 0 :: .int 0 :: .ref 222 :: .int 0 :: [])) (g := fun _ => 0) (src := g182) [(181, .inr (9, (.int 0 :: .ref 182 :: .ref 183 :: .ref 184 :: .ref 185 :: .int 0 :: .int 0 :: .int 0 :: .ref 186 :: .int 0 :: .int 0 :: .int 0 :: .int (-1) :: .ref 187 :: .ref 188 :: .ref 189 :: .int 0 :: .ref 190 :: .ref 191 :: .ref 192 :: .ref 193 :: .ref 194 :: .int 0 :: .ref 195 :: .ref 196 :: .ref 197 :: .int 0 :: .ref 198 :: .ref 199 :: .ref 200 :: .ref 201 :: .ref 202 :: .ref 203 :: .int 0 :: .ref 204 :: .ref 205 :: .ref 206 :: .ref 207 :: .ref 208 :: .ref 209 :: .ref 210 :: .ref 211 :: .ref 212 :: .ref 213 :: .ref 214 :: .int 0 :: .ref 215 :: .ref 216 :: .int 0 :: .ref 217 :: .ref 218 :: .ref 219 :: .ref 220 :: .ref 221 :: .int 0 :: .int 0 :: .int 0 :: .int 0 :: .ref 222 :: .int 0 :: []))), (184, .inl (0, 4347, .inl (cpy g182 (fun _ => 0) 4347)))] rfl rfl rfl (by decide) (by decide) h184 h182 rfl ?_
  refine aw_ald_n C dX9_image_32 rfl ?_
  refine aw_iconst C 1 dX9_image_33 ki_1 ?_
  refine ao_put C [(181, .inr (9, (.int 0 :: .ref 182 :: .ref 183 :: .ref 184 :: .ref 185 :: .int 0 :: .int 1 :: .int 0 :: .ref 186 :: .int 0 :: .int 0 :: .int 0 :: .int (-1) :: .ref 187 :: .ref 188 :: .ref 189 :: .int 0 :: .ref 190 :: .ref 191 :: .ref 192 :: .ref 193 :: .ref 194 :: .int 0 :: .ref 195 :: .ref 196 :: .ref 197 :: .int 0 :: .ref 198 :: .ref 199 :: .ref 200 :: .ref 201 :: .ref 202 :: .ref 203 :: .int 0 :: .ref 204 :: .ref 205 :: .ref 206 :: .ref 207 :: .ref 208 :: .ref 209 :: .ref 210 :: .ref 211 :: .ref 212 :: .ref 213 :: .ref 214 :: .int 0 :: .ref 215 :: .ref 216 :: .int 0 :: .ref 217 :: .ref 218 :: .ref 219 :: .ref 220 :: .ref 221 :: .int 0 :: .int 0 :: .int 0 :: .int 0 :: .ref 222 :: .int 0 :: []))), (184, .inl (0, 4347, .inl (cpy g182 (fun _ => 0) 4347)))] gf_X9_468 cf9 nf9_6 rfl (Nat.le_of_ble_eq_true rfl) (by decide) (by decide) dX9_image_34 rfl ?_
  exact aw_vret C rfl dX9_image_37 (Nat.le_of_ble_eq_true rfl) (Nat.le_of_ble_eq_true rfl) ⟨rfl, rfl, rfl⟩

set_option maxHeartbeats 4000000 in
set_option maxRecDepth 100000 in
theorem c_X8_back_624 {X : GX} {l : Launch} {f : AH} {n : Nat} (h0 : f 0 = some (.inr (8, [.ref 1, .ref 3, .ref 8, .ref 13, .ref 18, .ref 59, .ref 115, .ref 171, .ref 178, .int 0, .int 0, .int 0, .int 0, .int (-1)]))) : AM X l yX8_back cX8_back 1 (some .boolean) 0 0 0 [.ref 0] f n (EXO f [] (some (.int 0)) n) := by
  refine AM.of (by decide +kernel) rfl (by decide) (fun p e s m args below meth c C hnm => ?_)
  refine ao_start ?_
  refine aw_nl [some (.ref 0)] rfl ?_
  refine aw_ald_n C dX8_back_0 rfl ?_
  refine aw_get C gf_X8_287 h0 rfl dX8_back_1 ?_
  refine aw_if_ne C 9 dX8_back_4 (by decide) (fun q => absurd (by decide) q) (fun _ => ?_)
  refine aw_iconst C 0 dX8_back_7 ki_0 ?_
  exact aw_iret C rfl (by decide) dX8_back_8 (Nat.le_of_ble_eq_true rfl) (Nat.le_of_ble_eq_true rfl) ⟨rfl, rfl, rfl⟩

set_option maxHeartbeats 4000000 in
set_option maxRecDepth 100000 in
theorem c_X9_back_625 {X : GX} {l : Launch} {f : AH} {n : Nat} (h181 : f 181 = some (.inr (9, (.int 0 :: .ref 182 :: .ref 183 :: .ref 184 :: .ref 185 :: .int 0 :: .int 0 :: .int 0 :: .ref 186 :: .int 0 :: .int 0 :: .int 0 :: .int (-1) :: .ref 187 :: .ref 188 :: .ref 189 :: .int 0 :: .ref 190 :: .ref 191 :: .ref 192 :: .ref 193 :: .ref 194 :: .int 0 :: .ref 195 :: .ref 196 :: .ref 197 :: .int 0 :: .ref 198 :: .ref 199 :: .ref 200 :: .ref 201 :: .ref 202 :: .ref 203 :: .int 0 :: .ref 204 :: .ref 205 :: .ref 206 :: .ref 207 :: .ref 208 :: .ref 209 :: .ref 210 :: .ref 211 :: .ref 212 :: .ref 213 :: .ref 214 :: .int 0 :: .ref 215 :: .ref 216 :: .int 0 :: .ref 217 :: .ref 218 :: .ref 219 :: .ref 220 :: .ref 221 :: .int 0 :: .int 0 :: .int 0 :: .int 0 :: .ref 222 :: .int 0 :: [])))) : AM X l yX9_back cX9_back 2 (some .boolean) 0 0 0 [.ref 181] f n (EXO f [(181, .inr (9, (.int 0 :: .ref 182 :: .ref 183 :: .ref 184 :: .ref 185 :: .int 0 :: .int 0 :: .int 0 :: .ref 186 :: .int 0 :: .int 0 :: .int 0 :: .int (-1) :: .ref 187 :: .ref 188 :: .ref 189 :: .int 0 :: .ref 190 :: .ref 191 :: .ref 192 :: .ref 193 :: .ref 194 :: .int 0 :: .ref 195 :: .ref 196 :: .ref 197 :: .int 0 :: .ref 198 :: .ref 199 :: .ref 200 :: .ref 201 :: .ref 202 :: .ref 203 :: .int 0 :: .ref 204 :: .ref 205 :: .ref 206 :: .ref 207 :: .ref 208 :: .ref 209 :: .ref 210 :: .ref 211 :: .ref 212 :: .ref 213 :: .ref 214 :: .int 0 :: .ref 215 :: .ref 216 :: .int 0 :: .ref 217 :: .ref 218 :: .ref 219 :: .ref 220 :: .ref 221 :: .int 0 :: .int 0 :: .int 0 :: .int 0 :: .ref 222 :: .int 0 :: [])))] (some (.int 0)) n) := by
  refine AM.of (by decide +kernel) rfl (by decide) (fun p e s m args below meth c C hnm => ?_)
  refine ao_start ?_
  refine aw_nl [some (.ref 181), none] rfl ?_
  refine aw_ald_n C dX9_back_0 rfl ?_
  refine aw_iconst C 0 dX9_back_1 ki_0 ?_
  refine ao_put C [(181, .inr (9, (.int 0 :: .ref 182 :: .ref 183 :: .ref 184 :: .ref 185 :: .int 0 :: .int 0 :: .int 0 :: .ref 186 :: .int 0 :: .int 0 :: .int 0 :: .int (-1) :: .ref 187 :: .ref 188 :: .ref 189 :: .int 0 :: .ref 190 :: .ref 191 :: .ref 192 :: .ref 193 :: .ref 194 :: .int 0 :: .ref 195 :: .ref 196 :: .ref 197 :: .int 0 :: .ref 198 :: .ref 199 :: .ref 200 :: .ref 201 :: .ref 202 :: .ref 203 :: .int 0 :: .ref 204 :: .ref 205 :: .ref 206 :: .ref 207 :: .ref 208 :: .ref 209 :: .ref 210 :: .ref 211 :: .ref 212 :: .ref 213 :: .ref 214 :: .int 0 :: .ref 215 :: .ref 216 :: .int 0 :: .ref 217 :: .ref 218 :: .ref 219 :: .ref 220 :: .ref 221 :: .int 0 :: .int 0 :: .int 0 :: .int 0 :: .ref 222 :: .int 0 :: [])))] gf_X9_138 cf9 nf9_0 h181 (Nat.le_of_ble_eq_true rfl) rfl rfl dX9_back_2 rfl ?_
  refine aw_ald_n C dX9_back_5 rfl ?_
  refine aw_get C gf_X9_468 rfl rfl dX9_back_6 ?_
  refine aw_if_ne C 14 dX9_back_9 (by decide) (fun q => absurd (by decide) q) (fun _ => ?_)
  refine aw_iconst C 0 dX9_back_12 ki_0 ?_
  exact aw_iret C rfl (by decide) dX9_back_13 (Nat.le_of_ble_eq_true rfl) (Nat.le_of_ble_eq_true rfl) ⟨rfl, rfl, rfl⟩

set_option maxHeartbeats 4000000 in
set_option maxRecDepth 100000 in
theorem c_X8_count_626 {X : GX} {l : Launch} {f : AH} {n : Nat} {a1 : Int32} (q0 : (-2147483648) ≤ a1.toInt ∧ a1.toInt ≤ (-1)) : AM X l yX8_count cX8_count 2 (some .int) 0 0 0 [.ref 0, .int a1] f n (EXO f [] (some (.int (-1))) n) := by
  refine AM.of (by decide +kernel) rfl (Nat.le_of_ble_eq_true rfl) (fun p e s m args below meth c C hnm => ?_)
  refine ao_start ?_
  refine aw_nl [some (.ref 0), some (.int a1)] rfl ?_
  obtain ⟨q0a, q0b⟩ := q0
  refine aw_iload_n C dX8_count_0 rfl ?_
  refine aw_tabOut C 215 dX8_count_1 (Or.inl (by omega)) (by decide) ?_
  refine aw_iconst C (-1) dX8_count_215 ki_m1 ?_
  exact aw_iret C rfl rfl dX8_count_216 (Nat.le_of_ble_eq_true rfl) (Nat.le_of_ble_eq_true rfl) ⟨rfl, rfl, rfl⟩

set_option maxHeartbeats 4000000 in
set_option maxRecDepth 100000 in
theorem c_X9_count_627 {X : GX} {l : Launch} {f : AH} {n : Nat} {a1 : Int32} (q0 : (-2147483648) ≤ a1.toInt ∧ a1.toInt ≤ (-1)) (h181 : f 181 = some (.inr (9, (.int 0 :: .ref 182 :: .ref 183 :: .ref 184 :: .ref 185 :: .int 0 :: .int 0 :: .int 0 :: .ref 186 :: .int 0 :: .int 0 :: .int 0 :: .int (-1) :: .ref 187 :: .ref 188 :: .ref 189 :: .int 0 :: .ref 190 :: .ref 191 :: .ref 192 :: .ref 193 :: .ref 194 :: .int 0 :: .ref 195 :: .ref 196 :: .ref 197 :: .int 0 :: .ref 198 :: .ref 199 :: .ref 200 :: .ref 201 :: .ref 202 :: .ref 203 :: .int 0 :: .ref 204 :: .ref 205 :: .ref 206 :: .ref 207 :: .ref 208 :: .ref 209 :: .ref 210 :: .ref 211 :: .ref 212 :: .ref 213 :: .ref 214 :: .int 0 :: .ref 215 :: .ref 216 :: .int 0 :: .ref 217 :: .ref 218 :: .ref 219 :: .ref 220 :: .ref 221 :: .int 0 :: .int 0 :: .int 0 :: .int 0 :: .ref 222 :: .int 0 :: [])))) : AM X l yX9_count cX9_count 2 (some .int) 0 0 0 [.ref 181, .int a1] f n (EXO f [(181, .inr (9, (.int 0 :: .ref 182 :: .ref 183 :: .ref 184 :: .ref 185 :: .int 0 :: .int 0 :: .int 0 :: .ref 186 :: .int 0 :: .int 0 :: .int 0 :: .int (-1) :: .ref 187 :: .ref 188 :: .ref 189 :: .int 0 :: .ref 190 :: .ref 191 :: .ref 192 :: .ref 193 :: .ref 194 :: .int 0 :: .ref 195 :: .ref 196 :: .ref 197 :: .int 0 :: .ref 198 :: .ref 199 :: .ref 200 :: .ref 201 :: .ref 202 :: .ref 203 :: .int 0 :: .ref 204 :: .ref 205 :: .ref 206 :: .ref 207 :: .ref 208 :: .ref 209 :: .ref 210 :: .ref 211 :: .ref 212 :: .ref 213 :: .ref 214 :: .int 0 :: .ref 215 :: .ref 216 :: .int 0 :: .ref 217 :: .ref 218 :: .ref 219 :: .ref 220 :: .ref 221 :: .int 0 :: .int 0 :: .int 0 :: .int 0 :: .ref 222 :: .int 0 :: [])))] (some (.int (-1))) n) := by
  refine AM.of (by decide +kernel) rfl (Nat.le_of_ble_eq_true rfl) (fun p e s m args below meth c C hnm => ?_)
  refine ao_start ?_
  refine aw_nl [some (.ref 181), some (.int a1)] rfl ?_
  obtain ⟨q0a, q0b⟩ := q0
  refine aw_ald_n C dX9_count_0 rfl ?_
  refine aw_iconst C 0 dX9_count_1 ki_0 ?_
  refine ao_put C [(181, .inr (9, (.int 0 :: .ref 182 :: .ref 183 :: .ref 184 :: .ref 185 :: .int 0 :: .int 0 :: .int 0 :: .ref 186 :: .int 0 :: .int 0 :: .int 0 :: .int (-1) :: .ref 187 :: .ref 188 :: .ref 189 :: .int 0 :: .ref 190 :: .ref 191 :: .ref 192 :: .ref 193 :: .ref 194 :: .int 0 :: .ref 195 :: .ref 196 :: .ref 197 :: .int 0 :: .ref 198 :: .ref 199 :: .ref 200 :: .ref 201 :: .ref 202 :: .ref 203 :: .int 0 :: .ref 204 :: .ref 205 :: .ref 206 :: .ref 207 :: .ref 208 :: .ref 209 :: .ref 210 :: .ref 211 :: .ref 212 :: .ref 213 :: .ref 214 :: .int 0 :: .ref 215 :: .ref 216 :: .int 0 :: .ref 217 :: .ref 218 :: .ref 219 :: .ref 220 :: .ref 221 :: .int 0 :: .int 0 :: .int 0 :: .int 0 :: .ref 222 :: .int 0 :: [])))] gf_X9_138 cf9 nf9_0 h181 (Nat.le_of_ble_eq_true rfl) rfl rfl dX9_count_2 rfl ?_
  refine aw_iload_n C dX9_count_5 rfl ?_
  refine aw_tabOut C 170 dX9_count_6 (Or.inl (by omega)) (by decide) ?_
  refine aw_iconst C (-1) dX9_count_170 ki_m1 ?_
  exact aw_iret C rfl rfl dX9_count_171 (Nat.le_of_ble_eq_true rfl) (Nat.le_of_ble_eq_true rfl) ⟨rfl, rfl, rfl⟩

set_option maxHeartbeats 4000000 in
set_option maxRecDepth 100000 in
theorem c_X8_count_628 {X : GX} {l : Launch} {f : AH} {n : Nat} (h0 : f 0 = some (.inr (8, [.ref 1, .ref 3, .ref 8, .ref 13, .ref 18, .ref 59, .ref 115, .ref 171, .ref 178, .int 0, .int 0, .int 0, .int 0, .int (-1)]))) (h3 : f 3 = some (.inr (7, [.ref 4, .int 0, .int (-1), .int 0, .int 1, .int 0, .null, .int 0, .ref 6, .ref 7]))) (h4 : f 4 = some (.inr (5, [.ref 5, .int 0]))) : AM X l yX8_count cX8_count 2 (some .int) 1 0 0 [.ref 0, .int 0] f n (EXO f [] (some (.int 0)) n) := by
  refine AM.of (by decide +kernel) rfl (by decide) (fun p e s m args below meth c C hnm => ?_)
  refine ao_start ?_
  refine aw_nl [some (.ref 0), some (.int 0)] rfl ?_
  refine aw_iload_n C dX8_count_0 rfl ?_
  refine aw_tabIn C (off := 75) 76 dX8_count_1 (by decide) (by decide) (by decide) (by decide) ?_
  refine aw_ald_n C dX8_count_76 rfl ?_
  refine aw_get C gf_X8_21 h0 rfl dX8_count_77 ?_
  refine aw_get C gf_X8_130 h3 rfl dX8_count_80 ?_
  refine ao_callV C (ci := 5) (b := 4) [] [] mv_X8_63 rfl rfl h4 (c_X5_size_219 h4) rfl dX8_count_83 (Nat.le_of_ble_eq_true rfl) (Nat.le_of_ble_eq_true rfl) rfl (Nat.le_of_ble_eq_true rfl) (Nat.le_of_ble_eq_true rfl) (Nat.le_of_ble_eq_true rfl) rfl ?_
  exact aw_iret C rfl rfl dX8_count_86 (Nat.le_of_ble_eq_true rfl) (Nat.le_of_ble_eq_true rfl) ⟨rfl, rfl, rfl⟩

set_option maxHeartbeats 4000000 in
set_option maxRecDepth 100000 in
theorem c_X9_count_629 {X : GX} {l : Launch} {f : AH} {n : Nat} (h181 : f 181 = some (.inr (9, (.int 0 :: .ref 182 :: .ref 183 :: .ref 184 :: .ref 185 :: .int 0 :: .int 0 :: .int 0 :: .ref 186 :: .int 0 :: .int 0 :: .int 0 :: .int (-1) :: .ref 187 :: .ref 188 :: .ref 189 :: .int 0 :: .ref 190 :: .ref 191 :: .ref 192 :: .ref 193 :: .ref 194 :: .int 0 :: .ref 195 :: .ref 196 :: .ref 197 :: .int 0 :: .ref 198 :: .ref 199 :: .ref 200 :: .ref 201 :: .ref 202 :: .ref 203 :: .int 0 :: .ref 204 :: .ref 205 :: .ref 206 :: .ref 207 :: .ref 208 :: .ref 209 :: .ref 210 :: .ref 211 :: .ref 212 :: .ref 213 :: .ref 214 :: .int 0 :: .ref 215 :: .ref 216 :: .int 0 :: .ref 217 :: .ref 218 :: .ref 219 :: .ref 220 :: .ref 221 :: .int 0 :: .int 0 :: .int 0 :: .int 0 :: .ref 222 :: .int 0 :: [])))) (h182 : f 182 = some (.inl (0, 4347, .inl (tl (upd (upd (fun _ => 0) 2 (-1)) 4 1) 40)))) : AM X l yX9_count cX9_count 2 (some .int) 0 0 0 [.ref 181, .int 0] f n (EXO f [(181, .inr (9, (.int 0 :: .ref 182 :: .ref 183 :: .ref 184 :: .ref 185 :: .int 0 :: .int 0 :: .int 0 :: .ref 186 :: .int 0 :: .int 0 :: .int 0 :: .int (-1) :: .ref 187 :: .ref 188 :: .ref 189 :: .int 0 :: .ref 190 :: .ref 191 :: .ref 192 :: .ref 193 :: .ref 194 :: .int 0 :: .ref 195 :: .ref 196 :: .ref 197 :: .int 0 :: .ref 198 :: .ref 199 :: .ref 200 :: .ref 201 :: .ref 202 :: .ref 203 :: .int 0 :: .ref 204 :: .ref 205 :: .ref 206 :: .ref 207 :: .ref 208 :: .ref 209 :: .ref 210 :: .ref 211 :: .ref 212 :: .ref 213 :: .ref 214 :: .int 0 :: .ref 215 :: .ref 216 :: .int 0 :: .ref 217 :: .ref 218 :: .ref 219 :: .ref 220 :: .ref 221 :: .int 0 :: .int 0 :: .int 0 :: .int 0 :: .ref 222 :: .int 0 :: [])))] (some (.int 0)) n) := by
  refine AM.of (by decide +kernel) rfl (by decide) (fun p e s m args below meth c C hnm => ?_)
  refine ao_start ?_
  refine aw_nl [some (.ref 181), some (.int 0)] rfl ?_
  refine aw_ald_n C dX9_count_0 rfl ?_
  refine aw_iconst C 0 dX9_count_1 ki_0 ?_
  refine ao_put C [(181, .inr (9, (.int 0 :: .ref 182 :: .ref 183 :: .ref 184 :: .ref 185 :: .int 0 :: .int 0 :: .int 0 :: .ref 186 :: .int 0 :: .int 0 :: .int 0 :: .int (-1) :: .ref 187 :: .ref 188 :: .ref 189 :: .int 0 :: .ref 190 :: .ref 191 :: .ref 192 :: .ref 193 :: .ref 194 :: .int 0 :: .ref 195 :: .ref 196 :: .ref 197 :: .int 0 :: .ref 198 :: .ref 199 :: .ref 200 :: .ref 201 :: .ref 202 :: .ref 203 :: .int 0 :: .ref 204 :: .ref 205 :: .ref 206 :: .ref 207 :: .ref 208 :: .ref 209 :: .ref 210 :: .ref 211 :: .ref 212 :: .ref 213 :: .ref 214 :: .int 0 :: .ref 215 :: .ref 216 :: .int 0 :: .ref 217 :: .ref 218 :: .ref 219 :: .ref 220 :: .ref 221 :: .int 0 :: .int 0 :: .int 0 :: .int 0 :: .ref 222 :: .int 0 :: [])))] gf_X9_138 cf9 nf9_0 h181 (Nat.le_of_ble_eq_true rfl) rfl rfl dX9_count_2 rfl ?_
  refine aw_iload_n C dX9_count_5 rfl ?_
  refine aw_tabIn C (off := 74) 80 dX9_count_6 (by decide) (by decide) (by decide) (by decide) ?_
  refine aw_ald_n C dX9_count_80 rfl ?_
  refine aw_get C gf_X9_7 rfl rfl dX9_count_81 ?_
  refine aw_iconst C 0 dX9_count_84 ki_0 ?_
  refine ao_iald C 0 h182 (by unfold vp_in; decide) (by decide : _ = 0) rfl dX9_count_85 ?_
  exact aw_iret C rfl rfl dX9_count_86 (Nat.le_of_ble_eq_true rfl) (Nat.le_of_ble_eq_true rfl) ⟨rfl, rfl, rfl⟩

set_option maxHeartbeats 4000000 in
set_option maxRecDepth 100000 in
theorem c_X8_count_630 {X : GX} {l : Launch} {f : AH} {n : Nat} (h0 : f 0 = some (.inr (8, [.ref 1, .ref 3, .ref 8, .ref 13, .ref 18, .ref 59, .ref 115, .ref 171, .ref 178, .int 0, .int 0, .int 0, .int 0, .int (-1)]))) (h3 : f 3 = some (.inr (7, [.ref 4, .int 0, .int (-1), .int 0, .int 1, .int 0, .null, .int 0, .ref 6, .ref 7]))) : AM X l yX8_count cX8_count 2 (some .int) 0 0 0 [.ref 0, .int 1] f n (EXO f [] (some (.int 0)) n) := by
  refine AM.of (by decide +kernel) rfl (by decide) (fun p e s m args below meth c C hnm => ?_)
  refine ao_start ?_
  refine aw_nl [some (.ref 0), some (.int 1)] rfl ?_
  refine aw_iload_n C dX8_count_0 rfl ?_
  refine aw_tabIn C (off := 86) 87 dX8_count_1 (by decide) (by decide) (by decide) (by decide) ?_
  refine aw_ald_n C dX8_count_87 rfl ?_
  refine aw_get C gf_X8_21 h0 rfl dX8_count_88 ?_
  refine aw_get C gf_X8_232 h3 rfl dX8_count_91 ?_
  exact aw_iret C rfl rfl dX8_count_94 (Nat.le_of_ble_eq_true rfl) (Nat.le_of_ble_eq_true rfl) ⟨rfl, rfl, rfl⟩

set_option maxHeartbeats 4000000 in
set_option maxRecDepth 100000 in
theorem c_X9_count_631 {X : GX} {l : Launch} {f : AH} {n : Nat} (h181 : f 181 = some (.inr (9, (.int 0 :: .ref 182 :: .ref 183 :: .ref 184 :: .ref 185 :: .int 0 :: .int 0 :: .int 0 :: .ref 186 :: .int 0 :: .int 0 :: .int 0 :: .int (-1) :: .ref 187 :: .ref 188 :: .ref 189 :: .int 0 :: .ref 190 :: .ref 191 :: .ref 192 :: .ref 193 :: .ref 194 :: .int 0 :: .ref 195 :: .ref 196 :: .ref 197 :: .int 0 :: .ref 198 :: .ref 199 :: .ref 200 :: .ref 201 :: .ref 202 :: .ref 203 :: .int 0 :: .ref 204 :: .ref 205 :: .ref 206 :: .ref 207 :: .ref 208 :: .ref 209 :: .ref 210 :: .ref 211 :: .ref 212 :: .ref 213 :: .ref 214 :: .int 0 :: .ref 215 :: .ref 216 :: .int 0 :: .ref 217 :: .ref 218 :: .ref 219 :: .ref 220 :: .ref 221 :: .int 0 :: .int 0 :: .int 0 :: .int 0 :: .ref 222 :: .int 0 :: [])))) (h182 : f 182 = some (.inl (0, 4347, .inl (tl (upd (upd (fun _ => 0) 2 (-1)) 4 1) 40)))) : AM X l yX9_count cX9_count 2 (some .int) 0 0 0 [.ref 181, .int 1] f n (EXO f [(181, .inr (9, (.int 0 :: .ref 182 :: .ref 183 :: .ref 184 :: .ref 185 :: .int 0 :: .int 0 :: .int 0 :: .ref 186 :: .int 0 :: .int 0 :: .int 0 :: .int (-1) :: .ref 187 :: .ref 188 :: .ref 189 :: .int 0 :: .ref 190 :: .ref 191 :: .ref 192 :: .ref 193 :: .ref 194 :: .int 0 :: .ref 195 :: .ref 196 :: .ref 197 :: .int 0 :: .ref 198 :: .ref 199 :: .ref 200 :: .ref 201 :: .ref 202 :: .ref 203 :: .int 0 :: .ref 204 :: .ref 205 :: .ref 206 :: .ref 207 :: .ref 208 :: .ref 209 :: .ref 210 :: .ref 211 :: .ref 212 :: .ref 213 :: .ref 214 :: .int 0 :: .ref 215 :: .ref 216 :: .int 0 :: .ref 217 :: .ref 218 :: .ref 219 :: .ref 220 :: .ref 221 :: .int 0 :: .int 0 :: .int 0 :: .int 0 :: .ref 222 :: .int 0 :: [])))] (some (.int 0)) n) := by
  refine AM.of (by decide +kernel) rfl (by decide) (fun p e s m args below meth c C hnm => ?_)
  refine ao_start ?_
  refine aw_nl [some (.ref 181), some (.int 1)] rfl ?_
  refine aw_ald_n C dX9_count_0 rfl ?_
  refine aw_iconst C 0 dX9_count_1 ki_0 ?_
  refine ao_put C [(181, .inr (9, (.int 0 :: .ref 182 :: .ref 183 :: .ref 184 :: .ref 185 :: .int 0 :: .int 0 :: .int 0 :: .ref 186 :: .int 0 :: .int 0 :: .int 0 :: .int (-1) :: .ref 187 :: .ref 188 :: .ref 189 :: .int 0 :: .ref 190 :: .ref 191 :: .ref 192 :: .ref 193 :: .ref 194 :: .int 0 :: .ref 195 :: .ref 196 :: .ref 197 :: .int 0 :: .ref 198 :: .ref 199 :: .ref 200 :: .ref 201 :: .ref 202 :: .ref 203 :: .int 0 :: .ref 204 :: .ref 205 :: .ref 206 :: .ref 207 :: .ref 208 :: .ref 209 :: .ref 210 :: .ref 211 :: .ref 212 :: .ref 213 :: .ref 214 :: .int 0 :: .ref 215 :: .ref 216 :: .int 0 :: .ref 217 :: .ref 218 :: .ref 219 :: .ref 220 :: .ref 221 :: .int 0 :: .int 0 :: .int 0 :: .int 0 :: .ref 222 :: .int 0 :: [])))] gf_X9_138 cf9 nf9_0 h181 (Nat.le_of_ble_eq_true rfl) rfl rfl dX9_count_2 rfl ?_
  refine aw_iload_n C dX9_count_5 rfl ?_
  refine aw_tabIn C (off := 81) 87 dX9_count_6 (by decide) (by decide) (by decide) (by decide) ?_
  refine aw_ald_n C dX9_count_87 rfl ?_
  refine aw_get C gf_X9_7 rfl rfl dX9_count_88 ?_
  refine aw_iconst C 1 dX9_count_91 ki_1 ?_
  refine ao_iald C 0 h182 (by unfold vp_in; decide) (by decide : _ = 1) rfl dX9_count_92 ?_
  exact aw_iret C rfl rfl dX9_count_93 (Nat.le_of_ble_eq_true rfl) (Nat.le_of_ble_eq_true rfl) ⟨rfl, rfl, rfl⟩

set_option maxHeartbeats 4000000 in
set_option maxRecDepth 100000 in
theorem c_X8_count_632 {X : GX} {l : Launch} {f : AH} {n : Nat} (h0 : f 0 = some (.inr (8, [.ref 1, .ref 3, .ref 8, .ref 13, .ref 18, .ref 59, .ref 115, .ref 171, .ref 178, .int 0, .int 0, .int 0, .int 0, .int (-1)]))) (h3 : f 3 = some (.inr (7, [.ref 4, .int 0, .int (-1), .int 0, .int 1, .int 0, .null, .int 0, .ref 6, .ref 7]))) : AM X l yX8_count cX8_count 2 (some .int) 0 0 0 [.ref 0, .int 2] f n (EXO f [] (some (.int (-1))) n) := by
  refine AM.of (by decide +kernel) rfl (by decide) (fun p e s m args below meth c C hnm => ?_)
  refine ao_start ?_
  refine aw_nl [some (.ref 0), some (.int 2)] rfl ?_
  refine aw_iload_n C dX8_count_0 rfl ?_
  refine aw_tabIn C (off := 94) 95 dX8_count_1 (by decide) (by decide) (by decide) (by decide) ?_
  refine aw_ald_n C dX8_count_95 rfl ?_
  refine aw_get C gf_X8_21 h0 rfl dX8_count_96 ?_
  refine aw_get C gf_X8_290 h3 rfl dX8_count_99 ?_
  exact aw_iret C rfl rfl dX8_count_102 (Nat.le_of_ble_eq_true rfl) (Nat.le_of_ble_eq_true rfl) ⟨rfl, rfl, rfl⟩

set_option maxHeartbeats 4000000 in
set_option maxRecDepth 100000 in
theorem c_X9_count_633 {X : GX} {l : Launch} {f : AH} {n : Nat} (h181 : f 181 = some (.inr (9, (.int 0 :: .ref 182 :: .ref 183 :: .ref 184 :: .ref 185 :: .int 0 :: .int 0 :: .int 0 :: .ref 186 :: .int 0 :: .int 0 :: .int 0 :: .int (-1) :: .ref 187 :: .ref 188 :: .ref 189 :: .int 0 :: .ref 190 :: .ref 191 :: .ref 192 :: .ref 193 :: .ref 194 :: .int 0 :: .ref 195 :: .ref 196 :: .ref 197 :: .int 0 :: .ref 198 :: .ref 199 :: .ref 200 :: .ref 201 :: .ref 202 :: .ref 203 :: .int 0 :: .ref 204 :: .ref 205 :: .ref 206 :: .ref 207 :: .ref 208 :: .ref 209 :: .ref 210 :: .ref 211 :: .ref 212 :: .ref 213 :: .ref 214 :: .int 0 :: .ref 215 :: .ref 216 :: .int 0 :: .ref 217 :: .ref 218 :: .ref 219 :: .ref 220 :: .ref 221 :: .int 0 :: .int 0 :: .int 0 :: .int 0 :: .ref 222 :: .int 0 :: [])))) (h182 : f 182 = some (.inl (0, 4347, .inl (tl (upd (upd (fun _ => 0) 2 (-1)) 4 1) 40)))) : AM X l yX9_count cX9_count 2 (some .int) 0 0 0 [.ref 181, .int 2] f n (EXO f [(181, .inr (9, (.int 0 :: .ref 182 :: .ref 183 :: .ref 184 :: .ref 185 :: .int 0 :: .int 0 :: .int 0 :: .ref 186 :: .int 0 :: .int 0 :: .int 0 :: .int (-1) :: .ref 187 :: .ref 188 :: .ref 189 :: .int 0 :: .ref 190 :: .ref 191 :: .ref 192 :: .ref 193 :: .ref 194 :: .int 0 :: .ref 195 :: .ref 196 :: .ref 197 :: .int 0 :: .ref 198 :: .ref 199 :: .ref 200 :: .ref 201 :: .ref 202 :: .ref 203 :: .int 0 :: .ref 204 :: .ref 205 :: .ref 206 :: .ref 207 :: .ref 208 :: .ref 209 :: .ref 210 :: .ref 211 :: .ref 212 :: .ref 213 :: .ref 214 :: .int 0 :: .ref 215 :: .ref 216 :: .int 0 :: .ref 217 :: .ref 218 :: .ref 219 :: .ref 220 :: .ref 221 :: .int 0 :: .int 0 :: .int 0 :: .int 0 :: .ref 222 :: .int 0 :: [])))] (some (.int (-1))) n) := by
  refine AM.of (by decide +kernel) rfl (by decide) (fun p e s m args below meth c C hnm => ?_)
  refine ao_start ?_
  refine aw_nl [some (.ref 181), some (.int 2)] rfl ?_
  refine aw_ald_n C dX9_count_0 rfl ?_
  refine aw_iconst C 0 dX9_count_1 ki_0 ?_
  refine ao_put C [(181, .inr (9, (.int 0 :: .ref 182 :: .ref 183 :: .ref 184 :: .ref 185 :: .int 0 :: .int 0 :: .int 0 :: .ref 186 :: .int 0 :: .int 0 :: .int 0 :: .int (-1) :: .ref 187 :: .ref 188 :: .ref 189 :: .int 0 :: .ref 190 :: .ref 191 :: .ref 192 :: .ref 193 :: .ref 194 :: .int 0 :: .ref 195 :: .ref 196 :: .ref 197 :: .int 0 :: .ref 198 :: .ref 199 :: .ref 200 :: .ref 201 :: .ref 202 :: .ref 203 :: .int 0 :: .ref 204 :: .ref 205 :: .ref 206 :: .ref 207 :: .ref 208 :: .ref 209 :: .ref 210 :: .ref 211 :: .ref 212 :: .ref 213 :: .ref 214 :: .int 0 :: .ref 215 :: .ref 216 :: .int 0 :: .ref 217 :: .ref 218 :: .ref 219 :: .ref 220 :: .ref 221 :: .int 0 :: .int 0 :: .int 0 :: .int 0 :: .ref 222 :: .int 0 :: [])))] gf_X9_138 cf9 nf9_0 h181 (Nat.le_of_ble_eq_true rfl) rfl rfl dX9_count_2 rfl ?_
  refine aw_iload_n C dX9_count_5 rfl ?_
  refine aw_tabIn C (off := 88) 94 dX9_count_6 (by decide) (by decide) (by decide) (by decide) ?_
  refine aw_ald_n C dX9_count_94 rfl ?_
  refine aw_get C gf_X9_7 rfl rfl dX9_count_95 ?_
  refine aw_iconst C 2 dX9_count_98 ki_2 ?_
  refine ao_iald C (-1) h182 (by unfold vp_in; decide) (by decide : _ = 2) rfl dX9_count_99 ?_
  exact aw_iret C rfl rfl dX9_count_100 (Nat.le_of_ble_eq_true rfl) (Nat.le_of_ble_eq_true rfl) ⟨rfl, rfl, rfl⟩

set_option maxHeartbeats 4000000 in
set_option maxRecDepth 100000 in
theorem c_X8_count_634 {X : GX} {l : Launch} {f : AH} {n : Nat} (h0 : f 0 = some (.inr (8, [.ref 1, .ref 3, .ref 8, .ref 13, .ref 18, .ref 59, .ref 115, .ref 171, .ref 178, .int 0, .int 0, .int 0, .int 0, .int (-1)]))) (h59 : f 59 = some (.inr (1, [.ref 60, .ref 62, .ref 74, .int 0, .ref 68, .ref 71, .ref 64, .ref 66]))) : AM X l yX8_count cX8_count 2 (some .int) 1 0 0 [.ref 0, .int 3] f n (EXO f [] (some (.int 0)) n) := by
  refine AM.of (by decide +kernel) rfl (by decide) (fun p e s m args below meth c C hnm => ?_)
  refine ao_start ?_
  refine aw_nl [some (.ref 0), some (.int 3)] rfl ?_
  refine aw_iload_n C dX8_count_0 rfl ?_
  refine aw_tabIn C (off := 102) 103 dX8_count_1 (by decide) (by decide) (by decide) (by decide) ?_
  refine aw_ald_n C dX8_count_103 rfl ?_
  refine aw_get C gf_X8_38 h0 rfl dX8_count_104 ?_
  refine ao_callV C (ci := 1) (b := 59) [] [] mv_X8_136 rfl rfl h59 (c_X1_size_192 h59) rfl dX8_count_107 (Nat.le_of_ble_eq_true rfl) (Nat.le_of_ble_eq_true rfl) rfl (Nat.le_of_ble_eq_true rfl) (Nat.le_of_ble_eq_true rfl) (Nat.le_of_ble_eq_true rfl) rfl ?_
  exact aw_iret C rfl rfl dX8_count_110 (Nat.le_of_ble_eq_true rfl) (Nat.le_of_ble_eq_true rfl) ⟨rfl, rfl, rfl⟩

set_option maxHeartbeats 4000000 in
set_option maxRecDepth 100000 in
theorem c_X9_count_635 {X : GX} {l : Launch} {f : AH} {n : Nat} (h181 : f 181 = some (.inr (9, (.int 0 :: .ref 182 :: .ref 183 :: .ref 184 :: .ref 185 :: .int 0 :: .int 0 :: .int 0 :: .ref 186 :: .int 0 :: .int 0 :: .int 0 :: .int (-1) :: .ref 187 :: .ref 188 :: .ref 189 :: .int 0 :: .ref 190 :: .ref 191 :: .ref 192 :: .ref 193 :: .ref 194 :: .int 0 :: .ref 195 :: .ref 196 :: .ref 197 :: .int 0 :: .ref 198 :: .ref 199 :: .ref 200 :: .ref 201 :: .ref 202 :: .ref 203 :: .int 0 :: .ref 204 :: .ref 205 :: .ref 206 :: .ref 207 :: .ref 208 :: .ref 209 :: .ref 210 :: .ref 211 :: .ref 212 :: .ref 213 :: .ref 214 :: .int 0 :: .ref 215 :: .ref 216 :: .int 0 :: .ref 217 :: .ref 218 :: .ref 219 :: .ref 220 :: .ref 221 :: .int 0 :: .int 0 :: .int 0 :: .int 0 :: .ref 222 :: .int 0 :: [])))) : AM X l yX9_count cX9_count 2 (some .int) 0 0 0 [.ref 181, .int 3] f n (EXO f [(181, .inr (9, (.int 0 :: .ref 182 :: .ref 183 :: .ref 184 :: .ref 185 :: .int 0 :: .int 0 :: .int 0 :: .ref 186 :: .int 0 :: .int 0 :: .int 0 :: .int (-1) :: .ref 187 :: .ref 188 :: .ref 189 :: .int 0 :: .ref 190 :: .ref 191 :: .ref 192 :: .ref 193 :: .ref 194 :: .int 0 :: .ref 195 :: .ref 196 :: .ref 197 :: .int 0 :: .ref 198 :: .ref 199 :: .ref 200 :: .ref 201 :: .ref 202 :: .ref 203 :: .int 0 :: .ref 204 :: .ref 205 :: .ref 206 :: .ref 207 :: .ref 208 :: .ref 209 :: .ref 210 :: .ref 211 :: .ref 212 :: .ref 213 :: .ref 214 :: .int 0 :: .ref 215 :: .ref 216 :: .int 0 :: .ref 217 :: .ref 218 :: .ref 219 :: .ref 220 :: .ref 221 :: .int 0 :: .int 0 :: .int 0 :: .int 0 :: .ref 222 :: .int 0 :: [])))] (some (.int 0)) n) := by
  refine AM.of (by decide +kernel) rfl (by decide) (fun p e s m args below meth c C hnm => ?_)
  refine ao_start ?_
  refine aw_nl [some (.ref 181), some (.int 3)] rfl ?_
  refine aw_ald_n C dX9_count_0 rfl ?_
  refine aw_iconst C 0 dX9_count_1 ki_0 ?_
  refine ao_put C [(181, .inr (9, (.int 0 :: .ref 182 :: .ref 183 :: .ref 184 :: .ref 185 :: .int 0 :: .int 0 :: .int 0 :: .ref 186 :: .int 0 :: .int 0 :: .int 0 :: .int (-1) :: .ref 187 :: .ref 188 :: .ref 189 :: .int 0 :: .ref 190 :: .ref 191 :: .ref 192 :: .ref 193 :: .ref 194 :: .int 0 :: .ref 195 :: .ref 196 :: .ref 197 :: .int 0 :: .ref 198 :: .ref 199 :: .ref 200 :: .ref 201 :: .ref 202 :: .ref 203 :: .int 0 :: .ref 204 :: .ref 205 :: .ref 206 :: .ref 207 :: .ref 208 :: .ref 209 :: .ref 210 :: .ref 211 :: .ref 212 :: .ref 213 :: .ref 214 :: .int 0 :: .ref 215 :: .ref 216 :: .int 0 :: .ref 217 :: .ref 218 :: .ref 219 :: .ref 220 :: .ref 221 :: .int 0 :: .int 0 :: .int 0 :: .int 0 :: .ref 222 :: .int 0 :: [])))] gf_X9_138 cf9 nf9_0 h181 (Nat.le_of_ble_eq_true rfl) rfl rfl dX9_count_2 rfl ?_
  refine aw_iload_n C dX9_count_5 rfl ?_
  refine aw_tabIn C (off := 95) 101 dX9_count_6 (by decide) (by decide) (by decide) (by decide) ?_
  refine aw_ald_n C dX9_count_101 rfl ?_
  refine aw_get C gf_X9_204 rfl rfl dX9_count_102 ?_
  exact aw_iret C rfl rfl dX9_count_105 (Nat.le_of_ble_eq_true rfl) (Nat.le_of_ble_eq_true rfl) ⟨rfl, rfl, rfl⟩

set_option maxHeartbeats 4000000 in
set_option maxRecDepth 100000 in
theorem c_X8_count_636 {X : GX} {l : Launch} {f : AH} {n : Nat} (h0 : f 0 = some (.inr (8, [.ref 1, .ref 3, .ref 8, .ref 13, .ref 18, .ref 59, .ref 115, .ref 171, .ref 178, .int 0, .int 0, .int 0, .int 0, .int (-1)]))) (h3 : f 3 = some (.inr (7, [.ref 4, .int 0, .int (-1), .int 0, .int 1, .int 0, .null, .int 0, .ref 6, .ref 7]))) (h7 : f 7 = some (.inl (2, 40, .inr (.inr (fun _ => none))))) : AM X l yX8_count cX8_count 2 (some .int) 1 0 0 [.ref 0, .int 4] f n (EXO f [] (some (.int 0)) n) := by
  refine AM.of (by decide +kernel) rfl (by decide) (fun p e s m args below meth c C hnm => ?_)
  refine ao_start ?_
  refine aw_nl [some (.ref 0), some (.int 4)] rfl ?_
  refine aw_iload_n C dX8_count_0 rfl ?_
  refine aw_tabIn C (off := 110) 111 dX8_count_1 (by decide) (by decide) (by decide) (by decide) ?_
  refine aw_ald_n C dX8_count_111 rfl ?_
  refine aw_get C gf_X8_21 h0 rfl dX8_count_112 ?_
  refine ao_callV C (ci := 7) (b := 3) [] [] mv_X8_167 rfl rfl h3 (c_X7_toldCount_514 h3 h7) rfl dX8_count_115 (Nat.le_of_ble_eq_true rfl) (Nat.le_of_ble_eq_true rfl) rfl (Nat.le_of_ble_eq_true rfl) (Nat.le_of_ble_eq_true rfl) (Nat.le_of_ble_eq_true rfl) rfl ?_
  exact aw_iret C rfl rfl dX8_count_118 (Nat.le_of_ble_eq_true rfl) (Nat.le_of_ble_eq_true rfl) ⟨rfl, rfl, rfl⟩

set_option maxHeartbeats 4000000 in
set_option maxRecDepth 100000 in
theorem c_X9_count_637 {X : GX} {l : Launch} {f : AH} {n : Nat} (h181 : f 181 = some (.inr (9, (.int 0 :: .ref 182 :: .ref 183 :: .ref 184 :: .ref 185 :: .int 0 :: .int 0 :: .int 0 :: .ref 186 :: .int 0 :: .int 0 :: .int 0 :: .int (-1) :: .ref 187 :: .ref 188 :: .ref 189 :: .int 0 :: .ref 190 :: .ref 191 :: .ref 192 :: .ref 193 :: .ref 194 :: .int 0 :: .ref 195 :: .ref 196 :: .ref 197 :: .int 0 :: .ref 198 :: .ref 199 :: .ref 200 :: .ref 201 :: .ref 202 :: .ref 203 :: .int 0 :: .ref 204 :: .ref 205 :: .ref 206 :: .ref 207 :: .ref 208 :: .ref 209 :: .ref 210 :: .ref 211 :: .ref 212 :: .ref 213 :: .ref 214 :: .int 0 :: .ref 215 :: .ref 216 :: .int 0 :: .ref 217 :: .ref 218 :: .ref 219 :: .ref 220 :: .ref 221 :: .int 0 :: .int 0 :: .int 0 :: .int 0 :: .ref 222 :: .int 0 :: [])))) : AM X l yX9_count cX9_count 2 (some .int) 1 0 0 [.ref 181, .int 4] f n (EXO f [(181, .inr (9, (.int 0 :: .ref 182 :: .ref 183 :: .ref 184 :: .ref 185 :: .int 0 :: .int 0 :: .int 0 :: .ref 186 :: .int 0 :: .int 0 :: .int 0 :: .int (-1) :: .ref 187 :: .ref 188 :: .ref 189 :: .int 0 :: .ref 190 :: .ref 191 :: .ref 192 :: .ref 193 :: .ref 194 :: .int 0 :: .ref 195 :: .ref 196 :: .ref 197 :: .int 0 :: .ref 198 :: .ref 199 :: .ref 200 :: .ref 201 :: .ref 202 :: .ref 203 :: .int 0 :: .ref 204 :: .ref 205 :: .ref 206 :: .ref 207 :: .ref 208 :: .ref 209 :: .ref 210 :: .ref 211 :: .ref 212 :: .ref 213 :: .ref 214 :: .int 0 :: .ref 215 :: .ref 216 :: .int 0 :: .ref 217 :: .ref 218 :: .ref 219 :: .ref 220 :: .ref 221 :: .int 0 :: .int 0 :: .int 0 :: .int 0 :: .ref 222 :: .int 0 :: [])))] (some (.int 0)) n) := by
  refine AM.of (by decide +kernel) rfl (by decide) (fun p e s m args below meth c C hnm => ?_)
  refine ao_start ?_
  refine aw_nl [some (.ref 181), some (.int 4)] rfl ?_
  refine aw_ald_n C dX9_count_0 rfl ?_
  refine aw_iconst C 0 dX9_count_1 ki_0 ?_
  refine ao_put C [(181, .inr (9, (.int 0 :: .ref 182 :: .ref 183 :: .ref 184 :: .ref 185 :: .int 0 :: .int 0 :: .int 0 :: .ref 186 :: .int 0 :: .int 0 :: .int 0 :: .int (-1) :: .ref 187 :: .ref 188 :: .ref 189 :: .int 0 :: .ref 190 :: .ref 191 :: .ref 192 :: .ref 193 :: .ref 194 :: .int 0 :: .ref 195 :: .ref 196 :: .ref 197 :: .int 0 :: .ref 198 :: .ref 199 :: .ref 200 :: .ref 201 :: .ref 202 :: .ref 203 :: .int 0 :: .ref 204 :: .ref 205 :: .ref 206 :: .ref 207 :: .ref 208 :: .ref 209 :: .ref 210 :: .ref 211 :: .ref 212 :: .ref 213 :: .ref 214 :: .int 0 :: .ref 215 :: .ref 216 :: .int 0 :: .ref 217 :: .ref 218 :: .ref 219 :: .ref 220 :: .ref 221 :: .int 0 :: .int 0 :: .int 0 :: .int 0 :: .ref 222 :: .int 0 :: [])))] gf_X9_138 cf9 nf9_0 h181 (Nat.le_of_ble_eq_true rfl) rfl rfl dX9_count_2 rfl ?_
  refine aw_iload_n C dX9_count_5 rfl ?_
  refine aw_tabIn C (off := 100) 106 dX9_count_6 (by decide) (by decide) (by decide) (by decide) ?_
  refine aw_ald_n C dX9_count_106 rfl ?_
  refine ao_callV C (ci := 9) (b := 181) [] [(181, .inr (9, (.int 0 :: .ref 182 :: .ref 183 :: .ref 184 :: .ref 185 :: .int 0 :: .int 0 :: .int 0 :: .ref 186 :: .int 0 :: .int 0 :: .int 0 :: .int (-1) :: .ref 187 :: .ref 188 :: .ref 189 :: .int 0 :: .ref 190 :: .ref 191 :: .ref 192 :: .ref 193 :: .ref 194 :: .int 0 :: .ref 195 :: .ref 196 :: .ref 197 :: .int 0 :: .ref 198 :: .ref 199 :: .ref 200 :: .ref 201 :: .ref 202 :: .ref 203 :: .int 0 :: .ref 204 :: .ref 205 :: .ref 206 :: .ref 207 :: .ref 208 :: .ref 209 :: .ref 210 :: .ref 211 :: .ref 212 :: .ref 213 :: .ref 214 :: .int 0 :: .ref 215 :: .ref 216 :: .int 0 :: .ref 217 :: .ref 218 :: .ref 219 :: .ref 220 :: .ref 221 :: .int 0 :: .int 0 :: .int 0 :: .int 0 :: .ref 222 :: .int 0 :: [])))] mv_X9_319 rfl rfl rfl (c_X9_toldMany_520 rfl) rfl dX9_count_107 (Nat.le_of_ble_eq_true rfl) (Nat.le_of_ble_eq_true rfl) rfl (Nat.le_of_ble_eq_true rfl) (Nat.le_of_ble_eq_true rfl) (Nat.le_of_ble_eq_true rfl) rfl ?_
  exact aw_iret C rfl rfl dX9_count_110 (Nat.le_of_ble_eq_true rfl) (Nat.le_of_ble_eq_true rfl) ⟨rfl, rfl, rfl⟩

set_option maxHeartbeats 4000000 in
set_option maxRecDepth 100000 in
theorem c_X8_count_638 {X : GX} {l : Launch} {f : AH} {n : Nat} (h0 : f 0 = some (.inr (8, [.ref 1, .ref 3, .ref 8, .ref 13, .ref 18, .ref 59, .ref 115, .ref 171, .ref 178, .int 0, .int 0, .int 0, .int 0, .int (-1)]))) (h171 : f 171 = some (.inr (0, [.ref 172, .ref 174, .ref 176, .int 0]))) (h172 : f 172 = some (.inr (5, [.ref 173, .int 0]))) : AM X l yX8_count cX8_count 2 (some .int) 1 0 0 [.ref 0, .int 5] f n (EXO f [] (some (.int 0)) n) := by
  refine AM.of (by decide +kernel) rfl (by decide) (fun p e s m args below meth c C hnm => ?_)
  refine ao_start ?_
  refine aw_nl [some (.ref 0), some (.int 5)] rfl ?_
  refine aw_iload_n C dX8_count_0 rfl ?_
  refine aw_tabIn C (off := 118) 119 dX8_count_1 (by decide) (by decide) (by decide) (by decide) ?_
  refine aw_ald_n C dX8_count_119 rfl ?_
  refine aw_get C gf_X8_48 h0 rfl dX8_count_120 ?_
  refine aw_get C gf_X8_160 h171 rfl dX8_count_123 ?_
  refine ao_callV C (ci := 5) (b := 172) [] [] mv_X8_63 rfl rfl h172 (c_X5_size_611 h172) rfl dX8_count_126 (Nat.le_of_ble_eq_true rfl) (Nat.le_of_ble_eq_true rfl) rfl (Nat.le_of_ble_eq_true rfl) (Nat.le_of_ble_eq_true rfl) (Nat.le_of_ble_eq_true rfl) rfl ?_
  exact aw_iret C rfl rfl dX8_count_129 (Nat.le_of_ble_eq_true rfl) (Nat.le_of_ble_eq_true rfl) ⟨rfl, rfl, rfl⟩

set_option maxHeartbeats 4000000 in
set_option maxRecDepth 100000 in
theorem c_X9_builtMany_639 {X : GX} {l : Launch} {f : AH} {n : Nat} (h181 : f 181 = some (.inr (9, (.int 0 :: .ref 182 :: .ref 183 :: .ref 184 :: .ref 185 :: .int 0 :: .int 0 :: .int 0 :: .ref 186 :: .int 0 :: .int 0 :: .int 0 :: .int (-1) :: .ref 187 :: .ref 188 :: .ref 189 :: .int 0 :: .ref 190 :: .ref 191 :: .ref 192 :: .ref 193 :: .ref 194 :: .int 0 :: .ref 195 :: .ref 196 :: .ref 197 :: .int 0 :: .ref 198 :: .ref 199 :: .ref 200 :: .ref 201 :: .ref 202 :: .ref 203 :: .int 0 :: .ref 204 :: .ref 205 :: .ref 206 :: .ref 207 :: .ref 208 :: .ref 209 :: .ref 210 :: .ref 211 :: .ref 212 :: .ref 213 :: .ref 214 :: .int 0 :: .ref 215 :: .ref 216 :: .int 0 :: .ref 217 :: .ref 218 :: .ref 219 :: .ref 220 :: .ref 221 :: .int 0 :: .int 0 :: .int 0 :: .int 0 :: .ref 222 :: .int 0 :: [])))) (h182 : f 182 = some (.inl (0, 4347, .inl (tl (upd (upd (fun _ => 0) 2 (-1)) 4 1) 40)))) : AM X l yX9_builtMany cX9_builtMany 3 (some .int) 0 0 0 [.ref 181] f n (EXO f [] (some (.int 0)) n) := by
  refine AM.of (by decide +kernel) rfl (by decide) (fun p e s m args below meth c C hnm => ?_)
  refine ao_start ?_
  refine aw_nl [some (.ref 181), none, none] rfl ?_
  refine aw_ald_n C dX9_builtMany_0 rfl ?_
  refine aw_get C gf_X9_7 h181 rfl dX9_builtMany_1 ?_
  refine aw_iconst C 0 dX9_builtMany_4 ki_0 ?_
  refine ao_iald C 0 h182 (by unfold vp_in; decide) (by decide : _ = 0) rfl dX9_builtMany_5 ?_
  refine aw_istore_n C dX9_builtMany_6 (by decide) rfl ?_
  refine aw_nl [some (.ref 181), some (.int 0), none] rfl ?_
  refine aw_iconst C 0 dX9_builtMany_7 ki_0 ?_
  refine aw_istore_n C dX9_builtMany_8 (by decide) rfl ?_
  refine aw_nl [some (.ref 181), some (.int 0), some (.int 0)] rfl ?_
  refine aw_iload_n C dX9_builtMany_9 rfl ?_
  refine aw_ald_n C dX9_builtMany_10 rfl ?_
  refine aw_get C gf_X9_204 h181 rfl dX9_builtMany_11 ?_
  refine aw_icmp_ge C 45 dX9_builtMany_14 (by decide) (fun _ => ?_) (fun q => absurd (by decide) q)
  refine aw_iload_n C dX9_builtMany_45 rfl ?_
  exact aw_iret C rfl rfl dX9_builtMany_46 (Nat.le_of_ble_eq_true rfl) (Nat.le_of_ble_eq_true rfl) ⟨rfl, rfl, rfl⟩

set_option maxHeartbeats 4000000 in
set_option maxRecDepth 100000 in
theorem c_X9_count_640 {X : GX} {l : Launch} {f : AH} {n : Nat} (h181 : f 181 = some (.inr (9, (.int 0 :: .ref 182 :: .ref 183 :: .ref 184 :: .ref 185 :: .int 0 :: .int 0 :: .int 0 :: .ref 186 :: .int 0 :: .int 0 :: .int 0 :: .int (-1) :: .ref 187 :: .ref 188 :: .ref 189 :: .int 0 :: .ref 190 :: .ref 191 :: .ref 192 :: .ref 193 :: .ref 194 :: .int 0 :: .ref 195 :: .ref 196 :: .ref 197 :: .int 0 :: .ref 198 :: .ref 199 :: .ref 200 :: .ref 201 :: .ref 202 :: .ref 203 :: .int 0 :: .ref 204 :: .ref 205 :: .ref 206 :: .ref 207 :: .ref 208 :: .ref 209 :: .ref 210 :: .ref 211 :: .ref 212 :: .ref 213 :: .ref 214 :: .int 0 :: .ref 215 :: .ref 216 :: .int 0 :: .ref 217 :: .ref 218 :: .ref 219 :: .ref 220 :: .ref 221 :: .int 0 :: .int 0 :: .int 0 :: .int 0 :: .ref 222 :: .int 0 :: [])))) (h182 : f 182 = some (.inl (0, 4347, .inl (tl (upd (upd (fun _ => 0) 2 (-1)) 4 1) 40)))) : AM X l yX9_count cX9_count 2 (some .int) 1 0 0 [.ref 181, .int 5] f n (EXO f [(181, .inr (9, (.int 0 :: .ref 182 :: .ref 183 :: .ref 184 :: .ref 185 :: .int 0 :: .int 0 :: .int 0 :: .ref 186 :: .int 0 :: .int 0 :: .int 0 :: .int (-1) :: .ref 187 :: .ref 188 :: .ref 189 :: .int 0 :: .ref 190 :: .ref 191 :: .ref 192 :: .ref 193 :: .ref 194 :: .int 0 :: .ref 195 :: .ref 196 :: .ref 197 :: .int 0 :: .ref 198 :: .ref 199 :: .ref 200 :: .ref 201 :: .ref 202 :: .ref 203 :: .int 0 :: .ref 204 :: .ref 205 :: .ref 206 :: .ref 207 :: .ref 208 :: .ref 209 :: .ref 210 :: .ref 211 :: .ref 212 :: .ref 213 :: .ref 214 :: .int 0 :: .ref 215 :: .ref 216 :: .int 0 :: .ref 217 :: .ref 218 :: .ref 219 :: .ref 220 :: .ref 221 :: .int 0 :: .int 0 :: .int 0 :: .int 0 :: .ref 222 :: .int 0 :: [])))] (some (.int 0)) n) := by
  refine AM.of (by decide +kernel) rfl (by decide) (fun p e s m args below meth c C hnm => ?_)
  refine ao_start ?_
  refine aw_nl [some (.ref 181), some (.int 5)] rfl ?_
  refine aw_ald_n C dX9_count_0 rfl ?_
  refine aw_iconst C 0 dX9_count_1 ki_0 ?_
  refine ao_put C [(181, .inr (9, (.int 0 :: .ref 182 :: .ref 183 :: .ref 184 :: .ref 185 :: .int 0 :: .int 0 :: .int 0 :: .ref 186 :: .int 0 :: .int 0 :: .int 0 :: .int (-1) :: .ref 187 :: .ref 188 :: .ref 189 :: .int 0 :: .ref 190 :: .ref 191 :: .ref 192 :: .ref 193 :: .ref 194 :: .int 0 :: .ref 195 :: .ref 196 :: .ref 197 :: .int 0 :: .ref 198 :: .ref 199 :: .ref 200 :: .ref 201 :: .ref 202 :: .ref 203 :: .int 0 :: .ref 204 :: .ref 205 :: .ref 206 :: .ref 207 :: .ref 208 :: .ref 209 :: .ref 210 :: .ref 211 :: .ref 212 :: .ref 213 :: .ref 214 :: .int 0 :: .ref 215 :: .ref 216 :: .int 0 :: .ref 217 :: .ref 218 :: .ref 219 :: .ref 220 :: .ref 221 :: .int 0 :: .int 0 :: .int 0 :: .int 0 :: .ref 222 :: .int 0 :: [])))] gf_X9_138 cf9 nf9_0 h181 (Nat.le_of_ble_eq_true rfl) rfl rfl dX9_count_2 rfl ?_
  refine aw_iload_n C dX9_count_5 rfl ?_
  refine aw_tabIn C (off := 105) 111 dX9_count_6 (by decide) (by decide) (by decide) (by decide) ?_
  refine aw_ald_n C dX9_count_111 rfl ?_
  refine ao_callV C (ci := 9) (b := 181) [] [(181, .inr (9, (.int 0 :: .ref 182 :: .ref 183 :: .ref 184 :: .ref 185 :: .int 0 :: .int 0 :: .int 0 :: .ref 186 :: .int 0 :: .int 0 :: .int 0 :: .int (-1) :: .ref 187 :: .ref 188 :: .ref 189 :: .int 0 :: .ref 190 :: .ref 191 :: .ref 192 :: .ref 193 :: .ref 194 :: .int 0 :: .ref 195 :: .ref 196 :: .ref 197 :: .int 0 :: .ref 198 :: .ref 199 :: .ref 200 :: .ref 201 :: .ref 202 :: .ref 203 :: .int 0 :: .ref 204 :: .ref 205 :: .ref 206 :: .ref 207 :: .ref 208 :: .ref 209 :: .ref 210 :: .ref 211 :: .ref 212 :: .ref 213 :: .ref 214 :: .int 0 :: .ref 215 :: .ref 216 :: .int 0 :: .ref 217 :: .ref 218 :: .ref 219 :: .ref 220 :: .ref 221 :: .int 0 :: .int 0 :: .int 0 :: .int 0 :: .ref 222 :: .int 0 :: [])))] mv_X9_300 rfl rfl rfl (c_X9_builtMany_639 rfl h182) rfl dX9_count_112 (Nat.le_of_ble_eq_true rfl) (Nat.le_of_ble_eq_true rfl) rfl (Nat.le_of_ble_eq_true rfl) (Nat.le_of_ble_eq_true rfl) (Nat.le_of_ble_eq_true rfl) rfl ?_
  exact aw_iret C rfl rfl dX9_count_115 (Nat.le_of_ble_eq_true rfl) (Nat.le_of_ble_eq_true rfl) ⟨rfl, rfl, rfl⟩

set_option maxHeartbeats 4000000 in
set_option maxRecDepth 100000 in
theorem c_X1_bytesInPieces_641 {X : GX} {l : Launch} {f : AH} {n : Nat} (h59 : f 59 = some (.inr (1, [.ref 60, .ref 62, .ref 74, .int 0, .ref 68, .ref 71, .ref 64, .ref 66]))) : AM X l yX1_bytesInPieces cX1_bytesInPieces 4 (some .int) 0 0 0 [.ref 59] f n (EXO f [] (some (.int 0)) n) := by
  refine AM.of (by decide +kernel) rfl (by decide) (fun p e s m args below meth c C hnm => ?_)
  refine ao_start ?_
  refine aw_nl [some (.ref 59), none, none, none] rfl ?_
  refine aw_iconst C 0 dX1_bytesInPieces_0 ki_0 ?_
  refine aw_istore_n C dX1_bytesInPieces_1 (by decide) rfl ?_
  refine aw_nl [some (.ref 59), some (.int 0), none, none] rfl ?_
  refine aw_iconst C 0 dX1_bytesInPieces_2 ki_0 ?_
  refine aw_istore_n C dX1_bytesInPieces_3 (by decide) rfl ?_
  refine aw_nl [some (.ref 59), some (.int 0), some (.int 0), none] rfl ?_
  refine aw_iload_n C dX1_bytesInPieces_4 rfl ?_
  refine aw_ald_n C dX1_bytesInPieces_5 rfl ?_
  refine aw_get C gf_X1_46 h59 rfl dX1_bytesInPieces_6 ?_
  refine aw_icmp_ge C 44 dX1_bytesInPieces_9 (by decide) (fun _ => ?_) (fun q => absurd (by decide) q)
  refine aw_iload_n C dX1_bytesInPieces_44 rfl ?_
  exact aw_iret C rfl rfl dX1_bytesInPieces_45 (Nat.le_of_ble_eq_true rfl) (Nat.le_of_ble_eq_true rfl) ⟨rfl, rfl, rfl⟩

set_option maxHeartbeats 4000000 in
set_option maxRecDepth 100000 in
theorem c_X8_count_642 {X : GX} {l : Launch} {f : AH} {n : Nat} (h0 : f 0 = some (.inr (8, [.ref 1, .ref 3, .ref 8, .ref 13, .ref 18, .ref 59, .ref 115, .ref 171, .ref 178, .int 0, .int 0, .int 0, .int 0, .int (-1)]))) (h3 : f 3 = some (.inr (7, [.ref 4, .int 0, .int (-1), .int 0, .int 1, .int 0, .null, .int 0, .ref 6, .ref 7]))) (h4 : f 4 = some (.inr (5, [.ref 5, .int 0]))) (h59 : f 59 = some (.inr (1, [.ref 60, .ref 62, .ref 74, .int 0, .ref 68, .ref 71, .ref 64, .ref 66]))) : AM X l yX8_count cX8_count 2 (some .int) 1 0 0 [.ref 0, .int 6] f n (EXO f [] (some (.int 0)) n) := by
  refine AM.of (by decide +kernel) rfl (by decide) (fun p e s m args below meth c C hnm => ?_)
  refine ao_start ?_
  refine aw_nl [some (.ref 0), some (.int 6)] rfl ?_
  refine aw_iload_n C dX8_count_0 rfl ?_
  refine aw_tabIn C (off := 129) 130 dX8_count_1 (by decide) (by decide) (by decide) (by decide) ?_
  refine aw_ald_n C dX8_count_130 rfl ?_
  refine aw_get C gf_X8_21 h0 rfl dX8_count_131 ?_
  refine aw_get C gf_X8_130 h3 rfl dX8_count_134 ?_
  refine ao_callV C (ci := 5) (b := 4) [] [] mv_X8_63 rfl rfl h4 (c_X5_size_219 h4) rfl dX8_count_137 (Nat.le_of_ble_eq_true rfl) (Nat.le_of_ble_eq_true rfl) rfl (Nat.le_of_ble_eq_true rfl) (Nat.le_of_ble_eq_true rfl) (Nat.le_of_ble_eq_true rfl) rfl ?_
  refine aw_ald_n C dX8_count_140 rfl ?_
  refine aw_get C gf_X8_38 h0 rfl dX8_count_141 ?_
  refine ao_callV C (ci := 1) (b := 59) [] [] mv_X8_293 rfl rfl h59 (c_X1_bytesInPieces_641 h59) rfl dX8_count_144 (Nat.le_of_ble_eq_true rfl) (Nat.le_of_ble_eq_true rfl) rfl (Nat.le_of_ble_eq_true rfl) (Nat.le_of_ble_eq_true rfl) (Nat.le_of_ble_eq_true rfl) rfl ?_
  refine ae_isub C 0 dX8_count_147 (by decide) ?_
  exact aw_iret C rfl rfl dX8_count_148 (Nat.le_of_ble_eq_true rfl) (Nat.le_of_ble_eq_true rfl) ⟨rfl, rfl, rfl⟩

set_option maxHeartbeats 4000000 in
set_option maxRecDepth 100000 in
theorem c_X9_skeleton_643 {X : GX} {l : Launch} {f : AH} {n : Nat} (h181 : f 181 = some (.inr (9, (.int 0 :: .ref 182 :: .ref 183 :: .ref 184 :: .ref 185 :: .int 0 :: .int 0 :: .int 0 :: .ref 186 :: .int 0 :: .int 0 :: .int 0 :: .int (-1) :: .ref 187 :: .ref 188 :: .ref 189 :: .int 0 :: .ref 190 :: .ref 191 :: .ref 192 :: .ref 193 :: .ref 194 :: .int 0 :: .ref 195 :: .ref 196 :: .ref 197 :: .int 0 :: .ref 198 :: .ref 199 :: .ref 200 :: .ref 201 :: .ref 202 :: .ref 203 :: .int 0 :: .ref 204 :: .ref 205 :: .ref 206 :: .ref 207 :: .ref 208 :: .ref 209 :: .ref 210 :: .ref 211 :: .ref 212 :: .ref 213 :: .ref 214 :: .int 0 :: .ref 215 :: .ref 216 :: .int 0 :: .ref 217 :: .ref 218 :: .ref 219 :: .ref 220 :: .ref 221 :: .int 0 :: .int 0 :: .int 0 :: .int 0 :: .ref 222 :: .int 0 :: [])))) (h182 : f 182 = some (.inl (0, 4347, .inl (tl (upd (upd (fun _ => 0) 2 (-1)) 4 1) 40)))) : AM X l yX9_skeleton cX9_skeleton 3 (some .int) 0 0 0 [.ref 181] f n (EXO f [] (some (.int 0)) n) := by
  refine AM.of (by decide +kernel) rfl (by decide) (fun p e s m args below meth c C hnm => ?_)
  refine ao_start ?_
  refine aw_nl [some (.ref 181), none, none] rfl ?_
  refine aw_ald_n C dX9_skeleton_0 rfl ?_
  refine aw_get C gf_X9_7 h181 rfl dX9_skeleton_1 ?_
  refine aw_iconst C 0 dX9_skeleton_4 ki_0 ?_
  refine ao_iald C 0 h182 (by unfold vp_in; decide) (by decide : _ = 0) rfl dX9_skeleton_5 ?_
  refine aw_istore_n C dX9_skeleton_6 (by decide) rfl ?_
  refine aw_nl [some (.ref 181), some (.int 0), none] rfl ?_
  refine aw_iconst C 0 dX9_skeleton_7 ki_0 ?_
  refine aw_istore_n C dX9_skeleton_8 (by decide) rfl ?_
  refine aw_nl [some (.ref 181), some (.int 0), some (.int 0)] rfl ?_
  refine aw_iload_n C dX9_skeleton_9 rfl ?_
  refine aw_ald_n C dX9_skeleton_10 rfl ?_
  refine aw_get C gf_X9_204 h181 rfl dX9_skeleton_11 ?_
  refine aw_icmp_ge C 39 dX9_skeleton_14 (by decide) (fun _ => ?_) (fun q => absurd (by decide) q)
  refine aw_iload_n C dX9_skeleton_39 rfl ?_
  exact aw_iret C rfl rfl dX9_skeleton_40 (Nat.le_of_ble_eq_true rfl) (Nat.le_of_ble_eq_true rfl) ⟨rfl, rfl, rfl⟩

set_option maxHeartbeats 4000000 in
set_option maxRecDepth 100000 in
theorem c_X9_count_644 {X : GX} {l : Launch} {f : AH} {n : Nat} (h181 : f 181 = some (.inr (9, (.int 0 :: .ref 182 :: .ref 183 :: .ref 184 :: .ref 185 :: .int 0 :: .int 0 :: .int 0 :: .ref 186 :: .int 0 :: .int 0 :: .int 0 :: .int (-1) :: .ref 187 :: .ref 188 :: .ref 189 :: .int 0 :: .ref 190 :: .ref 191 :: .ref 192 :: .ref 193 :: .ref 194 :: .int 0 :: .ref 195 :: .ref 196 :: .ref 197 :: .int 0 :: .ref 198 :: .ref 199 :: .ref 200 :: .ref 201 :: .ref 202 :: .ref 203 :: .int 0 :: .ref 204 :: .ref 205 :: .ref 206 :: .ref 207 :: .ref 208 :: .ref 209 :: .ref 210 :: .ref 211 :: .ref 212 :: .ref 213 :: .ref 214 :: .int 0 :: .ref 215 :: .ref 216 :: .int 0 :: .ref 217 :: .ref 218 :: .ref 219 :: .ref 220 :: .ref 221 :: .int 0 :: .int 0 :: .int 0 :: .int 0 :: .ref 222 :: .int 0 :: [])))) (h182 : f 182 = some (.inl (0, 4347, .inl (tl (upd (upd (fun _ => 0) 2 (-1)) 4 1) 40)))) : AM X l yX9_count cX9_count 2 (some .int) 1 0 0 [.ref 181, .int 6] f n (EXO f [(181, .inr (9, (.int 0 :: .ref 182 :: .ref 183 :: .ref 184 :: .ref 185 :: .int 0 :: .int 0 :: .int 0 :: .ref 186 :: .int 0 :: .int 0 :: .int 0 :: .int (-1) :: .ref 187 :: .ref 188 :: .ref 189 :: .int 0 :: .ref 190 :: .ref 191 :: .ref 192 :: .ref 193 :: .ref 194 :: .int 0 :: .ref 195 :: .ref 196 :: .ref 197 :: .int 0 :: .ref 198 :: .ref 199 :: .ref 200 :: .ref 201 :: .ref 202 :: .ref 203 :: .int 0 :: .ref 204 :: .ref 205 :: .ref 206 :: .ref 207 :: .ref 208 :: .ref 209 :: .ref 210 :: .ref 211 :: .ref 212 :: .ref 213 :: .ref 214 :: .int 0 :: .ref 215 :: .ref 216 :: .int 0 :: .ref 217 :: .ref 218 :: .ref 219 :: .ref 220 :: .ref 221 :: .int 0 :: .int 0 :: .int 0 :: .int 0 :: .ref 222 :: .int 0 :: [])))] (some (.int 0)) n) := by
  refine AM.of (by decide +kernel) rfl (by decide) (fun p e s m args below meth c C hnm => ?_)
  refine ao_start ?_
  refine aw_nl [some (.ref 181), some (.int 6)] rfl ?_
  refine aw_ald_n C dX9_count_0 rfl ?_
  refine aw_iconst C 0 dX9_count_1 ki_0 ?_
  refine ao_put C [(181, .inr (9, (.int 0 :: .ref 182 :: .ref 183 :: .ref 184 :: .ref 185 :: .int 0 :: .int 0 :: .int 0 :: .ref 186 :: .int 0 :: .int 0 :: .int 0 :: .int (-1) :: .ref 187 :: .ref 188 :: .ref 189 :: .int 0 :: .ref 190 :: .ref 191 :: .ref 192 :: .ref 193 :: .ref 194 :: .int 0 :: .ref 195 :: .ref 196 :: .ref 197 :: .int 0 :: .ref 198 :: .ref 199 :: .ref 200 :: .ref 201 :: .ref 202 :: .ref 203 :: .int 0 :: .ref 204 :: .ref 205 :: .ref 206 :: .ref 207 :: .ref 208 :: .ref 209 :: .ref 210 :: .ref 211 :: .ref 212 :: .ref 213 :: .ref 214 :: .int 0 :: .ref 215 :: .ref 216 :: .int 0 :: .ref 217 :: .ref 218 :: .ref 219 :: .ref 220 :: .ref 221 :: .int 0 :: .int 0 :: .int 0 :: .int 0 :: .ref 222 :: .int 0 :: [])))] gf_X9_138 cf9 nf9_0 h181 (Nat.le_of_ble_eq_true rfl) rfl rfl dX9_count_2 rfl ?_
  refine aw_iload_n C dX9_count_5 rfl ?_
  refine aw_tabIn C (off := 110) 116 dX9_count_6 (by decide) (by decide) (by decide) (by decide) ?_
  refine aw_ald_n C dX9_count_116 rfl ?_
  refine ao_callV C (ci := 9) (b := 181) [] [(181, .inr (9, (.int 0 :: .ref 182 :: .ref 183 :: .ref 184 :: .ref 185 :: .int 0 :: .int 0 :: .int 0 :: .ref 186 :: .int 0 :: .int 0 :: .int 0 :: .int (-1) :: .ref 187 :: .ref 188 :: .ref 189 :: .int 0 :: .ref 190 :: .ref 191 :: .ref 192 :: .ref 193 :: .ref 194 :: .int 0 :: .ref 195 :: .ref 196 :: .ref 197 :: .int 0 :: .ref 198 :: .ref 199 :: .ref 200 :: .ref 201 :: .ref 202 :: .ref 203 :: .int 0 :: .ref 204 :: .ref 205 :: .ref 206 :: .ref 207 :: .ref 208 :: .ref 209 :: .ref 210 :: .ref 211 :: .ref 212 :: .ref 213 :: .ref 214 :: .int 0 :: .ref 215 :: .ref 216 :: .int 0 :: .ref 217 :: .ref 218 :: .ref 219 :: .ref 220 :: .ref 221 :: .int 0 :: .int 0 :: .int 0 :: .int 0 :: .ref 222 :: .int 0 :: [])))] mv_X9_472 rfl rfl rfl (c_X9_skeleton_643 rfl h182) rfl dX9_count_117 (Nat.le_of_ble_eq_true rfl) (Nat.le_of_ble_eq_true rfl) rfl (Nat.le_of_ble_eq_true rfl) (Nat.le_of_ble_eq_true rfl) (Nat.le_of_ble_eq_true rfl) rfl ?_
  exact aw_iret C rfl rfl dX9_count_120 (Nat.le_of_ble_eq_true rfl) (Nat.le_of_ble_eq_true rfl) ⟨rfl, rfl, rfl⟩

set_option maxHeartbeats 4000000 in
set_option maxRecDepth 100000 in
theorem c_X8_count_645 {X : GX} {l : Launch} {f : AH} {n : Nat} (h0 : f 0 = some (.inr (8, [.ref 1, .ref 3, .ref 8, .ref 13, .ref 18, .ref 59, .ref 115, .ref 171, .ref 178, .int 0, .int 0, .int 0, .int 0, .int (-1)]))) (h3 : f 3 = some (.inr (7, [.ref 4, .int 0, .int (-1), .int 0, .int 1, .int 0, .null, .int 0, .ref 6, .ref 7]))) : AM X l yX8_count cX8_count 2 (some .int) 0 0 0 [.ref 0, .int 7] f n (EXO f [] (some (.int 0)) n) := by
  refine AM.of (by decide +kernel) rfl (by decide) (fun p e s m args below meth c C hnm => ?_)
  refine ao_start ?_
  refine aw_nl [some (.ref 0), some (.int 7)] rfl ?_
  refine aw_iload_n C dX8_count_0 rfl ?_
  refine aw_tabIn C (off := 148) 149 dX8_count_1 (by decide) (by decide) (by decide) (by decide) ?_
  refine aw_ald_n C dX8_count_149 rfl ?_
  refine aw_get C gf_X8_21 h0 rfl dX8_count_150 ?_
  refine aw_get C gf_X8_296 h3 rfl dX8_count_153 ?_
  refine aw_if_eq C 163 dX8_count_156 (by decide) (fun _ => ?_) (fun q => absurd (by decide) q)
  refine aw_iconst C 0 dX8_count_163 ki_0 ?_
  exact aw_iret C rfl rfl dX8_count_164 (Nat.le_of_ble_eq_true rfl) (Nat.le_of_ble_eq_true rfl) ⟨rfl, rfl, rfl⟩

set_option maxHeartbeats 4000000 in
set_option maxRecDepth 100000 in
theorem c_X9_count_646 {X : GX} {l : Launch} {f : AH} {n : Nat} (h181 : f 181 = some (.inr (9, (.int 0 :: .ref 182 :: .ref 183 :: .ref 184 :: .ref 185 :: .int 0 :: .int 0 :: .int 0 :: .ref 186 :: .int 0 :: .int 0 :: .int 0 :: .int (-1) :: .ref 187 :: .ref 188 :: .ref 189 :: .int 0 :: .ref 190 :: .ref 191 :: .ref 192 :: .ref 193 :: .ref 194 :: .int 0 :: .ref 195 :: .ref 196 :: .ref 197 :: .int 0 :: .ref 198 :: .ref 199 :: .ref 200 :: .ref 201 :: .ref 202 :: .ref 203 :: .int 0 :: .ref 204 :: .ref 205 :: .ref 206 :: .ref 207 :: .ref 208 :: .ref 209 :: .ref 210 :: .ref 211 :: .ref 212 :: .ref 213 :: .ref 214 :: .int 0 :: .ref 215 :: .ref 216 :: .int 0 :: .ref 217 :: .ref 218 :: .ref 219 :: .ref 220 :: .ref 221 :: .int 0 :: .int 0 :: .int 0 :: .int 0 :: .ref 222 :: .int 0 :: [])))) (h182 : f 182 = some (.inl (0, 4347, .inl (tl (upd (upd (fun _ => 0) 2 (-1)) 4 1) 40)))) : AM X l yX9_count cX9_count 2 (some .int) 0 0 0 [.ref 181, .int 7] f n (EXO f [(181, .inr (9, (.int 0 :: .ref 182 :: .ref 183 :: .ref 184 :: .ref 185 :: .int 0 :: .int 0 :: .int 0 :: .ref 186 :: .int 0 :: .int 0 :: .int 0 :: .int (-1) :: .ref 187 :: .ref 188 :: .ref 189 :: .int 0 :: .ref 190 :: .ref 191 :: .ref 192 :: .ref 193 :: .ref 194 :: .int 0 :: .ref 195 :: .ref 196 :: .ref 197 :: .int 0 :: .ref 198 :: .ref 199 :: .ref 200 :: .ref 201 :: .ref 202 :: .ref 203 :: .int 0 :: .ref 204 :: .ref 205 :: .ref 206 :: .ref 207 :: .ref 208 :: .ref 209 :: .ref 210 :: .ref 211 :: .ref 212 :: .ref 213 :: .ref 214 :: .int 0 :: .ref 215 :: .ref 216 :: .int 0 :: .ref 217 :: .ref 218 :: .ref 219 :: .ref 220 :: .ref 221 :: .int 0 :: .int 0 :: .int 0 :: .int 0 :: .ref 222 :: .int 0 :: [])))] (some (.int 0)) n) := by
  refine AM.of (by decide +kernel) rfl (by decide) (fun p e s m args below meth c C hnm => ?_)
  refine ao_start ?_
  refine aw_nl [some (.ref 181), some (.int 7)] rfl ?_
  refine aw_ald_n C dX9_count_0 rfl ?_
  refine aw_iconst C 0 dX9_count_1 ki_0 ?_
  refine ao_put C [(181, .inr (9, (.int 0 :: .ref 182 :: .ref 183 :: .ref 184 :: .ref 185 :: .int 0 :: .int 0 :: .int 0 :: .ref 186 :: .int 0 :: .int 0 :: .int 0 :: .int (-1) :: .ref 187 :: .ref 188 :: .ref 189 :: .int 0 :: .ref 190 :: .ref 191 :: .ref 192 :: .ref 193 :: .ref 194 :: .int 0 :: .ref 195 :: .ref 196 :: .ref 197 :: .int 0 :: .ref 198 :: .ref 199 :: .ref 200 :: .ref 201 :: .ref 202 :: .ref 203 :: .int 0 :: .ref 204 :: .ref 205 :: .ref 206 :: .ref 207 :: .ref 208 :: .ref 209 :: .ref 210 :: .ref 211 :: .ref 212 :: .ref 213 :: .ref 214 :: .int 0 :: .ref 215 :: .ref 216 :: .int 0 :: .ref 217 :: .ref 218 :: .ref 219 :: .ref 220 :: .ref 221 :: .int 0 :: .int 0 :: .int 0 :: .int 0 :: .ref 222 :: .int 0 :: [])))] gf_X9_138 cf9 nf9_0 h181 (Nat.le_of_ble_eq_true rfl) rfl rfl dX9_count_2 rfl ?_
  refine aw_iload_n C dX9_count_5 rfl ?_
  refine aw_tabIn C (off := 115) 121 dX9_count_6 (by decide) (by decide) (by decide) (by decide) ?_
  refine aw_ald_n C dX9_count_121 rfl ?_
  refine aw_get C gf_X9_7 rfl rfl dX9_count_122 ?_
  refine aw_iconst C 3 dX9_count_125 ki_3 ?_
  refine ao_iald C 0 h182 (by unfold vp_in; decide) (by decide : _ = 3) rfl dX9_count_126 ?_
  exact aw_iret C rfl rfl dX9_count_127 (Nat.le_of_ble_eq_true rfl) (Nat.le_of_ble_eq_true rfl) ⟨rfl, rfl, rfl⟩

set_option maxHeartbeats 4000000 in
set_option maxRecDepth 100000 in
theorem c_X8_count_647 {X : GX} {l : Launch} {f : AH} {n : Nat} (h0 : f 0 = some (.inr (8, [.ref 1, .ref 3, .ref 8, .ref 13, .ref 18, .ref 59, .ref 115, .ref 171, .ref 178, .int 0, .int 0, .int 0, .int 0, .int (-1)]))) (h3 : f 3 = some (.inr (7, [.ref 4, .int 0, .int (-1), .int 0, .int 1, .int 0, .null, .int 0, .ref 6, .ref 7]))) : AM X l yX8_count cX8_count 2 (some .int) 0 0 0 [.ref 0, .int 8] f n (EXO f [] (some (.int 1)) n) := by
  refine AM.of (by decide +kernel) rfl (by decide) (fun p e s m args below meth c C hnm => ?_)
  refine ao_start ?_
  refine aw_nl [some (.ref 0), some (.int 8)] rfl ?_
  refine aw_iload_n C dX8_count_0 rfl ?_
  refine aw_tabIn C (off := 164) 165 dX8_count_1 (by decide) (by decide) (by decide) (by decide) ?_
  refine aw_ald_n C dX8_count_165 rfl ?_
  refine aw_get C gf_X8_21 h0 rfl dX8_count_166 ?_
  refine aw_get C gf_X8_299 h3 rfl dX8_count_169 ?_
  exact aw_iret C rfl rfl dX8_count_172 (Nat.le_of_ble_eq_true rfl) (Nat.le_of_ble_eq_true rfl) ⟨rfl, rfl, rfl⟩

set_option maxHeartbeats 4000000 in
set_option maxRecDepth 100000 in
theorem c_X9_count_648 {X : GX} {l : Launch} {f : AH} {n : Nat} (h181 : f 181 = some (.inr (9, (.int 0 :: .ref 182 :: .ref 183 :: .ref 184 :: .ref 185 :: .int 0 :: .int 0 :: .int 0 :: .ref 186 :: .int 0 :: .int 0 :: .int 0 :: .int (-1) :: .ref 187 :: .ref 188 :: .ref 189 :: .int 0 :: .ref 190 :: .ref 191 :: .ref 192 :: .ref 193 :: .ref 194 :: .int 0 :: .ref 195 :: .ref 196 :: .ref 197 :: .int 0 :: .ref 198 :: .ref 199 :: .ref 200 :: .ref 201 :: .ref 202 :: .ref 203 :: .int 0 :: .ref 204 :: .ref 205 :: .ref 206 :: .ref 207 :: .ref 208 :: .ref 209 :: .ref 210 :: .ref 211 :: .ref 212 :: .ref 213 :: .ref 214 :: .int 0 :: .ref 215 :: .ref 216 :: .int 0 :: .ref 217 :: .ref 218 :: .ref 219 :: .ref 220 :: .ref 221 :: .int 0 :: .int 0 :: .int 0 :: .int 0 :: .ref 222 :: .int 0 :: [])))) (h182 : f 182 = some (.inl (0, 4347, .inl (tl (upd (upd (fun _ => 0) 2 (-1)) 4 1) 40)))) : AM X l yX9_count cX9_count 2 (some .int) 0 0 0 [.ref 181, .int 8] f n (EXO f [(181, .inr (9, (.int 0 :: .ref 182 :: .ref 183 :: .ref 184 :: .ref 185 :: .int 0 :: .int 0 :: .int 0 :: .ref 186 :: .int 0 :: .int 0 :: .int 0 :: .int (-1) :: .ref 187 :: .ref 188 :: .ref 189 :: .int 0 :: .ref 190 :: .ref 191 :: .ref 192 :: .ref 193 :: .ref 194 :: .int 0 :: .ref 195 :: .ref 196 :: .ref 197 :: .int 0 :: .ref 198 :: .ref 199 :: .ref 200 :: .ref 201 :: .ref 202 :: .ref 203 :: .int 0 :: .ref 204 :: .ref 205 :: .ref 206 :: .ref 207 :: .ref 208 :: .ref 209 :: .ref 210 :: .ref 211 :: .ref 212 :: .ref 213 :: .ref 214 :: .int 0 :: .ref 215 :: .ref 216 :: .int 0 :: .ref 217 :: .ref 218 :: .ref 219 :: .ref 220 :: .ref 221 :: .int 0 :: .int 0 :: .int 0 :: .int 0 :: .ref 222 :: .int 0 :: [])))] (some (.int 1)) n) := by
  refine AM.of (by decide +kernel) rfl (by decide) (fun p e s m args below meth c C hnm => ?_)
  refine ao_start ?_
  refine aw_nl [some (.ref 181), some (.int 8)] rfl ?_
  refine aw_ald_n C dX9_count_0 rfl ?_
  refine aw_iconst C 0 dX9_count_1 ki_0 ?_
  refine ao_put C [(181, .inr (9, (.int 0 :: .ref 182 :: .ref 183 :: .ref 184 :: .ref 185 :: .int 0 :: .int 0 :: .int 0 :: .ref 186 :: .int 0 :: .int 0 :: .int 0 :: .int (-1) :: .ref 187 :: .ref 188 :: .ref 189 :: .int 0 :: .ref 190 :: .ref 191 :: .ref 192 :: .ref 193 :: .ref 194 :: .int 0 :: .ref 195 :: .ref 196 :: .ref 197 :: .int 0 :: .ref 198 :: .ref 199 :: .ref 200 :: .ref 201 :: .ref 202 :: .ref 203 :: .int 0 :: .ref 204 :: .ref 205 :: .ref 206 :: .ref 207 :: .ref 208 :: .ref 209 :: .ref 210 :: .ref 211 :: .ref 212 :: .ref 213 :: .ref 214 :: .int 0 :: .ref 215 :: .ref 216 :: .int 0 :: .ref 217 :: .ref 218 :: .ref 219 :: .ref 220 :: .ref 221 :: .int 0 :: .int 0 :: .int 0 :: .int 0 :: .ref 222 :: .int 0 :: [])))] gf_X9_138 cf9 nf9_0 h181 (Nat.le_of_ble_eq_true rfl) rfl rfl dX9_count_2 rfl ?_
  refine aw_iload_n C dX9_count_5 rfl ?_
  refine aw_tabIn C (off := 122) 128 dX9_count_6 (by decide) (by decide) (by decide) (by decide) ?_
  refine aw_ald_n C dX9_count_128 rfl ?_
  refine aw_get C gf_X9_7 rfl rfl dX9_count_129 ?_
  refine aw_iconst C 4 dX9_count_132 ki_4 ?_
  refine ao_iald C 1 h182 (by unfold vp_in; decide) (by decide : _ = 4) rfl dX9_count_133 ?_
  exact aw_iret C rfl rfl dX9_count_134 (Nat.le_of_ble_eq_true rfl) (Nat.le_of_ble_eq_true rfl) ⟨rfl, rfl, rfl⟩

set_option maxHeartbeats 4000000 in
set_option maxRecDepth 100000 in
theorem c_X8_count_649 {X : GX} {l : Launch} {f : AH} {n : Nat} (h0 : f 0 = some (.inr (8, [.ref 1, .ref 3, .ref 8, .ref 13, .ref 18, .ref 59, .ref 115, .ref 171, .ref 178, .int 0, .int 0, .int 0, .int 0, .int (-1)]))) (h3 : f 3 = some (.inr (7, [.ref 4, .int 0, .int (-1), .int 0, .int 1, .int 0, .null, .int 0, .ref 6, .ref 7]))) : AM X l yX8_count cX8_count 2 (some .int) 0 0 0 [.ref 0, .int 9] f n (EXO f [] (some (.int 0)) n) := by
  refine AM.of (by decide +kernel) rfl (by decide) (fun p e s m args below meth c C hnm => ?_)
  refine ao_start ?_
  refine aw_nl [some (.ref 0), some (.int 9)] rfl ?_
  refine aw_iload_n C dX8_count_0 rfl ?_
  refine aw_tabIn C (off := 172) 173 dX8_count_1 (by decide) (by decide) (by decide) (by decide) ?_
  refine aw_ald_n C dX8_count_173 rfl ?_
  refine aw_get C gf_X8_21 h0 rfl dX8_count_174 ?_
  refine aw_get C gf_X8_302 h3 rfl dX8_count_177 ?_
  exact aw_iret C rfl rfl dX8_count_180 (Nat.le_of_ble_eq_true rfl) (Nat.le_of_ble_eq_true rfl) ⟨rfl, rfl, rfl⟩

set_option maxHeartbeats 4000000 in
set_option maxRecDepth 100000 in
theorem c_X9_count_650 {X : GX} {l : Launch} {f : AH} {n : Nat} (h181 : f 181 = some (.inr (9, (.int 0 :: .ref 182 :: .ref 183 :: .ref 184 :: .ref 185 :: .int 0 :: .int 0 :: .int 0 :: .ref 186 :: .int 0 :: .int 0 :: .int 0 :: .int (-1) :: .ref 187 :: .ref 188 :: .ref 189 :: .int 0 :: .ref 190 :: .ref 191 :: .ref 192 :: .ref 193 :: .ref 194 :: .int 0 :: .ref 195 :: .ref 196 :: .ref 197 :: .int 0 :: .ref 198 :: .ref 199 :: .ref 200 :: .ref 201 :: .ref 202 :: .ref 203 :: .int 0 :: .ref 204 :: .ref 205 :: .ref 206 :: .ref 207 :: .ref 208 :: .ref 209 :: .ref 210 :: .ref 211 :: .ref 212 :: .ref 213 :: .ref 214 :: .int 0 :: .ref 215 :: .ref 216 :: .int 0 :: .ref 217 :: .ref 218 :: .ref 219 :: .ref 220 :: .ref 221 :: .int 0 :: .int 0 :: .int 0 :: .int 0 :: .ref 222 :: .int 0 :: [])))) (h182 : f 182 = some (.inl (0, 4347, .inl (tl (upd (upd (fun _ => 0) 2 (-1)) 4 1) 40)))) : AM X l yX9_count cX9_count 2 (some .int) 0 0 0 [.ref 181, .int 9] f n (EXO f [(181, .inr (9, (.int 0 :: .ref 182 :: .ref 183 :: .ref 184 :: .ref 185 :: .int 0 :: .int 0 :: .int 0 :: .ref 186 :: .int 0 :: .int 0 :: .int 0 :: .int (-1) :: .ref 187 :: .ref 188 :: .ref 189 :: .int 0 :: .ref 190 :: .ref 191 :: .ref 192 :: .ref 193 :: .ref 194 :: .int 0 :: .ref 195 :: .ref 196 :: .ref 197 :: .int 0 :: .ref 198 :: .ref 199 :: .ref 200 :: .ref 201 :: .ref 202 :: .ref 203 :: .int 0 :: .ref 204 :: .ref 205 :: .ref 206 :: .ref 207 :: .ref 208 :: .ref 209 :: .ref 210 :: .ref 211 :: .ref 212 :: .ref 213 :: .ref 214 :: .int 0 :: .ref 215 :: .ref 216 :: .int 0 :: .ref 217 :: .ref 218 :: .ref 219 :: .ref 220 :: .ref 221 :: .int 0 :: .int 0 :: .int 0 :: .int 0 :: .ref 222 :: .int 0 :: [])))] (some (.int 0)) n) := by
  refine AM.of (by decide +kernel) rfl (by decide) (fun p e s m args below meth c C hnm => ?_)
  refine ao_start ?_
  refine aw_nl [some (.ref 181), some (.int 9)] rfl ?_
  refine aw_ald_n C dX9_count_0 rfl ?_
  refine aw_iconst C 0 dX9_count_1 ki_0 ?_
  refine ao_put C [(181, .inr (9, (.int 0 :: .ref 182 :: .ref 183 :: .ref 184 :: .ref 185 :: .int 0 :: .int 0 :: .int 0 :: .ref 186 :: .int 0 :: .int 0 :: .int 0 :: .int (-1) :: .ref 187 :: .ref 188 :: .ref 189 :: .int 0 :: .ref 190 :: .ref 191 :: .ref 192 :: .ref 193 :: .ref 194 :: .int 0 :: .ref 195 :: .ref 196 :: .ref 197 :: .int 0 :: .ref 198 :: .ref 199 :: .ref 200 :: .ref 201 :: .ref 202 :: .ref 203 :: .int 0 :: .ref 204 :: .ref 205 :: .ref 206 :: .ref 207 :: .ref 208 :: .ref 209 :: .ref 210 :: .ref 211 :: .ref 212 :: .ref 213 :: .ref 214 :: .int 0 :: .ref 215 :: .ref 216 :: .int 0 :: .ref 217 :: .ref 218 :: .ref 219 :: .ref 220 :: .ref 221 :: .int 0 :: .int 0 :: .int 0 :: .int 0 :: .ref 222 :: .int 0 :: [])))] gf_X9_138 cf9 nf9_0 h181 (Nat.le_of_ble_eq_true rfl) rfl rfl dX9_count_2 rfl ?_
  refine aw_iload_n C dX9_count_5 rfl ?_
  refine aw_tabIn C (off := 129) 135 dX9_count_6 (by decide) (by decide) (by decide) (by decide) ?_
  refine aw_ald_n C dX9_count_135 rfl ?_
  refine aw_get C gf_X9_7 rfl rfl dX9_count_136 ?_
  refine aw_iconst C 5 dX9_count_139 ki_5 ?_
  refine ao_iald C 0 h182 (by unfold vp_in; decide) (by decide : _ = 5) rfl dX9_count_140 ?_
  exact aw_iret C rfl rfl dX9_count_141 (Nat.le_of_ble_eq_true rfl) (Nat.le_of_ble_eq_true rfl) ⟨rfl, rfl, rfl⟩

set_option maxHeartbeats 4000000 in
set_option maxRecDepth 100000 in
theorem c_X1_unlikeCount_651 {X : GX} {l : Launch} {f : AH} {n : Nat} (h59 : f 59 = some (.inr (1, [.ref 60, .ref 62, .ref 74, .int 0, .ref 68, .ref 71, .ref 64, .ref 66]))) : AM X l yX1_unlikeCount cX1_unlikeCount 3 (some .int) 0 0 0 [.ref 59] f n (EXO f [] (some (.int 0)) n) := by
  refine AM.of (by decide +kernel) rfl (by decide) (fun p e s m args below meth c C hnm => ?_)
  refine ao_start ?_
  refine aw_nl [some (.ref 59), none, none] rfl ?_
  refine aw_iconst C 0 dX1_unlikeCount_0 ki_0 ?_
  refine aw_istore_n C dX1_unlikeCount_1 (by decide) rfl ?_
  refine aw_nl [some (.ref 59), some (.int 0), none] rfl ?_
  refine aw_iconst C 0 dX1_unlikeCount_2 ki_0 ?_
  refine aw_istore_n C dX1_unlikeCount_3 (by decide) rfl ?_
  refine aw_nl [some (.ref 59), some (.int 0), some (.int 0)] rfl ?_
  refine aw_iload_n C dX1_unlikeCount_4 rfl ?_
  refine aw_ald_n C dX1_unlikeCount_5 rfl ?_
  refine aw_get C gf_X1_46 h59 rfl dX1_unlikeCount_6 ?_
  refine aw_icmp_ge C 29 dX1_unlikeCount_9 (by decide) (fun _ => ?_) (fun q => absurd (by decide) q)
  refine aw_iload_n C dX1_unlikeCount_29 rfl ?_
  exact aw_iret C rfl rfl dX1_unlikeCount_30 (Nat.le_of_ble_eq_true rfl) (Nat.le_of_ble_eq_true rfl) ⟨rfl, rfl, rfl⟩

set_option maxHeartbeats 4000000 in
set_option maxRecDepth 100000 in
theorem c_X8_count_652 {X : GX} {l : Launch} {f : AH} {n : Nat} (h0 : f 0 = some (.inr (8, [.ref 1, .ref 3, .ref 8, .ref 13, .ref 18, .ref 59, .ref 115, .ref 171, .ref 178, .int 0, .int 0, .int 0, .int 0, .int (-1)]))) (h59 : f 59 = some (.inr (1, [.ref 60, .ref 62, .ref 74, .int 0, .ref 68, .ref 71, .ref 64, .ref 66]))) : AM X l yX8_count cX8_count 2 (some .int) 1 0 0 [.ref 0, .int 10] f n (EXO f [] (some (.int 0)) n) := by
  refine AM.of (by decide +kernel) rfl (by decide) (fun p e s m args below meth c C hnm => ?_)
  refine ao_start ?_
  refine aw_nl [some (.ref 0), some (.int 10)] rfl ?_
  refine aw_iload_n C dX8_count_0 rfl ?_
  refine aw_tabIn C (off := 180) 181 dX8_count_1 (by decide) (by decide) (by decide) (by decide) ?_
  refine aw_ald_n C dX8_count_181 rfl ?_
  refine aw_get C gf_X8_38 h0 rfl dX8_count_182 ?_
  refine ao_callV C (ci := 1) (b := 59) [] [] mv_X8_305 rfl rfl h59 (c_X1_unlikeCount_651 h59) rfl dX8_count_185 (Nat.le_of_ble_eq_true rfl) (Nat.le_of_ble_eq_true rfl) rfl (Nat.le_of_ble_eq_true rfl) (Nat.le_of_ble_eq_true rfl) (Nat.le_of_ble_eq_true rfl) rfl ?_
  exact aw_iret C rfl rfl dX8_count_188 (Nat.le_of_ble_eq_true rfl) (Nat.le_of_ble_eq_true rfl) ⟨rfl, rfl, rfl⟩

set_option maxHeartbeats 4000000 in
set_option maxRecDepth 100000 in
theorem c_X9_unlikeTexts_653 {X : GX} {l : Launch} {f : AH} {n : Nat} (h181 : f 181 = some (.inr (9, (.int 0 :: .ref 182 :: .ref 183 :: .ref 184 :: .ref 185 :: .int 0 :: .int 0 :: .int 0 :: .ref 186 :: .int 0 :: .int 0 :: .int 0 :: .int (-1) :: .ref 187 :: .ref 188 :: .ref 189 :: .int 0 :: .ref 190 :: .ref 191 :: .ref 192 :: .ref 193 :: .ref 194 :: .int 0 :: .ref 195 :: .ref 196 :: .ref 197 :: .int 0 :: .ref 198 :: .ref 199 :: .ref 200 :: .ref 201 :: .ref 202 :: .ref 203 :: .int 0 :: .ref 204 :: .ref 205 :: .ref 206 :: .ref 207 :: .ref 208 :: .ref 209 :: .ref 210 :: .ref 211 :: .ref 212 :: .ref 213 :: .ref 214 :: .int 0 :: .ref 215 :: .ref 216 :: .int 0 :: .ref 217 :: .ref 218 :: .ref 219 :: .ref 220 :: .ref 221 :: .int 0 :: .int 0 :: .int 0 :: .int 0 :: .ref 222 :: .int 0 :: [])))) : AM X l yX9_unlikeTexts cX9_unlikeTexts 5 (some .int) 0 0 0 [.ref 181] f n (EXO f [] (some (.int 0)) n) := by
  refine AM.of (by decide +kernel) rfl (by decide) (fun p e s m args below meth c C hnm => ?_)
  refine ao_start ?_
  refine aw_nl [some (.ref 181), none, none, none, none] rfl ?_
  refine aw_iconst C 0 dX9_unlikeTexts_0 ki_0 ?_
  refine aw_istore_n C dX9_unlikeTexts_1 (by decide) rfl ?_
  refine aw_nl [some (.ref 181), some (.int 0), none, none, none] rfl ?_
  refine aw_iconst C 0 dX9_unlikeTexts_2 ki_0 ?_
  refine aw_istore_n C dX9_unlikeTexts_3 (by decide) rfl ?_
  refine aw_nl [some (.ref 181), some (.int 0), some (.int 0), none, none] rfl ?_
  refine aw_iload_n C dX9_unlikeTexts_4 rfl ?_
  refine aw_ald_n C dX9_unlikeTexts_5 rfl ?_
  refine aw_get C gf_X9_204 h181 rfl dX9_unlikeTexts_6 ?_
  refine aw_icmp_ge C 67 dX9_unlikeTexts_9 (by decide) (fun _ => ?_) (fun q => absurd (by decide) q)
  refine aw_iload_n C dX9_unlikeTexts_67 rfl ?_
  exact aw_iret C rfl rfl dX9_unlikeTexts_68 (Nat.le_of_ble_eq_true rfl) (Nat.le_of_ble_eq_true rfl) ⟨rfl, rfl, rfl⟩

set_option maxHeartbeats 4000000 in
set_option maxRecDepth 100000 in
theorem c_X9_count_654 {X : GX} {l : Launch} {f : AH} {n : Nat} (h181 : f 181 = some (.inr (9, (.int 0 :: .ref 182 :: .ref 183 :: .ref 184 :: .ref 185 :: .int 0 :: .int 0 :: .int 0 :: .ref 186 :: .int 0 :: .int 0 :: .int 0 :: .int (-1) :: .ref 187 :: .ref 188 :: .ref 189 :: .int 0 :: .ref 190 :: .ref 191 :: .ref 192 :: .ref 193 :: .ref 194 :: .int 0 :: .ref 195 :: .ref 196 :: .ref 197 :: .int 0 :: .ref 198 :: .ref 199 :: .ref 200 :: .ref 201 :: .ref 202 :: .ref 203 :: .int 0 :: .ref 204 :: .ref 205 :: .ref 206 :: .ref 207 :: .ref 208 :: .ref 209 :: .ref 210 :: .ref 211 :: .ref 212 :: .ref 213 :: .ref 214 :: .int 0 :: .ref 215 :: .ref 216 :: .int 0 :: .ref 217 :: .ref 218 :: .ref 219 :: .ref 220 :: .ref 221 :: .int 0 :: .int 0 :: .int 0 :: .int 0 :: .ref 222 :: .int 0 :: [])))) : AM X l yX9_count cX9_count 2 (some .int) 1 0 0 [.ref 181, .int 10] f n (EXO f [(181, .inr (9, (.int 0 :: .ref 182 :: .ref 183 :: .ref 184 :: .ref 185 :: .int 0 :: .int 0 :: .int 0 :: .ref 186 :: .int 0 :: .int 0 :: .int 0 :: .int (-1) :: .ref 187 :: .ref 188 :: .ref 189 :: .int 0 :: .ref 190 :: .ref 191 :: .ref 192 :: .ref 193 :: .ref 194 :: .int 0 :: .ref 195 :: .ref 196 :: .ref 197 :: .int 0 :: .ref 198 :: .ref 199 :: .ref 200 :: .ref 201 :: .ref 202 :: .ref 203 :: .int 0 :: .ref 204 :: .ref 205 :: .ref 206 :: .ref 207 :: .ref 208 :: .ref 209 :: .ref 210 :: .ref 211 :: .ref 212 :: .ref 213 :: .ref 214 :: .int 0 :: .ref 215 :: .ref 216 :: .int 0 :: .ref 217 :: .ref 218 :: .ref 219 :: .ref 220 :: .ref 221 :: .int 0 :: .int 0 :: .int 0 :: .int 0 :: .ref 222 :: .int 0 :: [])))] (some (.int 0)) n) := by
  refine AM.of (by decide +kernel) rfl (by decide) (fun p e s m args below meth c C hnm => ?_)
  refine ao_start ?_
  refine aw_nl [some (.ref 181), some (.int 10)] rfl ?_
  refine aw_ald_n C dX9_count_0 rfl ?_
  refine aw_iconst C 0 dX9_count_1 ki_0 ?_
  refine ao_put C [(181, .inr (9, (.int 0 :: .ref 182 :: .ref 183 :: .ref 184 :: .ref 185 :: .int 0 :: .int 0 :: .int 0 :: .ref 186 :: .int 0 :: .int 0 :: .int 0 :: .int (-1) :: .ref 187 :: .ref 188 :: .ref 189 :: .int 0 :: .ref 190 :: .ref 191 :: .ref 192 :: .ref 193 :: .ref 194 :: .int 0 :: .ref 195 :: .ref 196 :: .ref 197 :: .int 0 :: .ref 198 :: .ref 199 :: .ref 200 :: .ref 201 :: .ref 202 :: .ref 203 :: .int 0 :: .ref 204 :: .ref 205 :: .ref 206 :: .ref 207 :: .ref 208 :: .ref 209 :: .ref 210 :: .ref 211 :: .ref 212 :: .ref 213 :: .ref 214 :: .int 0 :: .ref 215 :: .ref 216 :: .int 0 :: .ref 217 :: .ref 218 :: .ref 219 :: .ref 220 :: .ref 221 :: .int 0 :: .int 0 :: .int 0 :: .int 0 :: .ref 222 :: .int 0 :: [])))] gf_X9_138 cf9 nf9_0 h181 (Nat.le_of_ble_eq_true rfl) rfl rfl dX9_count_2 rfl ?_
  refine aw_iload_n C dX9_count_5 rfl ?_
  refine aw_tabIn C (off := 136) 142 dX9_count_6 (by decide) (by decide) (by decide) (by decide) ?_
  refine aw_ald_n C dX9_count_142 rfl ?_
  refine ao_callV C (ci := 9) (b := 181) [] [(181, .inr (9, (.int 0 :: .ref 182 :: .ref 183 :: .ref 184 :: .ref 185 :: .int 0 :: .int 0 :: .int 0 :: .ref 186 :: .int 0 :: .int 0 :: .int 0 :: .int (-1) :: .ref 187 :: .ref 188 :: .ref 189 :: .int 0 :: .ref 190 :: .ref 191 :: .ref 192 :: .ref 193 :: .ref 194 :: .int 0 :: .ref 195 :: .ref 196 :: .ref 197 :: .int 0 :: .ref 198 :: .ref 199 :: .ref 200 :: .ref 201 :: .ref 202 :: .ref 203 :: .int 0 :: .ref 204 :: .ref 205 :: .ref 206 :: .ref 207 :: .ref 208 :: .ref 209 :: .ref 210 :: .ref 211 :: .ref 212 :: .ref 213 :: .ref 214 :: .int 0 :: .ref 215 :: .ref 216 :: .int 0 :: .ref 217 :: .ref 218 :: .ref 219 :: .ref 220 :: .ref 221 :: .int 0 :: .int 0 :: .int 0 :: .int 0 :: .ref 222 :: .int 0 :: [])))] mv_X9_475 rfl rfl rfl (c_X9_unlikeTexts_653 rfl) rfl dX9_count_143 (Nat.le_of_ble_eq_true rfl) (Nat.le_of_ble_eq_true rfl) rfl (Nat.le_of_ble_eq_true rfl) (Nat.le_of_ble_eq_true rfl) (Nat.le_of_ble_eq_true rfl) rfl ?_
  exact aw_iret C rfl rfl dX9_count_146 (Nat.le_of_ble_eq_true rfl) (Nat.le_of_ble_eq_true rfl) ⟨rfl, rfl, rfl⟩

set_option maxHeartbeats 4000000 in
set_option maxRecDepth 100000 in
theorem c_X8_countAllWords_655 {X : GX} {l : Launch} {f : AH} {n : Nat} (h0 : f 0 = some (.inr (8, [.ref 1, .ref 3, .ref 8, .ref 13, .ref 18, .ref 59, .ref 115, .ref 171, .ref 178, .int 0, .int 0, .int 0, .int 0, .int (-1)]))) (h59 : f 59 = some (.inr (1, [.ref 60, .ref 62, .ref 74, .int 0, .ref 68, .ref 71, .ref 64, .ref 66]))) : AM X l yX8_countAllWords cX8_countAllWords 4 (some .int) 1 0 0 [.ref 0] f n (EXO f [] (some (.int 0)) n) := by
  refine AM.of (by decide +kernel) rfl (by decide) (fun p e s m args below meth c C hnm => ?_)
  refine ao_start ?_
  refine aw_nl [some (.ref 0), none, none, none] rfl ?_
  refine aw_iconst C 0 dX8_countAllWords_0 ki_0 ?_
  refine aw_istore_n C dX8_countAllWords_1 (by decide) rfl ?_
  refine aw_nl [some (.ref 0), some (.int 0), none, none] rfl ?_
  refine aw_iconst C 0 dX8_countAllWords_2 ki_0 ?_
  refine aw_istore_n C dX8_countAllWords_3 (by decide) rfl ?_
  refine aw_nl [some (.ref 0), some (.int 0), some (.int 0), none] rfl ?_
  refine aw_iload_n C dX8_countAllWords_4 rfl ?_
  refine aw_ald_n C dX8_countAllWords_5 rfl ?_
  refine aw_get C gf_X8_38 h0 rfl dX8_countAllWords_6 ?_
  refine ao_callV C (ci := 1) (b := 59) [] [] mv_X8_136 rfl rfl h59 (c_X1_size_192 h59) rfl dX8_countAllWords_9 (Nat.le_of_ble_eq_true rfl) (Nat.le_of_ble_eq_true rfl) rfl (Nat.le_of_ble_eq_true rfl) (Nat.le_of_ble_eq_true rfl) (Nat.le_of_ble_eq_true rfl) rfl ?_
  refine aw_icmp_ge C 43 dX8_countAllWords_12 (by decide) (fun _ => ?_) (fun q => absurd (by decide) q)
  refine aw_iload_n C dX8_countAllWords_43 rfl ?_
  exact aw_iret C rfl rfl dX8_countAllWords_44 (Nat.le_of_ble_eq_true rfl) (Nat.le_of_ble_eq_true rfl) ⟨rfl, rfl, rfl⟩

set_option maxHeartbeats 4000000 in
set_option maxRecDepth 100000 in
theorem c_X8_count_656 {X : GX} {l : Launch} {f : AH} {n : Nat} (h0 : f 0 = some (.inr (8, [.ref 1, .ref 3, .ref 8, .ref 13, .ref 18, .ref 59, .ref 115, .ref 171, .ref 178, .int 0, .int 0, .int 0, .int 0, .int (-1)]))) (h59 : f 59 = some (.inr (1, [.ref 60, .ref 62, .ref 74, .int 0, .ref 68, .ref 71, .ref 64, .ref 66]))) : AM X l yX8_count cX8_count 2 (some .int) 2 0 0 [.ref 0, .int 11] f n (EXO f [] (some (.int 0)) n) := by
  refine AM.of (by decide +kernel) rfl (by decide) (fun p e s m args below meth c C hnm => ?_)
  refine ao_start ?_
  refine aw_nl [some (.ref 0), some (.int 11)] rfl ?_
  refine aw_iload_n C dX8_count_0 rfl ?_
  refine aw_tabIn C (off := 188) 189 dX8_count_1 (by decide) (by decide) (by decide) (by decide) ?_
  refine aw_ald_n C dX8_count_189 rfl ?_
  refine ao_callV C (ci := 8) (b := 0) [] [] mv_X8_308 rfl rfl h0 (c_X8_countAllWords_655 h0 h59) rfl dX8_count_190 (Nat.le_of_ble_eq_true rfl) (Nat.le_of_ble_eq_true rfl) rfl (Nat.le_of_ble_eq_true rfl) (Nat.le_of_ble_eq_true rfl) (Nat.le_of_ble_eq_true rfl) rfl ?_
  exact aw_iret C rfl rfl dX8_count_193 (Nat.le_of_ble_eq_true rfl) (Nat.le_of_ble_eq_true rfl) ⟨rfl, rfl, rfl⟩

