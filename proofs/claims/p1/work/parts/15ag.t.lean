set_option maxHeartbeats 4000000 in
set_option maxRecDepth 100000 in
theorem c_X9_kind_291 {X : GX} {l : Launch} {f : AH} {n : Nat} (h181 : f 181 = some (.inr (9, (.int 0 :: .ref 182 :: .ref 183 :: .ref 184 :: .ref 185 :: .int 0 :: .int 0 :: .int 0 :: .ref 186 :: .int 0 :: .int 0 :: .int 0 :: .int (-1) :: .ref 187 :: .ref 188 :: .ref 189 :: .int 0 :: .ref 190 :: .ref 191 :: .ref 192 :: .ref 193 :: .ref 194 :: .int 0 :: .ref 195 :: .ref 196 :: .ref 197 :: .int 0 :: .ref 198 :: .ref 199 :: .ref 200 :: .ref 201 :: .ref 202 :: .ref 203 :: .int 0 :: .ref 204 :: .ref 205 :: .ref 206 :: .ref 207 :: .ref 208 :: .ref 209 :: .ref 210 :: .ref 211 :: .ref 212 :: .ref 213 :: .ref 214 :: .int 0 :: .ref 215 :: .ref 216 :: .int 0 :: .ref 217 :: .ref 218 :: .ref 219 :: .ref 220 :: .ref 221 :: .int 0 :: .int 0 :: .int 0 :: .int 0 :: .ref 222 :: .int 0 :: [])))) (h183 : f 183 = some (.inl (0, 4347, .inl (fun _ => 0)))) (h182 : f 182 = some (.inl (0, 4347, .inl (tl (upd (upd (fun _ => 0) 2 (-1)) 4 1) 40)))) (h185 : f 185 = some (.inl (0, 34776, .inl (fun _ => 0)))) : AM X l yX9_kind cX9_kind 3 (some .int) 6 0 0 [.ref 181, .int 1, .int 1] f n (EXO f [(181, .inr (9, (.int 0 :: .ref 182 :: .ref 183 :: .ref 184 :: .ref 185 :: .int 1 :: .int 0 :: .int 0 :: .ref 186 :: .int 0 :: .int 0 :: .int 0 :: .int (-1) :: .ref 187 :: .ref 188 :: .ref 189 :: .int 0 :: .ref 190 :: .ref 191 :: .ref 192 :: .ref 193 :: .ref 194 :: .int 0 :: .ref 195 :: .ref 196 :: .ref 197 :: .int 0 :: .ref 198 :: .ref 199 :: .ref 200 :: .ref 201 :: .ref 202 :: .ref 203 :: .int 0 :: .ref 204 :: .ref 205 :: .ref 206 :: .ref 207 :: .ref 208 :: .ref 209 :: .ref 210 :: .ref 211 :: .ref 212 :: .ref 213 :: .ref 214 :: .int 0 :: .ref 215 :: .ref 216 :: .int 0 :: .ref 217 :: .ref 218 :: .ref 219 :: .ref 220 :: .ref 221 :: .int 0 :: .int 0 :: .int 0 :: .int 0 :: .ref 222 :: .int 0 :: []))), (183, .inl (0, 4347, .inl (cpy (tl (upd (upd (fun _ => 0) 2 (-1)) 4 1) 40) (fun _ => 0) 4347))), (182, .inl (0, 4347, .inl (tl (upd (tl (upd (upd (fun _ => 0) 2 (-1)) 4 1) 40) 2 1) 40))), (185, .inl (0, 34776, .inl (cpy (cpy (tl (upd (upd (fun _ => 0) 2 (-1)) 4 1) 40) (fun _ => 0) 4347) (fun _ => 0) 4347)))] (some (.int 0)) n) := by
  refine AM.of (by decide +kernel) rfl (by decide) (fun p e s m args below meth c C hnm => ?_)
  refine ao_start ?_
  refine aw_nl [some (.ref 181), some (.int 1), some (.int 1)] rfl ?_
  refine aw_ald_n C dX9_kind_0 rfl ?_
  refine aw_iload_n C dX9_kind_1 rfl ?_
  refine aw_iload_n C dX9_kind_2 rfl ?_
  refine aw_if_eq C 10 dX9_kind_3 (by decide) (fun q => absurd q (by decide)) (fun _ => ?_)
  refine aw_iconst C (-1) dX9_kind_6 ki_m1 ?_
  refine aw_goto C 11 dX9_kind_7 (by decide) ?_
  refine aw_iconst C 3 dX9_kind_11 ki_3 ?_
  refine ao_callS C [.int 1, .int (-1), .int 3] [] ms_X9_141 (c_X9_isIn_286) rfl dX9_kind_12 (Nat.le_of_ble_eq_true rfl) (Nat.le_of_ble_eq_true rfl) rfl (Nat.le_of_ble_eq_true rfl) (Nat.le_of_ble_eq_true rfl) (Nat.le_of_ble_eq_true rfl) rfl ?_
  refine aw_if_eq C 22 dX9_kind_15 (by decide) (fun q => absurd q (by decide)) (fun _ => ?_)
  refine aw_iconst C 0 dX9_kind_18 ki_0 ?_
  refine aw_goto C 23 dX9_kind_19 (by decide) ?_
  refine ao_put C [(181, .inr (9, (.int 0 :: .ref 182 :: .ref 183 :: .ref 184 :: .ref 185 :: .int 0 :: .int 0 :: .int 0 :: .ref 186 :: .int 0 :: .int 0 :: .int 0 :: .int (-1) :: .ref 187 :: .ref 188 :: .ref 189 :: .int 0 :: .ref 190 :: .ref 191 :: .ref 192 :: .ref 193 :: .ref 194 :: .int 0 :: .ref 195 :: .ref 196 :: .ref 197 :: .int 0 :: .ref 198 :: .ref 199 :: .ref 200 :: .ref 201 :: .ref 202 :: .ref 203 :: .int 0 :: .ref 204 :: .ref 205 :: .ref 206 :: .ref 207 :: .ref 208 :: .ref 209 :: .ref 210 :: .ref 211 :: .ref 212 :: .ref 213 :: .ref 214 :: .int 0 :: .ref 215 :: .ref 216 :: .int 0 :: .ref 217 :: .ref 218 :: .ref 219 :: .ref 220 :: .ref 221 :: .int 0 :: .int 0 :: .int 0 :: .int 0 :: .ref 222 :: .int 0 :: [])))] gf_X9_138 cf9 nf9_0 h181 (Nat.le_of_ble_eq_true rfl) rfl rfl dX9_kind_23 rfl ?_
  refine aw_ald_n C dX9_kind_26 rfl ?_
  refine aw_get C gf_X9_138 rfl rfl dX9_kind_27 ?_
  refine aw_if_le C 35 dX9_kind_30 (by decide) (fun _ => ?_) (fun q => absurd (by decide) q)
  refine aw_ald_n C dX9_kind_35 rfl ?_
  refine ao_callV C (ci := 9) (b := 181) [] [(181, .inr (9, (.int 0 :: .ref 182 :: .ref 183 :: .ref 184 :: .ref 185 :: .int 0 :: .int 0 :: .int 0 :: .ref 186 :: .int 0 :: .int 0 :: .int 0 :: .int (-1) :: .ref 187 :: .ref 188 :: .ref 189 :: .int 0 :: .ref 190 :: .ref 191 :: .ref 192 :: .ref 193 :: .ref 194 :: .int 0 :: .ref 195 :: .ref 196 :: .ref 197 :: .int 0 :: .ref 198 :: .ref 199 :: .ref 200 :: .ref 201 :: .ref 202 :: .ref 203 :: .int 0 :: .ref 204 :: .ref 205 :: .ref 206 :: .ref 207 :: .ref 208 :: .ref 209 :: .ref 210 :: .ref 211 :: .ref 212 :: .ref 213 :: .ref 214 :: .int 0 :: .ref 215 :: .ref 216 :: .int 0 :: .ref 217 :: .ref 218 :: .ref 219 :: .ref 220 :: .ref 221 :: .int 0 :: .int 0 :: .int 0 :: .int 0 :: .ref 222 :: .int 0 :: []))), (183, .inl (0, 4347, .inl (cpy (tl (upd (upd (fun _ => 0) 2 (-1)) 4 1) 40) (fun _ => 0) 4347)))] mv_X9_420 rfl rfl rfl (c_X9_putsAside_173 rfl h183 h182) rfl dX9_kind_36 (Nat.le_of_ble_eq_true rfl) (Nat.le_of_ble_eq_true rfl) rfl (Nat.le_of_ble_eq_true rfl) (Nat.le_of_ble_eq_true rfl) (Nat.le_of_ble_eq_true rfl) rfl ?_
  refine aw_ald_n C dX9_kind_39 rfl ?_
  refine aw_ald_n C dX9_kind_40 rfl ?_
  refine aw_iload_n C dX9_kind_41 rfl ?_
  refine aw_if_eq C 49 dX9_kind_42 (by decide) (fun q => absurd q (by decide)) (fun _ => ?_)
  refine aw_iconst C 2 dX9_kind_45 ki_2 ?_
  refine aw_goto C 50 dX9_kind_46 (by decide) ?_
  refine aw_iload_n C dX9_kind_50 rfl ?_
  refine ao_callV C (ci := 9) (b := 181) [.int 2, .int 1] [(181, .inr (9, (.int 0 :: .ref 182 :: .ref 183 :: .ref 184 :: .ref 185 :: .int 0 :: .int 0 :: .int 0 :: .ref 186 :: .int 0 :: .int 0 :: .int 0 :: .int (-1) :: .ref 187 :: .ref 188 :: .ref 189 :: .int 0 :: .ref 190 :: .ref 191 :: .ref 192 :: .ref 193 :: .ref 194 :: .int 0 :: .ref 195 :: .ref 196 :: .ref 197 :: .int 0 :: .ref 198 :: .ref 199 :: .ref 200 :: .ref 201 :: .ref 202 :: .ref 203 :: .int 0 :: .ref 204 :: .ref 205 :: .ref 206 :: .ref 207 :: .ref 208 :: .ref 209 :: .ref 210 :: .ref 211 :: .ref 212 :: .ref 213 :: .ref 214 :: .int 0 :: .ref 215 :: .ref 216 :: .int 0 :: .ref 217 :: .ref 218 :: .ref 219 :: .ref 220 :: .ref 221 :: .int 0 :: .int 0 :: .int 0 :: .int 0 :: .ref 222 :: .int 0 :: []))), (183, .inl (0, 4347, .inl (cpy (tl (upd (upd (fun _ => 0) 2 (-1)) 4 1) 40) (fun _ => 0) 4347))), (182, .inl (0, 4347, .inl (tl (upd (tl (upd (upd (fun _ => 0) 2 (-1)) 4 1) 40) 2 1) 40)))] mv_X9_361 rfl rfl rfl (c_X9_rules_290 rfl h182) rfl dX9_kind_51 (Nat.le_of_ble_eq_true rfl) (Nat.le_of_ble_eq_true rfl) rfl (Nat.le_of_ble_eq_true rfl) (Nat.le_of_ble_eq_true rfl) (Nat.le_of_ble_eq_true rfl) rfl ?_
  refine aw_iconst C 0 dX9_kind_54 ki_0 ?_
  refine ao_callV C (ci := 9) (b := 181) [.int 0, .int 0] [(181, .inr (9, (.int 0 :: .ref 182 :: .ref 183 :: .ref 184 :: .ref 185 :: .int 1 :: .int 0 :: .int 0 :: .ref 186 :: .int 0 :: .int 0 :: .int 0 :: .int (-1) :: .ref 187 :: .ref 188 :: .ref 189 :: .int 0 :: .ref 190 :: .ref 191 :: .ref 192 :: .ref 193 :: .ref 194 :: .int 0 :: .ref 195 :: .ref 196 :: .ref 197 :: .int 0 :: .ref 198 :: .ref 199 :: .ref 200 :: .ref 201 :: .ref 202 :: .ref 203 :: .int 0 :: .ref 204 :: .ref 205 :: .ref 206 :: .ref 207 :: .ref 208 :: .ref 209 :: .ref 210 :: .ref 211 :: .ref 212 :: .ref 213 :: .ref 214 :: .int 0 :: .ref 215 :: .ref 216 :: .int 0 :: .ref 217 :: .ref 218 :: .ref 219 :: .ref 220 :: .ref 221 :: .int 0 :: .int 0 :: .int 0 :: .int 0 :: .ref 222 :: .int 0 :: []))), (183, .inl (0, 4347, .inl (cpy (tl (upd (upd (fun _ => 0) 2 (-1)) 4 1) 40) (fun _ => 0) 4347))), (182, .inl (0, 4347, .inl (tl (upd (tl (upd (upd (fun _ => 0) 2 (-1)) 4 1) 40) 2 1) 40))), (185, .inl (0, 34776, .inl (cpy (cpy (tl (upd (upd (fun _ => 0) 2 (-1)) 4 1) 40) (fun _ => 0) 4347) (fun _ => 0) 4347)))] mv_X9_429 rfl rfl rfl (c_X9_isDone_237 rfl h185 rfl) rfl dX9_kind_55 (Nat.le_of_ble_eq_true rfl) (Nat.le_of_ble_eq_true rfl) rfl (Nat.le_of_ble_eq_true rfl) (Nat.le_of_ble_eq_true rfl) (Nat.le_of_ble_eq_true rfl) rfl ?_
  refine aw_if_eq C 68 dX9_kind_58 (by decide) (fun q => absurd q (by decide)) (fun _ => ?_)
  refine aw_ald_n C dX9_kind_61 rfl ?_
  refine aw_get C gf_X9_204 rfl rfl dX9_kind_62 ?_
  refine aw_goto C 69 dX9_kind_65 (by decide) ?_
  exact aw_iret C rfl rfl dX9_kind_69 (Nat.le_of_ble_eq_true rfl) (Nat.le_of_ble_eq_true rfl) ⟨rfl, rfl, rfl⟩

set_option maxHeartbeats 4000000 in
set_option maxRecDepth 100000 in
theorem c_X7_forgetTold_292 {X : GX} {l : Launch} {f : AH} {n : Nat} (h3 : f 3 = some (.inr (7, [.ref 4, .int 2, .int (-1), .int 0, .int 1, .int 0, .null, .int 0, .ref 6, .ref 7]))) (h7 : f 7 = some (.inl (2, 40, .inr (.inr (fun _ => none))))) : AM X l yX7_forgetTold cX7_forgetTold 2 none 0 0 0 [.ref 3] f n (EXO f [] none n) := by
  refine AM.of (by decide +kernel) rfl (by decide) (fun p e s m args below meth c C hnm => ?_)
  refine ao_start ?_
  refine aw_nl [some (.ref 3), none] rfl ?_
  refine aw_iconst C 0 dX7_forgetTold_0 ki_0 ?_
  refine aw_istore_n C dX7_forgetTold_1 (by decide) rfl ?_
  refine aw_nl [some (.ref 3), some (.int 0)] rfl ?_
  refine lz_forget C (f := ovl f []) (S := 3) (a := 7) (fs := [.ref 4, .int 2, .int (-1), .int 0, .int 1, .int 0, .null, .int 0, .ref 6, .ref 7]) h3 rfl h7 ?_ 40 0 rfl
  exact aw_vret C rfl dX7_forgetTold_24 (Nat.le_of_ble_eq_true rfl) (Nat.le_of_ble_eq_true rfl) ⟨rfl, rfl, rfl⟩

set_option maxHeartbeats 4000000 in
set_option maxRecDepth 100000 in
theorem c_X6_start_293 {X : GX} {l : Launch} {f : AH} {n : Nat} (h68 : f 68 = some (.inr (6, [.ref 69, .int 0, .int 0, .int 0, .int 0, .int 0, .int 0, .int 0, .int 0, .int 0]))) : AM X l yX6_start cX6_start 3 none 0 0 0 [.ref 68, .ref 4, .int 2] f n (EXO f [(68, .inr (6, [.ref 4, .int 0, .int 0, .int 0, .int 0, .int 0, .int 0, .int 0, .int 2, .int 0]))] none n) := by
  refine AM.of (by decide +kernel) rfl (by decide) (fun p e s m args below meth c C hnm => ?_)
  refine ao_start ?_
  refine aw_nl [some (.ref 68), some (.ref 4), some (.int 2)] rfl ?_
  refine aw_ald_n C dX6_start_0 rfl ?_
  refine aw_ald_n C dX6_start_1 rfl ?_
  refine ao_put C [(68, .inr (6, [.ref 4, .int 0, .int 0, .int 0, .int 0, .int 0, .int 0, .int 0, .int 0, .int 0]))] gf_X6_14 cf6 nf6_0 h68 (Nat.le_of_ble_eq_true rfl) rfl rfl dX6_start_2 rfl ?_
  refine aw_ald_n C dX6_start_5 rfl ?_
  refine aw_iload_n C dX6_start_6 rfl ?_
  refine ao_put C [(68, .inr (6, [.ref 4, .int 0, .int 0, .int 0, .int 0, .int 0, .int 0, .int 0, .int 2, .int 0]))] gf_X6_20 cf6 nf6_8 rfl (Nat.le_of_ble_eq_true rfl) rfl rfl dX6_start_7 rfl ?_
  refine aw_ald_n C dX6_start_10 rfl ?_
  refine aw_iconst C 0 dX6_start_11 ki_0 ?_
  refine ao_put C [(68, .inr (6, [.ref 4, .int 0, .int 0, .int 0, .int 0, .int 0, .int 0, .int 0, .int 2, .int 0]))] gf_X6_24 cf6 nf6_9 rfl (Nat.le_of_ble_eq_true rfl) rfl rfl dX6_start_12 rfl ?_
  refine aw_ald_n C dX6_start_15 rfl ?_
  refine aw_iconst C 0 dX6_start_16 ki_0 ?_
  refine ao_put C [(68, .inr (6, [.ref 4, .int 0, .int 0, .int 0, .int 0, .int 0, .int 0, .int 0, .int 2, .int 0]))] gf_X6_27 cf6 nf6_3 rfl (Nat.le_of_ble_eq_true rfl) (by decide) (by decide) dX6_start_17 rfl ?_
  refine aw_ald_n C dX6_start_20 rfl ?_
  refine aw_iconst C 0 dX6_start_21 ki_0 ?_
  refine ao_put C [(68, .inr (6, [.ref 4, .int 0, .int 0, .int 0, .int 0, .int 0, .int 0, .int 0, .int 2, .int 0]))] gf_X6_31 cf6 nf6_4 rfl (Nat.le_of_ble_eq_true rfl) rfl rfl dX6_start_22 rfl ?_
  refine aw_ald_n C dX6_start_25 rfl ?_
  refine aw_iconst C 0 dX6_start_26 ki_0 ?_
  refine ao_put C [(68, .inr (6, [.ref 4, .int 0, .int 0, .int 0, .int 0, .int 0, .int 0, .int 0, .int 2, .int 0]))] gf_X6_34 cf6 nf6_5 rfl (Nat.le_of_ble_eq_true rfl) rfl rfl dX6_start_27 rfl ?_
  exact aw_vret C rfl dX6_start_30 (Nat.le_of_ble_eq_true rfl) (Nat.le_of_ble_eq_true rfl) ⟨rfl, rfl, rfl⟩

set_option maxHeartbeats 4000000 in
set_option maxRecDepth 100000 in
theorem c_X6_next_294 {X : GX} {l : Launch} {f : AH} {n : Nat} (h68 : f 68 = some (.inr (6, [.ref 4, .int 0, .int 0, .int 0, .int 0, .int 0, .int 0, .int 0, .int 2, .int 0]))) (h4 : f 4 = some (.inr (5, [.ref 5, .int 0]))) : AM X l yX6_next cX6_next 2 (some .boolean) 1 0 0 [.ref 68] f n (EXO f [] (some (.int 0)) n) := by
  refine AM.of (by decide +kernel) rfl (by decide) (fun p e s m args below meth c C hnm => ?_)
  refine ao_start ?_
  refine aw_nl [some (.ref 68), none] rfl ?_
  refine aw_iconst C 0 dX6_next_0 ki_0 ?_
  refine aw_istore_n C dX6_next_1 (by decide) rfl ?_
  refine aw_nl [some (.ref 68), some (.int 0)] rfl ?_
  refine aw_iload_n C dX6_next_2 rfl ?_
  refine aw_sipush C 600 dX6_next_3 ks_600 ?_
  refine aw_icmp_gt C 96 dX6_next_6 (by decide) (fun q => absurd q (by decide)) (fun _ => ?_)
  refine aw_ald_n C dX6_next_9 rfl ?_
  refine aw_get C gf_X6_24 h68 rfl dX6_next_10 ?_
  refine aw_ald_n C dX6_next_13 rfl ?_
  refine aw_get C gf_X6_14 h68 rfl dX6_next_14 ?_
  refine ao_callV C (ci := 5) (b := 4) [] [] mv_X6_37 rfl rfl h4 (c_X5_size_219 h4) rfl dX6_next_17 (Nat.le_of_ble_eq_true rfl) (Nat.le_of_ble_eq_true rfl) rfl (Nat.le_of_ble_eq_true rfl) (Nat.le_of_ble_eq_true rfl) (Nat.le_of_ble_eq_true rfl) rfl ?_
  refine aw_icmp_ge C 96 dX6_next_20 (by decide) (fun _ => ?_) (fun q => absurd (by decide) q)
  refine aw_iconst C 0 dX6_next_96 ki_0 ?_
  exact aw_iret C rfl (by decide) dX6_next_97 (Nat.le_of_ble_eq_true rfl) (Nat.le_of_ble_eq_true rfl) ⟨rfl, rfl, rfl⟩

set_option maxHeartbeats 4000000 in
set_option maxRecDepth 100000 in
theorem c_X1_find_295 {X : GX} {l : Launch} {f : AH} {n : Nat} {g74 : Nat → Option Nat} (h59 : f 59 = some (.inr (1, [.ref 60, .ref 62, .ref 74, .int 0, .ref 68, .ref 71, .ref 64, .ref 66]))) (h60 : f 60 = some (.inr (5, [.ref 61, .int 0]))) (h62 : f 62 = some (.inr (5, [.ref 63, .int 0]))) (h3 : f 3 = some (.inr (7, [.ref 4, .int 2, .int (-1), .int 0, .int 1, .int 0, .null, .int 0, .ref 6, .ref 7]))) (h68 : f 68 = some (.inr (6, [.ref 69, .int 0, .int 0, .int 0, .int 0, .int 0, .int 0, .int 0, .int 0, .int 0]))) (h74 : f 74 = some (.inl (1, 40, .inr (.inr g74)))) (h4 : f 4 = some (.inr (5, [.ref 5, .int 0]))) : AM X l yX1_find cX1_find 5 none 2 0 0 [.ref 59, .ref 4, .ref 3] f n (EXO f [(59, .inr (1, [.ref 60, .ref 62, .ref 74, .int 0, .ref 68, .ref 71, .ref 64, .ref 66])), (68, .inr (6, [.ref 4, .int 0, .int 0, .int 0, .int 0, .int 0, .int 0, .int 0, .int 2, .int 0]))] none n) := by
  refine AM.of (by decide +kernel) rfl (by decide) (fun p e s m args below meth c C hnm => ?_)
  refine ao_start ?_
  refine aw_nl [some (.ref 59), some (.ref 4), some (.ref 3), none, none] rfl ?_
  refine aw_ald_n C dX1_find_0 rfl ?_
  refine aw_iconst C 0 dX1_find_1 ki_0 ?_
  refine ao_put C [(59, .inr (1, [.ref 60, .ref 62, .ref 74, .int 0, .ref 68, .ref 71, .ref 64, .ref 66]))] gf_X1_46 cf1 nf1_3 h59 (Nat.le_of_ble_eq_true rfl) rfl rfl dX1_find_2 rfl ?_
  refine aw_ald_n C dX1_find_5 rfl ?_
  refine aw_get C gf_X1_14 rfl rfl dX1_find_6 ?_
  refine aw_iconst C 0 dX1_find_9 ki_0 ?_
  refine ao_callV C (ci := 5) (b := 60) [.int 0] [(59, .inr (1, [.ref 60, .ref 62, .ref 74, .int 0, .ref 68, .ref 71, .ref 64, .ref 66]))] mv_X1_50 rfl rfl h60 (c_X5_cutTo_185 h60) rfl dX1_find_10 (Nat.le_of_ble_eq_true rfl) (Nat.le_of_ble_eq_true rfl) rfl (Nat.le_of_ble_eq_true rfl) (Nat.le_of_ble_eq_true rfl) (Nat.le_of_ble_eq_true rfl) rfl ?_
  refine aw_ald_n C dX1_find_13 rfl ?_
  refine aw_get C gf_X1_20 rfl rfl dX1_find_14 ?_
  refine aw_iconst C 0 dX1_find_17 ki_0 ?_
  refine ao_callV C (ci := 5) (b := 62) [.int 0] [(59, .inr (1, [.ref 60, .ref 62, .ref 74, .int 0, .ref 68, .ref 71, .ref 64, .ref 66]))] mv_X1_50 rfl rfl h62 (c_X5_cutTo_186 h62) rfl dX1_find_18 (Nat.le_of_ble_eq_true rfl) (Nat.le_of_ble_eq_true rfl) rfl (Nat.le_of_ble_eq_true rfl) (Nat.le_of_ble_eq_true rfl) (Nat.le_of_ble_eq_true rfl) rfl ?_
  refine aw_ald_n C dX1_find_21 rfl ?_
  refine aw_get C gf_X1_32 rfl rfl dX1_find_22 ?_
  refine aw_ald_n C dX1_find_25 rfl ?_
  refine aw_ald_n C dX1_find_26 rfl ?_
  refine aw_get C gf_X1_53 h3 rfl dX1_find_27 ?_
  refine ao_callV C (ci := 6) (b := 68) [.ref 4, .int 2] [(59, .inr (1, [.ref 60, .ref 62, .ref 74, .int 0, .ref 68, .ref 71, .ref 64, .ref 66])), (68, .inr (6, [.ref 4, .int 0, .int 0, .int 0, .int 0, .int 0, .int 0, .int 0, .int 2, .int 0]))] mv_X1_58 rfl rfl h68 (c_X6_start_293 h68) rfl dX1_find_30 (Nat.le_of_ble_eq_true rfl) (Nat.le_of_ble_eq_true rfl) rfl (Nat.le_of_ble_eq_true rfl) (Nat.le_of_ble_eq_true rfl) (Nat.le_of_ble_eq_true rfl) rfl ?_
  refine aw_iconst C 0 dX1_find_33 ki_0 ?_
  refine aw_istore_n C dX1_find_34 (by decide) rfl ?_
  refine aw_nl [some (.ref 59), some (.ref 4), some (.ref 3), some (.int 0), none] rfl ?_
  refine aw_iload_n C dX1_find_35 rfl ?_
  refine aw_sipush C 600 dX1_find_36 ks_600 ?_
  refine aw_icmp_gt C 174 dX1_find_39 (by decide) (fun q => absurd q (by decide)) (fun _ => ?_)
  refine aw_ald_n C dX1_find_42 rfl ?_
  refine aw_get C gf_X1_46 rfl rfl dX1_find_43 ?_
  refine aw_ald_n C dX1_find_46 rfl ?_
  refine aw_get C gf_X1_41 rfl rfl dX1_find_47 ?_
  refine aw_alen C (by decide) h74 dX1_find_50 ?_
  refine aw_top 40 (by decide) ?_
  refine aw_icmp_ge C 174 dX1_find_51 (by decide) (fun q => absurd q (by decide)) (fun _ => ?_)
  refine aw_ald_n C dX1_find_54 rfl ?_
  refine aw_get C gf_X1_32 rfl rfl dX1_find_55 ?_
  refine ao_callV C (ci := 6) (b := 68) [] [(59, .inr (1, [.ref 60, .ref 62, .ref 74, .int 0, .ref 68, .ref 71, .ref 64, .ref 66])), (68, .inr (6, [.ref 4, .int 0, .int 0, .int 0, .int 0, .int 0, .int 0, .int 0, .int 2, .int 0]))] mv_X1_62 rfl rfl rfl (c_X6_next_294 rfl h4) rfl dX1_find_58 (Nat.le_of_ble_eq_true rfl) (Nat.le_of_ble_eq_true rfl) rfl (Nat.le_of_ble_eq_true rfl) (Nat.le_of_ble_eq_true rfl) (Nat.le_of_ble_eq_true rfl) rfl ?_
  refine aw_if_eq C 174 dX1_find_61 (by decide) (fun _ => ?_) (fun q => absurd (by decide) q)
  exact aw_vret C rfl dX1_find_174 (Nat.le_of_ble_eq_true rfl) (Nat.le_of_ble_eq_true rfl) ⟨rfl, rfl, rfl⟩

set_option maxHeartbeats 4000000 in
set_option maxRecDepth 100000 in
theorem c_X0_make_296 {X : GX} {l : Launch} {f : AH} {n : Nat} (h171 : f 171 = some (.inr (0, [.ref 172, .ref 174, .ref 176, .int 0]))) (h172 : f 172 = some (.inr (5, [.ref 173, .int 0]))) (h59 : f 59 = some (.inr (1, [.ref 60, .ref 62, .ref 74, .int 0, .ref 68, .ref 71, .ref 64, .ref 66]))) (h3 : f 3 = some (.inr (7, [.ref 4, .int 2, .int (-1), .int 0, .int 1, .int 0, .null, .int 0, .ref 6, .ref 7]))) (h4 : f 4 = some (.inr (5, [.ref 5, .int 0]))) : AM X l yX0_make cX0_make 8 (some .boolean) 1 0 0 [.ref 171, .ref 3, .ref 59] f n (EXO f [] (some (.int 1)) n) := by
  refine AM.of (by decide +kernel) rfl (by decide) (fun p e s m args below meth c C hnm => ?_)
  refine ao_start ?_
  refine aw_nl [some (.ref 171), some (.ref 3), some (.ref 59), none, none, none, none, none] rfl ?_
  refine aw_ald_n C dX0_make_0 rfl ?_
  refine aw_get C gf_X0_14 h171 rfl dX0_make_1 ?_
  refine aw_iconst C 0 dX0_make_4 ki_0 ?_
  refine ao_callV C (ci := 5) (b := 172) [.int 0] [] mv_X0_26 rfl rfl h172 (c_X5_cutTo_191 h172) rfl dX0_make_5 (Nat.le_of_ble_eq_true rfl) (Nat.le_of_ble_eq_true rfl) rfl (Nat.le_of_ble_eq_true rfl) (Nat.le_of_ble_eq_true rfl) (Nat.le_of_ble_eq_true rfl) rfl ?_
  refine aw_iconst C 0 dX0_make_8 ki_0 ?_
  refine aw_istore_n C dX0_make_9 (by decide) rfl ?_
  refine aw_nl [some (.ref 171), some (.ref 3), some (.ref 59), some (.int 0), none, none, none, none] rfl ?_
  refine aw_iconst C 1 dX0_make_10 ki_1 ?_
  refine aw_istore C dX0_make_11 (by decide) rfl ?_
  refine aw_nl [some (.ref 171), some (.ref 3), some (.ref 59), some (.int 0), some (.int 1), none, none, none] rfl ?_
  refine aw_iconst C 0 dX0_make_13 ki_0 ?_
  refine aw_istore C dX0_make_14 (by decide) rfl ?_
  refine aw_nl [some (.ref 171), some (.ref 3), some (.ref 59), some (.int 0), some (.int 1), some (.int 0), none, none] rfl ?_
  refine aw_iload C dX0_make_16 rfl ?_
  refine aw_ald_n C dX0_make_18 rfl ?_
  refine ao_callV C (ci := 1) (b := 59) [] [] mv_X0_29 rfl rfl h59 (c_X1_size_192 h59) rfl dX0_make_19 (Nat.le_of_ble_eq_true rfl) (Nat.le_of_ble_eq_true rfl) rfl (Nat.le_of_ble_eq_true rfl) (Nat.le_of_ble_eq_true rfl) (Nat.le_of_ble_eq_true rfl) rfl ?_
  refine aw_icmp_ge C 211 dX0_make_22 (by decide) (fun _ => ?_) (fun q => absurd (by decide) q)
  refine aw_iload C dX0_make_211 rfl ?_
  refine aw_if_eq C 242 dX0_make_213 (by decide) (fun q => absurd q (by decide)) (fun _ => ?_)
  refine aw_ald_n C dX0_make_216 rfl ?_
  refine aw_get C gf_X0_14 h171 rfl dX0_make_217 ?_
  refine aw_ald_n C dX0_make_220 rfl ?_
  refine aw_get C gf_X0_39 h3 rfl dX0_make_221 ?_
  refine aw_iload_n C dX0_make_224 rfl ?_
  refine aw_ald_n C dX0_make_225 rfl ?_
  refine aw_get C gf_X0_39 h3 rfl dX0_make_226 ?_
  refine ao_callV C (ci := 5) (b := 4) [] [] mv_X0_57 rfl rfl h4 (c_X5_size_219 h4) rfl dX0_make_229 (Nat.le_of_ble_eq_true rfl) (Nat.le_of_ble_eq_true rfl) rfl (Nat.le_of_ble_eq_true rfl) (Nat.le_of_ble_eq_true rfl) (Nat.le_of_ble_eq_true rfl) rfl ?_
  refine ao_callV C (ci := 5) (b := 172) [.ref 4, .int 0, .int 0] [] mv_X0_50 rfl rfl h172 (c_X5_addPart_222) rfl dX0_make_232 (Nat.le_of_ble_eq_true rfl) (Nat.le_of_ble_eq_true rfl) rfl (Nat.le_of_ble_eq_true rfl) (Nat.le_of_ble_eq_true rfl) (Nat.le_of_ble_eq_true rfl) rfl ?_
  refine aw_if_eq C 242 dX0_make_235 (by decide) (fun q => absurd q (by decide)) (fun _ => ?_)
  refine aw_iconst C 1 dX0_make_238 ki_1 ?_
  refine aw_goto C 243 dX0_make_239 (by decide) ?_
  exact aw_iret C rfl (by decide) dX0_make_243 (Nat.le_of_ble_eq_true rfl) (Nat.le_of_ble_eq_true rfl) ⟨rfl, rfl, rfl⟩

set_option maxHeartbeats 4000000 in
set_option maxRecDepth 100000 in
theorem c_X8_cutAnew_297 {X : GX} {l : Launch} {f : AH} {n : Nat} {g74 : Nat → Option Nat} (h0 : f 0 = some (.inr (8, [.ref 1, .ref 3, .ref 8, .ref 13, .ref 18, .ref 59, .ref 115, .ref 171, .ref 178, .int 0, .int 0, .int 0, .int 0, .int (-1)]))) (h3 : f 3 = some (.inr (7, [.ref 4, .int 2, .int (-1), .int 0, .int 1, .int 0, .null, .int 0, .ref 6, .ref 7]))) (h7 : f 7 = some (.inl (2, 40, .inr (.inr (fun _ => none))))) (h59 : f 59 = some (.inr (1, [.ref 60, .ref 62, .ref 74, .int 0, .ref 68, .ref 71, .ref 64, .ref 66]))) (h60 : f 60 = some (.inr (5, [.ref 61, .int 0]))) (h62 : f 62 = some (.inr (5, [.ref 63, .int 0]))) (h68 : f 68 = some (.inr (6, [.ref 69, .int 0, .int 0, .int 0, .int 0, .int 0, .int 0, .int 0, .int 0, .int 0]))) (h74 : f 74 = some (.inl (1, 40, .inr (.inr g74)))) (h4 : f 4 = some (.inr (5, [.ref 5, .int 0]))) (h171 : f 171 = some (.inr (0, [.ref 172, .ref 174, .ref 176, .int 0]))) (h172 : f 172 = some (.inr (5, [.ref 173, .int 0]))) : AM X l yX8_cutAnew cX8_cutAnew 1 (some .int) 3 0 0 [.ref 0] f n (EXO f [(0, .inr (8, [.ref 1, .ref 3, .ref 8, .ref 13, .ref 18, .ref 59, .ref 115, .ref 171, .ref 178, .int 0, .int 0, .int 0, .int 0, .int (-1)])), (68, .inr (6, [.ref 4, .int 0, .int 0, .int 0, .int 0, .int 0, .int 0, .int 0, .int 2, .int 0])), (59, .inr (1, [.ref 60, .ref 62, .ref 74, .int 0, .ref 68, .ref 71, .ref 64, .ref 66]))] (some (.int 0)) n) := by
  refine AM.of (by decide +kernel) rfl (by decide) (fun p e s m args below meth c C hnm => ?_)
  refine ao_start ?_
  refine aw_nl [some (.ref 0)] rfl ?_
  refine aw_ald_n C dX8_cutAnew_0 rfl ?_
  refine aw_iconst C 0 dX8_cutAnew_1 ki_0 ?_
  refine ao_put C [(0, .inr (8, [.ref 1, .ref 3, .ref 8, .ref 13, .ref 18, .ref 59, .ref 115, .ref 171, .ref 178, .int 0, .int 0, .int 0, .int 0, .int (-1)]))] gf_X8_334 cf8 nf8_10 h0 (Nat.le_of_ble_eq_true rfl) (by decide) (by decide) dX8_cutAnew_2 rfl ?_
  refine aw_ald_n C dX8_cutAnew_5 rfl ?_
  refine aw_get C gf_X8_21 rfl rfl dX8_cutAnew_6 ?_
  refine ao_callV C (ci := 7) (b := 3) [] [(0, .inr (8, [.ref 1, .ref 3, .ref 8, .ref 13, .ref 18, .ref 59, .ref 115, .ref 171, .ref 178, .int 0, .int 0, .int 0, .int 0, .int (-1)]))] mv_X8_358 rfl rfl h3 (c_X7_forgetTold_292 h3 h7) rfl dX8_cutAnew_9 (Nat.le_of_ble_eq_true rfl) (Nat.le_of_ble_eq_true rfl) rfl (Nat.le_of_ble_eq_true rfl) (Nat.le_of_ble_eq_true rfl) (Nat.le_of_ble_eq_true rfl) rfl ?_
  refine aw_ald_n C dX8_cutAnew_12 rfl ?_
  refine aw_get C gf_X8_38 rfl rfl dX8_cutAnew_13 ?_
  refine aw_ald_n C dX8_cutAnew_16 rfl ?_
  refine aw_get C gf_X8_21 rfl rfl dX8_cutAnew_17 ?_
  refine aw_get C gf_X8_130 h3 rfl dX8_cutAnew_20 ?_
  refine aw_ald_n C dX8_cutAnew_23 rfl ?_
  refine aw_get C gf_X8_21 rfl rfl dX8_cutAnew_24 ?_
  refine ao_callV C (ci := 1) (b := 59) [.ref 4, .ref 3] [(0, .inr (8, [.ref 1, .ref 3, .ref 8, .ref 13, .ref 18, .ref 59, .ref 115, .ref 171, .ref 178, .int 0, .int 0, .int 0, .int 0, .int (-1)])), (68, .inr (6, [.ref 4, .int 0, .int 0, .int 0, .int 0, .int 0, .int 0, .int 0, .int 2, .int 0])), (59, .inr (1, [.ref 60, .ref 62, .ref 74, .int 0, .ref 68, .ref 71, .ref 64, .ref 66]))] mv_X8_361 rfl rfl h59 (c_X1_find_295 h59 h60 h62 h3 h68 h74 h4) rfl dX8_cutAnew_27 (Nat.le_of_ble_eq_true rfl) (Nat.le_of_ble_eq_true rfl) rfl (Nat.le_of_ble_eq_true rfl) (Nat.le_of_ble_eq_true rfl) (Nat.le_of_ble_eq_true rfl) rfl ?_
  refine aw_ald_n C dX8_cutAnew_30 rfl ?_
  refine aw_get C gf_X8_48 rfl rfl dX8_cutAnew_31 ?_
  refine aw_ald_n C dX8_cutAnew_34 rfl ?_
  refine aw_get C gf_X8_21 rfl rfl dX8_cutAnew_35 ?_
  refine aw_ald_n C dX8_cutAnew_38 rfl ?_
  refine aw_get C gf_X8_38 rfl rfl dX8_cutAnew_39 ?_
  refine ao_callV C (ci := 0) (b := 171) [.ref 3, .ref 59] [(0, .inr (8, [.ref 1, .ref 3, .ref 8, .ref 13, .ref 18, .ref 59, .ref 115, .ref 171, .ref 178, .int 0, .int 0, .int 0, .int 0, .int (-1)])), (68, .inr (6, [.ref 4, .int 0, .int 0, .int 0, .int 0, .int 0, .int 0, .int 0, .int 2, .int 0])), (59, .inr (1, [.ref 60, .ref 62, .ref 74, .int 0, .ref 68, .ref 71, .ref 64, .ref 66]))] mv_X8_365 rfl rfl h171 (c_X0_make_296 h171 h172 rfl h3 h4) rfl dX8_cutAnew_42 (Nat.le_of_ble_eq_true rfl) (Nat.le_of_ble_eq_true rfl) rfl (Nat.le_of_ble_eq_true rfl) (Nat.le_of_ble_eq_true rfl) (Nat.le_of_ble_eq_true rfl) rfl ?_
  refine aw_pop C dX8_cutAnew_45 rfl ?_
  refine aw_iconst C 0 dX8_cutAnew_46 ki_0 ?_
  exact aw_iret C rfl rfl dX8_cutAnew_47 (Nat.le_of_ble_eq_true rfl) (Nat.le_of_ble_eq_true rfl) ⟨rfl, rfl, rfl⟩

set_option maxHeartbeats 4000000 in
set_option maxRecDepth 100000 in
theorem c_X8_doAct_298 {X : GX} {l : Launch} {f : AH} {n : Nat} {g74 : Nat → Option Nat} (h0 : f 0 = some (.inr (8, [.ref 1, .ref 3, .ref 8, .ref 13, .ref 18, .ref 59, .ref 115, .ref 171, .ref 178, .int 0, .int 0, .int 0, .int 0, .int (-1)]))) (h3 : f 3 = some (.inr (7, [.ref 4, .int 0, .int (-1), .int 0, .int 1, .int 0, .null, .int 0, .ref 6, .ref 7]))) (h7 : f 7 = some (.inl (2, 40, .inr (.inr (fun _ => none))))) (h59 : f 59 = some (.inr (1, [.ref 60, .ref 62, .ref 74, .int 0, .ref 68, .ref 71, .ref 64, .ref 66]))) (h60 : f 60 = some (.inr (5, [.ref 61, .int 0]))) (h62 : f 62 = some (.inr (5, [.ref 63, .int 0]))) (h68 : f 68 = some (.inr (6, [.ref 69, .int 0, .int 0, .int 0, .int 0, .int 0, .int 0, .int 0, .int 0, .int 0]))) (h74 : f 74 = some (.inl (1, 40, .inr (.inr g74)))) (h4 : f 4 = some (.inr (5, [.ref 5, .int 0]))) (h171 : f 171 = some (.inr (0, [.ref 172, .ref 174, .ref 176, .int 0]))) (h172 : f 172 = some (.inr (5, [.ref 173, .int 0]))) : AM X l yX8_doAct cX8_doAct 6 (some .int) 4 0 0 [.ref 0, .int 0, .int 2, .int 0, .null] f n (EXO f [(0, .inr (8, [.ref 1, .ref 3, .ref 8, .ref 13, .ref 18, .ref 59, .ref 115, .ref 171, .ref 178, .int 0, .int 0, .int 0, .int 0, .int (-1)])), (3, .inr (7, [.ref 4, .int 2, .int (-1), .int 0, .int 1, .int 0, .null, .int 0, .ref 6, .ref 7])), (59, .inr (1, [.ref 60, .ref 62, .ref 74, .int 0, .ref 68, .ref 71, .ref 64, .ref 66])), (68, .inr (6, [.ref 4, .int 0, .int 0, .int 0, .int 0, .int 0, .int 0, .int 0, .int 2, .int 0]))] (some (.int 0)) n) := by
  refine AM.of (by decide +kernel) rfl (by decide) (fun p e s m args below meth c C hnm => ?_)
  refine ao_start ?_
  refine aw_nl [some (.ref 0), some (.int 0), some (.int 2), some (.int 0), some (.null), none] rfl ?_
  refine aw_ald_n C dX8_doAct_0 rfl ?_
  refine aw_iconst C 0 dX8_doAct_1 ki_0 ?_
  refine ao_put C [(0, .inr (8, [.ref 1, .ref 3, .ref 8, .ref 13, .ref 18, .ref 59, .ref 115, .ref 171, .ref 178, .int 0, .int 0, .int 0, .int 0, .int (-1)]))] gf_X8_334 cf8 nf8_10 h0 (Nat.le_of_ble_eq_true rfl) (by decide) (by decide) dX8_doAct_2 rfl ?_
  refine aw_iload_n C dX8_doAct_5 rfl ?_
  refine aw_tabIn C (off := 62) 68 dX8_doAct_6 (by decide) (by decide) (by decide) (by decide) ?_
  refine aw_ald_n C dX8_doAct_68 rfl ?_
  refine aw_get C gf_X8_21 rfl rfl dX8_doAct_69 ?_
  refine aw_iload_n C dX8_doAct_72 rfl ?_
  refine ao_put C [(0, .inr (8, [.ref 1, .ref 3, .ref 8, .ref 13, .ref 18, .ref 59, .ref 115, .ref 171, .ref 178, .int 0, .int 0, .int 0, .int 0, .int (-1)])), (3, .inr (7, [.ref 4, .int 2, .int (-1), .int 0, .int 1, .int 0, .null, .int 0, .ref 6, .ref 7]))] gf_X8_232 cf7 nf7_1 h3 (Nat.le_of_ble_eq_true rfl) rfl rfl dX8_doAct_73 rfl ?_
  refine aw_ald_n C dX8_doAct_76 rfl ?_
  refine ao_callV C (ci := 8) (b := 0) [] [(0, .inr (8, [.ref 1, .ref 3, .ref 8, .ref 13, .ref 18, .ref 59, .ref 115, .ref 171, .ref 178, .int 0, .int 0, .int 0, .int 0, .int (-1)])), (3, .inr (7, [.ref 4, .int 2, .int (-1), .int 0, .int 1, .int 0, .null, .int 0, .ref 6, .ref 7])), (59, .inr (1, [.ref 60, .ref 62, .ref 74, .int 0, .ref 68, .ref 71, .ref 64, .ref 66])), (68, .inr (6, [.ref 4, .int 0, .int 0, .int 0, .int 0, .int 0, .int 0, .int 0, .int 2, .int 0]))] mv_X8_133 rfl rfl rfl (c_X8_cutAnew_297 rfl rfl h7 h59 h60 h62 h68 h74 h4 h171 h172) rfl dX8_doAct_77 (Nat.le_of_ble_eq_true rfl) (Nat.le_of_ble_eq_true rfl) rfl (Nat.le_of_ble_eq_true rfl) (Nat.le_of_ble_eq_true rfl) (Nat.le_of_ble_eq_true rfl) rfl ?_
  exact aw_iret C rfl rfl dX8_doAct_80 (Nat.le_of_ble_eq_true rfl) (Nat.le_of_ble_eq_true rfl) ⟨rfl, rfl, rfl⟩

set_option maxHeartbeats 4000000 in
set_option maxRecDepth 100000 in
theorem c_X8_kind_299 {X : GX} {l : Launch} {f : AH} {n : Nat} {g74 : Nat → Option Nat} (h0 : f 0 = some (.inr (8, [.ref 1, .ref 3, .ref 8, .ref 13, .ref 18, .ref 59, .ref 115, .ref 171, .ref 178, .int 0, .int 0, .int 0, .int 0, .int (-1)]))) (h3 : f 3 = some (.inr (7, [.ref 4, .int 0, .int (-1), .int 0, .int 1, .int 0, .null, .int 0, .ref 6, .ref 7]))) (h8 : f 8 = some (.inr (7, [.ref 9, .int 0, .int (-1), .int 0, .int 1, .int 0, .null, .int 0, .ref 11, .ref 12]))) (h11 : f 11 = some (.inl (2, 4, .inr (.inr (fun _ => none))))) (h6 : f 6 = some (.inl (2, 4, .inr (.inr (fun _ => none))))) (h12 : f 12 = some (.inl (2, 40, .inr (.inr (fun _ => none))))) (h7 : f 7 = some (.inl (2, 40, .inr (.inr (fun _ => none))))) (h59 : f 59 = some (.inr (1, [.ref 60, .ref 62, .ref 74, .int 0, .ref 68, .ref 71, .ref 64, .ref 66]))) (h60 : f 60 = some (.inr (5, [.ref 61, .int 0]))) (h62 : f 62 = some (.inr (5, [.ref 63, .int 0]))) (h68 : f 68 = some (.inr (6, [.ref 69, .int 0, .int 0, .int 0, .int 0, .int 0, .int 0, .int 0, .int 0, .int 0]))) (h74 : f 74 = some (.inl (1, 40, .inr (.inr g74)))) (h4 : f 4 = some (.inr (5, [.ref 5, .int 0]))) (h171 : f 171 = some (.inr (0, [.ref 172, .ref 174, .ref 176, .int 0]))) (h172 : f 172 = some (.inr (5, [.ref 173, .int 0]))) (h18 : f 18 = some (.inl (3, 8, .inr (.inr (va_up (va_up (va_up (va_up (va_up (va_up (va_up (va_up (fun _ => none) 0 (some 19)) 1 (some 24)) 2 (some 29)) 3 (some 34)) 4 (some 39)) 5 (some 44)) 6 (some 49)) 7 (some 54)))))) (h19 : f 19 = some (.inr (7, [.ref 20, .int 0, .int (-1), .int 0, .int 1, .int 0, .null, .int 0, .ref 22, .ref 23]))) (h22 : f 22 = some (.inl (2, 4, .inr (.inr (fun _ => none))))) (h23 : f 23 = some (.inl (2, 40, .inr (.inr (fun _ => none))))) : AM X l yX8_kind cX8_kind 3 (some .int) 5 0 0 [.ref 0, .int 2, .int 0] f n (EXO f [(8, .inr (7, [.ref 4, .int 0, .int (-1), .int 0, .int 1, .int 0, .null, .int 0, .ref 11, .ref 12])), (68, .inr (6, [.ref 4, .int 0, .int 0, .int 0, .int 0, .int 0, .int 0, .int 0, .int 2, .int 0])), (59, .inr (1, [.ref 60, .ref 62, .ref 74, .int 0, .ref 68, .ref 71, .ref 64, .ref 66])), (3, .inr (7, [.ref 4, .int 2, .int (-1), .int 0, .int 1, .int 0, .null, .int 0, .ref 6, .ref 7])), (0, .inr (8, [.ref 1, .ref 3, .ref 8, .ref 13, .ref 18, .ref 59, .ref 115, .ref 171, .ref 178, .int 0, .int 0, .int 1, .int 0, .int (-1)])), (19, .inr (7, [.ref 4, .int 0, .int (-1), .int 0, .int 1, .int 0, .null, .int 0, .ref 22, .ref 23]))] (some (.int 0)) n) := by
  refine AM.of (by decide +kernel) rfl (by decide) (fun p e s m args below meth c C hnm => ?_)
  refine ao_start ?_
  refine aw_nl [some (.ref 0), some (.int 2), some (.int 0)] rfl ?_
  refine aw_iload_n C dX8_kind_0 rfl ?_
  refine aw_iconst C 3 dX8_kind_1 ki_3 ?_
  refine aw_icmp_gt C 18 dX8_kind_2 (by decide) (fun q => absurd q (by decide)) (fun _ => ?_)
  refine aw_iload_n C dX8_kind_5 rfl ?_
  refine aw_iload_n C dX8_kind_6 rfl ?_
  refine aw_if_eq C 14 dX8_kind_7 (by decide) (fun _ => ?_) (fun q => absurd (by decide) q)
  refine aw_iconst C 0 dX8_kind_14 ki_0 ?_
  refine aw_icmp_ge C 28 dX8_kind_15 (by decide) (fun _ => ?_) (fun q => absurd (by decide) q)
  refine aw_ald_n C dX8_kind_28 rfl ?_
  refine aw_get C gf_X8_25 h0 rfl dX8_kind_29 ?_
  refine aw_ald_n C dX8_kind_32 rfl ?_
  refine aw_get C gf_X8_21 h0 rfl dX8_kind_33 ?_
  refine ao_callV C (ci := 7) (b := 8) [.ref 3] [(8, .inr (7, [.ref 4, .int 0, .int (-1), .int 0, .int 1, .int 0, .null, .int 0, .ref 11, .ref 12]))] mv_X8_73 rfl rfl h8 (c_X7_copyFrom_168 h3 h8 h11 h6 h12 h7) rfl dX8_kind_36 (Nat.le_of_ble_eq_true rfl) (Nat.le_of_ble_eq_true rfl) rfl (Nat.le_of_ble_eq_true rfl) (Nat.le_of_ble_eq_true rfl) (Nat.le_of_ble_eq_true rfl) rfl ?_
  refine aw_ald_n C dX8_kind_39 rfl ?_
  refine aw_ald_n C dX8_kind_40 rfl ?_
  refine aw_iload_n C dX8_kind_41 rfl ?_
  refine aw_if_eq C 49 dX8_kind_42 (by decide) (fun _ => ?_) (fun q => absurd (by decide) q)
  refine aw_iconst C 0 dX8_kind_49 ki_0 ?_
  refine aw_iload_n C dX8_kind_50 rfl ?_
  refine aw_iconst C 0 dX8_kind_51 ki_0 ?_
  refine aw_null C dX8_kind_52 ?_
  refine ao_callV C (ci := 8) (b := 0) [.int 0, .int 2, .int 0, .null] [(8, .inr (7, [.ref 4, .int 0, .int (-1), .int 0, .int 1, .int 0, .null, .int 0, .ref 11, .ref 12])), (68, .inr (6, [.ref 4, .int 0, .int 0, .int 0, .int 0, .int 0, .int 0, .int 0, .int 2, .int 0])), (59, .inr (1, [.ref 60, .ref 62, .ref 74, .int 0, .ref 68, .ref 71, .ref 64, .ref 66])), (3, .inr (7, [.ref 4, .int 2, .int (-1), .int 0, .int 1, .int 0, .null, .int 0, .ref 6, .ref 7])), (0, .inr (8, [.ref 1, .ref 3, .ref 8, .ref 13, .ref 18, .ref 59, .ref 115, .ref 171, .ref 178, .int 0, .int 0, .int 0, .int 0, .int (-1)]))] mv_X8_103 rfl rfl h0 (c_X8_doAct_298 h0 h3 h7 h59 h60 h62 h68 h74 h4 h171 h172) rfl dX8_kind_53 (Nat.le_of_ble_eq_true rfl) (Nat.le_of_ble_eq_true rfl) rfl (Nat.le_of_ble_eq_true rfl) (Nat.le_of_ble_eq_true rfl) (Nat.le_of_ble_eq_true rfl) rfl ?_
  refine ao_callV C (ci := 8) (b := 0) [.int 0] [(8, .inr (7, [.ref 4, .int 0, .int (-1), .int 0, .int 1, .int 0, .null, .int 0, .ref 11, .ref 12])), (68, .inr (6, [.ref 4, .int 0, .int 0, .int 0, .int 0, .int 0, .int 0, .int 0, .int 2, .int 0])), (59, .inr (1, [.ref 60, .ref 62, .ref 74, .int 0, .ref 68, .ref 71, .ref 64, .ref 66])), (3, .inr (7, [.ref 4, .int 2, .int (-1), .int 0, .int 1, .int 0, .null, .int 0, .ref 6, .ref 7])), (0, .inr (8, [.ref 1, .ref 3, .ref 8, .ref 13, .ref 18, .ref 59, .ref 115, .ref 171, .ref 178, .int 0, .int 0, .int 1, .int 0, .int (-1)])), (19, .inr (7, [.ref 4, .int 0, .int (-1), .int 0, .int 1, .int 0, .null, .int 0, .ref 22, .ref 23]))] mv_X8_139 rfl rfl rfl (c_X8_finishCall_228 rfl h18 rfl h19 h22 h11 h23 h12) rfl dX8_kind_56 (Nat.le_of_ble_eq_true rfl) (Nat.le_of_ble_eq_true rfl) rfl (Nat.le_of_ble_eq_true rfl) (Nat.le_of_ble_eq_true rfl) (Nat.le_of_ble_eq_true rfl) rfl ?_
  refine aw_ald_n C dX8_kind_59 rfl ?_
  refine aw_get C gf_X8_38 rfl rfl dX8_kind_60 ?_
  refine ao_callV C (ci := 1) (b := 59) [] [(8, .inr (7, [.ref 4, .int 0, .int (-1), .int 0, .int 1, .int 0, .null, .int 0, .ref 11, .ref 12])), (68, .inr (6, [.ref 4, .int 0, .int 0, .int 0, .int 0, .int 0, .int 0, .int 0, .int 2, .int 0])), (59, .inr (1, [.ref 60, .ref 62, .ref 74, .int 0, .ref 68, .ref 71, .ref 64, .ref 66])), (3, .inr (7, [.ref 4, .int 2, .int (-1), .int 0, .int 1, .int 0, .null, .int 0, .ref 6, .ref 7])), (0, .inr (8, [.ref 1, .ref 3, .ref 8, .ref 13, .ref 18, .ref 59, .ref 115, .ref 171, .ref 178, .int 0, .int 0, .int 1, .int 0, .int (-1)])), (19, .inr (7, [.ref 4, .int 0, .int (-1), .int 0, .int 1, .int 0, .null, .int 0, .ref 22, .ref 23]))] mv_X8_136 rfl rfl rfl (c_X1_size_192 rfl) rfl dX8_kind_63 (Nat.le_of_ble_eq_true rfl) (Nat.le_of_ble_eq_true rfl) rfl (Nat.le_of_ble_eq_true rfl) (Nat.le_of_ble_eq_true rfl) (Nat.le_of_ble_eq_true rfl) rfl ?_
  exact aw_iret C rfl rfl dX8_kind_66 (Nat.le_of_ble_eq_true rfl) (Nat.le_of_ble_eq_true rfl) ⟨rfl, rfl, rfl⟩

set_option maxHeartbeats 4000000 in
set_option maxRecDepth 100000 in
theorem c_L_kind_300 {X : GX} {l : Launch} {f : AH} {n : Nat} {g74 : Nat → Option Nat} (h0 : f 0 = some (.inr (8, [.ref 1, .ref 3, .ref 8, .ref 13, .ref 18, .ref 59, .ref 115, .ref 171, .ref 178, .int 0, .int 0, .int 0, .int 0, .int (-1)]))) (h3 : f 3 = some (.inr (7, [.ref 4, .int 0, .int (-1), .int 0, .int 1, .int 0, .null, .int 0, .ref 6, .ref 7]))) (h8 : f 8 = some (.inr (7, [.ref 9, .int 0, .int (-1), .int 0, .int 1, .int 0, .null, .int 0, .ref 11, .ref 12]))) (h11 : f 11 = some (.inl (2, 4, .inr (.inr (fun _ => none))))) (h6 : f 6 = some (.inl (2, 4, .inr (.inr (fun _ => none))))) (h12 : f 12 = some (.inl (2, 40, .inr (.inr (fun _ => none))))) (h7 : f 7 = some (.inl (2, 40, .inr (.inr (fun _ => none))))) (h59 : f 59 = some (.inr (1, [.ref 60, .ref 62, .ref 74, .int 0, .ref 68, .ref 71, .ref 64, .ref 66]))) (h60 : f 60 = some (.inr (5, [.ref 61, .int 0]))) (h62 : f 62 = some (.inr (5, [.ref 63, .int 0]))) (h68 : f 68 = some (.inr (6, [.ref 69, .int 0, .int 0, .int 0, .int 0, .int 0, .int 0, .int 0, .int 0, .int 0]))) (h74 : f 74 = some (.inl (1, 40, .inr (.inr g74)))) (h4 : f 4 = some (.inr (5, [.ref 5, .int 0]))) (h171 : f 171 = some (.inr (0, [.ref 172, .ref 174, .ref 176, .int 0]))) (h172 : f 172 = some (.inr (5, [.ref 173, .int 0]))) (h18 : f 18 = some (.inl (3, 8, .inr (.inr (va_up (va_up (va_up (va_up (va_up (va_up (va_up (va_up (fun _ => none) 0 (some 19)) 1 (some 24)) 2 (some 29)) 3 (some 34)) 4 (some 39)) 5 (some 44)) 6 (some 49)) 7 (some 54)))))) (h19 : f 19 = some (.inr (7, [.ref 20, .int 0, .int (-1), .int 0, .int 1, .int 0, .null, .int 0, .ref 22, .ref 23]))) (h22 : f 22 = some (.inl (2, 4, .inr (.inr (fun _ => none))))) (h23 : f 23 = some (.inl (2, 40, .inr (.inr (fun _ => none))))) (h223 : f 223 = some (.inl (4, 1, .inr (.inl (fun _ => 0))))) : AMW X l yL_kind cL_kind 5 (some .int) [(0, 10, 13, 13)] 6 0 0 [.ref 0, .int 2, .int 0, .ref 223] f n (EXO f [(19, .inr (7, [.ref 4, .int 0, .int (-1), .int 0, .int 1, .int 0, .null, .int 0, .ref 22, .ref 23])), (0, .inr (8, [.ref 1, .ref 3, .ref 8, .ref 13, .ref 18, .ref 59, .ref 115, .ref 171, .ref 178, .int 0, .int 0, .int 1, .int 0, .int (-1)])), (3, .inr (7, [.ref 4, .int 2, .int (-1), .int 0, .int 1, .int 0, .null, .int 0, .ref 6, .ref 7])), (59, .inr (1, [.ref 60, .ref 62, .ref 74, .int 0, .ref 68, .ref 71, .ref 64, .ref 66])), (68, .inr (6, [.ref 4, .int 0, .int 0, .int 0, .int 0, .int 0, .int 0, .int 0, .int 2, .int 0])), (8, .inr (7, [.ref 4, .int 0, .int (-1), .int 0, .int 1, .int 0, .null, .int 0, .ref 11, .ref 12])), (223, .inl (4, 1, .inr (.inl (vp_updL (fun _ => 0) 0 0))))] (some (.int 0)) n) := by
  refine AMW.of (by decide +kernel) rfl (by decide) (fun p e s m args below meth c C htab => ?_)
  refine ao_start ?_
  refine aw_nl [some (.ref 0), some (.int 2), some (.int 0), some (.ref 223), none] rfl ?_
  refine aw_ald_n C dL_kind_0 rfl ?_
  refine aw_iconst C 0 dL_kind_1 ki_0 ?_
  refine aw_ald_n C dL_kind_2 rfl ?_
  refine aw_iload_n C dL_kind_3 rfl ?_
  refine aw_iload_n C dL_kind_4 rfl ?_
  refine ao_callV C (ci := 8) (b := 0) [.int 2, .int 0] [(19, .inr (7, [.ref 4, .int 0, .int (-1), .int 0, .int 1, .int 0, .null, .int 0, .ref 22, .ref 23])), (0, .inr (8, [.ref 1, .ref 3, .ref 8, .ref 13, .ref 18, .ref 59, .ref 115, .ref 171, .ref 178, .int 0, .int 0, .int 1, .int 0, .int (-1)])), (3, .inr (7, [.ref 4, .int 2, .int (-1), .int 0, .int 1, .int 0, .null, .int 0, .ref 6, .ref 7])), (59, .inr (1, [.ref 60, .ref 62, .ref 74, .int 0, .ref 68, .ref 71, .ref 64, .ref 66])), (68, .inr (6, [.ref 4, .int 0, .int 0, .int 0, .int 0, .int 0, .int 0, .int 0, .int 2, .int 0])), (8, .inr (7, [.ref 4, .int 0, .int (-1), .int 0, .int 1, .int 0, .null, .int 0, .ref 11, .ref 12]))] mv_L_15 rfl rfl h0 (c_X8_kind_299 h0 h3 h8 h11 h6 h12 h7 h59 h60 h62 h68 h74 h4 h171 h172 h18 h19 h22 h23) rfl dL_kind_5 (Nat.le_of_ble_eq_true rfl) (Nat.le_of_ble_eq_true rfl) rfl (Nat.le_of_ble_eq_true rfl) (Nat.le_of_ble_eq_true rfl) (Nat.le_of_ble_eq_true rfl) rfl ?_
  refine ae_i2l C 0 dL_kind_8 (by decide) ?_
  refine ao_last C [(19, .inr (7, [.ref 4, .int 0, .int (-1), .int 0, .int 1, .int 0, .null, .int 0, .ref 22, .ref 23])), (0, .inr (8, [.ref 1, .ref 3, .ref 8, .ref 13, .ref 18, .ref 59, .ref 115, .ref 171, .ref 178, .int 0, .int 0, .int 1, .int 0, .int (-1)])), (3, .inr (7, [.ref 4, .int 2, .int (-1), .int 0, .int 1, .int 0, .null, .int 0, .ref 6, .ref 7])), (59, .inr (1, [.ref 60, .ref 62, .ref 74, .int 0, .ref 68, .ref 71, .ref 64, .ref 66])), (68, .inr (6, [.ref 4, .int 0, .int 0, .int 0, .int 0, .int 0, .int 0, .int 0, .int 2, .int 0])), (8, .inr (7, [.ref 4, .int 0, .int (-1), .int 0, .int 1, .int 0, .null, .int 0, .ref 11, .ref 12])), (223, .inl (4, 1, .inr (.inl (vp_updL (fun _ => 0) 0 0))))] h223 (by unfold vp_in; decide) (by decide : _ = 0) dL_kind_9 rfl ?_
  refine aw_goto C 17 dL_kind_10 (by decide) ?_
  refine aw_iconst C 0 dL_kind_17 ki_0 ?_
  exact aw_iret C rfl rfl dL_kind_18 (Nat.le_of_ble_eq_true rfl) (Nat.le_of_ble_eq_true rfl) ⟨rfl, rfl, rfl⟩

set_option maxHeartbeats 4000000 in
set_option maxRecDepth 100000 in
theorem c_X9_isIn_301 {X : GX} {l : Launch} {f : AH} {n : Nat} : AM X l yX9_isIn cX9_isIn 3 (some .boolean) 0 0 0 [.int 2, .int 0, .int 3] f n (EXO f [] (some (.int 1)) n) := by
  refine AM.of (by decide +kernel) rfl (by decide) (fun p e s m args below meth c C hnm => ?_)
  refine ao_start ?_
  refine aw_nl [some (.int 2), some (.int 0), some (.int 3)] rfl ?_
  refine aw_iload_n C dX9_isIn_0 rfl ?_
  refine aw_iload_n C dX9_isIn_1 rfl ?_
  refine aw_icmp_lt C 14 dX9_isIn_2 (by decide) (fun q => absurd q (by decide)) (fun _ => ?_)
  refine aw_iload_n C dX9_isIn_5 rfl ?_
  refine aw_iload_n C dX9_isIn_6 rfl ?_
  refine aw_icmp_gt C 14 dX9_isIn_7 (by decide) (fun q => absurd q (by decide)) (fun _ => ?_)
  refine aw_iconst C 1 dX9_isIn_10 ki_1 ?_
  refine aw_goto C 15 dX9_isIn_11 (by decide) ?_
  exact aw_iret C rfl (by decide) dX9_isIn_15 (Nat.le_of_ble_eq_true rfl) (Nat.le_of_ble_eq_true rfl) ⟨rfl, rfl, rfl⟩

set_option maxHeartbeats 4000000 in
set_option maxRecDepth 100000 in
theorem c_X9_cutsMarkup_302 {X : GX} {l : Launch} {f : AH} {n : Nat} : AM X l yX9_cutsMarkup cX9_cutsMarkup 10 none 0 0 0 [.ref 181, .ref 187, .int 0, .ref 190, .ref 191, .ref 192] f n (EXO f [] none n) := by
  refine AM.of (by decide +kernel) rfl (by decide) (fun p e s m args below meth c C hnm => ?_)
  refine ao_start ?_
  refine aw_nl [some (.ref 181), some (.ref 187), some (.int 0), some (.ref 190), some (.ref 191), some (.ref 192), none, none, none, none] rfl ?_
  refine aw_iconst C 0 dX9_cutsMarkup_0 ki_0 ?_
  refine aw_istore C dX9_cutsMarkup_1 (by decide) rfl ?_
  refine aw_nl [some (.ref 181), some (.ref 187), some (.int 0), some (.ref 190), some (.ref 191), some (.ref 192), some (.int 0), none, none, none] rfl ?_
  refine aw_iload C dX9_cutsMarkup_3 rfl ?_
  refine aw_iload_n C dX9_cutsMarkup_5 rfl ?_
  refine aw_icmp_ge C 110 dX9_cutsMarkup_6 (by decide) (fun _ => ?_) (fun q => absurd (by decide) q)
  exact aw_vret C rfl dX9_cutsMarkup_110 (Nat.le_of_ble_eq_true rfl) (Nat.le_of_ble_eq_true rfl) ⟨rfl, rfl, rfl⟩

set_option maxHeartbeats 4000000 in
set_option maxRecDepth 100000 in
theorem c_X9_cuts_303 {X : GX} {l : Launch} {f : AH} {n : Nat} (h181 : f 181 = some (.inr (9, (.int 0 :: .ref 182 :: .ref 183 :: .ref 184 :: .ref 185 :: .int 0 :: .int 0 :: .int 0 :: .ref 186 :: .int 0 :: .int 0 :: .int 0 :: .int (-1) :: .ref 187 :: .ref 188 :: .ref 189 :: .int 0 :: .ref 190 :: .ref 191 :: .ref 192 :: .ref 193 :: .ref 194 :: .int 0 :: .ref 195 :: .ref 196 :: .ref 197 :: .int 0 :: .ref 198 :: .ref 199 :: .ref 200 :: .ref 201 :: .ref 202 :: .ref 203 :: .int 0 :: .ref 204 :: .ref 205 :: .ref 206 :: .ref 207 :: .ref 208 :: .ref 209 :: .ref 210 :: .ref 211 :: .ref 212 :: .ref 213 :: .ref 214 :: .int 0 :: .ref 215 :: .ref 216 :: .int 0 :: .ref 217 :: .ref 218 :: .ref 219 :: .ref 220 :: .ref 221 :: .int 0 :: .int 0 :: .int 0 :: .int 0 :: .ref 222 :: .int 0 :: [])))) : AM X l yX9_cuts cX9_cuts 7 (some .int) 1 0 0 [.ref 181, .int 2, .ref 187, .int 0, .ref 190, .ref 191, .ref 192] f n (EXO f [(181, .inr (9, (.int 0 :: .ref 182 :: .ref 183 :: .ref 184 :: .ref 185 :: .int 0 :: .int 0 :: .int 0 :: .ref 186 :: .int 0 :: .int 0 :: .int 0 :: .int (-1) :: .ref 187 :: .ref 188 :: .ref 189 :: .int 0 :: .ref 190 :: .ref 191 :: .ref 192 :: .ref 193 :: .ref 194 :: .int 0 :: .ref 195 :: .ref 196 :: .ref 197 :: .int 0 :: .ref 198 :: .ref 199 :: .ref 200 :: .ref 201 :: .ref 202 :: .ref 203 :: .int 0 :: .ref 204 :: .ref 205 :: .ref 206 :: .ref 207 :: .ref 208 :: .ref 209 :: .ref 210 :: .ref 211 :: .ref 212 :: .ref 213 :: .ref 214 :: .int 0 :: .ref 215 :: .ref 216 :: .int 0 :: .ref 217 :: .ref 218 :: .ref 219 :: .ref 220 :: .ref 221 :: .int 0 :: .int 0 :: .int 0 :: .int 0 :: .ref 222 :: .int 0 :: [])))] (some (.int 0)) n) := by
  refine AM.of (by decide +kernel) rfl (by decide) (fun p e s m args below meth c C hnm => ?_)
  refine ao_start ?_
  refine aw_nl [some (.ref 181), some (.int 2), some (.ref 187), some (.int 0), some (.ref 190), some (.ref 191), some (.ref 192)] rfl ?_
  refine aw_ald_n C dX9_cuts_0 rfl ?_
  refine aw_iconst C 0 dX9_cuts_1 ki_0 ?_
  refine ao_put C [(181, .inr (9, (.int 0 :: .ref 182 :: .ref 183 :: .ref 184 :: .ref 185 :: .int 0 :: .int 0 :: .int 0 :: .ref 186 :: .int 0 :: .int 0 :: .int 0 :: .int (-1) :: .ref 187 :: .ref 188 :: .ref 189 :: .int 0 :: .ref 190 :: .ref 191 :: .ref 192 :: .ref 193 :: .ref 194 :: .int 0 :: .ref 195 :: .ref 196 :: .ref 197 :: .int 0 :: .ref 198 :: .ref 199 :: .ref 200 :: .ref 201 :: .ref 202 :: .ref 203 :: .int 0 :: .ref 204 :: .ref 205 :: .ref 206 :: .ref 207 :: .ref 208 :: .ref 209 :: .ref 210 :: .ref 211 :: .ref 212 :: .ref 213 :: .ref 214 :: .int 0 :: .ref 215 :: .ref 216 :: .int 0 :: .ref 217 :: .ref 218 :: .ref 219 :: .ref 220 :: .ref 221 :: .int 0 :: .int 0 :: .int 0 :: .int 0 :: .ref 222 :: .int 0 :: [])))] gf_X9_145 cf9 nf9_54 h181 (Nat.le_of_ble_eq_true rfl) rfl rfl dX9_cuts_2 rfl ?_
  refine aw_iload_n C dX9_cuts_5 rfl ?_
  refine aw_if_ne C 24 dX9_cuts_6 (by decide) (fun _ => ?_) (fun q => absurd q (by decide))
  refine aw_iload_n C dX9_cuts_24 rfl ?_
  refine aw_iconst C 1 dX9_cuts_25 ki_1 ?_
  refine aw_icmp_ne C 44 dX9_cuts_26 (by decide) (fun _ => ?_) (fun q => absurd q (by decide))
  refine aw_iload_n C dX9_cuts_44 rfl ?_
  refine aw_iconst C 2 dX9_cuts_45 ki_2 ?_
  refine aw_icmp_ne C 64 dX9_cuts_46 (by decide) (fun q => absurd (by decide) q) (fun _ => ?_)
  refine aw_ald_n C dX9_cuts_49 rfl ?_
  refine aw_ald_n C dX9_cuts_50 rfl ?_
  refine aw_iload_n C dX9_cuts_51 rfl ?_
  refine aw_ald C dX9_cuts_52 rfl ?_
  refine aw_ald C dX9_cuts_54 rfl ?_
  refine aw_ald C dX9_cuts_56 rfl ?_
  refine ao_callV C (ci := 9) (b := 181) [.ref 187, .int 0, .ref 190, .ref 191, .ref 192] [(181, .inr (9, (.int 0 :: .ref 182 :: .ref 183 :: .ref 184 :: .ref 185 :: .int 0 :: .int 0 :: .int 0 :: .ref 186 :: .int 0 :: .int 0 :: .int 0 :: .int (-1) :: .ref 187 :: .ref 188 :: .ref 189 :: .int 0 :: .ref 190 :: .ref 191 :: .ref 192 :: .ref 193 :: .ref 194 :: .int 0 :: .ref 195 :: .ref 196 :: .ref 197 :: .int 0 :: .ref 198 :: .ref 199 :: .ref 200 :: .ref 201 :: .ref 202 :: .ref 203 :: .int 0 :: .ref 204 :: .ref 205 :: .ref 206 :: .ref 207 :: .ref 208 :: .ref 209 :: .ref 210 :: .ref 211 :: .ref 212 :: .ref 213 :: .ref 214 :: .int 0 :: .ref 215 :: .ref 216 :: .int 0 :: .ref 217 :: .ref 218 :: .ref 219 :: .ref 220 :: .ref 221 :: .int 0 :: .int 0 :: .int 0 :: .int 0 :: .ref 222 :: .int 0 :: [])))] mv_X9_167 rfl rfl rfl (c_X9_cutsMarkup_302) rfl dX9_cuts_58 (Nat.le_of_ble_eq_true rfl) (Nat.le_of_ble_eq_true rfl) rfl (Nat.le_of_ble_eq_true rfl) (Nat.le_of_ble_eq_true rfl) (Nat.le_of_ble_eq_true rfl) rfl ?_
  refine aw_goto C 76 dX9_cuts_61 (by decide) ?_
  refine aw_ald_n C dX9_cuts_76 rfl ?_
  refine aw_get C gf_X9_145 rfl rfl dX9_cuts_77 ?_
  exact aw_iret C rfl rfl dX9_cuts_80 (Nat.le_of_ble_eq_true rfl) (Nat.le_of_ble_eq_true rfl) ⟨rfl, rfl, rfl⟩

set_option maxHeartbeats 4000000 in
set_option maxRecDepth 100000 in
theorem c_X9_cutsAll_304 {X : GX} {l : Launch} {f : AH} {n : Nat} (h181 : f 181 = some (.inr (9, (.int 0 :: .ref 182 :: .ref 183 :: .ref 184 :: .ref 185 :: .int 0 :: .int 0 :: .int 0 :: .ref 186 :: .int 0 :: .int 0 :: .int 0 :: .int (-1) :: .ref 187 :: .ref 188 :: .ref 189 :: .int 0 :: .ref 190 :: .ref 191 :: .ref 192 :: .ref 193 :: .ref 194 :: .int 0 :: .ref 195 :: .ref 196 :: .ref 197 :: .int 0 :: .ref 198 :: .ref 199 :: .ref 200 :: .ref 201 :: .ref 202 :: .ref 203 :: .int 0 :: .ref 204 :: .ref 205 :: .ref 206 :: .ref 207 :: .ref 208 :: .ref 209 :: .ref 210 :: .ref 211 :: .ref 212 :: .ref 213 :: .ref 214 :: .int 0 :: .ref 215 :: .ref 216 :: .int 0 :: .ref 217 :: .ref 218 :: .ref 219 :: .ref 220 :: .ref 221 :: .int 0 :: .int 0 :: .int 0 :: .int 0 :: .ref 222 :: .int 0 :: [])))) (h182 : f 182 = some (.inl (0, 4347, .inl (upd (tl (upd (upd (fun _ => 0) 2 (-1)) 4 1) 40) 1 2)))) : AM X l yX9_cutsAll cX9_cutsAll 5 none 2 0 0 [.ref 181] f n (EXO f [(181, .inr (9, (.int 0 :: .ref 182 :: .ref 183 :: .ref 184 :: .ref 185 :: .int 0 :: .int 0 :: .int 0 :: .ref 186 :: .int 0 :: .int 0 :: .int 0 :: .int (-1) :: .ref 187 :: .ref 188 :: .ref 189 :: .int 0 :: .ref 190 :: .ref 191 :: .ref 192 :: .ref 193 :: .ref 194 :: .int 0 :: .ref 195 :: .ref 196 :: .ref 197 :: .int 0 :: .ref 198 :: .ref 199 :: .ref 200 :: .ref 201 :: .ref 202 :: .ref 203 :: .int 0 :: .ref 204 :: .ref 205 :: .ref 206 :: .ref 207 :: .ref 208 :: .ref 209 :: .ref 210 :: .ref 211 :: .ref 212 :: .ref 213 :: .ref 214 :: .int 0 :: .ref 215 :: .ref 216 :: .int 0 :: .ref 217 :: .ref 218 :: .ref 219 :: .ref 220 :: .ref 221 :: .int 0 :: .int 0 :: .int 0 :: .int 0 :: .ref 222 :: .int 0 :: [])))] none n) := by
  refine AM.of (by decide +kernel) rfl (by decide) (fun p e s m args below meth c C hnm => ?_)
  refine ao_start ?_
  refine aw_nl [some (.ref 181), none, none, none, none] rfl ?_
  refine aw_ald_n C dX9_cutsAll_0 rfl ?_
  refine aw_iconst C 0 dX9_cutsAll_1 ki_0 ?_
  refine ao_put C [(181, .inr (9, (.int 0 :: .ref 182 :: .ref 183 :: .ref 184 :: .ref 185 :: .int 0 :: .int 0 :: .int 0 :: .ref 186 :: .int 0 :: .int 0 :: .int 0 :: .int (-1) :: .ref 187 :: .ref 188 :: .ref 189 :: .int 0 :: .ref 190 :: .ref 191 :: .ref 192 :: .ref 193 :: .ref 194 :: .int 0 :: .ref 195 :: .ref 196 :: .ref 197 :: .int 0 :: .ref 198 :: .ref 199 :: .ref 200 :: .ref 201 :: .ref 202 :: .ref 203 :: .int 0 :: .ref 204 :: .ref 205 :: .ref 206 :: .ref 207 :: .ref 208 :: .ref 209 :: .ref 210 :: .ref 211 :: .ref 212 :: .ref 213 :: .ref 214 :: .int 0 :: .ref 215 :: .ref 216 :: .int 0 :: .ref 217 :: .ref 218 :: .ref 219 :: .ref 220 :: .ref 221 :: .int 0 :: .int 0 :: .int 0 :: .int 0 :: .ref 222 :: .int 0 :: [])))] gf_X9_204 cf9 nf9_33 h181 (Nat.le_of_ble_eq_true rfl) rfl rfl dX9_cutsAll_2 rfl ?_
  refine aw_ald_n C dX9_cutsAll_5 rfl ?_
  refine aw_iconst C 0 dX9_cutsAll_6 ki_0 ?_
  refine ao_put C [(181, .inr (9, (.int 0 :: .ref 182 :: .ref 183 :: .ref 184 :: .ref 185 :: .int 0 :: .int 0 :: .int 0 :: .ref 186 :: .int 0 :: .int 0 :: .int 0 :: .int (-1) :: .ref 187 :: .ref 188 :: .ref 189 :: .int 0 :: .ref 190 :: .ref 191 :: .ref 192 :: .ref 193 :: .ref 194 :: .int 0 :: .ref 195 :: .ref 196 :: .ref 197 :: .int 0 :: .ref 198 :: .ref 199 :: .ref 200 :: .ref 201 :: .ref 202 :: .ref 203 :: .int 0 :: .ref 204 :: .ref 205 :: .ref 206 :: .ref 207 :: .ref 208 :: .ref 209 :: .ref 210 :: .ref 211 :: .ref 212 :: .ref 213 :: .ref 214 :: .int 0 :: .ref 215 :: .ref 216 :: .int 0 :: .ref 217 :: .ref 218 :: .ref 219 :: .ref 220 :: .ref 221 :: .int 0 :: .int 0 :: .int 0 :: .int 0 :: .ref 222 :: .int 0 :: [])))] gf_X9_217 cf9 nf9_45 rfl (Nat.le_of_ble_eq_true rfl) rfl rfl dX9_cutsAll_7 rfl ?_
  refine aw_iconst C 0 dX9_cutsAll_10 ki_0 ?_
  refine aw_istore_n C dX9_cutsAll_11 (by decide) rfl ?_
  refine aw_nl [some (.ref 181), some (.int 0), none, none, none] rfl ?_
  refine aw_iload_n C dX9_cutsAll_12 rfl ?_
  refine aw_ald_n C dX9_cutsAll_13 rfl ?_
  refine aw_get C gf_X9_220 rfl rfl dX9_cutsAll_14 ?_
  refine aw_icmp_ge C 42 dX9_cutsAll_17 (by decide) (fun _ => ?_) (fun q => absurd (by decide) q)
  refine aw_ald_n C dX9_cutsAll_42 rfl ?_
  refine aw_ald_n C dX9_cutsAll_43 rfl ?_
  refine aw_ald_n C dX9_cutsAll_44 rfl ?_
  refine aw_get C gf_X9_7 rfl rfl dX9_cutsAll_45 ?_
  refine aw_iconst C 1 dX9_cutsAll_48 ki_1 ?_
  refine ao_iald C 2 h182 (by unfold vp_in; decide) (by decide : _ = 1) rfl dX9_cutsAll_49 ?_
  refine aw_ald_n C dX9_cutsAll_50 rfl ?_
  refine aw_get C gf_X9_30 rfl rfl dX9_cutsAll_51 ?_
  refine aw_ald_n C dX9_cutsAll_54 rfl ?_
  refine aw_get C gf_X9_220 rfl rfl dX9_cutsAll_55 ?_
  refine aw_ald_n C dX9_cutsAll_58 rfl ?_
  refine aw_get C gf_X9_39 rfl rfl dX9_cutsAll_59 ?_
  refine aw_ald_n C dX9_cutsAll_62 rfl ?_
  refine aw_get C gf_X9_42 rfl rfl dX9_cutsAll_63 ?_
  refine aw_ald_n C dX9_cutsAll_66 rfl ?_
  refine aw_get C gf_X9_45 rfl rfl dX9_cutsAll_67 ?_
  refine ao_callV C (ci := 9) (b := 181) [.int 2, .ref 187, .int 0, .ref 190, .ref 191, .ref 192] [(181, .inr (9, (.int 0 :: .ref 182 :: .ref 183 :: .ref 184 :: .ref 185 :: .int 0 :: .int 0 :: .int 0 :: .ref 186 :: .int 0 :: .int 0 :: .int 0 :: .int (-1) :: .ref 187 :: .ref 188 :: .ref 189 :: .int 0 :: .ref 190 :: .ref 191 :: .ref 192 :: .ref 193 :: .ref 194 :: .int 0 :: .ref 195 :: .ref 196 :: .ref 197 :: .int 0 :: .ref 198 :: .ref 199 :: .ref 200 :: .ref 201 :: .ref 202 :: .ref 203 :: .int 0 :: .ref 204 :: .ref 205 :: .ref 206 :: .ref 207 :: .ref 208 :: .ref 209 :: .ref 210 :: .ref 211 :: .ref 212 :: .ref 213 :: .ref 214 :: .int 0 :: .ref 215 :: .ref 216 :: .int 0 :: .ref 217 :: .ref 218 :: .ref 219 :: .ref 220 :: .ref 221 :: .int 0 :: .int 0 :: .int 0 :: .int 0 :: .ref 222 :: .int 0 :: [])))] mv_X9_223 rfl rfl rfl (c_X9_cuts_303 rfl) rfl dX9_cutsAll_70 (Nat.le_of_ble_eq_true rfl) (Nat.le_of_ble_eq_true rfl) rfl (Nat.le_of_ble_eq_true rfl) (Nat.le_of_ble_eq_true rfl) (Nat.le_of_ble_eq_true rfl) rfl ?_
  refine ao_put C [(181, .inr (9, (.int 0 :: .ref 182 :: .ref 183 :: .ref 184 :: .ref 185 :: .int 0 :: .int 0 :: .int 0 :: .ref 186 :: .int 0 :: .int 0 :: .int 0 :: .int (-1) :: .ref 187 :: .ref 188 :: .ref 189 :: .int 0 :: .ref 190 :: .ref 191 :: .ref 192 :: .ref 193 :: .ref 194 :: .int 0 :: .ref 195 :: .ref 196 :: .ref 197 :: .int 0 :: .ref 198 :: .ref 199 :: .ref 200 :: .ref 201 :: .ref 202 :: .ref 203 :: .int 0 :: .ref 204 :: .ref 205 :: .ref 206 :: .ref 207 :: .ref 208 :: .ref 209 :: .ref 210 :: .ref 211 :: .ref 212 :: .ref 213 :: .ref 214 :: .int 0 :: .ref 215 :: .ref 216 :: .int 0 :: .ref 217 :: .ref 218 :: .ref 219 :: .ref 220 :: .ref 221 :: .int 0 :: .int 0 :: .int 0 :: .int 0 :: .ref 222 :: .int 0 :: [])))] gf_X9_227 cf9 nf9_22 rfl (Nat.le_of_ble_eq_true rfl) rfl rfl dX9_cutsAll_73 rfl ?_
  refine aw_iconst C 0 dX9_cutsAll_76 ki_0 ?_
  refine aw_istore_n C dX9_cutsAll_77 (by decide) rfl ?_
  refine aw_nl [some (.ref 181), some (.int 0), none, none, none] rfl ?_
  refine aw_iload_n C dX9_cutsAll_78 rfl ?_
  refine aw_ald_n C dX9_cutsAll_79 rfl ?_
  refine aw_get C gf_X9_227 rfl rfl dX9_cutsAll_80 ?_
  refine aw_icmp_ge C 339 dX9_cutsAll_83 (by decide) (fun _ => ?_) (fun q => absurd (by decide) q)
  exact aw_vret C rfl dX9_cutsAll_339 (Nat.le_of_ble_eq_true rfl) (Nat.le_of_ble_eq_true rfl) ⟨rfl, rfl, rfl⟩

set_option maxHeartbeats 4000000 in
set_option maxRecDepth 100000 in
theorem c_X9_cutsFile_305 {X : GX} {l : Launch} {f : AH} {n : Nat} (h181 : f 181 = some (.inr (9, (.int 0 :: .ref 182 :: .ref 183 :: .ref 184 :: .ref 185 :: .int 0 :: .int 0 :: .int 0 :: .ref 186 :: .int 0 :: .int 0 :: .int 0 :: .int (-1) :: .ref 187 :: .ref 188 :: .ref 189 :: .int 0 :: .ref 190 :: .ref 191 :: .ref 192 :: .ref 193 :: .ref 194 :: .int 0 :: .ref 195 :: .ref 196 :: .ref 197 :: .int 0 :: .ref 198 :: .ref 199 :: .ref 200 :: .ref 201 :: .ref 202 :: .ref 203 :: .int 0 :: .ref 204 :: .ref 205 :: .ref 206 :: .ref 207 :: .ref 208 :: .ref 209 :: .ref 210 :: .ref 211 :: .ref 212 :: .ref 213 :: .ref 214 :: .int 0 :: .ref 215 :: .ref 216 :: .int 0 :: .ref 217 :: .ref 218 :: .ref 219 :: .ref 220 :: .ref 221 :: .int 0 :: .int 0 :: .int 0 :: .int 0 :: .ref 222 :: .int 0 :: [])))) (h182 : f 182 = some (.inl (0, 4347, .inl (upd (tl (upd (upd (fun _ => 0) 2 (-1)) 4 1) 40) 1 2)))) : AM X l yX9_cutsFile cX9_cutsFile 2 none 3 0 0 [.ref 181] f n (EXO f [(181, .inr (9, (.int 0 :: .ref 182 :: .ref 183 :: .ref 184 :: .ref 185 :: .int 0 :: .int 0 :: .int 0 :: .ref 186 :: .int 0 :: .int 0 :: .int 0 :: .int (-1) :: .ref 187 :: .ref 188 :: .ref 189 :: .int 0 :: .ref 190 :: .ref 191 :: .ref 192 :: .ref 193 :: .ref 194 :: .int 0 :: .ref 195 :: .ref 196 :: .ref 197 :: .int 0 :: .ref 198 :: .ref 199 :: .ref 200 :: .ref 201 :: .ref 202 :: .ref 203 :: .int 0 :: .ref 204 :: .ref 205 :: .ref 206 :: .ref 207 :: .ref 208 :: .ref 209 :: .ref 210 :: .ref 211 :: .ref 212 :: .ref 213 :: .ref 214 :: .int 0 :: .ref 215 :: .ref 216 :: .int 0 :: .ref 217 :: .ref 218 :: .ref 219 :: .ref 220 :: .ref 221 :: .int 0 :: .int 0 :: .int 0 :: .int 0 :: .ref 222 :: .int 0 :: [])))] none n) := by
  refine AM.of (by decide +kernel) rfl (by decide) (fun p e s m args below meth c C hnm => ?_)
  refine ao_start ?_
  refine aw_nl [some (.ref 181), none] rfl ?_
  refine aw_ald_n C dX9_cutsFile_0 rfl ?_
  refine aw_ald_n C dX9_cutsFile_1 rfl ?_
  refine aw_get C gf_X9_7 h181 rfl dX9_cutsFile_2 ?_
  refine aw_iconst C 0 dX9_cutsFile_5 ki_0 ?_
  refine ao_iald C 0 h182 (by unfold vp_in; decide) (by decide : _ = 0) rfl dX9_cutsFile_6 ?_
  refine ao_put C [(181, .inr (9, (.int 0 :: .ref 182 :: .ref 183 :: .ref 184 :: .ref 185 :: .int 0 :: .int 0 :: .int 0 :: .ref 186 :: .int 0 :: .int 0 :: .int 0 :: .int (-1) :: .ref 187 :: .ref 188 :: .ref 189 :: .int 0 :: .ref 190 :: .ref 191 :: .ref 192 :: .ref 193 :: .ref 194 :: .int 0 :: .ref 195 :: .ref 196 :: .ref 197 :: .int 0 :: .ref 198 :: .ref 199 :: .ref 200 :: .ref 201 :: .ref 202 :: .ref 203 :: .int 0 :: .ref 204 :: .ref 205 :: .ref 206 :: .ref 207 :: .ref 208 :: .ref 209 :: .ref 210 :: .ref 211 :: .ref 212 :: .ref 213 :: .ref 214 :: .int 0 :: .ref 215 :: .ref 216 :: .int 0 :: .ref 217 :: .ref 218 :: .ref 219 :: .ref 220 :: .ref 221 :: .int 0 :: .int 0 :: .int 0 :: .int 0 :: .ref 222 :: .int 0 :: [])))] gf_X9_220 cf9 nf9_16 h181 (Nat.le_of_ble_eq_true rfl) rfl rfl dX9_cutsFile_7 rfl ?_
  refine aw_iconst C 0 dX9_cutsFile_10 ki_0 ?_
  refine aw_istore_n C dX9_cutsFile_11 (by decide) rfl ?_
  refine aw_nl [some (.ref 181), some (.int 0)] rfl ?_
  refine aw_iload_n C dX9_cutsFile_12 rfl ?_
  refine aw_ald_n C dX9_cutsFile_13 rfl ?_
  refine aw_get C gf_X9_220 rfl rfl dX9_cutsFile_14 ?_
  refine aw_icmp_ge C 41 dX9_cutsFile_17 (by decide) (fun _ => ?_) (fun q => absurd (by decide) q)
  refine aw_ald_n C dX9_cutsFile_41 rfl ?_
  refine ao_callV C (ci := 9) (b := 181) [] [(181, .inr (9, (.int 0 :: .ref 182 :: .ref 183 :: .ref 184 :: .ref 185 :: .int 0 :: .int 0 :: .int 0 :: .ref 186 :: .int 0 :: .int 0 :: .int 0 :: .int (-1) :: .ref 187 :: .ref 188 :: .ref 189 :: .int 0 :: .ref 190 :: .ref 191 :: .ref 192 :: .ref 193 :: .ref 194 :: .int 0 :: .ref 195 :: .ref 196 :: .ref 197 :: .int 0 :: .ref 198 :: .ref 199 :: .ref 200 :: .ref 201 :: .ref 202 :: .ref 203 :: .int 0 :: .ref 204 :: .ref 205 :: .ref 206 :: .ref 207 :: .ref 208 :: .ref 209 :: .ref 210 :: .ref 211 :: .ref 212 :: .ref 213 :: .ref 214 :: .int 0 :: .ref 215 :: .ref 216 :: .int 0 :: .ref 217 :: .ref 218 :: .ref 219 :: .ref 220 :: .ref 221 :: .int 0 :: .int 0 :: .int 0 :: .int 0 :: .ref 222 :: .int 0 :: [])))] mv_X9_241 rfl rfl rfl (c_X9_cutsAll_304 rfl h182) rfl dX9_cutsFile_42 (Nat.le_of_ble_eq_true rfl) (Nat.le_of_ble_eq_true rfl) rfl (Nat.le_of_ble_eq_true rfl) (Nat.le_of_ble_eq_true rfl) (Nat.le_of_ble_eq_true rfl) rfl ?_
  exact aw_vret C rfl dX9_cutsFile_45 (Nat.le_of_ble_eq_true rfl) (Nat.le_of_ble_eq_true rfl) ⟨rfl, rfl, rfl⟩

set_option maxHeartbeats 4000000 in
set_option maxRecDepth 100000 in
theorem c_X9_cutsAnew_306 {X : GX} {l : Launch} {f : AH} {n : Nat} (h181 : f 181 = some (.inr (9, (.int 0 :: .ref 182 :: .ref 183 :: .ref 184 :: .ref 185 :: .int 0 :: .int 0 :: .int 0 :: .ref 186 :: .int 0 :: .int 0 :: .int 0 :: .int (-1) :: .ref 187 :: .ref 188 :: .ref 189 :: .int 0 :: .ref 190 :: .ref 191 :: .ref 192 :: .ref 193 :: .ref 194 :: .int 0 :: .ref 195 :: .ref 196 :: .ref 197 :: .int 0 :: .ref 198 :: .ref 199 :: .ref 200 :: .ref 201 :: .ref 202 :: .ref 203 :: .int 0 :: .ref 204 :: .ref 205 :: .ref 206 :: .ref 207 :: .ref 208 :: .ref 209 :: .ref 210 :: .ref 211 :: .ref 212 :: .ref 213 :: .ref 214 :: .int 0 :: .ref 215 :: .ref 216 :: .int 0 :: .ref 217 :: .ref 218 :: .ref 219 :: .ref 220 :: .ref 221 :: .int 0 :: .int 0 :: .int 0 :: .int 0 :: .ref 222 :: .int 0 :: [])))) (h182 : f 182 = some (.inl (0, 4347, .inl (upd (tl (upd (upd (fun _ => 0) 2 (-1)) 4 1) 40) 1 2)))) : AM X l yX9_cutsAnew cX9_cutsAnew 2 none 4 0 0 [.ref 181] f n (EXO f [(181, .inr (9, (.int 0 :: .ref 182 :: .ref 183 :: .ref 184 :: .ref 185 :: .int 0 :: .int 0 :: .int 0 :: .ref 186 :: .int 0 :: .int 0 :: .int 0 :: .int (-1) :: .ref 187 :: .ref 188 :: .ref 189 :: .int 0 :: .ref 190 :: .ref 191 :: .ref 192 :: .ref 193 :: .ref 194 :: .int 0 :: .ref 195 :: .ref 196 :: .ref 197 :: .int 0 :: .ref 198 :: .ref 199 :: .ref 200 :: .ref 201 :: .ref 202 :: .ref 203 :: .int 0 :: .ref 204 :: .ref 205 :: .ref 206 :: .ref 207 :: .ref 208 :: .ref 209 :: .ref 210 :: .ref 211 :: .ref 212 :: .ref 213 :: .ref 214 :: .int 0 :: .ref 215 :: .ref 216 :: .int 0 :: .ref 217 :: .ref 218 :: .ref 219 :: .ref 220 :: .ref 221 :: .int 0 :: .int 0 :: .int 0 :: .int 0 :: .ref 222 :: .int 0 :: []))), (182, .inl (0, 4347, .inl (tl (upd (tl (upd (upd (fun _ => 0) 2 (-1)) 4 1) 40) 1 2) 40)))] none n) := by
  refine AM.of (by decide +kernel) rfl (by decide) (fun p e s m args below meth c C hnm => ?_)
  refine ao_start ?_
  refine aw_nl [some (.ref 181), none] rfl ?_
  refine aw_ald_n C dX9_cutsAnew_0 rfl ?_
  refine ao_callV C (ci := 9) (b := 181) [] [(181, .inr (9, (.int 0 :: .ref 182 :: .ref 183 :: .ref 184 :: .ref 185 :: .int 0 :: .int 0 :: .int 0 :: .ref 186 :: .int 0 :: .int 0 :: .int 0 :: .int (-1) :: .ref 187 :: .ref 188 :: .ref 189 :: .int 0 :: .ref 190 :: .ref 191 :: .ref 192 :: .ref 193 :: .ref 194 :: .int 0 :: .ref 195 :: .ref 196 :: .ref 197 :: .int 0 :: .ref 198 :: .ref 199 :: .ref 200 :: .ref 201 :: .ref 202 :: .ref 203 :: .int 0 :: .ref 204 :: .ref 205 :: .ref 206 :: .ref 207 :: .ref 208 :: .ref 209 :: .ref 210 :: .ref 211 :: .ref 212 :: .ref 213 :: .ref 214 :: .int 0 :: .ref 215 :: .ref 216 :: .int 0 :: .ref 217 :: .ref 218 :: .ref 219 :: .ref 220 :: .ref 221 :: .int 0 :: .int 0 :: .int 0 :: .int 0 :: .ref 222 :: .int 0 :: [])))] mv_X9_244 rfl rfl h181 (c_X9_cutsFile_305 h181 h182) rfl dX9_cutsAnew_1 (Nat.le_of_ble_eq_true rfl) (Nat.le_of_ble_eq_true rfl) rfl (Nat.le_of_ble_eq_true rfl) (Nat.le_of_ble_eq_true rfl) (Nat.le_of_ble_eq_true rfl) rfl ?_
  refine aw_iconst C 0 dX9_cutsAnew_4 ki_0 ?_
  refine aw_istore_n C dX9_cutsAnew_5 (by decide) rfl ?_
  refine aw_nl [some (.ref 181), some (.int 0)] rfl ?_
  refine lp_X9_cutsAnew C (M := 181) (a := 182) (fs := (.int 0 :: .ref 182 :: .ref 183 :: .ref 184 :: .ref 185 :: .int 0 :: .int 0 :: .int 0 :: .ref 186 :: .int 0 :: .int 0 :: .int 0 :: .int (-1) :: .ref 187 :: .ref 188 :: .ref 189 :: .int 0 :: .ref 190 :: .ref 191 :: .ref 192 :: .ref 193 :: .ref 194 :: .int 0 :: .ref 195 :: .ref 196 :: .ref 197 :: .int 0 :: .ref 198 :: .ref 199 :: .ref 200 :: .ref 201 :: .ref 202 :: .ref 203 :: .int 0 :: .ref 204 :: .ref 205 :: .ref 206 :: .ref 207 :: .ref 208 :: .ref 209 :: .ref 210 :: .ref 211 :: .ref 212 :: .ref 213 :: .ref 214 :: .int 0 :: .ref 215 :: .ref 216 :: .int 0 :: .ref 217 :: .ref 218 :: .ref 219 :: .ref 220 :: .ref 221 :: .int 0 :: .int 0 :: .int 0 :: .int 0 :: .ref 222 :: .int 0 :: [])) (g := upd (tl (upd (upd (fun _ => 0) 2 (-1)) 4 1) 40) 1 2) [(181, .inr (9, (.int 0 :: .ref 182 :: .ref 183 :: .ref 184 :: .ref 185 :: .int 0 :: .int 0 :: .int 0 :: .ref 186 :: .int 0 :: .int 0 :: .int 0 :: .int (-1) :: .ref 187 :: .ref 188 :: .ref 189 :: .int 0 :: .ref 190 :: .ref 191 :: .ref 192 :: .ref 193 :: .ref 194 :: .int 0 :: .ref 195 :: .ref 196 :: .ref 197 :: .int 0 :: .ref 198 :: .ref 199 :: .ref 200 :: .ref 201 :: .ref 202 :: .ref 203 :: .int 0 :: .ref 204 :: .ref 205 :: .ref 206 :: .ref 207 :: .ref 208 :: .ref 209 :: .ref 210 :: .ref 211 :: .ref 212 :: .ref 213 :: .ref 214 :: .int 0 :: .ref 215 :: .ref 216 :: .int 0 :: .ref 217 :: .ref 218 :: .ref 219 :: .ref 220 :: .ref 221 :: .int 0 :: .int 0 :: .int 0 :: .int 0 :: .ref 222 :: .int 0 :: []))), (182, .inl (0, 4347, .inl (tl (upd (tl (upd (upd (fun _ => 0) 2 (-1)) 4 1) 40) 1 2) 40)))] rfl rfl (by decide) h182 rfl ?_
  exact aw_vret C rfl dX9_cutsAnew_32 (Nat.le_of_ble_eq_true rfl) (Nat.le_of_ble_eq_true rfl) ⟨rfl, rfl, rfl⟩

set_option maxHeartbeats 4000000 in
set_option maxRecDepth 100000 in
theorem c_X9_rules_307 {X : GX} {l : Launch} {f : AH} {n : Nat} (h181 : f 181 = some (.inr (9, (.int 0 :: .ref 182 :: .ref 183 :: .ref 184 :: .ref 185 :: .int 0 :: .int 0 :: .int 0 :: .ref 186 :: .int 0 :: .int 0 :: .int 0 :: .int (-1) :: .ref 187 :: .ref 188 :: .ref 189 :: .int 0 :: .ref 190 :: .ref 191 :: .ref 192 :: .ref 193 :: .ref 194 :: .int 0 :: .ref 195 :: .ref 196 :: .ref 197 :: .int 0 :: .ref 198 :: .ref 199 :: .ref 200 :: .ref 201 :: .ref 202 :: .ref 203 :: .int 0 :: .ref 204 :: .ref 205 :: .ref 206 :: .ref 207 :: .ref 208 :: .ref 209 :: .ref 210 :: .ref 211 :: .ref 212 :: .ref 213 :: .ref 214 :: .int 0 :: .ref 215 :: .ref 216 :: .int 0 :: .ref 217 :: .ref 218 :: .ref 219 :: .ref 220 :: .ref 221 :: .int 0 :: .int 0 :: .int 0 :: .int 0 :: .ref 222 :: .int 0 :: [])))) (h182 : f 182 = some (.inl (0, 4347, .inl (tl (upd (upd (fun _ => 0) 2 (-1)) 4 1) 40)))) : AM X l yX9_rules cX9_rules 3 (some .int) 5 0 0 [.ref 181, .int 1, .int 2] f n (EXO f [(182, .inl (0, 4347, .inl (tl (upd (tl (upd (upd (fun _ => 0) 2 (-1)) 4 1) 40) 1 2) 40))), (181, .inr (9, (.int 0 :: .ref 182 :: .ref 183 :: .ref 184 :: .ref 185 :: .int 0 :: .int 0 :: .int 0 :: .ref 186 :: .int 0 :: .int 0 :: .int 0 :: .int (-1) :: .ref 187 :: .ref 188 :: .ref 189 :: .int 0 :: .ref 190 :: .ref 191 :: .ref 192 :: .ref 193 :: .ref 194 :: .int 0 :: .ref 195 :: .ref 196 :: .ref 197 :: .int 0 :: .ref 198 :: .ref 199 :: .ref 200 :: .ref 201 :: .ref 202 :: .ref 203 :: .int 0 :: .ref 204 :: .ref 205 :: .ref 206 :: .ref 207 :: .ref 208 :: .ref 209 :: .ref 210 :: .ref 211 :: .ref 212 :: .ref 213 :: .ref 214 :: .int 0 :: .ref 215 :: .ref 216 :: .int 0 :: .ref 217 :: .ref 218 :: .ref 219 :: .ref 220 :: .ref 221 :: .int 0 :: .int 0 :: .int 0 :: .int 0 :: .ref 222 :: .int 0 :: [])))] (some (.int 0)) n) := by
  refine AM.of (by decide +kernel) rfl (by decide) (fun p e s m args below meth c C hnm => ?_)
  refine ao_start ?_
  refine aw_nl [some (.ref 181), some (.int 1), some (.int 2)] rfl ?_
  refine aw_ald_n C dX9_rules_0 rfl ?_
  refine aw_get C gf_X9_7 h181 rfl dX9_rules_1 ?_
  refine aw_iload_n C dX9_rules_4 rfl ?_
  refine aw_iload_n C dX9_rules_5 rfl ?_
  refine ao_iast C [(182, .inl (0, 4347, .inl (upd (tl (upd (upd (fun _ => 0) 2 (-1)) 4 1) 40) 1 2)))] h182 (by unfold vp_in; decide) (by decide : _ = 1) dX9_rules_6 rfl ?_
  refine aw_ald_n C dX9_rules_7 rfl ?_
  refine ao_callV C (ci := 9) (b := 181) [] [(182, .inl (0, 4347, .inl (tl (upd (tl (upd (upd (fun _ => 0) 2 (-1)) 4 1) 40) 1 2) 40))), (181, .inr (9, (.int 0 :: .ref 182 :: .ref 183 :: .ref 184 :: .ref 185 :: .int 0 :: .int 0 :: .int 0 :: .ref 186 :: .int 0 :: .int 0 :: .int 0 :: .int (-1) :: .ref 187 :: .ref 188 :: .ref 189 :: .int 0 :: .ref 190 :: .ref 191 :: .ref 192 :: .ref 193 :: .ref 194 :: .int 0 :: .ref 195 :: .ref 196 :: .ref 197 :: .int 0 :: .ref 198 :: .ref 199 :: .ref 200 :: .ref 201 :: .ref 202 :: .ref 203 :: .int 0 :: .ref 204 :: .ref 205 :: .ref 206 :: .ref 207 :: .ref 208 :: .ref 209 :: .ref 210 :: .ref 211 :: .ref 212 :: .ref 213 :: .ref 214 :: .int 0 :: .ref 215 :: .ref 216 :: .int 0 :: .ref 217 :: .ref 218 :: .ref 219 :: .ref 220 :: .ref 221 :: .int 0 :: .int 0 :: .int 0 :: .int 0 :: .ref 222 :: .int 0 :: [])))] mv_X9_322 rfl rfl h181 (c_X9_cutsAnew_306 h181 rfl) rfl dX9_rules_8 (Nat.le_of_ble_eq_true rfl) (Nat.le_of_ble_eq_true rfl) rfl (Nat.le_of_ble_eq_true rfl) (Nat.le_of_ble_eq_true rfl) (Nat.le_of_ble_eq_true rfl) rfl ?_
  refine aw_iconst C 0 dX9_rules_11 ki_0 ?_
  exact aw_iret C rfl rfl dX9_rules_12 (Nat.le_of_ble_eq_true rfl) (Nat.le_of_ble_eq_true rfl) ⟨rfl, rfl, rfl⟩

set_option maxHeartbeats 4000000 in
set_option maxRecDepth 100000 in
theorem c_X9_kind_308 {X : GX} {l : Launch} {f : AH} {n : Nat} (h181 : f 181 = some (.inr (9, (.int 0 :: .ref 182 :: .ref 183 :: .ref 184 :: .ref 185 :: .int 0 :: .int 0 :: .int 0 :: .ref 186 :: .int 0 :: .int 0 :: .int 0 :: .int (-1) :: .ref 187 :: .ref 188 :: .ref 189 :: .int 0 :: .ref 190 :: .ref 191 :: .ref 192 :: .ref 193 :: .ref 194 :: .int 0 :: .ref 195 :: .ref 196 :: .ref 197 :: .int 0 :: .ref 198 :: .ref 199 :: .ref 200 :: .ref 201 :: .ref 202 :: .ref 203 :: .int 0 :: .ref 204 :: .ref 205 :: .ref 206 :: .ref 207 :: .ref 208 :: .ref 209 :: .ref 210 :: .ref 211 :: .ref 212 :: .ref 213 :: .ref 214 :: .int 0 :: .ref 215 :: .ref 216 :: .int 0 :: .ref 217 :: .ref 218 :: .ref 219 :: .ref 220 :: .ref 221 :: .int 0 :: .int 0 :: .int 0 :: .int 0 :: .ref 222 :: .int 0 :: [])))) (h183 : f 183 = some (.inl (0, 4347, .inl (fun _ => 0)))) (h182 : f 182 = some (.inl (0, 4347, .inl (tl (upd (upd (fun _ => 0) 2 (-1)) 4 1) 40)))) (h185 : f 185 = some (.inl (0, 34776, .inl (fun _ => 0)))) : AM X l yX9_kind cX9_kind 3 (some .int) 6 0 0 [.ref 181, .int 2, .int 0] f n (EXO f [(181, .inr (9, (.int 0 :: .ref 182 :: .ref 183 :: .ref 184 :: .ref 185 :: .int 1 :: .int 0 :: .int 0 :: .ref 186 :: .int 0 :: .int 0 :: .int 0 :: .int (-1) :: .ref 187 :: .ref 188 :: .ref 189 :: .int 0 :: .ref 190 :: .ref 191 :: .ref 192 :: .ref 193 :: .ref 194 :: .int 0 :: .ref 195 :: .ref 196 :: .ref 197 :: .int 0 :: .ref 198 :: .ref 199 :: .ref 200 :: .ref 201 :: .ref 202 :: .ref 203 :: .int 0 :: .ref 204 :: .ref 205 :: .ref 206 :: .ref 207 :: .ref 208 :: .ref 209 :: .ref 210 :: .ref 211 :: .ref 212 :: .ref 213 :: .ref 214 :: .int 0 :: .ref 215 :: .ref 216 :: .int 0 :: .ref 217 :: .ref 218 :: .ref 219 :: .ref 220 :: .ref 221 :: .int 0 :: .int 0 :: .int 0 :: .int 0 :: .ref 222 :: .int 0 :: []))), (183, .inl (0, 4347, .inl (cpy (tl (upd (upd (fun _ => 0) 2 (-1)) 4 1) 40) (fun _ => 0) 4347))), (182, .inl (0, 4347, .inl (tl (upd (tl (upd (upd (fun _ => 0) 2 (-1)) 4 1) 40) 1 2) 40))), (185, .inl (0, 34776, .inl (cpy (cpy (tl (upd (upd (fun _ => 0) 2 (-1)) 4 1) 40) (fun _ => 0) 4347) (fun _ => 0) 4347)))] (some (.int 0)) n) := by
  refine AM.of (by decide +kernel) rfl (by decide) (fun p e s m args below meth c C hnm => ?_)
  refine ao_start ?_
  refine aw_nl [some (.ref 181), some (.int 2), some (.int 0)] rfl ?_
  refine aw_ald_n C dX9_kind_0 rfl ?_
  refine aw_iload_n C dX9_kind_1 rfl ?_
  refine aw_iload_n C dX9_kind_2 rfl ?_
  refine aw_if_eq C 10 dX9_kind_3 (by decide) (fun _ => ?_) (fun q => absurd (by decide) q)
  refine aw_iconst C 0 dX9_kind_10 ki_0 ?_
  refine aw_iconst C 3 dX9_kind_11 ki_3 ?_
  refine ao_callS C [.int 2, .int 0, .int 3] [] ms_X9_141 (c_X9_isIn_301) rfl dX9_kind_12 (Nat.le_of_ble_eq_true rfl) (Nat.le_of_ble_eq_true rfl) rfl (Nat.le_of_ble_eq_true rfl) (Nat.le_of_ble_eq_true rfl) (Nat.le_of_ble_eq_true rfl) rfl ?_
  refine aw_if_eq C 22 dX9_kind_15 (by decide) (fun q => absurd q (by decide)) (fun _ => ?_)
  refine aw_iconst C 0 dX9_kind_18 ki_0 ?_
  refine aw_goto C 23 dX9_kind_19 (by decide) ?_
  refine ao_put C [(181, .inr (9, (.int 0 :: .ref 182 :: .ref 183 :: .ref 184 :: .ref 185 :: .int 0 :: .int 0 :: .int 0 :: .ref 186 :: .int 0 :: .int 0 :: .int 0 :: .int (-1) :: .ref 187 :: .ref 188 :: .ref 189 :: .int 0 :: .ref 190 :: .ref 191 :: .ref 192 :: .ref 193 :: .ref 194 :: .int 0 :: .ref 195 :: .ref 196 :: .ref 197 :: .int 0 :: .ref 198 :: .ref 199 :: .ref 200 :: .ref 201 :: .ref 202 :: .ref 203 :: .int 0 :: .ref 204 :: .ref 205 :: .ref 206 :: .ref 207 :: .ref 208 :: .ref 209 :: .ref 210 :: .ref 211 :: .ref 212 :: .ref 213 :: .ref 214 :: .int 0 :: .ref 215 :: .ref 216 :: .int 0 :: .ref 217 :: .ref 218 :: .ref 219 :: .ref 220 :: .ref 221 :: .int 0 :: .int 0 :: .int 0 :: .int 0 :: .ref 222 :: .int 0 :: [])))] gf_X9_138 cf9 nf9_0 h181 (Nat.le_of_ble_eq_true rfl) rfl rfl dX9_kind_23 rfl ?_
  refine aw_ald_n C dX9_kind_26 rfl ?_
  refine aw_get C gf_X9_138 rfl rfl dX9_kind_27 ?_
  refine aw_if_le C 35 dX9_kind_30 (by decide) (fun _ => ?_) (fun q => absurd (by decide) q)
  refine aw_ald_n C dX9_kind_35 rfl ?_
  refine ao_callV C (ci := 9) (b := 181) [] [(181, .inr (9, (.int 0 :: .ref 182 :: .ref 183 :: .ref 184 :: .ref 185 :: .int 0 :: .int 0 :: .int 0 :: .ref 186 :: .int 0 :: .int 0 :: .int 0 :: .int (-1) :: .ref 187 :: .ref 188 :: .ref 189 :: .int 0 :: .ref 190 :: .ref 191 :: .ref 192 :: .ref 193 :: .ref 194 :: .int 0 :: .ref 195 :: .ref 196 :: .ref 197 :: .int 0 :: .ref 198 :: .ref 199 :: .ref 200 :: .ref 201 :: .ref 202 :: .ref 203 :: .int 0 :: .ref 204 :: .ref 205 :: .ref 206 :: .ref 207 :: .ref 208 :: .ref 209 :: .ref 210 :: .ref 211 :: .ref 212 :: .ref 213 :: .ref 214 :: .int 0 :: .ref 215 :: .ref 216 :: .int 0 :: .ref 217 :: .ref 218 :: .ref 219 :: .ref 220 :: .ref 221 :: .int 0 :: .int 0 :: .int 0 :: .int 0 :: .ref 222 :: .int 0 :: []))), (183, .inl (0, 4347, .inl (cpy (tl (upd (upd (fun _ => 0) 2 (-1)) 4 1) 40) (fun _ => 0) 4347)))] mv_X9_420 rfl rfl rfl (c_X9_putsAside_173 rfl h183 h182) rfl dX9_kind_36 (Nat.le_of_ble_eq_true rfl) (Nat.le_of_ble_eq_true rfl) rfl (Nat.le_of_ble_eq_true rfl) (Nat.le_of_ble_eq_true rfl) (Nat.le_of_ble_eq_true rfl) rfl ?_
  refine aw_ald_n C dX9_kind_39 rfl ?_
  refine aw_ald_n C dX9_kind_40 rfl ?_
  refine aw_iload_n C dX9_kind_41 rfl ?_
  refine aw_if_eq C 49 dX9_kind_42 (by decide) (fun _ => ?_) (fun q => absurd (by decide) q)
  refine aw_iconst C 1 dX9_kind_49 ki_1 ?_
  refine aw_iload_n C dX9_kind_50 rfl ?_
  refine ao_callV C (ci := 9) (b := 181) [.int 1, .int 2] [(181, .inr (9, (.int 0 :: .ref 182 :: .ref 183 :: .ref 184 :: .ref 185 :: .int 0 :: .int 0 :: .int 0 :: .ref 186 :: .int 0 :: .int 0 :: .int 0 :: .int (-1) :: .ref 187 :: .ref 188 :: .ref 189 :: .int 0 :: .ref 190 :: .ref 191 :: .ref 192 :: .ref 193 :: .ref 194 :: .int 0 :: .ref 195 :: .ref 196 :: .ref 197 :: .int 0 :: .ref 198 :: .ref 199 :: .ref 200 :: .ref 201 :: .ref 202 :: .ref 203 :: .int 0 :: .ref 204 :: .ref 205 :: .ref 206 :: .ref 207 :: .ref 208 :: .ref 209 :: .ref 210 :: .ref 211 :: .ref 212 :: .ref 213 :: .ref 214 :: .int 0 :: .ref 215 :: .ref 216 :: .int 0 :: .ref 217 :: .ref 218 :: .ref 219 :: .ref 220 :: .ref 221 :: .int 0 :: .int 0 :: .int 0 :: .int 0 :: .ref 222 :: .int 0 :: []))), (183, .inl (0, 4347, .inl (cpy (tl (upd (upd (fun _ => 0) 2 (-1)) 4 1) 40) (fun _ => 0) 4347))), (182, .inl (0, 4347, .inl (tl (upd (tl (upd (upd (fun _ => 0) 2 (-1)) 4 1) 40) 1 2) 40)))] mv_X9_361 rfl rfl rfl (c_X9_rules_307 rfl h182) rfl dX9_kind_51 (Nat.le_of_ble_eq_true rfl) (Nat.le_of_ble_eq_true rfl) rfl (Nat.le_of_ble_eq_true rfl) (Nat.le_of_ble_eq_true rfl) (Nat.le_of_ble_eq_true rfl) rfl ?_
  refine aw_iconst C 0 dX9_kind_54 ki_0 ?_
  refine ao_callV C (ci := 9) (b := 181) [.int 0, .int 0] [(181, .inr (9, (.int 0 :: .ref 182 :: .ref 183 :: .ref 184 :: .ref 185 :: .int 1 :: .int 0 :: .int 0 :: .ref 186 :: .int 0 :: .int 0 :: .int 0 :: .int (-1) :: .ref 187 :: .ref 188 :: .ref 189 :: .int 0 :: .ref 190 :: .ref 191 :: .ref 192 :: .ref 193 :: .ref 194 :: .int 0 :: .ref 195 :: .ref 196 :: .ref 197 :: .int 0 :: .ref 198 :: .ref 199 :: .ref 200 :: .ref 201 :: .ref 202 :: .ref 203 :: .int 0 :: .ref 204 :: .ref 205 :: .ref 206 :: .ref 207 :: .ref 208 :: .ref 209 :: .ref 210 :: .ref 211 :: .ref 212 :: .ref 213 :: .ref 214 :: .int 0 :: .ref 215 :: .ref 216 :: .int 0 :: .ref 217 :: .ref 218 :: .ref 219 :: .ref 220 :: .ref 221 :: .int 0 :: .int 0 :: .int 0 :: .int 0 :: .ref 222 :: .int 0 :: []))), (183, .inl (0, 4347, .inl (cpy (tl (upd (upd (fun _ => 0) 2 (-1)) 4 1) 40) (fun _ => 0) 4347))), (182, .inl (0, 4347, .inl (tl (upd (tl (upd (upd (fun _ => 0) 2 (-1)) 4 1) 40) 1 2) 40))), (185, .inl (0, 34776, .inl (cpy (cpy (tl (upd (upd (fun _ => 0) 2 (-1)) 4 1) 40) (fun _ => 0) 4347) (fun _ => 0) 4347)))] mv_X9_429 rfl rfl rfl (c_X9_isDone_237 rfl h185 rfl) rfl dX9_kind_55 (Nat.le_of_ble_eq_true rfl) (Nat.le_of_ble_eq_true rfl) rfl (Nat.le_of_ble_eq_true rfl) (Nat.le_of_ble_eq_true rfl) (Nat.le_of_ble_eq_true rfl) rfl ?_
  refine aw_if_eq C 68 dX9_kind_58 (by decide) (fun q => absurd q (by decide)) (fun _ => ?_)
  refine aw_ald_n C dX9_kind_61 rfl ?_
  refine aw_get C gf_X9_204 rfl rfl dX9_kind_62 ?_
  refine aw_goto C 69 dX9_kind_65 (by decide) ?_
  exact aw_iret C rfl rfl dX9_kind_69 (Nat.le_of_ble_eq_true rfl) (Nat.le_of_ble_eq_true rfl) ⟨rfl, rfl, rfl⟩

set_option maxHeartbeats 4000000 in
set_option maxRecDepth 100000 in
theorem c_X7_forgetTold_309 {X : GX} {l : Launch} {f : AH} {n : Nat} (h3 : f 3 = some (.inr (7, [.ref 4, .int 0, .int 2, .int 0, .int 1, .int 0, .null, .int 0, .ref 6, .ref 7]))) (h7 : f 7 = some (.inl (2, 40, .inr (.inr (fun _ => none))))) : AM X l yX7_forgetTold cX7_forgetTold 2 none 0 0 0 [.ref 3] f n (EXO f [] none n) := by
  refine AM.of (by decide +kernel) rfl (by decide) (fun p e s m args below meth c C hnm => ?_)
  refine ao_start ?_
  refine aw_nl [some (.ref 3), none] rfl ?_
  refine aw_iconst C 0 dX7_forgetTold_0 ki_0 ?_
  refine aw_istore_n C dX7_forgetTold_1 (by decide) rfl ?_
  refine aw_nl [some (.ref 3), some (.int 0)] rfl ?_
  refine lz_forget C (f := ovl f []) (S := 3) (a := 7) (fs := [.ref 4, .int 0, .int 2, .int 0, .int 1, .int 0, .null, .int 0, .ref 6, .ref 7]) h3 rfl h7 ?_ 40 0 rfl
  exact aw_vret C rfl dX7_forgetTold_24 (Nat.le_of_ble_eq_true rfl) (Nat.le_of_ble_eq_true rfl) ⟨rfl, rfl, rfl⟩

set_option maxHeartbeats 4000000 in
set_option maxRecDepth 100000 in
theorem c_X1_find_310 {X : GX} {l : Launch} {f : AH} {n : Nat} {g74 : Nat → Option Nat} (h59 : f 59 = some (.inr (1, [.ref 60, .ref 62, .ref 74, .int 0, .ref 68, .ref 71, .ref 64, .ref 66]))) (h60 : f 60 = some (.inr (5, [.ref 61, .int 0]))) (h62 : f 62 = some (.inr (5, [.ref 63, .int 0]))) (h3 : f 3 = some (.inr (7, [.ref 4, .int 0, .int 2, .int 0, .int 1, .int 0, .null, .int 0, .ref 6, .ref 7]))) (h68 : f 68 = some (.inr (6, [.ref 69, .int 0, .int 0, .int 0, .int 0, .int 0, .int 0, .int 0, .int 0, .int 0]))) (h74 : f 74 = some (.inl (1, 40, .inr (.inr g74)))) (h4 : f 4 = some (.inr (5, [.ref 5, .int 0]))) : AM X l yX1_find cX1_find 5 none 2 0 0 [.ref 59, .ref 4, .ref 3] f n (EXO f [(59, .inr (1, [.ref 60, .ref 62, .ref 74, .int 0, .ref 68, .ref 71, .ref 64, .ref 66])), (68, .inr (6, [.ref 4, .int 0, .int 0, .int 0, .int 0, .int 0, .int 0, .int 0, .int 0, .int 0]))] none n) := by
  refine AM.of (by decide +kernel) rfl (by decide) (fun p e s m args below meth c C hnm => ?_)
  refine ao_start ?_
  refine aw_nl [some (.ref 59), some (.ref 4), some (.ref 3), none, none] rfl ?_
  refine aw_ald_n C dX1_find_0 rfl ?_
  refine aw_iconst C 0 dX1_find_1 ki_0 ?_
  refine ao_put C [(59, .inr (1, [.ref 60, .ref 62, .ref 74, .int 0, .ref 68, .ref 71, .ref 64, .ref 66]))] gf_X1_46 cf1 nf1_3 h59 (Nat.le_of_ble_eq_true rfl) rfl rfl dX1_find_2 rfl ?_
  refine aw_ald_n C dX1_find_5 rfl ?_
  refine aw_get C gf_X1_14 rfl rfl dX1_find_6 ?_
  refine aw_iconst C 0 dX1_find_9 ki_0 ?_
  refine ao_callV C (ci := 5) (b := 60) [.int 0] [(59, .inr (1, [.ref 60, .ref 62, .ref 74, .int 0, .ref 68, .ref 71, .ref 64, .ref 66]))] mv_X1_50 rfl rfl h60 (c_X5_cutTo_185 h60) rfl dX1_find_10 (Nat.le_of_ble_eq_true rfl) (Nat.le_of_ble_eq_true rfl) rfl (Nat.le_of_ble_eq_true rfl) (Nat.le_of_ble_eq_true rfl) (Nat.le_of_ble_eq_true rfl) rfl ?_
  refine aw_ald_n C dX1_find_13 rfl ?_
  refine aw_get C gf_X1_20 rfl rfl dX1_find_14 ?_
  refine aw_iconst C 0 dX1_find_17 ki_0 ?_
  refine ao_callV C (ci := 5) (b := 62) [.int 0] [(59, .inr (1, [.ref 60, .ref 62, .ref 74, .int 0, .ref 68, .ref 71, .ref 64, .ref 66]))] mv_X1_50 rfl rfl h62 (c_X5_cutTo_186 h62) rfl dX1_find_18 (Nat.le_of_ble_eq_true rfl) (Nat.le_of_ble_eq_true rfl) rfl (Nat.le_of_ble_eq_true rfl) (Nat.le_of_ble_eq_true rfl) (Nat.le_of_ble_eq_true rfl) rfl ?_
  refine aw_ald_n C dX1_find_21 rfl ?_
  refine aw_get C gf_X1_32 rfl rfl dX1_find_22 ?_
  refine aw_ald_n C dX1_find_25 rfl ?_
  refine aw_ald_n C dX1_find_26 rfl ?_
  refine aw_get C gf_X1_53 h3 rfl dX1_find_27 ?_
  refine ao_callV C (ci := 6) (b := 68) [.ref 4, .int 0] [(59, .inr (1, [.ref 60, .ref 62, .ref 74, .int 0, .ref 68, .ref 71, .ref 64, .ref 66])), (68, .inr (6, [.ref 4, .int 0, .int 0, .int 0, .int 0, .int 0, .int 0, .int 0, .int 0, .int 0]))] mv_X1_58 rfl rfl h68 (c_X6_start_218 h68) rfl dX1_find_30 (Nat.le_of_ble_eq_true rfl) (Nat.le_of_ble_eq_true rfl) rfl (Nat.le_of_ble_eq_true rfl) (Nat.le_of_ble_eq_true rfl) (Nat.le_of_ble_eq_true rfl) rfl ?_
  refine aw_iconst C 0 dX1_find_33 ki_0 ?_
  refine aw_istore_n C dX1_find_34 (by decide) rfl ?_
  refine aw_nl [some (.ref 59), some (.ref 4), some (.ref 3), some (.int 0), none] rfl ?_
  refine aw_iload_n C dX1_find_35 rfl ?_
  refine aw_sipush C 600 dX1_find_36 ks_600 ?_
  refine aw_icmp_gt C 174 dX1_find_39 (by decide) (fun q => absurd q (by decide)) (fun _ => ?_)
  refine aw_ald_n C dX1_find_42 rfl ?_
  refine aw_get C gf_X1_46 rfl rfl dX1_find_43 ?_
  refine aw_ald_n C dX1_find_46 rfl ?_
  refine aw_get C gf_X1_41 rfl rfl dX1_find_47 ?_
  refine aw_alen C (by decide) h74 dX1_find_50 ?_
  refine aw_top 40 (by decide) ?_
  refine aw_icmp_ge C 174 dX1_find_51 (by decide) (fun q => absurd q (by decide)) (fun _ => ?_)
  refine aw_ald_n C dX1_find_54 rfl ?_
  refine aw_get C gf_X1_32 rfl rfl dX1_find_55 ?_
  refine ao_callV C (ci := 6) (b := 68) [] [(59, .inr (1, [.ref 60, .ref 62, .ref 74, .int 0, .ref 68, .ref 71, .ref 64, .ref 66])), (68, .inr (6, [.ref 4, .int 0, .int 0, .int 0, .int 0, .int 0, .int 0, .int 0, .int 0, .int 0]))] mv_X1_62 rfl rfl rfl (c_X6_next_220 rfl h4) rfl dX1_find_58 (Nat.le_of_ble_eq_true rfl) (Nat.le_of_ble_eq_true rfl) rfl (Nat.le_of_ble_eq_true rfl) (Nat.le_of_ble_eq_true rfl) (Nat.le_of_ble_eq_true rfl) rfl ?_
  refine aw_if_eq C 174 dX1_find_61 (by decide) (fun _ => ?_) (fun q => absurd (by decide) q)
  exact aw_vret C rfl dX1_find_174 (Nat.le_of_ble_eq_true rfl) (Nat.le_of_ble_eq_true rfl) ⟨rfl, rfl, rfl⟩

set_option maxHeartbeats 4000000 in
set_option maxRecDepth 100000 in
theorem c_X0_make_311 {X : GX} {l : Launch} {f : AH} {n : Nat} (h171 : f 171 = some (.inr (0, [.ref 172, .ref 174, .ref 176, .int 0]))) (h172 : f 172 = some (.inr (5, [.ref 173, .int 0]))) (h59 : f 59 = some (.inr (1, [.ref 60, .ref 62, .ref 74, .int 0, .ref 68, .ref 71, .ref 64, .ref 66]))) (h3 : f 3 = some (.inr (7, [.ref 4, .int 0, .int 2, .int 0, .int 1, .int 0, .null, .int 0, .ref 6, .ref 7]))) (h4 : f 4 = some (.inr (5, [.ref 5, .int 0]))) : AM X l yX0_make cX0_make 8 (some .boolean) 1 0 0 [.ref 171, .ref 3, .ref 59] f n (EXO f [] (some (.int 1)) n) := by
  refine AM.of (by decide +kernel) rfl (by decide) (fun p e s m args below meth c C hnm => ?_)
  refine ao_start ?_
  refine aw_nl [some (.ref 171), some (.ref 3), some (.ref 59), none, none, none, none, none] rfl ?_
  refine aw_ald_n C dX0_make_0 rfl ?_
  refine aw_get C gf_X0_14 h171 rfl dX0_make_1 ?_
  refine aw_iconst C 0 dX0_make_4 ki_0 ?_
  refine ao_callV C (ci := 5) (b := 172) [.int 0] [] mv_X0_26 rfl rfl h172 (c_X5_cutTo_191 h172) rfl dX0_make_5 (Nat.le_of_ble_eq_true rfl) (Nat.le_of_ble_eq_true rfl) rfl (Nat.le_of_ble_eq_true rfl) (Nat.le_of_ble_eq_true rfl) (Nat.le_of_ble_eq_true rfl) rfl ?_
  refine aw_iconst C 0 dX0_make_8 ki_0 ?_
  refine aw_istore_n C dX0_make_9 (by decide) rfl ?_
  refine aw_nl [some (.ref 171), some (.ref 3), some (.ref 59), some (.int 0), none, none, none, none] rfl ?_
  refine aw_iconst C 1 dX0_make_10 ki_1 ?_
  refine aw_istore C dX0_make_11 (by decide) rfl ?_
  refine aw_nl [some (.ref 171), some (.ref 3), some (.ref 59), some (.int 0), some (.int 1), none, none, none] rfl ?_
  refine aw_iconst C 0 dX0_make_13 ki_0 ?_
  refine aw_istore C dX0_make_14 (by decide) rfl ?_
  refine aw_nl [some (.ref 171), some (.ref 3), some (.ref 59), some (.int 0), some (.int 1), some (.int 0), none, none] rfl ?_
  refine aw_iload C dX0_make_16 rfl ?_
  refine aw_ald_n C dX0_make_18 rfl ?_
  refine ao_callV C (ci := 1) (b := 59) [] [] mv_X0_29 rfl rfl h59 (c_X1_size_192 h59) rfl dX0_make_19 (Nat.le_of_ble_eq_true rfl) (Nat.le_of_ble_eq_true rfl) rfl (Nat.le_of_ble_eq_true rfl) (Nat.le_of_ble_eq_true rfl) (Nat.le_of_ble_eq_true rfl) rfl ?_
  refine aw_icmp_ge C 211 dX0_make_22 (by decide) (fun _ => ?_) (fun q => absurd (by decide) q)
  refine aw_iload C dX0_make_211 rfl ?_
  refine aw_if_eq C 242 dX0_make_213 (by decide) (fun q => absurd q (by decide)) (fun _ => ?_)
  refine aw_ald_n C dX0_make_216 rfl ?_
  refine aw_get C gf_X0_14 h171 rfl dX0_make_217 ?_
  refine aw_ald_n C dX0_make_220 rfl ?_
  refine aw_get C gf_X0_39 h3 rfl dX0_make_221 ?_
  refine aw_iload_n C dX0_make_224 rfl ?_
  refine aw_ald_n C dX0_make_225 rfl ?_
  refine aw_get C gf_X0_39 h3 rfl dX0_make_226 ?_
  refine ao_callV C (ci := 5) (b := 4) [] [] mv_X0_57 rfl rfl h4 (c_X5_size_219 h4) rfl dX0_make_229 (Nat.le_of_ble_eq_true rfl) (Nat.le_of_ble_eq_true rfl) rfl (Nat.le_of_ble_eq_true rfl) (Nat.le_of_ble_eq_true rfl) (Nat.le_of_ble_eq_true rfl) rfl ?_
  refine ao_callV C (ci := 5) (b := 172) [.ref 4, .int 0, .int 0] [] mv_X0_50 rfl rfl h172 (c_X5_addPart_222) rfl dX0_make_232 (Nat.le_of_ble_eq_true rfl) (Nat.le_of_ble_eq_true rfl) rfl (Nat.le_of_ble_eq_true rfl) (Nat.le_of_ble_eq_true rfl) (Nat.le_of_ble_eq_true rfl) rfl ?_
  refine aw_if_eq C 242 dX0_make_235 (by decide) (fun q => absurd q (by decide)) (fun _ => ?_)
  refine aw_iconst C 1 dX0_make_238 ki_1 ?_
  refine aw_goto C 243 dX0_make_239 (by decide) ?_
  exact aw_iret C rfl (by decide) dX0_make_243 (Nat.le_of_ble_eq_true rfl) (Nat.le_of_ble_eq_true rfl) ⟨rfl, rfl, rfl⟩

set_option maxHeartbeats 4000000 in
set_option maxRecDepth 100000 in
theorem c_X8_cutAnew_312 {X : GX} {l : Launch} {f : AH} {n : Nat} {g74 : Nat → Option Nat} (h0 : f 0 = some (.inr (8, [.ref 1, .ref 3, .ref 8, .ref 13, .ref 18, .ref 59, .ref 115, .ref 171, .ref 178, .int 0, .int 0, .int 0, .int 0, .int (-1)]))) (h3 : f 3 = some (.inr (7, [.ref 4, .int 0, .int 2, .int 0, .int 1, .int 0, .null, .int 0, .ref 6, .ref 7]))) (h7 : f 7 = some (.inl (2, 40, .inr (.inr (fun _ => none))))) (h59 : f 59 = some (.inr (1, [.ref 60, .ref 62, .ref 74, .int 0, .ref 68, .ref 71, .ref 64, .ref 66]))) (h60 : f 60 = some (.inr (5, [.ref 61, .int 0]))) (h62 : f 62 = some (.inr (5, [.ref 63, .int 0]))) (h68 : f 68 = some (.inr (6, [.ref 69, .int 0, .int 0, .int 0, .int 0, .int 0, .int 0, .int 0, .int 0, .int 0]))) (h74 : f 74 = some (.inl (1, 40, .inr (.inr g74)))) (h4 : f 4 = some (.inr (5, [.ref 5, .int 0]))) (h171 : f 171 = some (.inr (0, [.ref 172, .ref 174, .ref 176, .int 0]))) (h172 : f 172 = some (.inr (5, [.ref 173, .int 0]))) : AM X l yX8_cutAnew cX8_cutAnew 1 (some .int) 3 0 0 [.ref 0] f n (EXO f [(0, .inr (8, [.ref 1, .ref 3, .ref 8, .ref 13, .ref 18, .ref 59, .ref 115, .ref 171, .ref 178, .int 0, .int 0, .int 0, .int 0, .int (-1)])), (68, .inr (6, [.ref 4, .int 0, .int 0, .int 0, .int 0, .int 0, .int 0, .int 0, .int 0, .int 0])), (59, .inr (1, [.ref 60, .ref 62, .ref 74, .int 0, .ref 68, .ref 71, .ref 64, .ref 66]))] (some (.int 0)) n) := by
  refine AM.of (by decide +kernel) rfl (by decide) (fun p e s m args below meth c C hnm => ?_)
  refine ao_start ?_
  refine aw_nl [some (.ref 0)] rfl ?_
  refine aw_ald_n C dX8_cutAnew_0 rfl ?_
  refine aw_iconst C 0 dX8_cutAnew_1 ki_0 ?_
  refine ao_put C [(0, .inr (8, [.ref 1, .ref 3, .ref 8, .ref 13, .ref 18, .ref 59, .ref 115, .ref 171, .ref 178, .int 0, .int 0, .int 0, .int 0, .int (-1)]))] gf_X8_334 cf8 nf8_10 h0 (Nat.le_of_ble_eq_true rfl) (by decide) (by decide) dX8_cutAnew_2 rfl ?_
  refine aw_ald_n C dX8_cutAnew_5 rfl ?_
  refine aw_get C gf_X8_21 rfl rfl dX8_cutAnew_6 ?_
  refine ao_callV C (ci := 7) (b := 3) [] [(0, .inr (8, [.ref 1, .ref 3, .ref 8, .ref 13, .ref 18, .ref 59, .ref 115, .ref 171, .ref 178, .int 0, .int 0, .int 0, .int 0, .int (-1)]))] mv_X8_358 rfl rfl h3 (c_X7_forgetTold_309 h3 h7) rfl dX8_cutAnew_9 (Nat.le_of_ble_eq_true rfl) (Nat.le_of_ble_eq_true rfl) rfl (Nat.le_of_ble_eq_true rfl) (Nat.le_of_ble_eq_true rfl) (Nat.le_of_ble_eq_true rfl) rfl ?_
  refine aw_ald_n C dX8_cutAnew_12 rfl ?_
  refine aw_get C gf_X8_38 rfl rfl dX8_cutAnew_13 ?_
  refine aw_ald_n C dX8_cutAnew_16 rfl ?_
  refine aw_get C gf_X8_21 rfl rfl dX8_cutAnew_17 ?_
  refine aw_get C gf_X8_130 h3 rfl dX8_cutAnew_20 ?_
  refine aw_ald_n C dX8_cutAnew_23 rfl ?_
  refine aw_get C gf_X8_21 rfl rfl dX8_cutAnew_24 ?_
  refine ao_callV C (ci := 1) (b := 59) [.ref 4, .ref 3] [(0, .inr (8, [.ref 1, .ref 3, .ref 8, .ref 13, .ref 18, .ref 59, .ref 115, .ref 171, .ref 178, .int 0, .int 0, .int 0, .int 0, .int (-1)])), (68, .inr (6, [.ref 4, .int 0, .int 0, .int 0, .int 0, .int 0, .int 0, .int 0, .int 0, .int 0])), (59, .inr (1, [.ref 60, .ref 62, .ref 74, .int 0, .ref 68, .ref 71, .ref 64, .ref 66]))] mv_X8_361 rfl rfl h59 (c_X1_find_310 h59 h60 h62 h3 h68 h74 h4) rfl dX8_cutAnew_27 (Nat.le_of_ble_eq_true rfl) (Nat.le_of_ble_eq_true rfl) rfl (Nat.le_of_ble_eq_true rfl) (Nat.le_of_ble_eq_true rfl) (Nat.le_of_ble_eq_true rfl) rfl ?_
  refine aw_ald_n C dX8_cutAnew_30 rfl ?_
  refine aw_get C gf_X8_48 rfl rfl dX8_cutAnew_31 ?_
  refine aw_ald_n C dX8_cutAnew_34 rfl ?_
  refine aw_get C gf_X8_21 rfl rfl dX8_cutAnew_35 ?_
  refine aw_ald_n C dX8_cutAnew_38 rfl ?_
  refine aw_get C gf_X8_38 rfl rfl dX8_cutAnew_39 ?_
  refine ao_callV C (ci := 0) (b := 171) [.ref 3, .ref 59] [(0, .inr (8, [.ref 1, .ref 3, .ref 8, .ref 13, .ref 18, .ref 59, .ref 115, .ref 171, .ref 178, .int 0, .int 0, .int 0, .int 0, .int (-1)])), (68, .inr (6, [.ref 4, .int 0, .int 0, .int 0, .int 0, .int 0, .int 0, .int 0, .int 0, .int 0])), (59, .inr (1, [.ref 60, .ref 62, .ref 74, .int 0, .ref 68, .ref 71, .ref 64, .ref 66]))] mv_X8_365 rfl rfl h171 (c_X0_make_311 h171 h172 rfl h3 h4) rfl dX8_cutAnew_42 (Nat.le_of_ble_eq_true rfl) (Nat.le_of_ble_eq_true rfl) rfl (Nat.le_of_ble_eq_true rfl) (Nat.le_of_ble_eq_true rfl) (Nat.le_of_ble_eq_true rfl) rfl ?_
  refine aw_pop C dX8_cutAnew_45 rfl ?_
  refine aw_iconst C 0 dX8_cutAnew_46 ki_0 ?_
  exact aw_iret C rfl rfl dX8_cutAnew_47 (Nat.le_of_ble_eq_true rfl) (Nat.le_of_ble_eq_true rfl) ⟨rfl, rfl, rfl⟩

set_option maxHeartbeats 4000000 in
set_option maxRecDepth 100000 in
theorem c_X8_doAct_313 {X : GX} {l : Launch} {f : AH} {n : Nat} {g74 : Nat → Option Nat} (h0 : f 0 = some (.inr (8, [.ref 1, .ref 3, .ref 8, .ref 13, .ref 18, .ref 59, .ref 115, .ref 171, .ref 178, .int 0, .int 0, .int 0, .int 0, .int (-1)]))) (h3 : f 3 = some (.inr (7, [.ref 4, .int 0, .int (-1), .int 0, .int 1, .int 0, .null, .int 0, .ref 6, .ref 7]))) (h7 : f 7 = some (.inl (2, 40, .inr (.inr (fun _ => none))))) (h59 : f 59 = some (.inr (1, [.ref 60, .ref 62, .ref 74, .int 0, .ref 68, .ref 71, .ref 64, .ref 66]))) (h60 : f 60 = some (.inr (5, [.ref 61, .int 0]))) (h62 : f 62 = some (.inr (5, [.ref 63, .int 0]))) (h68 : f 68 = some (.inr (6, [.ref 69, .int 0, .int 0, .int 0, .int 0, .int 0, .int 0, .int 0, .int 0, .int 0]))) (h74 : f 74 = some (.inl (1, 40, .inr (.inr g74)))) (h4 : f 4 = some (.inr (5, [.ref 5, .int 0]))) (h171 : f 171 = some (.inr (0, [.ref 172, .ref 174, .ref 176, .int 0]))) (h172 : f 172 = some (.inr (5, [.ref 173, .int 0]))) : AM X l yX8_doAct cX8_doAct 6 (some .int) 4 0 0 [.ref 0, .int 1, .int 2, .int 0, .null] f n (EXO f [(0, .inr (8, [.ref 1, .ref 3, .ref 8, .ref 13, .ref 18, .ref 59, .ref 115, .ref 171, .ref 178, .int 0, .int 0, .int 0, .int 0, .int (-1)])), (3, .inr (7, [.ref 4, .int 0, .int 2, .int 0, .int 1, .int 0, .null, .int 0, .ref 6, .ref 7])), (59, .inr (1, [.ref 60, .ref 62, .ref 74, .int 0, .ref 68, .ref 71, .ref 64, .ref 66])), (68, .inr (6, [.ref 4, .int 0, .int 0, .int 0, .int 0, .int 0, .int 0, .int 0, .int 0, .int 0]))] (some (.int 0)) n) := by
  refine AM.of (by decide +kernel) rfl (by decide) (fun p e s m args below meth c C hnm => ?_)
  refine ao_start ?_
  refine aw_nl [some (.ref 0), some (.int 1), some (.int 2), some (.int 0), some (.null), none] rfl ?_
  refine aw_ald_n C dX8_doAct_0 rfl ?_
  refine aw_iconst C 0 dX8_doAct_1 ki_0 ?_
  refine ao_put C [(0, .inr (8, [.ref 1, .ref 3, .ref 8, .ref 13, .ref 18, .ref 59, .ref 115, .ref 171, .ref 178, .int 0, .int 0, .int 0, .int 0, .int (-1)]))] gf_X8_334 cf8 nf8_10 h0 (Nat.le_of_ble_eq_true rfl) (by decide) (by decide) dX8_doAct_2 rfl ?_
  refine aw_iload_n C dX8_doAct_5 rfl ?_
  refine aw_tabIn C (off := 75) 81 dX8_doAct_6 (by decide) (by decide) (by decide) (by decide) ?_
  refine aw_ald_n C dX8_doAct_81 rfl ?_
  refine aw_get C gf_X8_21 rfl rfl dX8_doAct_82 ?_
  refine aw_iload_n C dX8_doAct_85 rfl ?_
  refine ao_put C [(0, .inr (8, [.ref 1, .ref 3, .ref 8, .ref 13, .ref 18, .ref 59, .ref 115, .ref 171, .ref 178, .int 0, .int 0, .int 0, .int 0, .int (-1)])), (3, .inr (7, [.ref 4, .int 0, .int 2, .int 0, .int 1, .int 0, .null, .int 0, .ref 6, .ref 7]))] gf_X8_290 cf7 nf7_2 h3 (Nat.le_of_ble_eq_true rfl) rfl rfl dX8_doAct_86 rfl ?_
  refine aw_ald_n C dX8_doAct_89 rfl ?_
  refine ao_callV C (ci := 8) (b := 0) [] [(0, .inr (8, [.ref 1, .ref 3, .ref 8, .ref 13, .ref 18, .ref 59, .ref 115, .ref 171, .ref 178, .int 0, .int 0, .int 0, .int 0, .int (-1)])), (3, .inr (7, [.ref 4, .int 0, .int 2, .int 0, .int 1, .int 0, .null, .int 0, .ref 6, .ref 7])), (59, .inr (1, [.ref 60, .ref 62, .ref 74, .int 0, .ref 68, .ref 71, .ref 64, .ref 66])), (68, .inr (6, [.ref 4, .int 0, .int 0, .int 0, .int 0, .int 0, .int 0, .int 0, .int 0, .int 0]))] mv_X8_133 rfl rfl rfl (c_X8_cutAnew_312 rfl rfl h7 h59 h60 h62 h68 h74 h4 h171 h172) rfl dX8_doAct_90 (Nat.le_of_ble_eq_true rfl) (Nat.le_of_ble_eq_true rfl) rfl (Nat.le_of_ble_eq_true rfl) (Nat.le_of_ble_eq_true rfl) (Nat.le_of_ble_eq_true rfl) rfl ?_
  exact aw_iret C rfl rfl dX8_doAct_93 (Nat.le_of_ble_eq_true rfl) (Nat.le_of_ble_eq_true rfl) ⟨rfl, rfl, rfl⟩

set_option maxHeartbeats 4000000 in
set_option maxRecDepth 100000 in
theorem c_X8_kind_314 {X : GX} {l : Launch} {f : AH} {n : Nat} {g74 : Nat → Option Nat} (h0 : f 0 = some (.inr (8, [.ref 1, .ref 3, .ref 8, .ref 13, .ref 18, .ref 59, .ref 115, .ref 171, .ref 178, .int 0, .int 0, .int 0, .int 0, .int (-1)]))) (h3 : f 3 = some (.inr (7, [.ref 4, .int 0, .int (-1), .int 0, .int 1, .int 0, .null, .int 0, .ref 6, .ref 7]))) (h8 : f 8 = some (.inr (7, [.ref 9, .int 0, .int (-1), .int 0, .int 1, .int 0, .null, .int 0, .ref 11, .ref 12]))) (h11 : f 11 = some (.inl (2, 4, .inr (.inr (fun _ => none))))) (h6 : f 6 = some (.inl (2, 4, .inr (.inr (fun _ => none))))) (h12 : f 12 = some (.inl (2, 40, .inr (.inr (fun _ => none))))) (h7 : f 7 = some (.inl (2, 40, .inr (.inr (fun _ => none))))) (h59 : f 59 = some (.inr (1, [.ref 60, .ref 62, .ref 74, .int 0, .ref 68, .ref 71, .ref 64, .ref 66]))) (h60 : f 60 = some (.inr (5, [.ref 61, .int 0]))) (h62 : f 62 = some (.inr (5, [.ref 63, .int 0]))) (h68 : f 68 = some (.inr (6, [.ref 69, .int 0, .int 0, .int 0, .int 0, .int 0, .int 0, .int 0, .int 0, .int 0]))) (h74 : f 74 = some (.inl (1, 40, .inr (.inr g74)))) (h4 : f 4 = some (.inr (5, [.ref 5, .int 0]))) (h171 : f 171 = some (.inr (0, [.ref 172, .ref 174, .ref 176, .int 0]))) (h172 : f 172 = some (.inr (5, [.ref 173, .int 0]))) (h18 : f 18 = some (.inl (3, 8, .inr (.inr (va_up (va_up (va_up (va_up (va_up (va_up (va_up (va_up (fun _ => none) 0 (some 19)) 1 (some 24)) 2 (some 29)) 3 (some 34)) 4 (some 39)) 5 (some 44)) 6 (some 49)) 7 (some 54)))))) (h19 : f 19 = some (.inr (7, [.ref 20, .int 0, .int (-1), .int 0, .int 1, .int 0, .null, .int 0, .ref 22, .ref 23]))) (h22 : f 22 = some (.inl (2, 4, .inr (.inr (fun _ => none))))) (h23 : f 23 = some (.inl (2, 40, .inr (.inr (fun _ => none))))) : AM X l yX8_kind cX8_kind 3 (some .int) 5 0 0 [.ref 0, .int 2, .int 1] f n (EXO f [(8, .inr (7, [.ref 4, .int 0, .int (-1), .int 0, .int 1, .int 0, .null, .int 0, .ref 11, .ref 12])), (68, .inr (6, [.ref 4, .int 0, .int 0, .int 0, .int 0, .int 0, .int 0, .int 0, .int 0, .int 0])), (59, .inr (1, [.ref 60, .ref 62, .ref 74, .int 0, .ref 68, .ref 71, .ref 64, .ref 66])), (3, .inr (7, [.ref 4, .int 0, .int 2, .int 0, .int 1, .int 0, .null, .int 0, .ref 6, .ref 7])), (0, .inr (8, [.ref 1, .ref 3, .ref 8, .ref 13, .ref 18, .ref 59, .ref 115, .ref 171, .ref 178, .int 0, .int 0, .int 1, .int 0, .int (-1)])), (19, .inr (7, [.ref 4, .int 0, .int (-1), .int 0, .int 1, .int 0, .null, .int 0, .ref 22, .ref 23]))] (some (.int 0)) n) := by
  refine AM.of (by decide +kernel) rfl (by decide) (fun p e s m args below meth c C hnm => ?_)
  refine ao_start ?_
  refine aw_nl [some (.ref 0), some (.int 2), some (.int 1)] rfl ?_
  refine aw_iload_n C dX8_kind_0 rfl ?_
  refine aw_iconst C 3 dX8_kind_1 ki_3 ?_
  refine aw_icmp_gt C 18 dX8_kind_2 (by decide) (fun q => absurd q (by decide)) (fun _ => ?_)
  refine aw_iload_n C dX8_kind_5 rfl ?_
  refine aw_iload_n C dX8_kind_6 rfl ?_
  refine aw_if_eq C 14 dX8_kind_7 (by decide) (fun q => absurd q (by decide)) (fun _ => ?_)
  refine aw_iconst C (-1) dX8_kind_10 ki_m1 ?_
  refine aw_goto C 15 dX8_kind_11 (by decide) ?_
  refine aw_icmp_ge C 28 dX8_kind_15 (by decide) (fun _ => ?_) (fun q => absurd (by decide) q)
  refine aw_ald_n C dX8_kind_28 rfl ?_
  refine aw_get C gf_X8_25 h0 rfl dX8_kind_29 ?_
  refine aw_ald_n C dX8_kind_32 rfl ?_
  refine aw_get C gf_X8_21 h0 rfl dX8_kind_33 ?_
  refine ao_callV C (ci := 7) (b := 8) [.ref 3] [(8, .inr (7, [.ref 4, .int 0, .int (-1), .int 0, .int 1, .int 0, .null, .int 0, .ref 11, .ref 12]))] mv_X8_73 rfl rfl h8 (c_X7_copyFrom_168 h3 h8 h11 h6 h12 h7) rfl dX8_kind_36 (Nat.le_of_ble_eq_true rfl) (Nat.le_of_ble_eq_true rfl) rfl (Nat.le_of_ble_eq_true rfl) (Nat.le_of_ble_eq_true rfl) (Nat.le_of_ble_eq_true rfl) rfl ?_
  refine aw_ald_n C dX8_kind_39 rfl ?_
  refine aw_ald_n C dX8_kind_40 rfl ?_
  refine aw_iload_n C dX8_kind_41 rfl ?_
  refine aw_if_eq C 49 dX8_kind_42 (by decide) (fun q => absurd q (by decide)) (fun _ => ?_)
  refine aw_iconst C 1 dX8_kind_45 ki_1 ?_
  refine aw_goto C 50 dX8_kind_46 (by decide) ?_
  refine aw_iload_n C dX8_kind_50 rfl ?_
  refine aw_iconst C 0 dX8_kind_51 ki_0 ?_
  refine aw_null C dX8_kind_52 ?_
  refine ao_callV C (ci := 8) (b := 0) [.int 1, .int 2, .int 0, .null] [(8, .inr (7, [.ref 4, .int 0, .int (-1), .int 0, .int 1, .int 0, .null, .int 0, .ref 11, .ref 12])), (68, .inr (6, [.ref 4, .int 0, .int 0, .int 0, .int 0, .int 0, .int 0, .int 0, .int 0, .int 0])), (59, .inr (1, [.ref 60, .ref 62, .ref 74, .int 0, .ref 68, .ref 71, .ref 64, .ref 66])), (3, .inr (7, [.ref 4, .int 0, .int 2, .int 0, .int 1, .int 0, .null, .int 0, .ref 6, .ref 7])), (0, .inr (8, [.ref 1, .ref 3, .ref 8, .ref 13, .ref 18, .ref 59, .ref 115, .ref 171, .ref 178, .int 0, .int 0, .int 0, .int 0, .int (-1)]))] mv_X8_103 rfl rfl h0 (c_X8_doAct_313 h0 h3 h7 h59 h60 h62 h68 h74 h4 h171 h172) rfl dX8_kind_53 (Nat.le_of_ble_eq_true rfl) (Nat.le_of_ble_eq_true rfl) rfl (Nat.le_of_ble_eq_true rfl) (Nat.le_of_ble_eq_true rfl) (Nat.le_of_ble_eq_true rfl) rfl ?_
  refine ao_callV C (ci := 8) (b := 0) [.int 0] [(8, .inr (7, [.ref 4, .int 0, .int (-1), .int 0, .int 1, .int 0, .null, .int 0, .ref 11, .ref 12])), (68, .inr (6, [.ref 4, .int 0, .int 0, .int 0, .int 0, .int 0, .int 0, .int 0, .int 0, .int 0])), (59, .inr (1, [.ref 60, .ref 62, .ref 74, .int 0, .ref 68, .ref 71, .ref 64, .ref 66])), (3, .inr (7, [.ref 4, .int 0, .int 2, .int 0, .int 1, .int 0, .null, .int 0, .ref 6, .ref 7])), (0, .inr (8, [.ref 1, .ref 3, .ref 8, .ref 13, .ref 18, .ref 59, .ref 115, .ref 171, .ref 178, .int 0, .int 0, .int 1, .int 0, .int (-1)])), (19, .inr (7, [.ref 4, .int 0, .int (-1), .int 0, .int 1, .int 0, .null, .int 0, .ref 22, .ref 23]))] mv_X8_139 rfl rfl rfl (c_X8_finishCall_228 rfl h18 rfl h19 h22 h11 h23 h12) rfl dX8_kind_56 (Nat.le_of_ble_eq_true rfl) (Nat.le_of_ble_eq_true rfl) rfl (Nat.le_of_ble_eq_true rfl) (Nat.le_of_ble_eq_true rfl) (Nat.le_of_ble_eq_true rfl) rfl ?_
  refine aw_ald_n C dX8_kind_59 rfl ?_
  refine aw_get C gf_X8_38 rfl rfl dX8_kind_60 ?_
  refine ao_callV C (ci := 1) (b := 59) [] [(8, .inr (7, [.ref 4, .int 0, .int (-1), .int 0, .int 1, .int 0, .null, .int 0, .ref 11, .ref 12])), (68, .inr (6, [.ref 4, .int 0, .int 0, .int 0, .int 0, .int 0, .int 0, .int 0, .int 0, .int 0])), (59, .inr (1, [.ref 60, .ref 62, .ref 74, .int 0, .ref 68, .ref 71, .ref 64, .ref 66])), (3, .inr (7, [.ref 4, .int 0, .int 2, .int 0, .int 1, .int 0, .null, .int 0, .ref 6, .ref 7])), (0, .inr (8, [.ref 1, .ref 3, .ref 8, .ref 13, .ref 18, .ref 59, .ref 115, .ref 171, .ref 178, .int 0, .int 0, .int 1, .int 0, .int (-1)])), (19, .inr (7, [.ref 4, .int 0, .int (-1), .int 0, .int 1, .int 0, .null, .int 0, .ref 22, .ref 23]))] mv_X8_136 rfl rfl rfl (c_X1_size_192 rfl) rfl dX8_kind_63 (Nat.le_of_ble_eq_true rfl) (Nat.le_of_ble_eq_true rfl) rfl (Nat.le_of_ble_eq_true rfl) (Nat.le_of_ble_eq_true rfl) (Nat.le_of_ble_eq_true rfl) rfl ?_
  exact aw_iret C rfl rfl dX8_kind_66 (Nat.le_of_ble_eq_true rfl) (Nat.le_of_ble_eq_true rfl) ⟨rfl, rfl, rfl⟩

set_option maxHeartbeats 4000000 in
set_option maxRecDepth 100000 in
theorem c_L_kind_315 {X : GX} {l : Launch} {f : AH} {n : Nat} {g74 : Nat → Option Nat} (h0 : f 0 = some (.inr (8, [.ref 1, .ref 3, .ref 8, .ref 13, .ref 18, .ref 59, .ref 115, .ref 171, .ref 178, .int 0, .int 0, .int 0, .int 0, .int (-1)]))) (h3 : f 3 = some (.inr (7, [.ref 4, .int 0, .int (-1), .int 0, .int 1, .int 0, .null, .int 0, .ref 6, .ref 7]))) (h8 : f 8 = some (.inr (7, [.ref 9, .int 0, .int (-1), .int 0, .int 1, .int 0, .null, .int 0, .ref 11, .ref 12]))) (h11 : f 11 = some (.inl (2, 4, .inr (.inr (fun _ => none))))) (h6 : f 6 = some (.inl (2, 4, .inr (.inr (fun _ => none))))) (h12 : f 12 = some (.inl (2, 40, .inr (.inr (fun _ => none))))) (h7 : f 7 = some (.inl (2, 40, .inr (.inr (fun _ => none))))) (h59 : f 59 = some (.inr (1, [.ref 60, .ref 62, .ref 74, .int 0, .ref 68, .ref 71, .ref 64, .ref 66]))) (h60 : f 60 = some (.inr (5, [.ref 61, .int 0]))) (h62 : f 62 = some (.inr (5, [.ref 63, .int 0]))) (h68 : f 68 = some (.inr (6, [.ref 69, .int 0, .int 0, .int 0, .int 0, .int 0, .int 0, .int 0, .int 0, .int 0]))) (h74 : f 74 = some (.inl (1, 40, .inr (.inr g74)))) (h4 : f 4 = some (.inr (5, [.ref 5, .int 0]))) (h171 : f 171 = some (.inr (0, [.ref 172, .ref 174, .ref 176, .int 0]))) (h172 : f 172 = some (.inr (5, [.ref 173, .int 0]))) (h18 : f 18 = some (.inl (3, 8, .inr (.inr (va_up (va_up (va_up (va_up (va_up (va_up (va_up (va_up (fun _ => none) 0 (some 19)) 1 (some 24)) 2 (some 29)) 3 (some 34)) 4 (some 39)) 5 (some 44)) 6 (some 49)) 7 (some 54)))))) (h19 : f 19 = some (.inr (7, [.ref 20, .int 0, .int (-1), .int 0, .int 1, .int 0, .null, .int 0, .ref 22, .ref 23]))) (h22 : f 22 = some (.inl (2, 4, .inr (.inr (fun _ => none))))) (h23 : f 23 = some (.inl (2, 40, .inr (.inr (fun _ => none))))) (h223 : f 223 = some (.inl (4, 1, .inr (.inl (fun _ => 0))))) : AMW X l yL_kind cL_kind 5 (some .int) [(0, 10, 13, 13)] 6 0 0 [.ref 0, .int 2, .int 1, .ref 223] f n (EXO f [(19, .inr (7, [.ref 4, .int 0, .int (-1), .int 0, .int 1, .int 0, .null, .int 0, .ref 22, .ref 23])), (0, .inr (8, [.ref 1, .ref 3, .ref 8, .ref 13, .ref 18, .ref 59, .ref 115, .ref 171, .ref 178, .int 0, .int 0, .int 1, .int 0, .int (-1)])), (3, .inr (7, [.ref 4, .int 0, .int 2, .int 0, .int 1, .int 0, .null, .int 0, .ref 6, .ref 7])), (59, .inr (1, [.ref 60, .ref 62, .ref 74, .int 0, .ref 68, .ref 71, .ref 64, .ref 66])), (68, .inr (6, [.ref 4, .int 0, .int 0, .int 0, .int 0, .int 0, .int 0, .int 0, .int 0, .int 0])), (8, .inr (7, [.ref 4, .int 0, .int (-1), .int 0, .int 1, .int 0, .null, .int 0, .ref 11, .ref 12])), (223, .inl (4, 1, .inr (.inl (vp_updL (fun _ => 0) 0 0))))] (some (.int 0)) n) := by
  refine AMW.of (by decide +kernel) rfl (by decide) (fun p e s m args below meth c C htab => ?_)
  refine ao_start ?_
  refine aw_nl [some (.ref 0), some (.int 2), some (.int 1), some (.ref 223), none] rfl ?_
  refine aw_ald_n C dL_kind_0 rfl ?_
  refine aw_iconst C 0 dL_kind_1 ki_0 ?_
  refine aw_ald_n C dL_kind_2 rfl ?_
  refine aw_iload_n C dL_kind_3 rfl ?_
  refine aw_iload_n C dL_kind_4 rfl ?_
  refine ao_callV C (ci := 8) (b := 0) [.int 2, .int 1] [(19, .inr (7, [.ref 4, .int 0, .int (-1), .int 0, .int 1, .int 0, .null, .int 0, .ref 22, .ref 23])), (0, .inr (8, [.ref 1, .ref 3, .ref 8, .ref 13, .ref 18, .ref 59, .ref 115, .ref 171, .ref 178, .int 0, .int 0, .int 1, .int 0, .int (-1)])), (3, .inr (7, [.ref 4, .int 0, .int 2, .int 0, .int 1, .int 0, .null, .int 0, .ref 6, .ref 7])), (59, .inr (1, [.ref 60, .ref 62, .ref 74, .int 0, .ref 68, .ref 71, .ref 64, .ref 66])), (68, .inr (6, [.ref 4, .int 0, .int 0, .int 0, .int 0, .int 0, .int 0, .int 0, .int 0, .int 0])), (8, .inr (7, [.ref 4, .int 0, .int (-1), .int 0, .int 1, .int 0, .null, .int 0, .ref 11, .ref 12]))] mv_L_15 rfl rfl h0 (c_X8_kind_314 h0 h3 h8 h11 h6 h12 h7 h59 h60 h62 h68 h74 h4 h171 h172 h18 h19 h22 h23) rfl dL_kind_5 (Nat.le_of_ble_eq_true rfl) (Nat.le_of_ble_eq_true rfl) rfl (Nat.le_of_ble_eq_true rfl) (Nat.le_of_ble_eq_true rfl) (Nat.le_of_ble_eq_true rfl) rfl ?_
  refine ae_i2l C 0 dL_kind_8 (by decide) ?_
  refine ao_last C [(19, .inr (7, [.ref 4, .int 0, .int (-1), .int 0, .int 1, .int 0, .null, .int 0, .ref 22, .ref 23])), (0, .inr (8, [.ref 1, .ref 3, .ref 8, .ref 13, .ref 18, .ref 59, .ref 115, .ref 171, .ref 178, .int 0, .int 0, .int 1, .int 0, .int (-1)])), (3, .inr (7, [.ref 4, .int 0, .int 2, .int 0, .int 1, .int 0, .null, .int 0, .ref 6, .ref 7])), (59, .inr (1, [.ref 60, .ref 62, .ref 74, .int 0, .ref 68, .ref 71, .ref 64, .ref 66])), (68, .inr (6, [.ref 4, .int 0, .int 0, .int 0, .int 0, .int 0, .int 0, .int 0, .int 0, .int 0])), (8, .inr (7, [.ref 4, .int 0, .int (-1), .int 0, .int 1, .int 0, .null, .int 0, .ref 11, .ref 12])), (223, .inl (4, 1, .inr (.inl (vp_updL (fun _ => 0) 0 0))))] h223 (by unfold vp_in; decide) (by decide : _ = 0) dL_kind_9 rfl ?_
  refine aw_goto C 17 dL_kind_10 (by decide) ?_
  refine aw_iconst C 0 dL_kind_17 ki_0 ?_
  exact aw_iret C rfl rfl dL_kind_18 (Nat.le_of_ble_eq_true rfl) (Nat.le_of_ble_eq_true rfl) ⟨rfl, rfl, rfl⟩

set_option maxHeartbeats 4000000 in
set_option maxRecDepth 100000 in
theorem c_X9_isIn_316 {X : GX} {l : Launch} {f : AH} {n : Nat} : AM X l yX9_isIn cX9_isIn 3 (some .boolean) 0 0 0 [.int 2, .int (-1), .int 3] f n (EXO f [] (some (.int 1)) n) := by
  refine AM.of (by decide +kernel) rfl (by decide) (fun p e s m args below meth c C hnm => ?_)
  refine ao_start ?_
  refine aw_nl [some (.int 2), some (.int (-1)), some (.int 3)] rfl ?_
  refine aw_iload_n C dX9_isIn_0 rfl ?_
  refine aw_iload_n C dX9_isIn_1 rfl ?_
  refine aw_icmp_lt C 14 dX9_isIn_2 (by decide) (fun q => absurd q (by decide)) (fun _ => ?_)
  refine aw_iload_n C dX9_isIn_5 rfl ?_
  refine aw_iload_n C dX9_isIn_6 rfl ?_
  refine aw_icmp_gt C 14 dX9_isIn_7 (by decide) (fun q => absurd q (by decide)) (fun _ => ?_)
  refine aw_iconst C 1 dX9_isIn_10 ki_1 ?_
  refine aw_goto C 15 dX9_isIn_11 (by decide) ?_
  exact aw_iret C rfl (by decide) dX9_isIn_15 (Nat.le_of_ble_eq_true rfl) (Nat.le_of_ble_eq_true rfl) ⟨rfl, rfl, rfl⟩

set_option maxHeartbeats 4000000 in
set_option maxRecDepth 100000 in
theorem c_X9_cutsAll_317 {X : GX} {l : Launch} {f : AH} {n : Nat} (h181 : f 181 = some (.inr (9, (.int 0 :: .ref 182 :: .ref 183 :: .ref 184 :: .ref 185 :: .int 0 :: .int 0 :: .int 0 :: .ref 186 :: .int 0 :: .int 0 :: .int 0 :: .int (-1) :: .ref 187 :: .ref 188 :: .ref 189 :: .int 0 :: .ref 190 :: .ref 191 :: .ref 192 :: .ref 193 :: .ref 194 :: .int 0 :: .ref 195 :: .ref 196 :: .ref 197 :: .int 0 :: .ref 198 :: .ref 199 :: .ref 200 :: .ref 201 :: .ref 202 :: .ref 203 :: .int 0 :: .ref 204 :: .ref 205 :: .ref 206 :: .ref 207 :: .ref 208 :: .ref 209 :: .ref 210 :: .ref 211 :: .ref 212 :: .ref 213 :: .ref 214 :: .int 0 :: .ref 215 :: .ref 216 :: .int 0 :: .ref 217 :: .ref 218 :: .ref 219 :: .ref 220 :: .ref 221 :: .int 0 :: .int 0 :: .int 0 :: .int 0 :: .ref 222 :: .int 0 :: [])))) (h182 : f 182 = some (.inl (0, 4347, .inl (upd (tl (upd (upd (fun _ => 0) 2 (-1)) 4 1) 40) 2 2)))) : AM X l yX9_cutsAll cX9_cutsAll 5 none 2 0 0 [.ref 181] f n (EXO f [(181, .inr (9, (.int 0 :: .ref 182 :: .ref 183 :: .ref 184 :: .ref 185 :: .int 0 :: .int 0 :: .int 0 :: .ref 186 :: .int 0 :: .int 0 :: .int 0 :: .int (-1) :: .ref 187 :: .ref 188 :: .ref 189 :: .int 0 :: .ref 190 :: .ref 191 :: .ref 192 :: .ref 193 :: .ref 194 :: .int 0 :: .ref 195 :: .ref 196 :: .ref 197 :: .int 0 :: .ref 198 :: .ref 199 :: .ref 200 :: .ref 201 :: .ref 202 :: .ref 203 :: .int 0 :: .ref 204 :: .ref 205 :: .ref 206 :: .ref 207 :: .ref 208 :: .ref 209 :: .ref 210 :: .ref 211 :: .ref 212 :: .ref 213 :: .ref 214 :: .int 0 :: .ref 215 :: .ref 216 :: .int 0 :: .ref 217 :: .ref 218 :: .ref 219 :: .ref 220 :: .ref 221 :: .int 0 :: .int 0 :: .int 0 :: .int 0 :: .ref 222 :: .int 0 :: [])))] none n) := by
  refine AM.of (by decide +kernel) rfl (by decide) (fun p e s m args below meth c C hnm => ?_)
  refine ao_start ?_
  refine aw_nl [some (.ref 181), none, none, none, none] rfl ?_
  refine aw_ald_n C dX9_cutsAll_0 rfl ?_
  refine aw_iconst C 0 dX9_cutsAll_1 ki_0 ?_
  refine ao_put C [(181, .inr (9, (.int 0 :: .ref 182 :: .ref 183 :: .ref 184 :: .ref 185 :: .int 0 :: .int 0 :: .int 0 :: .ref 186 :: .int 0 :: .int 0 :: .int 0 :: .int (-1) :: .ref 187 :: .ref 188 :: .ref 189 :: .int 0 :: .ref 190 :: .ref 191 :: .ref 192 :: .ref 193 :: .ref 194 :: .int 0 :: .ref 195 :: .ref 196 :: .ref 197 :: .int 0 :: .ref 198 :: .ref 199 :: .ref 200 :: .ref 201 :: .ref 202 :: .ref 203 :: .int 0 :: .ref 204 :: .ref 205 :: .ref 206 :: .ref 207 :: .ref 208 :: .ref 209 :: .ref 210 :: .ref 211 :: .ref 212 :: .ref 213 :: .ref 214 :: .int 0 :: .ref 215 :: .ref 216 :: .int 0 :: .ref 217 :: .ref 218 :: .ref 219 :: .ref 220 :: .ref 221 :: .int 0 :: .int 0 :: .int 0 :: .int 0 :: .ref 222 :: .int 0 :: [])))] gf_X9_204 cf9 nf9_33 h181 (Nat.le_of_ble_eq_true rfl) rfl rfl dX9_cutsAll_2 rfl ?_
  refine aw_ald_n C dX9_cutsAll_5 rfl ?_
  refine aw_iconst C 0 dX9_cutsAll_6 ki_0 ?_
  refine ao_put C [(181, .inr (9, (.int 0 :: .ref 182 :: .ref 183 :: .ref 184 :: .ref 185 :: .int 0 :: .int 0 :: .int 0 :: .ref 186 :: .int 0 :: .int 0 :: .int 0 :: .int (-1) :: .ref 187 :: .ref 188 :: .ref 189 :: .int 0 :: .ref 190 :: .ref 191 :: .ref 192 :: .ref 193 :: .ref 194 :: .int 0 :: .ref 195 :: .ref 196 :: .ref 197 :: .int 0 :: .ref 198 :: .ref 199 :: .ref 200 :: .ref 201 :: .ref 202 :: .ref 203 :: .int 0 :: .ref 204 :: .ref 205 :: .ref 206 :: .ref 207 :: .ref 208 :: .ref 209 :: .ref 210 :: .ref 211 :: .ref 212 :: .ref 213 :: .ref 214 :: .int 0 :: .ref 215 :: .ref 216 :: .int 0 :: .ref 217 :: .ref 218 :: .ref 219 :: .ref 220 :: .ref 221 :: .int 0 :: .int 0 :: .int 0 :: .int 0 :: .ref 222 :: .int 0 :: [])))] gf_X9_217 cf9 nf9_45 rfl (Nat.le_of_ble_eq_true rfl) rfl rfl dX9_cutsAll_7 rfl ?_
  refine aw_iconst C 0 dX9_cutsAll_10 ki_0 ?_
  refine aw_istore_n C dX9_cutsAll_11 (by decide) rfl ?_
  refine aw_nl [some (.ref 181), some (.int 0), none, none, none] rfl ?_
  refine aw_iload_n C dX9_cutsAll_12 rfl ?_
  refine aw_ald_n C dX9_cutsAll_13 rfl ?_
  refine aw_get C gf_X9_220 rfl rfl dX9_cutsAll_14 ?_
  refine aw_icmp_ge C 42 dX9_cutsAll_17 (by decide) (fun _ => ?_) (fun q => absurd (by decide) q)
  refine aw_ald_n C dX9_cutsAll_42 rfl ?_
  refine aw_ald_n C dX9_cutsAll_43 rfl ?_
  refine aw_ald_n C dX9_cutsAll_44 rfl ?_
  refine aw_get C gf_X9_7 rfl rfl dX9_cutsAll_45 ?_
  refine aw_iconst C 1 dX9_cutsAll_48 ki_1 ?_
  refine ao_iald C 0 h182 (by unfold vp_in; decide) (by decide : _ = 1) rfl dX9_cutsAll_49 ?_
  refine aw_ald_n C dX9_cutsAll_50 rfl ?_
  refine aw_get C gf_X9_30 rfl rfl dX9_cutsAll_51 ?_
  refine aw_ald_n C dX9_cutsAll_54 rfl ?_
  refine aw_get C gf_X9_220 rfl rfl dX9_cutsAll_55 ?_
  refine aw_ald_n C dX9_cutsAll_58 rfl ?_
  refine aw_get C gf_X9_39 rfl rfl dX9_cutsAll_59 ?_
  refine aw_ald_n C dX9_cutsAll_62 rfl ?_
  refine aw_get C gf_X9_42 rfl rfl dX9_cutsAll_63 ?_
  refine aw_ald_n C dX9_cutsAll_66 rfl ?_
  refine aw_get C gf_X9_45 rfl rfl dX9_cutsAll_67 ?_
  refine ao_callV C (ci := 9) (b := 181) [.int 0, .ref 187, .int 0, .ref 190, .ref 191, .ref 192] [(181, .inr (9, (.int 0 :: .ref 182 :: .ref 183 :: .ref 184 :: .ref 185 :: .int 0 :: .int 0 :: .int 0 :: .ref 186 :: .int 0 :: .int 0 :: .int 0 :: .int (-1) :: .ref 187 :: .ref 188 :: .ref 189 :: .int 0 :: .ref 190 :: .ref 191 :: .ref 192 :: .ref 193 :: .ref 194 :: .int 0 :: .ref 195 :: .ref 196 :: .ref 197 :: .int 0 :: .ref 198 :: .ref 199 :: .ref 200 :: .ref 201 :: .ref 202 :: .ref 203 :: .int 0 :: .ref 204 :: .ref 205 :: .ref 206 :: .ref 207 :: .ref 208 :: .ref 209 :: .ref 210 :: .ref 211 :: .ref 212 :: .ref 213 :: .ref 214 :: .int 0 :: .ref 215 :: .ref 216 :: .int 0 :: .ref 217 :: .ref 218 :: .ref 219 :: .ref 220 :: .ref 221 :: .int 0 :: .int 0 :: .int 0 :: .int 0 :: .ref 222 :: .int 0 :: [])))] mv_X9_223 rfl rfl rfl (c_X9_cuts_199 rfl) rfl dX9_cutsAll_70 (Nat.le_of_ble_eq_true rfl) (Nat.le_of_ble_eq_true rfl) rfl (Nat.le_of_ble_eq_true rfl) (Nat.le_of_ble_eq_true rfl) (Nat.le_of_ble_eq_true rfl) rfl ?_
  refine ao_put C [(181, .inr (9, (.int 0 :: .ref 182 :: .ref 183 :: .ref 184 :: .ref 185 :: .int 0 :: .int 0 :: .int 0 :: .ref 186 :: .int 0 :: .int 0 :: .int 0 :: .int (-1) :: .ref 187 :: .ref 188 :: .ref 189 :: .int 0 :: .ref 190 :: .ref 191 :: .ref 192 :: .ref 193 :: .ref 194 :: .int 0 :: .ref 195 :: .ref 196 :: .ref 197 :: .int 0 :: .ref 198 :: .ref 199 :: .ref 200 :: .ref 201 :: .ref 202 :: .ref 203 :: .int 0 :: .ref 204 :: .ref 205 :: .ref 206 :: .ref 207 :: .ref 208 :: .ref 209 :: .ref 210 :: .ref 211 :: .ref 212 :: .ref 213 :: .ref 214 :: .int 0 :: .ref 215 :: .ref 216 :: .int 0 :: .ref 217 :: .ref 218 :: .ref 219 :: .ref 220 :: .ref 221 :: .int 0 :: .int 0 :: .int 0 :: .int 0 :: .ref 222 :: .int 0 :: [])))] gf_X9_227 cf9 nf9_22 rfl (Nat.le_of_ble_eq_true rfl) rfl rfl dX9_cutsAll_73 rfl ?_
  refine aw_iconst C 0 dX9_cutsAll_76 ki_0 ?_
  refine aw_istore_n C dX9_cutsAll_77 (by decide) rfl ?_
  refine aw_nl [some (.ref 181), some (.int 0), none, none, none] rfl ?_
  refine aw_iload_n C dX9_cutsAll_78 rfl ?_
  refine aw_ald_n C dX9_cutsAll_79 rfl ?_
  refine aw_get C gf_X9_227 rfl rfl dX9_cutsAll_80 ?_
  refine aw_icmp_ge C 339 dX9_cutsAll_83 (by decide) (fun _ => ?_) (fun q => absurd (by decide) q)
  exact aw_vret C rfl dX9_cutsAll_339 (Nat.le_of_ble_eq_true rfl) (Nat.le_of_ble_eq_true rfl) ⟨rfl, rfl, rfl⟩

set_option maxHeartbeats 4000000 in
set_option maxRecDepth 100000 in
theorem c_X9_cutsFile_318 {X : GX} {l : Launch} {f : AH} {n : Nat} (h181 : f 181 = some (.inr (9, (.int 0 :: .ref 182 :: .ref 183 :: .ref 184 :: .ref 185 :: .int 0 :: .int 0 :: .int 0 :: .ref 186 :: .int 0 :: .int 0 :: .int 0 :: .int (-1) :: .ref 187 :: .ref 188 :: .ref 189 :: .int 0 :: .ref 190 :: .ref 191 :: .ref 192 :: .ref 193 :: .ref 194 :: .int 0 :: .ref 195 :: .ref 196 :: .ref 197 :: .int 0 :: .ref 198 :: .ref 199 :: .ref 200 :: .ref 201 :: .ref 202 :: .ref 203 :: .int 0 :: .ref 204 :: .ref 205 :: .ref 206 :: .ref 207 :: .ref 208 :: .ref 209 :: .ref 210 :: .ref 211 :: .ref 212 :: .ref 213 :: .ref 214 :: .int 0 :: .ref 215 :: .ref 216 :: .int 0 :: .ref 217 :: .ref 218 :: .ref 219 :: .ref 220 :: .ref 221 :: .int 0 :: .int 0 :: .int 0 :: .int 0 :: .ref 222 :: .int 0 :: [])))) (h182 : f 182 = some (.inl (0, 4347, .inl (upd (tl (upd (upd (fun _ => 0) 2 (-1)) 4 1) 40) 2 2)))) : AM X l yX9_cutsFile cX9_cutsFile 2 none 3 0 0 [.ref 181] f n (EXO f [(181, .inr (9, (.int 0 :: .ref 182 :: .ref 183 :: .ref 184 :: .ref 185 :: .int 0 :: .int 0 :: .int 0 :: .ref 186 :: .int 0 :: .int 0 :: .int 0 :: .int (-1) :: .ref 187 :: .ref 188 :: .ref 189 :: .int 0 :: .ref 190 :: .ref 191 :: .ref 192 :: .ref 193 :: .ref 194 :: .int 0 :: .ref 195 :: .ref 196 :: .ref 197 :: .int 0 :: .ref 198 :: .ref 199 :: .ref 200 :: .ref 201 :: .ref 202 :: .ref 203 :: .int 0 :: .ref 204 :: .ref 205 :: .ref 206 :: .ref 207 :: .ref 208 :: .ref 209 :: .ref 210 :: .ref 211 :: .ref 212 :: .ref 213 :: .ref 214 :: .int 0 :: .ref 215 :: .ref 216 :: .int 0 :: .ref 217 :: .ref 218 :: .ref 219 :: .ref 220 :: .ref 221 :: .int 0 :: .int 0 :: .int 0 :: .int 0 :: .ref 222 :: .int 0 :: [])))] none n) := by
  refine AM.of (by decide +kernel) rfl (by decide) (fun p e s m args below meth c C hnm => ?_)
  refine ao_start ?_
  refine aw_nl [some (.ref 181), none] rfl ?_
  refine aw_ald_n C dX9_cutsFile_0 rfl ?_
  refine aw_ald_n C dX9_cutsFile_1 rfl ?_
  refine aw_get C gf_X9_7 h181 rfl dX9_cutsFile_2 ?_
  refine aw_iconst C 0 dX9_cutsFile_5 ki_0 ?_
  refine ao_iald C 0 h182 (by unfold vp_in; decide) (by decide : _ = 0) rfl dX9_cutsFile_6 ?_
  refine ao_put C [(181, .inr (9, (.int 0 :: .ref 182 :: .ref 183 :: .ref 184 :: .ref 185 :: .int 0 :: .int 0 :: .int 0 :: .ref 186 :: .int 0 :: .int 0 :: .int 0 :: .int (-1) :: .ref 187 :: .ref 188 :: .ref 189 :: .int 0 :: .ref 190 :: .ref 191 :: .ref 192 :: .ref 193 :: .ref 194 :: .int 0 :: .ref 195 :: .ref 196 :: .ref 197 :: .int 0 :: .ref 198 :: .ref 199 :: .ref 200 :: .ref 201 :: .ref 202 :: .ref 203 :: .int 0 :: .ref 204 :: .ref 205 :: .ref 206 :: .ref 207 :: .ref 208 :: .ref 209 :: .ref 210 :: .ref 211 :: .ref 212 :: .ref 213 :: .ref 214 :: .int 0 :: .ref 215 :: .ref 216 :: .int 0 :: .ref 217 :: .ref 218 :: .ref 219 :: .ref 220 :: .ref 221 :: .int 0 :: .int 0 :: .int 0 :: .int 0 :: .ref 222 :: .int 0 :: [])))] gf_X9_220 cf9 nf9_16 h181 (Nat.le_of_ble_eq_true rfl) rfl rfl dX9_cutsFile_7 rfl ?_
  refine aw_iconst C 0 dX9_cutsFile_10 ki_0 ?_
  refine aw_istore_n C dX9_cutsFile_11 (by decide) rfl ?_
  refine aw_nl [some (.ref 181), some (.int 0)] rfl ?_
  refine aw_iload_n C dX9_cutsFile_12 rfl ?_
  refine aw_ald_n C dX9_cutsFile_13 rfl ?_
  refine aw_get C gf_X9_220 rfl rfl dX9_cutsFile_14 ?_
  refine aw_icmp_ge C 41 dX9_cutsFile_17 (by decide) (fun _ => ?_) (fun q => absurd (by decide) q)
  refine aw_ald_n C dX9_cutsFile_41 rfl ?_
  refine ao_callV C (ci := 9) (b := 181) [] [(181, .inr (9, (.int 0 :: .ref 182 :: .ref 183 :: .ref 184 :: .ref 185 :: .int 0 :: .int 0 :: .int 0 :: .ref 186 :: .int 0 :: .int 0 :: .int 0 :: .int (-1) :: .ref 187 :: .ref 188 :: .ref 189 :: .int 0 :: .ref 190 :: .ref 191 :: .ref 192 :: .ref 193 :: .ref 194 :: .int 0 :: .ref 195 :: .ref 196 :: .ref 197 :: .int 0 :: .ref 198 :: .ref 199 :: .ref 200 :: .ref 201 :: .ref 202 :: .ref 203 :: .int 0 :: .ref 204 :: .ref 205 :: .ref 206 :: .ref 207 :: .ref 208 :: .ref 209 :: .ref 210 :: .ref 211 :: .ref 212 :: .ref 213 :: .ref 214 :: .int 0 :: .ref 215 :: .ref 216 :: .int 0 :: .ref 217 :: .ref 218 :: .ref 219 :: .ref 220 :: .ref 221 :: .int 0 :: .int 0 :: .int 0 :: .int 0 :: .ref 222 :: .int 0 :: [])))] mv_X9_241 rfl rfl rfl (c_X9_cutsAll_317 rfl h182) rfl dX9_cutsFile_42 (Nat.le_of_ble_eq_true rfl) (Nat.le_of_ble_eq_true rfl) rfl (Nat.le_of_ble_eq_true rfl) (Nat.le_of_ble_eq_true rfl) (Nat.le_of_ble_eq_true rfl) rfl ?_
  exact aw_vret C rfl dX9_cutsFile_45 (Nat.le_of_ble_eq_true rfl) (Nat.le_of_ble_eq_true rfl) ⟨rfl, rfl, rfl⟩

set_option maxHeartbeats 4000000 in
set_option maxRecDepth 100000 in
theorem c_X9_cutsAnew_319 {X : GX} {l : Launch} {f : AH} {n : Nat} (h181 : f 181 = some (.inr (9, (.int 0 :: .ref 182 :: .ref 183 :: .ref 184 :: .ref 185 :: .int 0 :: .int 0 :: .int 0 :: .ref 186 :: .int 0 :: .int 0 :: .int 0 :: .int (-1) :: .ref 187 :: .ref 188 :: .ref 189 :: .int 0 :: .ref 190 :: .ref 191 :: .ref 192 :: .ref 193 :: .ref 194 :: .int 0 :: .ref 195 :: .ref 196 :: .ref 197 :: .int 0 :: .ref 198 :: .ref 199 :: .ref 200 :: .ref 201 :: .ref 202 :: .ref 203 :: .int 0 :: .ref 204 :: .ref 205 :: .ref 206 :: .ref 207 :: .ref 208 :: .ref 209 :: .ref 210 :: .ref 211 :: .ref 212 :: .ref 213 :: .ref 214 :: .int 0 :: .ref 215 :: .ref 216 :: .int 0 :: .ref 217 :: .ref 218 :: .ref 219 :: .ref 220 :: .ref 221 :: .int 0 :: .int 0 :: .int 0 :: .int 0 :: .ref 222 :: .int 0 :: [])))) (h182 : f 182 = some (.inl (0, 4347, .inl (upd (tl (upd (upd (fun _ => 0) 2 (-1)) 4 1) 40) 2 2)))) : AM X l yX9_cutsAnew cX9_cutsAnew 2 none 4 0 0 [.ref 181] f n (EXO f [(181, .inr (9, (.int 0 :: .ref 182 :: .ref 183 :: .ref 184 :: .ref 185 :: .int 0 :: .int 0 :: .int 0 :: .ref 186 :: .int 0 :: .int 0 :: .int 0 :: .int (-1) :: .ref 187 :: .ref 188 :: .ref 189 :: .int 0 :: .ref 190 :: .ref 191 :: .ref 192 :: .ref 193 :: .ref 194 :: .int 0 :: .ref 195 :: .ref 196 :: .ref 197 :: .int 0 :: .ref 198 :: .ref 199 :: .ref 200 :: .ref 201 :: .ref 202 :: .ref 203 :: .int 0 :: .ref 204 :: .ref 205 :: .ref 206 :: .ref 207 :: .ref 208 :: .ref 209 :: .ref 210 :: .ref 211 :: .ref 212 :: .ref 213 :: .ref 214 :: .int 0 :: .ref 215 :: .ref 216 :: .int 0 :: .ref 217 :: .ref 218 :: .ref 219 :: .ref 220 :: .ref 221 :: .int 0 :: .int 0 :: .int 0 :: .int 0 :: .ref 222 :: .int 0 :: []))), (182, .inl (0, 4347, .inl (tl (upd (tl (upd (upd (fun _ => 0) 2 (-1)) 4 1) 40) 2 2) 40)))] none n) := by
  refine AM.of (by decide +kernel) rfl (by decide) (fun p e s m args below meth c C hnm => ?_)
  refine ao_start ?_
  refine aw_nl [some (.ref 181), none] rfl ?_
  refine aw_ald_n C dX9_cutsAnew_0 rfl ?_
  refine ao_callV C (ci := 9) (b := 181) [] [(181, .inr (9, (.int 0 :: .ref 182 :: .ref 183 :: .ref 184 :: .ref 185 :: .int 0 :: .int 0 :: .int 0 :: .ref 186 :: .int 0 :: .int 0 :: .int 0 :: .int (-1) :: .ref 187 :: .ref 188 :: .ref 189 :: .int 0 :: .ref 190 :: .ref 191 :: .ref 192 :: .ref 193 :: .ref 194 :: .int 0 :: .ref 195 :: .ref 196 :: .ref 197 :: .int 0 :: .ref 198 :: .ref 199 :: .ref 200 :: .ref 201 :: .ref 202 :: .ref 203 :: .int 0 :: .ref 204 :: .ref 205 :: .ref 206 :: .ref 207 :: .ref 208 :: .ref 209 :: .ref 210 :: .ref 211 :: .ref 212 :: .ref 213 :: .ref 214 :: .int 0 :: .ref 215 :: .ref 216 :: .int 0 :: .ref 217 :: .ref 218 :: .ref 219 :: .ref 220 :: .ref 221 :: .int 0 :: .int 0 :: .int 0 :: .int 0 :: .ref 222 :: .int 0 :: [])))] mv_X9_244 rfl rfl h181 (c_X9_cutsFile_318 h181 h182) rfl dX9_cutsAnew_1 (Nat.le_of_ble_eq_true rfl) (Nat.le_of_ble_eq_true rfl) rfl (Nat.le_of_ble_eq_true rfl) (Nat.le_of_ble_eq_true rfl) (Nat.le_of_ble_eq_true rfl) rfl ?_
  refine aw_iconst C 0 dX9_cutsAnew_4 ki_0 ?_
  refine aw_istore_n C dX9_cutsAnew_5 (by decide) rfl ?_
  refine aw_nl [some (.ref 181), some (.int 0)] rfl ?_
  refine lp_X9_cutsAnew C (M := 181) (a := 182) (fs := (.int 0 :: .ref 182 :: .ref 183 :: .ref 184 :: .ref 185 :: .int 0 :: .int 0 :: .int 0 :: .ref 186 :: .int 0 :: .int 0 :: .int 0 :: .int (-1) :: .ref 187 :: .ref 188 :: .ref 189 :: .int 0 :: .ref 190 :: .ref 191 :: .ref 192 :: .ref 193 :: .ref 194 :: .int 0 :: .ref 195 :: .ref 196 :: .ref 197 :: .int 0 :: .ref 198 :: .ref 199 :: .ref 200 :: .ref 201 :: .ref 202 :: .ref 203 :: .int 0 :: .ref 204 :: .ref 205 :: .ref 206 :: .ref 207 :: .ref 208 :: .ref 209 :: .ref 210 :: .ref 211 :: .ref 212 :: .ref 213 :: .ref 214 :: .int 0 :: .ref 215 :: .ref 216 :: .int 0 :: .ref 217 :: .ref 218 :: .ref 219 :: .ref 220 :: .ref 221 :: .int 0 :: .int 0 :: .int 0 :: .int 0 :: .ref 222 :: .int 0 :: [])) (g := upd (tl (upd (upd (fun _ => 0) 2 (-1)) 4 1) 40) 2 2) [(181, .inr (9, (.int 0 :: .ref 182 :: .ref 183 :: .ref 184 :: .ref 185 :: .int 0 :: .int 0 :: .int 0 :: .ref 186 :: .int 0 :: .int 0 :: .int 0 :: .int (-1) :: .ref 187 :: .ref 188 :: .ref 189 :: .int 0 :: .ref 190 :: .ref 191 :: .ref 192 :: .ref 193 :: .ref 194 :: .int 0 :: .ref 195 :: .ref 196 :: .ref 197 :: .int 0 :: .ref 198 :: .ref 199 :: .ref 200 :: .ref 201 :: .ref 202 :: .ref 203 :: .int 0 :: .ref 204 :: .ref 205 :: .ref 206 :: .ref 207 :: .ref 208 :: .ref 209 :: .ref 210 :: .ref 211 :: .ref 212 :: .ref 213 :: .ref 214 :: .int 0 :: .ref 215 :: .ref 216 :: .int 0 :: .ref 217 :: .ref 218 :: .ref 219 :: .ref 220 :: .ref 221 :: .int 0 :: .int 0 :: .int 0 :: .int 0 :: .ref 222 :: .int 0 :: []))), (182, .inl (0, 4347, .inl (tl (upd (tl (upd (upd (fun _ => 0) 2 (-1)) 4 1) 40) 2 2) 40)))] rfl rfl (by decide) h182 rfl ?_
  exact aw_vret C rfl dX9_cutsAnew_32 (Nat.le_of_ble_eq_true rfl) (Nat.le_of_ble_eq_true rfl) ⟨rfl, rfl, rfl⟩

set_option maxHeartbeats 4000000 in
set_option maxRecDepth 100000 in
theorem c_X9_rules_320 {X : GX} {l : Launch} {f : AH} {n : Nat} (h181 : f 181 = some (.inr (9, (.int 0 :: .ref 182 :: .ref 183 :: .ref 184 :: .ref 185 :: .int 0 :: .int 0 :: .int 0 :: .ref 186 :: .int 0 :: .int 0 :: .int 0 :: .int (-1) :: .ref 187 :: .ref 188 :: .ref 189 :: .int 0 :: .ref 190 :: .ref 191 :: .ref 192 :: .ref 193 :: .ref 194 :: .int 0 :: .ref 195 :: .ref 196 :: .ref 197 :: .int 0 :: .ref 198 :: .ref 199 :: .ref 200 :: .ref 201 :: .ref 202 :: .ref 203 :: .int 0 :: .ref 204 :: .ref 205 :: .ref 206 :: .ref 207 :: .ref 208 :: .ref 209 :: .ref 210 :: .ref 211 :: .ref 212 :: .ref 213 :: .ref 214 :: .int 0 :: .ref 215 :: .ref 216 :: .int 0 :: .ref 217 :: .ref 218 :: .ref 219 :: .ref 220 :: .ref 221 :: .int 0 :: .int 0 :: .int 0 :: .int 0 :: .ref 222 :: .int 0 :: [])))) (h182 : f 182 = some (.inl (0, 4347, .inl (tl (upd (upd (fun _ => 0) 2 (-1)) 4 1) 40)))) : AM X l yX9_rules cX9_rules 3 (some .int) 5 0 0 [.ref 181, .int 2, .int 2] f n (EXO f [(182, .inl (0, 4347, .inl (tl (upd (tl (upd (upd (fun _ => 0) 2 (-1)) 4 1) 40) 2 2) 40))), (181, .inr (9, (.int 0 :: .ref 182 :: .ref 183 :: .ref 184 :: .ref 185 :: .int 0 :: .int 0 :: .int 0 :: .ref 186 :: .int 0 :: .int 0 :: .int 0 :: .int (-1) :: .ref 187 :: .ref 188 :: .ref 189 :: .int 0 :: .ref 190 :: .ref 191 :: .ref 192 :: .ref 193 :: .ref 194 :: .int 0 :: .ref 195 :: .ref 196 :: .ref 197 :: .int 0 :: .ref 198 :: .ref 199 :: .ref 200 :: .ref 201 :: .ref 202 :: .ref 203 :: .int 0 :: .ref 204 :: .ref 205 :: .ref 206 :: .ref 207 :: .ref 208 :: .ref 209 :: .ref 210 :: .ref 211 :: .ref 212 :: .ref 213 :: .ref 214 :: .int 0 :: .ref 215 :: .ref 216 :: .int 0 :: .ref 217 :: .ref 218 :: .ref 219 :: .ref 220 :: .ref 221 :: .int 0 :: .int 0 :: .int 0 :: .int 0 :: .ref 222 :: .int 0 :: [])))] (some (.int 0)) n) := by
  refine AM.of (by decide +kernel) rfl (by decide) (fun p e s m args below meth c C hnm => ?_)
  refine ao_start ?_
  refine aw_nl [some (.ref 181), some (.int 2), some (.int 2)] rfl ?_
  refine aw_ald_n C dX9_rules_0 rfl ?_
  refine aw_get C gf_X9_7 h181 rfl dX9_rules_1 ?_
  refine aw_iload_n C dX9_rules_4 rfl ?_
  refine aw_iload_n C dX9_rules_5 rfl ?_
  refine ao_iast C [(182, .inl (0, 4347, .inl (upd (tl (upd (upd (fun _ => 0) 2 (-1)) 4 1) 40) 2 2)))] h182 (by unfold vp_in; decide) (by decide : _ = 2) dX9_rules_6 rfl ?_
  refine aw_ald_n C dX9_rules_7 rfl ?_
  refine ao_callV C (ci := 9) (b := 181) [] [(182, .inl (0, 4347, .inl (tl (upd (tl (upd (upd (fun _ => 0) 2 (-1)) 4 1) 40) 2 2) 40))), (181, .inr (9, (.int 0 :: .ref 182 :: .ref 183 :: .ref 184 :: .ref 185 :: .int 0 :: .int 0 :: .int 0 :: .ref 186 :: .int 0 :: .int 0 :: .int 0 :: .int (-1) :: .ref 187 :: .ref 188 :: .ref 189 :: .int 0 :: .ref 190 :: .ref 191 :: .ref 192 :: .ref 193 :: .ref 194 :: .int 0 :: .ref 195 :: .ref 196 :: .ref 197 :: .int 0 :: .ref 198 :: .ref 199 :: .ref 200 :: .ref 201 :: .ref 202 :: .ref 203 :: .int 0 :: .ref 204 :: .ref 205 :: .ref 206 :: .ref 207 :: .ref 208 :: .ref 209 :: .ref 210 :: .ref 211 :: .ref 212 :: .ref 213 :: .ref 214 :: .int 0 :: .ref 215 :: .ref 216 :: .int 0 :: .ref 217 :: .ref 218 :: .ref 219 :: .ref 220 :: .ref 221 :: .int 0 :: .int 0 :: .int 0 :: .int 0 :: .ref 222 :: .int 0 :: [])))] mv_X9_322 rfl rfl h181 (c_X9_cutsAnew_319 h181 rfl) rfl dX9_rules_8 (Nat.le_of_ble_eq_true rfl) (Nat.le_of_ble_eq_true rfl) rfl (Nat.le_of_ble_eq_true rfl) (Nat.le_of_ble_eq_true rfl) (Nat.le_of_ble_eq_true rfl) rfl ?_
  refine aw_iconst C 0 dX9_rules_11 ki_0 ?_
  exact aw_iret C rfl rfl dX9_rules_12 (Nat.le_of_ble_eq_true rfl) (Nat.le_of_ble_eq_true rfl) ⟨rfl, rfl, rfl⟩

set_option maxHeartbeats 4000000 in
set_option maxRecDepth 100000 in
theorem c_X9_kind_321 {X : GX} {l : Launch} {f : AH} {n : Nat} (h181 : f 181 = some (.inr (9, (.int 0 :: .ref 182 :: .ref 183 :: .ref 184 :: .ref 185 :: .int 0 :: .int 0 :: .int 0 :: .ref 186 :: .int 0 :: .int 0 :: .int 0 :: .int (-1) :: .ref 187 :: .ref 188 :: .ref 189 :: .int 0 :: .ref 190 :: .ref 191 :: .ref 192 :: .ref 193 :: .ref 194 :: .int 0 :: .ref 195 :: .ref 196 :: .ref 197 :: .int 0 :: .ref 198 :: .ref 199 :: .ref 200 :: .ref 201 :: .ref 202 :: .ref 203 :: .int 0 :: .ref 204 :: .ref 205 :: .ref 206 :: .ref 207 :: .ref 208 :: .ref 209 :: .ref 210 :: .ref 211 :: .ref 212 :: .ref 213 :: .ref 214 :: .int 0 :: .ref 215 :: .ref 216 :: .int 0 :: .ref 217 :: .ref 218 :: .ref 219 :: .ref 220 :: .ref 221 :: .int 0 :: .int 0 :: .int 0 :: .int 0 :: .ref 222 :: .int 0 :: [])))) (h183 : f 183 = some (.inl (0, 4347, .inl (fun _ => 0)))) (h182 : f 182 = some (.inl (0, 4347, .inl (tl (upd (upd (fun _ => 0) 2 (-1)) 4 1) 40)))) (h185 : f 185 = some (.inl (0, 34776, .inl (fun _ => 0)))) : AM X l yX9_kind cX9_kind 3 (some .int) 6 0 0 [.ref 181, .int 2, .int 1] f n (EXO f [(181, .inr (9, (.int 0 :: .ref 182 :: .ref 183 :: .ref 184 :: .ref 185 :: .int 1 :: .int 0 :: .int 0 :: .ref 186 :: .int 0 :: .int 0 :: .int 0 :: .int (-1) :: .ref 187 :: .ref 188 :: .ref 189 :: .int 0 :: .ref 190 :: .ref 191 :: .ref 192 :: .ref 193 :: .ref 194 :: .int 0 :: .ref 195 :: .ref 196 :: .ref 197 :: .int 0 :: .ref 198 :: .ref 199 :: .ref 200 :: .ref 201 :: .ref 202 :: .ref 203 :: .int 0 :: .ref 204 :: .ref 205 :: .ref 206 :: .ref 207 :: .ref 208 :: .ref 209 :: .ref 210 :: .ref 211 :: .ref 212 :: .ref 213 :: .ref 214 :: .int 0 :: .ref 215 :: .ref 216 :: .int 0 :: .ref 217 :: .ref 218 :: .ref 219 :: .ref 220 :: .ref 221 :: .int 0 :: .int 0 :: .int 0 :: .int 0 :: .ref 222 :: .int 0 :: []))), (183, .inl (0, 4347, .inl (cpy (tl (upd (upd (fun _ => 0) 2 (-1)) 4 1) 40) (fun _ => 0) 4347))), (182, .inl (0, 4347, .inl (tl (upd (tl (upd (upd (fun _ => 0) 2 (-1)) 4 1) 40) 2 2) 40))), (185, .inl (0, 34776, .inl (cpy (cpy (tl (upd (upd (fun _ => 0) 2 (-1)) 4 1) 40) (fun _ => 0) 4347) (fun _ => 0) 4347)))] (some (.int 0)) n) := by
  refine AM.of (by decide +kernel) rfl (by decide) (fun p e s m args below meth c C hnm => ?_)
  refine ao_start ?_
  refine aw_nl [some (.ref 181), some (.int 2), some (.int 1)] rfl ?_
  refine aw_ald_n C dX9_kind_0 rfl ?_
  refine aw_iload_n C dX9_kind_1 rfl ?_
  refine aw_iload_n C dX9_kind_2 rfl ?_
  refine aw_if_eq C 10 dX9_kind_3 (by decide) (fun q => absurd q (by decide)) (fun _ => ?_)
  refine aw_iconst C (-1) dX9_kind_6 ki_m1 ?_
  refine aw_goto C 11 dX9_kind_7 (by decide) ?_
  refine aw_iconst C 3 dX9_kind_11 ki_3 ?_
  refine ao_callS C [.int 2, .int (-1), .int 3] [] ms_X9_141 (c_X9_isIn_316) rfl dX9_kind_12 (Nat.le_of_ble_eq_true rfl) (Nat.le_of_ble_eq_true rfl) rfl (Nat.le_of_ble_eq_true rfl) (Nat.le_of_ble_eq_true rfl) (Nat.le_of_ble_eq_true rfl) rfl ?_
  refine aw_if_eq C 22 dX9_kind_15 (by decide) (fun q => absurd q (by decide)) (fun _ => ?_)
  refine aw_iconst C 0 dX9_kind_18 ki_0 ?_
  refine aw_goto C 23 dX9_kind_19 (by decide) ?_
  refine ao_put C [(181, .inr (9, (.int 0 :: .ref 182 :: .ref 183 :: .ref 184 :: .ref 185 :: .int 0 :: .int 0 :: .int 0 :: .ref 186 :: .int 0 :: .int 0 :: .int 0 :: .int (-1) :: .ref 187 :: .ref 188 :: .ref 189 :: .int 0 :: .ref 190 :: .ref 191 :: .ref 192 :: .ref 193 :: .ref 194 :: .int 0 :: .ref 195 :: .ref 196 :: .ref 197 :: .int 0 :: .ref 198 :: .ref 199 :: .ref 200 :: .ref 201 :: .ref 202 :: .ref 203 :: .int 0 :: .ref 204 :: .ref 205 :: .ref 206 :: .ref 207 :: .ref 208 :: .ref 209 :: .ref 210 :: .ref 211 :: .ref 212 :: .ref 213 :: .ref 214 :: .int 0 :: .ref 215 :: .ref 216 :: .int 0 :: .ref 217 :: .ref 218 :: .ref 219 :: .ref 220 :: .ref 221 :: .int 0 :: .int 0 :: .int 0 :: .int 0 :: .ref 222 :: .int 0 :: [])))] gf_X9_138 cf9 nf9_0 h181 (Nat.le_of_ble_eq_true rfl) rfl rfl dX9_kind_23 rfl ?_
  refine aw_ald_n C dX9_kind_26 rfl ?_
  refine aw_get C gf_X9_138 rfl rfl dX9_kind_27 ?_
  refine aw_if_le C 35 dX9_kind_30 (by decide) (fun _ => ?_) (fun q => absurd (by decide) q)
  refine aw_ald_n C dX9_kind_35 rfl ?_
  refine ao_callV C (ci := 9) (b := 181) [] [(181, .inr (9, (.int 0 :: .ref 182 :: .ref 183 :: .ref 184 :: .ref 185 :: .int 0 :: .int 0 :: .int 0 :: .ref 186 :: .int 0 :: .int 0 :: .int 0 :: .int (-1) :: .ref 187 :: .ref 188 :: .ref 189 :: .int 0 :: .ref 190 :: .ref 191 :: .ref 192 :: .ref 193 :: .ref 194 :: .int 0 :: .ref 195 :: .ref 196 :: .ref 197 :: .int 0 :: .ref 198 :: .ref 199 :: .ref 200 :: .ref 201 :: .ref 202 :: .ref 203 :: .int 0 :: .ref 204 :: .ref 205 :: .ref 206 :: .ref 207 :: .ref 208 :: .ref 209 :: .ref 210 :: .ref 211 :: .ref 212 :: .ref 213 :: .ref 214 :: .int 0 :: .ref 215 :: .ref 216 :: .int 0 :: .ref 217 :: .ref 218 :: .ref 219 :: .ref 220 :: .ref 221 :: .int 0 :: .int 0 :: .int 0 :: .int 0 :: .ref 222 :: .int 0 :: []))), (183, .inl (0, 4347, .inl (cpy (tl (upd (upd (fun _ => 0) 2 (-1)) 4 1) 40) (fun _ => 0) 4347)))] mv_X9_420 rfl rfl rfl (c_X9_putsAside_173 rfl h183 h182) rfl dX9_kind_36 (Nat.le_of_ble_eq_true rfl) (Nat.le_of_ble_eq_true rfl) rfl (Nat.le_of_ble_eq_true rfl) (Nat.le_of_ble_eq_true rfl) (Nat.le_of_ble_eq_true rfl) rfl ?_
  refine aw_ald_n C dX9_kind_39 rfl ?_
  refine aw_ald_n C dX9_kind_40 rfl ?_
  refine aw_iload_n C dX9_kind_41 rfl ?_
  refine aw_if_eq C 49 dX9_kind_42 (by decide) (fun q => absurd q (by decide)) (fun _ => ?_)
  refine aw_iconst C 2 dX9_kind_45 ki_2 ?_
  refine aw_goto C 50 dX9_kind_46 (by decide) ?_
  refine aw_iload_n C dX9_kind_50 rfl ?_
  refine ao_callV C (ci := 9) (b := 181) [.int 2, .int 2] [(181, .inr (9, (.int 0 :: .ref 182 :: .ref 183 :: .ref 184 :: .ref 185 :: .int 0 :: .int 0 :: .int 0 :: .ref 186 :: .int 0 :: .int 0 :: .int 0 :: .int (-1) :: .ref 187 :: .ref 188 :: .ref 189 :: .int 0 :: .ref 190 :: .ref 191 :: .ref 192 :: .ref 193 :: .ref 194 :: .int 0 :: .ref 195 :: .ref 196 :: .ref 197 :: .int 0 :: .ref 198 :: .ref 199 :: .ref 200 :: .ref 201 :: .ref 202 :: .ref 203 :: .int 0 :: .ref 204 :: .ref 205 :: .ref 206 :: .ref 207 :: .ref 208 :: .ref 209 :: .ref 210 :: .ref 211 :: .ref 212 :: .ref 213 :: .ref 214 :: .int 0 :: .ref 215 :: .ref 216 :: .int 0 :: .ref 217 :: .ref 218 :: .ref 219 :: .ref 220 :: .ref 221 :: .int 0 :: .int 0 :: .int 0 :: .int 0 :: .ref 222 :: .int 0 :: []))), (183, .inl (0, 4347, .inl (cpy (tl (upd (upd (fun _ => 0) 2 (-1)) 4 1) 40) (fun _ => 0) 4347))), (182, .inl (0, 4347, .inl (tl (upd (tl (upd (upd (fun _ => 0) 2 (-1)) 4 1) 40) 2 2) 40)))] mv_X9_361 rfl rfl rfl (c_X9_rules_320 rfl h182) rfl dX9_kind_51 (Nat.le_of_ble_eq_true rfl) (Nat.le_of_ble_eq_true rfl) rfl (Nat.le_of_ble_eq_true rfl) (Nat.le_of_ble_eq_true rfl) (Nat.le_of_ble_eq_true rfl) rfl ?_
  refine aw_iconst C 0 dX9_kind_54 ki_0 ?_
  refine ao_callV C (ci := 9) (b := 181) [.int 0, .int 0] [(181, .inr (9, (.int 0 :: .ref 182 :: .ref 183 :: .ref 184 :: .ref 185 :: .int 1 :: .int 0 :: .int 0 :: .ref 186 :: .int 0 :: .int 0 :: .int 0 :: .int (-1) :: .ref 187 :: .ref 188 :: .ref 189 :: .int 0 :: .ref 190 :: .ref 191 :: .ref 192 :: .ref 193 :: .ref 194 :: .int 0 :: .ref 195 :: .ref 196 :: .ref 197 :: .int 0 :: .ref 198 :: .ref 199 :: .ref 200 :: .ref 201 :: .ref 202 :: .ref 203 :: .int 0 :: .ref 204 :: .ref 205 :: .ref 206 :: .ref 207 :: .ref 208 :: .ref 209 :: .ref 210 :: .ref 211 :: .ref 212 :: .ref 213 :: .ref 214 :: .int 0 :: .ref 215 :: .ref 216 :: .int 0 :: .ref 217 :: .ref 218 :: .ref 219 :: .ref 220 :: .ref 221 :: .int 0 :: .int 0 :: .int 0 :: .int 0 :: .ref 222 :: .int 0 :: []))), (183, .inl (0, 4347, .inl (cpy (tl (upd (upd (fun _ => 0) 2 (-1)) 4 1) 40) (fun _ => 0) 4347))), (182, .inl (0, 4347, .inl (tl (upd (tl (upd (upd (fun _ => 0) 2 (-1)) 4 1) 40) 2 2) 40))), (185, .inl (0, 34776, .inl (cpy (cpy (tl (upd (upd (fun _ => 0) 2 (-1)) 4 1) 40) (fun _ => 0) 4347) (fun _ => 0) 4347)))] mv_X9_429 rfl rfl rfl (c_X9_isDone_237 rfl h185 rfl) rfl dX9_kind_55 (Nat.le_of_ble_eq_true rfl) (Nat.le_of_ble_eq_true rfl) rfl (Nat.le_of_ble_eq_true rfl) (Nat.le_of_ble_eq_true rfl) (Nat.le_of_ble_eq_true rfl) rfl ?_
  refine aw_if_eq C 68 dX9_kind_58 (by decide) (fun q => absurd q (by decide)) (fun _ => ?_)
  refine aw_ald_n C dX9_kind_61 rfl ?_
  refine aw_get C gf_X9_204 rfl rfl dX9_kind_62 ?_
  refine aw_goto C 69 dX9_kind_65 (by decide) ?_
  exact aw_iret C rfl rfl dX9_kind_69 (Nat.le_of_ble_eq_true rfl) (Nat.le_of_ble_eq_true rfl) ⟨rfl, rfl, rfl⟩

set_option maxHeartbeats 4000000 in
set_option maxRecDepth 100000 in
theorem c_X7_forgetTold_322 {X : GX} {l : Launch} {f : AH} {n : Nat} (h3 : f 3 = some (.inr (7, [.ref 4, .int 3, .int (-1), .int 0, .int 1, .int 0, .null, .int 0, .ref 6, .ref 7]))) (h7 : f 7 = some (.inl (2, 40, .inr (.inr (fun _ => none))))) : AM X l yX7_forgetTold cX7_forgetTold 2 none 0 0 0 [.ref 3] f n (EXO f [] none n) := by
  refine AM.of (by decide +kernel) rfl (by decide) (fun p e s m args below meth c C hnm => ?_)
  refine ao_start ?_
  refine aw_nl [some (.ref 3), none] rfl ?_
  refine aw_iconst C 0 dX7_forgetTold_0 ki_0 ?_
  refine aw_istore_n C dX7_forgetTold_1 (by decide) rfl ?_
  refine aw_nl [some (.ref 3), some (.int 0)] rfl ?_
  refine lz_forget C (f := ovl f []) (S := 3) (a := 7) (fs := [.ref 4, .int 3, .int (-1), .int 0, .int 1, .int 0, .null, .int 0, .ref 6, .ref 7]) h3 rfl h7 ?_ 40 0 rfl
  exact aw_vret C rfl dX7_forgetTold_24 (Nat.le_of_ble_eq_true rfl) (Nat.le_of_ble_eq_true rfl) ⟨rfl, rfl, rfl⟩

set_option maxHeartbeats 4000000 in
set_option maxRecDepth 100000 in
theorem c_X6_start_323 {X : GX} {l : Launch} {f : AH} {n : Nat} (h68 : f 68 = some (.inr (6, [.ref 69, .int 0, .int 0, .int 0, .int 0, .int 0, .int 0, .int 0, .int 0, .int 0]))) : AM X l yX6_start cX6_start 3 none 0 0 0 [.ref 68, .ref 4, .int 3] f n (EXO f [(68, .inr (6, [.ref 4, .int 0, .int 0, .int 0, .int 0, .int 0, .int 0, .int 0, .int 3, .int 0]))] none n) := by
  refine AM.of (by decide +kernel) rfl (by decide) (fun p e s m args below meth c C hnm => ?_)
  refine ao_start ?_
  refine aw_nl [some (.ref 68), some (.ref 4), some (.int 3)] rfl ?_
  refine aw_ald_n C dX6_start_0 rfl ?_
  refine aw_ald_n C dX6_start_1 rfl ?_
  refine ao_put C [(68, .inr (6, [.ref 4, .int 0, .int 0, .int 0, .int 0, .int 0, .int 0, .int 0, .int 0, .int 0]))] gf_X6_14 cf6 nf6_0 h68 (Nat.le_of_ble_eq_true rfl) rfl rfl dX6_start_2 rfl ?_
  refine aw_ald_n C dX6_start_5 rfl ?_
  refine aw_iload_n C dX6_start_6 rfl ?_
  refine ao_put C [(68, .inr (6, [.ref 4, .int 0, .int 0, .int 0, .int 0, .int 0, .int 0, .int 0, .int 3, .int 0]))] gf_X6_20 cf6 nf6_8 rfl (Nat.le_of_ble_eq_true rfl) rfl rfl dX6_start_7 rfl ?_
  refine aw_ald_n C dX6_start_10 rfl ?_
  refine aw_iconst C 0 dX6_start_11 ki_0 ?_
  refine ao_put C [(68, .inr (6, [.ref 4, .int 0, .int 0, .int 0, .int 0, .int 0, .int 0, .int 0, .int 3, .int 0]))] gf_X6_24 cf6 nf6_9 rfl (Nat.le_of_ble_eq_true rfl) rfl rfl dX6_start_12 rfl ?_
  refine aw_ald_n C dX6_start_15 rfl ?_
  refine aw_iconst C 0 dX6_start_16 ki_0 ?_
  refine ao_put C [(68, .inr (6, [.ref 4, .int 0, .int 0, .int 0, .int 0, .int 0, .int 0, .int 0, .int 3, .int 0]))] gf_X6_27 cf6 nf6_3 rfl (Nat.le_of_ble_eq_true rfl) (by decide) (by decide) dX6_start_17 rfl ?_
  refine aw_ald_n C dX6_start_20 rfl ?_
  refine aw_iconst C 0 dX6_start_21 ki_0 ?_
  refine ao_put C [(68, .inr (6, [.ref 4, .int 0, .int 0, .int 0, .int 0, .int 0, .int 0, .int 0, .int 3, .int 0]))] gf_X6_31 cf6 nf6_4 rfl (Nat.le_of_ble_eq_true rfl) rfl rfl dX6_start_22 rfl ?_
  refine aw_ald_n C dX6_start_25 rfl ?_
  refine aw_iconst C 0 dX6_start_26 ki_0 ?_
  refine ao_put C [(68, .inr (6, [.ref 4, .int 0, .int 0, .int 0, .int 0, .int 0, .int 0, .int 0, .int 3, .int 0]))] gf_X6_34 cf6 nf6_5 rfl (Nat.le_of_ble_eq_true rfl) rfl rfl dX6_start_27 rfl ?_
  exact aw_vret C rfl dX6_start_30 (Nat.le_of_ble_eq_true rfl) (Nat.le_of_ble_eq_true rfl) ⟨rfl, rfl, rfl⟩

set_option maxHeartbeats 4000000 in
set_option maxRecDepth 100000 in
theorem c_X6_next_324 {X : GX} {l : Launch} {f : AH} {n : Nat} (h68 : f 68 = some (.inr (6, [.ref 4, .int 0, .int 0, .int 0, .int 0, .int 0, .int 0, .int 0, .int 3, .int 0]))) (h4 : f 4 = some (.inr (5, [.ref 5, .int 0]))) : AM X l yX6_next cX6_next 2 (some .boolean) 1 0 0 [.ref 68] f n (EXO f [] (some (.int 0)) n) := by
  refine AM.of (by decide +kernel) rfl (by decide) (fun p e s m args below meth c C hnm => ?_)
  refine ao_start ?_
  refine aw_nl [some (.ref 68), none] rfl ?_
  refine aw_iconst C 0 dX6_next_0 ki_0 ?_
  refine aw_istore_n C dX6_next_1 (by decide) rfl ?_
  refine aw_nl [some (.ref 68), some (.int 0)] rfl ?_
  refine aw_iload_n C dX6_next_2 rfl ?_
  refine aw_sipush C 600 dX6_next_3 ks_600 ?_
  refine aw_icmp_gt C 96 dX6_next_6 (by decide) (fun q => absurd q (by decide)) (fun _ => ?_)
  refine aw_ald_n C dX6_next_9 rfl ?_
  refine aw_get C gf_X6_24 h68 rfl dX6_next_10 ?_
  refine aw_ald_n C dX6_next_13 rfl ?_
  refine aw_get C gf_X6_14 h68 rfl dX6_next_14 ?_
  refine ao_callV C (ci := 5) (b := 4) [] [] mv_X6_37 rfl rfl h4 (c_X5_size_219 h4) rfl dX6_next_17 (Nat.le_of_ble_eq_true rfl) (Nat.le_of_ble_eq_true rfl) rfl (Nat.le_of_ble_eq_true rfl) (Nat.le_of_ble_eq_true rfl) (Nat.le_of_ble_eq_true rfl) rfl ?_
  refine aw_icmp_ge C 96 dX6_next_20 (by decide) (fun _ => ?_) (fun q => absurd (by decide) q)
  refine aw_iconst C 0 dX6_next_96 ki_0 ?_
  exact aw_iret C rfl (by decide) dX6_next_97 (Nat.le_of_ble_eq_true rfl) (Nat.le_of_ble_eq_true rfl) ⟨rfl, rfl, rfl⟩

set_option maxHeartbeats 4000000 in
set_option maxRecDepth 100000 in
theorem c_X1_find_325 {X : GX} {l : Launch} {f : AH} {n : Nat} {g74 : Nat → Option Nat} (h59 : f 59 = some (.inr (1, [.ref 60, .ref 62, .ref 74, .int 0, .ref 68, .ref 71, .ref 64, .ref 66]))) (h60 : f 60 = some (.inr (5, [.ref 61, .int 0]))) (h62 : f 62 = some (.inr (5, [.ref 63, .int 0]))) (h3 : f 3 = some (.inr (7, [.ref 4, .int 3, .int (-1), .int 0, .int 1, .int 0, .null, .int 0, .ref 6, .ref 7]))) (h68 : f 68 = some (.inr (6, [.ref 69, .int 0, .int 0, .int 0, .int 0, .int 0, .int 0, .int 0, .int 0, .int 0]))) (h74 : f 74 = some (.inl (1, 40, .inr (.inr g74)))) (h4 : f 4 = some (.inr (5, [.ref 5, .int 0]))) : AM X l yX1_find cX1_find 5 none 2 0 0 [.ref 59, .ref 4, .ref 3] f n (EXO f [(59, .inr (1, [.ref 60, .ref 62, .ref 74, .int 0, .ref 68, .ref 71, .ref 64, .ref 66])), (68, .inr (6, [.ref 4, .int 0, .int 0, .int 0, .int 0, .int 0, .int 0, .int 0, .int 3, .int 0]))] none n) := by
  refine AM.of (by decide +kernel) rfl (by decide) (fun p e s m args below meth c C hnm => ?_)
  refine ao_start ?_
  refine aw_nl [some (.ref 59), some (.ref 4), some (.ref 3), none, none] rfl ?_
  refine aw_ald_n C dX1_find_0 rfl ?_
  refine aw_iconst C 0 dX1_find_1 ki_0 ?_
  refine ao_put C [(59, .inr (1, [.ref 60, .ref 62, .ref 74, .int 0, .ref 68, .ref 71, .ref 64, .ref 66]))] gf_X1_46 cf1 nf1_3 h59 (Nat.le_of_ble_eq_true rfl) rfl rfl dX1_find_2 rfl ?_
  refine aw_ald_n C dX1_find_5 rfl ?_
  refine aw_get C gf_X1_14 rfl rfl dX1_find_6 ?_
  refine aw_iconst C 0 dX1_find_9 ki_0 ?_
  refine ao_callV C (ci := 5) (b := 60) [.int 0] [(59, .inr (1, [.ref 60, .ref 62, .ref 74, .int 0, .ref 68, .ref 71, .ref 64, .ref 66]))] mv_X1_50 rfl rfl h60 (c_X5_cutTo_185 h60) rfl dX1_find_10 (Nat.le_of_ble_eq_true rfl) (Nat.le_of_ble_eq_true rfl) rfl (Nat.le_of_ble_eq_true rfl) (Nat.le_of_ble_eq_true rfl) (Nat.le_of_ble_eq_true rfl) rfl ?_
  refine aw_ald_n C dX1_find_13 rfl ?_
  refine aw_get C gf_X1_20 rfl rfl dX1_find_14 ?_
  refine aw_iconst C 0 dX1_find_17 ki_0 ?_
  refine ao_callV C (ci := 5) (b := 62) [.int 0] [(59, .inr (1, [.ref 60, .ref 62, .ref 74, .int 0, .ref 68, .ref 71, .ref 64, .ref 66]))] mv_X1_50 rfl rfl h62 (c_X5_cutTo_186 h62) rfl dX1_find_18 (Nat.le_of_ble_eq_true rfl) (Nat.le_of_ble_eq_true rfl) rfl (Nat.le_of_ble_eq_true rfl) (Nat.le_of_ble_eq_true rfl) (Nat.le_of_ble_eq_true rfl) rfl ?_
  refine aw_ald_n C dX1_find_21 rfl ?_
  refine aw_get C gf_X1_32 rfl rfl dX1_find_22 ?_
  refine aw_ald_n C dX1_find_25 rfl ?_
  refine aw_ald_n C dX1_find_26 rfl ?_
  refine aw_get C gf_X1_53 h3 rfl dX1_find_27 ?_
  refine ao_callV C (ci := 6) (b := 68) [.ref 4, .int 3] [(59, .inr (1, [.ref 60, .ref 62, .ref 74, .int 0, .ref 68, .ref 71, .ref 64, .ref 66])), (68, .inr (6, [.ref 4, .int 0, .int 0, .int 0, .int 0, .int 0, .int 0, .int 0, .int 3, .int 0]))] mv_X1_58 rfl rfl h68 (c_X6_start_323 h68) rfl dX1_find_30 (Nat.le_of_ble_eq_true rfl) (Nat.le_of_ble_eq_true rfl) rfl (Nat.le_of_ble_eq_true rfl) (Nat.le_of_ble_eq_true rfl) (Nat.le_of_ble_eq_true rfl) rfl ?_
  refine aw_iconst C 0 dX1_find_33 ki_0 ?_
  refine aw_istore_n C dX1_find_34 (by decide) rfl ?_
  refine aw_nl [some (.ref 59), some (.ref 4), some (.ref 3), some (.int 0), none] rfl ?_
  refine aw_iload_n C dX1_find_35 rfl ?_
  refine aw_sipush C 600 dX1_find_36 ks_600 ?_
  refine aw_icmp_gt C 174 dX1_find_39 (by decide) (fun q => absurd q (by decide)) (fun _ => ?_)
  refine aw_ald_n C dX1_find_42 rfl ?_
  refine aw_get C gf_X1_46 rfl rfl dX1_find_43 ?_
  refine aw_ald_n C dX1_find_46 rfl ?_
  refine aw_get C gf_X1_41 rfl rfl dX1_find_47 ?_
  refine aw_alen C (by decide) h74 dX1_find_50 ?_
  refine aw_top 40 (by decide) ?_
  refine aw_icmp_ge C 174 dX1_find_51 (by decide) (fun q => absurd q (by decide)) (fun _ => ?_)
  refine aw_ald_n C dX1_find_54 rfl ?_
  refine aw_get C gf_X1_32 rfl rfl dX1_find_55 ?_
  refine ao_callV C (ci := 6) (b := 68) [] [(59, .inr (1, [.ref 60, .ref 62, .ref 74, .int 0, .ref 68, .ref 71, .ref 64, .ref 66])), (68, .inr (6, [.ref 4, .int 0, .int 0, .int 0, .int 0, .int 0, .int 0, .int 0, .int 3, .int 0]))] mv_X1_62 rfl rfl rfl (c_X6_next_324 rfl h4) rfl dX1_find_58 (Nat.le_of_ble_eq_true rfl) (Nat.le_of_ble_eq_true rfl) rfl (Nat.le_of_ble_eq_true rfl) (Nat.le_of_ble_eq_true rfl) (Nat.le_of_ble_eq_true rfl) rfl ?_
  refine aw_if_eq C 174 dX1_find_61 (by decide) (fun _ => ?_) (fun q => absurd (by decide) q)
  exact aw_vret C rfl dX1_find_174 (Nat.le_of_ble_eq_true rfl) (Nat.le_of_ble_eq_true rfl) ⟨rfl, rfl, rfl⟩

set_option maxHeartbeats 4000000 in
set_option maxRecDepth 100000 in
theorem c_X0_make_326 {X : GX} {l : Launch} {f : AH} {n : Nat} (h171 : f 171 = some (.inr (0, [.ref 172, .ref 174, .ref 176, .int 0]))) (h172 : f 172 = some (.inr (5, [.ref 173, .int 0]))) (h59 : f 59 = some (.inr (1, [.ref 60, .ref 62, .ref 74, .int 0, .ref 68, .ref 71, .ref 64, .ref 66]))) (h3 : f 3 = some (.inr (7, [.ref 4, .int 3, .int (-1), .int 0, .int 1, .int 0, .null, .int 0, .ref 6, .ref 7]))) (h4 : f 4 = some (.inr (5, [.ref 5, .int 0]))) : AM X l yX0_make cX0_make 8 (some .boolean) 1 0 0 [.ref 171, .ref 3, .ref 59] f n (EXO f [] (some (.int 1)) n) := by
  refine AM.of (by decide +kernel) rfl (by decide) (fun p e s m args below meth c C hnm => ?_)
  refine ao_start ?_
  refine aw_nl [some (.ref 171), some (.ref 3), some (.ref 59), none, none, none, none, none] rfl ?_
  refine aw_ald_n C dX0_make_0 rfl ?_
  refine aw_get C gf_X0_14 h171 rfl dX0_make_1 ?_
  refine aw_iconst C 0 dX0_make_4 ki_0 ?_
  refine ao_callV C (ci := 5) (b := 172) [.int 0] [] mv_X0_26 rfl rfl h172 (c_X5_cutTo_191 h172) rfl dX0_make_5 (Nat.le_of_ble_eq_true rfl) (Nat.le_of_ble_eq_true rfl) rfl (Nat.le_of_ble_eq_true rfl) (Nat.le_of_ble_eq_true rfl) (Nat.le_of_ble_eq_true rfl) rfl ?_
  refine aw_iconst C 0 dX0_make_8 ki_0 ?_
  refine aw_istore_n C dX0_make_9 (by decide) rfl ?_
  refine aw_nl [some (.ref 171), some (.ref 3), some (.ref 59), some (.int 0), none, none, none, none] rfl ?_
  refine aw_iconst C 1 dX0_make_10 ki_1 ?_
  refine aw_istore C dX0_make_11 (by decide) rfl ?_
  refine aw_nl [some (.ref 171), some (.ref 3), some (.ref 59), some (.int 0), some (.int 1), none, none, none] rfl ?_
  refine aw_iconst C 0 dX0_make_13 ki_0 ?_
  refine aw_istore C dX0_make_14 (by decide) rfl ?_
  refine aw_nl [some (.ref 171), some (.ref 3), some (.ref 59), some (.int 0), some (.int 1), some (.int 0), none, none] rfl ?_
  refine aw_iload C dX0_make_16 rfl ?_
  refine aw_ald_n C dX0_make_18 rfl ?_
  refine ao_callV C (ci := 1) (b := 59) [] [] mv_X0_29 rfl rfl h59 (c_X1_size_192 h59) rfl dX0_make_19 (Nat.le_of_ble_eq_true rfl) (Nat.le_of_ble_eq_true rfl) rfl (Nat.le_of_ble_eq_true rfl) (Nat.le_of_ble_eq_true rfl) (Nat.le_of_ble_eq_true rfl) rfl ?_
  refine aw_icmp_ge C 211 dX0_make_22 (by decide) (fun _ => ?_) (fun q => absurd (by decide) q)
  refine aw_iload C dX0_make_211 rfl ?_
  refine aw_if_eq C 242 dX0_make_213 (by decide) (fun q => absurd q (by decide)) (fun _ => ?_)
  refine aw_ald_n C dX0_make_216 rfl ?_
  refine aw_get C gf_X0_14 h171 rfl dX0_make_217 ?_
  refine aw_ald_n C dX0_make_220 rfl ?_
  refine aw_get C gf_X0_39 h3 rfl dX0_make_221 ?_
  refine aw_iload_n C dX0_make_224 rfl ?_
  refine aw_ald_n C dX0_make_225 rfl ?_
  refine aw_get C gf_X0_39 h3 rfl dX0_make_226 ?_
  refine ao_callV C (ci := 5) (b := 4) [] [] mv_X0_57 rfl rfl h4 (c_X5_size_219 h4) rfl dX0_make_229 (Nat.le_of_ble_eq_true rfl) (Nat.le_of_ble_eq_true rfl) rfl (Nat.le_of_ble_eq_true rfl) (Nat.le_of_ble_eq_true rfl) (Nat.le_of_ble_eq_true rfl) rfl ?_
  refine ao_callV C (ci := 5) (b := 172) [.ref 4, .int 0, .int 0] [] mv_X0_50 rfl rfl h172 (c_X5_addPart_222) rfl dX0_make_232 (Nat.le_of_ble_eq_true rfl) (Nat.le_of_ble_eq_true rfl) rfl (Nat.le_of_ble_eq_true rfl) (Nat.le_of_ble_eq_true rfl) (Nat.le_of_ble_eq_true rfl) rfl ?_
  refine aw_if_eq C 242 dX0_make_235 (by decide) (fun q => absurd q (by decide)) (fun _ => ?_)
  refine aw_iconst C 1 dX0_make_238 ki_1 ?_
  refine aw_goto C 243 dX0_make_239 (by decide) ?_
  exact aw_iret C rfl (by decide) dX0_make_243 (Nat.le_of_ble_eq_true rfl) (Nat.le_of_ble_eq_true rfl) ⟨rfl, rfl, rfl⟩

