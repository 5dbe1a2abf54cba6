set_option maxHeartbeats 4000000 in
set_option maxRecDepth 100000 in
theorem c_X9_isDone_448 {X : GX} {l : Launch} {f : AH} {n : Nat} {g182 : Nat → Int32} (h181 : f 181 = some (.inr (9, (.int 0 :: .ref 182 :: .ref 183 :: .ref 184 :: .ref 185 :: .int 0 :: .int 0 :: .int 0 :: .ref 186 :: .int 0 :: .int 0 :: .int 0 :: .int (-1) :: .ref 187 :: .ref 188 :: .ref 189 :: .int 0 :: .ref 190 :: .ref 191 :: .ref 192 :: .ref 193 :: .ref 194 :: .int 0 :: .ref 195 :: .ref 196 :: .ref 197 :: .int 0 :: .ref 198 :: .ref 199 :: .ref 200 :: .ref 201 :: .ref 202 :: .ref 203 :: .int 0 :: .ref 204 :: .ref 205 :: .ref 206 :: .ref 207 :: .ref 208 :: .ref 209 :: .ref 210 :: .ref 211 :: .ref 212 :: .ref 213 :: .ref 214 :: .int 0 :: .ref 215 :: .ref 216 :: .int 0 :: .ref 217 :: .ref 218 :: .ref 219 :: .ref 220 :: .ref 221 :: .int 0 :: .int 0 :: .int 0 :: .int 0 :: .ref 222 :: .int 0 :: [])))) (h182 : f 182 = some (.inl (0, 4347, .inl g182))) (h183 : f 183 = some (.inl (0, 4347, .inl (cpy (tl (upd (upd (fun _ => 0) 2 (-1)) 4 1) 40) (fun _ => 0) 4347)))) : AM X l yX9_isDone cX9_isDone 3 (some .boolean) 5 0 0 [.ref 181, .int 1, .int 2] f n (EXO f [(181, .inr (9, (.int 2 :: .ref 182 :: .ref 183 :: .ref 184 :: .ref 185 :: .int 0 :: .int 0 :: .int 1 :: .ref 186 :: .int 0 :: .int 0 :: .int 0 :: .int (-1) :: .ref 187 :: .ref 188 :: .ref 189 :: .int 0 :: .ref 190 :: .ref 191 :: .ref 192 :: .ref 193 :: .ref 194 :: .int 0 :: .ref 195 :: .ref 196 :: .ref 197 :: .int 0 :: .ref 198 :: .ref 199 :: .ref 200 :: .ref 201 :: .ref 202 :: .ref 203 :: .int 0 :: .ref 204 :: .ref 205 :: .ref 206 :: .ref 207 :: .ref 208 :: .ref 209 :: .ref 210 :: .ref 211 :: .ref 212 :: .ref 213 :: .ref 214 :: .int 0 :: .ref 215 :: .ref 216 :: .int 0 :: .ref 217 :: .ref 218 :: .ref 219 :: .ref 220 :: .ref 221 :: .int 0 :: .int 0 :: .int 0 :: .int 0 :: .ref 222 :: .int 0 :: []))), (182, .inl (0, 4347, .inl (cpy (cpy (tl (upd (upd (fun _ => 0) 2 (-1)) 4 1) 40) (fun _ => 0) 4347) g182 4347)))] (some (.int 0)) n) := by
  refine AM.of (by decide +kernel) rfl (by decide) (fun p e s m args below meth c C hnm => ?_)
  refine ao_start ?_
  refine aw_nl [some (.ref 181), some (.int 1), some (.int 2)] rfl ?_
  refine aw_ald_n C dX9_isDone_0 rfl ?_
  refine aw_iload_n C dX9_isDone_1 rfl ?_
  refine ao_put C [(181, .inr (9, (.int 0 :: .ref 182 :: .ref 183 :: .ref 184 :: .ref 185 :: .int 0 :: .int 0 :: .int 1 :: .ref 186 :: .int 0 :: .int 0 :: .int 0 :: .int (-1) :: .ref 187 :: .ref 188 :: .ref 189 :: .int 0 :: .ref 190 :: .ref 191 :: .ref 192 :: .ref 193 :: .ref 194 :: .int 0 :: .ref 195 :: .ref 196 :: .ref 197 :: .int 0 :: .ref 198 :: .ref 199 :: .ref 200 :: .ref 201 :: .ref 202 :: .ref 203 :: .int 0 :: .ref 204 :: .ref 205 :: .ref 206 :: .ref 207 :: .ref 208 :: .ref 209 :: .ref 210 :: .ref 211 :: .ref 212 :: .ref 213 :: .ref 214 :: .int 0 :: .ref 215 :: .ref 216 :: .int 0 :: .ref 217 :: .ref 218 :: .ref 219 :: .ref 220 :: .ref 221 :: .int 0 :: .int 0 :: .int 0 :: .int 0 :: .ref 222 :: .int 0 :: [])))] gf_X9_328 cf9 nf9_7 h181 (Nat.le_of_ble_eq_true rfl) rfl rfl dX9_isDone_2 rfl ?_
  refine aw_ald_n C dX9_isDone_5 rfl ?_
  refine aw_iload_n C dX9_isDone_6 rfl ?_
  refine aw_if_le C 14 dX9_isDone_7 (by decide) (fun q => absurd q (by decide)) (fun _ => ?_)
  refine aw_iload_n C dX9_isDone_10 rfl ?_
  refine aw_goto C 15 dX9_isDone_11 (by decide) ?_
  refine ao_put C [(181, .inr (9, (.int 2 :: .ref 182 :: .ref 183 :: .ref 184 :: .ref 185 :: .int 0 :: .int 0 :: .int 1 :: .ref 186 :: .int 0 :: .int 0 :: .int 0 :: .int (-1) :: .ref 187 :: .ref 188 :: .ref 189 :: .int 0 :: .ref 190 :: .ref 191 :: .ref 192 :: .ref 193 :: .ref 194 :: .int 0 :: .ref 195 :: .ref 196 :: .ref 197 :: .int 0 :: .ref 198 :: .ref 199 :: .ref 200 :: .ref 201 :: .ref 202 :: .ref 203 :: .int 0 :: .ref 204 :: .ref 205 :: .ref 206 :: .ref 207 :: .ref 208 :: .ref 209 :: .ref 210 :: .ref 211 :: .ref 212 :: .ref 213 :: .ref 214 :: .int 0 :: .ref 215 :: .ref 216 :: .int 0 :: .ref 217 :: .ref 218 :: .ref 219 :: .ref 220 :: .ref 221 :: .int 0 :: .int 0 :: .int 0 :: .int 0 :: .ref 222 :: .int 0 :: [])))] gf_X9_138 cf9 nf9_0 rfl (Nat.le_of_ble_eq_true rfl) rfl rfl dX9_isDone_15 rfl ?_
  refine aw_iload_n C dX9_isDone_18 rfl ?_
  refine aw_if_ne C 29 dX9_isDone_19 (by decide) (fun _ => ?_) (fun q => absurd q (by decide))
  refine aw_ald_n C dX9_isDone_29 rfl ?_
  refine ao_callV C (ci := 9) (b := 181) [] [(181, .inr (9, (.int 2 :: .ref 182 :: .ref 183 :: .ref 184 :: .ref 185 :: .int 0 :: .int 0 :: .int 1 :: .ref 186 :: .int 0 :: .int 0 :: .int 0 :: .int (-1) :: .ref 187 :: .ref 188 :: .ref 189 :: .int 0 :: .ref 190 :: .ref 191 :: .ref 192 :: .ref 193 :: .ref 194 :: .int 0 :: .ref 195 :: .ref 196 :: .ref 197 :: .int 0 :: .ref 198 :: .ref 199 :: .ref 200 :: .ref 201 :: .ref 202 :: .ref 203 :: .int 0 :: .ref 204 :: .ref 205 :: .ref 206 :: .ref 207 :: .ref 208 :: .ref 209 :: .ref 210 :: .ref 211 :: .ref 212 :: .ref 213 :: .ref 214 :: .int 0 :: .ref 215 :: .ref 216 :: .int 0 :: .ref 217 :: .ref 218 :: .ref 219 :: .ref 220 :: .ref 221 :: .int 0 :: .int 0 :: .int 0 :: .int 0 :: .ref 222 :: .int 0 :: []))), (182, .inl (0, 4347, .inl (cpy (cpy (tl (upd (upd (fun _ => 0) 2 (-1)) 4 1) 40) (fun _ => 0) 4347) g182 4347)))] mv_X9_334 rfl rfl rfl (c_X9_putsBack_447 rfl h182 h183) rfl dX9_isDone_30 (Nat.le_of_ble_eq_true rfl) (Nat.le_of_ble_eq_true rfl) rfl (Nat.le_of_ble_eq_true rfl) (Nat.le_of_ble_eq_true rfl) (Nat.le_of_ble_eq_true rfl) rfl ?_
  refine aw_iload_n C dX9_isDone_33 rfl ?_
  refine aw_if_ne C 41 dX9_isDone_34 (by decide) (fun _ => ?_) (fun q => absurd q (by decide))
  refine aw_iconst C 0 dX9_isDone_41 ki_0 ?_
  exact aw_iret C rfl (by decide) dX9_isDone_42 (Nat.le_of_ble_eq_true rfl) (Nat.le_of_ble_eq_true rfl) ⟨rfl, rfl, rfl⟩

set_option maxHeartbeats 4000000 in
set_option maxRecDepth 100000 in
theorem c_X9_tell_449 {X : GX} {l : Launch} {f : AH} {n : Nat} {a1 : Int32} (q0 : (-2147483648) ≤ a1.toInt ∧ a1.toInt ≤ (-1)) (h181 : f 181 = some (.inr (9, (.int 0 :: .ref 182 :: .ref 183 :: .ref 184 :: .ref 185 :: .int 0 :: .int 0 :: .int 0 :: .ref 186 :: .int 0 :: .int 0 :: .int 0 :: .int (-1) :: .ref 187 :: .ref 188 :: .ref 189 :: .int 0 :: .ref 190 :: .ref 191 :: .ref 192 :: .ref 193 :: .ref 194 :: .int 0 :: .ref 195 :: .ref 196 :: .ref 197 :: .int 0 :: .ref 198 :: .ref 199 :: .ref 200 :: .ref 201 :: .ref 202 :: .ref 203 :: .int 0 :: .ref 204 :: .ref 205 :: .ref 206 :: .ref 207 :: .ref 208 :: .ref 209 :: .ref 210 :: .ref 211 :: .ref 212 :: .ref 213 :: .ref 214 :: .int 0 :: .ref 215 :: .ref 216 :: .int 0 :: .ref 217 :: .ref 218 :: .ref 219 :: .ref 220 :: .ref 221 :: .int 0 :: .int 0 :: .int 0 :: .int 0 :: .ref 222 :: .int 0 :: [])))) (h183 : f 183 = some (.inl (0, 4347, .inl (fun _ => 0)))) (h182 : f 182 = some (.inl (0, 4347, .inl (tl (upd (upd (fun _ => 0) 2 (-1)) 4 1) 40)))) : AM X l yX9_tell cX9_tell 3 (some .int) 6 0 0 [.ref 181, .int a1] f n (EXO f [(181, .inr (9, (.int 2 :: .ref 182 :: .ref 183 :: .ref 184 :: .ref 185 :: .int 0 :: .int 0 :: .int 1 :: .ref 186 :: .int 0 :: .int 0 :: .int 0 :: .int (-1) :: .ref 187 :: .ref 188 :: .ref 189 :: .int 0 :: .ref 190 :: .ref 191 :: .ref 192 :: .ref 193 :: .ref 194 :: .int 0 :: .ref 195 :: .ref 196 :: .ref 197 :: .int 0 :: .ref 198 :: .ref 199 :: .ref 200 :: .ref 201 :: .ref 202 :: .ref 203 :: .int 0 :: .ref 204 :: .ref 205 :: .ref 206 :: .ref 207 :: .ref 208 :: .ref 209 :: .ref 210 :: .ref 211 :: .ref 212 :: .ref 213 :: .ref 214 :: .int 0 :: .ref 215 :: .ref 216 :: .int 0 :: .ref 217 :: .ref 218 :: .ref 219 :: .ref 220 :: .ref 221 :: .int 0 :: .int 0 :: .int 0 :: .int 0 :: .ref 222 :: .int 0 :: []))), (183, .inl (0, 4347, .inl (cpy (tl (upd (upd (fun _ => 0) 2 (-1)) 4 1) 40) (fun _ => 0) 4347))), (182, .inl (0, 4347, .inl (cpy (cpy (tl (upd (upd (fun _ => 0) 2 (-1)) 4 1) 40) (fun _ => 0) 4347) (tl (upd (upd (fun _ => 0) 2 (-1)) 4 1) 40) 4347)))] (some (.int 0)) n) := by
  refine AM.of (by decide +kernel) rfl (Nat.le_of_ble_eq_true rfl) (fun p e s m args below meth c C hnm => ?_)
  refine ao_start ?_
  refine aw_nl [some (.ref 181), some (.int a1), none] rfl ?_
  obtain ⟨q0a, q0b⟩ := q0
  refine aw_ald_n C dX9_tell_0 rfl ?_
  refine ao_callV C (ci := 9) (b := 181) [] [(181, .inr (9, (.int 0 :: .ref 182 :: .ref 183 :: .ref 184 :: .ref 185 :: .int 0 :: .int 0 :: .int 0 :: .ref 186 :: .int 0 :: .int 0 :: .int 0 :: .int (-1) :: .ref 187 :: .ref 188 :: .ref 189 :: .int 0 :: .ref 190 :: .ref 191 :: .ref 192 :: .ref 193 :: .ref 194 :: .int 0 :: .ref 195 :: .ref 196 :: .ref 197 :: .int 0 :: .ref 198 :: .ref 199 :: .ref 200 :: .ref 201 :: .ref 202 :: .ref 203 :: .int 0 :: .ref 204 :: .ref 205 :: .ref 206 :: .ref 207 :: .ref 208 :: .ref 209 :: .ref 210 :: .ref 211 :: .ref 212 :: .ref 213 :: .ref 214 :: .int 0 :: .ref 215 :: .ref 216 :: .int 0 :: .ref 217 :: .ref 218 :: .ref 219 :: .ref 220 :: .ref 221 :: .int 0 :: .int 0 :: .int 0 :: .int 0 :: .ref 222 :: .int 0 :: [])))] mv_X9_435 rfl rfl h181 (c_X9_tookTold_440 h181) rfl dX9_tell_1 (Nat.le_of_ble_eq_true rfl) (Nat.le_of_ble_eq_true rfl) rfl (Nat.le_of_ble_eq_true rfl) (Nat.le_of_ble_eq_true rfl) (Nat.le_of_ble_eq_true rfl) rfl ?_
  refine aw_istore_n C dX9_tell_4 (by decide) rfl ?_
  refine aw_nl [some (.ref 181), some (.int a1), some (.int 0)] rfl ?_
  refine aw_ald_n C dX9_tell_5 rfl ?_
  refine aw_iload_n C dX9_tell_6 rfl ?_
  refine aw_bipush C 60 dX9_tell_7 kb_60 ?_
  refine aw_icmp_le C 16 dX9_tell_9 (by decide) (fun _ => ?_) (fun q => absurd (by decide) q)
  refine aw_iconst C 0 dX9_tell_16 ki_0 ?_
  refine ao_put C [(181, .inr (9, (.int 0 :: .ref 182 :: .ref 183 :: .ref 184 :: .ref 185 :: .int 0 :: .int 0 :: .int 0 :: .ref 186 :: .int 0 :: .int 0 :: .int 0 :: .int (-1) :: .ref 187 :: .ref 188 :: .ref 189 :: .int 0 :: .ref 190 :: .ref 191 :: .ref 192 :: .ref 193 :: .ref 194 :: .int 0 :: .ref 195 :: .ref 196 :: .ref 197 :: .int 0 :: .ref 198 :: .ref 199 :: .ref 200 :: .ref 201 :: .ref 202 :: .ref 203 :: .int 0 :: .ref 204 :: .ref 205 :: .ref 206 :: .ref 207 :: .ref 208 :: .ref 209 :: .ref 210 :: .ref 211 :: .ref 212 :: .ref 213 :: .ref 214 :: .int 0 :: .ref 215 :: .ref 216 :: .int 0 :: .ref 217 :: .ref 218 :: .ref 219 :: .ref 220 :: .ref 221 :: .int 0 :: .int 0 :: .int 0 :: .int 0 :: .ref 222 :: .int 0 :: [])))] gf_X9_138 cf9 nf9_0 rfl (Nat.le_of_ble_eq_true rfl) rfl rfl dX9_tell_17 rfl ?_
  refine aw_ald_n C dX9_tell_20 rfl ?_
  refine aw_get C gf_X9_138 rfl rfl dX9_tell_21 ?_
  refine aw_if_le C 29 dX9_tell_24 (by decide) (fun _ => ?_) (fun q => absurd (by decide) q)
  refine aw_ald_n C dX9_tell_29 rfl ?_
  refine ao_callV C (ci := 9) (b := 181) [] [(181, .inr (9, (.int 0 :: .ref 182 :: .ref 183 :: .ref 184 :: .ref 185 :: .int 0 :: .int 0 :: .int 0 :: .ref 186 :: .int 0 :: .int 0 :: .int 0 :: .int (-1) :: .ref 187 :: .ref 188 :: .ref 189 :: .int 0 :: .ref 190 :: .ref 191 :: .ref 192 :: .ref 193 :: .ref 194 :: .int 0 :: .ref 195 :: .ref 196 :: .ref 197 :: .int 0 :: .ref 198 :: .ref 199 :: .ref 200 :: .ref 201 :: .ref 202 :: .ref 203 :: .int 0 :: .ref 204 :: .ref 205 :: .ref 206 :: .ref 207 :: .ref 208 :: .ref 209 :: .ref 210 :: .ref 211 :: .ref 212 :: .ref 213 :: .ref 214 :: .int 0 :: .ref 215 :: .ref 216 :: .int 0 :: .ref 217 :: .ref 218 :: .ref 219 :: .ref 220 :: .ref 221 :: .int 0 :: .int 0 :: .int 0 :: .int 0 :: .ref 222 :: .int 0 :: []))), (183, .inl (0, 4347, .inl (cpy (tl (upd (upd (fun _ => 0) 2 (-1)) 4 1) 40) (fun _ => 0) 4347)))] mv_X9_420 rfl rfl rfl (c_X9_putsAside_173 rfl h183 h182) rfl dX9_tell_30 (Nat.le_of_ble_eq_true rfl) (Nat.le_of_ble_eq_true rfl) rfl (Nat.le_of_ble_eq_true rfl) (Nat.le_of_ble_eq_true rfl) (Nat.le_of_ble_eq_true rfl) rfl ?_
  refine aw_ald_n C dX9_tell_33 rfl ?_
  refine aw_ald_n C dX9_tell_34 rfl ?_
  refine aw_iload_n C dX9_tell_35 rfl ?_
  refine aw_iload_n C dX9_tell_36 rfl ?_
  refine ao_callV C (ci := 9) (b := 181) [.int a1, .int 0] [(181, .inr (9, (.int 0 :: .ref 182 :: .ref 183 :: .ref 184 :: .ref 185 :: .int 0 :: .int 0 :: .int 0 :: .ref 186 :: .int 0 :: .int 0 :: .int 0 :: .int (-1) :: .ref 187 :: .ref 188 :: .ref 189 :: .int 0 :: .ref 190 :: .ref 191 :: .ref 192 :: .ref 193 :: .ref 194 :: .int 0 :: .ref 195 :: .ref 196 :: .ref 197 :: .int 0 :: .ref 198 :: .ref 199 :: .ref 200 :: .ref 201 :: .ref 202 :: .ref 203 :: .int 0 :: .ref 204 :: .ref 205 :: .ref 206 :: .ref 207 :: .ref 208 :: .ref 209 :: .ref 210 :: .ref 211 :: .ref 212 :: .ref 213 :: .ref 214 :: .int 0 :: .ref 215 :: .ref 216 :: .int 0 :: .ref 217 :: .ref 218 :: .ref 219 :: .ref 220 :: .ref 221 :: .int 0 :: .int 0 :: .int 0 :: .int 0 :: .ref 222 :: .int 0 :: []))), (183, .inl (0, 4347, .inl (cpy (tl (upd (upd (fun _ => 0) 2 (-1)) 4 1) 40) (fun _ => 0) 4347)))] mv_X9_438 rfl rfl rfl (c_X9_tell0_443 ⟨by omega, by omega⟩ rfl) rfl dX9_tell_37 (Nat.le_of_ble_eq_true rfl) (Nat.le_of_ble_eq_true rfl) rfl (Nat.le_of_ble_eq_true rfl) (Nat.le_of_ble_eq_true rfl) (Nat.le_of_ble_eq_true rfl) rfl ?_
  refine aw_iconst C 2 dX9_tell_40 ki_2 ?_
  refine ao_callV C (ci := 9) (b := 181) [.int 1, .int 2] [(181, .inr (9, (.int 2 :: .ref 182 :: .ref 183 :: .ref 184 :: .ref 185 :: .int 0 :: .int 0 :: .int 1 :: .ref 186 :: .int 0 :: .int 0 :: .int 0 :: .int (-1) :: .ref 187 :: .ref 188 :: .ref 189 :: .int 0 :: .ref 190 :: .ref 191 :: .ref 192 :: .ref 193 :: .ref 194 :: .int 0 :: .ref 195 :: .ref 196 :: .ref 197 :: .int 0 :: .ref 198 :: .ref 199 :: .ref 200 :: .ref 201 :: .ref 202 :: .ref 203 :: .int 0 :: .ref 204 :: .ref 205 :: .ref 206 :: .ref 207 :: .ref 208 :: .ref 209 :: .ref 210 :: .ref 211 :: .ref 212 :: .ref 213 :: .ref 214 :: .int 0 :: .ref 215 :: .ref 216 :: .int 0 :: .ref 217 :: .ref 218 :: .ref 219 :: .ref 220 :: .ref 221 :: .int 0 :: .int 0 :: .int 0 :: .int 0 :: .ref 222 :: .int 0 :: []))), (183, .inl (0, 4347, .inl (cpy (tl (upd (upd (fun _ => 0) 2 (-1)) 4 1) 40) (fun _ => 0) 4347))), (182, .inl (0, 4347, .inl (cpy (cpy (tl (upd (upd (fun _ => 0) 2 (-1)) 4 1) 40) (fun _ => 0) 4347) (tl (upd (upd (fun _ => 0) 2 (-1)) 4 1) 40) 4347)))] mv_X9_429 rfl rfl rfl (c_X9_isDone_448 rfl h182 rfl) rfl dX9_tell_41 (Nat.le_of_ble_eq_true rfl) (Nat.le_of_ble_eq_true rfl) rfl (Nat.le_of_ble_eq_true rfl) (Nat.le_of_ble_eq_true rfl) (Nat.le_of_ble_eq_true rfl) rfl ?_
  refine aw_if_eq C 54 dX9_tell_44 (by decide) (fun _ => ?_) (fun q => absurd (by decide) q)
  refine aw_iconst C 0 dX9_tell_54 ki_0 ?_
  exact aw_iret C rfl rfl dX9_tell_55 (Nat.le_of_ble_eq_true rfl) (Nat.le_of_ble_eq_true rfl) ⟨rfl, rfl, rfl⟩

set_option maxHeartbeats 4000000 in
set_option maxRecDepth 100000 in
theorem c_X9_thrown_450 {X : GX} {l : Launch} {f : AH} {n : Nat} (h181 : f 181 = some (.inr (9, (.int 2 :: .ref 182 :: .ref 183 :: .ref 184 :: .ref 185 :: .int 0 :: .int 0 :: .int 1 :: .ref 186 :: .int 0 :: .int 0 :: .int 0 :: .int (-1) :: .ref 187 :: .ref 188 :: .ref 189 :: .int 0 :: .ref 190 :: .ref 191 :: .ref 192 :: .ref 193 :: .ref 194 :: .int 0 :: .ref 195 :: .ref 196 :: .ref 197 :: .int 0 :: .ref 198 :: .ref 199 :: .ref 200 :: .ref 201 :: .ref 202 :: .ref 203 :: .int 0 :: .ref 204 :: .ref 205 :: .ref 206 :: .ref 207 :: .ref 208 :: .ref 209 :: .ref 210 :: .ref 211 :: .ref 212 :: .ref 213 :: .ref 214 :: .int 0 :: .ref 215 :: .ref 216 :: .int 0 :: .ref 217 :: .ref 218 :: .ref 219 :: .ref 220 :: .ref 221 :: .int 0 :: .int 0 :: .int 0 :: .int 0 :: .ref 222 :: .int 0 :: [])))) : AM X l yX9_thrown cX9_thrown 1 (some .int) 0 0 0 [.ref 181] f n (EXO f [] (some (.int 2)) n) := by
  refine AM.of (by decide +kernel) rfl (by decide) (fun p e s m args below meth c C hnm => ?_)
  refine ao_start ?_
  refine aw_nl [some (.ref 181)] rfl ?_
  refine aw_ald_n C dX9_thrown_0 rfl ?_
  refine aw_get C gf_X9_138 h181 rfl dX9_thrown_1 ?_
  exact aw_iret C rfl rfl dX9_thrown_4 (Nat.le_of_ble_eq_true rfl) (Nat.le_of_ble_eq_true rfl) ⟨rfl, rfl, rfl⟩

set_option maxHeartbeats 4000000 in
set_option maxRecDepth 100000 in
theorem c_X1_get_451 {X : GX} {l : Launch} {f : AH} {n : Nat} {a1 : Int32} (q0 : 0 ≤ a1.toInt ∧ a1.toInt ≤ 2147483647) (h59 : f 59 = some (.inr (1, [.ref 60, .ref 62, .ref 74, .int 0, .ref 68, .ref 71, .ref 64, .ref 66]))) : AM X l yX1_get cX1_get 2 (some (.object "PieceFiles$Piece")) 0 0 0 [.ref 59, .int a1] f n (EXO f [] (some (.null)) n) := by
  refine AM.of (by decide +kernel) rfl (Nat.le_of_ble_eq_true rfl) (fun p e s m args below meth c C hnm => ?_)
  refine ao_start ?_
  refine aw_nl [some (.ref 59), some (.int a1)] rfl ?_
  obtain ⟨q0a, q0b⟩ := q0
  refine aw_iload_n C dX1_get_0 rfl ?_
  refine aw_if_lt C 30 dX1_get_1 (by decide) (fun q => absurd q (c_nlt (by rw [ti_0]; omega))) (fun _ => ?_)
  refine aw_iload_n C dX1_get_4 rfl ?_
  refine aw_ald_n C dX1_get_5 rfl ?_
  refine aw_get C gf_X1_46 h59 rfl dX1_get_6 ?_
  refine aw_icmp_ge C 30 dX1_get_9 (by decide) (fun _ => ?_) (fun q => absurd (c_le (by rw [ti_0]; omega)) q)
  refine aw_null C dX1_get_30 ?_
  exact aw_aret C rfl (Or.inl rfl) dX1_get_31 (Nat.le_of_ble_eq_true rfl) (Nat.le_of_ble_eq_true rfl) ⟨rfl, rfl, rfl⟩

set_option maxHeartbeats 4000000 in
set_option maxRecDepth 100000 in
theorem c_X8_tellPiece_452 {X : GX} {l : Launch} {f : AH} {n : Nat} {a1 : Int32} (q0 : 0 ≤ a1.toInt ∧ a1.toInt ≤ 2147483647) (h0 : f 0 = some (.inr (8, [.ref 1, .ref 3, .ref 8, .ref 13, .ref 18, .ref 59, .ref 115, .ref 171, .ref 178, .int 0, .int 0, .int 0, .int 0, .int (-1)]))) (h59 : f 59 = some (.inr (1, [.ref 60, .ref 62, .ref 74, .int 0, .ref 68, .ref 71, .ref 64, .ref 66]))) : AM X l yX8_tellPiece cX8_tellPiece 4 (some .int) 1 0 0 [.ref 0, .int a1, .ref 224] f n (EXO f [] (some (.int 1)) n) := by
  refine AM.of (by decide +kernel) rfl (Nat.le_of_ble_eq_true rfl) (fun p e s m args below meth c C hnm => ?_)
  refine ao_start ?_
  refine aw_nl [some (.ref 0), some (.int a1), some (.ref 224), none] rfl ?_
  obtain ⟨q0a, q0b⟩ := q0
  refine aw_ald_n C dX8_tellPiece_0 rfl ?_
  refine aw_get C gf_X8_38 h0 rfl dX8_tellPiece_1 ?_
  refine aw_iload_n C dX8_tellPiece_4 rfl ?_
  refine ao_callV C (ci := 1) (b := 59) [.int a1] [] mv_X8_241 rfl rfl h59 (c_X1_get_451 ⟨by omega, by omega⟩ h59) rfl dX8_tellPiece_5 (Nat.le_of_ble_eq_true rfl) (Nat.le_of_ble_eq_true rfl) rfl (Nat.le_of_ble_eq_true rfl) (Nat.le_of_ble_eq_true rfl) (Nat.le_of_ble_eq_true rfl) rfl ?_
  refine aw_astore_n C dX8_tellPiece_8 (by decide) rfl (Or.inl rfl) ?_
  refine aw_nl [some (.ref 0), some (.int a1), some (.ref 224), some (.null)] rfl ?_
  refine aw_aload_n C dX8_tellPiece_9 rfl (Or.inl rfl) ?_
  refine aw_ifnull_n C 17 dX8_tellPiece_10 (by decide) ?_
  refine aw_iconst C 1 dX8_tellPiece_17 ki_1 ?_
  exact aw_iret C rfl rfl dX8_tellPiece_18 (Nat.le_of_ble_eq_true rfl) (Nat.le_of_ble_eq_true rfl) ⟨rfl, rfl, rfl⟩

set_option maxHeartbeats 4000000 in
set_option maxRecDepth 100000 in
theorem c_X8_doAct_453 {X : GX} {l : Launch} {f : AH} {n : Nat} {a2 : Int32} (q0 : 0 ≤ a2.toInt ∧ a2.toInt ≤ 2147483647) (h0 : f 0 = some (.inr (8, [.ref 1, .ref 3, .ref 8, .ref 13, .ref 18, .ref 59, .ref 115, .ref 171, .ref 178, .int 0, .int 0, .int 0, .int 0, .int (-1)]))) (h59 : f 59 = some (.inr (1, [.ref 60, .ref 62, .ref 74, .int 0, .ref 68, .ref 71, .ref 64, .ref 66]))) : AM X l yX8_doAct cX8_doAct 6 (some .int) 2 0 0 [.ref 0, .int 12, .int a2, .int 0, .ref 224] f n (EXO f [(0, .inr (8, [.ref 1, .ref 3, .ref 8, .ref 13, .ref 18, .ref 59, .ref 115, .ref 171, .ref 178, .int 0, .int 0, .int 0, .int 0, .int (-1)]))] (some (.int 1)) n) := by
  refine AM.of (by decide +kernel) rfl (Nat.le_of_ble_eq_true rfl) (fun p e s m args below meth c C hnm => ?_)
  refine ao_start ?_
  refine aw_nl [some (.ref 0), some (.int 12), some (.int a2), some (.int 0), some (.ref 224), none] rfl ?_
  obtain ⟨q0a, q0b⟩ := q0
  refine aw_ald_n C dX8_doAct_0 rfl ?_
  refine aw_iconst C 0 dX8_doAct_1 ki_0 ?_
  refine ao_put C [(0, .inr (8, [.ref 1, .ref 3, .ref 8, .ref 13, .ref 18, .ref 59, .ref 115, .ref 171, .ref 178, .int 0, .int 0, .int 0, .int 0, .int (-1)]))] gf_X8_334 cf8 nf8_10 h0 (Nat.le_of_ble_eq_true rfl) (by decide) (by decide) dX8_doAct_2 rfl ?_
  refine aw_iload_n C dX8_doAct_5 rfl ?_
  refine aw_tabOut C 209 dX8_doAct_6 (by decide) (by decide) ?_
  refine aw_ald_n C dX8_doAct_209 rfl ?_
  refine aw_iload_n C dX8_doAct_210 rfl ?_
  refine aw_ald C dX8_doAct_211 rfl ?_
  refine ao_callV C (ci := 8) (b := 0) [.int a2, .ref 224] [(0, .inr (8, [.ref 1, .ref 3, .ref 8, .ref 13, .ref 18, .ref 59, .ref 115, .ref 171, .ref 178, .int 0, .int 0, .int 0, .int 0, .int (-1)]))] mv_X8_354 rfl rfl rfl (c_X8_tellPiece_452 ⟨by omega, by omega⟩ rfl h59) rfl dX8_doAct_213 (Nat.le_of_ble_eq_true rfl) (Nat.le_of_ble_eq_true rfl) rfl (Nat.le_of_ble_eq_true rfl) (Nat.le_of_ble_eq_true rfl) (Nat.le_of_ble_eq_true rfl) rfl ?_
  exact aw_iret C rfl rfl dX8_doAct_216 (Nat.le_of_ble_eq_true rfl) (Nat.le_of_ble_eq_true rfl) ⟨rfl, rfl, rfl⟩

set_option maxHeartbeats 4000000 in
set_option maxRecDepth 100000 in
theorem c_X8_tell_454 {X : GX} {l : Launch} {f : AH} {a1 : Int32} (hl0 : l.stackTraces = false) (q0 : 0 ≤ a1.toInt ∧ a1.toInt ≤ 2147483647) (h0 : f 0 = some (.inr (8, [.ref 1, .ref 3, .ref 8, .ref 13, .ref 18, .ref 59, .ref 115, .ref 171, .ref 178, .int 0, .int 0, .int 0, .int 0, .int (-1)]))) (h1 : f 1 = some (.inr (5, [.ref 2, .int 0]))) (h3 : f 3 = some (.inr (7, [.ref 4, .int 0, .int (-1), .int 0, .int 1, .int 0, .null, .int 0, .ref 6, .ref 7]))) (h8 : f 8 = some (.inr (7, [.ref 9, .int 0, .int (-1), .int 0, .int 1, .int 0, .null, .int 0, .ref 11, .ref 12]))) (h11 : f 11 = some (.inl (2, 4, .inr (.inr (fun _ => none))))) (h6 : f 6 = some (.inl (2, 4, .inr (.inr (fun _ => none))))) (h12 : f 12 = some (.inl (2, 40, .inr (.inr (fun _ => none))))) (h7 : f 7 = some (.inl (2, 40, .inr (.inr (fun _ => none))))) (h59 : f 59 = some (.inr (1, [.ref 60, .ref 62, .ref 74, .int 0, .ref 68, .ref 71, .ref 64, .ref 66]))) : AX X l yX8_tell cX8_tell 3 (some .int) 7 3 8 [.ref 0, .int a1] f 224 (fun _ _ _ => False) (TXO eS f [(224, .inr (5, [.ref 225, .int 0])), (225, .inl (0, 0, .inl (fun _ => 0))), (8, .inr (7, [.ref 4, .int 0, .int (-1), .int 0, .int 1, .int 0, .null, .int 0, .ref 11, .ref 12])), (0, .inr (8, [.ref 1, .ref 3, .ref 8, .ref 13, .ref 18, .ref 59, .ref 115, .ref 171, .ref 178, .int 0, .int 0, .int 0, .int 1, .int (-1)]))] 224) := by
  refine AX.of (by decide +kernel) rfl (Nat.le_of_ble_eq_true rfl) (fun p e s m args below meth c C htab => ?_)
  refine ao_start ?_
  refine aw_nl [some (.ref 0), some (.int a1), none] rfl ?_
  obtain ⟨q0a, q0b⟩ := q0
  refine aw_ald_n C dX8_tell_0 rfl ?_
  refine ao_callV C (ci := 8) (b := 0) [] [(224, .inr (5, [.ref 225, .int 0])), (225, .inl (0, 0, .inl (fun _ => 0)))] mv_X8_155 rfl rfl h0 (c_X8_takeTold_433 h0 h1) rfl dX8_tell_1 (Nat.le_of_ble_eq_true rfl) (Nat.le_of_ble_eq_true rfl) rfl (Nat.le_of_ble_eq_true rfl) (Nat.le_of_ble_eq_true rfl) (Nat.le_of_ble_eq_true rfl) rfl ?_
  refine aw_astore_n C dX8_tell_4 (by decide) rfl (Or.inr ⟨_, rfl⟩) ?_
  refine aw_nl [some (.ref 0), some (.int a1), some (.ref 224)] rfl ?_
  refine aw_ald_n C dX8_tell_5 rfl ?_
  refine aw_ifnonnull_r C 19 dX8_tell_6 (by decide) ?_
  refine aw_ald_n C dX8_tell_19 rfl ?_
  refine aw_get C gf_X8_25 h0 rfl dX8_tell_20 ?_
  refine aw_ald_n C dX8_tell_23 rfl ?_
  refine aw_get C gf_X8_21 h0 rfl dX8_tell_24 ?_
  refine ao_callV C (ci := 7) (b := 8) [.ref 3] [(224, .inr (5, [.ref 225, .int 0])), (225, .inl (0, 0, .inl (fun _ => 0))), (8, .inr (7, [.ref 4, .int 0, .int (-1), .int 0, .int 1, .int 0, .null, .int 0, .ref 11, .ref 12]))] mv_X8_73 rfl rfl h8 (c_X7_copyFrom_168 h3 h8 h11 h6 h12 h7) rfl dX8_tell_27 (Nat.le_of_ble_eq_true rfl) (Nat.le_of_ble_eq_true rfl) rfl (Nat.le_of_ble_eq_true rfl) (Nat.le_of_ble_eq_true rfl) (Nat.le_of_ble_eq_true rfl) rfl ?_
  refine aw_ald_n C dX8_tell_30 rfl ?_
  refine aw_ald_n C dX8_tell_31 rfl ?_
  refine aw_bipush C 12 dX8_tell_32 kb_12 ?_
  refine aw_iload_n C dX8_tell_34 rfl ?_
  refine aw_iconst C 0 dX8_tell_35 ki_0 ?_
  refine aw_ald_n C dX8_tell_36 rfl ?_
  refine ao_callV C (ci := 8) (b := 0) [.int 12, .int a1, .int 0, .ref 224] [(224, .inr (5, [.ref 225, .int 0])), (225, .inl (0, 0, .inl (fun _ => 0))), (8, .inr (7, [.ref 4, .int 0, .int (-1), .int 0, .int 1, .int 0, .null, .int 0, .ref 11, .ref 12])), (0, .inr (8, [.ref 1, .ref 3, .ref 8, .ref 13, .ref 18, .ref 59, .ref 115, .ref 171, .ref 178, .int 0, .int 0, .int 0, .int 0, .int (-1)]))] mv_X8_103 rfl rfl h0 (c_X8_doAct_453 ⟨by omega, by omega⟩ h0 h59) rfl dX8_tell_37 (Nat.le_of_ble_eq_true rfl) (Nat.le_of_ble_eq_true rfl) rfl (Nat.le_of_ble_eq_true rfl) (Nat.le_of_ble_eq_true rfl) (Nat.le_of_ble_eq_true rfl) rfl ?_
  refine ax_callV C (ci := 8) (b := 0) [.int 1] mv_X8_139 rfl rfl rfl (c_X8_finishCall_437 hl0 rfl) rfl dX8_tell_40 (Nat.le_of_ble_eq_true rfl) (Nat.le_of_ble_eq_true rfl) rfl (Nat.le_of_ble_eq_true rfl) (Nat.le_of_ble_eq_true rfl) (Nat.le_of_ble_eq_true rfl) (fun E9 f9 n9 h9 => ?_) (fun _ _ _ h9 => h9.elim)
  obtain ⟨rfl, rfl, h9⟩ := h9
  refine at_flat [(224, .inr (5, [.ref 225, .int 0])), (225, .inl (0, 0, .inl (fun _ => 0))), (8, .inr (7, [.ref 4, .int 0, .int (-1), .int 0, .int 1, .int 0, .null, .int 0, .ref 11, .ref 12])), (0, .inr (8, [.ref 1, .ref 3, .ref 8, .ref 13, .ref 18, .ref 59, .ref 115, .ref 171, .ref 178, .int 0, .int 0, .int 0, .int 1, .int (-1)]))] rfl ?_
  exact at_out C htab ⟨rfl, rfl, Nat.le_trans (Nat.le_of_ble_eq_true rfl) h9⟩ (Nat.le_of_ble_eq_true rfl) (Nat.le_of_ble_eq_true rfl)

set_option maxHeartbeats 4000000 in
set_option maxRecDepth 100000 in
theorem c_L_tell_455 {X : GX} {l : Launch} {f : AH} {a1 : Int32} (hl0 : l.stackTraces = false) (q0 : 0 ≤ a1.toInt ∧ a1.toInt ≤ 2147483647) (h0 : f 0 = some (.inr (8, [.ref 1, .ref 3, .ref 8, .ref 13, .ref 18, .ref 59, .ref 115, .ref 171, .ref 178, .int 0, .int 0, .int 0, .int 0, .int (-1)]))) (h1 : f 1 = some (.inr (5, [.ref 2, .int 0]))) (h3 : f 3 = some (.inr (7, [.ref 4, .int 0, .int (-1), .int 0, .int 1, .int 0, .null, .int 0, .ref 6, .ref 7]))) (h8 : f 8 = some (.inr (7, [.ref 9, .int 0, .int (-1), .int 0, .int 1, .int 0, .null, .int 0, .ref 11, .ref 12]))) (h11 : f 11 = some (.inl (2, 4, .inr (.inr (fun _ => none))))) (h6 : f 6 = some (.inl (2, 4, .inr (.inr (fun _ => none))))) (h12 : f 12 = some (.inl (2, 40, .inr (.inr (fun _ => none))))) (h7 : f 7 = some (.inl (2, 40, .inr (.inr (fun _ => none))))) (h59 : f 59 = some (.inr (1, [.ref 60, .ref 62, .ref 74, .int 0, .ref 68, .ref 71, .ref 64, .ref 66]))) : AMW X l yL_tell cL_tell 4 (some .int) [(0, 9, 12, 13), (0, 9, 15, 28)] 8 3 8 [.ref 0, .int a1, .ref 223] f 224 (EXN f [(0, .inr (8, [.ref 1, .ref 3, .ref 8, .ref 13, .ref 18, .ref 59, .ref 115, .ref 171, .ref 178, .int 0, .int 0, .int 0, .int 1, .int (-1)])), (8, .inr (7, [.ref 4, .int 0, .int (-1), .int 0, .int 1, .int 0, .null, .int 0, .ref 11, .ref 12])), (225, .inl (0, 0, .inl (fun _ => 0))), (224, .inr (5, [.ref 225, .int 0]))] (some (.int 2))) := by
  refine AMW.of (by decide +kernel) rfl (Nat.le_of_ble_eq_true rfl) (fun p e s m args below meth c C htab => ?_)
  refine ao_start ?_
  refine aw_nl [some (.ref 0), some (.int a1), some (.ref 223), none] rfl ?_
  obtain ⟨q0a, q0b⟩ := q0
  refine aw_ald_n C dL_tell_0 rfl ?_
  refine aw_iconst C 0 dL_tell_1 ki_0 ?_
  refine aw_ald_n C dL_tell_2 rfl ?_
  refine aw_iload_n C dL_tell_3 rfl ?_
  refine ax_callV C (ci := 8) (b := 0) [.int a1] mv_L_30 rfl rfl h0 (c_X8_tell_454 hl0 ⟨by omega, by omega⟩ h0 h1 h3 h8 h11 h6 h12 h7 h59) rfl dL_tell_4 (Nat.le_of_ble_eq_true rfl) (Nat.le_of_ble_eq_true rfl) rfl (Nat.le_of_ble_eq_true rfl) (Nat.le_of_ble_eq_true rfl) (Nat.le_of_ble_eq_true rfl) (fun E9 f9 n9 h9 => ?_) (fun _ _ _ h9 => h9.elim)
  obtain ⟨rfl, rfl, h9⟩ := h9
  refine at_flat [(0, .inr (8, [.ref 1, .ref 3, .ref 8, .ref 13, .ref 18, .ref 59, .ref 115, .ref 171, .ref 178, .int 0, .int 0, .int 0, .int 1, .int (-1)])), (8, .inr (7, [.ref 4, .int 0, .int (-1), .int 0, .int 1, .int 0, .null, .int 0, .ref 11, .ref 12])), (225, .inl (0, 0, .inl (fun _ => 0))), (224, .inr (5, [.ref 225, .int 0]))] rfl ?_
  refine at_catch C htab [⟨0, 9, 12, 13⟩] ⟨0, 9, 15, 28⟩ [] rfl (fun z hz => by rw [List.mem_singleton.mp hz]; exact Or.inr ⟨by decide, _, cl_L_13, by decide⟩) (by decide) (by decide) cl_L_28 (by decide) (ah_astore_n C dL_tell_15 (by decide) rfl ?_)
  refine aw_nl [some (.ref 0), some (.int a1), some (.ref 223), none] rfl ?_
  refine aw_iconst C 2 dL_tell_16 ki_2 ?_
  exact aw_iret C rfl rfl dL_tell_17 (Nat.le_of_ble_eq_true rfl) (Nat.le_of_ble_eq_true rfl) ⟨rfl, rfl⟩

set_option maxHeartbeats 4000000 in
set_option maxRecDepth 100000 in
theorem c_X9_isIn_456 {X : GX} {l : Launch} {f : AH} {n : Nat} {a0 : Int32} (q0 : 0 ≤ a0.toInt ∧ a0.toInt ≤ 2147483647) : AM X l yX9_isIn cX9_isIn 3 (some .boolean) 0 0 0 [.int a0, .int 0, .int (-1)] f n (EXO f [] (some (.int 0)) n) := by
  refine AM.of (by decide +kernel) rfl (Nat.le_of_ble_eq_true rfl) (fun p e s m args below meth c C hnm => ?_)
  refine ao_start ?_
  refine aw_nl [some (.int a0), some (.int 0), some (.int (-1))] rfl ?_
  obtain ⟨q0a, q0b⟩ := q0
  refine aw_iload_n C dX9_isIn_0 rfl ?_
  refine aw_iload_n C dX9_isIn_1 rfl ?_
  refine aw_icmp_lt C 14 dX9_isIn_2 (by decide) (fun q => absurd q (c_nlt (by rw [ti_0]; omega))) (fun _ => ?_)
  refine aw_iload_n C dX9_isIn_5 rfl ?_
  refine aw_iload_n C dX9_isIn_6 rfl ?_
  refine aw_icmp_gt C 14 dX9_isIn_7 (by decide) (fun _ => ?_) (fun q => absurd (c_lt (by rw [ti_m1]; omega)) q)
  refine aw_iconst C 0 dX9_isIn_14 ki_0 ?_
  exact aw_iret C rfl (by decide) dX9_isIn_15 (Nat.le_of_ble_eq_true rfl) (Nat.le_of_ble_eq_true rfl) ⟨rfl, rfl, rfl⟩

set_option maxHeartbeats 4000000 in
set_option maxRecDepth 100000 in
theorem c_X9_isPieceThere_457 {X : GX} {l : Launch} {f : AH} {n : Nat} {a1 : Int32} (q0 : 0 ≤ a1.toInt ∧ a1.toInt ≤ 2147483647) (h181 : f 181 = some (.inr (9, (.int 0 :: .ref 182 :: .ref 183 :: .ref 184 :: .ref 185 :: .int 0 :: .int 0 :: .int 0 :: .ref 186 :: .int 0 :: .int 0 :: .int 0 :: .int (-1) :: .ref 187 :: .ref 188 :: .ref 189 :: .int 0 :: .ref 190 :: .ref 191 :: .ref 192 :: .ref 193 :: .ref 194 :: .int 0 :: .ref 195 :: .ref 196 :: .ref 197 :: .int 0 :: .ref 198 :: .ref 199 :: .ref 200 :: .ref 201 :: .ref 202 :: .ref 203 :: .int 0 :: .ref 204 :: .ref 205 :: .ref 206 :: .ref 207 :: .ref 208 :: .ref 209 :: .ref 210 :: .ref 211 :: .ref 212 :: .ref 213 :: .ref 214 :: .int 0 :: .ref 215 :: .ref 216 :: .int 0 :: .ref 217 :: .ref 218 :: .ref 219 :: .ref 220 :: .ref 221 :: .int 0 :: .int 0 :: .int 0 :: .int 0 :: .ref 222 :: .int 0 :: [])))) : AM X l yX9_isPieceThere cX9_isPieceThere 2 (some .boolean) 1 0 0 [.ref 181, .int a1] f n (EXO f [] (some (.int 0)) n) := by
  refine AM.of (by decide +kernel) rfl (Nat.le_of_ble_eq_true rfl) (fun p e s m args below meth c C hnm => ?_)
  refine ao_start ?_
  refine aw_nl [some (.ref 181), some (.int a1)] rfl ?_
  obtain ⟨q0a, q0b⟩ := q0
  refine aw_iload_n C dX9_isPieceThere_0 rfl ?_
  refine aw_iconst C 0 dX9_isPieceThere_1 ki_0 ?_
  refine aw_ald_n C dX9_isPieceThere_2 rfl ?_
  refine aw_get C gf_X9_204 h181 rfl dX9_isPieceThere_3 ?_
  refine aw_iconst C 1 dX9_isPieceThere_6 ki_1 ?_
  refine ae_isub C (-1) dX9_isPieceThere_7 (by decide) ?_
  refine ao_callS C [.int a1, .int 0, .int (-1)] [] ms_X9_141 (c_X9_isIn_456 ⟨by omega, by omega⟩) rfl dX9_isPieceThere_8 (Nat.le_of_ble_eq_true rfl) (Nat.le_of_ble_eq_true rfl) rfl (Nat.le_of_ble_eq_true rfl) (Nat.le_of_ble_eq_true rfl) (Nat.le_of_ble_eq_true rfl) rfl ?_
  exact aw_iret C rfl (by decide) dX9_isPieceThere_11 (Nat.le_of_ble_eq_true rfl) (Nat.le_of_ble_eq_true rfl) ⟨rfl, rfl, rfl⟩

set_option maxHeartbeats 4000000 in
set_option maxRecDepth 100000 in
theorem c_X9_tell0_458 {X : GX} {l : Launch} {f : AH} {n : Nat} {a1 : Int32} (q0 : 0 ≤ a1.toInt ∧ a1.toInt ≤ 2147483647) (h181 : f 181 = some (.inr (9, (.int 0 :: .ref 182 :: .ref 183 :: .ref 184 :: .ref 185 :: .int 0 :: .int 0 :: .int 0 :: .ref 186 :: .int 0 :: .int 0 :: .int 0 :: .int (-1) :: .ref 187 :: .ref 188 :: .ref 189 :: .int 0 :: .ref 190 :: .ref 191 :: .ref 192 :: .ref 193 :: .ref 194 :: .int 0 :: .ref 195 :: .ref 196 :: .ref 197 :: .int 0 :: .ref 198 :: .ref 199 :: .ref 200 :: .ref 201 :: .ref 202 :: .ref 203 :: .int 0 :: .ref 204 :: .ref 205 :: .ref 206 :: .ref 207 :: .ref 208 :: .ref 209 :: .ref 210 :: .ref 211 :: .ref 212 :: .ref 213 :: .ref 214 :: .int 0 :: .ref 215 :: .ref 216 :: .int 0 :: .ref 217 :: .ref 218 :: .ref 219 :: .ref 220 :: .ref 221 :: .int 0 :: .int 0 :: .int 0 :: .int 0 :: .ref 222 :: .int 0 :: [])))) : AM X l yX9_tell0 cX9_tell0 3 (some .int) 2 0 0 [.ref 181, .int a1, .int 0] f n (EXO f [] (some (.int 1)) n) := by
  refine AM.of (by decide +kernel) rfl (Nat.le_of_ble_eq_true rfl) (fun p e s m args below meth c C hnm => ?_)
  refine ao_start ?_
  refine aw_nl [some (.ref 181), some (.int a1), some (.int 0)] rfl ?_
  obtain ⟨q0a, q0b⟩ := q0
  refine aw_ald_n C dX9_tell0_0 rfl ?_
  refine aw_iload_n C dX9_tell0_1 rfl ?_
  refine ao_callV C (ci := 9) (b := 181) [.int a1] [] mv_X9_293 rfl rfl h181 (c_X9_isPieceThere_457 ⟨by omega, by omega⟩ h181) rfl dX9_tell0_2 (Nat.le_of_ble_eq_true rfl) (Nat.le_of_ble_eq_true rfl) rfl (Nat.le_of_ble_eq_true rfl) (Nat.le_of_ble_eq_true rfl) (Nat.le_of_ble_eq_true rfl) rfl ?_
  refine aw_if_ne C 10 dX9_tell0_5 (by decide) (fun q => absurd (by decide) q) (fun _ => ?_)
  refine aw_iconst C 1 dX9_tell0_8 ki_1 ?_
  exact aw_iret C rfl rfl dX9_tell0_9 (Nat.le_of_ble_eq_true rfl) (Nat.le_of_ble_eq_true rfl) ⟨rfl, rfl, rfl⟩

set_option maxHeartbeats 4000000 in
set_option maxRecDepth 100000 in
theorem c_X9_tell_459 {X : GX} {l : Launch} {f : AH} {n : Nat} {a1 : Int32} (q0 : 0 ≤ a1.toInt ∧ a1.toInt ≤ 2147483647) (h181 : f 181 = some (.inr (9, (.int 0 :: .ref 182 :: .ref 183 :: .ref 184 :: .ref 185 :: .int 0 :: .int 0 :: .int 0 :: .ref 186 :: .int 0 :: .int 0 :: .int 0 :: .int (-1) :: .ref 187 :: .ref 188 :: .ref 189 :: .int 0 :: .ref 190 :: .ref 191 :: .ref 192 :: .ref 193 :: .ref 194 :: .int 0 :: .ref 195 :: .ref 196 :: .ref 197 :: .int 0 :: .ref 198 :: .ref 199 :: .ref 200 :: .ref 201 :: .ref 202 :: .ref 203 :: .int 0 :: .ref 204 :: .ref 205 :: .ref 206 :: .ref 207 :: .ref 208 :: .ref 209 :: .ref 210 :: .ref 211 :: .ref 212 :: .ref 213 :: .ref 214 :: .int 0 :: .ref 215 :: .ref 216 :: .int 0 :: .ref 217 :: .ref 218 :: .ref 219 :: .ref 220 :: .ref 221 :: .int 0 :: .int 0 :: .int 0 :: .int 0 :: .ref 222 :: .int 0 :: [])))) (h183 : f 183 = some (.inl (0, 4347, .inl (fun _ => 0)))) (h182 : f 182 = some (.inl (0, 4347, .inl (tl (upd (upd (fun _ => 0) 2 (-1)) 4 1) 40)))) : AM X l yX9_tell cX9_tell 3 (some .int) 6 0 0 [.ref 181, .int a1] f n (EXO f [(181, .inr (9, (.int 2 :: .ref 182 :: .ref 183 :: .ref 184 :: .ref 185 :: .int 0 :: .int 0 :: .int 1 :: .ref 186 :: .int 0 :: .int 0 :: .int 0 :: .int (-1) :: .ref 187 :: .ref 188 :: .ref 189 :: .int 0 :: .ref 190 :: .ref 191 :: .ref 192 :: .ref 193 :: .ref 194 :: .int 0 :: .ref 195 :: .ref 196 :: .ref 197 :: .int 0 :: .ref 198 :: .ref 199 :: .ref 200 :: .ref 201 :: .ref 202 :: .ref 203 :: .int 0 :: .ref 204 :: .ref 205 :: .ref 206 :: .ref 207 :: .ref 208 :: .ref 209 :: .ref 210 :: .ref 211 :: .ref 212 :: .ref 213 :: .ref 214 :: .int 0 :: .ref 215 :: .ref 216 :: .int 0 :: .ref 217 :: .ref 218 :: .ref 219 :: .ref 220 :: .ref 221 :: .int 0 :: .int 0 :: .int 0 :: .int 0 :: .ref 222 :: .int 0 :: []))), (183, .inl (0, 4347, .inl (cpy (tl (upd (upd (fun _ => 0) 2 (-1)) 4 1) 40) (fun _ => 0) 4347))), (182, .inl (0, 4347, .inl (cpy (cpy (tl (upd (upd (fun _ => 0) 2 (-1)) 4 1) 40) (fun _ => 0) 4347) (tl (upd (upd (fun _ => 0) 2 (-1)) 4 1) 40) 4347)))] (some (.int 0)) n) := by
  refine AM.of (by decide +kernel) rfl (Nat.le_of_ble_eq_true rfl) (fun p e s m args below meth c C hnm => ?_)
  refine ao_start ?_
  refine aw_nl [some (.ref 181), some (.int a1), none] rfl ?_
  obtain ⟨q0a, q0b⟩ := q0
  refine aw_ald_n C dX9_tell_0 rfl ?_
  refine ao_callV C (ci := 9) (b := 181) [] [(181, .inr (9, (.int 0 :: .ref 182 :: .ref 183 :: .ref 184 :: .ref 185 :: .int 0 :: .int 0 :: .int 0 :: .ref 186 :: .int 0 :: .int 0 :: .int 0 :: .int (-1) :: .ref 187 :: .ref 188 :: .ref 189 :: .int 0 :: .ref 190 :: .ref 191 :: .ref 192 :: .ref 193 :: .ref 194 :: .int 0 :: .ref 195 :: .ref 196 :: .ref 197 :: .int 0 :: .ref 198 :: .ref 199 :: .ref 200 :: .ref 201 :: .ref 202 :: .ref 203 :: .int 0 :: .ref 204 :: .ref 205 :: .ref 206 :: .ref 207 :: .ref 208 :: .ref 209 :: .ref 210 :: .ref 211 :: .ref 212 :: .ref 213 :: .ref 214 :: .int 0 :: .ref 215 :: .ref 216 :: .int 0 :: .ref 217 :: .ref 218 :: .ref 219 :: .ref 220 :: .ref 221 :: .int 0 :: .int 0 :: .int 0 :: .int 0 :: .ref 222 :: .int 0 :: [])))] mv_X9_435 rfl rfl h181 (c_X9_tookTold_440 h181) rfl dX9_tell_1 (Nat.le_of_ble_eq_true rfl) (Nat.le_of_ble_eq_true rfl) rfl (Nat.le_of_ble_eq_true rfl) (Nat.le_of_ble_eq_true rfl) (Nat.le_of_ble_eq_true rfl) rfl ?_
  refine aw_istore_n C dX9_tell_4 (by decide) rfl ?_
  refine aw_nl [some (.ref 181), some (.int a1), some (.int 0)] rfl ?_
  refine aw_ald_n C dX9_tell_5 rfl ?_
  refine aw_iload_n C dX9_tell_6 rfl ?_
  refine aw_bipush C 60 dX9_tell_7 kb_60 ?_
  refine aw_icmp_le C 16 dX9_tell_9 (by decide) (fun _ => ?_) (fun q => absurd (by decide) q)
  refine aw_iconst C 0 dX9_tell_16 ki_0 ?_
  refine ao_put C [(181, .inr (9, (.int 0 :: .ref 182 :: .ref 183 :: .ref 184 :: .ref 185 :: .int 0 :: .int 0 :: .int 0 :: .ref 186 :: .int 0 :: .int 0 :: .int 0 :: .int (-1) :: .ref 187 :: .ref 188 :: .ref 189 :: .int 0 :: .ref 190 :: .ref 191 :: .ref 192 :: .ref 193 :: .ref 194 :: .int 0 :: .ref 195 :: .ref 196 :: .ref 197 :: .int 0 :: .ref 198 :: .ref 199 :: .ref 200 :: .ref 201 :: .ref 202 :: .ref 203 :: .int 0 :: .ref 204 :: .ref 205 :: .ref 206 :: .ref 207 :: .ref 208 :: .ref 209 :: .ref 210 :: .ref 211 :: .ref 212 :: .ref 213 :: .ref 214 :: .int 0 :: .ref 215 :: .ref 216 :: .int 0 :: .ref 217 :: .ref 218 :: .ref 219 :: .ref 220 :: .ref 221 :: .int 0 :: .int 0 :: .int 0 :: .int 0 :: .ref 222 :: .int 0 :: [])))] gf_X9_138 cf9 nf9_0 rfl (Nat.le_of_ble_eq_true rfl) rfl rfl dX9_tell_17 rfl ?_
  refine aw_ald_n C dX9_tell_20 rfl ?_
  refine aw_get C gf_X9_138 rfl rfl dX9_tell_21 ?_
  refine aw_if_le C 29 dX9_tell_24 (by decide) (fun _ => ?_) (fun q => absurd (by decide) q)
  refine aw_ald_n C dX9_tell_29 rfl ?_
  refine ao_callV C (ci := 9) (b := 181) [] [(181, .inr (9, (.int 0 :: .ref 182 :: .ref 183 :: .ref 184 :: .ref 185 :: .int 0 :: .int 0 :: .int 0 :: .ref 186 :: .int 0 :: .int 0 :: .int 0 :: .int (-1) :: .ref 187 :: .ref 188 :: .ref 189 :: .int 0 :: .ref 190 :: .ref 191 :: .ref 192 :: .ref 193 :: .ref 194 :: .int 0 :: .ref 195 :: .ref 196 :: .ref 197 :: .int 0 :: .ref 198 :: .ref 199 :: .ref 200 :: .ref 201 :: .ref 202 :: .ref 203 :: .int 0 :: .ref 204 :: .ref 205 :: .ref 206 :: .ref 207 :: .ref 208 :: .ref 209 :: .ref 210 :: .ref 211 :: .ref 212 :: .ref 213 :: .ref 214 :: .int 0 :: .ref 215 :: .ref 216 :: .int 0 :: .ref 217 :: .ref 218 :: .ref 219 :: .ref 220 :: .ref 221 :: .int 0 :: .int 0 :: .int 0 :: .int 0 :: .ref 222 :: .int 0 :: []))), (183, .inl (0, 4347, .inl (cpy (tl (upd (upd (fun _ => 0) 2 (-1)) 4 1) 40) (fun _ => 0) 4347)))] mv_X9_420 rfl rfl rfl (c_X9_putsAside_173 rfl h183 h182) rfl dX9_tell_30 (Nat.le_of_ble_eq_true rfl) (Nat.le_of_ble_eq_true rfl) rfl (Nat.le_of_ble_eq_true rfl) (Nat.le_of_ble_eq_true rfl) (Nat.le_of_ble_eq_true rfl) rfl ?_
  refine aw_ald_n C dX9_tell_33 rfl ?_
  refine aw_ald_n C dX9_tell_34 rfl ?_
  refine aw_iload_n C dX9_tell_35 rfl ?_
  refine aw_iload_n C dX9_tell_36 rfl ?_
  refine ao_callV C (ci := 9) (b := 181) [.int a1, .int 0] [(181, .inr (9, (.int 0 :: .ref 182 :: .ref 183 :: .ref 184 :: .ref 185 :: .int 0 :: .int 0 :: .int 0 :: .ref 186 :: .int 0 :: .int 0 :: .int 0 :: .int (-1) :: .ref 187 :: .ref 188 :: .ref 189 :: .int 0 :: .ref 190 :: .ref 191 :: .ref 192 :: .ref 193 :: .ref 194 :: .int 0 :: .ref 195 :: .ref 196 :: .ref 197 :: .int 0 :: .ref 198 :: .ref 199 :: .ref 200 :: .ref 201 :: .ref 202 :: .ref 203 :: .int 0 :: .ref 204 :: .ref 205 :: .ref 206 :: .ref 207 :: .ref 208 :: .ref 209 :: .ref 210 :: .ref 211 :: .ref 212 :: .ref 213 :: .ref 214 :: .int 0 :: .ref 215 :: .ref 216 :: .int 0 :: .ref 217 :: .ref 218 :: .ref 219 :: .ref 220 :: .ref 221 :: .int 0 :: .int 0 :: .int 0 :: .int 0 :: .ref 222 :: .int 0 :: []))), (183, .inl (0, 4347, .inl (cpy (tl (upd (upd (fun _ => 0) 2 (-1)) 4 1) 40) (fun _ => 0) 4347)))] mv_X9_438 rfl rfl rfl (c_X9_tell0_458 ⟨by omega, by omega⟩ rfl) rfl dX9_tell_37 (Nat.le_of_ble_eq_true rfl) (Nat.le_of_ble_eq_true rfl) rfl (Nat.le_of_ble_eq_true rfl) (Nat.le_of_ble_eq_true rfl) (Nat.le_of_ble_eq_true rfl) rfl ?_
  refine aw_iconst C 2 dX9_tell_40 ki_2 ?_
  refine ao_callV C (ci := 9) (b := 181) [.int 1, .int 2] [(181, .inr (9, (.int 2 :: .ref 182 :: .ref 183 :: .ref 184 :: .ref 185 :: .int 0 :: .int 0 :: .int 1 :: .ref 186 :: .int 0 :: .int 0 :: .int 0 :: .int (-1) :: .ref 187 :: .ref 188 :: .ref 189 :: .int 0 :: .ref 190 :: .ref 191 :: .ref 192 :: .ref 193 :: .ref 194 :: .int 0 :: .ref 195 :: .ref 196 :: .ref 197 :: .int 0 :: .ref 198 :: .ref 199 :: .ref 200 :: .ref 201 :: .ref 202 :: .ref 203 :: .int 0 :: .ref 204 :: .ref 205 :: .ref 206 :: .ref 207 :: .ref 208 :: .ref 209 :: .ref 210 :: .ref 211 :: .ref 212 :: .ref 213 :: .ref 214 :: .int 0 :: .ref 215 :: .ref 216 :: .int 0 :: .ref 217 :: .ref 218 :: .ref 219 :: .ref 220 :: .ref 221 :: .int 0 :: .int 0 :: .int 0 :: .int 0 :: .ref 222 :: .int 0 :: []))), (183, .inl (0, 4347, .inl (cpy (tl (upd (upd (fun _ => 0) 2 (-1)) 4 1) 40) (fun _ => 0) 4347))), (182, .inl (0, 4347, .inl (cpy (cpy (tl (upd (upd (fun _ => 0) 2 (-1)) 4 1) 40) (fun _ => 0) 4347) (tl (upd (upd (fun _ => 0) 2 (-1)) 4 1) 40) 4347)))] mv_X9_429 rfl rfl rfl (c_X9_isDone_448 rfl h182 rfl) rfl dX9_tell_41 (Nat.le_of_ble_eq_true rfl) (Nat.le_of_ble_eq_true rfl) rfl (Nat.le_of_ble_eq_true rfl) (Nat.le_of_ble_eq_true rfl) (Nat.le_of_ble_eq_true rfl) rfl ?_
  refine aw_if_eq C 54 dX9_tell_44 (by decide) (fun _ => ?_) (fun q => absurd (by decide) q)
  refine aw_iconst C 0 dX9_tell_54 ki_0 ?_
  exact aw_iret C rfl rfl dX9_tell_55 (Nat.le_of_ble_eq_true rfl) (Nat.le_of_ble_eq_true rfl) ⟨rfl, rfl, rfl⟩

set_option maxHeartbeats 4000000 in
set_option maxRecDepth 100000 in
theorem c_X8_freePiece_460 {X : GX} {l : Launch} {f : AH} {n : Nat} {a1 : Int32} (q0 : (-2147483648) ≤ a1.toInt ∧ a1.toInt ≤ (-1)) (h0 : f 0 = some (.inr (8, [.ref 1, .ref 3, .ref 8, .ref 13, .ref 18, .ref 59, .ref 115, .ref 171, .ref 178, .int 0, .int 0, .int 0, .int 0, .int (-1)]))) (h59 : f 59 = some (.inr (1, [.ref 60, .ref 62, .ref 74, .int 0, .ref 68, .ref 71, .ref 64, .ref 66]))) : AM X l yX8_freePiece cX8_freePiece 2 (some .int) 1 0 0 [.ref 0, .int a1] f n (EXO f [] (some (.int 1)) n) := by
  refine AM.of (by decide +kernel) rfl (Nat.le_of_ble_eq_true rfl) (fun p e s m args below meth c C hnm => ?_)
  refine ao_start ?_
  refine aw_nl [some (.ref 0), some (.int a1)] rfl ?_
  obtain ⟨q0a, q0b⟩ := q0
  refine aw_ald_n C dX8_freePiece_0 rfl ?_
  refine aw_get C gf_X8_38 h0 rfl dX8_freePiece_1 ?_
  refine aw_iload_n C dX8_freePiece_4 rfl ?_
  refine ao_callV C (ci := 1) (b := 59) [.int a1] [] mv_X8_241 rfl rfl h59 (c_X1_get_434 ⟨by omega, by omega⟩) rfl dX8_freePiece_5 (Nat.le_of_ble_eq_true rfl) (Nat.le_of_ble_eq_true rfl) rfl (Nat.le_of_ble_eq_true rfl) (Nat.le_of_ble_eq_true rfl) (Nat.le_of_ble_eq_true rfl) rfl ?_
  refine aw_ifnonnull_n C 13 dX8_freePiece_8 (by decide) ?_
  refine aw_iconst C 1 dX8_freePiece_11 ki_1 ?_
  exact aw_iret C rfl rfl dX8_freePiece_12 (Nat.le_of_ble_eq_true rfl) (Nat.le_of_ble_eq_true rfl) ⟨rfl, rfl, rfl⟩

set_option maxHeartbeats 4000000 in
set_option maxRecDepth 100000 in
theorem c_X8_doAct_461 {X : GX} {l : Launch} {f : AH} {n : Nat} {a2 : Int32} (q0 : (-2147483648) ≤ a2.toInt ∧ a2.toInt ≤ (-1)) (h0 : f 0 = some (.inr (8, [.ref 1, .ref 3, .ref 8, .ref 13, .ref 18, .ref 59, .ref 115, .ref 171, .ref 178, .int 0, .int 0, .int 0, .int 0, .int (-1)]))) (h59 : f 59 = some (.inr (1, [.ref 60, .ref 62, .ref 74, .int 0, .ref 68, .ref 71, .ref 64, .ref 66]))) : AM X l yX8_doAct cX8_doAct 6 (some .int) 2 0 0 [.ref 0, .int 8, .int a2, .int 0, .null] f n (EXO f [(0, .inr (8, [.ref 1, .ref 3, .ref 8, .ref 13, .ref 18, .ref 59, .ref 115, .ref 171, .ref 178, .int 0, .int 0, .int 0, .int 0, .int (-1)]))] (some (.int 1)) n) := by
  refine AM.of (by decide +kernel) rfl (Nat.le_of_ble_eq_true rfl) (fun p e s m args below meth c C hnm => ?_)
  refine ao_start ?_
  refine aw_nl [some (.ref 0), some (.int 8), some (.int a2), some (.int 0), some (.null), none] rfl ?_
  obtain ⟨q0a, q0b⟩ := q0
  refine aw_ald_n C dX8_doAct_0 rfl ?_
  refine aw_iconst C 0 dX8_doAct_1 ki_0 ?_
  refine ao_put C [(0, .inr (8, [.ref 1, .ref 3, .ref 8, .ref 13, .ref 18, .ref 59, .ref 115, .ref 171, .ref 178, .int 0, .int 0, .int 0, .int 0, .int (-1)]))] gf_X8_334 cf8 nf8_10 h0 (Nat.le_of_ble_eq_true rfl) (by decide) (by decide) dX8_doAct_2 rfl ?_
  refine aw_iload_n C dX8_doAct_5 rfl ?_
  refine aw_tabIn C (off := 179) 185 dX8_doAct_6 (by decide) (by decide) (by decide) (by decide) ?_
  refine aw_ald_n C dX8_doAct_185 rfl ?_
  refine aw_iload_n C dX8_doAct_186 rfl ?_
  refine ao_callV C (ci := 8) (b := 0) [.int a2] [(0, .inr (8, [.ref 1, .ref 3, .ref 8, .ref 13, .ref 18, .ref 59, .ref 115, .ref 171, .ref 178, .int 0, .int 0, .int 0, .int 0, .int (-1)]))] mv_X8_341 rfl rfl rfl (c_X8_freePiece_460 ⟨by omega, by omega⟩ rfl h59) rfl dX8_doAct_187 (Nat.le_of_ble_eq_true rfl) (Nat.le_of_ble_eq_true rfl) rfl (Nat.le_of_ble_eq_true rfl) (Nat.le_of_ble_eq_true rfl) (Nat.le_of_ble_eq_true rfl) rfl ?_
  exact aw_iret C rfl rfl dX8_doAct_190 (Nat.le_of_ble_eq_true rfl) (Nat.le_of_ble_eq_true rfl) ⟨rfl, rfl, rfl⟩

set_option maxHeartbeats 4000000 in
set_option maxRecDepth 100000 in
theorem c_X8_free_462 {X : GX} {l : Launch} {f : AH} {n : Nat} {a1 : Int32} (hl0 : l.stackTraces = false) (q0 : (-2147483648) ≤ a1.toInt ∧ a1.toInt ≤ (-1)) (h0 : f 0 = some (.inr (8, [.ref 1, .ref 3, .ref 8, .ref 13, .ref 18, .ref 59, .ref 115, .ref 171, .ref 178, .int 0, .int 0, .int 0, .int 0, .int (-1)]))) (h3 : f 3 = some (.inr (7, [.ref 4, .int 0, .int (-1), .int 0, .int 1, .int 0, .null, .int 0, .ref 6, .ref 7]))) (h8 : f 8 = some (.inr (7, [.ref 9, .int 0, .int (-1), .int 0, .int 1, .int 0, .null, .int 0, .ref 11, .ref 12]))) (h11 : f 11 = some (.inl (2, 4, .inr (.inr (fun _ => none))))) (h6 : f 6 = some (.inl (2, 4, .inr (.inr (fun _ => none))))) (h12 : f 12 = some (.inl (2, 40, .inr (.inr (fun _ => none))))) (h7 : f 7 = some (.inl (2, 40, .inr (.inr (fun _ => none))))) (h59 : f 59 = some (.inr (1, [.ref 60, .ref 62, .ref 74, .int 0, .ref 68, .ref 71, .ref 64, .ref 66]))) : AX X l yX8_free cX8_free 2 (some .int) 7 1 6 [.ref 0, .int a1] f n (fun _ _ _ => False) (TXO eS f [(8, .inr (7, [.ref 4, .int 0, .int (-1), .int 0, .int 1, .int 0, .null, .int 0, .ref 11, .ref 12])), (0, .inr (8, [.ref 1, .ref 3, .ref 8, .ref 13, .ref 18, .ref 59, .ref 115, .ref 171, .ref 178, .int 0, .int 0, .int 0, .int 1, .int (-1)]))] n) := by
  refine AX.of (by decide +kernel) rfl (Nat.le_of_ble_eq_true rfl) (fun p e s m args below meth c C htab => ?_)
  refine ao_start ?_
  refine aw_nl [some (.ref 0), some (.int a1)] rfl ?_
  obtain ⟨q0a, q0b⟩ := q0
  refine aw_ald_n C dX8_free_0 rfl ?_
  refine aw_get C gf_X8_25 h0 rfl dX8_free_1 ?_
  refine aw_ald_n C dX8_free_4 rfl ?_
  refine aw_get C gf_X8_21 h0 rfl dX8_free_5 ?_
  refine ao_callV C (ci := 7) (b := 8) [.ref 3] [(8, .inr (7, [.ref 4, .int 0, .int (-1), .int 0, .int 1, .int 0, .null, .int 0, .ref 11, .ref 12]))] mv_X8_73 rfl rfl h8 (c_X7_copyFrom_168 h3 h8 h11 h6 h12 h7) rfl dX8_free_8 (Nat.le_of_ble_eq_true rfl) (Nat.le_of_ble_eq_true rfl) rfl (Nat.le_of_ble_eq_true rfl) (Nat.le_of_ble_eq_true rfl) (Nat.le_of_ble_eq_true rfl) rfl ?_
  refine aw_ald_n C dX8_free_11 rfl ?_
  refine aw_ald_n C dX8_free_12 rfl ?_
  refine aw_bipush C 8 dX8_free_13 kb_8 ?_
  refine aw_iload_n C dX8_free_15 rfl ?_
  refine aw_iconst C 0 dX8_free_16 ki_0 ?_
  refine aw_null C dX8_free_17 ?_
  refine ao_callV C (ci := 8) (b := 0) [.int 8, .int a1, .int 0, .null] [(8, .inr (7, [.ref 4, .int 0, .int (-1), .int 0, .int 1, .int 0, .null, .int 0, .ref 11, .ref 12])), (0, .inr (8, [.ref 1, .ref 3, .ref 8, .ref 13, .ref 18, .ref 59, .ref 115, .ref 171, .ref 178, .int 0, .int 0, .int 0, .int 0, .int (-1)]))] mv_X8_103 rfl rfl h0 (c_X8_doAct_461 ⟨by omega, by omega⟩ h0 h59) rfl dX8_free_18 (Nat.le_of_ble_eq_true rfl) (Nat.le_of_ble_eq_true rfl) rfl (Nat.le_of_ble_eq_true rfl) (Nat.le_of_ble_eq_true rfl) (Nat.le_of_ble_eq_true rfl) rfl ?_
  refine ax_callV C (ci := 8) (b := 0) [.int 1] mv_X8_139 rfl rfl rfl (c_X8_finishCall_437 hl0 rfl) rfl dX8_free_21 (Nat.le_of_ble_eq_true rfl) (Nat.le_of_ble_eq_true rfl) rfl (Nat.le_of_ble_eq_true rfl) (Nat.le_of_ble_eq_true rfl) (Nat.le_of_ble_eq_true rfl) (fun E9 f9 n9 h9 => ?_) (fun _ _ _ h9 => h9.elim)
  obtain ⟨rfl, rfl, h9⟩ := h9
  refine at_flat [(8, .inr (7, [.ref 4, .int 0, .int (-1), .int 0, .int 1, .int 0, .null, .int 0, .ref 11, .ref 12])), (0, .inr (8, [.ref 1, .ref 3, .ref 8, .ref 13, .ref 18, .ref 59, .ref 115, .ref 171, .ref 178, .int 0, .int 0, .int 0, .int 1, .int (-1)]))] rfl ?_
  exact at_out C htab ⟨rfl, rfl, h9⟩ (Nat.le_of_ble_eq_true rfl) (Nat.le_of_ble_eq_true rfl)

set_option maxHeartbeats 4000000 in
set_option maxRecDepth 100000 in
theorem c_L_free_463 {X : GX} {l : Launch} {f : AH} {n : Nat} {a1 : Int32} (hl0 : l.stackTraces = false) (q0 : (-2147483648) ≤ a1.toInt ∧ a1.toInt ≤ (-1)) (h0 : f 0 = some (.inr (8, [.ref 1, .ref 3, .ref 8, .ref 13, .ref 18, .ref 59, .ref 115, .ref 171, .ref 178, .int 0, .int 0, .int 0, .int 0, .int (-1)]))) (h3 : f 3 = some (.inr (7, [.ref 4, .int 0, .int (-1), .int 0, .int 1, .int 0, .null, .int 0, .ref 6, .ref 7]))) (h8 : f 8 = some (.inr (7, [.ref 9, .int 0, .int (-1), .int 0, .int 1, .int 0, .null, .int 0, .ref 11, .ref 12]))) (h11 : f 11 = some (.inl (2, 4, .inr (.inr (fun _ => none))))) (h6 : f 6 = some (.inl (2, 4, .inr (.inr (fun _ => none))))) (h12 : f 12 = some (.inl (2, 40, .inr (.inr (fun _ => none))))) (h7 : f 7 = some (.inl (2, 40, .inr (.inr (fun _ => none))))) (h59 : f 59 = some (.inr (1, [.ref 60, .ref 62, .ref 74, .int 0, .ref 68, .ref 71, .ref 64, .ref 66]))) : AMW X l yL_free cL_free 4 (some .int) [(0, 9, 12, 28)] 8 1 6 [.ref 0, .int a1, .ref 223] f n (EXN f [(0, .inr (8, [.ref 1, .ref 3, .ref 8, .ref 13, .ref 18, .ref 59, .ref 115, .ref 171, .ref 178, .int 0, .int 0, .int 0, .int 1, .int (-1)])), (8, .inr (7, [.ref 4, .int 0, .int (-1), .int 0, .int 1, .int 0, .null, .int 0, .ref 11, .ref 12]))] (some (.int 1))) := by
  refine AMW.of (by decide +kernel) rfl (Nat.le_of_ble_eq_true rfl) (fun p e s m args below meth c C htab => ?_)
  refine ao_start ?_
  refine aw_nl [some (.ref 0), some (.int a1), some (.ref 223), none] rfl ?_
  obtain ⟨q0a, q0b⟩ := q0
  refine aw_ald_n C dL_free_0 rfl ?_
  refine aw_iconst C 0 dL_free_1 ki_0 ?_
  refine aw_ald_n C dL_free_2 rfl ?_
  refine aw_iload_n C dL_free_3 rfl ?_
  refine ax_callV C (ci := 8) (b := 0) [.int a1] mv_L_34 rfl rfl h0 (c_X8_free_462 hl0 ⟨by omega, by omega⟩ h0 h3 h8 h11 h6 h12 h7 h59) rfl dL_free_4 (Nat.le_of_ble_eq_true rfl) (Nat.le_of_ble_eq_true rfl) rfl (Nat.le_of_ble_eq_true rfl) (Nat.le_of_ble_eq_true rfl) (Nat.le_of_ble_eq_true rfl) (fun E9 f9 n9 h9 => ?_) (fun _ _ _ h9 => h9.elim)
  obtain ⟨rfl, rfl, h9⟩ := h9
  refine at_flat [(0, .inr (8, [.ref 1, .ref 3, .ref 8, .ref 13, .ref 18, .ref 59, .ref 115, .ref 171, .ref 178, .int 0, .int 0, .int 0, .int 1, .int (-1)])), (8, .inr (7, [.ref 4, .int 0, .int (-1), .int 0, .int 1, .int 0, .null, .int 0, .ref 11, .ref 12]))] rfl ?_
  refine at_catch C htab [] ⟨0, 9, 12, 28⟩ [] rfl (fun z hz => nomatch hz) (by decide) (by decide) cl_L_28 (by decide) (ah_astore_n C dL_free_12 (by decide) rfl ?_)
  refine aw_nl [some (.ref 0), some (.int a1), some (.ref 223), none] rfl ?_
  refine aw_iconst C 1 dL_free_13 ki_1 ?_
  exact aw_iret C rfl rfl dL_free_14 (Nat.le_of_ble_eq_true rfl) (Nat.le_of_ble_eq_true rfl) ⟨rfl, rfl⟩

set_option maxHeartbeats 4000000 in
set_option maxRecDepth 100000 in
theorem c_X9_free0_464 {X : GX} {l : Launch} {f : AH} {n : Nat} {a1 : Int32} (q0 : (-2147483648) ≤ a1.toInt ∧ a1.toInt ≤ (-1)) (h181 : f 181 = some (.inr (9, (.int 0 :: .ref 182 :: .ref 183 :: .ref 184 :: .ref 185 :: .int 0 :: .int 0 :: .int 0 :: .ref 186 :: .int 0 :: .int 0 :: .int 0 :: .int (-1) :: .ref 187 :: .ref 188 :: .ref 189 :: .int 0 :: .ref 190 :: .ref 191 :: .ref 192 :: .ref 193 :: .ref 194 :: .int 0 :: .ref 195 :: .ref 196 :: .ref 197 :: .int 0 :: .ref 198 :: .ref 199 :: .ref 200 :: .ref 201 :: .ref 202 :: .ref 203 :: .int 0 :: .ref 204 :: .ref 205 :: .ref 206 :: .ref 207 :: .ref 208 :: .ref 209 :: .ref 210 :: .ref 211 :: .ref 212 :: .ref 213 :: .ref 214 :: .int 0 :: .ref 215 :: .ref 216 :: .int 0 :: .ref 217 :: .ref 218 :: .ref 219 :: .ref 220 :: .ref 221 :: .int 0 :: .int 0 :: .int 0 :: .int 0 :: .ref 222 :: .int 0 :: [])))) : AM X l yX9_free0 cX9_free0 2 (some .int) 2 0 0 [.ref 181, .int a1] f n (EXO f [] (some (.int 1)) n) := by
  refine AM.of (by decide +kernel) rfl (Nat.le_of_ble_eq_true rfl) (fun p e s m args below meth c C hnm => ?_)
  refine ao_start ?_
  refine aw_nl [some (.ref 181), some (.int a1)] rfl ?_
  obtain ⟨q0a, q0b⟩ := q0
  refine aw_ald_n C dX9_free0_0 rfl ?_
  refine aw_iload_n C dX9_free0_1 rfl ?_
  refine ao_callV C (ci := 9) (b := 181) [.int a1] [] mv_X9_293 rfl rfl h181 (c_X9_isPieceThere_442 ⟨by omega, by omega⟩ h181) rfl dX9_free0_2 (Nat.le_of_ble_eq_true rfl) (Nat.le_of_ble_eq_true rfl) rfl (Nat.le_of_ble_eq_true rfl) (Nat.le_of_ble_eq_true rfl) (Nat.le_of_ble_eq_true rfl) rfl ?_
  refine aw_if_ne C 10 dX9_free0_5 (by decide) (fun q => absurd (by decide) q) (fun _ => ?_)
  refine aw_iconst C 1 dX9_free0_8 ki_1 ?_
  exact aw_iret C rfl rfl dX9_free0_9 (Nat.le_of_ble_eq_true rfl) (Nat.le_of_ble_eq_true rfl) ⟨rfl, rfl, rfl⟩

set_option maxHeartbeats 4000000 in
set_option maxRecDepth 100000 in
theorem c_X9_cuts_465 {X : GX} {l : Launch} {f : AH} {n : Nat} (h181 : f 181 = some (.inr (9, (.int 1 :: .ref 182 :: .ref 183 :: .ref 184 :: .ref 185 :: .int 0 :: .int 0 :: .int 1 :: .ref 186 :: .int 0 :: .int 0 :: .int 0 :: .int (-1) :: .ref 187 :: .ref 188 :: .ref 189 :: .int 0 :: .ref 190 :: .ref 191 :: .ref 192 :: .ref 193 :: .ref 194 :: .int 0 :: .ref 195 :: .ref 196 :: .ref 197 :: .int 0 :: .ref 198 :: .ref 199 :: .ref 200 :: .ref 201 :: .ref 202 :: .ref 203 :: .int 0 :: .ref 204 :: .ref 205 :: .ref 206 :: .ref 207 :: .ref 208 :: .ref 209 :: .ref 210 :: .ref 211 :: .ref 212 :: .ref 213 :: .ref 214 :: .int 0 :: .ref 215 :: .ref 216 :: .int 0 :: .ref 217 :: .ref 218 :: .ref 219 :: .ref 220 :: .ref 221 :: .int 0 :: .int 0 :: .int 0 :: .int 0 :: .ref 222 :: .int 0 :: [])))) : AM X l yX9_cuts cX9_cuts 7 (some .int) 1 0 0 [.ref 181, .int 0, .ref 187, .int 0, .ref 190, .ref 191, .ref 192] f n (EXO f [(181, .inr (9, (.int 1 :: .ref 182 :: .ref 183 :: .ref 184 :: .ref 185 :: .int 0 :: .int 0 :: .int 1 :: .ref 186 :: .int 0 :: .int 0 :: .int 0 :: .int (-1) :: .ref 187 :: .ref 188 :: .ref 189 :: .int 0 :: .ref 190 :: .ref 191 :: .ref 192 :: .ref 193 :: .ref 194 :: .int 0 :: .ref 195 :: .ref 196 :: .ref 197 :: .int 0 :: .ref 198 :: .ref 199 :: .ref 200 :: .ref 201 :: .ref 202 :: .ref 203 :: .int 0 :: .ref 204 :: .ref 205 :: .ref 206 :: .ref 207 :: .ref 208 :: .ref 209 :: .ref 210 :: .ref 211 :: .ref 212 :: .ref 213 :: .ref 214 :: .int 0 :: .ref 215 :: .ref 216 :: .int 0 :: .ref 217 :: .ref 218 :: .ref 219 :: .ref 220 :: .ref 221 :: .int 0 :: .int 0 :: .int 0 :: .int 0 :: .ref 222 :: .int 0 :: [])))] (some (.int 0)) n) := by
  refine AM.of (by decide +kernel) rfl (by decide) (fun p e s m args below meth c C hnm => ?_)
  refine ao_start ?_
  refine aw_nl [some (.ref 181), some (.int 0), some (.ref 187), some (.int 0), some (.ref 190), some (.ref 191), some (.ref 192)] rfl ?_
  refine aw_ald_n C dX9_cuts_0 rfl ?_
  refine aw_iconst C 0 dX9_cuts_1 ki_0 ?_
  refine ao_put C [(181, .inr (9, (.int 1 :: .ref 182 :: .ref 183 :: .ref 184 :: .ref 185 :: .int 0 :: .int 0 :: .int 1 :: .ref 186 :: .int 0 :: .int 0 :: .int 0 :: .int (-1) :: .ref 187 :: .ref 188 :: .ref 189 :: .int 0 :: .ref 190 :: .ref 191 :: .ref 192 :: .ref 193 :: .ref 194 :: .int 0 :: .ref 195 :: .ref 196 :: .ref 197 :: .int 0 :: .ref 198 :: .ref 199 :: .ref 200 :: .ref 201 :: .ref 202 :: .ref 203 :: .int 0 :: .ref 204 :: .ref 205 :: .ref 206 :: .ref 207 :: .ref 208 :: .ref 209 :: .ref 210 :: .ref 211 :: .ref 212 :: .ref 213 :: .ref 214 :: .int 0 :: .ref 215 :: .ref 216 :: .int 0 :: .ref 217 :: .ref 218 :: .ref 219 :: .ref 220 :: .ref 221 :: .int 0 :: .int 0 :: .int 0 :: .int 0 :: .ref 222 :: .int 0 :: [])))] gf_X9_145 cf9 nf9_54 h181 (Nat.le_of_ble_eq_true rfl) rfl rfl dX9_cuts_2 rfl ?_
  refine aw_iload_n C dX9_cuts_5 rfl ?_
  refine aw_if_ne C 24 dX9_cuts_6 (by decide) (fun q => absurd (by decide) q) (fun _ => ?_)
  refine aw_ald_n C dX9_cuts_9 rfl ?_
  refine aw_ald_n C dX9_cuts_10 rfl ?_
  refine aw_iload_n C dX9_cuts_11 rfl ?_
  refine aw_ald C dX9_cuts_12 rfl ?_
  refine aw_ald C dX9_cuts_14 rfl ?_
  refine aw_ald C dX9_cuts_16 rfl ?_
  refine ao_callV C (ci := 9) (b := 181) [.ref 187, .int 0, .ref 190, .ref 191, .ref 192] [(181, .inr (9, (.int 1 :: .ref 182 :: .ref 183 :: .ref 184 :: .ref 185 :: .int 0 :: .int 0 :: .int 1 :: .ref 186 :: .int 0 :: .int 0 :: .int 0 :: .int (-1) :: .ref 187 :: .ref 188 :: .ref 189 :: .int 0 :: .ref 190 :: .ref 191 :: .ref 192 :: .ref 193 :: .ref 194 :: .int 0 :: .ref 195 :: .ref 196 :: .ref 197 :: .int 0 :: .ref 198 :: .ref 199 :: .ref 200 :: .ref 201 :: .ref 202 :: .ref 203 :: .int 0 :: .ref 204 :: .ref 205 :: .ref 206 :: .ref 207 :: .ref 208 :: .ref 209 :: .ref 210 :: .ref 211 :: .ref 212 :: .ref 213 :: .ref 214 :: .int 0 :: .ref 215 :: .ref 216 :: .int 0 :: .ref 217 :: .ref 218 :: .ref 219 :: .ref 220 :: .ref 221 :: .int 0 :: .int 0 :: .int 0 :: .int 0 :: .ref 222 :: .int 0 :: [])))] mv_X9_160 rfl rfl rfl (c_X9_cutsLines_198) rfl dX9_cuts_18 (Nat.le_of_ble_eq_true rfl) (Nat.le_of_ble_eq_true rfl) rfl (Nat.le_of_ble_eq_true rfl) (Nat.le_of_ble_eq_true rfl) (Nat.le_of_ble_eq_true rfl) rfl ?_
  refine aw_goto C 76 dX9_cuts_21 (by decide) ?_
  refine aw_ald_n C dX9_cuts_76 rfl ?_
  refine aw_get C gf_X9_145 rfl rfl dX9_cuts_77 ?_
  exact aw_iret C rfl rfl dX9_cuts_80 (Nat.le_of_ble_eq_true rfl) (Nat.le_of_ble_eq_true rfl) ⟨rfl, rfl, rfl⟩

set_option maxHeartbeats 4000000 in
set_option maxRecDepth 100000 in
theorem c_X9_cutsAll_466 {X : GX} {l : Launch} {f : AH} {n : Nat} {g182dx182dx182 : Nat → Int32} (h181 : f 181 = some (.inr (9, (.int 1 :: .ref 182 :: .ref 183 :: .ref 184 :: .ref 185 :: .int 0 :: .int 0 :: .int 1 :: .ref 186 :: .int 0 :: .int 0 :: .int 0 :: .int (-1) :: .ref 187 :: .ref 188 :: .ref 189 :: .int 0 :: .ref 190 :: .ref 191 :: .ref 192 :: .ref 193 :: .ref 194 :: .int 0 :: .ref 195 :: .ref 196 :: .ref 197 :: .int 0 :: .ref 198 :: .ref 199 :: .ref 200 :: .ref 201 :: .ref 202 :: .ref 203 :: .int 0 :: .ref 204 :: .ref 205 :: .ref 206 :: .ref 207 :: .ref 208 :: .ref 209 :: .ref 210 :: .ref 211 :: .ref 212 :: .ref 213 :: .ref 214 :: .int 0 :: .ref 215 :: .ref 216 :: .int 0 :: .ref 217 :: .ref 218 :: .ref 219 :: .ref 220 :: .ref 221 :: .int 0 :: .int 0 :: .int 0 :: .int 0 :: .ref 222 :: .int 0 :: [])))) (h182 : f 182 = some (.inl (0, 4347, .inl (cpy (cpy (tl (upd (upd (fun _ => 0) 2 (-1)) 4 1) 40) (fun _ => 0) 4347) g182dx182dx182 4347)))) : AM X l yX9_cutsAll cX9_cutsAll 5 none 2 0 0 [.ref 181] f n (EXO f [(181, .inr (9, (.int 1 :: .ref 182 :: .ref 183 :: .ref 184 :: .ref 185 :: .int 0 :: .int 0 :: .int 1 :: .ref 186 :: .int 0 :: .int 0 :: .int 0 :: .int (-1) :: .ref 187 :: .ref 188 :: .ref 189 :: .int 0 :: .ref 190 :: .ref 191 :: .ref 192 :: .ref 193 :: .ref 194 :: .int 0 :: .ref 195 :: .ref 196 :: .ref 197 :: .int 0 :: .ref 198 :: .ref 199 :: .ref 200 :: .ref 201 :: .ref 202 :: .ref 203 :: .int 0 :: .ref 204 :: .ref 205 :: .ref 206 :: .ref 207 :: .ref 208 :: .ref 209 :: .ref 210 :: .ref 211 :: .ref 212 :: .ref 213 :: .ref 214 :: .int 0 :: .ref 215 :: .ref 216 :: .int 0 :: .ref 217 :: .ref 218 :: .ref 219 :: .ref 220 :: .ref 221 :: .int 0 :: .int 0 :: .int 0 :: .int 0 :: .ref 222 :: .int 0 :: [])))] none n) := by
  refine AM.of (by decide +kernel) rfl (by decide) (fun p e s m args below meth c C hnm => ?_)
  refine ao_start ?_
  refine aw_nl [some (.ref 181), none, none, none, none] rfl ?_
  refine aw_ald_n C dX9_cutsAll_0 rfl ?_
  refine aw_iconst C 0 dX9_cutsAll_1 ki_0 ?_
  refine ao_put C [(181, .inr (9, (.int 1 :: .ref 182 :: .ref 183 :: .ref 184 :: .ref 185 :: .int 0 :: .int 0 :: .int 1 :: .ref 186 :: .int 0 :: .int 0 :: .int 0 :: .int (-1) :: .ref 187 :: .ref 188 :: .ref 189 :: .int 0 :: .ref 190 :: .ref 191 :: .ref 192 :: .ref 193 :: .ref 194 :: .int 0 :: .ref 195 :: .ref 196 :: .ref 197 :: .int 0 :: .ref 198 :: .ref 199 :: .ref 200 :: .ref 201 :: .ref 202 :: .ref 203 :: .int 0 :: .ref 204 :: .ref 205 :: .ref 206 :: .ref 207 :: .ref 208 :: .ref 209 :: .ref 210 :: .ref 211 :: .ref 212 :: .ref 213 :: .ref 214 :: .int 0 :: .ref 215 :: .ref 216 :: .int 0 :: .ref 217 :: .ref 218 :: .ref 219 :: .ref 220 :: .ref 221 :: .int 0 :: .int 0 :: .int 0 :: .int 0 :: .ref 222 :: .int 0 :: [])))] gf_X9_204 cf9 nf9_33 h181 (Nat.le_of_ble_eq_true rfl) rfl rfl dX9_cutsAll_2 rfl ?_
  refine aw_ald_n C dX9_cutsAll_5 rfl ?_
  refine aw_iconst C 0 dX9_cutsAll_6 ki_0 ?_
  refine ao_put C [(181, .inr (9, (.int 1 :: .ref 182 :: .ref 183 :: .ref 184 :: .ref 185 :: .int 0 :: .int 0 :: .int 1 :: .ref 186 :: .int 0 :: .int 0 :: .int 0 :: .int (-1) :: .ref 187 :: .ref 188 :: .ref 189 :: .int 0 :: .ref 190 :: .ref 191 :: .ref 192 :: .ref 193 :: .ref 194 :: .int 0 :: .ref 195 :: .ref 196 :: .ref 197 :: .int 0 :: .ref 198 :: .ref 199 :: .ref 200 :: .ref 201 :: .ref 202 :: .ref 203 :: .int 0 :: .ref 204 :: .ref 205 :: .ref 206 :: .ref 207 :: .ref 208 :: .ref 209 :: .ref 210 :: .ref 211 :: .ref 212 :: .ref 213 :: .ref 214 :: .int 0 :: .ref 215 :: .ref 216 :: .int 0 :: .ref 217 :: .ref 218 :: .ref 219 :: .ref 220 :: .ref 221 :: .int 0 :: .int 0 :: .int 0 :: .int 0 :: .ref 222 :: .int 0 :: [])))] gf_X9_217 cf9 nf9_45 rfl (Nat.le_of_ble_eq_true rfl) rfl rfl dX9_cutsAll_7 rfl ?_
  refine aw_iconst C 0 dX9_cutsAll_10 ki_0 ?_
  refine aw_istore_n C dX9_cutsAll_11 (by decide) rfl ?_
  refine aw_nl [some (.ref 181), some (.int 0), none, none, none] rfl ?_
  refine aw_iload_n C dX9_cutsAll_12 rfl ?_
  refine aw_ald_n C dX9_cutsAll_13 rfl ?_
  refine aw_get C gf_X9_220 rfl rfl dX9_cutsAll_14 ?_
  refine aw_icmp_ge C 42 dX9_cutsAll_17 (by decide) (fun _ => ?_) (fun q => absurd (by decide) q)
  refine aw_ald_n C dX9_cutsAll_42 rfl ?_
  refine aw_ald_n C dX9_cutsAll_43 rfl ?_
  refine aw_ald_n C dX9_cutsAll_44 rfl ?_
  refine aw_get C gf_X9_7 rfl rfl dX9_cutsAll_45 ?_
  refine aw_iconst C 1 dX9_cutsAll_48 ki_1 ?_
  refine ao_iald C 0 h182 (by unfold vp_in; decide) (by decide : _ = 1) rfl dX9_cutsAll_49 ?_
  refine aw_ald_n C dX9_cutsAll_50 rfl ?_
  refine aw_get C gf_X9_30 rfl rfl dX9_cutsAll_51 ?_
  refine aw_ald_n C dX9_cutsAll_54 rfl ?_
  refine aw_get C gf_X9_220 rfl rfl dX9_cutsAll_55 ?_
  refine aw_ald_n C dX9_cutsAll_58 rfl ?_
  refine aw_get C gf_X9_39 rfl rfl dX9_cutsAll_59 ?_
  refine aw_ald_n C dX9_cutsAll_62 rfl ?_
  refine aw_get C gf_X9_42 rfl rfl dX9_cutsAll_63 ?_
  refine aw_ald_n C dX9_cutsAll_66 rfl ?_
  refine aw_get C gf_X9_45 rfl rfl dX9_cutsAll_67 ?_
  refine ao_callV C (ci := 9) (b := 181) [.int 0, .ref 187, .int 0, .ref 190, .ref 191, .ref 192] [(181, .inr (9, (.int 1 :: .ref 182 :: .ref 183 :: .ref 184 :: .ref 185 :: .int 0 :: .int 0 :: .int 1 :: .ref 186 :: .int 0 :: .int 0 :: .int 0 :: .int (-1) :: .ref 187 :: .ref 188 :: .ref 189 :: .int 0 :: .ref 190 :: .ref 191 :: .ref 192 :: .ref 193 :: .ref 194 :: .int 0 :: .ref 195 :: .ref 196 :: .ref 197 :: .int 0 :: .ref 198 :: .ref 199 :: .ref 200 :: .ref 201 :: .ref 202 :: .ref 203 :: .int 0 :: .ref 204 :: .ref 205 :: .ref 206 :: .ref 207 :: .ref 208 :: .ref 209 :: .ref 210 :: .ref 211 :: .ref 212 :: .ref 213 :: .ref 214 :: .int 0 :: .ref 215 :: .ref 216 :: .int 0 :: .ref 217 :: .ref 218 :: .ref 219 :: .ref 220 :: .ref 221 :: .int 0 :: .int 0 :: .int 0 :: .int 0 :: .ref 222 :: .int 0 :: [])))] mv_X9_223 rfl rfl rfl (c_X9_cuts_465 rfl) rfl dX9_cutsAll_70 (Nat.le_of_ble_eq_true rfl) (Nat.le_of_ble_eq_true rfl) rfl (Nat.le_of_ble_eq_true rfl) (Nat.le_of_ble_eq_true rfl) (Nat.le_of_ble_eq_true rfl) rfl ?_
  refine ao_put C [(181, .inr (9, (.int 1 :: .ref 182 :: .ref 183 :: .ref 184 :: .ref 185 :: .int 0 :: .int 0 :: .int 1 :: .ref 186 :: .int 0 :: .int 0 :: .int 0 :: .int (-1) :: .ref 187 :: .ref 188 :: .ref 189 :: .int 0 :: .ref 190 :: .ref 191 :: .ref 192 :: .ref 193 :: .ref 194 :: .int 0 :: .ref 195 :: .ref 196 :: .ref 197 :: .int 0 :: .ref 198 :: .ref 199 :: .ref 200 :: .ref 201 :: .ref 202 :: .ref 203 :: .int 0 :: .ref 204 :: .ref 205 :: .ref 206 :: .ref 207 :: .ref 208 :: .ref 209 :: .ref 210 :: .ref 211 :: .ref 212 :: .ref 213 :: .ref 214 :: .int 0 :: .ref 215 :: .ref 216 :: .int 0 :: .ref 217 :: .ref 218 :: .ref 219 :: .ref 220 :: .ref 221 :: .int 0 :: .int 0 :: .int 0 :: .int 0 :: .ref 222 :: .int 0 :: [])))] gf_X9_227 cf9 nf9_22 rfl (Nat.le_of_ble_eq_true rfl) rfl rfl dX9_cutsAll_73 rfl ?_
  refine aw_iconst C 0 dX9_cutsAll_76 ki_0 ?_
  refine aw_istore_n C dX9_cutsAll_77 (by decide) rfl ?_
  refine aw_nl [some (.ref 181), some (.int 0), none, none, none] rfl ?_
  refine aw_iload_n C dX9_cutsAll_78 rfl ?_
  refine aw_ald_n C dX9_cutsAll_79 rfl ?_
  refine aw_get C gf_X9_227 rfl rfl dX9_cutsAll_80 ?_
  refine aw_icmp_ge C 339 dX9_cutsAll_83 (by decide) (fun _ => ?_) (fun q => absurd (by decide) q)
  exact aw_vret C rfl dX9_cutsAll_339 (Nat.le_of_ble_eq_true rfl) (Nat.le_of_ble_eq_true rfl) ⟨rfl, rfl, rfl⟩

set_option maxHeartbeats 4000000 in
set_option maxRecDepth 100000 in
theorem c_X9_cutsFile_467 {X : GX} {l : Launch} {f : AH} {n : Nat} {g182dx182 : Nat → Int32} (h181 : f 181 = some (.inr (9, (.int 1 :: .ref 182 :: .ref 183 :: .ref 184 :: .ref 185 :: .int 0 :: .int 0 :: .int 1 :: .ref 186 :: .int 0 :: .int 0 :: .int 0 :: .int (-1) :: .ref 187 :: .ref 188 :: .ref 189 :: .int 0 :: .ref 190 :: .ref 191 :: .ref 192 :: .ref 193 :: .ref 194 :: .int 0 :: .ref 195 :: .ref 196 :: .ref 197 :: .int 0 :: .ref 198 :: .ref 199 :: .ref 200 :: .ref 201 :: .ref 202 :: .ref 203 :: .int 0 :: .ref 204 :: .ref 205 :: .ref 206 :: .ref 207 :: .ref 208 :: .ref 209 :: .ref 210 :: .ref 211 :: .ref 212 :: .ref 213 :: .ref 214 :: .int 0 :: .ref 215 :: .ref 216 :: .int 0 :: .ref 217 :: .ref 218 :: .ref 219 :: .ref 220 :: .ref 221 :: .int 0 :: .int 0 :: .int 0 :: .int 0 :: .ref 222 :: .int 0 :: [])))) (h182 : f 182 = some (.inl (0, 4347, .inl (cpy (cpy (tl (upd (upd (fun _ => 0) 2 (-1)) 4 1) 40) (fun _ => 0) 4347) g182dx182 4347)))) : AM X l yX9_cutsFile cX9_cutsFile 2 none 3 0 0 [.ref 181] f n (EXO f [(181, .inr (9, (.int 1 :: .ref 182 :: .ref 183 :: .ref 184 :: .ref 185 :: .int 0 :: .int 0 :: .int 1 :: .ref 186 :: .int 0 :: .int 0 :: .int 0 :: .int (-1) :: .ref 187 :: .ref 188 :: .ref 189 :: .int 0 :: .ref 190 :: .ref 191 :: .ref 192 :: .ref 193 :: .ref 194 :: .int 0 :: .ref 195 :: .ref 196 :: .ref 197 :: .int 0 :: .ref 198 :: .ref 199 :: .ref 200 :: .ref 201 :: .ref 202 :: .ref 203 :: .int 0 :: .ref 204 :: .ref 205 :: .ref 206 :: .ref 207 :: .ref 208 :: .ref 209 :: .ref 210 :: .ref 211 :: .ref 212 :: .ref 213 :: .ref 214 :: .int 0 :: .ref 215 :: .ref 216 :: .int 0 :: .ref 217 :: .ref 218 :: .ref 219 :: .ref 220 :: .ref 221 :: .int 0 :: .int 0 :: .int 0 :: .int 0 :: .ref 222 :: .int 0 :: [])))] none n) := by
  refine AM.of (by decide +kernel) rfl (by decide) (fun p e s m args below meth c C hnm => ?_)
  refine ao_start ?_
  refine aw_nl [some (.ref 181), none] rfl ?_
  refine aw_ald_n C dX9_cutsFile_0 rfl ?_
  refine aw_ald_n C dX9_cutsFile_1 rfl ?_
  refine aw_get C gf_X9_7 h181 rfl dX9_cutsFile_2 ?_
  refine aw_iconst C 0 dX9_cutsFile_5 ki_0 ?_
  refine ao_iald C 0 h182 (by unfold vp_in; decide) (by decide : _ = 0) rfl dX9_cutsFile_6 ?_
  refine ao_put C [(181, .inr (9, (.int 1 :: .ref 182 :: .ref 183 :: .ref 184 :: .ref 185 :: .int 0 :: .int 0 :: .int 1 :: .ref 186 :: .int 0 :: .int 0 :: .int 0 :: .int (-1) :: .ref 187 :: .ref 188 :: .ref 189 :: .int 0 :: .ref 190 :: .ref 191 :: .ref 192 :: .ref 193 :: .ref 194 :: .int 0 :: .ref 195 :: .ref 196 :: .ref 197 :: .int 0 :: .ref 198 :: .ref 199 :: .ref 200 :: .ref 201 :: .ref 202 :: .ref 203 :: .int 0 :: .ref 204 :: .ref 205 :: .ref 206 :: .ref 207 :: .ref 208 :: .ref 209 :: .ref 210 :: .ref 211 :: .ref 212 :: .ref 213 :: .ref 214 :: .int 0 :: .ref 215 :: .ref 216 :: .int 0 :: .ref 217 :: .ref 218 :: .ref 219 :: .ref 220 :: .ref 221 :: .int 0 :: .int 0 :: .int 0 :: .int 0 :: .ref 222 :: .int 0 :: [])))] gf_X9_220 cf9 nf9_16 h181 (Nat.le_of_ble_eq_true rfl) rfl rfl dX9_cutsFile_7 rfl ?_
  refine aw_iconst C 0 dX9_cutsFile_10 ki_0 ?_
  refine aw_istore_n C dX9_cutsFile_11 (by decide) rfl ?_
  refine aw_nl [some (.ref 181), some (.int 0)] rfl ?_
  refine aw_iload_n C dX9_cutsFile_12 rfl ?_
  refine aw_ald_n C dX9_cutsFile_13 rfl ?_
  refine aw_get C gf_X9_220 rfl rfl dX9_cutsFile_14 ?_
  refine aw_icmp_ge C 41 dX9_cutsFile_17 (by decide) (fun _ => ?_) (fun q => absurd (by decide) q)
  refine aw_ald_n C dX9_cutsFile_41 rfl ?_
  refine ao_callV C (ci := 9) (b := 181) [] [(181, .inr (9, (.int 1 :: .ref 182 :: .ref 183 :: .ref 184 :: .ref 185 :: .int 0 :: .int 0 :: .int 1 :: .ref 186 :: .int 0 :: .int 0 :: .int 0 :: .int (-1) :: .ref 187 :: .ref 188 :: .ref 189 :: .int 0 :: .ref 190 :: .ref 191 :: .ref 192 :: .ref 193 :: .ref 194 :: .int 0 :: .ref 195 :: .ref 196 :: .ref 197 :: .int 0 :: .ref 198 :: .ref 199 :: .ref 200 :: .ref 201 :: .ref 202 :: .ref 203 :: .int 0 :: .ref 204 :: .ref 205 :: .ref 206 :: .ref 207 :: .ref 208 :: .ref 209 :: .ref 210 :: .ref 211 :: .ref 212 :: .ref 213 :: .ref 214 :: .int 0 :: .ref 215 :: .ref 216 :: .int 0 :: .ref 217 :: .ref 218 :: .ref 219 :: .ref 220 :: .ref 221 :: .int 0 :: .int 0 :: .int 0 :: .int 0 :: .ref 222 :: .int 0 :: [])))] mv_X9_241 rfl rfl rfl (c_X9_cutsAll_466 rfl h182) rfl dX9_cutsFile_42 (Nat.le_of_ble_eq_true rfl) (Nat.le_of_ble_eq_true rfl) rfl (Nat.le_of_ble_eq_true rfl) (Nat.le_of_ble_eq_true rfl) (Nat.le_of_ble_eq_true rfl) rfl ?_
  exact aw_vret C rfl dX9_cutsFile_45 (Nat.le_of_ble_eq_true rfl) (Nat.le_of_ble_eq_true rfl) ⟨rfl, rfl, rfl⟩

set_option maxHeartbeats 4000000 in
set_option maxRecDepth 100000 in
theorem c_X9_putsBack_468 {X : GX} {l : Launch} {f : AH} {n : Nat} {g182 : Nat → Int32} (h181 : f 181 = some (.inr (9, (.int 1 :: .ref 182 :: .ref 183 :: .ref 184 :: .ref 185 :: .int 0 :: .int 0 :: .int 1 :: .ref 186 :: .int 0 :: .int 0 :: .int 0 :: .int (-1) :: .ref 187 :: .ref 188 :: .ref 189 :: .int 0 :: .ref 190 :: .ref 191 :: .ref 192 :: .ref 193 :: .ref 194 :: .int 0 :: .ref 195 :: .ref 196 :: .ref 197 :: .int 0 :: .ref 198 :: .ref 199 :: .ref 200 :: .ref 201 :: .ref 202 :: .ref 203 :: .int 0 :: .ref 204 :: .ref 205 :: .ref 206 :: .ref 207 :: .ref 208 :: .ref 209 :: .ref 210 :: .ref 211 :: .ref 212 :: .ref 213 :: .ref 214 :: .int 0 :: .ref 215 :: .ref 216 :: .int 0 :: .ref 217 :: .ref 218 :: .ref 219 :: .ref 220 :: .ref 221 :: .int 0 :: .int 0 :: .int 0 :: .int 0 :: .ref 222 :: .int 0 :: [])))) (h182 : f 182 = some (.inl (0, 4347, .inl g182))) (h183 : f 183 = some (.inl (0, 4347, .inl (cpy (tl (upd (upd (fun _ => 0) 2 (-1)) 4 1) 40) (fun _ => 0) 4347)))) : AM X l yX9_putsBack cX9_putsBack 2 none 4 0 0 [.ref 181] f n (EXO f [(182, .inl (0, 4347, .inl (cpy (cpy (tl (upd (upd (fun _ => 0) 2 (-1)) 4 1) 40) (fun _ => 0) 4347) g182 4347))), (181, .inr (9, (.int 1 :: .ref 182 :: .ref 183 :: .ref 184 :: .ref 185 :: .int 0 :: .int 0 :: .int 1 :: .ref 186 :: .int 0 :: .int 0 :: .int 0 :: .int (-1) :: .ref 187 :: .ref 188 :: .ref 189 :: .int 0 :: .ref 190 :: .ref 191 :: .ref 192 :: .ref 193 :: .ref 194 :: .int 0 :: .ref 195 :: .ref 196 :: .ref 197 :: .int 0 :: .ref 198 :: .ref 199 :: .ref 200 :: .ref 201 :: .ref 202 :: .ref 203 :: .int 0 :: .ref 204 :: .ref 205 :: .ref 206 :: .ref 207 :: .ref 208 :: .ref 209 :: .ref 210 :: .ref 211 :: .ref 212 :: .ref 213 :: .ref 214 :: .int 0 :: .ref 215 :: .ref 216 :: .int 0 :: .ref 217 :: .ref 218 :: .ref 219 :: .ref 220 :: .ref 221 :: .int 0 :: .int 0 :: .int 0 :: .int 0 :: .ref 222 :: .int 0 :: [])))] none n) := by
  refine AM.of (by decide +kernel) rfl (by decide) (fun p e s m args below meth c C hnm => ?_)
  refine ao_start ?_
  refine aw_nl [some (.ref 181), none] rfl ?_
  refine aw_iconst C 0 dX9_putsBack_0 ki_0 ?_
  refine aw_istore_n C dX9_putsBack_1 (by decide) rfl ?_
  refine aw_nl [some (.ref 181), some (.int 0)] rfl ?_
  refine lp_X9_putsBack C (M := 181) (a := 182) (b := 183) (fs := (.int 1 :: .ref 182 :: .ref 183 :: .ref 184 :: .ref 185 :: .int 0 :: .int 0 :: .int 1 :: .ref 186 :: .int 0 :: .int 0 :: .int 0 :: .int (-1) :: .ref 187 :: .ref 188 :: .ref 189 :: .int 0 :: .ref 190 :: .ref 191 :: .ref 192 :: .ref 193 :: .ref 194 :: .int 0 :: .ref 195 :: .ref 196 :: .ref 197 :: .int 0 :: .ref 198 :: .ref 199 :: .ref 200 :: .ref 201 :: .ref 202 :: .ref 203 :: .int 0 :: .ref 204 :: .ref 205 :: .ref 206 :: .ref 207 :: .ref 208 :: .ref 209 :: .ref 210 :: .ref 211 :: .ref 212 :: .ref 213 :: .ref 214 :: .int 0 :: .ref 215 :: .ref 216 :: .int 0 :: .ref 217 :: .ref 218 :: .ref 219 :: .ref 220 :: .ref 221 :: .int 0 :: .int 0 :: .int 0 :: .int 0 :: .ref 222 :: .int 0 :: [])) (g := g182) (src := cpy (tl (upd (upd (fun _ => 0) 2 (-1)) 4 1) 40) (fun _ => 0) 4347) [(182, .inl (0, 4347, .inl (cpy (cpy (tl (upd (upd (fun _ => 0) 2 (-1)) 4 1) 40) (fun _ => 0) 4347) g182 4347)))] h181 rfl rfl (by decide) (by decide) h182 h183 rfl ?_
  refine aw_ald_n C dX9_putsBack_27 rfl ?_
  refine ao_callV C (ci := 9) (b := 181) [] [(182, .inl (0, 4347, .inl (cpy (cpy (tl (upd (upd (fun _ => 0) 2 (-1)) 4 1) 40) (fun _ => 0) 4347) g182 4347))), (181, .inr (9, (.int 1 :: .ref 182 :: .ref 183 :: .ref 184 :: .ref 185 :: .int 0 :: .int 0 :: .int 1 :: .ref 186 :: .int 0 :: .int 0 :: .int 0 :: .int (-1) :: .ref 187 :: .ref 188 :: .ref 189 :: .int 0 :: .ref 190 :: .ref 191 :: .ref 192 :: .ref 193 :: .ref 194 :: .int 0 :: .ref 195 :: .ref 196 :: .ref 197 :: .int 0 :: .ref 198 :: .ref 199 :: .ref 200 :: .ref 201 :: .ref 202 :: .ref 203 :: .int 0 :: .ref 204 :: .ref 205 :: .ref 206 :: .ref 207 :: .ref 208 :: .ref 209 :: .ref 210 :: .ref 211 :: .ref 212 :: .ref 213 :: .ref 214 :: .int 0 :: .ref 215 :: .ref 216 :: .int 0 :: .ref 217 :: .ref 218 :: .ref 219 :: .ref 220 :: .ref 221 :: .int 0 :: .int 0 :: .int 0 :: .int 0 :: .ref 222 :: .int 0 :: [])))] mv_X9_244 rfl rfl h181 (c_X9_cutsFile_467 h181 rfl) rfl dX9_putsBack_28 (Nat.le_of_ble_eq_true rfl) (Nat.le_of_ble_eq_true rfl) rfl (Nat.le_of_ble_eq_true rfl) (Nat.le_of_ble_eq_true rfl) (Nat.le_of_ble_eq_true rfl) rfl ?_
  exact aw_vret C rfl dX9_putsBack_31 (Nat.le_of_ble_eq_true rfl) (Nat.le_of_ble_eq_true rfl) ⟨rfl, rfl, rfl⟩

set_option maxHeartbeats 4000000 in
set_option maxRecDepth 100000 in
theorem c_X9_isDone_469 {X : GX} {l : Launch} {f : AH} {n : Nat} {g182 : Nat → Int32} (h181 : f 181 = some (.inr (9, (.int 0 :: .ref 182 :: .ref 183 :: .ref 184 :: .ref 185 :: .int 0 :: .int 0 :: .int 0 :: .ref 186 :: .int 0 :: .int 0 :: .int 0 :: .int (-1) :: .ref 187 :: .ref 188 :: .ref 189 :: .int 0 :: .ref 190 :: .ref 191 :: .ref 192 :: .ref 193 :: .ref 194 :: .int 0 :: .ref 195 :: .ref 196 :: .ref 197 :: .int 0 :: .ref 198 :: .ref 199 :: .ref 200 :: .ref 201 :: .ref 202 :: .ref 203 :: .int 0 :: .ref 204 :: .ref 205 :: .ref 206 :: .ref 207 :: .ref 208 :: .ref 209 :: .ref 210 :: .ref 211 :: .ref 212 :: .ref 213 :: .ref 214 :: .int 0 :: .ref 215 :: .ref 216 :: .int 0 :: .ref 217 :: .ref 218 :: .ref 219 :: .ref 220 :: .ref 221 :: .int 0 :: .int 0 :: .int 0 :: .int 0 :: .ref 222 :: .int 0 :: [])))) (h182 : f 182 = some (.inl (0, 4347, .inl g182))) (h183 : f 183 = some (.inl (0, 4347, .inl (cpy (tl (upd (upd (fun _ => 0) 2 (-1)) 4 1) 40) (fun _ => 0) 4347)))) : AM X l yX9_isDone cX9_isDone 3 (some .boolean) 5 0 0 [.ref 181, .int 1, .int 1] f n (EXO f [(181, .inr (9, (.int 1 :: .ref 182 :: .ref 183 :: .ref 184 :: .ref 185 :: .int 0 :: .int 0 :: .int 1 :: .ref 186 :: .int 0 :: .int 0 :: .int 0 :: .int (-1) :: .ref 187 :: .ref 188 :: .ref 189 :: .int 0 :: .ref 190 :: .ref 191 :: .ref 192 :: .ref 193 :: .ref 194 :: .int 0 :: .ref 195 :: .ref 196 :: .ref 197 :: .int 0 :: .ref 198 :: .ref 199 :: .ref 200 :: .ref 201 :: .ref 202 :: .ref 203 :: .int 0 :: .ref 204 :: .ref 205 :: .ref 206 :: .ref 207 :: .ref 208 :: .ref 209 :: .ref 210 :: .ref 211 :: .ref 212 :: .ref 213 :: .ref 214 :: .int 0 :: .ref 215 :: .ref 216 :: .int 0 :: .ref 217 :: .ref 218 :: .ref 219 :: .ref 220 :: .ref 221 :: .int 0 :: .int 0 :: .int 0 :: .int 0 :: .ref 222 :: .int 0 :: []))), (182, .inl (0, 4347, .inl (cpy (cpy (tl (upd (upd (fun _ => 0) 2 (-1)) 4 1) 40) (fun _ => 0) 4347) g182 4347)))] (some (.int 0)) n) := by
  refine AM.of (by decide +kernel) rfl (by decide) (fun p e s m args below meth c C hnm => ?_)
  refine ao_start ?_
  refine aw_nl [some (.ref 181), some (.int 1), some (.int 1)] rfl ?_
  refine aw_ald_n C dX9_isDone_0 rfl ?_
  refine aw_iload_n C dX9_isDone_1 rfl ?_
  refine ao_put C [(181, .inr (9, (.int 0 :: .ref 182 :: .ref 183 :: .ref 184 :: .ref 185 :: .int 0 :: .int 0 :: .int 1 :: .ref 186 :: .int 0 :: .int 0 :: .int 0 :: .int (-1) :: .ref 187 :: .ref 188 :: .ref 189 :: .int 0 :: .ref 190 :: .ref 191 :: .ref 192 :: .ref 193 :: .ref 194 :: .int 0 :: .ref 195 :: .ref 196 :: .ref 197 :: .int 0 :: .ref 198 :: .ref 199 :: .ref 200 :: .ref 201 :: .ref 202 :: .ref 203 :: .int 0 :: .ref 204 :: .ref 205 :: .ref 206 :: .ref 207 :: .ref 208 :: .ref 209 :: .ref 210 :: .ref 211 :: .ref 212 :: .ref 213 :: .ref 214 :: .int 0 :: .ref 215 :: .ref 216 :: .int 0 :: .ref 217 :: .ref 218 :: .ref 219 :: .ref 220 :: .ref 221 :: .int 0 :: .int 0 :: .int 0 :: .int 0 :: .ref 222 :: .int 0 :: [])))] gf_X9_328 cf9 nf9_7 h181 (Nat.le_of_ble_eq_true rfl) rfl rfl dX9_isDone_2 rfl ?_
  refine aw_ald_n C dX9_isDone_5 rfl ?_
  refine aw_iload_n C dX9_isDone_6 rfl ?_
  refine aw_if_le C 14 dX9_isDone_7 (by decide) (fun q => absurd q (by decide)) (fun _ => ?_)
  refine aw_iload_n C dX9_isDone_10 rfl ?_
  refine aw_goto C 15 dX9_isDone_11 (by decide) ?_
  refine ao_put C [(181, .inr (9, (.int 1 :: .ref 182 :: .ref 183 :: .ref 184 :: .ref 185 :: .int 0 :: .int 0 :: .int 1 :: .ref 186 :: .int 0 :: .int 0 :: .int 0 :: .int (-1) :: .ref 187 :: .ref 188 :: .ref 189 :: .int 0 :: .ref 190 :: .ref 191 :: .ref 192 :: .ref 193 :: .ref 194 :: .int 0 :: .ref 195 :: .ref 196 :: .ref 197 :: .int 0 :: .ref 198 :: .ref 199 :: .ref 200 :: .ref 201 :: .ref 202 :: .ref 203 :: .int 0 :: .ref 204 :: .ref 205 :: .ref 206 :: .ref 207 :: .ref 208 :: .ref 209 :: .ref 210 :: .ref 211 :: .ref 212 :: .ref 213 :: .ref 214 :: .int 0 :: .ref 215 :: .ref 216 :: .int 0 :: .ref 217 :: .ref 218 :: .ref 219 :: .ref 220 :: .ref 221 :: .int 0 :: .int 0 :: .int 0 :: .int 0 :: .ref 222 :: .int 0 :: [])))] gf_X9_138 cf9 nf9_0 rfl (Nat.le_of_ble_eq_true rfl) rfl rfl dX9_isDone_15 rfl ?_
  refine aw_iload_n C dX9_isDone_18 rfl ?_
  refine aw_if_ne C 29 dX9_isDone_19 (by decide) (fun _ => ?_) (fun q => absurd q (by decide))
  refine aw_ald_n C dX9_isDone_29 rfl ?_
  refine ao_callV C (ci := 9) (b := 181) [] [(181, .inr (9, (.int 1 :: .ref 182 :: .ref 183 :: .ref 184 :: .ref 185 :: .int 0 :: .int 0 :: .int 1 :: .ref 186 :: .int 0 :: .int 0 :: .int 0 :: .int (-1) :: .ref 187 :: .ref 188 :: .ref 189 :: .int 0 :: .ref 190 :: .ref 191 :: .ref 192 :: .ref 193 :: .ref 194 :: .int 0 :: .ref 195 :: .ref 196 :: .ref 197 :: .int 0 :: .ref 198 :: .ref 199 :: .ref 200 :: .ref 201 :: .ref 202 :: .ref 203 :: .int 0 :: .ref 204 :: .ref 205 :: .ref 206 :: .ref 207 :: .ref 208 :: .ref 209 :: .ref 210 :: .ref 211 :: .ref 212 :: .ref 213 :: .ref 214 :: .int 0 :: .ref 215 :: .ref 216 :: .int 0 :: .ref 217 :: .ref 218 :: .ref 219 :: .ref 220 :: .ref 221 :: .int 0 :: .int 0 :: .int 0 :: .int 0 :: .ref 222 :: .int 0 :: []))), (182, .inl (0, 4347, .inl (cpy (cpy (tl (upd (upd (fun _ => 0) 2 (-1)) 4 1) 40) (fun _ => 0) 4347) g182 4347)))] mv_X9_334 rfl rfl rfl (c_X9_putsBack_468 rfl h182 h183) rfl dX9_isDone_30 (Nat.le_of_ble_eq_true rfl) (Nat.le_of_ble_eq_true rfl) rfl (Nat.le_of_ble_eq_true rfl) (Nat.le_of_ble_eq_true rfl) (Nat.le_of_ble_eq_true rfl) rfl ?_
  refine aw_iload_n C dX9_isDone_33 rfl ?_
  refine aw_if_ne C 41 dX9_isDone_34 (by decide) (fun _ => ?_) (fun q => absurd q (by decide))
  refine aw_iconst C 0 dX9_isDone_41 ki_0 ?_
  exact aw_iret C rfl (by decide) dX9_isDone_42 (Nat.le_of_ble_eq_true rfl) (Nat.le_of_ble_eq_true rfl) ⟨rfl, rfl, rfl⟩

set_option maxHeartbeats 4000000 in
set_option maxRecDepth 100000 in
theorem c_X9_free_470 {X : GX} {l : Launch} {f : AH} {n : Nat} {a1 : Int32} (q0 : (-2147483648) ≤ a1.toInt ∧ a1.toInt ≤ (-1)) (h181 : f 181 = some (.inr (9, (.int 0 :: .ref 182 :: .ref 183 :: .ref 184 :: .ref 185 :: .int 0 :: .int 0 :: .int 0 :: .ref 186 :: .int 0 :: .int 0 :: .int 0 :: .int (-1) :: .ref 187 :: .ref 188 :: .ref 189 :: .int 0 :: .ref 190 :: .ref 191 :: .ref 192 :: .ref 193 :: .ref 194 :: .int 0 :: .ref 195 :: .ref 196 :: .ref 197 :: .int 0 :: .ref 198 :: .ref 199 :: .ref 200 :: .ref 201 :: .ref 202 :: .ref 203 :: .int 0 :: .ref 204 :: .ref 205 :: .ref 206 :: .ref 207 :: .ref 208 :: .ref 209 :: .ref 210 :: .ref 211 :: .ref 212 :: .ref 213 :: .ref 214 :: .int 0 :: .ref 215 :: .ref 216 :: .int 0 :: .ref 217 :: .ref 218 :: .ref 219 :: .ref 220 :: .ref 221 :: .int 0 :: .int 0 :: .int 0 :: .int 0 :: .ref 222 :: .int 0 :: [])))) (h183 : f 183 = some (.inl (0, 4347, .inl (fun _ => 0)))) (h182 : f 182 = some (.inl (0, 4347, .inl (tl (upd (upd (fun _ => 0) 2 (-1)) 4 1) 40)))) : AM X l yX9_free cX9_free 2 (some .int) 6 0 0 [.ref 181, .int a1] f n (EXO f [(183, .inl (0, 4347, .inl (cpy (tl (upd (upd (fun _ => 0) 2 (-1)) 4 1) 40) (fun _ => 0) 4347))), (182, .inl (0, 4347, .inl (cpy (cpy (tl (upd (upd (fun _ => 0) 2 (-1)) 4 1) 40) (fun _ => 0) 4347) (tl (upd (upd (fun _ => 0) 2 (-1)) 4 1) 40) 4347))), (181, .inr (9, (.int 1 :: .ref 182 :: .ref 183 :: .ref 184 :: .ref 185 :: .int 0 :: .int 0 :: .int 1 :: .ref 186 :: .int 0 :: .int 0 :: .int 0 :: .int (-1) :: .ref 187 :: .ref 188 :: .ref 189 :: .int 0 :: .ref 190 :: .ref 191 :: .ref 192 :: .ref 193 :: .ref 194 :: .int 0 :: .ref 195 :: .ref 196 :: .ref 197 :: .int 0 :: .ref 198 :: .ref 199 :: .ref 200 :: .ref 201 :: .ref 202 :: .ref 203 :: .int 0 :: .ref 204 :: .ref 205 :: .ref 206 :: .ref 207 :: .ref 208 :: .ref 209 :: .ref 210 :: .ref 211 :: .ref 212 :: .ref 213 :: .ref 214 :: .int 0 :: .ref 215 :: .ref 216 :: .int 0 :: .ref 217 :: .ref 218 :: .ref 219 :: .ref 220 :: .ref 221 :: .int 0 :: .int 0 :: .int 0 :: .int 0 :: .ref 222 :: .int 0 :: [])))] (some (.int 0)) n) := by
  refine AM.of (by decide +kernel) rfl (Nat.le_of_ble_eq_true rfl) (fun p e s m args below meth c C hnm => ?_)
  refine ao_start ?_
  refine aw_nl [some (.ref 181), some (.int a1)] rfl ?_
  obtain ⟨q0a, q0b⟩ := q0
  refine aw_ald_n C dX9_free_0 rfl ?_
  refine ao_callV C (ci := 9) (b := 181) [] [(183, .inl (0, 4347, .inl (cpy (tl (upd (upd (fun _ => 0) 2 (-1)) 4 1) 40) (fun _ => 0) 4347)))] mv_X9_420 rfl rfl h181 (c_X9_putsAside_173 h181 h183 h182) rfl dX9_free_1 (Nat.le_of_ble_eq_true rfl) (Nat.le_of_ble_eq_true rfl) rfl (Nat.le_of_ble_eq_true rfl) (Nat.le_of_ble_eq_true rfl) (Nat.le_of_ble_eq_true rfl) rfl ?_
  refine aw_ald_n C dX9_free_4 rfl ?_
  refine aw_ald_n C dX9_free_5 rfl ?_
  refine aw_iload_n C dX9_free_6 rfl ?_
  refine ao_callV C (ci := 9) (b := 181) [.int a1] [(183, .inl (0, 4347, .inl (cpy (tl (upd (upd (fun _ => 0) 2 (-1)) 4 1) 40) (fun _ => 0) 4347)))] mv_X9_367 rfl rfl h181 (c_X9_free0_464 ⟨by omega, by omega⟩ h181) rfl dX9_free_7 (Nat.le_of_ble_eq_true rfl) (Nat.le_of_ble_eq_true rfl) rfl (Nat.le_of_ble_eq_true rfl) (Nat.le_of_ble_eq_true rfl) (Nat.le_of_ble_eq_true rfl) rfl ?_
  refine aw_iconst C 1 dX9_free_10 ki_1 ?_
  refine ao_callV C (ci := 9) (b := 181) [.int 1, .int 1] [(183, .inl (0, 4347, .inl (cpy (tl (upd (upd (fun _ => 0) 2 (-1)) 4 1) 40) (fun _ => 0) 4347))), (182, .inl (0, 4347, .inl (cpy (cpy (tl (upd (upd (fun _ => 0) 2 (-1)) 4 1) 40) (fun _ => 0) 4347) (tl (upd (upd (fun _ => 0) 2 (-1)) 4 1) 40) 4347))), (181, .inr (9, (.int 1 :: .ref 182 :: .ref 183 :: .ref 184 :: .ref 185 :: .int 0 :: .int 0 :: .int 1 :: .ref 186 :: .int 0 :: .int 0 :: .int 0 :: .int (-1) :: .ref 187 :: .ref 188 :: .ref 189 :: .int 0 :: .ref 190 :: .ref 191 :: .ref 192 :: .ref 193 :: .ref 194 :: .int 0 :: .ref 195 :: .ref 196 :: .ref 197 :: .int 0 :: .ref 198 :: .ref 199 :: .ref 200 :: .ref 201 :: .ref 202 :: .ref 203 :: .int 0 :: .ref 204 :: .ref 205 :: .ref 206 :: .ref 207 :: .ref 208 :: .ref 209 :: .ref 210 :: .ref 211 :: .ref 212 :: .ref 213 :: .ref 214 :: .int 0 :: .ref 215 :: .ref 216 :: .int 0 :: .ref 217 :: .ref 218 :: .ref 219 :: .ref 220 :: .ref 221 :: .int 0 :: .int 0 :: .int 0 :: .int 0 :: .ref 222 :: .int 0 :: [])))] mv_X9_429 rfl rfl h181 (c_X9_isDone_469 h181 h182 rfl) rfl dX9_free_11 (Nat.le_of_ble_eq_true rfl) (Nat.le_of_ble_eq_true rfl) rfl (Nat.le_of_ble_eq_true rfl) (Nat.le_of_ble_eq_true rfl) (Nat.le_of_ble_eq_true rfl) rfl ?_
  refine aw_if_eq C 24 dX9_free_14 (by decide) (fun _ => ?_) (fun q => absurd (by decide) q)
  refine aw_iconst C 0 dX9_free_24 ki_0 ?_
  exact aw_iret C rfl rfl dX9_free_25 (Nat.le_of_ble_eq_true rfl) (Nat.le_of_ble_eq_true rfl) ⟨rfl, rfl, rfl⟩

set_option maxHeartbeats 4000000 in
set_option maxRecDepth 100000 in
theorem c_X9_thrown_471 {X : GX} {l : Launch} {f : AH} {n : Nat} (h181 : f 181 = some (.inr (9, (.int 1 :: .ref 182 :: .ref 183 :: .ref 184 :: .ref 185 :: .int 0 :: .int 0 :: .int 1 :: .ref 186 :: .int 0 :: .int 0 :: .int 0 :: .int (-1) :: .ref 187 :: .ref 188 :: .ref 189 :: .int 0 :: .ref 190 :: .ref 191 :: .ref 192 :: .ref 193 :: .ref 194 :: .int 0 :: .ref 195 :: .ref 196 :: .ref 197 :: .int 0 :: .ref 198 :: .ref 199 :: .ref 200 :: .ref 201 :: .ref 202 :: .ref 203 :: .int 0 :: .ref 204 :: .ref 205 :: .ref 206 :: .ref 207 :: .ref 208 :: .ref 209 :: .ref 210 :: .ref 211 :: .ref 212 :: .ref 213 :: .ref 214 :: .int 0 :: .ref 215 :: .ref 216 :: .int 0 :: .ref 217 :: .ref 218 :: .ref 219 :: .ref 220 :: .ref 221 :: .int 0 :: .int 0 :: .int 0 :: .int 0 :: .ref 222 :: .int 0 :: [])))) : AM X l yX9_thrown cX9_thrown 1 (some .int) 0 0 0 [.ref 181] f n (EXO f [] (some (.int 1)) n) := by
  refine AM.of (by decide +kernel) rfl (by decide) (fun p e s m args below meth c C hnm => ?_)
  refine ao_start ?_
  refine aw_nl [some (.ref 181)] rfl ?_
  refine aw_ald_n C dX9_thrown_0 rfl ?_
  refine aw_get C gf_X9_138 h181 rfl dX9_thrown_1 ?_
  exact aw_iret C rfl rfl dX9_thrown_4 (Nat.le_of_ble_eq_true rfl) (Nat.le_of_ble_eq_true rfl) ⟨rfl, rfl, rfl⟩

set_option maxHeartbeats 4000000 in
set_option maxRecDepth 100000 in
theorem c_X8_freePiece_472 {X : GX} {l : Launch} {f : AH} {n : Nat} {a1 : Int32} (q0 : 0 ≤ a1.toInt ∧ a1.toInt ≤ 2147483647) (h0 : f 0 = some (.inr (8, [.ref 1, .ref 3, .ref 8, .ref 13, .ref 18, .ref 59, .ref 115, .ref 171, .ref 178, .int 0, .int 0, .int 0, .int 0, .int (-1)]))) (h59 : f 59 = some (.inr (1, [.ref 60, .ref 62, .ref 74, .int 0, .ref 68, .ref 71, .ref 64, .ref 66]))) : AM X l yX8_freePiece cX8_freePiece 2 (some .int) 1 0 0 [.ref 0, .int a1] f n (EXO f [] (some (.int 1)) n) := by
  refine AM.of (by decide +kernel) rfl (Nat.le_of_ble_eq_true rfl) (fun p e s m args below meth c C hnm => ?_)
  refine ao_start ?_
  refine aw_nl [some (.ref 0), some (.int a1)] rfl ?_
  obtain ⟨q0a, q0b⟩ := q0
  refine aw_ald_n C dX8_freePiece_0 rfl ?_
  refine aw_get C gf_X8_38 h0 rfl dX8_freePiece_1 ?_
  refine aw_iload_n C dX8_freePiece_4 rfl ?_
  refine ao_callV C (ci := 1) (b := 59) [.int a1] [] mv_X8_241 rfl rfl h59 (c_X1_get_451 ⟨by omega, by omega⟩ h59) rfl dX8_freePiece_5 (Nat.le_of_ble_eq_true rfl) (Nat.le_of_ble_eq_true rfl) rfl (Nat.le_of_ble_eq_true rfl) (Nat.le_of_ble_eq_true rfl) (Nat.le_of_ble_eq_true rfl) rfl ?_
  refine aw_ifnonnull_n C 13 dX8_freePiece_8 (by decide) ?_
  refine aw_iconst C 1 dX8_freePiece_11 ki_1 ?_
  exact aw_iret C rfl rfl dX8_freePiece_12 (Nat.le_of_ble_eq_true rfl) (Nat.le_of_ble_eq_true rfl) ⟨rfl, rfl, rfl⟩

set_option maxHeartbeats 4000000 in
set_option maxRecDepth 100000 in
theorem c_X8_doAct_473 {X : GX} {l : Launch} {f : AH} {n : Nat} {a2 : Int32} (q0 : 0 ≤ a2.toInt ∧ a2.toInt ≤ 2147483647) (h0 : f 0 = some (.inr (8, [.ref 1, .ref 3, .ref 8, .ref 13, .ref 18, .ref 59, .ref 115, .ref 171, .ref 178, .int 0, .int 0, .int 0, .int 0, .int (-1)]))) (h59 : f 59 = some (.inr (1, [.ref 60, .ref 62, .ref 74, .int 0, .ref 68, .ref 71, .ref 64, .ref 66]))) : AM X l yX8_doAct cX8_doAct 6 (some .int) 2 0 0 [.ref 0, .int 8, .int a2, .int 0, .null] f n (EXO f [(0, .inr (8, [.ref 1, .ref 3, .ref 8, .ref 13, .ref 18, .ref 59, .ref 115, .ref 171, .ref 178, .int 0, .int 0, .int 0, .int 0, .int (-1)]))] (some (.int 1)) n) := by
  refine AM.of (by decide +kernel) rfl (Nat.le_of_ble_eq_true rfl) (fun p e s m args below meth c C hnm => ?_)
  refine ao_start ?_
  refine aw_nl [some (.ref 0), some (.int 8), some (.int a2), some (.int 0), some (.null), none] rfl ?_
  obtain ⟨q0a, q0b⟩ := q0
  refine aw_ald_n C dX8_doAct_0 rfl ?_
  refine aw_iconst C 0 dX8_doAct_1 ki_0 ?_
  refine ao_put C [(0, .inr (8, [.ref 1, .ref 3, .ref 8, .ref 13, .ref 18, .ref 59, .ref 115, .ref 171, .ref 178, .int 0, .int 0, .int 0, .int 0, .int (-1)]))] gf_X8_334 cf8 nf8_10 h0 (Nat.le_of_ble_eq_true rfl) (by decide) (by decide) dX8_doAct_2 rfl ?_
  refine aw_iload_n C dX8_doAct_5 rfl ?_
  refine aw_tabIn C (off := 179) 185 dX8_doAct_6 (by decide) (by decide) (by decide) (by decide) ?_
  refine aw_ald_n C dX8_doAct_185 rfl ?_
  refine aw_iload_n C dX8_doAct_186 rfl ?_
  refine ao_callV C (ci := 8) (b := 0) [.int a2] [(0, .inr (8, [.ref 1, .ref 3, .ref 8, .ref 13, .ref 18, .ref 59, .ref 115, .ref 171, .ref 178, .int 0, .int 0, .int 0, .int 0, .int (-1)]))] mv_X8_341 rfl rfl rfl (c_X8_freePiece_472 ⟨by omega, by omega⟩ rfl h59) rfl dX8_doAct_187 (Nat.le_of_ble_eq_true rfl) (Nat.le_of_ble_eq_true rfl) rfl (Nat.le_of_ble_eq_true rfl) (Nat.le_of_ble_eq_true rfl) (Nat.le_of_ble_eq_true rfl) rfl ?_
  exact aw_iret C rfl rfl dX8_doAct_190 (Nat.le_of_ble_eq_true rfl) (Nat.le_of_ble_eq_true rfl) ⟨rfl, rfl, rfl⟩

set_option maxHeartbeats 4000000 in
set_option maxRecDepth 100000 in
theorem c_X8_free_474 {X : GX} {l : Launch} {f : AH} {n : Nat} {a1 : Int32} (hl0 : l.stackTraces = false) (q0 : 0 ≤ a1.toInt ∧ a1.toInt ≤ 2147483647) (h0 : f 0 = some (.inr (8, [.ref 1, .ref 3, .ref 8, .ref 13, .ref 18, .ref 59, .ref 115, .ref 171, .ref 178, .int 0, .int 0, .int 0, .int 0, .int (-1)]))) (h3 : f 3 = some (.inr (7, [.ref 4, .int 0, .int (-1), .int 0, .int 1, .int 0, .null, .int 0, .ref 6, .ref 7]))) (h8 : f 8 = some (.inr (7, [.ref 9, .int 0, .int (-1), .int 0, .int 1, .int 0, .null, .int 0, .ref 11, .ref 12]))) (h11 : f 11 = some (.inl (2, 4, .inr (.inr (fun _ => none))))) (h6 : f 6 = some (.inl (2, 4, .inr (.inr (fun _ => none))))) (h12 : f 12 = some (.inl (2, 40, .inr (.inr (fun _ => none))))) (h7 : f 7 = some (.inl (2, 40, .inr (.inr (fun _ => none))))) (h59 : f 59 = some (.inr (1, [.ref 60, .ref 62, .ref 74, .int 0, .ref 68, .ref 71, .ref 64, .ref 66]))) : AX X l yX8_free cX8_free 2 (some .int) 7 1 6 [.ref 0, .int a1] f n (fun _ _ _ => False) (TXO eS f [(8, .inr (7, [.ref 4, .int 0, .int (-1), .int 0, .int 1, .int 0, .null, .int 0, .ref 11, .ref 12])), (0, .inr (8, [.ref 1, .ref 3, .ref 8, .ref 13, .ref 18, .ref 59, .ref 115, .ref 171, .ref 178, .int 0, .int 0, .int 0, .int 1, .int (-1)]))] n) := by
  refine AX.of (by decide +kernel) rfl (Nat.le_of_ble_eq_true rfl) (fun p e s m args below meth c C htab => ?_)
  refine ao_start ?_
  refine aw_nl [some (.ref 0), some (.int a1)] rfl ?_
  obtain ⟨q0a, q0b⟩ := q0
  refine aw_ald_n C dX8_free_0 rfl ?_
  refine aw_get C gf_X8_25 h0 rfl dX8_free_1 ?_
  refine aw_ald_n C dX8_free_4 rfl ?_
  refine aw_get C gf_X8_21 h0 rfl dX8_free_5 ?_
  refine ao_callV C (ci := 7) (b := 8) [.ref 3] [(8, .inr (7, [.ref 4, .int 0, .int (-1), .int 0, .int 1, .int 0, .null, .int 0, .ref 11, .ref 12]))] mv_X8_73 rfl rfl h8 (c_X7_copyFrom_168 h3 h8 h11 h6 h12 h7) rfl dX8_free_8 (Nat.le_of_ble_eq_true rfl) (Nat.le_of_ble_eq_true rfl) rfl (Nat.le_of_ble_eq_true rfl) (Nat.le_of_ble_eq_true rfl) (Nat.le_of_ble_eq_true rfl) rfl ?_
  refine aw_ald_n C dX8_free_11 rfl ?_
  refine aw_ald_n C dX8_free_12 rfl ?_
  refine aw_bipush C 8 dX8_free_13 kb_8 ?_
  refine aw_iload_n C dX8_free_15 rfl ?_
  refine aw_iconst C 0 dX8_free_16 ki_0 ?_
  refine aw_null C dX8_free_17 ?_
  refine ao_callV C (ci := 8) (b := 0) [.int 8, .int a1, .int 0, .null] [(8, .inr (7, [.ref 4, .int 0, .int (-1), .int 0, .int 1, .int 0, .null, .int 0, .ref 11, .ref 12])), (0, .inr (8, [.ref 1, .ref 3, .ref 8, .ref 13, .ref 18, .ref 59, .ref 115, .ref 171, .ref 178, .int 0, .int 0, .int 0, .int 0, .int (-1)]))] mv_X8_103 rfl rfl h0 (c_X8_doAct_473 ⟨by omega, by omega⟩ h0 h59) rfl dX8_free_18 (Nat.le_of_ble_eq_true rfl) (Nat.le_of_ble_eq_true rfl) rfl (Nat.le_of_ble_eq_true rfl) (Nat.le_of_ble_eq_true rfl) (Nat.le_of_ble_eq_true rfl) rfl ?_
  refine ax_callV C (ci := 8) (b := 0) [.int 1] mv_X8_139 rfl rfl rfl (c_X8_finishCall_437 hl0 rfl) rfl dX8_free_21 (Nat.le_of_ble_eq_true rfl) (Nat.le_of_ble_eq_true rfl) rfl (Nat.le_of_ble_eq_true rfl) (Nat.le_of_ble_eq_true rfl) (Nat.le_of_ble_eq_true rfl) (fun E9 f9 n9 h9 => ?_) (fun _ _ _ h9 => h9.elim)
  obtain ⟨rfl, rfl, h9⟩ := h9
  refine at_flat [(8, .inr (7, [.ref 4, .int 0, .int (-1), .int 0, .int 1, .int 0, .null, .int 0, .ref 11, .ref 12])), (0, .inr (8, [.ref 1, .ref 3, .ref 8, .ref 13, .ref 18, .ref 59, .ref 115, .ref 171, .ref 178, .int 0, .int 0, .int 0, .int 1, .int (-1)]))] rfl ?_
  exact at_out C htab ⟨rfl, rfl, h9⟩ (Nat.le_of_ble_eq_true rfl) (Nat.le_of_ble_eq_true rfl)

set_option maxHeartbeats 4000000 in
set_option maxRecDepth 100000 in
theorem c_L_free_475 {X : GX} {l : Launch} {f : AH} {n : Nat} {a1 : Int32} (hl0 : l.stackTraces = false) (q0 : 0 ≤ a1.toInt ∧ a1.toInt ≤ 2147483647) (h0 : f 0 = some (.inr (8, [.ref 1, .ref 3, .ref 8, .ref 13, .ref 18, .ref 59, .ref 115, .ref 171, .ref 178, .int 0, .int 0, .int 0, .int 0, .int (-1)]))) (h3 : f 3 = some (.inr (7, [.ref 4, .int 0, .int (-1), .int 0, .int 1, .int 0, .null, .int 0, .ref 6, .ref 7]))) (h8 : f 8 = some (.inr (7, [.ref 9, .int 0, .int (-1), .int 0, .int 1, .int 0, .null, .int 0, .ref 11, .ref 12]))) (h11 : f 11 = some (.inl (2, 4, .inr (.inr (fun _ => none))))) (h6 : f 6 = some (.inl (2, 4, .inr (.inr (fun _ => none))))) (h12 : f 12 = some (.inl (2, 40, .inr (.inr (fun _ => none))))) (h7 : f 7 = some (.inl (2, 40, .inr (.inr (fun _ => none))))) (h59 : f 59 = some (.inr (1, [.ref 60, .ref 62, .ref 74, .int 0, .ref 68, .ref 71, .ref 64, .ref 66]))) : AMW X l yL_free cL_free 4 (some .int) [(0, 9, 12, 28)] 8 1 6 [.ref 0, .int a1, .ref 223] f n (EXN f [(0, .inr (8, [.ref 1, .ref 3, .ref 8, .ref 13, .ref 18, .ref 59, .ref 115, .ref 171, .ref 178, .int 0, .int 0, .int 0, .int 1, .int (-1)])), (8, .inr (7, [.ref 4, .int 0, .int (-1), .int 0, .int 1, .int 0, .null, .int 0, .ref 11, .ref 12]))] (some (.int 1))) := by
  refine AMW.of (by decide +kernel) rfl (Nat.le_of_ble_eq_true rfl) (fun p e s m args below meth c C htab => ?_)
  refine ao_start ?_
  refine aw_nl [some (.ref 0), some (.int a1), some (.ref 223), none] rfl ?_
  obtain ⟨q0a, q0b⟩ := q0
  refine aw_ald_n C dL_free_0 rfl ?_
  refine aw_iconst C 0 dL_free_1 ki_0 ?_
  refine aw_ald_n C dL_free_2 rfl ?_
  refine aw_iload_n C dL_free_3 rfl ?_
  refine ax_callV C (ci := 8) (b := 0) [.int a1] mv_L_34 rfl rfl h0 (c_X8_free_474 hl0 ⟨by omega, by omega⟩ h0 h3 h8 h11 h6 h12 h7 h59) rfl dL_free_4 (Nat.le_of_ble_eq_true rfl) (Nat.le_of_ble_eq_true rfl) rfl (Nat.le_of_ble_eq_true rfl) (Nat.le_of_ble_eq_true rfl) (Nat.le_of_ble_eq_true rfl) (fun E9 f9 n9 h9 => ?_) (fun _ _ _ h9 => h9.elim)
  obtain ⟨rfl, rfl, h9⟩ := h9
  refine at_flat [(0, .inr (8, [.ref 1, .ref 3, .ref 8, .ref 13, .ref 18, .ref 59, .ref 115, .ref 171, .ref 178, .int 0, .int 0, .int 0, .int 1, .int (-1)])), (8, .inr (7, [.ref 4, .int 0, .int (-1), .int 0, .int 1, .int 0, .null, .int 0, .ref 11, .ref 12]))] rfl ?_
  refine at_catch C htab [] ⟨0, 9, 12, 28⟩ [] rfl (fun z hz => nomatch hz) (by decide) (by decide) cl_L_28 (by decide) (ah_astore_n C dL_free_12 (by decide) rfl ?_)
  refine aw_nl [some (.ref 0), some (.int a1), some (.ref 223), none] rfl ?_
  refine aw_iconst C 1 dL_free_13 ki_1 ?_
  exact aw_iret C rfl rfl dL_free_14 (Nat.le_of_ble_eq_true rfl) (Nat.le_of_ble_eq_true rfl) ⟨rfl, rfl⟩

set_option maxHeartbeats 4000000 in
set_option maxRecDepth 100000 in
theorem c_X9_free0_476 {X : GX} {l : Launch} {f : AH} {n : Nat} {a1 : Int32} (q0 : 0 ≤ a1.toInt ∧ a1.toInt ≤ 2147483647) (h181 : f 181 = some (.inr (9, (.int 0 :: .ref 182 :: .ref 183 :: .ref 184 :: .ref 185 :: .int 0 :: .int 0 :: .int 0 :: .ref 186 :: .int 0 :: .int 0 :: .int 0 :: .int (-1) :: .ref 187 :: .ref 188 :: .ref 189 :: .int 0 :: .ref 190 :: .ref 191 :: .ref 192 :: .ref 193 :: .ref 194 :: .int 0 :: .ref 195 :: .ref 196 :: .ref 197 :: .int 0 :: .ref 198 :: .ref 199 :: .ref 200 :: .ref 201 :: .ref 202 :: .ref 203 :: .int 0 :: .ref 204 :: .ref 205 :: .ref 206 :: .ref 207 :: .ref 208 :: .ref 209 :: .ref 210 :: .ref 211 :: .ref 212 :: .ref 213 :: .ref 214 :: .int 0 :: .ref 215 :: .ref 216 :: .int 0 :: .ref 217 :: .ref 218 :: .ref 219 :: .ref 220 :: .ref 221 :: .int 0 :: .int 0 :: .int 0 :: .int 0 :: .ref 222 :: .int 0 :: [])))) : AM X l yX9_free0 cX9_free0 2 (some .int) 2 0 0 [.ref 181, .int a1] f n (EXO f [] (some (.int 1)) n) := by
  refine AM.of (by decide +kernel) rfl (Nat.le_of_ble_eq_true rfl) (fun p e s m args below meth c C hnm => ?_)
  refine ao_start ?_
  refine aw_nl [some (.ref 181), some (.int a1)] rfl ?_
  obtain ⟨q0a, q0b⟩ := q0
  refine aw_ald_n C dX9_free0_0 rfl ?_
  refine aw_iload_n C dX9_free0_1 rfl ?_
  refine ao_callV C (ci := 9) (b := 181) [.int a1] [] mv_X9_293 rfl rfl h181 (c_X9_isPieceThere_457 ⟨by omega, by omega⟩ h181) rfl dX9_free0_2 (Nat.le_of_ble_eq_true rfl) (Nat.le_of_ble_eq_true rfl) rfl (Nat.le_of_ble_eq_true rfl) (Nat.le_of_ble_eq_true rfl) (Nat.le_of_ble_eq_true rfl) rfl ?_
  refine aw_if_ne C 10 dX9_free0_5 (by decide) (fun q => absurd (by decide) q) (fun _ => ?_)
  refine aw_iconst C 1 dX9_free0_8 ki_1 ?_
  exact aw_iret C rfl rfl dX9_free0_9 (Nat.le_of_ble_eq_true rfl) (Nat.le_of_ble_eq_true rfl) ⟨rfl, rfl, rfl⟩

set_option maxHeartbeats 4000000 in
set_option maxRecDepth 100000 in
theorem c_X9_free_477 {X : GX} {l : Launch} {f : AH} {n : Nat} {a1 : Int32} (q0 : 0 ≤ a1.toInt ∧ a1.toInt ≤ 2147483647) (h181 : f 181 = some (.inr (9, (.int 0 :: .ref 182 :: .ref 183 :: .ref 184 :: .ref 185 :: .int 0 :: .int 0 :: .int 0 :: .ref 186 :: .int 0 :: .int 0 :: .int 0 :: .int (-1) :: .ref 187 :: .ref 188 :: .ref 189 :: .int 0 :: .ref 190 :: .ref 191 :: .ref 192 :: .ref 193 :: .ref 194 :: .int 0 :: .ref 195 :: .ref 196 :: .ref 197 :: .int 0 :: .ref 198 :: .ref 199 :: .ref 200 :: .ref 201 :: .ref 202 :: .ref 203 :: .int 0 :: .ref 204 :: .ref 205 :: .ref 206 :: .ref 207 :: .ref 208 :: .ref 209 :: .ref 210 :: .ref 211 :: .ref 212 :: .ref 213 :: .ref 214 :: .int 0 :: .ref 215 :: .ref 216 :: .int 0 :: .ref 217 :: .ref 218 :: .ref 219 :: .ref 220 :: .ref 221 :: .int 0 :: .int 0 :: .int 0 :: .int 0 :: .ref 222 :: .int 0 :: [])))) (h183 : f 183 = some (.inl (0, 4347, .inl (fun _ => 0)))) (h182 : f 182 = some (.inl (0, 4347, .inl (tl (upd (upd (fun _ => 0) 2 (-1)) 4 1) 40)))) : AM X l yX9_free cX9_free 2 (some .int) 6 0 0 [.ref 181, .int a1] f n (EXO f [(183, .inl (0, 4347, .inl (cpy (tl (upd (upd (fun _ => 0) 2 (-1)) 4 1) 40) (fun _ => 0) 4347))), (182, .inl (0, 4347, .inl (cpy (cpy (tl (upd (upd (fun _ => 0) 2 (-1)) 4 1) 40) (fun _ => 0) 4347) (tl (upd (upd (fun _ => 0) 2 (-1)) 4 1) 40) 4347))), (181, .inr (9, (.int 1 :: .ref 182 :: .ref 183 :: .ref 184 :: .ref 185 :: .int 0 :: .int 0 :: .int 1 :: .ref 186 :: .int 0 :: .int 0 :: .int 0 :: .int (-1) :: .ref 187 :: .ref 188 :: .ref 189 :: .int 0 :: .ref 190 :: .ref 191 :: .ref 192 :: .ref 193 :: .ref 194 :: .int 0 :: .ref 195 :: .ref 196 :: .ref 197 :: .int 0 :: .ref 198 :: .ref 199 :: .ref 200 :: .ref 201 :: .ref 202 :: .ref 203 :: .int 0 :: .ref 204 :: .ref 205 :: .ref 206 :: .ref 207 :: .ref 208 :: .ref 209 :: .ref 210 :: .ref 211 :: .ref 212 :: .ref 213 :: .ref 214 :: .int 0 :: .ref 215 :: .ref 216 :: .int 0 :: .ref 217 :: .ref 218 :: .ref 219 :: .ref 220 :: .ref 221 :: .int 0 :: .int 0 :: .int 0 :: .int 0 :: .ref 222 :: .int 0 :: [])))] (some (.int 0)) n) := by
  refine AM.of (by decide +kernel) rfl (Nat.le_of_ble_eq_true rfl) (fun p e s m args below meth c C hnm => ?_)
  refine ao_start ?_
  refine aw_nl [some (.ref 181), some (.int a1)] rfl ?_
  obtain ⟨q0a, q0b⟩ := q0
  refine aw_ald_n C dX9_free_0 rfl ?_
  refine ao_callV C (ci := 9) (b := 181) [] [(183, .inl (0, 4347, .inl (cpy (tl (upd (upd (fun _ => 0) 2 (-1)) 4 1) 40) (fun _ => 0) 4347)))] mv_X9_420 rfl rfl h181 (c_X9_putsAside_173 h181 h183 h182) rfl dX9_free_1 (Nat.le_of_ble_eq_true rfl) (Nat.le_of_ble_eq_true rfl) rfl (Nat.le_of_ble_eq_true rfl) (Nat.le_of_ble_eq_true rfl) (Nat.le_of_ble_eq_true rfl) rfl ?_
  refine aw_ald_n C dX9_free_4 rfl ?_
  refine aw_ald_n C dX9_free_5 rfl ?_
  refine aw_iload_n C dX9_free_6 rfl ?_
  refine ao_callV C (ci := 9) (b := 181) [.int a1] [(183, .inl (0, 4347, .inl (cpy (tl (upd (upd (fun _ => 0) 2 (-1)) 4 1) 40) (fun _ => 0) 4347)))] mv_X9_367 rfl rfl h181 (c_X9_free0_476 ⟨by omega, by omega⟩ h181) rfl dX9_free_7 (Nat.le_of_ble_eq_true rfl) (Nat.le_of_ble_eq_true rfl) rfl (Nat.le_of_ble_eq_true rfl) (Nat.le_of_ble_eq_true rfl) (Nat.le_of_ble_eq_true rfl) rfl ?_
  refine aw_iconst C 1 dX9_free_10 ki_1 ?_
  refine ao_callV C (ci := 9) (b := 181) [.int 1, .int 1] [(183, .inl (0, 4347, .inl (cpy (tl (upd (upd (fun _ => 0) 2 (-1)) 4 1) 40) (fun _ => 0) 4347))), (182, .inl (0, 4347, .inl (cpy (cpy (tl (upd (upd (fun _ => 0) 2 (-1)) 4 1) 40) (fun _ => 0) 4347) (tl (upd (upd (fun _ => 0) 2 (-1)) 4 1) 40) 4347))), (181, .inr (9, (.int 1 :: .ref 182 :: .ref 183 :: .ref 184 :: .ref 185 :: .int 0 :: .int 0 :: .int 1 :: .ref 186 :: .int 0 :: .int 0 :: .int 0 :: .int (-1) :: .ref 187 :: .ref 188 :: .ref 189 :: .int 0 :: .ref 190 :: .ref 191 :: .ref 192 :: .ref 193 :: .ref 194 :: .int 0 :: .ref 195 :: .ref 196 :: .ref 197 :: .int 0 :: .ref 198 :: .ref 199 :: .ref 200 :: .ref 201 :: .ref 202 :: .ref 203 :: .int 0 :: .ref 204 :: .ref 205 :: .ref 206 :: .ref 207 :: .ref 208 :: .ref 209 :: .ref 210 :: .ref 211 :: .ref 212 :: .ref 213 :: .ref 214 :: .int 0 :: .ref 215 :: .ref 216 :: .int 0 :: .ref 217 :: .ref 218 :: .ref 219 :: .ref 220 :: .ref 221 :: .int 0 :: .int 0 :: .int 0 :: .int 0 :: .ref 222 :: .int 0 :: [])))] mv_X9_429 rfl rfl h181 (c_X9_isDone_469 h181 h182 rfl) rfl dX9_free_11 (Nat.le_of_ble_eq_true rfl) (Nat.le_of_ble_eq_true rfl) rfl (Nat.le_of_ble_eq_true rfl) (Nat.le_of_ble_eq_true rfl) (Nat.le_of_ble_eq_true rfl) rfl ?_
  refine aw_if_eq C 24 dX9_free_14 (by decide) (fun _ => ?_) (fun q => absurd (by decide) q)
  refine aw_iconst C 0 dX9_free_24 ki_0 ?_
  exact aw_iret C rfl rfl dX9_free_25 (Nat.le_of_ble_eq_true rfl) (Nat.le_of_ble_eq_true rfl) ⟨rfl, rfl, rfl⟩

set_option maxHeartbeats 4000000 in
set_option maxRecDepth 100000 in
theorem c_X8_spreadPiece_478 {X : GX} {l : Launch} {f : AH} {n : Nat} {a1 : Int32} (q0 : (-2147483648) ≤ a1.toInt ∧ a1.toInt ≤ (-1)) (h0 : f 0 = some (.inr (8, [.ref 1, .ref 3, .ref 8, .ref 13, .ref 18, .ref 59, .ref 115, .ref 171, .ref 178, .int 0, .int 0, .int 0, .int 0, .int (-1)]))) (h59 : f 59 = some (.inr (1, [.ref 60, .ref 62, .ref 74, .int 0, .ref 68, .ref 71, .ref 64, .ref 66]))) : AM X l yX8_spreadPiece cX8_spreadPiece 4 (some .int) 1 0 0 [.ref 0, .int a1] f n (EXO f [] (some (.int 1)) n) := by
  refine AM.of (by decide +kernel) rfl (Nat.le_of_ble_eq_true rfl) (fun p e s m args below meth c C hnm => ?_)
  refine ao_start ?_
  refine aw_nl [some (.ref 0), some (.int a1), none, none] rfl ?_
  obtain ⟨q0a, q0b⟩ := q0
  refine aw_ald_n C dX8_spreadPiece_0 rfl ?_
  refine aw_get C gf_X8_38 h0 rfl dX8_spreadPiece_1 ?_
  refine aw_iload_n C dX8_spreadPiece_4 rfl ?_
  refine ao_callV C (ci := 1) (b := 59) [.int a1] [] mv_X8_241 rfl rfl h59 (c_X1_get_434 ⟨by omega, by omega⟩) rfl dX8_spreadPiece_5 (Nat.le_of_ble_eq_true rfl) (Nat.le_of_ble_eq_true rfl) rfl (Nat.le_of_ble_eq_true rfl) (Nat.le_of_ble_eq_true rfl) (Nat.le_of_ble_eq_true rfl) rfl ?_
  refine aw_ifnonnull_n C 13 dX8_spreadPiece_8 (by decide) ?_
  refine aw_iconst C 1 dX8_spreadPiece_11 ki_1 ?_
  exact aw_iret C rfl rfl dX8_spreadPiece_12 (Nat.le_of_ble_eq_true rfl) (Nat.le_of_ble_eq_true rfl) ⟨rfl, rfl, rfl⟩

set_option maxHeartbeats 4000000 in
set_option maxRecDepth 100000 in
theorem c_X8_doAct_479 {X : GX} {l : Launch} {f : AH} {n : Nat} {a2 : Int32} (q0 : (-2147483648) ≤ a2.toInt ∧ a2.toInt ≤ (-1)) (h0 : f 0 = some (.inr (8, [.ref 1, .ref 3, .ref 8, .ref 13, .ref 18, .ref 59, .ref 115, .ref 171, .ref 178, .int 0, .int 0, .int 0, .int 0, .int (-1)]))) (h59 : f 59 = some (.inr (1, [.ref 60, .ref 62, .ref 74, .int 0, .ref 68, .ref 71, .ref 64, .ref 66]))) : AM X l yX8_doAct cX8_doAct 6 (some .int) 2 0 0 [.ref 0, .int 9, .int a2, .int 0, .null] f n (EXO f [(0, .inr (8, [.ref 1, .ref 3, .ref 8, .ref 13, .ref 18, .ref 59, .ref 115, .ref 171, .ref 178, .int 0, .int 0, .int 0, .int 0, .int (-1)]))] (some (.int 1)) n) := by
  refine AM.of (by decide +kernel) rfl (Nat.le_of_ble_eq_true rfl) (fun p e s m args below meth c C hnm => ?_)
  refine ao_start ?_
  refine aw_nl [some (.ref 0), some (.int 9), some (.int a2), some (.int 0), some (.null), none] rfl ?_
  obtain ⟨q0a, q0b⟩ := q0
  refine aw_ald_n C dX8_doAct_0 rfl ?_
  refine aw_iconst C 0 dX8_doAct_1 ki_0 ?_
  refine ao_put C [(0, .inr (8, [.ref 1, .ref 3, .ref 8, .ref 13, .ref 18, .ref 59, .ref 115, .ref 171, .ref 178, .int 0, .int 0, .int 0, .int 0, .int (-1)]))] gf_X8_334 cf8 nf8_10 h0 (Nat.le_of_ble_eq_true rfl) (by decide) (by decide) dX8_doAct_2 rfl ?_
  refine aw_iload_n C dX8_doAct_5 rfl ?_
  refine aw_tabIn C (off := 185) 191 dX8_doAct_6 (by decide) (by decide) (by decide) (by decide) ?_
  refine aw_ald_n C dX8_doAct_191 rfl ?_
  refine aw_iload_n C dX8_doAct_192 rfl ?_
  refine ao_callV C (ci := 8) (b := 0) [.int a2] [(0, .inr (8, [.ref 1, .ref 3, .ref 8, .ref 13, .ref 18, .ref 59, .ref 115, .ref 171, .ref 178, .int 0, .int 0, .int 0, .int 0, .int (-1)]))] mv_X8_344 rfl rfl rfl (c_X8_spreadPiece_478 ⟨by omega, by omega⟩ rfl h59) rfl dX8_doAct_193 (Nat.le_of_ble_eq_true rfl) (Nat.le_of_ble_eq_true rfl) rfl (Nat.le_of_ble_eq_true rfl) (Nat.le_of_ble_eq_true rfl) (Nat.le_of_ble_eq_true rfl) rfl ?_
  exact aw_iret C rfl rfl dX8_doAct_196 (Nat.le_of_ble_eq_true rfl) (Nat.le_of_ble_eq_true rfl) ⟨rfl, rfl, rfl⟩

set_option maxHeartbeats 4000000 in
set_option maxRecDepth 100000 in
theorem c_X8_spread_480 {X : GX} {l : Launch} {f : AH} {n : Nat} {a1 : Int32} (hl0 : l.stackTraces = false) (q0 : (-2147483648) ≤ a1.toInt ∧ a1.toInt ≤ (-1)) (h0 : f 0 = some (.inr (8, [.ref 1, .ref 3, .ref 8, .ref 13, .ref 18, .ref 59, .ref 115, .ref 171, .ref 178, .int 0, .int 0, .int 0, .int 0, .int (-1)]))) (h3 : f 3 = some (.inr (7, [.ref 4, .int 0, .int (-1), .int 0, .int 1, .int 0, .null, .int 0, .ref 6, .ref 7]))) (h8 : f 8 = some (.inr (7, [.ref 9, .int 0, .int (-1), .int 0, .int 1, .int 0, .null, .int 0, .ref 11, .ref 12]))) (h11 : f 11 = some (.inl (2, 4, .inr (.inr (fun _ => none))))) (h6 : f 6 = some (.inl (2, 4, .inr (.inr (fun _ => none))))) (h12 : f 12 = some (.inl (2, 40, .inr (.inr (fun _ => none))))) (h7 : f 7 = some (.inl (2, 40, .inr (.inr (fun _ => none))))) (h59 : f 59 = some (.inr (1, [.ref 60, .ref 62, .ref 74, .int 0, .ref 68, .ref 71, .ref 64, .ref 66]))) : AX X l yX8_spread cX8_spread 2 (some .int) 7 1 6 [.ref 0, .int a1] f n (fun _ _ _ => False) (TXO eS f [(8, .inr (7, [.ref 4, .int 0, .int (-1), .int 0, .int 1, .int 0, .null, .int 0, .ref 11, .ref 12])), (0, .inr (8, [.ref 1, .ref 3, .ref 8, .ref 13, .ref 18, .ref 59, .ref 115, .ref 171, .ref 178, .int 0, .int 0, .int 0, .int 1, .int (-1)]))] n) := by
  refine AX.of (by decide +kernel) rfl (Nat.le_of_ble_eq_true rfl) (fun p e s m args below meth c C htab => ?_)
  refine ao_start ?_
  refine aw_nl [some (.ref 0), some (.int a1)] rfl ?_
  obtain ⟨q0a, q0b⟩ := q0
  refine aw_ald_n C dX8_spread_0 rfl ?_
  refine aw_get C gf_X8_25 h0 rfl dX8_spread_1 ?_
  refine aw_ald_n C dX8_spread_4 rfl ?_
  refine aw_get C gf_X8_21 h0 rfl dX8_spread_5 ?_
  refine ao_callV C (ci := 7) (b := 8) [.ref 3] [(8, .inr (7, [.ref 4, .int 0, .int (-1), .int 0, .int 1, .int 0, .null, .int 0, .ref 11, .ref 12]))] mv_X8_73 rfl rfl h8 (c_X7_copyFrom_168 h3 h8 h11 h6 h12 h7) rfl dX8_spread_8 (Nat.le_of_ble_eq_true rfl) (Nat.le_of_ble_eq_true rfl) rfl (Nat.le_of_ble_eq_true rfl) (Nat.le_of_ble_eq_true rfl) (Nat.le_of_ble_eq_true rfl) rfl ?_
  refine aw_ald_n C dX8_spread_11 rfl ?_
  refine aw_ald_n C dX8_spread_12 rfl ?_
  refine aw_bipush C 9 dX8_spread_13 kb_9 ?_
  refine aw_iload_n C dX8_spread_15 rfl ?_
  refine aw_iconst C 0 dX8_spread_16 ki_0 ?_
  refine aw_null C dX8_spread_17 ?_
  refine ao_callV C (ci := 8) (b := 0) [.int 9, .int a1, .int 0, .null] [(8, .inr (7, [.ref 4, .int 0, .int (-1), .int 0, .int 1, .int 0, .null, .int 0, .ref 11, .ref 12])), (0, .inr (8, [.ref 1, .ref 3, .ref 8, .ref 13, .ref 18, .ref 59, .ref 115, .ref 171, .ref 178, .int 0, .int 0, .int 0, .int 0, .int (-1)]))] mv_X8_103 rfl rfl h0 (c_X8_doAct_479 ⟨by omega, by omega⟩ h0 h59) rfl dX8_spread_18 (Nat.le_of_ble_eq_true rfl) (Nat.le_of_ble_eq_true rfl) rfl (Nat.le_of_ble_eq_true rfl) (Nat.le_of_ble_eq_true rfl) (Nat.le_of_ble_eq_true rfl) rfl ?_
  refine ax_callV C (ci := 8) (b := 0) [.int 1] mv_X8_139 rfl rfl rfl (c_X8_finishCall_437 hl0 rfl) rfl dX8_spread_21 (Nat.le_of_ble_eq_true rfl) (Nat.le_of_ble_eq_true rfl) rfl (Nat.le_of_ble_eq_true rfl) (Nat.le_of_ble_eq_true rfl) (Nat.le_of_ble_eq_true rfl) (fun E9 f9 n9 h9 => ?_) (fun _ _ _ h9 => h9.elim)
  obtain ⟨rfl, rfl, h9⟩ := h9
  refine at_flat [(8, .inr (7, [.ref 4, .int 0, .int (-1), .int 0, .int 1, .int 0, .null, .int 0, .ref 11, .ref 12])), (0, .inr (8, [.ref 1, .ref 3, .ref 8, .ref 13, .ref 18, .ref 59, .ref 115, .ref 171, .ref 178, .int 0, .int 0, .int 0, .int 1, .int (-1)]))] rfl ?_
  exact at_out C htab ⟨rfl, rfl, h9⟩ (Nat.le_of_ble_eq_true rfl) (Nat.le_of_ble_eq_true rfl)

set_option maxHeartbeats 4000000 in
set_option maxRecDepth 100000 in
theorem c_L_spread_481 {X : GX} {l : Launch} {f : AH} {n : Nat} {a1 : Int32} (hl0 : l.stackTraces = false) (q0 : (-2147483648) ≤ a1.toInt ∧ a1.toInt ≤ (-1)) (h0 : f 0 = some (.inr (8, [.ref 1, .ref 3, .ref 8, .ref 13, .ref 18, .ref 59, .ref 115, .ref 171, .ref 178, .int 0, .int 0, .int 0, .int 0, .int (-1)]))) (h3 : f 3 = some (.inr (7, [.ref 4, .int 0, .int (-1), .int 0, .int 1, .int 0, .null, .int 0, .ref 6, .ref 7]))) (h8 : f 8 = some (.inr (7, [.ref 9, .int 0, .int (-1), .int 0, .int 1, .int 0, .null, .int 0, .ref 11, .ref 12]))) (h11 : f 11 = some (.inl (2, 4, .inr (.inr (fun _ => none))))) (h6 : f 6 = some (.inl (2, 4, .inr (.inr (fun _ => none))))) (h12 : f 12 = some (.inl (2, 40, .inr (.inr (fun _ => none))))) (h7 : f 7 = some (.inl (2, 40, .inr (.inr (fun _ => none))))) (h59 : f 59 = some (.inr (1, [.ref 60, .ref 62, .ref 74, .int 0, .ref 68, .ref 71, .ref 64, .ref 66]))) : AMW X l yL_spread cL_spread 4 (some .int) [(0, 9, 12, 28)] 8 1 6 [.ref 0, .int a1, .ref 223] f n (EXN f [(0, .inr (8, [.ref 1, .ref 3, .ref 8, .ref 13, .ref 18, .ref 59, .ref 115, .ref 171, .ref 178, .int 0, .int 0, .int 0, .int 1, .int (-1)])), (8, .inr (7, [.ref 4, .int 0, .int (-1), .int 0, .int 1, .int 0, .null, .int 0, .ref 11, .ref 12]))] (some (.int 1))) := by
  refine AMW.of (by decide +kernel) rfl (Nat.le_of_ble_eq_true rfl) (fun p e s m args below meth c C htab => ?_)
  refine ao_start ?_
  refine aw_nl [some (.ref 0), some (.int a1), some (.ref 223), none] rfl ?_
  obtain ⟨q0a, q0b⟩ := q0
  refine aw_ald_n C dL_spread_0 rfl ?_
  refine aw_iconst C 0 dL_spread_1 ki_0 ?_
  refine aw_ald_n C dL_spread_2 rfl ?_
  refine aw_iload_n C dL_spread_3 rfl ?_
  refine ax_callV C (ci := 8) (b := 0) [.int a1] mv_L_37 rfl rfl h0 (c_X8_spread_480 hl0 ⟨by omega, by omega⟩ h0 h3 h8 h11 h6 h12 h7 h59) rfl dL_spread_4 (Nat.le_of_ble_eq_true rfl) (Nat.le_of_ble_eq_true rfl) rfl (Nat.le_of_ble_eq_true rfl) (Nat.le_of_ble_eq_true rfl) (Nat.le_of_ble_eq_true rfl) (fun E9 f9 n9 h9 => ?_) (fun _ _ _ h9 => h9.elim)
  obtain ⟨rfl, rfl, h9⟩ := h9
  refine at_flat [(0, .inr (8, [.ref 1, .ref 3, .ref 8, .ref 13, .ref 18, .ref 59, .ref 115, .ref 171, .ref 178, .int 0, .int 0, .int 0, .int 1, .int (-1)])), (8, .inr (7, [.ref 4, .int 0, .int (-1), .int 0, .int 1, .int 0, .null, .int 0, .ref 11, .ref 12]))] rfl ?_
  refine at_catch C htab [] ⟨0, 9, 12, 28⟩ [] rfl (fun z hz => nomatch hz) (by decide) (by decide) cl_L_28 (by decide) (ah_astore_n C dL_spread_12 (by decide) rfl ?_)
  refine aw_nl [some (.ref 0), some (.int a1), some (.ref 223), none] rfl ?_
  refine aw_iconst C 1 dL_spread_13 ki_1 ?_
  exact aw_iret C rfl rfl dL_spread_14 (Nat.le_of_ble_eq_true rfl) (Nat.le_of_ble_eq_true rfl) ⟨rfl, rfl⟩

set_option maxHeartbeats 4000000 in
set_option maxRecDepth 100000 in
theorem c_X9_spread0_482 {X : GX} {l : Launch} {f : AH} {n : Nat} {a1 : Int32} (q0 : (-2147483648) ≤ a1.toInt ∧ a1.toInt ≤ (-1)) (h181 : f 181 = some (.inr (9, (.int 0 :: .ref 182 :: .ref 183 :: .ref 184 :: .ref 185 :: .int 0 :: .int 0 :: .int 0 :: .ref 186 :: .int 0 :: .int 0 :: .int 0 :: .int (-1) :: .ref 187 :: .ref 188 :: .ref 189 :: .int 0 :: .ref 190 :: .ref 191 :: .ref 192 :: .ref 193 :: .ref 194 :: .int 0 :: .ref 195 :: .ref 196 :: .ref 197 :: .int 0 :: .ref 198 :: .ref 199 :: .ref 200 :: .ref 201 :: .ref 202 :: .ref 203 :: .int 0 :: .ref 204 :: .ref 205 :: .ref 206 :: .ref 207 :: .ref 208 :: .ref 209 :: .ref 210 :: .ref 211 :: .ref 212 :: .ref 213 :: .ref 214 :: .int 0 :: .ref 215 :: .ref 216 :: .int 0 :: .ref 217 :: .ref 218 :: .ref 219 :: .ref 220 :: .ref 221 :: .int 0 :: .int 0 :: .int 0 :: .int 0 :: .ref 222 :: .int 0 :: [])))) : AM X l yX9_spread0 cX9_spread0 4 (some .int) 2 0 0 [.ref 181, .int a1] f n (EXO f [(181, .inr (9, (.int 0 :: .ref 182 :: .ref 183 :: .ref 184 :: .ref 185 :: .int 0 :: .int 0 :: .int 0 :: .ref 186 :: .int 0 :: .int 0 :: .int 0 :: .int (-1) :: .ref 187 :: .ref 188 :: .ref 189 :: .int 0 :: .ref 190 :: .ref 191 :: .ref 192 :: .ref 193 :: .ref 194 :: .int 0 :: .ref 195 :: .ref 196 :: .ref 197 :: .int 0 :: .ref 198 :: .ref 199 :: .ref 200 :: .ref 201 :: .ref 202 :: .ref 203 :: .int 0 :: .ref 204 :: .ref 205 :: .ref 206 :: .ref 207 :: .ref 208 :: .ref 209 :: .ref 210 :: .ref 211 :: .ref 212 :: .ref 213 :: .ref 214 :: .int 0 :: .ref 215 :: .ref 216 :: .int 0 :: .ref 217 :: .ref 218 :: .ref 219 :: .ref 220 :: .ref 221 :: .int 0 :: .int 0 :: .int 0 :: .int 0 :: .ref 222 :: .int 0 :: [])))] (some (.int 1)) n) := by
  refine AM.of (by decide +kernel) rfl (Nat.le_of_ble_eq_true rfl) (fun p e s m args below meth c C hnm => ?_)
  refine ao_start ?_
  refine aw_nl [some (.ref 181), some (.int a1), none, none] rfl ?_
  obtain ⟨q0a, q0b⟩ := q0
  refine aw_ald_n C dX9_spread0_0 rfl ?_
  refine aw_iconst C 0 dX9_spread0_1 ki_0 ?_
  refine ao_put C [(181, .inr (9, (.int 0 :: .ref 182 :: .ref 183 :: .ref 184 :: .ref 185 :: .int 0 :: .int 0 :: .int 0 :: .ref 186 :: .int 0 :: .int 0 :: .int 0 :: .int (-1) :: .ref 187 :: .ref 188 :: .ref 189 :: .int 0 :: .ref 190 :: .ref 191 :: .ref 192 :: .ref 193 :: .ref 194 :: .int 0 :: .ref 195 :: .ref 196 :: .ref 197 :: .int 0 :: .ref 198 :: .ref 199 :: .ref 200 :: .ref 201 :: .ref 202 :: .ref 203 :: .int 0 :: .ref 204 :: .ref 205 :: .ref 206 :: .ref 207 :: .ref 208 :: .ref 209 :: .ref 210 :: .ref 211 :: .ref 212 :: .ref 213 :: .ref 214 :: .int 0 :: .ref 215 :: .ref 216 :: .int 0 :: .ref 217 :: .ref 218 :: .ref 219 :: .ref 220 :: .ref 221 :: .int 0 :: .int 0 :: .int 0 :: .int 0 :: .ref 222 :: .int 0 :: [])))] gf_X9_306 cf9 nf9_57 h181 (Nat.le_of_ble_eq_true rfl) rfl rfl dX9_spread0_2 rfl ?_
  refine aw_ald_n C dX9_spread0_5 rfl ?_
  refine aw_iload_n C dX9_spread0_6 rfl ?_
  refine ao_callV C (ci := 9) (b := 181) [.int a1] [(181, .inr (9, (.int 0 :: .ref 182 :: .ref 183 :: .ref 184 :: .ref 185 :: .int 0 :: .int 0 :: .int 0 :: .ref 186 :: .int 0 :: .int 0 :: .int 0 :: .int (-1) :: .ref 187 :: .ref 188 :: .ref 189 :: .int 0 :: .ref 190 :: .ref 191 :: .ref 192 :: .ref 193 :: .ref 194 :: .int 0 :: .ref 195 :: .ref 196 :: .ref 197 :: .int 0 :: .ref 198 :: .ref 199 :: .ref 200 :: .ref 201 :: .ref 202 :: .ref 203 :: .int 0 :: .ref 204 :: .ref 205 :: .ref 206 :: .ref 207 :: .ref 208 :: .ref 209 :: .ref 210 :: .ref 211 :: .ref 212 :: .ref 213 :: .ref 214 :: .int 0 :: .ref 215 :: .ref 216 :: .int 0 :: .ref 217 :: .ref 218 :: .ref 219 :: .ref 220 :: .ref 221 :: .int 0 :: .int 0 :: .int 0 :: .int 0 :: .ref 222 :: .int 0 :: [])))] mv_X9_293 rfl rfl rfl (c_X9_isPieceThere_442 ⟨by omega, by omega⟩ rfl) rfl dX9_spread0_7 (Nat.le_of_ble_eq_true rfl) (Nat.le_of_ble_eq_true rfl) rfl (Nat.le_of_ble_eq_true rfl) (Nat.le_of_ble_eq_true rfl) (Nat.le_of_ble_eq_true rfl) rfl ?_
  refine aw_if_ne C 15 dX9_spread0_10 (by decide) (fun q => absurd (by decide) q) (fun _ => ?_)
  refine aw_iconst C 1 dX9_spread0_13 ki_1 ?_
  exact aw_iret C rfl rfl dX9_spread0_14 (Nat.le_of_ble_eq_true rfl) (Nat.le_of_ble_eq_true rfl) ⟨rfl, rfl, rfl⟩

set_option maxHeartbeats 4000000 in
set_option maxRecDepth 100000 in
theorem c_X9_spread_483 {X : GX} {l : Launch} {f : AH} {n : Nat} {a1 : Int32} (q0 : (-2147483648) ≤ a1.toInt ∧ a1.toInt ≤ (-1)) (h181 : f 181 = some (.inr (9, (.int 0 :: .ref 182 :: .ref 183 :: .ref 184 :: .ref 185 :: .int 0 :: .int 0 :: .int 0 :: .ref 186 :: .int 0 :: .int 0 :: .int 0 :: .int (-1) :: .ref 187 :: .ref 188 :: .ref 189 :: .int 0 :: .ref 190 :: .ref 191 :: .ref 192 :: .ref 193 :: .ref 194 :: .int 0 :: .ref 195 :: .ref 196 :: .ref 197 :: .int 0 :: .ref 198 :: .ref 199 :: .ref 200 :: .ref 201 :: .ref 202 :: .ref 203 :: .int 0 :: .ref 204 :: .ref 205 :: .ref 206 :: .ref 207 :: .ref 208 :: .ref 209 :: .ref 210 :: .ref 211 :: .ref 212 :: .ref 213 :: .ref 214 :: .int 0 :: .ref 215 :: .ref 216 :: .int 0 :: .ref 217 :: .ref 218 :: .ref 219 :: .ref 220 :: .ref 221 :: .int 0 :: .int 0 :: .int 0 :: .int 0 :: .ref 222 :: .int 0 :: [])))) (h183 : f 183 = some (.inl (0, 4347, .inl (fun _ => 0)))) (h182 : f 182 = some (.inl (0, 4347, .inl (tl (upd (upd (fun _ => 0) 2 (-1)) 4 1) 40)))) : AM X l yX9_spread cX9_spread 2 (some .int) 6 0 0 [.ref 181, .int a1] f n (EXO f [(183, .inl (0, 4347, .inl (cpy (tl (upd (upd (fun _ => 0) 2 (-1)) 4 1) 40) (fun _ => 0) 4347))), (181, .inr (9, (.int 1 :: .ref 182 :: .ref 183 :: .ref 184 :: .ref 185 :: .int 0 :: .int 0 :: .int 1 :: .ref 186 :: .int 0 :: .int 0 :: .int 0 :: .int (-1) :: .ref 187 :: .ref 188 :: .ref 189 :: .int 0 :: .ref 190 :: .ref 191 :: .ref 192 :: .ref 193 :: .ref 194 :: .int 0 :: .ref 195 :: .ref 196 :: .ref 197 :: .int 0 :: .ref 198 :: .ref 199 :: .ref 200 :: .ref 201 :: .ref 202 :: .ref 203 :: .int 0 :: .ref 204 :: .ref 205 :: .ref 206 :: .ref 207 :: .ref 208 :: .ref 209 :: .ref 210 :: .ref 211 :: .ref 212 :: .ref 213 :: .ref 214 :: .int 0 :: .ref 215 :: .ref 216 :: .int 0 :: .ref 217 :: .ref 218 :: .ref 219 :: .ref 220 :: .ref 221 :: .int 0 :: .int 0 :: .int 0 :: .int 0 :: .ref 222 :: .int 0 :: []))), (182, .inl (0, 4347, .inl (cpy (cpy (tl (upd (upd (fun _ => 0) 2 (-1)) 4 1) 40) (fun _ => 0) 4347) (tl (upd (upd (fun _ => 0) 2 (-1)) 4 1) 40) 4347)))] (some (.int 0)) n) := by
  refine AM.of (by decide +kernel) rfl (Nat.le_of_ble_eq_true rfl) (fun p e s m args below meth c C hnm => ?_)
  refine ao_start ?_
  refine aw_nl [some (.ref 181), some (.int a1)] rfl ?_
  obtain ⟨q0a, q0b⟩ := q0
  refine aw_ald_n C dX9_spread_0 rfl ?_
  refine ao_callV C (ci := 9) (b := 181) [] [(183, .inl (0, 4347, .inl (cpy (tl (upd (upd (fun _ => 0) 2 (-1)) 4 1) 40) (fun _ => 0) 4347)))] mv_X9_420 rfl rfl h181 (c_X9_putsAside_173 h181 h183 h182) rfl dX9_spread_1 (Nat.le_of_ble_eq_true rfl) (Nat.le_of_ble_eq_true rfl) rfl (Nat.le_of_ble_eq_true rfl) (Nat.le_of_ble_eq_true rfl) (Nat.le_of_ble_eq_true rfl) rfl ?_
  refine aw_ald_n C dX9_spread_4 rfl ?_
  refine aw_ald_n C dX9_spread_5 rfl ?_
  refine aw_iload_n C dX9_spread_6 rfl ?_
  refine ao_callV C (ci := 9) (b := 181) [.int a1] [(183, .inl (0, 4347, .inl (cpy (tl (upd (upd (fun _ => 0) 2 (-1)) 4 1) 40) (fun _ => 0) 4347))), (181, .inr (9, (.int 0 :: .ref 182 :: .ref 183 :: .ref 184 :: .ref 185 :: .int 0 :: .int 0 :: .int 0 :: .ref 186 :: .int 0 :: .int 0 :: .int 0 :: .int (-1) :: .ref 187 :: .ref 188 :: .ref 189 :: .int 0 :: .ref 190 :: .ref 191 :: .ref 192 :: .ref 193 :: .ref 194 :: .int 0 :: .ref 195 :: .ref 196 :: .ref 197 :: .int 0 :: .ref 198 :: .ref 199 :: .ref 200 :: .ref 201 :: .ref 202 :: .ref 203 :: .int 0 :: .ref 204 :: .ref 205 :: .ref 206 :: .ref 207 :: .ref 208 :: .ref 209 :: .ref 210 :: .ref 211 :: .ref 212 :: .ref 213 :: .ref 214 :: .int 0 :: .ref 215 :: .ref 216 :: .int 0 :: .ref 217 :: .ref 218 :: .ref 219 :: .ref 220 :: .ref 221 :: .int 0 :: .int 0 :: .int 0 :: .int 0 :: .ref 222 :: .int 0 :: [])))] mv_X9_370 rfl rfl h181 (c_X9_spread0_482 ⟨by omega, by omega⟩ h181) rfl dX9_spread_7 (Nat.le_of_ble_eq_true rfl) (Nat.le_of_ble_eq_true rfl) rfl (Nat.le_of_ble_eq_true rfl) (Nat.le_of_ble_eq_true rfl) (Nat.le_of_ble_eq_true rfl) rfl ?_
  refine aw_iconst C 1 dX9_spread_10 ki_1 ?_
  refine ao_callV C (ci := 9) (b := 181) [.int 1, .int 1] [(183, .inl (0, 4347, .inl (cpy (tl (upd (upd (fun _ => 0) 2 (-1)) 4 1) 40) (fun _ => 0) 4347))), (181, .inr (9, (.int 1 :: .ref 182 :: .ref 183 :: .ref 184 :: .ref 185 :: .int 0 :: .int 0 :: .int 1 :: .ref 186 :: .int 0 :: .int 0 :: .int 0 :: .int (-1) :: .ref 187 :: .ref 188 :: .ref 189 :: .int 0 :: .ref 190 :: .ref 191 :: .ref 192 :: .ref 193 :: .ref 194 :: .int 0 :: .ref 195 :: .ref 196 :: .ref 197 :: .int 0 :: .ref 198 :: .ref 199 :: .ref 200 :: .ref 201 :: .ref 202 :: .ref 203 :: .int 0 :: .ref 204 :: .ref 205 :: .ref 206 :: .ref 207 :: .ref 208 :: .ref 209 :: .ref 210 :: .ref 211 :: .ref 212 :: .ref 213 :: .ref 214 :: .int 0 :: .ref 215 :: .ref 216 :: .int 0 :: .ref 217 :: .ref 218 :: .ref 219 :: .ref 220 :: .ref 221 :: .int 0 :: .int 0 :: .int 0 :: .int 0 :: .ref 222 :: .int 0 :: []))), (182, .inl (0, 4347, .inl (cpy (cpy (tl (upd (upd (fun _ => 0) 2 (-1)) 4 1) 40) (fun _ => 0) 4347) (tl (upd (upd (fun _ => 0) 2 (-1)) 4 1) 40) 4347)))] mv_X9_429 rfl rfl rfl (c_X9_isDone_469 rfl h182 rfl) rfl dX9_spread_11 (Nat.le_of_ble_eq_true rfl) (Nat.le_of_ble_eq_true rfl) rfl (Nat.le_of_ble_eq_true rfl) (Nat.le_of_ble_eq_true rfl) (Nat.le_of_ble_eq_true rfl) rfl ?_
  refine aw_if_eq C 24 dX9_spread_14 (by decide) (fun _ => ?_) (fun q => absurd (by decide) q)
  refine aw_iconst C 0 dX9_spread_24 ki_0 ?_
  exact aw_iret C rfl rfl dX9_spread_25 (Nat.le_of_ble_eq_true rfl) (Nat.le_of_ble_eq_true rfl) ⟨rfl, rfl, rfl⟩

set_option maxHeartbeats 4000000 in
set_option maxRecDepth 100000 in
theorem c_X8_spreadPiece_484 {X : GX} {l : Launch} {f : AH} {n : Nat} {a1 : Int32} (q0 : 0 ≤ a1.toInt ∧ a1.toInt ≤ 2147483647) (h0 : f 0 = some (.inr (8, [.ref 1, .ref 3, .ref 8, .ref 13, .ref 18, .ref 59, .ref 115, .ref 171, .ref 178, .int 0, .int 0, .int 0, .int 0, .int (-1)]))) (h59 : f 59 = some (.inr (1, [.ref 60, .ref 62, .ref 74, .int 0, .ref 68, .ref 71, .ref 64, .ref 66]))) : AM X l yX8_spreadPiece cX8_spreadPiece 4 (some .int) 1 0 0 [.ref 0, .int a1] f n (EXO f [] (some (.int 1)) n) := by
  refine AM.of (by decide +kernel) rfl (Nat.le_of_ble_eq_true rfl) (fun p e s m args below meth c C hnm => ?_)
  refine ao_start ?_
  refine aw_nl [some (.ref 0), some (.int a1), none, none] rfl ?_
  obtain ⟨q0a, q0b⟩ := q0
  refine aw_ald_n C dX8_spreadPiece_0 rfl ?_
  refine aw_get C gf_X8_38 h0 rfl dX8_spreadPiece_1 ?_
  refine aw_iload_n C dX8_spreadPiece_4 rfl ?_
  refine ao_callV C (ci := 1) (b := 59) [.int a1] [] mv_X8_241 rfl rfl h59 (c_X1_get_451 ⟨by omega, by omega⟩ h59) rfl dX8_spreadPiece_5 (Nat.le_of_ble_eq_true rfl) (Nat.le_of_ble_eq_true rfl) rfl (Nat.le_of_ble_eq_true rfl) (Nat.le_of_ble_eq_true rfl) (Nat.le_of_ble_eq_true rfl) rfl ?_
  refine aw_ifnonnull_n C 13 dX8_spreadPiece_8 (by decide) ?_
  refine aw_iconst C 1 dX8_spreadPiece_11 ki_1 ?_
  exact aw_iret C rfl rfl dX8_spreadPiece_12 (Nat.le_of_ble_eq_true rfl) (Nat.le_of_ble_eq_true rfl) ⟨rfl, rfl, rfl⟩

set_option maxHeartbeats 4000000 in
set_option maxRecDepth 100000 in
theorem c_X8_doAct_485 {X : GX} {l : Launch} {f : AH} {n : Nat} {a2 : Int32} (q0 : 0 ≤ a2.toInt ∧ a2.toInt ≤ 2147483647) (h0 : f 0 = some (.inr (8, [.ref 1, .ref 3, .ref 8, .ref 13, .ref 18, .ref 59, .ref 115, .ref 171, .ref 178, .int 0, .int 0, .int 0, .int 0, .int (-1)]))) (h59 : f 59 = some (.inr (1, [.ref 60, .ref 62, .ref 74, .int 0, .ref 68, .ref 71, .ref 64, .ref 66]))) : AM X l yX8_doAct cX8_doAct 6 (some .int) 2 0 0 [.ref 0, .int 9, .int a2, .int 0, .null] f n (EXO f [(0, .inr (8, [.ref 1, .ref 3, .ref 8, .ref 13, .ref 18, .ref 59, .ref 115, .ref 171, .ref 178, .int 0, .int 0, .int 0, .int 0, .int (-1)]))] (some (.int 1)) n) := by
  refine AM.of (by decide +kernel) rfl (Nat.le_of_ble_eq_true rfl) (fun p e s m args below meth c C hnm => ?_)
  refine ao_start ?_
  refine aw_nl [some (.ref 0), some (.int 9), some (.int a2), some (.int 0), some (.null), none] rfl ?_
  obtain ⟨q0a, q0b⟩ := q0
  refine aw_ald_n C dX8_doAct_0 rfl ?_
  refine aw_iconst C 0 dX8_doAct_1 ki_0 ?_
  refine ao_put C [(0, .inr (8, [.ref 1, .ref 3, .ref 8, .ref 13, .ref 18, .ref 59, .ref 115, .ref 171, .ref 178, .int 0, .int 0, .int 0, .int 0, .int (-1)]))] gf_X8_334 cf8 nf8_10 h0 (Nat.le_of_ble_eq_true rfl) (by decide) (by decide) dX8_doAct_2 rfl ?_
  refine aw_iload_n C dX8_doAct_5 rfl ?_
  refine aw_tabIn C (off := 185) 191 dX8_doAct_6 (by decide) (by decide) (by decide) (by decide) ?_
  refine aw_ald_n C dX8_doAct_191 rfl ?_
  refine aw_iload_n C dX8_doAct_192 rfl ?_
  refine ao_callV C (ci := 8) (b := 0) [.int a2] [(0, .inr (8, [.ref 1, .ref 3, .ref 8, .ref 13, .ref 18, .ref 59, .ref 115, .ref 171, .ref 178, .int 0, .int 0, .int 0, .int 0, .int (-1)]))] mv_X8_344 rfl rfl rfl (c_X8_spreadPiece_484 ⟨by omega, by omega⟩ rfl h59) rfl dX8_doAct_193 (Nat.le_of_ble_eq_true rfl) (Nat.le_of_ble_eq_true rfl) rfl (Nat.le_of_ble_eq_true rfl) (Nat.le_of_ble_eq_true rfl) (Nat.le_of_ble_eq_true rfl) rfl ?_
  exact aw_iret C rfl rfl dX8_doAct_196 (Nat.le_of_ble_eq_true rfl) (Nat.le_of_ble_eq_true rfl) ⟨rfl, rfl, rfl⟩

set_option maxHeartbeats 4000000 in
set_option maxRecDepth 100000 in
theorem c_X8_spread_486 {X : GX} {l : Launch} {f : AH} {n : Nat} {a1 : Int32} (hl0 : l.stackTraces = false) (q0 : 0 ≤ a1.toInt ∧ a1.toInt ≤ 2147483647) (h0 : f 0 = some (.inr (8, [.ref 1, .ref 3, .ref 8, .ref 13, .ref 18, .ref 59, .ref 115, .ref 171, .ref 178, .int 0, .int 0, .int 0, .int 0, .int (-1)]))) (h3 : f 3 = some (.inr (7, [.ref 4, .int 0, .int (-1), .int 0, .int 1, .int 0, .null, .int 0, .ref 6, .ref 7]))) (h8 : f 8 = some (.inr (7, [.ref 9, .int 0, .int (-1), .int 0, .int 1, .int 0, .null, .int 0, .ref 11, .ref 12]))) (h11 : f 11 = some (.inl (2, 4, .inr (.inr (fun _ => none))))) (h6 : f 6 = some (.inl (2, 4, .inr (.inr (fun _ => none))))) (h12 : f 12 = some (.inl (2, 40, .inr (.inr (fun _ => none))))) (h7 : f 7 = some (.inl (2, 40, .inr (.inr (fun _ => none))))) (h59 : f 59 = some (.inr (1, [.ref 60, .ref 62, .ref 74, .int 0, .ref 68, .ref 71, .ref 64, .ref 66]))) : AX X l yX8_spread cX8_spread 2 (some .int) 7 1 6 [.ref 0, .int a1] f n (fun _ _ _ => False) (TXO eS f [(8, .inr (7, [.ref 4, .int 0, .int (-1), .int 0, .int 1, .int 0, .null, .int 0, .ref 11, .ref 12])), (0, .inr (8, [.ref 1, .ref 3, .ref 8, .ref 13, .ref 18, .ref 59, .ref 115, .ref 171, .ref 178, .int 0, .int 0, .int 0, .int 1, .int (-1)]))] n) := by
  refine AX.of (by decide +kernel) rfl (Nat.le_of_ble_eq_true rfl) (fun p e s m args below meth c C htab => ?_)
  refine ao_start ?_
  refine aw_nl [some (.ref 0), some (.int a1)] rfl ?_
  obtain ⟨q0a, q0b⟩ := q0
  refine aw_ald_n C dX8_spread_0 rfl ?_
  refine aw_get C gf_X8_25 h0 rfl dX8_spread_1 ?_
  refine aw_ald_n C dX8_spread_4 rfl ?_
  refine aw_get C gf_X8_21 h0 rfl dX8_spread_5 ?_
  refine ao_callV C (ci := 7) (b := 8) [.ref 3] [(8, .inr (7, [.ref 4, .int 0, .int (-1), .int 0, .int 1, .int 0, .null, .int 0, .ref 11, .ref 12]))] mv_X8_73 rfl rfl h8 (c_X7_copyFrom_168 h3 h8 h11 h6 h12 h7) rfl dX8_spread_8 (Nat.le_of_ble_eq_true rfl) (Nat.le_of_ble_eq_true rfl) rfl (Nat.le_of_ble_eq_true rfl) (Nat.le_of_ble_eq_true rfl) (Nat.le_of_ble_eq_true rfl) rfl ?_
  refine aw_ald_n C dX8_spread_11 rfl ?_
  refine aw_ald_n C dX8_spread_12 rfl ?_
  refine aw_bipush C 9 dX8_spread_13 kb_9 ?_
  refine aw_iload_n C dX8_spread_15 rfl ?_
  refine aw_iconst C 0 dX8_spread_16 ki_0 ?_
  refine aw_null C dX8_spread_17 ?_
  refine ao_callV C (ci := 8) (b := 0) [.int 9, .int a1, .int 0, .null] [(8, .inr (7, [.ref 4, .int 0, .int (-1), .int 0, .int 1, .int 0, .null, .int 0, .ref 11, .ref 12])), (0, .inr (8, [.ref 1, .ref 3, .ref 8, .ref 13, .ref 18, .ref 59, .ref 115, .ref 171, .ref 178, .int 0, .int 0, .int 0, .int 0, .int (-1)]))] mv_X8_103 rfl rfl h0 (c_X8_doAct_485 ⟨by omega, by omega⟩ h0 h59) rfl dX8_spread_18 (Nat.le_of_ble_eq_true rfl) (Nat.le_of_ble_eq_true rfl) rfl (Nat.le_of_ble_eq_true rfl) (Nat.le_of_ble_eq_true rfl) (Nat.le_of_ble_eq_true rfl) rfl ?_
  refine ax_callV C (ci := 8) (b := 0) [.int 1] mv_X8_139 rfl rfl rfl (c_X8_finishCall_437 hl0 rfl) rfl dX8_spread_21 (Nat.le_of_ble_eq_true rfl) (Nat.le_of_ble_eq_true rfl) rfl (Nat.le_of_ble_eq_true rfl) (Nat.le_of_ble_eq_true rfl) (Nat.le_of_ble_eq_true rfl) (fun E9 f9 n9 h9 => ?_) (fun _ _ _ h9 => h9.elim)
  obtain ⟨rfl, rfl, h9⟩ := h9
  refine at_flat [(8, .inr (7, [.ref 4, .int 0, .int (-1), .int 0, .int 1, .int 0, .null, .int 0, .ref 11, .ref 12])), (0, .inr (8, [.ref 1, .ref 3, .ref 8, .ref 13, .ref 18, .ref 59, .ref 115, .ref 171, .ref 178, .int 0, .int 0, .int 0, .int 1, .int (-1)]))] rfl ?_
  exact at_out C htab ⟨rfl, rfl, h9⟩ (Nat.le_of_ble_eq_true rfl) (Nat.le_of_ble_eq_true rfl)

set_option maxHeartbeats 4000000 in
set_option maxRecDepth 100000 in
theorem c_L_spread_487 {X : GX} {l : Launch} {f : AH} {n : Nat} {a1 : Int32} (hl0 : l.stackTraces = false) (q0 : 0 ≤ a1.toInt ∧ a1.toInt ≤ 2147483647) (h0 : f 0 = some (.inr (8, [.ref 1, .ref 3, .ref 8, .ref 13, .ref 18, .ref 59, .ref 115, .ref 171, .ref 178, .int 0, .int 0, .int 0, .int 0, .int (-1)]))) (h3 : f 3 = some (.inr (7, [.ref 4, .int 0, .int (-1), .int 0, .int 1, .int 0, .null, .int 0, .ref 6, .ref 7]))) (h8 : f 8 = some (.inr (7, [.ref 9, .int 0, .int (-1), .int 0, .int 1, .int 0, .null, .int 0, .ref 11, .ref 12]))) (h11 : f 11 = some (.inl (2, 4, .inr (.inr (fun _ => none))))) (h6 : f 6 = some (.inl (2, 4, .inr (.inr (fun _ => none))))) (h12 : f 12 = some (.inl (2, 40, .inr (.inr (fun _ => none))))) (h7 : f 7 = some (.inl (2, 40, .inr (.inr (fun _ => none))))) (h59 : f 59 = some (.inr (1, [.ref 60, .ref 62, .ref 74, .int 0, .ref 68, .ref 71, .ref 64, .ref 66]))) : AMW X l yL_spread cL_spread 4 (some .int) [(0, 9, 12, 28)] 8 1 6 [.ref 0, .int a1, .ref 223] f n (EXN f [(0, .inr (8, [.ref 1, .ref 3, .ref 8, .ref 13, .ref 18, .ref 59, .ref 115, .ref 171, .ref 178, .int 0, .int 0, .int 0, .int 1, .int (-1)])), (8, .inr (7, [.ref 4, .int 0, .int (-1), .int 0, .int 1, .int 0, .null, .int 0, .ref 11, .ref 12]))] (some (.int 1))) := by
  refine AMW.of (by decide +kernel) rfl (Nat.le_of_ble_eq_true rfl) (fun p e s m args below meth c C htab => ?_)
  refine ao_start ?_
  refine aw_nl [some (.ref 0), some (.int a1), some (.ref 223), none] rfl ?_
  obtain ⟨q0a, q0b⟩ := q0
  refine aw_ald_n C dL_spread_0 rfl ?_
  refine aw_iconst C 0 dL_spread_1 ki_0 ?_
  refine aw_ald_n C dL_spread_2 rfl ?_
  refine aw_iload_n C dL_spread_3 rfl ?_
  refine ax_callV C (ci := 8) (b := 0) [.int a1] mv_L_37 rfl rfl h0 (c_X8_spread_486 hl0 ⟨by omega, by omega⟩ h0 h3 h8 h11 h6 h12 h7 h59) rfl dL_spread_4 (Nat.le_of_ble_eq_true rfl) (Nat.le_of_ble_eq_true rfl) rfl (Nat.le_of_ble_eq_true rfl) (Nat.le_of_ble_eq_true rfl) (Nat.le_of_ble_eq_true rfl) (fun E9 f9 n9 h9 => ?_) (fun _ _ _ h9 => h9.elim)
  obtain ⟨rfl, rfl, h9⟩ := h9
  refine at_flat [(0, .inr (8, [.ref 1, .ref 3, .ref 8, .ref 13, .ref 18, .ref 59, .ref 115, .ref 171, .ref 178, .int 0, .int 0, .int 0, .int 1, .int (-1)])), (8, .inr (7, [.ref 4, .int 0, .int (-1), .int 0, .int 1, .int 0, .null, .int 0, .ref 11, .ref 12]))] rfl ?_
  refine at_catch C htab [] ⟨0, 9, 12, 28⟩ [] rfl (fun z hz => nomatch hz) (by decide) (by decide) cl_L_28 (by decide) (ah_astore_n C dL_spread_12 (by decide) rfl ?_)
  refine aw_nl [some (.ref 0), some (.int a1), some (.ref 223), none] rfl ?_
  refine aw_iconst C 1 dL_spread_13 ki_1 ?_
  exact aw_iret C rfl rfl dL_spread_14 (Nat.le_of_ble_eq_true rfl) (Nat.le_of_ble_eq_true rfl) ⟨rfl, rfl⟩

set_option maxHeartbeats 4000000 in
set_option maxRecDepth 100000 in
theorem c_X9_spread0_488 {X : GX} {l : Launch} {f : AH} {n : Nat} {a1 : Int32} (q0 : 0 ≤ a1.toInt ∧ a1.toInt ≤ 2147483647) (h181 : f 181 = some (.inr (9, (.int 0 :: .ref 182 :: .ref 183 :: .ref 184 :: .ref 185 :: .int 0 :: .int 0 :: .int 0 :: .ref 186 :: .int 0 :: .int 0 :: .int 0 :: .int (-1) :: .ref 187 :: .ref 188 :: .ref 189 :: .int 0 :: .ref 190 :: .ref 191 :: .ref 192 :: .ref 193 :: .ref 194 :: .int 0 :: .ref 195 :: .ref 196 :: .ref 197 :: .int 0 :: .ref 198 :: .ref 199 :: .ref 200 :: .ref 201 :: .ref 202 :: .ref 203 :: .int 0 :: .ref 204 :: .ref 205 :: .ref 206 :: .ref 207 :: .ref 208 :: .ref 209 :: .ref 210 :: .ref 211 :: .ref 212 :: .ref 213 :: .ref 214 :: .int 0 :: .ref 215 :: .ref 216 :: .int 0 :: .ref 217 :: .ref 218 :: .ref 219 :: .ref 220 :: .ref 221 :: .int 0 :: .int 0 :: .int 0 :: .int 0 :: .ref 222 :: .int 0 :: [])))) : AM X l yX9_spread0 cX9_spread0 4 (some .int) 2 0 0 [.ref 181, .int a1] f n (EXO f [(181, .inr (9, (.int 0 :: .ref 182 :: .ref 183 :: .ref 184 :: .ref 185 :: .int 0 :: .int 0 :: .int 0 :: .ref 186 :: .int 0 :: .int 0 :: .int 0 :: .int (-1) :: .ref 187 :: .ref 188 :: .ref 189 :: .int 0 :: .ref 190 :: .ref 191 :: .ref 192 :: .ref 193 :: .ref 194 :: .int 0 :: .ref 195 :: .ref 196 :: .ref 197 :: .int 0 :: .ref 198 :: .ref 199 :: .ref 200 :: .ref 201 :: .ref 202 :: .ref 203 :: .int 0 :: .ref 204 :: .ref 205 :: .ref 206 :: .ref 207 :: .ref 208 :: .ref 209 :: .ref 210 :: .ref 211 :: .ref 212 :: .ref 213 :: .ref 214 :: .int 0 :: .ref 215 :: .ref 216 :: .int 0 :: .ref 217 :: .ref 218 :: .ref 219 :: .ref 220 :: .ref 221 :: .int 0 :: .int 0 :: .int 0 :: .int 0 :: .ref 222 :: .int 0 :: [])))] (some (.int 1)) n) := by
  refine AM.of (by decide +kernel) rfl (Nat.le_of_ble_eq_true rfl) (fun p e s m args below meth c C hnm => ?_)
  refine ao_start ?_
  refine aw_nl [some (.ref 181), some (.int a1), none, none] rfl ?_
  obtain ⟨q0a, q0b⟩ := q0
  refine aw_ald_n C dX9_spread0_0 rfl ?_
  refine aw_iconst C 0 dX9_spread0_1 ki_0 ?_
  refine ao_put C [(181, .inr (9, (.int 0 :: .ref 182 :: .ref 183 :: .ref 184 :: .ref 185 :: .int 0 :: .int 0 :: .int 0 :: .ref 186 :: .int 0 :: .int 0 :: .int 0 :: .int (-1) :: .ref 187 :: .ref 188 :: .ref 189 :: .int 0 :: .ref 190 :: .ref 191 :: .ref 192 :: .ref 193 :: .ref 194 :: .int 0 :: .ref 195 :: .ref 196 :: .ref 197 :: .int 0 :: .ref 198 :: .ref 199 :: .ref 200 :: .ref 201 :: .ref 202 :: .ref 203 :: .int 0 :: .ref 204 :: .ref 205 :: .ref 206 :: .ref 207 :: .ref 208 :: .ref 209 :: .ref 210 :: .ref 211 :: .ref 212 :: .ref 213 :: .ref 214 :: .int 0 :: .ref 215 :: .ref 216 :: .int 0 :: .ref 217 :: .ref 218 :: .ref 219 :: .ref 220 :: .ref 221 :: .int 0 :: .int 0 :: .int 0 :: .int 0 :: .ref 222 :: .int 0 :: [])))] gf_X9_306 cf9 nf9_57 h181 (Nat.le_of_ble_eq_true rfl) rfl rfl dX9_spread0_2 rfl ?_
  refine aw_ald_n C dX9_spread0_5 rfl ?_
  refine aw_iload_n C dX9_spread0_6 rfl ?_
  refine ao_callV C (ci := 9) (b := 181) [.int a1] [(181, .inr (9, (.int 0 :: .ref 182 :: .ref 183 :: .ref 184 :: .ref 185 :: .int 0 :: .int 0 :: .int 0 :: .ref 186 :: .int 0 :: .int 0 :: .int 0 :: .int (-1) :: .ref 187 :: .ref 188 :: .ref 189 :: .int 0 :: .ref 190 :: .ref 191 :: .ref 192 :: .ref 193 :: .ref 194 :: .int 0 :: .ref 195 :: .ref 196 :: .ref 197 :: .int 0 :: .ref 198 :: .ref 199 :: .ref 200 :: .ref 201 :: .ref 202 :: .ref 203 :: .int 0 :: .ref 204 :: .ref 205 :: .ref 206 :: .ref 207 :: .ref 208 :: .ref 209 :: .ref 210 :: .ref 211 :: .ref 212 :: .ref 213 :: .ref 214 :: .int 0 :: .ref 215 :: .ref 216 :: .int 0 :: .ref 217 :: .ref 218 :: .ref 219 :: .ref 220 :: .ref 221 :: .int 0 :: .int 0 :: .int 0 :: .int 0 :: .ref 222 :: .int 0 :: [])))] mv_X9_293 rfl rfl rfl (c_X9_isPieceThere_457 ⟨by omega, by omega⟩ rfl) rfl dX9_spread0_7 (Nat.le_of_ble_eq_true rfl) (Nat.le_of_ble_eq_true rfl) rfl (Nat.le_of_ble_eq_true rfl) (Nat.le_of_ble_eq_true rfl) (Nat.le_of_ble_eq_true rfl) rfl ?_
  refine aw_if_ne C 15 dX9_spread0_10 (by decide) (fun q => absurd (by decide) q) (fun _ => ?_)
  refine aw_iconst C 1 dX9_spread0_13 ki_1 ?_
  exact aw_iret C rfl rfl dX9_spread0_14 (Nat.le_of_ble_eq_true rfl) (Nat.le_of_ble_eq_true rfl) ⟨rfl, rfl, rfl⟩

set_option maxHeartbeats 4000000 in
set_option maxRecDepth 100000 in
theorem c_X9_spread_489 {X : GX} {l : Launch} {f : AH} {n : Nat} {a1 : Int32} (q0 : 0 ≤ a1.toInt ∧ a1.toInt ≤ 2147483647) (h181 : f 181 = some (.inr (9, (.int 0 :: .ref 182 :: .ref 183 :: .ref 184 :: .ref 185 :: .int 0 :: .int 0 :: .int 0 :: .ref 186 :: .int 0 :: .int 0 :: .int 0 :: .int (-1) :: .ref 187 :: .ref 188 :: .ref 189 :: .int 0 :: .ref 190 :: .ref 191 :: .ref 192 :: .ref 193 :: .ref 194 :: .int 0 :: .ref 195 :: .ref 196 :: .ref 197 :: .int 0 :: .ref 198 :: .ref 199 :: .ref 200 :: .ref 201 :: .ref 202 :: .ref 203 :: .int 0 :: .ref 204 :: .ref 205 :: .ref 206 :: .ref 207 :: .ref 208 :: .ref 209 :: .ref 210 :: .ref 211 :: .ref 212 :: .ref 213 :: .ref 214 :: .int 0 :: .ref 215 :: .ref 216 :: .int 0 :: .ref 217 :: .ref 218 :: .ref 219 :: .ref 220 :: .ref 221 :: .int 0 :: .int 0 :: .int 0 :: .int 0 :: .ref 222 :: .int 0 :: [])))) (h183 : f 183 = some (.inl (0, 4347, .inl (fun _ => 0)))) (h182 : f 182 = some (.inl (0, 4347, .inl (tl (upd (upd (fun _ => 0) 2 (-1)) 4 1) 40)))) : AM X l yX9_spread cX9_spread 2 (some .int) 6 0 0 [.ref 181, .int a1] f n (EXO f [(183, .inl (0, 4347, .inl (cpy (tl (upd (upd (fun _ => 0) 2 (-1)) 4 1) 40) (fun _ => 0) 4347))), (181, .inr (9, (.int 1 :: .ref 182 :: .ref 183 :: .ref 184 :: .ref 185 :: .int 0 :: .int 0 :: .int 1 :: .ref 186 :: .int 0 :: .int 0 :: .int 0 :: .int (-1) :: .ref 187 :: .ref 188 :: .ref 189 :: .int 0 :: .ref 190 :: .ref 191 :: .ref 192 :: .ref 193 :: .ref 194 :: .int 0 :: .ref 195 :: .ref 196 :: .ref 197 :: .int 0 :: .ref 198 :: .ref 199 :: .ref 200 :: .ref 201 :: .ref 202 :: .ref 203 :: .int 0 :: .ref 204 :: .ref 205 :: .ref 206 :: .ref 207 :: .ref 208 :: .ref 209 :: .ref 210 :: .ref 211 :: .ref 212 :: .ref 213 :: .ref 214 :: .int 0 :: .ref 215 :: .ref 216 :: .int 0 :: .ref 217 :: .ref 218 :: .ref 219 :: .ref 220 :: .ref 221 :: .int 0 :: .int 0 :: .int 0 :: .int 0 :: .ref 222 :: .int 0 :: []))), (182, .inl (0, 4347, .inl (cpy (cpy (tl (upd (upd (fun _ => 0) 2 (-1)) 4 1) 40) (fun _ => 0) 4347) (tl (upd (upd (fun _ => 0) 2 (-1)) 4 1) 40) 4347)))] (some (.int 0)) n) := by
  refine AM.of (by decide +kernel) rfl (Nat.le_of_ble_eq_true rfl) (fun p e s m args below meth c C hnm => ?_)
  refine ao_start ?_
  refine aw_nl [some (.ref 181), some (.int a1)] rfl ?_
  obtain ⟨q0a, q0b⟩ := q0
  refine aw_ald_n C dX9_spread_0 rfl ?_
  refine ao_callV C (ci := 9) (b := 181) [] [(183, .inl (0, 4347, .inl (cpy (tl (upd (upd (fun _ => 0) 2 (-1)) 4 1) 40) (fun _ => 0) 4347)))] mv_X9_420 rfl rfl h181 (c_X9_putsAside_173 h181 h183 h182) rfl dX9_spread_1 (Nat.le_of_ble_eq_true rfl) (Nat.le_of_ble_eq_true rfl) rfl (Nat.le_of_ble_eq_true rfl) (Nat.le_of_ble_eq_true rfl) (Nat.le_of_ble_eq_true rfl) rfl ?_
  refine aw_ald_n C dX9_spread_4 rfl ?_
  refine aw_ald_n C dX9_spread_5 rfl ?_
  refine aw_iload_n C dX9_spread_6 rfl ?_
  refine ao_callV C (ci := 9) (b := 181) [.int a1] [(183, .inl (0, 4347, .inl (cpy (tl (upd (upd (fun _ => 0) 2 (-1)) 4 1) 40) (fun _ => 0) 4347))), (181, .inr (9, (.int 0 :: .ref 182 :: .ref 183 :: .ref 184 :: .ref 185 :: .int 0 :: .int 0 :: .int 0 :: .ref 186 :: .int 0 :: .int 0 :: .int 0 :: .int (-1) :: .ref 187 :: .ref 188 :: .ref 189 :: .int 0 :: .ref 190 :: .ref 191 :: .ref 192 :: .ref 193 :: .ref 194 :: .int 0 :: .ref 195 :: .ref 196 :: .ref 197 :: .int 0 :: .ref 198 :: .ref 199 :: .ref 200 :: .ref 201 :: .ref 202 :: .ref 203 :: .int 0 :: .ref 204 :: .ref 205 :: .ref 206 :: .ref 207 :: .ref 208 :: .ref 209 :: .ref 210 :: .ref 211 :: .ref 212 :: .ref 213 :: .ref 214 :: .int 0 :: .ref 215 :: .ref 216 :: .int 0 :: .ref 217 :: .ref 218 :: .ref 219 :: .ref 220 :: .ref 221 :: .int 0 :: .int 0 :: .int 0 :: .int 0 :: .ref 222 :: .int 0 :: [])))] mv_X9_370 rfl rfl h181 (c_X9_spread0_488 ⟨by omega, by omega⟩ h181) rfl dX9_spread_7 (Nat.le_of_ble_eq_true rfl) (Nat.le_of_ble_eq_true rfl) rfl (Nat.le_of_ble_eq_true rfl) (Nat.le_of_ble_eq_true rfl) (Nat.le_of_ble_eq_true rfl) rfl ?_
  refine aw_iconst C 1 dX9_spread_10 ki_1 ?_
  refine ao_callV C (ci := 9) (b := 181) [.int 1, .int 1] [(183, .inl (0, 4347, .inl (cpy (tl (upd (upd (fun _ => 0) 2 (-1)) 4 1) 40) (fun _ => 0) 4347))), (181, .inr (9, (.int 1 :: .ref 182 :: .ref 183 :: .ref 184 :: .ref 185 :: .int 0 :: .int 0 :: .int 1 :: .ref 186 :: .int 0 :: .int 0 :: .int 0 :: .int (-1) :: .ref 187 :: .ref 188 :: .ref 189 :: .int 0 :: .ref 190 :: .ref 191 :: .ref 192 :: .ref 193 :: .ref 194 :: .int 0 :: .ref 195 :: .ref 196 :: .ref 197 :: .int 0 :: .ref 198 :: .ref 199 :: .ref 200 :: .ref 201 :: .ref 202 :: .ref 203 :: .int 0 :: .ref 204 :: .ref 205 :: .ref 206 :: .ref 207 :: .ref 208 :: .ref 209 :: .ref 210 :: .ref 211 :: .ref 212 :: .ref 213 :: .ref 214 :: .int 0 :: .ref 215 :: .ref 216 :: .int 0 :: .ref 217 :: .ref 218 :: .ref 219 :: .ref 220 :: .ref 221 :: .int 0 :: .int 0 :: .int 0 :: .int 0 :: .ref 222 :: .int 0 :: []))), (182, .inl (0, 4347, .inl (cpy (cpy (tl (upd (upd (fun _ => 0) 2 (-1)) 4 1) 40) (fun _ => 0) 4347) (tl (upd (upd (fun _ => 0) 2 (-1)) 4 1) 40) 4347)))] mv_X9_429 rfl rfl rfl (c_X9_isDone_469 rfl h182 rfl) rfl dX9_spread_11 (Nat.le_of_ble_eq_true rfl) (Nat.le_of_ble_eq_true rfl) rfl (Nat.le_of_ble_eq_true rfl) (Nat.le_of_ble_eq_true rfl) (Nat.le_of_ble_eq_true rfl) rfl ?_
  refine aw_if_eq C 24 dX9_spread_14 (by decide) (fun _ => ?_) (fun q => absurd (by decide) q)
  refine aw_iconst C 0 dX9_spread_24 ki_0 ?_
  exact aw_iret C rfl rfl dX9_spread_25 (Nat.le_of_ble_eq_true rfl) (Nat.le_of_ble_eq_true rfl) ⟨rfl, rfl, rfl⟩

set_option maxHeartbeats 4000000 in
set_option maxRecDepth 100000 in
theorem c_X8_swapPieces_490 {X : GX} {l : Launch} {f : AH} {n : Nat} {a1 : Int32} {a2 : Int32} (q0 : (-2147483648) ≤ a1.toInt ∧ a1.toInt ≤ (-1)) (q1 : (-2147483648) ≤ a2.toInt ∧ a2.toInt ≤ (-1)) (h0 : f 0 = some (.inr (8, [.ref 1, .ref 3, .ref 8, .ref 13, .ref 18, .ref 59, .ref 115, .ref 171, .ref 178, .int 0, .int 0, .int 0, .int 0, .int (-1)]))) (h59 : f 59 = some (.inr (1, [.ref 60, .ref 62, .ref 74, .int 0, .ref 68, .ref 71, .ref 64, .ref 66]))) : AM X l yX8_swapPieces cX8_swapPieces 7 (some .int) 1 0 0 [.ref 0, .int a1, .int a2] f n (EXO f [] (some (.int 1)) n) := by
  refine AM.of (by decide +kernel) rfl (Nat.le_of_ble_eq_true rfl) (fun p e s m args below meth c C hnm => ?_)
  refine ao_start ?_
  refine aw_nl [some (.ref 0), some (.int a1), some (.int a2), none, none, none, none] rfl ?_
  obtain ⟨q0a, q0b⟩ := q0
  obtain ⟨q1a, q1b⟩ := q1
  refine aw_ald_n C dX8_swapPieces_0 rfl ?_
  refine aw_get C gf_X8_38 h0 rfl dX8_swapPieces_1 ?_
  refine aw_iload_n C dX8_swapPieces_4 rfl ?_
  refine ao_callV C (ci := 1) (b := 59) [.int a1] [] mv_X8_241 rfl rfl h59 (c_X1_get_434 ⟨by omega, by omega⟩) rfl dX8_swapPieces_5 (Nat.le_of_ble_eq_true rfl) (Nat.le_of_ble_eq_true rfl) rfl (Nat.le_of_ble_eq_true rfl) (Nat.le_of_ble_eq_true rfl) (Nat.le_of_ble_eq_true rfl) rfl ?_
  refine aw_astore_n C dX8_swapPieces_8 (by decide) rfl (Or.inl rfl) ?_
  refine aw_nl [some (.ref 0), some (.int a1), some (.int a2), some (.null), none, none, none] rfl ?_
  refine aw_ald_n C dX8_swapPieces_9 rfl ?_
  refine aw_get C gf_X8_38 h0 rfl dX8_swapPieces_10 ?_
  refine aw_iload_n C dX8_swapPieces_13 rfl ?_
  refine ao_callV C (ci := 1) (b := 59) [.int a2] [] mv_X8_241 rfl rfl h59 (c_X1_get_434 ⟨by omega, by omega⟩) rfl dX8_swapPieces_14 (Nat.le_of_ble_eq_true rfl) (Nat.le_of_ble_eq_true rfl) rfl (Nat.le_of_ble_eq_true rfl) (Nat.le_of_ble_eq_true rfl) (Nat.le_of_ble_eq_true rfl) rfl ?_
  refine aw_astore C dX8_swapPieces_17 (by decide) rfl (Or.inl rfl) ?_
  refine aw_nl [some (.ref 0), some (.int a1), some (.int a2), some (.null), some (.null), none, none] rfl ?_
  refine aw_aload_n C dX8_swapPieces_19 rfl (Or.inl rfl) ?_
  refine aw_ifnull_n C 28 dX8_swapPieces_20 (by decide) ?_
  refine aw_iconst C 1 dX8_swapPieces_28 ki_1 ?_
  exact aw_iret C rfl rfl dX8_swapPieces_29 (Nat.le_of_ble_eq_true rfl) (Nat.le_of_ble_eq_true rfl) ⟨rfl, rfl, rfl⟩

set_option maxHeartbeats 4000000 in
set_option maxRecDepth 100000 in
theorem c_X8_doAct_491 {X : GX} {l : Launch} {f : AH} {n : Nat} {a2 : Int32} {a3 : Int32} (q0 : (-2147483648) ≤ a2.toInt ∧ a2.toInt ≤ (-1)) (q1 : (-2147483648) ≤ a3.toInt ∧ a3.toInt ≤ (-1)) (h0 : f 0 = some (.inr (8, [.ref 1, .ref 3, .ref 8, .ref 13, .ref 18, .ref 59, .ref 115, .ref 171, .ref 178, .int 0, .int 0, .int 0, .int 0, .int (-1)]))) (h59 : f 59 = some (.inr (1, [.ref 60, .ref 62, .ref 74, .int 0, .ref 68, .ref 71, .ref 64, .ref 66]))) : AM X l yX8_doAct cX8_doAct 6 (some .int) 2 0 0 [.ref 0, .int 10, .int a2, .int a3, .null] f n (EXO f [(0, .inr (8, [.ref 1, .ref 3, .ref 8, .ref 13, .ref 18, .ref 59, .ref 115, .ref 171, .ref 178, .int 0, .int 0, .int 0, .int 0, .int (-1)]))] (some (.int 1)) n) := by
  refine AM.of (by decide +kernel) rfl (Nat.le_of_ble_eq_true rfl) (fun p e s m args below meth c C hnm => ?_)
  refine ao_start ?_
  refine aw_nl [some (.ref 0), some (.int 10), some (.int a2), some (.int a3), some (.null), none] rfl ?_
  obtain ⟨q0a, q0b⟩ := q0
  obtain ⟨q1a, q1b⟩ := q1
  refine aw_ald_n C dX8_doAct_0 rfl ?_
  refine aw_iconst C 0 dX8_doAct_1 ki_0 ?_
  refine ao_put C [(0, .inr (8, [.ref 1, .ref 3, .ref 8, .ref 13, .ref 18, .ref 59, .ref 115, .ref 171, .ref 178, .int 0, .int 0, .int 0, .int 0, .int (-1)]))] gf_X8_334 cf8 nf8_10 h0 (Nat.le_of_ble_eq_true rfl) (by decide) (by decide) dX8_doAct_2 rfl ?_
  refine aw_iload_n C dX8_doAct_5 rfl ?_
  refine aw_tabIn C (off := 191) 197 dX8_doAct_6 (by decide) (by decide) (by decide) (by decide) ?_
  refine aw_ald_n C dX8_doAct_197 rfl ?_
  refine aw_iload_n C dX8_doAct_198 rfl ?_
  refine aw_iload_n C dX8_doAct_199 rfl ?_
  refine ao_callV C (ci := 8) (b := 0) [.int a2, .int a3] [(0, .inr (8, [.ref 1, .ref 3, .ref 8, .ref 13, .ref 18, .ref 59, .ref 115, .ref 171, .ref 178, .int 0, .int 0, .int 0, .int 0, .int (-1)]))] mv_X8_347 rfl rfl rfl (c_X8_swapPieces_490 ⟨by omega, by omega⟩ ⟨by omega, by omega⟩ rfl h59) rfl dX8_doAct_200 (Nat.le_of_ble_eq_true rfl) (Nat.le_of_ble_eq_true rfl) rfl (Nat.le_of_ble_eq_true rfl) (Nat.le_of_ble_eq_true rfl) (Nat.le_of_ble_eq_true rfl) rfl ?_
  exact aw_iret C rfl rfl dX8_doAct_203 (Nat.le_of_ble_eq_true rfl) (Nat.le_of_ble_eq_true rfl) ⟨rfl, rfl, rfl⟩

