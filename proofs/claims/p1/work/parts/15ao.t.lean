set_option maxHeartbeats 4000000 in
set_option maxRecDepth 100000 in
theorem c_X9_allWords_657 {X : GX} {l : Launch} {f : AH} {n : Nat} (h181 : f 181 = some (.inr (9, (.int 0 :: .ref 182 :: .ref 183 :: .ref 184 :: .ref 185 :: .int 0 :: .int 0 :: .int 0 :: .ref 186 :: .int 0 :: .int 0 :: .int 0 :: .int (-1) :: .ref 187 :: .ref 188 :: .ref 189 :: .int 0 :: .ref 190 :: .ref 191 :: .ref 192 :: .ref 193 :: .ref 194 :: .int 0 :: .ref 195 :: .ref 196 :: .ref 197 :: .int 0 :: .ref 198 :: .ref 199 :: .ref 200 :: .ref 201 :: .ref 202 :: .ref 203 :: .int 0 :: .ref 204 :: .ref 205 :: .ref 206 :: .ref 207 :: .ref 208 :: .ref 209 :: .ref 210 :: .ref 211 :: .ref 212 :: .ref 213 :: .ref 214 :: .int 0 :: .ref 215 :: .ref 216 :: .int 0 :: .ref 217 :: .ref 218 :: .ref 219 :: .ref 220 :: .ref 221 :: .int 0 :: .int 0 :: .int 0 :: .int 0 :: .ref 222 :: .int 0 :: [])))) : AM X l yX9_allWords cX9_allWords 3 (some .int) 0 0 0 [.ref 181] f n (EXO f [] (some (.int 0)) n) := by
  refine AM.of (by decide +kernel) rfl (by decide) (fun p e s m args below meth c C hnm => ?_)
  refine ao_start ?_
  refine aw_nl [some (.ref 181), none, none] rfl ?_
  refine aw_iconst C 0 dX9_allWords_0 ki_0 ?_
  refine aw_istore_n C dX9_allWords_1 (by decide) rfl ?_
  refine aw_nl [some (.ref 181), some (.int 0), none] rfl ?_
  refine aw_iconst C 0 dX9_allWords_2 ki_0 ?_
  refine aw_istore_n C dX9_allWords_3 (by decide) rfl ?_
  refine aw_nl [some (.ref 181), some (.int 0), some (.int 0)] rfl ?_
  refine aw_iload_n C dX9_allWords_4 rfl ?_
  refine aw_ald_n C dX9_allWords_5 rfl ?_
  refine aw_get C gf_X9_204 h181 rfl dX9_allWords_6 ?_
  refine aw_icmp_ge C 26 dX9_allWords_9 (by decide) (fun _ => ?_) (fun q => absurd (by decide) q)
  refine aw_iload_n C dX9_allWords_26 rfl ?_
  exact aw_iret C rfl rfl dX9_allWords_27 (Nat.le_of_ble_eq_true rfl) (Nat.le_of_ble_eq_true rfl) ⟨rfl, rfl, rfl⟩

set_option maxHeartbeats 4000000 in
set_option maxRecDepth 100000 in
theorem c_X9_count_658 {X : GX} {l : Launch} {f : AH} {n : Nat} (h181 : f 181 = some (.inr (9, (.int 0 :: .ref 182 :: .ref 183 :: .ref 184 :: .ref 185 :: .int 0 :: .int 0 :: .int 0 :: .ref 186 :: .int 0 :: .int 0 :: .int 0 :: .int (-1) :: .ref 187 :: .ref 188 :: .ref 189 :: .int 0 :: .ref 190 :: .ref 191 :: .ref 192 :: .ref 193 :: .ref 194 :: .int 0 :: .ref 195 :: .ref 196 :: .ref 197 :: .int 0 :: .ref 198 :: .ref 199 :: .ref 200 :: .ref 201 :: .ref 202 :: .ref 203 :: .int 0 :: .ref 204 :: .ref 205 :: .ref 206 :: .ref 207 :: .ref 208 :: .ref 209 :: .ref 210 :: .ref 211 :: .ref 212 :: .ref 213 :: .ref 214 :: .int 0 :: .ref 215 :: .ref 216 :: .int 0 :: .ref 217 :: .ref 218 :: .ref 219 :: .ref 220 :: .ref 221 :: .int 0 :: .int 0 :: .int 0 :: .int 0 :: .ref 222 :: .int 0 :: [])))) : AM X l yX9_count cX9_count 2 (some .int) 1 0 0 [.ref 181, .int 11] f n (EXO f [(181, .inr (9, (.int 0 :: .ref 182 :: .ref 183 :: .ref 184 :: .ref 185 :: .int 0 :: .int 0 :: .int 0 :: .ref 186 :: .int 0 :: .int 0 :: .int 0 :: .int (-1) :: .ref 187 :: .ref 188 :: .ref 189 :: .int 0 :: .ref 190 :: .ref 191 :: .ref 192 :: .ref 193 :: .ref 194 :: .int 0 :: .ref 195 :: .ref 196 :: .ref 197 :: .int 0 :: .ref 198 :: .ref 199 :: .ref 200 :: .ref 201 :: .ref 202 :: .ref 203 :: .int 0 :: .ref 204 :: .ref 205 :: .ref 206 :: .ref 207 :: .ref 208 :: .ref 209 :: .ref 210 :: .ref 211 :: .ref 212 :: .ref 213 :: .ref 214 :: .int 0 :: .ref 215 :: .ref 216 :: .int 0 :: .ref 217 :: .ref 218 :: .ref 219 :: .ref 220 :: .ref 221 :: .int 0 :: .int 0 :: .int 0 :: .int 0 :: .ref 222 :: .int 0 :: [])))] (some (.int 0)) n) := by
  refine AM.of (by decide +kernel) rfl (by decide) (fun p e s m args below meth c C hnm => ?_)
  refine ao_start ?_
  refine aw_nl [some (.ref 181), some (.int 11)] rfl ?_
  refine aw_ald_n C dX9_count_0 rfl ?_
  refine aw_iconst C 0 dX9_count_1 ki_0 ?_
  refine ao_put C [(181, .inr (9, (.int 0 :: .ref 182 :: .ref 183 :: .ref 184 :: .ref 185 :: .int 0 :: .int 0 :: .int 0 :: .ref 186 :: .int 0 :: .int 0 :: .int 0 :: .int (-1) :: .ref 187 :: .ref 188 :: .ref 189 :: .int 0 :: .ref 190 :: .ref 191 :: .ref 192 :: .ref 193 :: .ref 194 :: .int 0 :: .ref 195 :: .ref 196 :: .ref 197 :: .int 0 :: .ref 198 :: .ref 199 :: .ref 200 :: .ref 201 :: .ref 202 :: .ref 203 :: .int 0 :: .ref 204 :: .ref 205 :: .ref 206 :: .ref 207 :: .ref 208 :: .ref 209 :: .ref 210 :: .ref 211 :: .ref 212 :: .ref 213 :: .ref 214 :: .int 0 :: .ref 215 :: .ref 216 :: .int 0 :: .ref 217 :: .ref 218 :: .ref 219 :: .ref 220 :: .ref 221 :: .int 0 :: .int 0 :: .int 0 :: .int 0 :: .ref 222 :: .int 0 :: [])))] gf_X9_138 cf9 nf9_0 h181 (Nat.le_of_ble_eq_true rfl) rfl rfl dX9_count_2 rfl ?_
  refine aw_iload_n C dX9_count_5 rfl ?_
  refine aw_tabIn C (off := 141) 147 dX9_count_6 (by decide) (by decide) (by decide) (by decide) ?_
  refine aw_ald_n C dX9_count_147 rfl ?_
  refine ao_callV C (ci := 9) (b := 181) [] [(181, .inr (9, (.int 0 :: .ref 182 :: .ref 183 :: .ref 184 :: .ref 185 :: .int 0 :: .int 0 :: .int 0 :: .ref 186 :: .int 0 :: .int 0 :: .int 0 :: .int (-1) :: .ref 187 :: .ref 188 :: .ref 189 :: .int 0 :: .ref 190 :: .ref 191 :: .ref 192 :: .ref 193 :: .ref 194 :: .int 0 :: .ref 195 :: .ref 196 :: .ref 197 :: .int 0 :: .ref 198 :: .ref 199 :: .ref 200 :: .ref 201 :: .ref 202 :: .ref 203 :: .int 0 :: .ref 204 :: .ref 205 :: .ref 206 :: .ref 207 :: .ref 208 :: .ref 209 :: .ref 210 :: .ref 211 :: .ref 212 :: .ref 213 :: .ref 214 :: .int 0 :: .ref 215 :: .ref 216 :: .int 0 :: .ref 217 :: .ref 218 :: .ref 219 :: .ref 220 :: .ref 221 :: .int 0 :: .int 0 :: .int 0 :: .int 0 :: .ref 222 :: .int 0 :: [])))] mv_X9_478 rfl rfl rfl (c_X9_allWords_657 rfl) rfl dX9_count_148 (Nat.le_of_ble_eq_true rfl) (Nat.le_of_ble_eq_true rfl) rfl (Nat.le_of_ble_eq_true rfl) (Nat.le_of_ble_eq_true rfl) (Nat.le_of_ble_eq_true rfl) rfl ?_
  exact aw_iret C rfl rfl dX9_count_151 (Nat.le_of_ble_eq_true rfl) (Nat.le_of_ble_eq_true rfl) ⟨rfl, rfl, rfl⟩

set_option maxHeartbeats 4000000 in
set_option maxRecDepth 100000 in
theorem c_X8_count_659 {X : GX} {l : Launch} {f : AH} {n : Nat} (h0 : f 0 = some (.inr (8, [.ref 1, .ref 3, .ref 8, .ref 13, .ref 18, .ref 59, .ref 115, .ref 171, .ref 178, .int 0, .int 0, .int 0, .int 0, .int (-1)]))) (h3 : f 3 = some (.inr (7, [.ref 4, .int 0, .int (-1), .int 0, .int 1, .int 0, .null, .int 0, .ref 6, .ref 7]))) : AM X l yX8_count cX8_count 2 (some .int) 0 0 0 [.ref 0, .int 12] f n (EXO f [] (some (.int 0)) n) := by
  refine AM.of (by decide +kernel) rfl (by decide) (fun p e s m args below meth c C hnm => ?_)
  refine ao_start ?_
  refine aw_nl [some (.ref 0), some (.int 12)] rfl ?_
  refine aw_iload_n C dX8_count_0 rfl ?_
  refine aw_tabIn C (off := 193) 194 dX8_count_1 (by decide) (by decide) (by decide) (by decide) ?_
  refine aw_ald_n C dX8_count_194 rfl ?_
  refine aw_get C gf_X8_21 h0 rfl dX8_count_195 ?_
  refine aw_get C gf_X8_258 h3 rfl dX8_count_198 ?_
  exact aw_iret C rfl rfl dX8_count_201 (Nat.le_of_ble_eq_true rfl) (Nat.le_of_ble_eq_true rfl) ⟨rfl, rfl, rfl⟩

set_option maxHeartbeats 4000000 in
set_option maxRecDepth 100000 in
theorem c_X9_count_660 {X : GX} {l : Launch} {f : AH} {n : Nat} (h181 : f 181 = some (.inr (9, (.int 0 :: .ref 182 :: .ref 183 :: .ref 184 :: .ref 185 :: .int 0 :: .int 0 :: .int 0 :: .ref 186 :: .int 0 :: .int 0 :: .int 0 :: .int (-1) :: .ref 187 :: .ref 188 :: .ref 189 :: .int 0 :: .ref 190 :: .ref 191 :: .ref 192 :: .ref 193 :: .ref 194 :: .int 0 :: .ref 195 :: .ref 196 :: .ref 197 :: .int 0 :: .ref 198 :: .ref 199 :: .ref 200 :: .ref 201 :: .ref 202 :: .ref 203 :: .int 0 :: .ref 204 :: .ref 205 :: .ref 206 :: .ref 207 :: .ref 208 :: .ref 209 :: .ref 210 :: .ref 211 :: .ref 212 :: .ref 213 :: .ref 214 :: .int 0 :: .ref 215 :: .ref 216 :: .int 0 :: .ref 217 :: .ref 218 :: .ref 219 :: .ref 220 :: .ref 221 :: .int 0 :: .int 0 :: .int 0 :: .int 0 :: .ref 222 :: .int 0 :: [])))) (h182 : f 182 = some (.inl (0, 4347, .inl (tl (upd (upd (fun _ => 0) 2 (-1)) 4 1) 40)))) : AM X l yX9_count cX9_count 2 (some .int) 0 0 0 [.ref 181, .int 12] f n (EXO f [(181, .inr (9, (.int 0 :: .ref 182 :: .ref 183 :: .ref 184 :: .ref 185 :: .int 0 :: .int 0 :: .int 0 :: .ref 186 :: .int 0 :: .int 0 :: .int 0 :: .int (-1) :: .ref 187 :: .ref 188 :: .ref 189 :: .int 0 :: .ref 190 :: .ref 191 :: .ref 192 :: .ref 193 :: .ref 194 :: .int 0 :: .ref 195 :: .ref 196 :: .ref 197 :: .int 0 :: .ref 198 :: .ref 199 :: .ref 200 :: .ref 201 :: .ref 202 :: .ref 203 :: .int 0 :: .ref 204 :: .ref 205 :: .ref 206 :: .ref 207 :: .ref 208 :: .ref 209 :: .ref 210 :: .ref 211 :: .ref 212 :: .ref 213 :: .ref 214 :: .int 0 :: .ref 215 :: .ref 216 :: .int 0 :: .ref 217 :: .ref 218 :: .ref 219 :: .ref 220 :: .ref 221 :: .int 0 :: .int 0 :: .int 0 :: .int 0 :: .ref 222 :: .int 0 :: [])))] (some (.int 0)) n) := by
  refine AM.of (by decide +kernel) rfl (by decide) (fun p e s m args below meth c C hnm => ?_)
  refine ao_start ?_
  refine aw_nl [some (.ref 181), some (.int 12)] rfl ?_
  refine aw_ald_n C dX9_count_0 rfl ?_
  refine aw_iconst C 0 dX9_count_1 ki_0 ?_
  refine ao_put C [(181, .inr (9, (.int 0 :: .ref 182 :: .ref 183 :: .ref 184 :: .ref 185 :: .int 0 :: .int 0 :: .int 0 :: .ref 186 :: .int 0 :: .int 0 :: .int 0 :: .int (-1) :: .ref 187 :: .ref 188 :: .ref 189 :: .int 0 :: .ref 190 :: .ref 191 :: .ref 192 :: .ref 193 :: .ref 194 :: .int 0 :: .ref 195 :: .ref 196 :: .ref 197 :: .int 0 :: .ref 198 :: .ref 199 :: .ref 200 :: .ref 201 :: .ref 202 :: .ref 203 :: .int 0 :: .ref 204 :: .ref 205 :: .ref 206 :: .ref 207 :: .ref 208 :: .ref 209 :: .ref 210 :: .ref 211 :: .ref 212 :: .ref 213 :: .ref 214 :: .int 0 :: .ref 215 :: .ref 216 :: .int 0 :: .ref 217 :: .ref 218 :: .ref 219 :: .ref 220 :: .ref 221 :: .int 0 :: .int 0 :: .int 0 :: .int 0 :: .ref 222 :: .int 0 :: [])))] gf_X9_138 cf9 nf9_0 h181 (Nat.le_of_ble_eq_true rfl) rfl rfl dX9_count_2 rfl ?_
  refine aw_iload_n C dX9_count_5 rfl ?_
  refine aw_tabIn C (off := 146) 152 dX9_count_6 (by decide) (by decide) (by decide) (by decide) ?_
  refine aw_ald_n C dX9_count_152 rfl ?_
  refine aw_get C gf_X9_7 rfl rfl dX9_count_153 ?_
  refine aw_bipush C 42 dX9_count_156 kb_42 ?_
  refine ao_iald C 0 h182 (by unfold vp_in; decide) (by decide : _ = 42) rfl dX9_count_158 ?_
  exact aw_iret C rfl rfl dX9_count_159 (Nat.le_of_ble_eq_true rfl) (Nat.le_of_ble_eq_true rfl) ⟨rfl, rfl, rfl⟩

set_option maxHeartbeats 4000000 in
set_option maxRecDepth 100000 in
theorem c_X1_longestText_661 {X : GX} {l : Launch} {f : AH} {n : Nat} (h59 : f 59 = some (.inr (1, [.ref 60, .ref 62, .ref 74, .int 0, .ref 68, .ref 71, .ref 64, .ref 66]))) : AM X l yX1_longestText cX1_longestText 4 (some .int) 0 0 0 [.ref 59] f n (EXO f [] (some (.int 0)) n) := by
  refine AM.of (by decide +kernel) rfl (by decide) (fun p e s m args below meth c C hnm => ?_)
  refine ao_start ?_
  refine aw_nl [some (.ref 59), none, none, none] rfl ?_
  refine aw_iconst C 0 dX1_longestText_0 ki_0 ?_
  refine aw_istore_n C dX1_longestText_1 (by decide) rfl ?_
  refine aw_nl [some (.ref 59), some (.int 0), none, none] rfl ?_
  refine aw_iconst C 0 dX1_longestText_2 ki_0 ?_
  refine aw_istore_n C dX1_longestText_3 (by decide) rfl ?_
  refine aw_nl [some (.ref 59), some (.int 0), some (.int 0), none] rfl ?_
  refine aw_iload_n C dX1_longestText_4 rfl ?_
  refine aw_ald_n C dX1_longestText_5 rfl ?_
  refine aw_get C gf_X1_46 h59 rfl dX1_longestText_6 ?_
  refine aw_icmp_ge C 41 dX1_longestText_9 (by decide) (fun _ => ?_) (fun q => absurd (by decide) q)
  refine aw_iload_n C dX1_longestText_41 rfl ?_
  exact aw_iret C rfl rfl dX1_longestText_42 (Nat.le_of_ble_eq_true rfl) (Nat.le_of_ble_eq_true rfl) ⟨rfl, rfl, rfl⟩

set_option maxHeartbeats 4000000 in
set_option maxRecDepth 100000 in
theorem c_X8_count_662 {X : GX} {l : Launch} {f : AH} {n : Nat} (h0 : f 0 = some (.inr (8, [.ref 1, .ref 3, .ref 8, .ref 13, .ref 18, .ref 59, .ref 115, .ref 171, .ref 178, .int 0, .int 0, .int 0, .int 0, .int (-1)]))) (h59 : f 59 = some (.inr (1, [.ref 60, .ref 62, .ref 74, .int 0, .ref 68, .ref 71, .ref 64, .ref 66]))) : AM X l yX8_count cX8_count 2 (some .int) 1 0 0 [.ref 0, .int 13] f n (EXO f [] (some (.int 0)) n) := by
  refine AM.of (by decide +kernel) rfl (by decide) (fun p e s m args below meth c C hnm => ?_)
  refine ao_start ?_
  refine aw_nl [some (.ref 0), some (.int 13)] rfl ?_
  refine aw_iload_n C dX8_count_0 rfl ?_
  refine aw_tabIn C (off := 201) 202 dX8_count_1 (by decide) (by decide) (by decide) (by decide) ?_
  refine aw_ald_n C dX8_count_202 rfl ?_
  refine aw_get C gf_X8_38 h0 rfl dX8_count_203 ?_
  refine ao_callV C (ci := 1) (b := 59) [] [] mv_X8_311 rfl rfl h59 (c_X1_longestText_661 h59) rfl dX8_count_206 (Nat.le_of_ble_eq_true rfl) (Nat.le_of_ble_eq_true rfl) rfl (Nat.le_of_ble_eq_true rfl) (Nat.le_of_ble_eq_true rfl) (Nat.le_of_ble_eq_true rfl) rfl ?_
  exact aw_iret C rfl rfl dX8_count_209 (Nat.le_of_ble_eq_true rfl) (Nat.le_of_ble_eq_true rfl) ⟨rfl, rfl, rfl⟩

set_option maxHeartbeats 4000000 in
set_option maxRecDepth 100000 in
theorem c_X9_longest_663 {X : GX} {l : Launch} {f : AH} {n : Nat} (h181 : f 181 = some (.inr (9, (.int 0 :: .ref 182 :: .ref 183 :: .ref 184 :: .ref 185 :: .int 0 :: .int 0 :: .int 0 :: .ref 186 :: .int 0 :: .int 0 :: .int 0 :: .int (-1) :: .ref 187 :: .ref 188 :: .ref 189 :: .int 0 :: .ref 190 :: .ref 191 :: .ref 192 :: .ref 193 :: .ref 194 :: .int 0 :: .ref 195 :: .ref 196 :: .ref 197 :: .int 0 :: .ref 198 :: .ref 199 :: .ref 200 :: .ref 201 :: .ref 202 :: .ref 203 :: .int 0 :: .ref 204 :: .ref 205 :: .ref 206 :: .ref 207 :: .ref 208 :: .ref 209 :: .ref 210 :: .ref 211 :: .ref 212 :: .ref 213 :: .ref 214 :: .int 0 :: .ref 215 :: .ref 216 :: .int 0 :: .ref 217 :: .ref 218 :: .ref 219 :: .ref 220 :: .ref 221 :: .int 0 :: .int 0 :: .int 0 :: .int 0 :: .ref 222 :: .int 0 :: [])))) : AM X l yX9_longest cX9_longest 3 (some .int) 0 0 0 [.ref 181] f n (EXO f [] (some (.int 0)) n) := by
  refine AM.of (by decide +kernel) rfl (by decide) (fun p e s m args below meth c C hnm => ?_)
  refine ao_start ?_
  refine aw_nl [some (.ref 181), none, none] rfl ?_
  refine aw_iconst C 0 dX9_longest_0 ki_0 ?_
  refine aw_istore_n C dX9_longest_1 (by decide) rfl ?_
  refine aw_nl [some (.ref 181), some (.int 0), none] rfl ?_
  refine aw_iconst C 0 dX9_longest_2 ki_0 ?_
  refine aw_istore_n C dX9_longest_3 (by decide) rfl ?_
  refine aw_nl [some (.ref 181), some (.int 0), some (.int 0)] rfl ?_
  refine aw_iload_n C dX9_longest_4 rfl ?_
  refine aw_ald_n C dX9_longest_5 rfl ?_
  refine aw_get C gf_X9_204 h181 rfl dX9_longest_6 ?_
  refine aw_icmp_ge C 35 dX9_longest_9 (by decide) (fun _ => ?_) (fun q => absurd (by decide) q)
  refine aw_iload_n C dX9_longest_35 rfl ?_
  exact aw_iret C rfl rfl dX9_longest_36 (Nat.le_of_ble_eq_true rfl) (Nat.le_of_ble_eq_true rfl) ⟨rfl, rfl, rfl⟩

set_option maxHeartbeats 4000000 in
set_option maxRecDepth 100000 in
theorem c_X9_count_664 {X : GX} {l : Launch} {f : AH} {n : Nat} (h181 : f 181 = some (.inr (9, (.int 0 :: .ref 182 :: .ref 183 :: .ref 184 :: .ref 185 :: .int 0 :: .int 0 :: .int 0 :: .ref 186 :: .int 0 :: .int 0 :: .int 0 :: .int (-1) :: .ref 187 :: .ref 188 :: .ref 189 :: .int 0 :: .ref 190 :: .ref 191 :: .ref 192 :: .ref 193 :: .ref 194 :: .int 0 :: .ref 195 :: .ref 196 :: .ref 197 :: .int 0 :: .ref 198 :: .ref 199 :: .ref 200 :: .ref 201 :: .ref 202 :: .ref 203 :: .int 0 :: .ref 204 :: .ref 205 :: .ref 206 :: .ref 207 :: .ref 208 :: .ref 209 :: .ref 210 :: .ref 211 :: .ref 212 :: .ref 213 :: .ref 214 :: .int 0 :: .ref 215 :: .ref 216 :: .int 0 :: .ref 217 :: .ref 218 :: .ref 219 :: .ref 220 :: .ref 221 :: .int 0 :: .int 0 :: .int 0 :: .int 0 :: .ref 222 :: .int 0 :: [])))) : AM X l yX9_count cX9_count 2 (some .int) 1 0 0 [.ref 181, .int 13] f n (EXO f [(181, .inr (9, (.int 0 :: .ref 182 :: .ref 183 :: .ref 184 :: .ref 185 :: .int 0 :: .int 0 :: .int 0 :: .ref 186 :: .int 0 :: .int 0 :: .int 0 :: .int (-1) :: .ref 187 :: .ref 188 :: .ref 189 :: .int 0 :: .ref 190 :: .ref 191 :: .ref 192 :: .ref 193 :: .ref 194 :: .int 0 :: .ref 195 :: .ref 196 :: .ref 197 :: .int 0 :: .ref 198 :: .ref 199 :: .ref 200 :: .ref 201 :: .ref 202 :: .ref 203 :: .int 0 :: .ref 204 :: .ref 205 :: .ref 206 :: .ref 207 :: .ref 208 :: .ref 209 :: .ref 210 :: .ref 211 :: .ref 212 :: .ref 213 :: .ref 214 :: .int 0 :: .ref 215 :: .ref 216 :: .int 0 :: .ref 217 :: .ref 218 :: .ref 219 :: .ref 220 :: .ref 221 :: .int 0 :: .int 0 :: .int 0 :: .int 0 :: .ref 222 :: .int 0 :: [])))] (some (.int 0)) n) := by
  refine AM.of (by decide +kernel) rfl (by decide) (fun p e s m args below meth c C hnm => ?_)
  refine ao_start ?_
  refine aw_nl [some (.ref 181), some (.int 13)] rfl ?_
  refine aw_ald_n C dX9_count_0 rfl ?_
  refine aw_iconst C 0 dX9_count_1 ki_0 ?_
  refine ao_put C [(181, .inr (9, (.int 0 :: .ref 182 :: .ref 183 :: .ref 184 :: .ref 185 :: .int 0 :: .int 0 :: .int 0 :: .ref 186 :: .int 0 :: .int 0 :: .int 0 :: .int (-1) :: .ref 187 :: .ref 188 :: .ref 189 :: .int 0 :: .ref 190 :: .ref 191 :: .ref 192 :: .ref 193 :: .ref 194 :: .int 0 :: .ref 195 :: .ref 196 :: .ref 197 :: .int 0 :: .ref 198 :: .ref 199 :: .ref 200 :: .ref 201 :: .ref 202 :: .ref 203 :: .int 0 :: .ref 204 :: .ref 205 :: .ref 206 :: .ref 207 :: .ref 208 :: .ref 209 :: .ref 210 :: .ref 211 :: .ref 212 :: .ref 213 :: .ref 214 :: .int 0 :: .ref 215 :: .ref 216 :: .int 0 :: .ref 217 :: .ref 218 :: .ref 219 :: .ref 220 :: .ref 221 :: .int 0 :: .int 0 :: .int 0 :: .int 0 :: .ref 222 :: .int 0 :: [])))] gf_X9_138 cf9 nf9_0 h181 (Nat.le_of_ble_eq_true rfl) rfl rfl dX9_count_2 rfl ?_
  refine aw_iload_n C dX9_count_5 rfl ?_
  refine aw_tabIn C (off := 154) 160 dX9_count_6 (by decide) (by decide) (by decide) (by decide) ?_
  refine aw_ald_n C dX9_count_160 rfl ?_
  refine ao_callV C (ci := 9) (b := 181) [] [(181, .inr (9, (.int 0 :: .ref 182 :: .ref 183 :: .ref 184 :: .ref 185 :: .int 0 :: .int 0 :: .int 0 :: .ref 186 :: .int 0 :: .int 0 :: .int 0 :: .int (-1) :: .ref 187 :: .ref 188 :: .ref 189 :: .int 0 :: .ref 190 :: .ref 191 :: .ref 192 :: .ref 193 :: .ref 194 :: .int 0 :: .ref 195 :: .ref 196 :: .ref 197 :: .int 0 :: .ref 198 :: .ref 199 :: .ref 200 :: .ref 201 :: .ref 202 :: .ref 203 :: .int 0 :: .ref 204 :: .ref 205 :: .ref 206 :: .ref 207 :: .ref 208 :: .ref 209 :: .ref 210 :: .ref 211 :: .ref 212 :: .ref 213 :: .ref 214 :: .int 0 :: .ref 215 :: .ref 216 :: .int 0 :: .ref 217 :: .ref 218 :: .ref 219 :: .ref 220 :: .ref 221 :: .int 0 :: .int 0 :: .int 0 :: .int 0 :: .ref 222 :: .int 0 :: [])))] mv_X9_481 rfl rfl rfl (c_X9_longest_663 rfl) rfl dX9_count_161 (Nat.le_of_ble_eq_true rfl) (Nat.le_of_ble_eq_true rfl) rfl (Nat.le_of_ble_eq_true rfl) (Nat.le_of_ble_eq_true rfl) (Nat.le_of_ble_eq_true rfl) rfl ?_
  exact aw_iret C rfl rfl dX9_count_164 (Nat.le_of_ble_eq_true rfl) (Nat.le_of_ble_eq_true rfl) ⟨rfl, rfl, rfl⟩

set_option maxHeartbeats 4000000 in
set_option maxRecDepth 100000 in
theorem c_X8_count_665 {X : GX} {l : Launch} {f : AH} {n : Nat} (h0 : f 0 = some (.inr (8, [.ref 1, .ref 3, .ref 8, .ref 13, .ref 18, .ref 59, .ref 115, .ref 171, .ref 178, .int 0, .int 0, .int 0, .int 0, .int (-1)]))) : AM X l yX8_count cX8_count 2 (some .int) 0 0 0 [.ref 0, .int 14] f n (EXO f [] (some (.int 0)) n) := by
  refine AM.of (by decide +kernel) rfl (by decide) (fun p e s m args below meth c C hnm => ?_)
  refine ao_start ?_
  refine aw_nl [some (.ref 0), some (.int 14)] rfl ?_
  refine aw_iload_n C dX8_count_0 rfl ?_
  refine aw_tabIn C (off := 209) 210 dX8_count_1 (by decide) (by decide) (by decide) (by decide) ?_
  refine aw_ald_n C dX8_count_210 rfl ?_
  refine aw_get C gf_X8_123 h0 rfl dX8_count_211 ?_
  exact aw_iret C rfl rfl dX8_count_214 (Nat.le_of_ble_eq_true rfl) (Nat.le_of_ble_eq_true rfl) ⟨rfl, rfl, rfl⟩

set_option maxHeartbeats 4000000 in
set_option maxRecDepth 100000 in
theorem c_X9_count_666 {X : GX} {l : Launch} {f : AH} {n : Nat} (h181 : f 181 = some (.inr (9, (.int 0 :: .ref 182 :: .ref 183 :: .ref 184 :: .ref 185 :: .int 0 :: .int 0 :: .int 0 :: .ref 186 :: .int 0 :: .int 0 :: .int 0 :: .int (-1) :: .ref 187 :: .ref 188 :: .ref 189 :: .int 0 :: .ref 190 :: .ref 191 :: .ref 192 :: .ref 193 :: .ref 194 :: .int 0 :: .ref 195 :: .ref 196 :: .ref 197 :: .int 0 :: .ref 198 :: .ref 199 :: .ref 200 :: .ref 201 :: .ref 202 :: .ref 203 :: .int 0 :: .ref 204 :: .ref 205 :: .ref 206 :: .ref 207 :: .ref 208 :: .ref 209 :: .ref 210 :: .ref 211 :: .ref 212 :: .ref 213 :: .ref 214 :: .int 0 :: .ref 215 :: .ref 216 :: .int 0 :: .ref 217 :: .ref 218 :: .ref 219 :: .ref 220 :: .ref 221 :: .int 0 :: .int 0 :: .int 0 :: .int 0 :: .ref 222 :: .int 0 :: [])))) : AM X l yX9_count cX9_count 2 (some .int) 0 0 0 [.ref 181, .int 14] f n (EXO f [(181, .inr (9, (.int 0 :: .ref 182 :: .ref 183 :: .ref 184 :: .ref 185 :: .int 0 :: .int 0 :: .int 0 :: .ref 186 :: .int 0 :: .int 0 :: .int 0 :: .int (-1) :: .ref 187 :: .ref 188 :: .ref 189 :: .int 0 :: .ref 190 :: .ref 191 :: .ref 192 :: .ref 193 :: .ref 194 :: .int 0 :: .ref 195 :: .ref 196 :: .ref 197 :: .int 0 :: .ref 198 :: .ref 199 :: .ref 200 :: .ref 201 :: .ref 202 :: .ref 203 :: .int 0 :: .ref 204 :: .ref 205 :: .ref 206 :: .ref 207 :: .ref 208 :: .ref 209 :: .ref 210 :: .ref 211 :: .ref 212 :: .ref 213 :: .ref 214 :: .int 0 :: .ref 215 :: .ref 216 :: .int 0 :: .ref 217 :: .ref 218 :: .ref 219 :: .ref 220 :: .ref 221 :: .int 0 :: .int 0 :: .int 0 :: .int 0 :: .ref 222 :: .int 0 :: [])))] (some (.int 0)) n) := by
  refine AM.of (by decide +kernel) rfl (by decide) (fun p e s m args below meth c C hnm => ?_)
  refine ao_start ?_
  refine aw_nl [some (.ref 181), some (.int 14)] rfl ?_
  refine aw_ald_n C dX9_count_0 rfl ?_
  refine aw_iconst C 0 dX9_count_1 ki_0 ?_
  refine ao_put C [(181, .inr (9, (.int 0 :: .ref 182 :: .ref 183 :: .ref 184 :: .ref 185 :: .int 0 :: .int 0 :: .int 0 :: .ref 186 :: .int 0 :: .int 0 :: .int 0 :: .int (-1) :: .ref 187 :: .ref 188 :: .ref 189 :: .int 0 :: .ref 190 :: .ref 191 :: .ref 192 :: .ref 193 :: .ref 194 :: .int 0 :: .ref 195 :: .ref 196 :: .ref 197 :: .int 0 :: .ref 198 :: .ref 199 :: .ref 200 :: .ref 201 :: .ref 202 :: .ref 203 :: .int 0 :: .ref 204 :: .ref 205 :: .ref 206 :: .ref 207 :: .ref 208 :: .ref 209 :: .ref 210 :: .ref 211 :: .ref 212 :: .ref 213 :: .ref 214 :: .int 0 :: .ref 215 :: .ref 216 :: .int 0 :: .ref 217 :: .ref 218 :: .ref 219 :: .ref 220 :: .ref 221 :: .int 0 :: .int 0 :: .int 0 :: .int 0 :: .ref 222 :: .int 0 :: [])))] gf_X9_138 cf9 nf9_0 h181 (Nat.le_of_ble_eq_true rfl) rfl rfl dX9_count_2 rfl ?_
  refine aw_iload_n C dX9_count_5 rfl ?_
  refine aw_tabIn C (off := 159) 165 dX9_count_6 (by decide) (by decide) (by decide) (by decide) ?_
  refine aw_ald_n C dX9_count_165 rfl ?_
  refine aw_get C gf_X9_325 rfl rfl dX9_count_166 ?_
  exact aw_iret C rfl rfl dX9_count_169 (Nat.le_of_ble_eq_true rfl) (Nat.le_of_ble_eq_true rfl) ⟨rfl, rfl, rfl⟩

set_option maxHeartbeats 4000000 in
set_option maxRecDepth 100000 in
theorem c_X8_count_667 {X : GX} {l : Launch} {f : AH} {n : Nat} {a1 : Int32} (q0 : 15 ≤ a1.toInt ∧ a1.toInt ≤ 2147483647) : AM X l yX8_count cX8_count 2 (some .int) 0 0 0 [.ref 0, .int a1] f n (EXO f [] (some (.int (-1))) n) := by
  refine AM.of (by decide +kernel) rfl (Nat.le_of_ble_eq_true rfl) (fun p e s m args below meth c C hnm => ?_)
  refine ao_start ?_
  refine aw_nl [some (.ref 0), some (.int a1)] rfl ?_
  obtain ⟨q0a, q0b⟩ := q0
  refine aw_iload_n C dX8_count_0 rfl ?_
  refine aw_tabOut C 215 dX8_count_1 (Or.inr (by omega)) (by decide) ?_
  refine aw_iconst C (-1) dX8_count_215 ki_m1 ?_
  exact aw_iret C rfl rfl dX8_count_216 (Nat.le_of_ble_eq_true rfl) (Nat.le_of_ble_eq_true rfl) ⟨rfl, rfl, rfl⟩

set_option maxHeartbeats 4000000 in
set_option maxRecDepth 100000 in
theorem c_X9_count_668 {X : GX} {l : Launch} {f : AH} {n : Nat} {a1 : Int32} (q0 : 15 ≤ a1.toInt ∧ a1.toInt ≤ 2147483647) (h181 : f 181 = some (.inr (9, (.int 0 :: .ref 182 :: .ref 183 :: .ref 184 :: .ref 185 :: .int 0 :: .int 0 :: .int 0 :: .ref 186 :: .int 0 :: .int 0 :: .int 0 :: .int (-1) :: .ref 187 :: .ref 188 :: .ref 189 :: .int 0 :: .ref 190 :: .ref 191 :: .ref 192 :: .ref 193 :: .ref 194 :: .int 0 :: .ref 195 :: .ref 196 :: .ref 197 :: .int 0 :: .ref 198 :: .ref 199 :: .ref 200 :: .ref 201 :: .ref 202 :: .ref 203 :: .int 0 :: .ref 204 :: .ref 205 :: .ref 206 :: .ref 207 :: .ref 208 :: .ref 209 :: .ref 210 :: .ref 211 :: .ref 212 :: .ref 213 :: .ref 214 :: .int 0 :: .ref 215 :: .ref 216 :: .int 0 :: .ref 217 :: .ref 218 :: .ref 219 :: .ref 220 :: .ref 221 :: .int 0 :: .int 0 :: .int 0 :: .int 0 :: .ref 222 :: .int 0 :: [])))) : AM X l yX9_count cX9_count 2 (some .int) 0 0 0 [.ref 181, .int a1] f n (EXO f [(181, .inr (9, (.int 0 :: .ref 182 :: .ref 183 :: .ref 184 :: .ref 185 :: .int 0 :: .int 0 :: .int 0 :: .ref 186 :: .int 0 :: .int 0 :: .int 0 :: .int (-1) :: .ref 187 :: .ref 188 :: .ref 189 :: .int 0 :: .ref 190 :: .ref 191 :: .ref 192 :: .ref 193 :: .ref 194 :: .int 0 :: .ref 195 :: .ref 196 :: .ref 197 :: .int 0 :: .ref 198 :: .ref 199 :: .ref 200 :: .ref 201 :: .ref 202 :: .ref 203 :: .int 0 :: .ref 204 :: .ref 205 :: .ref 206 :: .ref 207 :: .ref 208 :: .ref 209 :: .ref 210 :: .ref 211 :: .ref 212 :: .ref 213 :: .ref 214 :: .int 0 :: .ref 215 :: .ref 216 :: .int 0 :: .ref 217 :: .ref 218 :: .ref 219 :: .ref 220 :: .ref 221 :: .int 0 :: .int 0 :: .int 0 :: .int 0 :: .ref 222 :: .int 0 :: [])))] (some (.int (-1))) n) := by
  refine AM.of (by decide +kernel) rfl (Nat.le_of_ble_eq_true rfl) (fun p e s m args below meth c C hnm => ?_)
  refine ao_start ?_
  refine aw_nl [some (.ref 181), some (.int a1)] rfl ?_
  obtain ⟨q0a, q0b⟩ := q0
  refine aw_ald_n C dX9_count_0 rfl ?_
  refine aw_iconst C 0 dX9_count_1 ki_0 ?_
  refine ao_put C [(181, .inr (9, (.int 0 :: .ref 182 :: .ref 183 :: .ref 184 :: .ref 185 :: .int 0 :: .int 0 :: .int 0 :: .ref 186 :: .int 0 :: .int 0 :: .int 0 :: .int (-1) :: .ref 187 :: .ref 188 :: .ref 189 :: .int 0 :: .ref 190 :: .ref 191 :: .ref 192 :: .ref 193 :: .ref 194 :: .int 0 :: .ref 195 :: .ref 196 :: .ref 197 :: .int 0 :: .ref 198 :: .ref 199 :: .ref 200 :: .ref 201 :: .ref 202 :: .ref 203 :: .int 0 :: .ref 204 :: .ref 205 :: .ref 206 :: .ref 207 :: .ref 208 :: .ref 209 :: .ref 210 :: .ref 211 :: .ref 212 :: .ref 213 :: .ref 214 :: .int 0 :: .ref 215 :: .ref 216 :: .int 0 :: .ref 217 :: .ref 218 :: .ref 219 :: .ref 220 :: .ref 221 :: .int 0 :: .int 0 :: .int 0 :: .int 0 :: .ref 222 :: .int 0 :: [])))] gf_X9_138 cf9 nf9_0 h181 (Nat.le_of_ble_eq_true rfl) rfl rfl dX9_count_2 rfl ?_
  refine aw_iload_n C dX9_count_5 rfl ?_
  refine aw_tabOut C 170 dX9_count_6 (Or.inr (by omega)) (by decide) ?_
  refine aw_iconst C (-1) dX9_count_170 ki_m1 ?_
  exact aw_iret C rfl rfl dX9_count_171 (Nat.le_of_ble_eq_true rfl) (Nat.le_of_ble_eq_true rfl) ⟨rfl, rfl, rfl⟩

