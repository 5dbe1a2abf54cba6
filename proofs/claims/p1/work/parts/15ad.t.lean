set_option maxHeartbeats 4000000 in
set_option maxRecDepth 100000 in
theorem c_X4_start_170 {X : GX} {l : Launch} {f : AH} {n : Nat} (h178 : f 178 = some (.inr (4, [.int 0, .int 0, .int 0, .int 0, .int 0, .null, .int 0, .ref 179]))) (h1 : f 1 = some (.inr (5, [.ref 2, .int 0]))) : AM X l yX4_start cX4_start 2 none 1 0 0 [.ref 178, .ref 1] f n (EXO f [(178, .inr (4, [.int 0, .int 0, .int 0, .int 0, .int 0, .null, .int 0, .ref 1]))] none n) := by
  refine AM.of (by decide +kernel) rfl (by decide) (fun p e s m args below meth c C hnm => ?_)
  refine ao_start ?_
  refine aw_nl [some (.ref 178), some (.ref 1)] rfl ?_
  refine aw_ald_n C dX4_start_0 rfl ?_
  refine aw_ald_n C dX4_start_1 rfl ?_
  refine ao_put C [(178, .inr (4, [.int 0, .int 0, .int 0, .int 0, .int 0, .null, .int 0, .ref 1]))] gf_X4_14 cf4 nf4_7 h178 (Nat.le_of_ble_eq_true rfl) rfl rfl dX4_start_2 rfl ?_
  refine aw_ald_n C dX4_start_5 rfl ?_
  refine aw_ald_n C dX4_start_6 rfl ?_
  refine aw_get C gf_X4_14 rfl rfl dX4_start_7 ?_
  refine aw_iconst C 0 dX4_start_10 ki_0 ?_
  refine aw_ald_n C dX4_start_11 rfl ?_
  refine aw_get C gf_X4_14 rfl rfl dX4_start_12 ?_
  refine ao_callV C (ci := 5) (b := 1) [] [(178, .inr (4, [.int 0, .int 0, .int 0, .int 0, .int 0, .null, .int 0, .ref 1]))] mv_X4_20 rfl rfl h1 (c_X5_size_129 h1) rfl dX4_start_15 (Nat.le_of_ble_eq_true rfl) (Nat.le_of_ble_eq_true rfl) rfl (Nat.le_of_ble_eq_true rfl) (Nat.le_of_ble_eq_true rfl) (Nat.le_of_ble_eq_true rfl) rfl ?_
  refine ao_callV C (ci := 5) (b := 1) [.int 0, .int 0] [(178, .inr (4, [.int 0, .int 0, .int 0, .int 0, .int 0, .null, .int 0, .ref 1]))] mv_X4_24 rfl rfl h1 (c_X5_behindBlanks_169) rfl dX4_start_18 (Nat.le_of_ble_eq_true rfl) (Nat.le_of_ble_eq_true rfl) rfl (Nat.le_of_ble_eq_true rfl) (Nat.le_of_ble_eq_true rfl) (Nat.le_of_ble_eq_true rfl) rfl ?_
  refine ao_put C [(178, .inr (4, [.int 0, .int 0, .int 0, .int 0, .int 0, .null, .int 0, .ref 1]))] gf_X4_28 cf4 nf4_1 rfl (Nat.le_of_ble_eq_true rfl) rfl rfl dX4_start_21 rfl ?_
  refine aw_ald_n C dX4_start_24 rfl ?_
  refine aw_ald_n C dX4_start_25 rfl ?_
  refine aw_get C gf_X4_28 rfl rfl dX4_start_26 ?_
  refine aw_ald_n C dX4_start_29 rfl ?_
  refine aw_get C gf_X4_14 rfl rfl dX4_start_30 ?_
  refine ao_callV C (ci := 5) (b := 1) [] [(178, .inr (4, [.int 0, .int 0, .int 0, .int 0, .int 0, .null, .int 0, .ref 1]))] mv_X4_20 rfl rfl h1 (c_X5_size_129 h1) rfl dX4_start_33 (Nat.le_of_ble_eq_true rfl) (Nat.le_of_ble_eq_true rfl) rfl (Nat.le_of_ble_eq_true rfl) (Nat.le_of_ble_eq_true rfl) (Nat.le_of_ble_eq_true rfl) rfl ?_
  refine aw_icmp_ge C 43 dX4_start_36 (by decide) (fun _ => ?_) (fun q => absurd (by decide) q)
  refine aw_iconst C 0 dX4_start_43 ki_0 ?_
  refine ao_put C [(178, .inr (4, [.int 0, .int 0, .int 0, .int 0, .int 0, .null, .int 0, .ref 1]))] gf_X4_32 cf4 nf4_0 rfl (Nat.le_of_ble_eq_true rfl) (by decide) (by decide) dX4_start_44 rfl ?_
  exact aw_vret C rfl dX4_start_47 (Nat.le_of_ble_eq_true rfl) (Nat.le_of_ble_eq_true rfl) ⟨rfl, rfl, rfl⟩

set_option maxHeartbeats 4000000 in
set_option maxRecDepth 100000 in
theorem c_X8_acts_171 {X : GX} {l : Launch} {f : AH} {n : Nat} (h0 : f 0 = some (.inr (8, [.ref 1, .ref 3, .ref 8, .ref 13, .ref 18, .ref 59, .ref 115, .ref 171, .ref 178, .int 0, .int 0, .int 0, .int 0, .int (-1)]))) (h3 : f 3 = some (.inr (7, [.ref 4, .int 0, .int (-1), .int 0, .int 1, .int 0, .null, .int 0, .ref 6, .ref 7]))) (h8 : f 8 = some (.inr (7, [.ref 9, .int 0, .int (-1), .int 0, .int 1, .int 0, .null, .int 0, .ref 11, .ref 12]))) (h11 : f 11 = some (.inl (2, 4, .inr (.inr (fun _ => none))))) (h6 : f 6 = some (.inl (2, 4, .inr (.inr (fun _ => none))))) (h12 : f 12 = some (.inl (2, 40, .inr (.inr (fun _ => none))))) (h7 : f 7 = some (.inl (2, 40, .inr (.inr (fun _ => none))))) (h178 : f 178 = some (.inr (4, [.int 0, .int 0, .int 0, .int 0, .int 0, .null, .int 0, .ref 179]))) (h1 : f 1 = some (.inr (5, [.ref 2, .int 0]))) : AM X l yX8_acts cX8_acts 6 (some .int) 2 0 0 [.ref 0] f n (EXO f [(8, .inr (7, [.ref 4, .int 0, .int (-1), .int 0, .int 1, .int 0, .null, .int 0, .ref 11, .ref 12])), (178, .inr (4, [.int 0, .int 0, .int 0, .int 0, .int 0, .null, .int 0, .ref 1])), (0, .inr (8, [.ref 1, .ref 3, .ref 8, .ref 13, .ref 18, .ref 59, .ref 115, .ref 171, .ref 178, .int 0, .int 0, .int 0, .int 0, .int (-1)]))] (some (.int 0)) n) := by
  refine AM.of (by decide +kernel) rfl (by decide) (fun p e s m args below meth c C hnm => ?_)
  refine ao_start ?_
  refine aw_nl [some (.ref 0), none, none, none, none, none] rfl ?_
  refine aw_ald_n C dX8_acts_0 rfl ?_
  refine aw_get C gf_X8_25 h0 rfl dX8_acts_1 ?_
  refine aw_ald_n C dX8_acts_4 rfl ?_
  refine aw_get C gf_X8_21 h0 rfl dX8_acts_5 ?_
  refine ao_callV C (ci := 7) (b := 8) [.ref 3] [(8, .inr (7, [.ref 4, .int 0, .int (-1), .int 0, .int 1, .int 0, .null, .int 0, .ref 11, .ref 12]))] mv_X8_73 rfl rfl h8 (c_X7_copyFrom_168 h3 h8 h11 h6 h12 h7) rfl dX8_acts_8 (Nat.le_of_ble_eq_true rfl) (Nat.le_of_ble_eq_true rfl) rfl (Nat.le_of_ble_eq_true rfl) (Nat.le_of_ble_eq_true rfl) (Nat.le_of_ble_eq_true rfl) rfl ?_
  refine aw_ald_n C dX8_acts_11 rfl ?_
  refine aw_get C gf_X8_55 h0 rfl dX8_acts_12 ?_
  refine aw_ald_n C dX8_acts_15 rfl ?_
  refine aw_get C gf_X8_14 h0 rfl dX8_acts_16 ?_
  refine ao_callV C (ci := 4) (b := 178) [.ref 1] [(8, .inr (7, [.ref 4, .int 0, .int (-1), .int 0, .int 1, .int 0, .null, .int 0, .ref 11, .ref 12])), (178, .inr (4, [.int 0, .int 0, .int 0, .int 0, .int 0, .null, .int 0, .ref 1]))] mv_X8_77 rfl rfl h178 (c_X4_start_170 h178 h1) rfl dX8_acts_19 (Nat.le_of_ble_eq_true rfl) (Nat.le_of_ble_eq_true rfl) rfl (Nat.le_of_ble_eq_true rfl) (Nat.le_of_ble_eq_true rfl) (Nat.le_of_ble_eq_true rfl) rfl ?_
  refine aw_iconst C 0 dX8_acts_22 ki_0 ?_
  refine aw_istore_n C dX8_acts_23 (by decide) rfl ?_
  refine aw_nl [some (.ref 0), some (.int 0), none, none, none, none] rfl ?_
  refine aw_iconst C (-1) dX8_acts_24 ki_m1 ?_
  refine aw_istore_n C dX8_acts_25 (by decide) rfl ?_
  refine aw_nl [some (.ref 0), some (.int 0), some (.int (-1)), none, none, none] rfl ?_
  refine aw_iconst C 0 dX8_acts_26 ki_0 ?_
  refine aw_istore_n C dX8_acts_27 (by decide) rfl ?_
  refine aw_nl [some (.ref 0), some (.int 0), some (.int (-1)), some (.int 0), none, none] rfl ?_
  refine aw_iload_n C dX8_acts_28 rfl ?_
  refine aw_bipush C 14 dX8_acts_29 kb_14 ?_
  refine aw_icmp_gt C 150 dX8_acts_31 (by decide) (fun q => absurd q (by decide)) (fun _ => ?_)
  refine aw_ald_n C dX8_acts_34 rfl ?_
  refine aw_get C gf_X8_55 h0 rfl dX8_acts_35 ?_
  refine aw_get C gf_X8_81 rfl rfl dX8_acts_38 ?_
  refine aw_if_eq C 150 dX8_acts_41 (by decide) (fun _ => ?_) (fun q => absurd (by decide) q)
  refine aw_ald_n C dX8_acts_150 rfl ?_
  refine aw_get C gf_X8_14 h0 rfl dX8_acts_151 ?_
  refine aw_iconst C 0 dX8_acts_154 ki_0 ?_
  refine ao_callV C (ci := 5) (b := 1) [.int 0] [(8, .inr (7, [.ref 4, .int 0, .int (-1), .int 0, .int 1, .int 0, .null, .int 0, .ref 11, .ref 12])), (178, .inr (4, [.int 0, .int 0, .int 0, .int 0, .int 0, .null, .int 0, .ref 1]))] mv_X8_70 rfl rfl h1 (c_X5_cutTo_161 h1) rfl dX8_acts_155 (Nat.le_of_ble_eq_true rfl) (Nat.le_of_ble_eq_true rfl) rfl (Nat.le_of_ble_eq_true rfl) (Nat.le_of_ble_eq_true rfl) (Nat.le_of_ble_eq_true rfl) rfl ?_
  refine aw_ald_n C dX8_acts_158 rfl ?_
  refine aw_iload_n C dX8_acts_159 rfl ?_
  refine ao_put C [(8, .inr (7, [.ref 4, .int 0, .int (-1), .int 0, .int 1, .int 0, .null, .int 0, .ref 11, .ref 12])), (178, .inr (4, [.int 0, .int 0, .int 0, .int 0, .int 0, .null, .int 0, .ref 1])), (0, .inr (8, [.ref 1, .ref 3, .ref 8, .ref 13, .ref 18, .ref 59, .ref 115, .ref 171, .ref 178, .int 0, .int 0, .int 0, .int 0, .int (-1)]))] gf_X8_59 cf8 nf8_13 h0 (Nat.le_of_ble_eq_true rfl) rfl rfl dX8_acts_160 rfl ?_
  refine aw_iload_n C dX8_acts_163 rfl ?_
  refine aw_iconst C (-1) dX8_acts_164 ki_m1 ?_
  refine aw_icmp_eq C 186 dX8_acts_165 (by decide) (fun _ => ?_) (fun q => absurd (by decide) q)
  refine aw_ald_n C dX8_acts_186 rfl ?_
  refine aw_iload_n C dX8_acts_187 rfl ?_
  refine aw_if_le C 195 dX8_acts_188 (by decide) (fun _ => ?_) (fun q => absurd (by decide) q)
  refine aw_ald_n C dX8_acts_195 rfl ?_
  refine aw_get C gf_X8_110 rfl rfl dX8_acts_196 ?_
  refine ao_put C [(8, .inr (7, [.ref 4, .int 0, .int (-1), .int 0, .int 1, .int 0, .null, .int 0, .ref 11, .ref 12])), (178, .inr (4, [.int 0, .int 0, .int 0, .int 0, .int 0, .null, .int 0, .ref 1])), (0, .inr (8, [.ref 1, .ref 3, .ref 8, .ref 13, .ref 18, .ref 59, .ref 115, .ref 171, .ref 178, .int 0, .int 0, .int 0, .int 0, .int (-1)]))] gf_X8_110 cf8 nf8_12 rfl (Nat.le_of_ble_eq_true rfl) rfl rfl dX8_acts_199 rfl ?_
  refine aw_ald_n C dX8_acts_202 rfl ?_
  refine aw_iconst C 0 dX8_acts_203 ki_0 ?_
  refine ao_put C [(8, .inr (7, [.ref 4, .int 0, .int (-1), .int 0, .int 1, .int 0, .null, .int 0, .ref 11, .ref 12])), (178, .inr (4, [.int 0, .int 0, .int 0, .int 0, .int 0, .null, .int 0, .ref 1])), (0, .inr (8, [.ref 1, .ref 3, .ref 8, .ref 13, .ref 18, .ref 59, .ref 115, .ref 171, .ref 178, .int 0, .int 0, .int 0, .int 0, .int (-1)]))] gf_X8_123 cf8 nf8_11 rfl (Nat.le_of_ble_eq_true rfl) rfl rfl dX8_acts_204 rfl ?_
  refine aw_iload_n C dX8_acts_207 rfl ?_
  exact aw_iret C rfl rfl dX8_acts_208 (Nat.le_of_ble_eq_true rfl) (Nat.le_of_ble_eq_true rfl) ⟨rfl, rfl, rfl⟩

set_option maxHeartbeats 4000000 in
set_option maxRecDepth 100000 in
theorem c_L_acts_172 {X : GX} {l : Launch} {f : AH} {n : Nat} (h0 : f 0 = some (.inr (8, [.ref 1, .ref 3, .ref 8, .ref 13, .ref 18, .ref 59, .ref 115, .ref 171, .ref 178, .int 0, .int 0, .int 0, .int 0, .int (-1)]))) (h3 : f 3 = some (.inr (7, [.ref 4, .int 0, .int (-1), .int 0, .int 1, .int 0, .null, .int 0, .ref 6, .ref 7]))) (h8 : f 8 = some (.inr (7, [.ref 9, .int 0, .int (-1), .int 0, .int 1, .int 0, .null, .int 0, .ref 11, .ref 12]))) (h11 : f 11 = some (.inl (2, 4, .inr (.inr (fun _ => none))))) (h6 : f 6 = some (.inl (2, 4, .inr (.inr (fun _ => none))))) (h12 : f 12 = some (.inl (2, 40, .inr (.inr (fun _ => none))))) (h7 : f 7 = some (.inl (2, 40, .inr (.inr (fun _ => none))))) (h178 : f 178 = some (.inr (4, [.int 0, .int 0, .int 0, .int 0, .int 0, .null, .int 0, .ref 179]))) (h1 : f 1 = some (.inr (5, [.ref 2, .int 0]))) (h223 : f 223 = some (.inl (4, 1, .inr (.inl (fun _ => 0))))) : AMW X l yL_acts cL_acts 3 (some .int) [(0, 8, 11, 13)] 3 0 0 [.ref 0, .ref 223] f n (EXO f [(0, .inr (8, [.ref 1, .ref 3, .ref 8, .ref 13, .ref 18, .ref 59, .ref 115, .ref 171, .ref 178, .int 0, .int 0, .int 0, .int 0, .int (-1)])), (178, .inr (4, [.int 0, .int 0, .int 0, .int 0, .int 0, .null, .int 0, .ref 1])), (8, .inr (7, [.ref 4, .int 0, .int (-1), .int 0, .int 1, .int 0, .null, .int 0, .ref 11, .ref 12])), (223, .inl (4, 1, .inr (.inl (vp_updL (fun _ => 0) 0 0))))] (some (.int 0)) n) := by
  refine AMW.of (by decide +kernel) rfl (by decide) (fun p e s m args below meth c C htab => ?_)
  refine ao_start ?_
  refine aw_nl [some (.ref 0), some (.ref 223), none] rfl ?_
  refine aw_ald_n C dL_acts_0 rfl ?_
  refine aw_iconst C 0 dL_acts_1 ki_0 ?_
  refine aw_ald_n C dL_acts_2 rfl ?_
  refine ao_callV C (ci := 8) (b := 0) [] [(0, .inr (8, [.ref 1, .ref 3, .ref 8, .ref 13, .ref 18, .ref 59, .ref 115, .ref 171, .ref 178, .int 0, .int 0, .int 0, .int 0, .int (-1)])), (178, .inr (4, [.int 0, .int 0, .int 0, .int 0, .int 0, .null, .int 0, .ref 1])), (8, .inr (7, [.ref 4, .int 0, .int (-1), .int 0, .int 1, .int 0, .null, .int 0, .ref 11, .ref 12]))] mv_L_7 rfl rfl h0 (c_X8_acts_171 h0 h3 h8 h11 h6 h12 h7 h178 h1) rfl dL_acts_3 (Nat.le_of_ble_eq_true rfl) (Nat.le_of_ble_eq_true rfl) rfl (Nat.le_of_ble_eq_true rfl) (Nat.le_of_ble_eq_true rfl) (Nat.le_of_ble_eq_true rfl) rfl ?_
  refine ae_i2l C 0 dL_acts_6 (by decide) ?_
  refine ao_last C [(0, .inr (8, [.ref 1, .ref 3, .ref 8, .ref 13, .ref 18, .ref 59, .ref 115, .ref 171, .ref 178, .int 0, .int 0, .int 0, .int 0, .int (-1)])), (178, .inr (4, [.int 0, .int 0, .int 0, .int 0, .int 0, .null, .int 0, .ref 1])), (8, .inr (7, [.ref 4, .int 0, .int (-1), .int 0, .int 1, .int 0, .null, .int 0, .ref 11, .ref 12])), (223, .inl (4, 1, .inr (.inl (vp_updL (fun _ => 0) 0 0))))] h223 (by unfold vp_in; decide) (by decide : _ = 0) dL_acts_7 rfl ?_
  refine aw_goto C 14 dL_acts_8 (by decide) ?_
  refine aw_iconst C 0 dL_acts_14 ki_0 ?_
  exact aw_iret C rfl rfl dL_acts_15 (Nat.le_of_ble_eq_true rfl) (Nat.le_of_ble_eq_true rfl) ⟨rfl, rfl, rfl⟩

set_option maxHeartbeats 4000000 in
set_option maxRecDepth 100000 in
theorem c_X9_putsAside_173 {X : GX} {l : Launch} {f : AH} {n : Nat} {g182 : Nat → Int32} (h181 : f 181 = some (.inr (9, (.int 0 :: .ref 182 :: .ref 183 :: .ref 184 :: .ref 185 :: .int 0 :: .int 0 :: .int 0 :: .ref 186 :: .int 0 :: .int 0 :: .int 0 :: .int (-1) :: .ref 187 :: .ref 188 :: .ref 189 :: .int 0 :: .ref 190 :: .ref 191 :: .ref 192 :: .ref 193 :: .ref 194 :: .int 0 :: .ref 195 :: .ref 196 :: .ref 197 :: .int 0 :: .ref 198 :: .ref 199 :: .ref 200 :: .ref 201 :: .ref 202 :: .ref 203 :: .int 0 :: .ref 204 :: .ref 205 :: .ref 206 :: .ref 207 :: .ref 208 :: .ref 209 :: .ref 210 :: .ref 211 :: .ref 212 :: .ref 213 :: .ref 214 :: .int 0 :: .ref 215 :: .ref 216 :: .int 0 :: .ref 217 :: .ref 218 :: .ref 219 :: .ref 220 :: .ref 221 :: .int 0 :: .int 0 :: .int 0 :: .int 0 :: .ref 222 :: .int 0 :: [])))) (h183 : f 183 = some (.inl (0, 4347, .inl (fun _ => 0)))) (h182 : f 182 = some (.inl (0, 4347, .inl g182))) : AM X l yX9_putsAside cX9_putsAside 2 none 0 0 0 [.ref 181] f n (EXO f [(183, .inl (0, 4347, .inl (cpy g182 (fun _ => 0) 4347)))] none n) := by
  refine AM.of (by decide +kernel) rfl (by decide) (fun p e s m args below meth c C hnm => ?_)
  refine ao_start ?_
  refine aw_nl [some (.ref 181), none] rfl ?_
  refine aw_iconst C 0 dX9_putsAside_0 ki_0 ?_
  refine aw_istore_n C dX9_putsAside_1 (by decide) rfl ?_
  refine aw_nl [some (.ref 181), some (.int 0)] rfl ?_
  refine lp_X9_putsAside C (M := 181) (a := 183) (b := 182) (fs := (.int 0 :: .ref 182 :: .ref 183 :: .ref 184 :: .ref 185 :: .int 0 :: .int 0 :: .int 0 :: .ref 186 :: .int 0 :: .int 0 :: .int 0 :: .int (-1) :: .ref 187 :: .ref 188 :: .ref 189 :: .int 0 :: .ref 190 :: .ref 191 :: .ref 192 :: .ref 193 :: .ref 194 :: .int 0 :: .ref 195 :: .ref 196 :: .ref 197 :: .int 0 :: .ref 198 :: .ref 199 :: .ref 200 :: .ref 201 :: .ref 202 :: .ref 203 :: .int 0 :: .ref 204 :: .ref 205 :: .ref 206 :: .ref 207 :: .ref 208 :: .ref 209 :: .ref 210 :: .ref 211 :: .ref 212 :: .ref 213 :: .ref 214 :: .int 0 :: .ref 215 :: .ref 216 :: .int 0 :: .ref 217 :: .ref 218 :: .ref 219 :: .ref 220 :: .ref 221 :: .int 0 :: .int 0 :: .int 0 :: .int 0 :: .ref 222 :: .int 0 :: [])) (g := fun _ => 0) (src := g182) [(183, .inl (0, 4347, .inl (cpy g182 (fun _ => 0) 4347)))] h181 rfl rfl (by decide) (by decide) h183 h182 rfl ?_
  exact aw_vret C rfl dX9_putsAside_27 (Nat.le_of_ble_eq_true rfl) (Nat.le_of_ble_eq_true rfl) ⟨rfl, rfl, rfl⟩

set_option maxHeartbeats 4000000 in
set_option maxRecDepth 100000 in
theorem c_X9_here_174 {X : GX} {l : Launch} {f : AH} {n : Nat} (h181 : f 181 = some (.inr (9, (.int 0 :: .ref 182 :: .ref 183 :: .ref 184 :: .ref 185 :: .int 0 :: .int 0 :: .int 0 :: .ref 186 :: .int 0 :: .int 0 :: .int 0 :: .int (-1) :: .ref 187 :: .ref 188 :: .ref 189 :: .int 0 :: .ref 190 :: .ref 191 :: .ref 192 :: .ref 193 :: .ref 194 :: .int 0 :: .ref 195 :: .ref 196 :: .ref 197 :: .int 0 :: .ref 198 :: .ref 199 :: .ref 200 :: .ref 201 :: .ref 202 :: .ref 203 :: .int 0 :: .ref 204 :: .ref 205 :: .ref 206 :: .ref 207 :: .ref 208 :: .ref 209 :: .ref 210 :: .ref 211 :: .ref 212 :: .ref 213 :: .ref 214 :: .int 0 :: .ref 215 :: .ref 216 :: .int 0 :: .ref 217 :: .ref 218 :: .ref 219 :: .ref 220 :: .ref 221 :: .int 0 :: .int 0 :: .int 0 :: .int 0 :: .ref 222 :: .int 0 :: [])))) : AM X l yX9_here cX9_here 1 (some .int) 0 0 0 [.ref 181] f n (EXO f [] (some (.int 0)) n) := by
  refine AM.of (by decide +kernel) rfl (by decide) (fun p e s m args below meth c C hnm => ?_)
  refine ao_start ?_
  refine aw_nl [some (.ref 181)] rfl ?_
  refine aw_ald_n C dX9_here_0 rfl ?_
  refine aw_get C gf_X9_340 h181 rfl dX9_here_1 ?_
  refine aw_ald_n C dX9_here_4 rfl ?_
  refine aw_get C gf_X9_343 h181 rfl dX9_here_5 ?_
  refine aw_icmp_ge C 38 dX9_here_8 (by decide) (fun _ => ?_) (fun q => absurd (by decide) q)
  refine aw_ald_n C dX9_here_38 rfl ?_
  refine aw_get C gf_X9_340 h181 rfl dX9_here_39 ?_
  exact aw_iret C rfl rfl dX9_here_42 (Nat.le_of_ble_eq_true rfl) (Nat.le_of_ble_eq_true rfl) ⟨rfl, rfl, rfl⟩

set_option maxHeartbeats 4000000 in
set_option maxRecDepth 100000 in
theorem c_X9_acts_175 {X : GX} {l : Launch} {f : AH} {n : Nat} {g182 : Nat → Int32} (h181 : f 181 = some (.inr (9, (.int 0 :: .ref 182 :: .ref 183 :: .ref 184 :: .ref 185 :: .int 0 :: .int 0 :: .int 0 :: .ref 186 :: .int 0 :: .int 0 :: .int 0 :: .int (-1) :: .ref 187 :: .ref 188 :: .ref 189 :: .int 0 :: .ref 190 :: .ref 191 :: .ref 192 :: .ref 193 :: .ref 194 :: .int 0 :: .ref 195 :: .ref 196 :: .ref 197 :: .int 0 :: .ref 198 :: .ref 199 :: .ref 200 :: .ref 201 :: .ref 202 :: .ref 203 :: .int 0 :: .ref 204 :: .ref 205 :: .ref 206 :: .ref 207 :: .ref 208 :: .ref 209 :: .ref 210 :: .ref 211 :: .ref 212 :: .ref 213 :: .ref 214 :: .int 0 :: .ref 215 :: .ref 216 :: .int 0 :: .ref 217 :: .ref 218 :: .ref 219 :: .ref 220 :: .ref 221 :: .int 0 :: .int 0 :: .int 0 :: .int 0 :: .ref 222 :: .int 0 :: [])))) (h183 : f 183 = some (.inl (0, 4347, .inl (fun _ => 0)))) (h182 : f 182 = some (.inl (0, 4347, .inl g182))) : AM X l yX9_acts cX9_acts 4 (some .int) 1 0 0 [.ref 181] f n (EXO f [(181, .inr (9, (.int 0 :: .ref 182 :: .ref 183 :: .ref 184 :: .ref 185 :: .int 0 :: .int 0 :: .int 0 :: .ref 186 :: .int 0 :: .int 0 :: .int 0 :: .int (-1) :: .ref 187 :: .ref 188 :: .ref 189 :: .int 0 :: .ref 190 :: .ref 191 :: .ref 192 :: .ref 193 :: .ref 194 :: .int 0 :: .ref 195 :: .ref 196 :: .ref 197 :: .int 0 :: .ref 198 :: .ref 199 :: .ref 200 :: .ref 201 :: .ref 202 :: .ref 203 :: .int 0 :: .ref 204 :: .ref 205 :: .ref 206 :: .ref 207 :: .ref 208 :: .ref 209 :: .ref 210 :: .ref 211 :: .ref 212 :: .ref 213 :: .ref 214 :: .int 0 :: .ref 215 :: .ref 216 :: .int 0 :: .ref 217 :: .ref 218 :: .ref 219 :: .ref 220 :: .ref 221 :: .int 0 :: .int 0 :: .int 0 :: .int 0 :: .ref 222 :: .int 0 :: []))), (183, .inl (0, 4347, .inl (cpy g182 (fun _ => 0) 4347)))] (some (.int 0)) n) := by
  refine AM.of (by decide +kernel) rfl (by decide) (fun p e s m args below meth c C hnm => ?_)
  refine ao_start ?_
  refine aw_nl [some (.ref 181), none, none, none] rfl ?_
  refine aw_ald_n C dX9_acts_0 rfl ?_
  refine aw_iconst C (-1) dX9_acts_1 ki_m1 ?_
  refine ao_put C [(181, .inr (9, (.int 0 :: .ref 182 :: .ref 183 :: .ref 184 :: .ref 185 :: .int 0 :: .int 0 :: .int 0 :: .ref 186 :: .int 0 :: .int 0 :: .int 0 :: .int (-1) :: .ref 187 :: .ref 188 :: .ref 189 :: .int 0 :: .ref 190 :: .ref 191 :: .ref 192 :: .ref 193 :: .ref 194 :: .int 0 :: .ref 195 :: .ref 196 :: .ref 197 :: .int 0 :: .ref 198 :: .ref 199 :: .ref 200 :: .ref 201 :: .ref 202 :: .ref 203 :: .int 0 :: .ref 204 :: .ref 205 :: .ref 206 :: .ref 207 :: .ref 208 :: .ref 209 :: .ref 210 :: .ref 211 :: .ref 212 :: .ref 213 :: .ref 214 :: .int 0 :: .ref 215 :: .ref 216 :: .int 0 :: .ref 217 :: .ref 218 :: .ref 219 :: .ref 220 :: .ref 221 :: .int 0 :: .int 0 :: .int 0 :: .int 0 :: .ref 222 :: .int 0 :: [])))] gf_X9_26 cf9 nf9_12 h181 (Nat.le_of_ble_eq_true rfl) rfl rfl dX9_acts_2 rfl ?_
  refine aw_ald_n C dX9_acts_5 rfl ?_
  refine aw_ald_n C dX9_acts_6 rfl ?_
  refine aw_get C gf_X9_337 rfl rfl dX9_acts_7 ?_
  refine ao_put C [(181, .inr (9, (.int 0 :: .ref 182 :: .ref 183 :: .ref 184 :: .ref 185 :: .int 0 :: .int 0 :: .int 0 :: .ref 186 :: .int 0 :: .int 0 :: .int 0 :: .int (-1) :: .ref 187 :: .ref 188 :: .ref 189 :: .int 0 :: .ref 190 :: .ref 191 :: .ref 192 :: .ref 193 :: .ref 194 :: .int 0 :: .ref 195 :: .ref 196 :: .ref 197 :: .int 0 :: .ref 198 :: .ref 199 :: .ref 200 :: .ref 201 :: .ref 202 :: .ref 203 :: .int 0 :: .ref 204 :: .ref 205 :: .ref 206 :: .ref 207 :: .ref 208 :: .ref 209 :: .ref 210 :: .ref 211 :: .ref 212 :: .ref 213 :: .ref 214 :: .int 0 :: .ref 215 :: .ref 216 :: .int 0 :: .ref 217 :: .ref 218 :: .ref 219 :: .ref 220 :: .ref 221 :: .int 0 :: .int 0 :: .int 0 :: .int 0 :: .ref 222 :: .int 0 :: [])))] gf_X9_343 cf9 nf9_10 rfl (Nat.le_of_ble_eq_true rfl) rfl rfl dX9_acts_10 rfl ?_
  refine aw_ald_n C dX9_acts_13 rfl ?_
  refine aw_iconst C 0 dX9_acts_14 ki_0 ?_
  refine ao_put C [(181, .inr (9, (.int 0 :: .ref 182 :: .ref 183 :: .ref 184 :: .ref 185 :: .int 0 :: .int 0 :: .int 0 :: .ref 186 :: .int 0 :: .int 0 :: .int 0 :: .int (-1) :: .ref 187 :: .ref 188 :: .ref 189 :: .int 0 :: .ref 190 :: .ref 191 :: .ref 192 :: .ref 193 :: .ref 194 :: .int 0 :: .ref 195 :: .ref 196 :: .ref 197 :: .int 0 :: .ref 198 :: .ref 199 :: .ref 200 :: .ref 201 :: .ref 202 :: .ref 203 :: .int 0 :: .ref 204 :: .ref 205 :: .ref 206 :: .ref 207 :: .ref 208 :: .ref 209 :: .ref 210 :: .ref 211 :: .ref 212 :: .ref 213 :: .ref 214 :: .int 0 :: .ref 215 :: .ref 216 :: .int 0 :: .ref 217 :: .ref 218 :: .ref 219 :: .ref 220 :: .ref 221 :: .int 0 :: .int 0 :: .int 0 :: .int 0 :: .ref 222 :: .int 0 :: [])))] gf_X9_337 cf9 nf9_9 rfl (Nat.le_of_ble_eq_true rfl) rfl rfl dX9_acts_15 rfl ?_
  refine aw_ald_n C dX9_acts_18 rfl ?_
  refine aw_iconst C 0 dX9_acts_19 ki_0 ?_
  refine ao_put C [(181, .inr (9, (.int 0 :: .ref 182 :: .ref 183 :: .ref 184 :: .ref 185 :: .int 0 :: .int 0 :: .int 0 :: .ref 186 :: .int 0 :: .int 0 :: .int 0 :: .int (-1) :: .ref 187 :: .ref 188 :: .ref 189 :: .int 0 :: .ref 190 :: .ref 191 :: .ref 192 :: .ref 193 :: .ref 194 :: .int 0 :: .ref 195 :: .ref 196 :: .ref 197 :: .int 0 :: .ref 198 :: .ref 199 :: .ref 200 :: .ref 201 :: .ref 202 :: .ref 203 :: .int 0 :: .ref 204 :: .ref 205 :: .ref 206 :: .ref 207 :: .ref 208 :: .ref 209 :: .ref 210 :: .ref 211 :: .ref 212 :: .ref 213 :: .ref 214 :: .int 0 :: .ref 215 :: .ref 216 :: .int 0 :: .ref 217 :: .ref 218 :: .ref 219 :: .ref 220 :: .ref 221 :: .int 0 :: .int 0 :: .int 0 :: .int 0 :: .ref 222 :: .int 0 :: [])))] gf_X9_340 cf9 nf9_11 rfl (Nat.le_of_ble_eq_true rfl) rfl rfl dX9_acts_20 rfl ?_
  refine aw_ald_n C dX9_acts_23 rfl ?_
  refine ao_callV C (ci := 9) (b := 181) [] [(181, .inr (9, (.int 0 :: .ref 182 :: .ref 183 :: .ref 184 :: .ref 185 :: .int 0 :: .int 0 :: .int 0 :: .ref 186 :: .int 0 :: .int 0 :: .int 0 :: .int (-1) :: .ref 187 :: .ref 188 :: .ref 189 :: .int 0 :: .ref 190 :: .ref 191 :: .ref 192 :: .ref 193 :: .ref 194 :: .int 0 :: .ref 195 :: .ref 196 :: .ref 197 :: .int 0 :: .ref 198 :: .ref 199 :: .ref 200 :: .ref 201 :: .ref 202 :: .ref 203 :: .int 0 :: .ref 204 :: .ref 205 :: .ref 206 :: .ref 207 :: .ref 208 :: .ref 209 :: .ref 210 :: .ref 211 :: .ref 212 :: .ref 213 :: .ref 214 :: .int 0 :: .ref 215 :: .ref 216 :: .int 0 :: .ref 217 :: .ref 218 :: .ref 219 :: .ref 220 :: .ref 221 :: .int 0 :: .int 0 :: .int 0 :: .int 0 :: .ref 222 :: .int 0 :: []))), (183, .inl (0, 4347, .inl (cpy g182 (fun _ => 0) 4347)))] mv_X9_420 rfl rfl rfl (c_X9_putsAside_173 rfl h183 h182) rfl dX9_acts_24 (Nat.le_of_ble_eq_true rfl) (Nat.le_of_ble_eq_true rfl) rfl (Nat.le_of_ble_eq_true rfl) (Nat.le_of_ble_eq_true rfl) (Nat.le_of_ble_eq_true rfl) rfl ?_
  refine aw_iconst C 0 dX9_acts_27 ki_0 ?_
  refine aw_istore_n C dX9_acts_28 (by decide) rfl ?_
  refine aw_nl [some (.ref 181), some (.int 0), none, none] rfl ?_
  refine aw_iconst C 0 dX9_acts_29 ki_0 ?_
  refine aw_istore_n C dX9_acts_30 (by decide) rfl ?_
  refine aw_nl [some (.ref 181), some (.int 0), some (.int 0), none] rfl ?_
  refine aw_ald_n C dX9_acts_31 rfl ?_
  refine ao_callV C (ci := 9) (b := 181) [] [(181, .inr (9, (.int 0 :: .ref 182 :: .ref 183 :: .ref 184 :: .ref 185 :: .int 0 :: .int 0 :: .int 0 :: .ref 186 :: .int 0 :: .int 0 :: .int 0 :: .int (-1) :: .ref 187 :: .ref 188 :: .ref 189 :: .int 0 :: .ref 190 :: .ref 191 :: .ref 192 :: .ref 193 :: .ref 194 :: .int 0 :: .ref 195 :: .ref 196 :: .ref 197 :: .int 0 :: .ref 198 :: .ref 199 :: .ref 200 :: .ref 201 :: .ref 202 :: .ref 203 :: .int 0 :: .ref 204 :: .ref 205 :: .ref 206 :: .ref 207 :: .ref 208 :: .ref 209 :: .ref 210 :: .ref 211 :: .ref 212 :: .ref 213 :: .ref 214 :: .int 0 :: .ref 215 :: .ref 216 :: .int 0 :: .ref 217 :: .ref 218 :: .ref 219 :: .ref 220 :: .ref 221 :: .int 0 :: .int 0 :: .int 0 :: .int 0 :: .ref 222 :: .int 0 :: []))), (183, .inl (0, 4347, .inl (cpy g182 (fun _ => 0) 4347)))] mv_X9_346 rfl rfl rfl (c_X9_here_174 rfl) rfl dX9_acts_32 (Nat.le_of_ble_eq_true rfl) (Nat.le_of_ble_eq_true rfl) rfl (Nat.le_of_ble_eq_true rfl) (Nat.le_of_ble_eq_true rfl) (Nat.le_of_ble_eq_true rfl) rfl ?_
  refine aw_ald_n C dX9_acts_35 rfl ?_
  refine aw_get C gf_X9_343 rfl rfl dX9_acts_36 ?_
  refine aw_icmp_ge C 46 dX9_acts_39 (by decide) (fun _ => ?_) (fun q => absurd (by decide) q)
  refine aw_iconst C 0 dX9_acts_46 ki_0 ?_
  refine aw_istore_n C dX9_acts_47 (by decide) rfl ?_
  refine aw_nl [some (.ref 181), some (.int 0), some (.int 0), some (.int 0)] rfl ?_
  refine aw_iload_n C dX9_acts_48 rfl ?_
  refine aw_if_eq C 154 dX9_acts_49 (by decide) (fun _ => ?_) (fun q => absurd (by decide) q)
  refine aw_ald_n C dX9_acts_154 rfl ?_
  refine aw_ald_n C dX9_acts_155 rfl ?_
  refine aw_get C gf_X9_26 rfl rfl dX9_acts_156 ?_
  refine aw_iconst C (-1) dX9_acts_159 ki_m1 ?_
  refine aw_icmp_ne C 167 dX9_acts_160 (by decide) (fun q => absurd (by decide) q) (fun _ => ?_)
  refine aw_iconst C 0 dX9_acts_163 ki_0 ?_
  refine aw_goto C 168 dX9_acts_164 (by decide) ?_
  refine ao_put C [(181, .inr (9, (.int 0 :: .ref 182 :: .ref 183 :: .ref 184 :: .ref 185 :: .int 0 :: .int 0 :: .int 0 :: .ref 186 :: .int 0 :: .int 0 :: .int 0 :: .int (-1) :: .ref 187 :: .ref 188 :: .ref 189 :: .int 0 :: .ref 190 :: .ref 191 :: .ref 192 :: .ref 193 :: .ref 194 :: .int 0 :: .ref 195 :: .ref 196 :: .ref 197 :: .int 0 :: .ref 198 :: .ref 199 :: .ref 200 :: .ref 201 :: .ref 202 :: .ref 203 :: .int 0 :: .ref 204 :: .ref 205 :: .ref 206 :: .ref 207 :: .ref 208 :: .ref 209 :: .ref 210 :: .ref 211 :: .ref 212 :: .ref 213 :: .ref 214 :: .int 0 :: .ref 215 :: .ref 216 :: .int 0 :: .ref 217 :: .ref 218 :: .ref 219 :: .ref 220 :: .ref 221 :: .int 0 :: .int 0 :: .int 0 :: .int 0 :: .ref 222 :: .int 0 :: []))), (183, .inl (0, 4347, .inl (cpy g182 (fun _ => 0) 4347)))] gf_X9_138 cf9 nf9_0 rfl (Nat.le_of_ble_eq_true rfl) rfl rfl dX9_acts_168 rfl ?_
  refine aw_ald_n C dX9_acts_171 rfl ?_
  refine aw_get C gf_X9_138 rfl rfl dX9_acts_172 ?_
  refine aw_if_ne C 201 dX9_acts_175 (by decide) (fun q => absurd (by decide) q) (fun _ => ?_)
  refine aw_ald_n C dX9_acts_178 rfl ?_
  refine aw_iload_n C dX9_acts_179 rfl ?_
  refine aw_if_le C 187 dX9_acts_180 (by decide) (fun _ => ?_) (fun q => absurd (by decide) q)
  refine aw_ald_n C dX9_acts_187 rfl ?_
  refine aw_get C gf_X9_328 rfl rfl dX9_acts_188 ?_
  refine ao_put C [(181, .inr (9, (.int 0 :: .ref 182 :: .ref 183 :: .ref 184 :: .ref 185 :: .int 0 :: .int 0 :: .int 0 :: .ref 186 :: .int 0 :: .int 0 :: .int 0 :: .int (-1) :: .ref 187 :: .ref 188 :: .ref 189 :: .int 0 :: .ref 190 :: .ref 191 :: .ref 192 :: .ref 193 :: .ref 194 :: .int 0 :: .ref 195 :: .ref 196 :: .ref 197 :: .int 0 :: .ref 198 :: .ref 199 :: .ref 200 :: .ref 201 :: .ref 202 :: .ref 203 :: .int 0 :: .ref 204 :: .ref 205 :: .ref 206 :: .ref 207 :: .ref 208 :: .ref 209 :: .ref 210 :: .ref 211 :: .ref 212 :: .ref 213 :: .ref 214 :: .int 0 :: .ref 215 :: .ref 216 :: .int 0 :: .ref 217 :: .ref 218 :: .ref 219 :: .ref 220 :: .ref 221 :: .int 0 :: .int 0 :: .int 0 :: .int 0 :: .ref 222 :: .int 0 :: []))), (183, .inl (0, 4347, .inl (cpy g182 (fun _ => 0) 4347)))] gf_X9_328 cf9 nf9_7 rfl (Nat.le_of_ble_eq_true rfl) rfl rfl dX9_acts_191 rfl ?_
  refine aw_ald_n C dX9_acts_194 rfl ?_
  refine aw_iconst C 0 dX9_acts_195 ki_0 ?_
  refine ao_put C [(181, .inr (9, (.int 0 :: .ref 182 :: .ref 183 :: .ref 184 :: .ref 185 :: .int 0 :: .int 0 :: .int 0 :: .ref 186 :: .int 0 :: .int 0 :: .int 0 :: .int (-1) :: .ref 187 :: .ref 188 :: .ref 189 :: .int 0 :: .ref 190 :: .ref 191 :: .ref 192 :: .ref 193 :: .ref 194 :: .int 0 :: .ref 195 :: .ref 196 :: .ref 197 :: .int 0 :: .ref 198 :: .ref 199 :: .ref 200 :: .ref 201 :: .ref 202 :: .ref 203 :: .int 0 :: .ref 204 :: .ref 205 :: .ref 206 :: .ref 207 :: .ref 208 :: .ref 209 :: .ref 210 :: .ref 211 :: .ref 212 :: .ref 213 :: .ref 214 :: .int 0 :: .ref 215 :: .ref 216 :: .int 0 :: .ref 217 :: .ref 218 :: .ref 219 :: .ref 220 :: .ref 221 :: .int 0 :: .int 0 :: .int 0 :: .int 0 :: .ref 222 :: .int 0 :: []))), (183, .inl (0, 4347, .inl (cpy g182 (fun _ => 0) 4347)))] gf_X9_325 cf9 nf9_5 rfl (Nat.le_of_ble_eq_true rfl) rfl rfl dX9_acts_196 rfl ?_
  refine aw_iload_n C dX9_acts_199 rfl ?_
  exact aw_iret C rfl rfl dX9_acts_200 (Nat.le_of_ble_eq_true rfl) (Nat.le_of_ble_eq_true rfl) ⟨rfl, rfl, rfl⟩

set_option maxHeartbeats 4000000 in
set_option maxRecDepth 100000 in
theorem c_X9_thrown_176 {X : GX} {l : Launch} {f : AH} {n : Nat} (h181 : f 181 = some (.inr (9, (.int 0 :: .ref 182 :: .ref 183 :: .ref 184 :: .ref 185 :: .int 0 :: .int 0 :: .int 0 :: .ref 186 :: .int 0 :: .int 0 :: .int 0 :: .int (-1) :: .ref 187 :: .ref 188 :: .ref 189 :: .int 0 :: .ref 190 :: .ref 191 :: .ref 192 :: .ref 193 :: .ref 194 :: .int 0 :: .ref 195 :: .ref 196 :: .ref 197 :: .int 0 :: .ref 198 :: .ref 199 :: .ref 200 :: .ref 201 :: .ref 202 :: .ref 203 :: .int 0 :: .ref 204 :: .ref 205 :: .ref 206 :: .ref 207 :: .ref 208 :: .ref 209 :: .ref 210 :: .ref 211 :: .ref 212 :: .ref 213 :: .ref 214 :: .int 0 :: .ref 215 :: .ref 216 :: .int 0 :: .ref 217 :: .ref 218 :: .ref 219 :: .ref 220 :: .ref 221 :: .int 0 :: .int 0 :: .int 0 :: .int 0 :: .ref 222 :: .int 0 :: [])))) : AM X l yX9_thrown cX9_thrown 1 (some .int) 0 0 0 [.ref 181] f n (EXO f [] (some (.int 0)) n) := by
  refine AM.of (by decide +kernel) rfl (by decide) (fun p e s m args below meth c C hnm => ?_)
  refine ao_start ?_
  refine aw_nl [some (.ref 181)] rfl ?_
  refine aw_ald_n C dX9_thrown_0 rfl ?_
  refine aw_get C gf_X9_138 h181 rfl dX9_thrown_1 ?_
  exact aw_iret C rfl rfl dX9_thrown_4 (Nat.le_of_ble_eq_true rfl) (Nat.le_of_ble_eq_true rfl) ⟨rfl, rfl, rfl⟩

set_option maxHeartbeats 4000000 in
set_option maxRecDepth 100000 in
theorem c_X8_fault_177 {X : GX} {l : Launch} {f : AH} {n : Nat} (h0 : f 0 = some (.inr (8, [.ref 1, .ref 3, .ref 8, .ref 13, .ref 18, .ref 59, .ref 115, .ref 171, .ref 178, .int 0, .int 0, .int 0, .int 0, .int (-1)]))) : AM X l yX8_fault cX8_fault 1 (some .int) 0 0 0 [.ref 0] f n (EXO f [] (some (.int (-1))) n) := by
  refine AM.of (by decide +kernel) rfl (by decide) (fun p e s m args below meth c C hnm => ?_)
  refine ao_start ?_
  refine aw_nl [some (.ref 0)] rfl ?_
  refine aw_ald_n C dX8_fault_0 rfl ?_
  refine aw_get C gf_X8_59 h0 rfl dX8_fault_1 ?_
  exact aw_iret C rfl rfl dX8_fault_4 (Nat.le_of_ble_eq_true rfl) (Nat.le_of_ble_eq_true rfl) ⟨rfl, rfl, rfl⟩

set_option maxHeartbeats 4000000 in
set_option maxRecDepth 100000 in
theorem c_X9_fault_178 {X : GX} {l : Launch} {f : AH} {n : Nat} (h181 : f 181 = some (.inr (9, (.int 0 :: .ref 182 :: .ref 183 :: .ref 184 :: .ref 185 :: .int 0 :: .int 0 :: .int 0 :: .ref 186 :: .int 0 :: .int 0 :: .int 0 :: .int (-1) :: .ref 187 :: .ref 188 :: .ref 189 :: .int 0 :: .ref 190 :: .ref 191 :: .ref 192 :: .ref 193 :: .ref 194 :: .int 0 :: .ref 195 :: .ref 196 :: .ref 197 :: .int 0 :: .ref 198 :: .ref 199 :: .ref 200 :: .ref 201 :: .ref 202 :: .ref 203 :: .int 0 :: .ref 204 :: .ref 205 :: .ref 206 :: .ref 207 :: .ref 208 :: .ref 209 :: .ref 210 :: .ref 211 :: .ref 212 :: .ref 213 :: .ref 214 :: .int 0 :: .ref 215 :: .ref 216 :: .int 0 :: .ref 217 :: .ref 218 :: .ref 219 :: .ref 220 :: .ref 221 :: .int 0 :: .int 0 :: .int 0 :: .int 0 :: .ref 222 :: .int 0 :: [])))) : AM X l yX9_fault cX9_fault 1 (some .int) 0 0 0 [.ref 181] f n (EXO f [(181, .inr (9, (.int 0 :: .ref 182 :: .ref 183 :: .ref 184 :: .ref 185 :: .int 0 :: .int 0 :: .int 0 :: .ref 186 :: .int 0 :: .int 0 :: .int 0 :: .int (-1) :: .ref 187 :: .ref 188 :: .ref 189 :: .int 0 :: .ref 190 :: .ref 191 :: .ref 192 :: .ref 193 :: .ref 194 :: .int 0 :: .ref 195 :: .ref 196 :: .ref 197 :: .int 0 :: .ref 198 :: .ref 199 :: .ref 200 :: .ref 201 :: .ref 202 :: .ref 203 :: .int 0 :: .ref 204 :: .ref 205 :: .ref 206 :: .ref 207 :: .ref 208 :: .ref 209 :: .ref 210 :: .ref 211 :: .ref 212 :: .ref 213 :: .ref 214 :: .int 0 :: .ref 215 :: .ref 216 :: .int 0 :: .ref 217 :: .ref 218 :: .ref 219 :: .ref 220 :: .ref 221 :: .int 0 :: .int 0 :: .int 0 :: .int 0 :: .ref 222 :: .int 0 :: [])))] (some (.int (-1))) n) := by
  refine AM.of (by decide +kernel) rfl (by decide) (fun p e s m args below meth c C hnm => ?_)
  refine ao_start ?_
  refine aw_nl [some (.ref 181)] rfl ?_
  refine aw_ald_n C dX9_fault_0 rfl ?_
  refine aw_iconst C 0 dX9_fault_1 ki_0 ?_
  refine ao_put C [(181, .inr (9, (.int 0 :: .ref 182 :: .ref 183 :: .ref 184 :: .ref 185 :: .int 0 :: .int 0 :: .int 0 :: .ref 186 :: .int 0 :: .int 0 :: .int 0 :: .int (-1) :: .ref 187 :: .ref 188 :: .ref 189 :: .int 0 :: .ref 190 :: .ref 191 :: .ref 192 :: .ref 193 :: .ref 194 :: .int 0 :: .ref 195 :: .ref 196 :: .ref 197 :: .int 0 :: .ref 198 :: .ref 199 :: .ref 200 :: .ref 201 :: .ref 202 :: .ref 203 :: .int 0 :: .ref 204 :: .ref 205 :: .ref 206 :: .ref 207 :: .ref 208 :: .ref 209 :: .ref 210 :: .ref 211 :: .ref 212 :: .ref 213 :: .ref 214 :: .int 0 :: .ref 215 :: .ref 216 :: .int 0 :: .ref 217 :: .ref 218 :: .ref 219 :: .ref 220 :: .ref 221 :: .int 0 :: .int 0 :: .int 0 :: .int 0 :: .ref 222 :: .int 0 :: [])))] gf_X9_138 cf9 nf9_0 h181 (Nat.le_of_ble_eq_true rfl) rfl rfl dX9_fault_2 rfl ?_
  refine aw_ald_n C dX9_fault_5 rfl ?_
  refine aw_get C gf_X9_26 rfl rfl dX9_fault_6 ?_
  exact aw_iret C rfl rfl dX9_fault_9 (Nat.le_of_ble_eq_true rfl) (Nat.le_of_ble_eq_true rfl) ⟨rfl, rfl, rfl⟩

set_option maxHeartbeats 4000000 in
set_option maxRecDepth 100000 in
theorem c_X8_why_179 {X : GX} {l : Launch} {f : AH} {n : Nat} (h0 : f 0 = some (.inr (8, [.ref 1, .ref 3, .ref 8, .ref 13, .ref 18, .ref 59, .ref 115, .ref 171, .ref 178, .int 0, .int 0, .int 0, .int 0, .int (-1)]))) : AM X l yX8_why cX8_why 1 (some .int) 0 0 0 [.ref 0] f n (EXO f [] (some (.int 0)) n) := by
  refine AM.of (by decide +kernel) rfl (by decide) (fun p e s m args below meth c C hnm => ?_)
  refine ao_start ?_
  refine aw_nl [some (.ref 0)] rfl ?_
  refine aw_ald_n C dX8_why_0 rfl ?_
  refine aw_get C gf_X8_110 h0 rfl dX8_why_1 ?_
  exact aw_iret C rfl rfl dX8_why_4 (Nat.le_of_ble_eq_true rfl) (Nat.le_of_ble_eq_true rfl) ⟨rfl, rfl, rfl⟩

set_option maxHeartbeats 4000000 in
set_option maxRecDepth 100000 in
theorem c_X9_why_180 {X : GX} {l : Launch} {f : AH} {n : Nat} (h181 : f 181 = some (.inr (9, (.int 0 :: .ref 182 :: .ref 183 :: .ref 184 :: .ref 185 :: .int 0 :: .int 0 :: .int 0 :: .ref 186 :: .int 0 :: .int 0 :: .int 0 :: .int (-1) :: .ref 187 :: .ref 188 :: .ref 189 :: .int 0 :: .ref 190 :: .ref 191 :: .ref 192 :: .ref 193 :: .ref 194 :: .int 0 :: .ref 195 :: .ref 196 :: .ref 197 :: .int 0 :: .ref 198 :: .ref 199 :: .ref 200 :: .ref 201 :: .ref 202 :: .ref 203 :: .int 0 :: .ref 204 :: .ref 205 :: .ref 206 :: .ref 207 :: .ref 208 :: .ref 209 :: .ref 210 :: .ref 211 :: .ref 212 :: .ref 213 :: .ref 214 :: .int 0 :: .ref 215 :: .ref 216 :: .int 0 :: .ref 217 :: .ref 218 :: .ref 219 :: .ref 220 :: .ref 221 :: .int 0 :: .int 0 :: .int 0 :: .int 0 :: .ref 222 :: .int 0 :: [])))) : AM X l yX9_why cX9_why 1 (some .int) 0 0 0 [.ref 181] f n (EXO f [(181, .inr (9, (.int 0 :: .ref 182 :: .ref 183 :: .ref 184 :: .ref 185 :: .int 0 :: .int 0 :: .int 0 :: .ref 186 :: .int 0 :: .int 0 :: .int 0 :: .int (-1) :: .ref 187 :: .ref 188 :: .ref 189 :: .int 0 :: .ref 190 :: .ref 191 :: .ref 192 :: .ref 193 :: .ref 194 :: .int 0 :: .ref 195 :: .ref 196 :: .ref 197 :: .int 0 :: .ref 198 :: .ref 199 :: .ref 200 :: .ref 201 :: .ref 202 :: .ref 203 :: .int 0 :: .ref 204 :: .ref 205 :: .ref 206 :: .ref 207 :: .ref 208 :: .ref 209 :: .ref 210 :: .ref 211 :: .ref 212 :: .ref 213 :: .ref 214 :: .int 0 :: .ref 215 :: .ref 216 :: .int 0 :: .ref 217 :: .ref 218 :: .ref 219 :: .ref 220 :: .ref 221 :: .int 0 :: .int 0 :: .int 0 :: .int 0 :: .ref 222 :: .int 0 :: [])))] (some (.int 0)) n) := by
  refine AM.of (by decide +kernel) rfl (by decide) (fun p e s m args below meth c C hnm => ?_)
  refine ao_start ?_
  refine aw_nl [some (.ref 181)] rfl ?_
  refine aw_ald_n C dX9_why_0 rfl ?_
  refine aw_iconst C 0 dX9_why_1 ki_0 ?_
  refine ao_put C [(181, .inr (9, (.int 0 :: .ref 182 :: .ref 183 :: .ref 184 :: .ref 185 :: .int 0 :: .int 0 :: .int 0 :: .ref 186 :: .int 0 :: .int 0 :: .int 0 :: .int (-1) :: .ref 187 :: .ref 188 :: .ref 189 :: .int 0 :: .ref 190 :: .ref 191 :: .ref 192 :: .ref 193 :: .ref 194 :: .int 0 :: .ref 195 :: .ref 196 :: .ref 197 :: .int 0 :: .ref 198 :: .ref 199 :: .ref 200 :: .ref 201 :: .ref 202 :: .ref 203 :: .int 0 :: .ref 204 :: .ref 205 :: .ref 206 :: .ref 207 :: .ref 208 :: .ref 209 :: .ref 210 :: .ref 211 :: .ref 212 :: .ref 213 :: .ref 214 :: .int 0 :: .ref 215 :: .ref 216 :: .int 0 :: .ref 217 :: .ref 218 :: .ref 219 :: .ref 220 :: .ref 221 :: .int 0 :: .int 0 :: .int 0 :: .int 0 :: .ref 222 :: .int 0 :: [])))] gf_X9_138 cf9 nf9_0 h181 (Nat.le_of_ble_eq_true rfl) rfl rfl dX9_why_2 rfl ?_
  refine aw_ald_n C dX9_why_5 rfl ?_
  refine aw_get C gf_X9_328 rfl rfl dX9_why_6 ?_
  exact aw_iret C rfl rfl dX9_why_9 (Nat.le_of_ble_eq_true rfl) (Nat.le_of_ble_eq_true rfl) ⟨rfl, rfl, rfl⟩

set_option maxHeartbeats 4000000 in
set_option maxRecDepth 100000 in
theorem c_X5_init_181 {X : GX} {l : Launch} {f : AH} (h224 : f 224 = some (.inr (5, [.null, .int 0]))) : AM X l yX5_init cX5_init 2 none 1 1 0 [.ref 224, .int 0] f 225 (EXO f [(225, .inl (0, 0, .inl (fun _ => 0))), (224, .inr (5, [.ref 225, .int 0]))] none 226) := by
  refine AM.of (by decide +kernel) rfl (by decide) (fun p e s m args below meth c C hnm => ?_)
  refine ao_start ?_
  refine aw_nl [some (.ref 224), some (.int 0)] rfl ?_
  refine aw_ald_n C dX5_init_0 rfl ?_
  refine aw_oinit C oi_X5_3 oi2 oi3 dX5_init_1 (Nat.le_of_ble_eq_true rfl) (Nat.le_of_ble_eq_true rfl) ?_
  refine aw_ald_n C dX5_init_4 rfl ?_
  refine aw_iload_n C dX5_init_5 rfl ?_
  refine aw_if_le C 13 dX5_init_6 (by decide) (fun _ => ?_) (fun q => absurd (by decide) q)
  refine aw_iconst C 0 dX5_init_13 ki_0 ?_
  refine ao_newi C 0 [(225, .inl (0, 0, .inl (fun _ => 0)))] (by decide) (by decide) (Nat.le_of_ble_eq_true rfl) (Nat.le_of_ble_eq_true rfl) (Nat.le_of_ble_eq_true rfl) dX5_init_14 rfl ?_
  refine ao_putF C [(225, .inl (0, 0, .inl (fun _ => 0))), (224, .inr (5, [.ref 225, .int 0]))] gf_X5_9 cf5 fi5_0 hnm h224 (Nat.le_of_ble_eq_true rfl) rfl rfl dX5_init_16 rfl ?_
  exact aw_vret C rfl dX5_init_19 (Nat.le_of_ble_eq_true rfl) (Nat.le_of_ble_eq_true rfl) ⟨rfl, rfl, rfl⟩

set_option maxHeartbeats 4000000 in
set_option maxRecDepth 100000 in
theorem c_X5_addPart_182 {X : GX} {l : Launch} {f : AH} {n : Nat} : AM X l yX5_addPart cX5_addPart 6 (some .boolean) 0 0 0 [.ref 224, .ref 1, .int 0, .int 0] f n (EXO f [] (some (.int 1)) n) := by
  refine AM.of (by decide +kernel) rfl (by decide) (fun p e s m args below meth c C hnm => ?_)
  refine ao_start ?_
  refine aw_nl [some (.ref 224), some (.ref 1), some (.int 0), some (.int 0), none, none] rfl ?_
  refine aw_iconst C 1 dX5_addPart_0 ki_1 ?_
  refine aw_istore C dX5_addPart_1 (by decide) rfl ?_
  refine aw_nl [some (.ref 224), some (.ref 1), some (.int 0), some (.int 0), some (.int 1), none] rfl ?_
  refine aw_iload_n C dX5_addPart_3 rfl ?_
  refine aw_istore C dX5_addPart_4 (by decide) rfl ?_
  refine aw_nl [some (.ref 224), some (.ref 1), some (.int 0), some (.int 0), some (.int 1), some (.int 0)] rfl ?_
  refine aw_iload C dX5_addPart_6 rfl ?_
  refine aw_iload_n C dX5_addPart_8 rfl ?_
  refine aw_icmp_ge C 35 dX5_addPart_9 (by decide) (fun _ => ?_) (fun q => absurd (by decide) q)
  refine aw_iload C dX5_addPart_35 rfl ?_
  exact aw_iret C rfl (by decide) dX5_addPart_37 (Nat.le_of_ble_eq_true rfl) (Nat.le_of_ble_eq_true rfl) ⟨rfl, rfl, rfl⟩

set_option maxHeartbeats 4000000 in
set_option maxRecDepth 100000 in
theorem c_X5_part_183 {X : GX} {l : Launch} {f : AH} : AM X l yX5_part cX5_part 4 (some (.object "PieceFiles$Row")) 2 2 2 [.ref 1, .int 0, .int 0] f 224 (EXO f [(224, .inr (5, [.ref 225, .int 0])), (225, .inl (0, 0, .inl (fun _ => 0)))] (some (.ref 224)) 226) := by
  refine AM.of (by decide +kernel) rfl (by decide) (fun p e s m args below meth c C hnm => ?_)
  refine ao_start ?_
  refine aw_nl [some (.ref 1), some (.int 0), some (.int 0), none] rfl ?_
  refine ao_new C [(224, .inr (5, [.null, .int 0]))] nw_X5_10 (Nat.le_of_ble_eq_true rfl) (Nat.le_of_ble_eq_true rfl) dX5_part_0 rfl ?_
  refine aw_dup C dX5_part_3 rfl ?_
  refine aw_iload_n C dX5_part_4 rfl ?_
  refine ao_callI C [.int 0] [(224, .inr (5, [.ref 225, .int 0])), (225, .inl (0, 0, .inl (fun _ => 0)))] mi_X5_27 (c_X5_init_181 rfl) rfl dX5_part_5 (Nat.le_of_ble_eq_true rfl) (Nat.le_of_ble_eq_true rfl) rfl (Nat.le_of_ble_eq_true rfl) (Nat.le_of_ble_eq_true rfl) (Nat.le_of_ble_eq_true rfl) rfl ?_
  refine aw_astore_n C dX5_part_8 (by decide) rfl (Or.inr ⟨_, rfl⟩) ?_
  refine aw_nl [some (.ref 1), some (.int 0), some (.int 0), some (.ref 224)] rfl ?_
  refine aw_ald_n C dX5_part_9 rfl ?_
  refine aw_ald_n C dX5_part_10 rfl ?_
  refine aw_iload_n C dX5_part_11 rfl ?_
  refine aw_iload_n C dX5_part_12 rfl ?_
  refine aw_iload_n C dX5_part_13 rfl ?_
  refine ae_iadd C 0 dX5_part_14 (by decide) ?_
  refine ao_callV C (ci := 5) (b := 224) [.ref 1, .int 0, .int 0] [(224, .inr (5, [.ref 225, .int 0])), (225, .inl (0, 0, .inl (fun _ => 0)))] mv_X5_30 rfl rfl rfl (c_X5_addPart_182) rfl dX5_part_15 (Nat.le_of_ble_eq_true rfl) (Nat.le_of_ble_eq_true rfl) rfl (Nat.le_of_ble_eq_true rfl) (Nat.le_of_ble_eq_true rfl) (Nat.le_of_ble_eq_true rfl) rfl ?_
  refine aw_pop C dX5_part_18 rfl ?_
  refine aw_ald_n C dX5_part_19 rfl ?_
  exact aw_aret C rfl (Or.inr ⟨_, rfl⟩) dX5_part_20 (Nat.le_of_ble_eq_true rfl) (Nat.le_of_ble_eq_true rfl) ⟨rfl, rfl, rfl⟩

set_option maxHeartbeats 4000000 in
set_option maxRecDepth 100000 in
theorem c_X7_forgetTold_184 {X : GX} {l : Launch} {f : AH} {n : Nat} (h3 : f 3 = some (.inr (7, [.ref 224, .int 0, .int (-1), .int 0, .int 1, .int 0, .null, .int 0, .ref 6, .ref 7]))) (h7 : f 7 = some (.inl (2, 40, .inr (.inr (fun _ => none))))) : AM X l yX7_forgetTold cX7_forgetTold 2 none 0 0 0 [.ref 3] f n (EXO f [] none n) := by
  refine AM.of (by decide +kernel) rfl (by decide) (fun p e s m args below meth c C hnm => ?_)
  refine ao_start ?_
  refine aw_nl [some (.ref 3), none] rfl ?_
  refine aw_iconst C 0 dX7_forgetTold_0 ki_0 ?_
  refine aw_istore_n C dX7_forgetTold_1 (by decide) rfl ?_
  refine aw_nl [some (.ref 3), some (.int 0)] rfl ?_
  refine lz_forget C (f := ovl f []) (S := 3) (a := 7) (fs := [.ref 224, .int 0, .int (-1), .int 0, .int 1, .int 0, .null, .int 0, .ref 6, .ref 7]) h3 rfl h7 ?_ 40 0 rfl
  exact aw_vret C rfl dX7_forgetTold_24 (Nat.le_of_ble_eq_true rfl) (Nat.le_of_ble_eq_true rfl) ⟨rfl, rfl, rfl⟩

set_option maxHeartbeats 4000000 in
set_option maxRecDepth 100000 in
theorem c_X5_cutTo_185 {X : GX} {l : Launch} {f : AH} {n : Nat} (h60 : f 60 = some (.inr (5, [.ref 61, .int 0]))) : AM X l yX5_cutTo cX5_cutTo 2 none 0 0 0 [.ref 60, .int 0] f n (EXO f [] none n) := by
  refine AM.of (by decide +kernel) rfl (by decide) (fun p e s m args below meth c C hnm => ?_)
  refine ao_start ?_
  refine aw_nl [some (.ref 60), some (.int 0)] rfl ?_
  refine aw_iload_n C dX5_cutTo_0 rfl ?_
  refine aw_if_lt C 17 dX5_cutTo_1 (by decide) (fun q => absurd q (by decide)) (fun _ => ?_)
  refine aw_iload_n C dX5_cutTo_4 rfl ?_
  refine aw_ald_n C dX5_cutTo_5 rfl ?_
  refine aw_get C gf_X5_15 h60 rfl dX5_cutTo_6 ?_
  refine aw_icmp_ge C 17 dX5_cutTo_9 (by decide) (fun _ => ?_) (fun q => absurd (by decide) q)
  exact aw_vret C rfl dX5_cutTo_17 (Nat.le_of_ble_eq_true rfl) (Nat.le_of_ble_eq_true rfl) ⟨rfl, rfl, rfl⟩

set_option maxHeartbeats 4000000 in
set_option maxRecDepth 100000 in
theorem c_X5_cutTo_186 {X : GX} {l : Launch} {f : AH} {n : Nat} (h62 : f 62 = some (.inr (5, [.ref 63, .int 0]))) : AM X l yX5_cutTo cX5_cutTo 2 none 0 0 0 [.ref 62, .int 0] f n (EXO f [] none n) := by
  refine AM.of (by decide +kernel) rfl (by decide) (fun p e s m args below meth c C hnm => ?_)
  refine ao_start ?_
  refine aw_nl [some (.ref 62), some (.int 0)] rfl ?_
  refine aw_iload_n C dX5_cutTo_0 rfl ?_
  refine aw_if_lt C 17 dX5_cutTo_1 (by decide) (fun q => absurd q (by decide)) (fun _ => ?_)
  refine aw_iload_n C dX5_cutTo_4 rfl ?_
  refine aw_ald_n C dX5_cutTo_5 rfl ?_
  refine aw_get C gf_X5_15 h62 rfl dX5_cutTo_6 ?_
  refine aw_icmp_ge C 17 dX5_cutTo_9 (by decide) (fun _ => ?_) (fun q => absurd (by decide) q)
  exact aw_vret C rfl dX5_cutTo_17 (Nat.le_of_ble_eq_true rfl) (Nat.le_of_ble_eq_true rfl) ⟨rfl, rfl, rfl⟩

set_option maxHeartbeats 4000000 in
set_option maxRecDepth 100000 in
theorem c_X6_start_187 {X : GX} {l : Launch} {f : AH} {n : Nat} (h68 : f 68 = some (.inr (6, [.ref 69, .int 0, .int 0, .int 0, .int 0, .int 0, .int 0, .int 0, .int 0, .int 0]))) : AM X l yX6_start cX6_start 3 none 0 0 0 [.ref 68, .ref 224, .int 0] f n (EXO f [(68, .inr (6, [.ref 224, .int 0, .int 0, .int 0, .int 0, .int 0, .int 0, .int 0, .int 0, .int 0]))] none n) := by
  refine AM.of (by decide +kernel) rfl (by decide) (fun p e s m args below meth c C hnm => ?_)
  refine ao_start ?_
  refine aw_nl [some (.ref 68), some (.ref 224), some (.int 0)] rfl ?_
  refine aw_ald_n C dX6_start_0 rfl ?_
  refine aw_ald_n C dX6_start_1 rfl ?_
  refine ao_put C [(68, .inr (6, [.ref 224, .int 0, .int 0, .int 0, .int 0, .int 0, .int 0, .int 0, .int 0, .int 0]))] gf_X6_14 cf6 nf6_0 h68 (Nat.le_of_ble_eq_true rfl) rfl rfl dX6_start_2 rfl ?_
  refine aw_ald_n C dX6_start_5 rfl ?_
  refine aw_iload_n C dX6_start_6 rfl ?_
  refine ao_put C [(68, .inr (6, [.ref 224, .int 0, .int 0, .int 0, .int 0, .int 0, .int 0, .int 0, .int 0, .int 0]))] gf_X6_20 cf6 nf6_8 rfl (Nat.le_of_ble_eq_true rfl) rfl rfl dX6_start_7 rfl ?_
  refine aw_ald_n C dX6_start_10 rfl ?_
  refine aw_iconst C 0 dX6_start_11 ki_0 ?_
  refine ao_put C [(68, .inr (6, [.ref 224, .int 0, .int 0, .int 0, .int 0, .int 0, .int 0, .int 0, .int 0, .int 0]))] gf_X6_24 cf6 nf6_9 rfl (Nat.le_of_ble_eq_true rfl) rfl rfl dX6_start_12 rfl ?_
  refine aw_ald_n C dX6_start_15 rfl ?_
  refine aw_iconst C 0 dX6_start_16 ki_0 ?_
  refine ao_put C [(68, .inr (6, [.ref 224, .int 0, .int 0, .int 0, .int 0, .int 0, .int 0, .int 0, .int 0, .int 0]))] gf_X6_27 cf6 nf6_3 rfl (Nat.le_of_ble_eq_true rfl) (by decide) (by decide) dX6_start_17 rfl ?_
  refine aw_ald_n C dX6_start_20 rfl ?_
  refine aw_iconst C 0 dX6_start_21 ki_0 ?_
  refine ao_put C [(68, .inr (6, [.ref 224, .int 0, .int 0, .int 0, .int 0, .int 0, .int 0, .int 0, .int 0, .int 0]))] gf_X6_31 cf6 nf6_4 rfl (Nat.le_of_ble_eq_true rfl) rfl rfl dX6_start_22 rfl ?_
  refine aw_ald_n C dX6_start_25 rfl ?_
  refine aw_iconst C 0 dX6_start_26 ki_0 ?_
  refine ao_put C [(68, .inr (6, [.ref 224, .int 0, .int 0, .int 0, .int 0, .int 0, .int 0, .int 0, .int 0, .int 0]))] gf_X6_34 cf6 nf6_5 rfl (Nat.le_of_ble_eq_true rfl) rfl rfl dX6_start_27 rfl ?_
  exact aw_vret C rfl dX6_start_30 (Nat.le_of_ble_eq_true rfl) (Nat.le_of_ble_eq_true rfl) ⟨rfl, rfl, rfl⟩

set_option maxHeartbeats 4000000 in
set_option maxRecDepth 100000 in
theorem c_X5_size_188 {X : GX} {l : Launch} {f : AH} {n : Nat} (h224 : f 224 = some (.inr (5, [.ref 225, .int 0]))) : AM X l yX5_size cX5_size 1 (some .int) 0 0 0 [.ref 224] f n (EXO f [] (some (.int 0)) n) := by
  refine AM.of (by decide +kernel) rfl (by decide) (fun p e s m args below meth c C hnm => ?_)
  refine ao_start ?_
  refine aw_nl [some (.ref 224)] rfl ?_
  refine aw_ald_n C dX5_size_0 rfl ?_
  refine aw_get C gf_X5_15 h224 rfl dX5_size_1 ?_
  exact aw_iret C rfl rfl dX5_size_4 (Nat.le_of_ble_eq_true rfl) (Nat.le_of_ble_eq_true rfl) ⟨rfl, rfl, rfl⟩

set_option maxHeartbeats 4000000 in
set_option maxRecDepth 100000 in
theorem c_X6_next_189 {X : GX} {l : Launch} {f : AH} {n : Nat} (h68 : f 68 = some (.inr (6, [.ref 224, .int 0, .int 0, .int 0, .int 0, .int 0, .int 0, .int 0, .int 0, .int 0]))) (h224 : f 224 = some (.inr (5, [.ref 225, .int 0]))) : AM X l yX6_next cX6_next 2 (some .boolean) 1 0 0 [.ref 68] f n (EXO f [] (some (.int 0)) n) := by
  refine AM.of (by decide +kernel) rfl (by decide) (fun p e s m args below meth c C hnm => ?_)
  refine ao_start ?_
  refine aw_nl [some (.ref 68), none] rfl ?_
  refine aw_iconst C 0 dX6_next_0 ki_0 ?_
  refine aw_istore_n C dX6_next_1 (by decide) rfl ?_
  refine aw_nl [some (.ref 68), some (.int 0)] rfl ?_
  refine aw_iload_n C dX6_next_2 rfl ?_
  refine aw_sipush C 600 dX6_next_3 ks_600 ?_
  refine aw_icmp_gt C 96 dX6_next_6 (by decide) (fun q => absurd q (by decide)) (fun _ => ?_)
  refine aw_ald_n C dX6_next_9 rfl ?_
  refine aw_get C gf_X6_24 h68 rfl dX6_next_10 ?_
  refine aw_ald_n C dX6_next_13 rfl ?_
  refine aw_get C gf_X6_14 h68 rfl dX6_next_14 ?_
  refine ao_callV C (ci := 5) (b := 224) [] [] mv_X6_37 rfl rfl h224 (c_X5_size_188 h224) rfl dX6_next_17 (Nat.le_of_ble_eq_true rfl) (Nat.le_of_ble_eq_true rfl) rfl (Nat.le_of_ble_eq_true rfl) (Nat.le_of_ble_eq_true rfl) (Nat.le_of_ble_eq_true rfl) rfl ?_
  refine aw_icmp_ge C 96 dX6_next_20 (by decide) (fun _ => ?_) (fun q => absurd (by decide) q)
  refine aw_iconst C 0 dX6_next_96 ki_0 ?_
  exact aw_iret C rfl (by decide) dX6_next_97 (Nat.le_of_ble_eq_true rfl) (Nat.le_of_ble_eq_true rfl) ⟨rfl, rfl, rfl⟩

set_option maxHeartbeats 4000000 in
set_option maxRecDepth 100000 in
theorem c_X1_find_190 {X : GX} {l : Launch} {f : AH} {n : Nat} {g74 : Nat → Option Nat} (h59 : f 59 = some (.inr (1, [.ref 60, .ref 62, .ref 74, .int 0, .ref 68, .ref 71, .ref 64, .ref 66]))) (h60 : f 60 = some (.inr (5, [.ref 61, .int 0]))) (h62 : f 62 = some (.inr (5, [.ref 63, .int 0]))) (h3 : f 3 = some (.inr (7, [.ref 224, .int 0, .int (-1), .int 0, .int 1, .int 0, .null, .int 0, .ref 6, .ref 7]))) (h68 : f 68 = some (.inr (6, [.ref 69, .int 0, .int 0, .int 0, .int 0, .int 0, .int 0, .int 0, .int 0, .int 0]))) (h74 : f 74 = some (.inl (1, 40, .inr (.inr g74)))) (h224 : f 224 = some (.inr (5, [.ref 225, .int 0]))) : AM X l yX1_find cX1_find 5 none 2 0 0 [.ref 59, .ref 224, .ref 3] f n (EXO f [(59, .inr (1, [.ref 60, .ref 62, .ref 74, .int 0, .ref 68, .ref 71, .ref 64, .ref 66])), (68, .inr (6, [.ref 224, .int 0, .int 0, .int 0, .int 0, .int 0, .int 0, .int 0, .int 0, .int 0]))] none n) := by
  refine AM.of (by decide +kernel) rfl (by decide) (fun p e s m args below meth c C hnm => ?_)
  refine ao_start ?_
  refine aw_nl [some (.ref 59), some (.ref 224), some (.ref 3), none, none] rfl ?_
  refine aw_ald_n C dX1_find_0 rfl ?_
  refine aw_iconst C 0 dX1_find_1 ki_0 ?_
  refine ao_put C [(59, .inr (1, [.ref 60, .ref 62, .ref 74, .int 0, .ref 68, .ref 71, .ref 64, .ref 66]))] gf_X1_46 cf1 nf1_3 h59 (Nat.le_of_ble_eq_true rfl) rfl rfl dX1_find_2 rfl ?_
  refine aw_ald_n C dX1_find_5 rfl ?_
  refine aw_get C gf_X1_14 rfl rfl dX1_find_6 ?_
  refine aw_iconst C 0 dX1_find_9 ki_0 ?_
  refine ao_callV C (ci := 5) (b := 60) [.int 0] [(59, .inr (1, [.ref 60, .ref 62, .ref 74, .int 0, .ref 68, .ref 71, .ref 64, .ref 66]))] mv_X1_50 rfl rfl h60 (c_X5_cutTo_185 h60) rfl dX1_find_10 (Nat.le_of_ble_eq_true rfl) (Nat.le_of_ble_eq_true rfl) rfl (Nat.le_of_ble_eq_true rfl) (Nat.le_of_ble_eq_true rfl) (Nat.le_of_ble_eq_true rfl) rfl ?_
  refine aw_ald_n C dX1_find_13 rfl ?_
  refine aw_get C gf_X1_20 rfl rfl dX1_find_14 ?_
  refine aw_iconst C 0 dX1_find_17 ki_0 ?_
  refine ao_callV C (ci := 5) (b := 62) [.int 0] [(59, .inr (1, [.ref 60, .ref 62, .ref 74, .int 0, .ref 68, .ref 71, .ref 64, .ref 66]))] mv_X1_50 rfl rfl h62 (c_X5_cutTo_186 h62) rfl dX1_find_18 (Nat.le_of_ble_eq_true rfl) (Nat.le_of_ble_eq_true rfl) rfl (Nat.le_of_ble_eq_true rfl) (Nat.le_of_ble_eq_true rfl) (Nat.le_of_ble_eq_true rfl) rfl ?_
  refine aw_ald_n C dX1_find_21 rfl ?_
  refine aw_get C gf_X1_32 rfl rfl dX1_find_22 ?_
  refine aw_ald_n C dX1_find_25 rfl ?_
  refine aw_ald_n C dX1_find_26 rfl ?_
  refine aw_get C gf_X1_53 h3 rfl dX1_find_27 ?_
  refine ao_callV C (ci := 6) (b := 68) [.ref 224, .int 0] [(59, .inr (1, [.ref 60, .ref 62, .ref 74, .int 0, .ref 68, .ref 71, .ref 64, .ref 66])), (68, .inr (6, [.ref 224, .int 0, .int 0, .int 0, .int 0, .int 0, .int 0, .int 0, .int 0, .int 0]))] mv_X1_58 rfl rfl h68 (c_X6_start_187 h68) rfl dX1_find_30 (Nat.le_of_ble_eq_true rfl) (Nat.le_of_ble_eq_true rfl) rfl (Nat.le_of_ble_eq_true rfl) (Nat.le_of_ble_eq_true rfl) (Nat.le_of_ble_eq_true rfl) rfl ?_
  refine aw_iconst C 0 dX1_find_33 ki_0 ?_
  refine aw_istore_n C dX1_find_34 (by decide) rfl ?_
  refine aw_nl [some (.ref 59), some (.ref 224), some (.ref 3), some (.int 0), none] rfl ?_
  refine aw_iload_n C dX1_find_35 rfl ?_
  refine aw_sipush C 600 dX1_find_36 ks_600 ?_
  refine aw_icmp_gt C 174 dX1_find_39 (by decide) (fun q => absurd q (by decide)) (fun _ => ?_)
  refine aw_ald_n C dX1_find_42 rfl ?_
  refine aw_get C gf_X1_46 rfl rfl dX1_find_43 ?_
  refine aw_ald_n C dX1_find_46 rfl ?_
  refine aw_get C gf_X1_41 rfl rfl dX1_find_47 ?_
  refine aw_alen C (by decide) h74 dX1_find_50 ?_
  refine aw_top 40 (by decide) ?_
  refine aw_icmp_ge C 174 dX1_find_51 (by decide) (fun q => absurd q (by decide)) (fun _ => ?_)
  refine aw_ald_n C dX1_find_54 rfl ?_
  refine aw_get C gf_X1_32 rfl rfl dX1_find_55 ?_
  refine ao_callV C (ci := 6) (b := 68) [] [(59, .inr (1, [.ref 60, .ref 62, .ref 74, .int 0, .ref 68, .ref 71, .ref 64, .ref 66])), (68, .inr (6, [.ref 224, .int 0, .int 0, .int 0, .int 0, .int 0, .int 0, .int 0, .int 0, .int 0]))] mv_X1_62 rfl rfl rfl (c_X6_next_189 rfl h224) rfl dX1_find_58 (Nat.le_of_ble_eq_true rfl) (Nat.le_of_ble_eq_true rfl) rfl (Nat.le_of_ble_eq_true rfl) (Nat.le_of_ble_eq_true rfl) (Nat.le_of_ble_eq_true rfl) rfl ?_
  refine aw_if_eq C 174 dX1_find_61 (by decide) (fun _ => ?_) (fun q => absurd (by decide) q)
  exact aw_vret C rfl dX1_find_174 (Nat.le_of_ble_eq_true rfl) (Nat.le_of_ble_eq_true rfl) ⟨rfl, rfl, rfl⟩

set_option maxHeartbeats 4000000 in
set_option maxRecDepth 100000 in
theorem c_X5_cutTo_191 {X : GX} {l : Launch} {f : AH} {n : Nat} (h172 : f 172 = some (.inr (5, [.ref 173, .int 0]))) : AM X l yX5_cutTo cX5_cutTo 2 none 0 0 0 [.ref 172, .int 0] f n (EXO f [] none n) := by
  refine AM.of (by decide +kernel) rfl (by decide) (fun p e s m args below meth c C hnm => ?_)
  refine ao_start ?_
  refine aw_nl [some (.ref 172), some (.int 0)] rfl ?_
  refine aw_iload_n C dX5_cutTo_0 rfl ?_
  refine aw_if_lt C 17 dX5_cutTo_1 (by decide) (fun q => absurd q (by decide)) (fun _ => ?_)
  refine aw_iload_n C dX5_cutTo_4 rfl ?_
  refine aw_ald_n C dX5_cutTo_5 rfl ?_
  refine aw_get C gf_X5_15 h172 rfl dX5_cutTo_6 ?_
  refine aw_icmp_ge C 17 dX5_cutTo_9 (by decide) (fun _ => ?_) (fun q => absurd (by decide) q)
  exact aw_vret C rfl dX5_cutTo_17 (Nat.le_of_ble_eq_true rfl) (Nat.le_of_ble_eq_true rfl) ⟨rfl, rfl, rfl⟩

set_option maxHeartbeats 4000000 in
set_option maxRecDepth 100000 in
theorem c_X1_size_192 {X : GX} {l : Launch} {f : AH} {n : Nat} (h59 : f 59 = some (.inr (1, [.ref 60, .ref 62, .ref 74, .int 0, .ref 68, .ref 71, .ref 64, .ref 66]))) : AM X l yX1_size cX1_size 1 (some .int) 0 0 0 [.ref 59] f n (EXO f [] (some (.int 0)) n) := by
  refine AM.of (by decide +kernel) rfl (by decide) (fun p e s m args below meth c C hnm => ?_)
  refine ao_start ?_
  refine aw_nl [some (.ref 59)] rfl ?_
  refine aw_ald_n C dX1_size_0 rfl ?_
  refine aw_get C gf_X1_46 h59 rfl dX1_size_1 ?_
  exact aw_iret C rfl rfl dX1_size_4 (Nat.le_of_ble_eq_true rfl) (Nat.le_of_ble_eq_true rfl) ⟨rfl, rfl, rfl⟩

set_option maxHeartbeats 4000000 in
set_option maxRecDepth 100000 in
theorem c_X5_addPart_193 {X : GX} {l : Launch} {f : AH} {n : Nat} : AM X l yX5_addPart cX5_addPart 6 (some .boolean) 0 0 0 [.ref 172, .ref 224, .int 0, .int 0] f n (EXO f [] (some (.int 1)) n) := by
  refine AM.of (by decide +kernel) rfl (by decide) (fun p e s m args below meth c C hnm => ?_)
  refine ao_start ?_
  refine aw_nl [some (.ref 172), some (.ref 224), some (.int 0), some (.int 0), none, none] rfl ?_
  refine aw_iconst C 1 dX5_addPart_0 ki_1 ?_
  refine aw_istore C dX5_addPart_1 (by decide) rfl ?_
  refine aw_nl [some (.ref 172), some (.ref 224), some (.int 0), some (.int 0), some (.int 1), none] rfl ?_
  refine aw_iload_n C dX5_addPart_3 rfl ?_
  refine aw_istore C dX5_addPart_4 (by decide) rfl ?_
  refine aw_nl [some (.ref 172), some (.ref 224), some (.int 0), some (.int 0), some (.int 1), some (.int 0)] rfl ?_
  refine aw_iload C dX5_addPart_6 rfl ?_
  refine aw_iload_n C dX5_addPart_8 rfl ?_
  refine aw_icmp_ge C 35 dX5_addPart_9 (by decide) (fun _ => ?_) (fun q => absurd (by decide) q)
  refine aw_iload C dX5_addPart_35 rfl ?_
  exact aw_iret C rfl (by decide) dX5_addPart_37 (Nat.le_of_ble_eq_true rfl) (Nat.le_of_ble_eq_true rfl) ⟨rfl, rfl, rfl⟩

set_option maxHeartbeats 4000000 in
set_option maxRecDepth 100000 in
theorem c_X0_make_194 {X : GX} {l : Launch} {f : AH} {n : Nat} (h171 : f 171 = some (.inr (0, [.ref 172, .ref 174, .ref 176, .int 0]))) (h172 : f 172 = some (.inr (5, [.ref 173, .int 0]))) (h59 : f 59 = some (.inr (1, [.ref 60, .ref 62, .ref 74, .int 0, .ref 68, .ref 71, .ref 64, .ref 66]))) (h3 : f 3 = some (.inr (7, [.ref 224, .int 0, .int (-1), .int 0, .int 1, .int 0, .null, .int 0, .ref 6, .ref 7]))) (h224 : f 224 = some (.inr (5, [.ref 225, .int 0]))) : AM X l yX0_make cX0_make 8 (some .boolean) 1 0 0 [.ref 171, .ref 3, .ref 59] f n (EXO f [] (some (.int 1)) n) := by
  refine AM.of (by decide +kernel) rfl (by decide) (fun p e s m args below meth c C hnm => ?_)
  refine ao_start ?_
  refine aw_nl [some (.ref 171), some (.ref 3), some (.ref 59), none, none, none, none, none] rfl ?_
  refine aw_ald_n C dX0_make_0 rfl ?_
  refine aw_get C gf_X0_14 h171 rfl dX0_make_1 ?_
  refine aw_iconst C 0 dX0_make_4 ki_0 ?_
  refine ao_callV C (ci := 5) (b := 172) [.int 0] [] mv_X0_26 rfl rfl h172 (c_X5_cutTo_191 h172) rfl dX0_make_5 (Nat.le_of_ble_eq_true rfl) (Nat.le_of_ble_eq_true rfl) rfl (Nat.le_of_ble_eq_true rfl) (Nat.le_of_ble_eq_true rfl) (Nat.le_of_ble_eq_true rfl) rfl ?_
  refine aw_iconst C 0 dX0_make_8 ki_0 ?_
  refine aw_istore_n C dX0_make_9 (by decide) rfl ?_
  refine aw_nl [some (.ref 171), some (.ref 3), some (.ref 59), some (.int 0), none, none, none, none] rfl ?_
  refine aw_iconst C 1 dX0_make_10 ki_1 ?_
  refine aw_istore C dX0_make_11 (by decide) rfl ?_
  refine aw_nl [some (.ref 171), some (.ref 3), some (.ref 59), some (.int 0), some (.int 1), none, none, none] rfl ?_
  refine aw_iconst C 0 dX0_make_13 ki_0 ?_
  refine aw_istore C dX0_make_14 (by decide) rfl ?_
  refine aw_nl [some (.ref 171), some (.ref 3), some (.ref 59), some (.int 0), some (.int 1), some (.int 0), none, none] rfl ?_
  refine aw_iload C dX0_make_16 rfl ?_
  refine aw_ald_n C dX0_make_18 rfl ?_
  refine ao_callV C (ci := 1) (b := 59) [] [] mv_X0_29 rfl rfl h59 (c_X1_size_192 h59) rfl dX0_make_19 (Nat.le_of_ble_eq_true rfl) (Nat.le_of_ble_eq_true rfl) rfl (Nat.le_of_ble_eq_true rfl) (Nat.le_of_ble_eq_true rfl) (Nat.le_of_ble_eq_true rfl) rfl ?_
  refine aw_icmp_ge C 211 dX0_make_22 (by decide) (fun _ => ?_) (fun q => absurd (by decide) q)
  refine aw_iload C dX0_make_211 rfl ?_
  refine aw_if_eq C 242 dX0_make_213 (by decide) (fun q => absurd q (by decide)) (fun _ => ?_)
  refine aw_ald_n C dX0_make_216 rfl ?_
  refine aw_get C gf_X0_14 h171 rfl dX0_make_217 ?_
  refine aw_ald_n C dX0_make_220 rfl ?_
  refine aw_get C gf_X0_39 h3 rfl dX0_make_221 ?_
  refine aw_iload_n C dX0_make_224 rfl ?_
  refine aw_ald_n C dX0_make_225 rfl ?_
  refine aw_get C gf_X0_39 h3 rfl dX0_make_226 ?_
  refine ao_callV C (ci := 5) (b := 224) [] [] mv_X0_57 rfl rfl h224 (c_X5_size_188 h224) rfl dX0_make_229 (Nat.le_of_ble_eq_true rfl) (Nat.le_of_ble_eq_true rfl) rfl (Nat.le_of_ble_eq_true rfl) (Nat.le_of_ble_eq_true rfl) (Nat.le_of_ble_eq_true rfl) rfl ?_
  refine ao_callV C (ci := 5) (b := 172) [.ref 224, .int 0, .int 0] [] mv_X0_50 rfl rfl h172 (c_X5_addPart_193) rfl dX0_make_232 (Nat.le_of_ble_eq_true rfl) (Nat.le_of_ble_eq_true rfl) rfl (Nat.le_of_ble_eq_true rfl) (Nat.le_of_ble_eq_true rfl) (Nat.le_of_ble_eq_true rfl) rfl ?_
  refine aw_if_eq C 242 dX0_make_235 (by decide) (fun q => absurd q (by decide)) (fun _ => ?_)
  refine aw_iconst C 1 dX0_make_238 ki_1 ?_
  refine aw_goto C 243 dX0_make_239 (by decide) ?_
  exact aw_iret C rfl (by decide) dX0_make_243 (Nat.le_of_ble_eq_true rfl) (Nat.le_of_ble_eq_true rfl) ⟨rfl, rfl, rfl⟩

set_option maxHeartbeats 4000000 in
set_option maxRecDepth 100000 in
theorem c_X8_cutAnew_195 {X : GX} {l : Launch} {f : AH} {n : Nat} {g74 : Nat → Option Nat} (h0 : f 0 = some (.inr (8, [.ref 1, .ref 3, .ref 8, .ref 13, .ref 18, .ref 59, .ref 115, .ref 171, .ref 178, .int 0, .int 0, .int 0, .int 0, .int (-1)]))) (h3 : f 3 = some (.inr (7, [.ref 224, .int 0, .int (-1), .int 0, .int 1, .int 0, .null, .int 0, .ref 6, .ref 7]))) (h7 : f 7 = some (.inl (2, 40, .inr (.inr (fun _ => none))))) (h59 : f 59 = some (.inr (1, [.ref 60, .ref 62, .ref 74, .int 0, .ref 68, .ref 71, .ref 64, .ref 66]))) (h60 : f 60 = some (.inr (5, [.ref 61, .int 0]))) (h62 : f 62 = some (.inr (5, [.ref 63, .int 0]))) (h68 : f 68 = some (.inr (6, [.ref 69, .int 0, .int 0, .int 0, .int 0, .int 0, .int 0, .int 0, .int 0, .int 0]))) (h74 : f 74 = some (.inl (1, 40, .inr (.inr g74)))) (h224 : f 224 = some (.inr (5, [.ref 225, .int 0]))) (h171 : f 171 = some (.inr (0, [.ref 172, .ref 174, .ref 176, .int 0]))) (h172 : f 172 = some (.inr (5, [.ref 173, .int 0]))) : AM X l yX8_cutAnew cX8_cutAnew 1 (some .int) 3 0 0 [.ref 0] f n (EXO f [(0, .inr (8, [.ref 1, .ref 3, .ref 8, .ref 13, .ref 18, .ref 59, .ref 115, .ref 171, .ref 178, .int 0, .int 0, .int 0, .int 0, .int (-1)])), (68, .inr (6, [.ref 224, .int 0, .int 0, .int 0, .int 0, .int 0, .int 0, .int 0, .int 0, .int 0])), (59, .inr (1, [.ref 60, .ref 62, .ref 74, .int 0, .ref 68, .ref 71, .ref 64, .ref 66]))] (some (.int 0)) n) := by
  refine AM.of (by decide +kernel) rfl (by decide) (fun p e s m args below meth c C hnm => ?_)
  refine ao_start ?_
  refine aw_nl [some (.ref 0)] rfl ?_
  refine aw_ald_n C dX8_cutAnew_0 rfl ?_
  refine aw_iconst C 0 dX8_cutAnew_1 ki_0 ?_
  refine ao_put C [(0, .inr (8, [.ref 1, .ref 3, .ref 8, .ref 13, .ref 18, .ref 59, .ref 115, .ref 171, .ref 178, .int 0, .int 0, .int 0, .int 0, .int (-1)]))] gf_X8_334 cf8 nf8_10 h0 (Nat.le_of_ble_eq_true rfl) (by decide) (by decide) dX8_cutAnew_2 rfl ?_
  refine aw_ald_n C dX8_cutAnew_5 rfl ?_
  refine aw_get C gf_X8_21 rfl rfl dX8_cutAnew_6 ?_
  refine ao_callV C (ci := 7) (b := 3) [] [(0, .inr (8, [.ref 1, .ref 3, .ref 8, .ref 13, .ref 18, .ref 59, .ref 115, .ref 171, .ref 178, .int 0, .int 0, .int 0, .int 0, .int (-1)]))] mv_X8_358 rfl rfl h3 (c_X7_forgetTold_184 h3 h7) rfl dX8_cutAnew_9 (Nat.le_of_ble_eq_true rfl) (Nat.le_of_ble_eq_true rfl) rfl (Nat.le_of_ble_eq_true rfl) (Nat.le_of_ble_eq_true rfl) (Nat.le_of_ble_eq_true rfl) rfl ?_
  refine aw_ald_n C dX8_cutAnew_12 rfl ?_
  refine aw_get C gf_X8_38 rfl rfl dX8_cutAnew_13 ?_
  refine aw_ald_n C dX8_cutAnew_16 rfl ?_
  refine aw_get C gf_X8_21 rfl rfl dX8_cutAnew_17 ?_
  refine aw_get C gf_X8_130 h3 rfl dX8_cutAnew_20 ?_
  refine aw_ald_n C dX8_cutAnew_23 rfl ?_
  refine aw_get C gf_X8_21 rfl rfl dX8_cutAnew_24 ?_
  refine ao_callV C (ci := 1) (b := 59) [.ref 224, .ref 3] [(0, .inr (8, [.ref 1, .ref 3, .ref 8, .ref 13, .ref 18, .ref 59, .ref 115, .ref 171, .ref 178, .int 0, .int 0, .int 0, .int 0, .int (-1)])), (68, .inr (6, [.ref 224, .int 0, .int 0, .int 0, .int 0, .int 0, .int 0, .int 0, .int 0, .int 0])), (59, .inr (1, [.ref 60, .ref 62, .ref 74, .int 0, .ref 68, .ref 71, .ref 64, .ref 66]))] mv_X8_361 rfl rfl h59 (c_X1_find_190 h59 h60 h62 h3 h68 h74 h224) rfl dX8_cutAnew_27 (Nat.le_of_ble_eq_true rfl) (Nat.le_of_ble_eq_true rfl) rfl (Nat.le_of_ble_eq_true rfl) (Nat.le_of_ble_eq_true rfl) (Nat.le_of_ble_eq_true rfl) rfl ?_
  refine aw_ald_n C dX8_cutAnew_30 rfl ?_
  refine aw_get C gf_X8_48 rfl rfl dX8_cutAnew_31 ?_
  refine aw_ald_n C dX8_cutAnew_34 rfl ?_
  refine aw_get C gf_X8_21 rfl rfl dX8_cutAnew_35 ?_
  refine aw_ald_n C dX8_cutAnew_38 rfl ?_
  refine aw_get C gf_X8_38 rfl rfl dX8_cutAnew_39 ?_
  refine ao_callV C (ci := 0) (b := 171) [.ref 3, .ref 59] [(0, .inr (8, [.ref 1, .ref 3, .ref 8, .ref 13, .ref 18, .ref 59, .ref 115, .ref 171, .ref 178, .int 0, .int 0, .int 0, .int 0, .int (-1)])), (68, .inr (6, [.ref 224, .int 0, .int 0, .int 0, .int 0, .int 0, .int 0, .int 0, .int 0, .int 0])), (59, .inr (1, [.ref 60, .ref 62, .ref 74, .int 0, .ref 68, .ref 71, .ref 64, .ref 66]))] mv_X8_365 rfl rfl h171 (c_X0_make_194 h171 h172 rfl h3 h224) rfl dX8_cutAnew_42 (Nat.le_of_ble_eq_true rfl) (Nat.le_of_ble_eq_true rfl) rfl (Nat.le_of_ble_eq_true rfl) (Nat.le_of_ble_eq_true rfl) (Nat.le_of_ble_eq_true rfl) rfl ?_
  refine aw_pop C dX8_cutAnew_45 rfl ?_
  refine aw_iconst C 0 dX8_cutAnew_46 ki_0 ?_
  exact aw_iret C rfl rfl dX8_cutAnew_47 (Nat.le_of_ble_eq_true rfl) (Nat.le_of_ble_eq_true rfl) ⟨rfl, rfl, rfl⟩

set_option maxHeartbeats 4000000 in
set_option maxRecDepth 100000 in
theorem c_X8_file_196 {X : GX} {l : Launch} {f : AH} {g74 : Nat → Option Nat} (h0 : f 0 = some (.inr (8, [.ref 1, .ref 3, .ref 8, .ref 13, .ref 18, .ref 59, .ref 115, .ref 171, .ref 178, .int 0, .int 0, .int 0, .int 0, .int (-1)]))) (h1 : f 1 = some (.inr (5, [.ref 2, .int 0]))) (h3 : f 3 = some (.inr (7, [.ref 4, .int 0, .int (-1), .int 0, .int 1, .int 0, .null, .int 0, .ref 6, .ref 7]))) (h7 : f 7 = some (.inl (2, 40, .inr (.inr (fun _ => none))))) (h59 : f 59 = some (.inr (1, [.ref 60, .ref 62, .ref 74, .int 0, .ref 68, .ref 71, .ref 64, .ref 66]))) (h60 : f 60 = some (.inr (5, [.ref 61, .int 0]))) (h62 : f 62 = some (.inr (5, [.ref 63, .int 0]))) (h68 : f 68 = some (.inr (6, [.ref 69, .int 0, .int 0, .int 0, .int 0, .int 0, .int 0, .int 0, .int 0, .int 0]))) (h74 : f 74 = some (.inl (1, 40, .inr (.inr g74)))) (h171 : f 171 = some (.inr (0, [.ref 172, .ref 174, .ref 176, .int 0]))) (h172 : f 172 = some (.inr (5, [.ref 173, .int 0]))) : AM X l yX8_file cX8_file 1 (some .int) 4 2 2 [.ref 0] f 224 (EXO f [(225, .inl (0, 0, .inl (fun _ => 0))), (224, .inr (5, [.ref 225, .int 0])), (3, .inr (7, [.ref 224, .int 0, .int (-1), .int 0, .int 1, .int 0, .null, .int 0, .ref 6, .ref 7])), (0, .inr (8, [.ref 1, .ref 3, .ref 8, .ref 13, .ref 18, .ref 59, .ref 115, .ref 171, .ref 178, .int 0, .int 0, .int 0, .int 0, .int (-1)])), (59, .inr (1, [.ref 60, .ref 62, .ref 74, .int 0, .ref 68, .ref 71, .ref 64, .ref 66])), (68, .inr (6, [.ref 224, .int 0, .int 0, .int 0, .int 0, .int 0, .int 0, .int 0, .int 0, .int 0]))] (some (.int 0)) 226) := by
  refine AM.of (by decide +kernel) rfl (by decide) (fun p e s m args below meth c C hnm => ?_)
  refine ao_start ?_
  refine aw_nl [some (.ref 0)] rfl ?_
  refine aw_ald_n C dX8_file_0 rfl ?_
  refine aw_get C gf_X8_21 h0 rfl dX8_file_1 ?_
  refine aw_ald_n C dX8_file_4 rfl ?_
  refine aw_get C gf_X8_14 h0 rfl dX8_file_5 ?_
  refine aw_iconst C 0 dX8_file_8 ki_0 ?_
  refine aw_ald_n C dX8_file_9 rfl ?_
  refine aw_get C gf_X8_14 h0 rfl dX8_file_10 ?_
  refine ao_callV C (ci := 5) (b := 1) [] [] mv_X8_63 rfl rfl h1 (c_X5_size_129 h1) rfl dX8_file_13 (Nat.le_of_ble_eq_true rfl) (Nat.le_of_ble_eq_true rfl) rfl (Nat.le_of_ble_eq_true rfl) (Nat.le_of_ble_eq_true rfl) (Nat.le_of_ble_eq_true rfl) rfl ?_
  refine ao_callV C (ci := 5) (b := 1) [.int 0, .int 0] [(225, .inl (0, 0, .inl (fun _ => 0))), (224, .inr (5, [.ref 225, .int 0]))] mv_X8_126 rfl rfl h1 (c_X5_part_183) rfl dX8_file_16 (Nat.le_of_ble_eq_true rfl) (Nat.le_of_ble_eq_true rfl) rfl (Nat.le_of_ble_eq_true rfl) (Nat.le_of_ble_eq_true rfl) (Nat.le_of_ble_eq_true rfl) rfl ?_
  refine ao_put C [(225, .inl (0, 0, .inl (fun _ => 0))), (224, .inr (5, [.ref 225, .int 0])), (3, .inr (7, [.ref 224, .int 0, .int (-1), .int 0, .int 1, .int 0, .null, .int 0, .ref 6, .ref 7]))] gf_X8_130 cf7 nf7_0 h3 (Nat.le_of_ble_eq_true rfl) rfl rfl dX8_file_19 rfl ?_
  refine aw_ald_n C dX8_file_22 rfl ?_
  refine aw_get C gf_X8_14 h0 rfl dX8_file_23 ?_
  refine aw_iconst C 0 dX8_file_26 ki_0 ?_
  refine ao_callV C (ci := 5) (b := 1) [.int 0] [(225, .inl (0, 0, .inl (fun _ => 0))), (224, .inr (5, [.ref 225, .int 0])), (3, .inr (7, [.ref 224, .int 0, .int (-1), .int 0, .int 1, .int 0, .null, .int 0, .ref 6, .ref 7]))] mv_X8_70 rfl rfl h1 (c_X5_cutTo_161 h1) rfl dX8_file_27 (Nat.le_of_ble_eq_true rfl) (Nat.le_of_ble_eq_true rfl) rfl (Nat.le_of_ble_eq_true rfl) (Nat.le_of_ble_eq_true rfl) (Nat.le_of_ble_eq_true rfl) rfl ?_
  refine aw_ald_n C dX8_file_30 rfl ?_
  refine aw_iconst C 0 dX8_file_31 ki_0 ?_
  refine ao_put C [(225, .inl (0, 0, .inl (fun _ => 0))), (224, .inr (5, [.ref 225, .int 0])), (3, .inr (7, [.ref 224, .int 0, .int (-1), .int 0, .int 1, .int 0, .null, .int 0, .ref 6, .ref 7])), (0, .inr (8, [.ref 1, .ref 3, .ref 8, .ref 13, .ref 18, .ref 59, .ref 115, .ref 171, .ref 178, .int 0, .int 0, .int 0, .int 0, .int (-1)]))] gf_X8_123 cf8 nf8_11 h0 (Nat.le_of_ble_eq_true rfl) rfl rfl dX8_file_32 rfl ?_
  refine aw_ald_n C dX8_file_35 rfl ?_
  refine ao_callV C (ci := 8) (b := 0) [] [(225, .inl (0, 0, .inl (fun _ => 0))), (224, .inr (5, [.ref 225, .int 0])), (3, .inr (7, [.ref 224, .int 0, .int (-1), .int 0, .int 1, .int 0, .null, .int 0, .ref 6, .ref 7])), (0, .inr (8, [.ref 1, .ref 3, .ref 8, .ref 13, .ref 18, .ref 59, .ref 115, .ref 171, .ref 178, .int 0, .int 0, .int 0, .int 0, .int (-1)])), (59, .inr (1, [.ref 60, .ref 62, .ref 74, .int 0, .ref 68, .ref 71, .ref 64, .ref 66])), (68, .inr (6, [.ref 224, .int 0, .int 0, .int 0, .int 0, .int 0, .int 0, .int 0, .int 0, .int 0]))] mv_X8_133 rfl rfl rfl (c_X8_cutAnew_195 rfl rfl h7 h59 h60 h62 h68 h74 rfl h171 h172) rfl dX8_file_36 (Nat.le_of_ble_eq_true rfl) (Nat.le_of_ble_eq_true rfl) rfl (Nat.le_of_ble_eq_true rfl) (Nat.le_of_ble_eq_true rfl) (Nat.le_of_ble_eq_true rfl) rfl ?_
  refine aw_pop C dX8_file_39 rfl ?_
  refine aw_ald_n C dX8_file_40 rfl ?_
  refine aw_get C gf_X8_38 rfl rfl dX8_file_41 ?_
  refine ao_callV C (ci := 1) (b := 59) [] [(225, .inl (0, 0, .inl (fun _ => 0))), (224, .inr (5, [.ref 225, .int 0])), (3, .inr (7, [.ref 224, .int 0, .int (-1), .int 0, .int 1, .int 0, .null, .int 0, .ref 6, .ref 7])), (0, .inr (8, [.ref 1, .ref 3, .ref 8, .ref 13, .ref 18, .ref 59, .ref 115, .ref 171, .ref 178, .int 0, .int 0, .int 0, .int 0, .int (-1)])), (59, .inr (1, [.ref 60, .ref 62, .ref 74, .int 0, .ref 68, .ref 71, .ref 64, .ref 66])), (68, .inr (6, [.ref 224, .int 0, .int 0, .int 0, .int 0, .int 0, .int 0, .int 0, .int 0, .int 0]))] mv_X8_136 rfl rfl rfl (c_X1_size_192 rfl) rfl dX8_file_44 (Nat.le_of_ble_eq_true rfl) (Nat.le_of_ble_eq_true rfl) rfl (Nat.le_of_ble_eq_true rfl) (Nat.le_of_ble_eq_true rfl) (Nat.le_of_ble_eq_true rfl) rfl ?_
  exact aw_iret C rfl rfl dX8_file_47 (Nat.le_of_ble_eq_true rfl) (Nat.le_of_ble_eq_true rfl) ⟨rfl, rfl, rfl⟩

set_option maxHeartbeats 4000000 in
set_option maxRecDepth 100000 in
theorem c_X9_took_197 {X : GX} {l : Launch} {f : AH} {n : Nat} (h181 : f 181 = some (.inr (9, (.int 0 :: .ref 182 :: .ref 183 :: .ref 184 :: .ref 185 :: .int 0 :: .int 0 :: .int 0 :: .ref 186 :: .int 0 :: .int 0 :: .int 0 :: .int (-1) :: .ref 187 :: .ref 188 :: .ref 189 :: .int 0 :: .ref 190 :: .ref 191 :: .ref 192 :: .ref 193 :: .ref 194 :: .int 0 :: .ref 195 :: .ref 196 :: .ref 197 :: .int 0 :: .ref 198 :: .ref 199 :: .ref 200 :: .ref 201 :: .ref 202 :: .ref 203 :: .int 0 :: .ref 204 :: .ref 205 :: .ref 206 :: .ref 207 :: .ref 208 :: .ref 209 :: .ref 210 :: .ref 211 :: .ref 212 :: .ref 213 :: .ref 214 :: .int 0 :: .ref 215 :: .ref 216 :: .int 0 :: .ref 217 :: .ref 218 :: .ref 219 :: .ref 220 :: .ref 221 :: .int 0 :: .int 0 :: .int 0 :: .int 0 :: .ref 222 :: .int 0 :: [])))) : AM X l yX9_took cX9_took 2 (some .int) 0 0 0 [.ref 181] f n (EXO f [(181, .inr (9, (.int 0 :: .ref 182 :: .ref 183 :: .ref 184 :: .ref 185 :: .int 0 :: .int 0 :: .int 0 :: .ref 186 :: .int 0 :: .int 0 :: .int 0 :: .int (-1) :: .ref 187 :: .ref 188 :: .ref 189 :: .int 0 :: .ref 190 :: .ref 191 :: .ref 192 :: .ref 193 :: .ref 194 :: .int 0 :: .ref 195 :: .ref 196 :: .ref 197 :: .int 0 :: .ref 198 :: .ref 199 :: .ref 200 :: .ref 201 :: .ref 202 :: .ref 203 :: .int 0 :: .ref 204 :: .ref 205 :: .ref 206 :: .ref 207 :: .ref 208 :: .ref 209 :: .ref 210 :: .ref 211 :: .ref 212 :: .ref 213 :: .ref 214 :: .int 0 :: .ref 215 :: .ref 216 :: .int 0 :: .ref 217 :: .ref 218 :: .ref 219 :: .ref 220 :: .ref 221 :: .int 0 :: .int 0 :: .int 0 :: .int 0 :: .ref 222 :: .int 0 :: [])))] (some (.int 0)) n) := by
  refine AM.of (by decide +kernel) rfl (by decide) (fun p e s m args below meth c C hnm => ?_)
  refine ao_start ?_
  refine aw_nl [some (.ref 181), none] rfl ?_
  refine aw_ald_n C dX9_took_0 rfl ?_
  refine aw_get C gf_X9_337 h181 rfl dX9_took_1 ?_
  refine aw_istore_n C dX9_took_4 (by decide) rfl ?_
  refine aw_nl [some (.ref 181), some (.int 0)] rfl ?_
  refine aw_ald_n C dX9_took_5 rfl ?_
  refine aw_iconst C 0 dX9_took_6 ki_0 ?_
  refine ao_put C [(181, .inr (9, (.int 0 :: .ref 182 :: .ref 183 :: .ref 184 :: .ref 185 :: .int 0 :: .int 0 :: .int 0 :: .ref 186 :: .int 0 :: .int 0 :: .int 0 :: .int (-1) :: .ref 187 :: .ref 188 :: .ref 189 :: .int 0 :: .ref 190 :: .ref 191 :: .ref 192 :: .ref 193 :: .ref 194 :: .int 0 :: .ref 195 :: .ref 196 :: .ref 197 :: .int 0 :: .ref 198 :: .ref 199 :: .ref 200 :: .ref 201 :: .ref 202 :: .ref 203 :: .int 0 :: .ref 204 :: .ref 205 :: .ref 206 :: .ref 207 :: .ref 208 :: .ref 209 :: .ref 210 :: .ref 211 :: .ref 212 :: .ref 213 :: .ref 214 :: .int 0 :: .ref 215 :: .ref 216 :: .int 0 :: .ref 217 :: .ref 218 :: .ref 219 :: .ref 220 :: .ref 221 :: .int 0 :: .int 0 :: .int 0 :: .int 0 :: .ref 222 :: .int 0 :: [])))] gf_X9_337 cf9 nf9_9 h181 (Nat.le_of_ble_eq_true rfl) rfl rfl dX9_took_7 rfl ?_
  refine aw_iload_n C dX9_took_10 rfl ?_
  exact aw_iret C rfl rfl dX9_took_11 (Nat.le_of_ble_eq_true rfl) (Nat.le_of_ble_eq_true rfl) ⟨rfl, rfl, rfl⟩

set_option maxHeartbeats 4000000 in
set_option maxRecDepth 100000 in
theorem c_X9_cutsLines_198 {X : GX} {l : Launch} {f : AH} {n : Nat} : AM X l yX9_cutsLines cX9_cutsLines 13 none 0 0 0 [.ref 181, .ref 187, .int 0, .ref 190, .ref 191, .ref 192] f n (EXO f [] none n) := by
  refine AM.of (by decide +kernel) rfl (by decide) (fun p e s m args below meth c C hnm => ?_)
  refine ao_start ?_
  refine aw_nl [some (.ref 181), some (.ref 187), some (.int 0), some (.ref 190), some (.ref 191), some (.ref 192), none, none, none, none, none, none, none] rfl ?_
  refine aw_iconst C 0 dX9_cutsLines_0 ki_0 ?_
  refine aw_istore C dX9_cutsLines_1 (by decide) rfl ?_
  refine aw_nl [some (.ref 181), some (.ref 187), some (.int 0), some (.ref 190), some (.ref 191), some (.ref 192), some (.int 0), none, none, none, none, none, none] rfl ?_
  refine aw_iload C dX9_cutsLines_3 rfl ?_
  refine aw_iload_n C dX9_cutsLines_5 rfl ?_
  refine aw_icmp_ge C 208 dX9_cutsLines_6 (by decide) (fun _ => ?_) (fun q => absurd (by decide) q)
  exact aw_vret C rfl dX9_cutsLines_208 (Nat.le_of_ble_eq_true rfl) (Nat.le_of_ble_eq_true rfl) ⟨rfl, rfl, rfl⟩

set_option maxHeartbeats 4000000 in
set_option maxRecDepth 100000 in
theorem c_X9_cuts_199 {X : GX} {l : Launch} {f : AH} {n : Nat} (h181 : f 181 = some (.inr (9, (.int 0 :: .ref 182 :: .ref 183 :: .ref 184 :: .ref 185 :: .int 0 :: .int 0 :: .int 0 :: .ref 186 :: .int 0 :: .int 0 :: .int 0 :: .int (-1) :: .ref 187 :: .ref 188 :: .ref 189 :: .int 0 :: .ref 190 :: .ref 191 :: .ref 192 :: .ref 193 :: .ref 194 :: .int 0 :: .ref 195 :: .ref 196 :: .ref 197 :: .int 0 :: .ref 198 :: .ref 199 :: .ref 200 :: .ref 201 :: .ref 202 :: .ref 203 :: .int 0 :: .ref 204 :: .ref 205 :: .ref 206 :: .ref 207 :: .ref 208 :: .ref 209 :: .ref 210 :: .ref 211 :: .ref 212 :: .ref 213 :: .ref 214 :: .int 0 :: .ref 215 :: .ref 216 :: .int 0 :: .ref 217 :: .ref 218 :: .ref 219 :: .ref 220 :: .ref 221 :: .int 0 :: .int 0 :: .int 0 :: .int 0 :: .ref 222 :: .int 0 :: [])))) : AM X l yX9_cuts cX9_cuts 7 (some .int) 1 0 0 [.ref 181, .int 0, .ref 187, .int 0, .ref 190, .ref 191, .ref 192] f n (EXO f [(181, .inr (9, (.int 0 :: .ref 182 :: .ref 183 :: .ref 184 :: .ref 185 :: .int 0 :: .int 0 :: .int 0 :: .ref 186 :: .int 0 :: .int 0 :: .int 0 :: .int (-1) :: .ref 187 :: .ref 188 :: .ref 189 :: .int 0 :: .ref 190 :: .ref 191 :: .ref 192 :: .ref 193 :: .ref 194 :: .int 0 :: .ref 195 :: .ref 196 :: .ref 197 :: .int 0 :: .ref 198 :: .ref 199 :: .ref 200 :: .ref 201 :: .ref 202 :: .ref 203 :: .int 0 :: .ref 204 :: .ref 205 :: .ref 206 :: .ref 207 :: .ref 208 :: .ref 209 :: .ref 210 :: .ref 211 :: .ref 212 :: .ref 213 :: .ref 214 :: .int 0 :: .ref 215 :: .ref 216 :: .int 0 :: .ref 217 :: .ref 218 :: .ref 219 :: .ref 220 :: .ref 221 :: .int 0 :: .int 0 :: .int 0 :: .int 0 :: .ref 222 :: .int 0 :: [])))] (some (.int 0)) n) := by
  refine AM.of (by decide +kernel) rfl (by decide) (fun p e s m args below meth c C hnm => ?_)
  refine ao_start ?_
  refine aw_nl [some (.ref 181), some (.int 0), some (.ref 187), some (.int 0), some (.ref 190), some (.ref 191), some (.ref 192)] rfl ?_
  refine aw_ald_n C dX9_cuts_0 rfl ?_
  refine aw_iconst C 0 dX9_cuts_1 ki_0 ?_
  refine ao_put C [(181, .inr (9, (.int 0 :: .ref 182 :: .ref 183 :: .ref 184 :: .ref 185 :: .int 0 :: .int 0 :: .int 0 :: .ref 186 :: .int 0 :: .int 0 :: .int 0 :: .int (-1) :: .ref 187 :: .ref 188 :: .ref 189 :: .int 0 :: .ref 190 :: .ref 191 :: .ref 192 :: .ref 193 :: .ref 194 :: .int 0 :: .ref 195 :: .ref 196 :: .ref 197 :: .int 0 :: .ref 198 :: .ref 199 :: .ref 200 :: .ref 201 :: .ref 202 :: .ref 203 :: .int 0 :: .ref 204 :: .ref 205 :: .ref 206 :: .ref 207 :: .ref 208 :: .ref 209 :: .ref 210 :: .ref 211 :: .ref 212 :: .ref 213 :: .ref 214 :: .int 0 :: .ref 215 :: .ref 216 :: .int 0 :: .ref 217 :: .ref 218 :: .ref 219 :: .ref 220 :: .ref 221 :: .int 0 :: .int 0 :: .int 0 :: .int 0 :: .ref 222 :: .int 0 :: [])))] gf_X9_145 cf9 nf9_54 h181 (Nat.le_of_ble_eq_true rfl) rfl rfl dX9_cuts_2 rfl ?_
  refine aw_iload_n C dX9_cuts_5 rfl ?_
  refine aw_if_ne C 24 dX9_cuts_6 (by decide) (fun q => absurd (by decide) q) (fun _ => ?_)
  refine aw_ald_n C dX9_cuts_9 rfl ?_
  refine aw_ald_n C dX9_cuts_10 rfl ?_
  refine aw_iload_n C dX9_cuts_11 rfl ?_
  refine aw_ald C dX9_cuts_12 rfl ?_
  refine aw_ald C dX9_cuts_14 rfl ?_
  refine aw_ald C dX9_cuts_16 rfl ?_
  refine ao_callV C (ci := 9) (b := 181) [.ref 187, .int 0, .ref 190, .ref 191, .ref 192] [(181, .inr (9, (.int 0 :: .ref 182 :: .ref 183 :: .ref 184 :: .ref 185 :: .int 0 :: .int 0 :: .int 0 :: .ref 186 :: .int 0 :: .int 0 :: .int 0 :: .int (-1) :: .ref 187 :: .ref 188 :: .ref 189 :: .int 0 :: .ref 190 :: .ref 191 :: .ref 192 :: .ref 193 :: .ref 194 :: .int 0 :: .ref 195 :: .ref 196 :: .ref 197 :: .int 0 :: .ref 198 :: .ref 199 :: .ref 200 :: .ref 201 :: .ref 202 :: .ref 203 :: .int 0 :: .ref 204 :: .ref 205 :: .ref 206 :: .ref 207 :: .ref 208 :: .ref 209 :: .ref 210 :: .ref 211 :: .ref 212 :: .ref 213 :: .ref 214 :: .int 0 :: .ref 215 :: .ref 216 :: .int 0 :: .ref 217 :: .ref 218 :: .ref 219 :: .ref 220 :: .ref 221 :: .int 0 :: .int 0 :: .int 0 :: .int 0 :: .ref 222 :: .int 0 :: [])))] mv_X9_160 rfl rfl rfl (c_X9_cutsLines_198) rfl dX9_cuts_18 (Nat.le_of_ble_eq_true rfl) (Nat.le_of_ble_eq_true rfl) rfl (Nat.le_of_ble_eq_true rfl) (Nat.le_of_ble_eq_true rfl) (Nat.le_of_ble_eq_true rfl) rfl ?_
  refine aw_goto C 76 dX9_cuts_21 (by decide) ?_
  refine aw_ald_n C dX9_cuts_76 rfl ?_
  refine aw_get C gf_X9_145 rfl rfl dX9_cuts_77 ?_
  exact aw_iret C rfl rfl dX9_cuts_80 (Nat.le_of_ble_eq_true rfl) (Nat.le_of_ble_eq_true rfl) ⟨rfl, rfl, rfl⟩

set_option maxHeartbeats 4000000 in
set_option maxRecDepth 100000 in
theorem c_X9_cutsAll_200 {X : GX} {l : Launch} {f : AH} {n : Nat} (h181 : f 181 = some (.inr (9, (.int 0 :: .ref 182 :: .ref 183 :: .ref 184 :: .ref 185 :: .int 0 :: .int 0 :: .int 0 :: .ref 186 :: .int 0 :: .int 0 :: .int 0 :: .int (-1) :: .ref 187 :: .ref 188 :: .ref 189 :: .int 0 :: .ref 190 :: .ref 191 :: .ref 192 :: .ref 193 :: .ref 194 :: .int 0 :: .ref 195 :: .ref 196 :: .ref 197 :: .int 0 :: .ref 198 :: .ref 199 :: .ref 200 :: .ref 201 :: .ref 202 :: .ref 203 :: .int 0 :: .ref 204 :: .ref 205 :: .ref 206 :: .ref 207 :: .ref 208 :: .ref 209 :: .ref 210 :: .ref 211 :: .ref 212 :: .ref 213 :: .ref 214 :: .int 0 :: .ref 215 :: .ref 216 :: .int 0 :: .ref 217 :: .ref 218 :: .ref 219 :: .ref 220 :: .ref 221 :: .int 0 :: .int 0 :: .int 0 :: .int 0 :: .ref 222 :: .int 0 :: [])))) (h182 : f 182 = some (.inl (0, 4347, .inl (upd (tl (upd (upd (fun _ => 0) 2 (-1)) 4 1) 40) 0 0)))) : AM X l yX9_cutsAll cX9_cutsAll 5 none 2 0 0 [.ref 181] f n (EXO f [(181, .inr (9, (.int 0 :: .ref 182 :: .ref 183 :: .ref 184 :: .ref 185 :: .int 0 :: .int 0 :: .int 0 :: .ref 186 :: .int 0 :: .int 0 :: .int 0 :: .int (-1) :: .ref 187 :: .ref 188 :: .ref 189 :: .int 0 :: .ref 190 :: .ref 191 :: .ref 192 :: .ref 193 :: .ref 194 :: .int 0 :: .ref 195 :: .ref 196 :: .ref 197 :: .int 0 :: .ref 198 :: .ref 199 :: .ref 200 :: .ref 201 :: .ref 202 :: .ref 203 :: .int 0 :: .ref 204 :: .ref 205 :: .ref 206 :: .ref 207 :: .ref 208 :: .ref 209 :: .ref 210 :: .ref 211 :: .ref 212 :: .ref 213 :: .ref 214 :: .int 0 :: .ref 215 :: .ref 216 :: .int 0 :: .ref 217 :: .ref 218 :: .ref 219 :: .ref 220 :: .ref 221 :: .int 0 :: .int 0 :: .int 0 :: .int 0 :: .ref 222 :: .int 0 :: [])))] none n) := by
  refine AM.of (by decide +kernel) rfl (by decide) (fun p e s m args below meth c C hnm => ?_)
  refine ao_start ?_
  refine aw_nl [some (.ref 181), none, none, none, none] rfl ?_
  refine aw_ald_n C dX9_cutsAll_0 rfl ?_
  refine aw_iconst C 0 dX9_cutsAll_1 ki_0 ?_
  refine ao_put C [(181, .inr (9, (.int 0 :: .ref 182 :: .ref 183 :: .ref 184 :: .ref 185 :: .int 0 :: .int 0 :: .int 0 :: .ref 186 :: .int 0 :: .int 0 :: .int 0 :: .int (-1) :: .ref 187 :: .ref 188 :: .ref 189 :: .int 0 :: .ref 190 :: .ref 191 :: .ref 192 :: .ref 193 :: .ref 194 :: .int 0 :: .ref 195 :: .ref 196 :: .ref 197 :: .int 0 :: .ref 198 :: .ref 199 :: .ref 200 :: .ref 201 :: .ref 202 :: .ref 203 :: .int 0 :: .ref 204 :: .ref 205 :: .ref 206 :: .ref 207 :: .ref 208 :: .ref 209 :: .ref 210 :: .ref 211 :: .ref 212 :: .ref 213 :: .ref 214 :: .int 0 :: .ref 215 :: .ref 216 :: .int 0 :: .ref 217 :: .ref 218 :: .ref 219 :: .ref 220 :: .ref 221 :: .int 0 :: .int 0 :: .int 0 :: .int 0 :: .ref 222 :: .int 0 :: [])))] gf_X9_204 cf9 nf9_33 h181 (Nat.le_of_ble_eq_true rfl) rfl rfl dX9_cutsAll_2 rfl ?_
  refine aw_ald_n C dX9_cutsAll_5 rfl ?_
  refine aw_iconst C 0 dX9_cutsAll_6 ki_0 ?_
  refine ao_put C [(181, .inr (9, (.int 0 :: .ref 182 :: .ref 183 :: .ref 184 :: .ref 185 :: .int 0 :: .int 0 :: .int 0 :: .ref 186 :: .int 0 :: .int 0 :: .int 0 :: .int (-1) :: .ref 187 :: .ref 188 :: .ref 189 :: .int 0 :: .ref 190 :: .ref 191 :: .ref 192 :: .ref 193 :: .ref 194 :: .int 0 :: .ref 195 :: .ref 196 :: .ref 197 :: .int 0 :: .ref 198 :: .ref 199 :: .ref 200 :: .ref 201 :: .ref 202 :: .ref 203 :: .int 0 :: .ref 204 :: .ref 205 :: .ref 206 :: .ref 207 :: .ref 208 :: .ref 209 :: .ref 210 :: .ref 211 :: .ref 212 :: .ref 213 :: .ref 214 :: .int 0 :: .ref 215 :: .ref 216 :: .int 0 :: .ref 217 :: .ref 218 :: .ref 219 :: .ref 220 :: .ref 221 :: .int 0 :: .int 0 :: .int 0 :: .int 0 :: .ref 222 :: .int 0 :: [])))] gf_X9_217 cf9 nf9_45 rfl (Nat.le_of_ble_eq_true rfl) rfl rfl dX9_cutsAll_7 rfl ?_
  refine aw_iconst C 0 dX9_cutsAll_10 ki_0 ?_
  refine aw_istore_n C dX9_cutsAll_11 (by decide) rfl ?_
  refine aw_nl [some (.ref 181), some (.int 0), none, none, none] rfl ?_
  refine aw_iload_n C dX9_cutsAll_12 rfl ?_
  refine aw_ald_n C dX9_cutsAll_13 rfl ?_
  refine aw_get C gf_X9_220 rfl rfl dX9_cutsAll_14 ?_
  refine aw_icmp_ge C 42 dX9_cutsAll_17 (by decide) (fun _ => ?_) (fun q => absurd (by decide) q)
  refine aw_ald_n C dX9_cutsAll_42 rfl ?_
  refine aw_ald_n C dX9_cutsAll_43 rfl ?_
  refine aw_ald_n C dX9_cutsAll_44 rfl ?_
  refine aw_get C gf_X9_7 rfl rfl dX9_cutsAll_45 ?_
  refine aw_iconst C 1 dX9_cutsAll_48 ki_1 ?_
  refine ao_iald C 0 h182 (by unfold vp_in; decide) (by decide : _ = 1) rfl dX9_cutsAll_49 ?_
  refine aw_ald_n C dX9_cutsAll_50 rfl ?_
  refine aw_get C gf_X9_30 rfl rfl dX9_cutsAll_51 ?_
  refine aw_ald_n C dX9_cutsAll_54 rfl ?_
  refine aw_get C gf_X9_220 rfl rfl dX9_cutsAll_55 ?_
  refine aw_ald_n C dX9_cutsAll_58 rfl ?_
  refine aw_get C gf_X9_39 rfl rfl dX9_cutsAll_59 ?_
  refine aw_ald_n C dX9_cutsAll_62 rfl ?_
  refine aw_get C gf_X9_42 rfl rfl dX9_cutsAll_63 ?_
  refine aw_ald_n C dX9_cutsAll_66 rfl ?_
  refine aw_get C gf_X9_45 rfl rfl dX9_cutsAll_67 ?_
  refine ao_callV C (ci := 9) (b := 181) [.int 0, .ref 187, .int 0, .ref 190, .ref 191, .ref 192] [(181, .inr (9, (.int 0 :: .ref 182 :: .ref 183 :: .ref 184 :: .ref 185 :: .int 0 :: .int 0 :: .int 0 :: .ref 186 :: .int 0 :: .int 0 :: .int 0 :: .int (-1) :: .ref 187 :: .ref 188 :: .ref 189 :: .int 0 :: .ref 190 :: .ref 191 :: .ref 192 :: .ref 193 :: .ref 194 :: .int 0 :: .ref 195 :: .ref 196 :: .ref 197 :: .int 0 :: .ref 198 :: .ref 199 :: .ref 200 :: .ref 201 :: .ref 202 :: .ref 203 :: .int 0 :: .ref 204 :: .ref 205 :: .ref 206 :: .ref 207 :: .ref 208 :: .ref 209 :: .ref 210 :: .ref 211 :: .ref 212 :: .ref 213 :: .ref 214 :: .int 0 :: .ref 215 :: .ref 216 :: .int 0 :: .ref 217 :: .ref 218 :: .ref 219 :: .ref 220 :: .ref 221 :: .int 0 :: .int 0 :: .int 0 :: .int 0 :: .ref 222 :: .int 0 :: [])))] mv_X9_223 rfl rfl rfl (c_X9_cuts_199 rfl) rfl dX9_cutsAll_70 (Nat.le_of_ble_eq_true rfl) (Nat.le_of_ble_eq_true rfl) rfl (Nat.le_of_ble_eq_true rfl) (Nat.le_of_ble_eq_true rfl) (Nat.le_of_ble_eq_true rfl) rfl ?_
  refine ao_put C [(181, .inr (9, (.int 0 :: .ref 182 :: .ref 183 :: .ref 184 :: .ref 185 :: .int 0 :: .int 0 :: .int 0 :: .ref 186 :: .int 0 :: .int 0 :: .int 0 :: .int (-1) :: .ref 187 :: .ref 188 :: .ref 189 :: .int 0 :: .ref 190 :: .ref 191 :: .ref 192 :: .ref 193 :: .ref 194 :: .int 0 :: .ref 195 :: .ref 196 :: .ref 197 :: .int 0 :: .ref 198 :: .ref 199 :: .ref 200 :: .ref 201 :: .ref 202 :: .ref 203 :: .int 0 :: .ref 204 :: .ref 205 :: .ref 206 :: .ref 207 :: .ref 208 :: .ref 209 :: .ref 210 :: .ref 211 :: .ref 212 :: .ref 213 :: .ref 214 :: .int 0 :: .ref 215 :: .ref 216 :: .int 0 :: .ref 217 :: .ref 218 :: .ref 219 :: .ref 220 :: .ref 221 :: .int 0 :: .int 0 :: .int 0 :: .int 0 :: .ref 222 :: .int 0 :: [])))] gf_X9_227 cf9 nf9_22 rfl (Nat.le_of_ble_eq_true rfl) rfl rfl dX9_cutsAll_73 rfl ?_
  refine aw_iconst C 0 dX9_cutsAll_76 ki_0 ?_
  refine aw_istore_n C dX9_cutsAll_77 (by decide) rfl ?_
  refine aw_nl [some (.ref 181), some (.int 0), none, none, none] rfl ?_
  refine aw_iload_n C dX9_cutsAll_78 rfl ?_
  refine aw_ald_n C dX9_cutsAll_79 rfl ?_
  refine aw_get C gf_X9_227 rfl rfl dX9_cutsAll_80 ?_
  refine aw_icmp_ge C 339 dX9_cutsAll_83 (by decide) (fun _ => ?_) (fun q => absurd (by decide) q)
  exact aw_vret C rfl dX9_cutsAll_339 (Nat.le_of_ble_eq_true rfl) (Nat.le_of_ble_eq_true rfl) ⟨rfl, rfl, rfl⟩

set_option maxHeartbeats 4000000 in
set_option maxRecDepth 100000 in
theorem c_X9_cutsFile_201 {X : GX} {l : Launch} {f : AH} {n : Nat} (h181 : f 181 = some (.inr (9, (.int 0 :: .ref 182 :: .ref 183 :: .ref 184 :: .ref 185 :: .int 0 :: .int 0 :: .int 0 :: .ref 186 :: .int 0 :: .int 0 :: .int 0 :: .int (-1) :: .ref 187 :: .ref 188 :: .ref 189 :: .int 0 :: .ref 190 :: .ref 191 :: .ref 192 :: .ref 193 :: .ref 194 :: .int 0 :: .ref 195 :: .ref 196 :: .ref 197 :: .int 0 :: .ref 198 :: .ref 199 :: .ref 200 :: .ref 201 :: .ref 202 :: .ref 203 :: .int 0 :: .ref 204 :: .ref 205 :: .ref 206 :: .ref 207 :: .ref 208 :: .ref 209 :: .ref 210 :: .ref 211 :: .ref 212 :: .ref 213 :: .ref 214 :: .int 0 :: .ref 215 :: .ref 216 :: .int 0 :: .ref 217 :: .ref 218 :: .ref 219 :: .ref 220 :: .ref 221 :: .int 0 :: .int 0 :: .int 0 :: .int 0 :: .ref 222 :: .int 0 :: [])))) (h182 : f 182 = some (.inl (0, 4347, .inl (upd (tl (upd (upd (fun _ => 0) 2 (-1)) 4 1) 40) 0 0)))) : AM X l yX9_cutsFile cX9_cutsFile 2 none 3 0 0 [.ref 181] f n (EXO f [(181, .inr (9, (.int 0 :: .ref 182 :: .ref 183 :: .ref 184 :: .ref 185 :: .int 0 :: .int 0 :: .int 0 :: .ref 186 :: .int 0 :: .int 0 :: .int 0 :: .int (-1) :: .ref 187 :: .ref 188 :: .ref 189 :: .int 0 :: .ref 190 :: .ref 191 :: .ref 192 :: .ref 193 :: .ref 194 :: .int 0 :: .ref 195 :: .ref 196 :: .ref 197 :: .int 0 :: .ref 198 :: .ref 199 :: .ref 200 :: .ref 201 :: .ref 202 :: .ref 203 :: .int 0 :: .ref 204 :: .ref 205 :: .ref 206 :: .ref 207 :: .ref 208 :: .ref 209 :: .ref 210 :: .ref 211 :: .ref 212 :: .ref 213 :: .ref 214 :: .int 0 :: .ref 215 :: .ref 216 :: .int 0 :: .ref 217 :: .ref 218 :: .ref 219 :: .ref 220 :: .ref 221 :: .int 0 :: .int 0 :: .int 0 :: .int 0 :: .ref 222 :: .int 0 :: [])))] none n) := by
  refine AM.of (by decide +kernel) rfl (by decide) (fun p e s m args below meth c C hnm => ?_)
  refine ao_start ?_
  refine aw_nl [some (.ref 181), none] rfl ?_
  refine aw_ald_n C dX9_cutsFile_0 rfl ?_
  refine aw_ald_n C dX9_cutsFile_1 rfl ?_
  refine aw_get C gf_X9_7 h181 rfl dX9_cutsFile_2 ?_
  refine aw_iconst C 0 dX9_cutsFile_5 ki_0 ?_
  refine ao_iald C 0 h182 (by unfold vp_in; decide) (by decide : _ = 0) rfl dX9_cutsFile_6 ?_
  refine ao_put C [(181, .inr (9, (.int 0 :: .ref 182 :: .ref 183 :: .ref 184 :: .ref 185 :: .int 0 :: .int 0 :: .int 0 :: .ref 186 :: .int 0 :: .int 0 :: .int 0 :: .int (-1) :: .ref 187 :: .ref 188 :: .ref 189 :: .int 0 :: .ref 190 :: .ref 191 :: .ref 192 :: .ref 193 :: .ref 194 :: .int 0 :: .ref 195 :: .ref 196 :: .ref 197 :: .int 0 :: .ref 198 :: .ref 199 :: .ref 200 :: .ref 201 :: .ref 202 :: .ref 203 :: .int 0 :: .ref 204 :: .ref 205 :: .ref 206 :: .ref 207 :: .ref 208 :: .ref 209 :: .ref 210 :: .ref 211 :: .ref 212 :: .ref 213 :: .ref 214 :: .int 0 :: .ref 215 :: .ref 216 :: .int 0 :: .ref 217 :: .ref 218 :: .ref 219 :: .ref 220 :: .ref 221 :: .int 0 :: .int 0 :: .int 0 :: .int 0 :: .ref 222 :: .int 0 :: [])))] gf_X9_220 cf9 nf9_16 h181 (Nat.le_of_ble_eq_true rfl) rfl rfl dX9_cutsFile_7 rfl ?_
  refine aw_iconst C 0 dX9_cutsFile_10 ki_0 ?_
  refine aw_istore_n C dX9_cutsFile_11 (by decide) rfl ?_
  refine aw_nl [some (.ref 181), some (.int 0)] rfl ?_
  refine aw_iload_n C dX9_cutsFile_12 rfl ?_
  refine aw_ald_n C dX9_cutsFile_13 rfl ?_
  refine aw_get C gf_X9_220 rfl rfl dX9_cutsFile_14 ?_
  refine aw_icmp_ge C 41 dX9_cutsFile_17 (by decide) (fun _ => ?_) (fun q => absurd (by decide) q)
  refine aw_ald_n C dX9_cutsFile_41 rfl ?_
  refine ao_callV C (ci := 9) (b := 181) [] [(181, .inr (9, (.int 0 :: .ref 182 :: .ref 183 :: .ref 184 :: .ref 185 :: .int 0 :: .int 0 :: .int 0 :: .ref 186 :: .int 0 :: .int 0 :: .int 0 :: .int (-1) :: .ref 187 :: .ref 188 :: .ref 189 :: .int 0 :: .ref 190 :: .ref 191 :: .ref 192 :: .ref 193 :: .ref 194 :: .int 0 :: .ref 195 :: .ref 196 :: .ref 197 :: .int 0 :: .ref 198 :: .ref 199 :: .ref 200 :: .ref 201 :: .ref 202 :: .ref 203 :: .int 0 :: .ref 204 :: .ref 205 :: .ref 206 :: .ref 207 :: .ref 208 :: .ref 209 :: .ref 210 :: .ref 211 :: .ref 212 :: .ref 213 :: .ref 214 :: .int 0 :: .ref 215 :: .ref 216 :: .int 0 :: .ref 217 :: .ref 218 :: .ref 219 :: .ref 220 :: .ref 221 :: .int 0 :: .int 0 :: .int 0 :: .int 0 :: .ref 222 :: .int 0 :: [])))] mv_X9_241 rfl rfl rfl (c_X9_cutsAll_200 rfl h182) rfl dX9_cutsFile_42 (Nat.le_of_ble_eq_true rfl) (Nat.le_of_ble_eq_true rfl) rfl (Nat.le_of_ble_eq_true rfl) (Nat.le_of_ble_eq_true rfl) (Nat.le_of_ble_eq_true rfl) rfl ?_
  exact aw_vret C rfl dX9_cutsFile_45 (Nat.le_of_ble_eq_true rfl) (Nat.le_of_ble_eq_true rfl) ⟨rfl, rfl, rfl⟩

set_option maxHeartbeats 4000000 in
set_option maxRecDepth 100000 in
theorem c_X9_cutsAnew_202 {X : GX} {l : Launch} {f : AH} {n : Nat} (h181 : f 181 = some (.inr (9, (.int 0 :: .ref 182 :: .ref 183 :: .ref 184 :: .ref 185 :: .int 0 :: .int 0 :: .int 0 :: .ref 186 :: .int 0 :: .int 0 :: .int 0 :: .int (-1) :: .ref 187 :: .ref 188 :: .ref 189 :: .int 0 :: .ref 190 :: .ref 191 :: .ref 192 :: .ref 193 :: .ref 194 :: .int 0 :: .ref 195 :: .ref 196 :: .ref 197 :: .int 0 :: .ref 198 :: .ref 199 :: .ref 200 :: .ref 201 :: .ref 202 :: .ref 203 :: .int 0 :: .ref 204 :: .ref 205 :: .ref 206 :: .ref 207 :: .ref 208 :: .ref 209 :: .ref 210 :: .ref 211 :: .ref 212 :: .ref 213 :: .ref 214 :: .int 0 :: .ref 215 :: .ref 216 :: .int 0 :: .ref 217 :: .ref 218 :: .ref 219 :: .ref 220 :: .ref 221 :: .int 0 :: .int 0 :: .int 0 :: .int 0 :: .ref 222 :: .int 0 :: [])))) (h182 : f 182 = some (.inl (0, 4347, .inl (upd (tl (upd (upd (fun _ => 0) 2 (-1)) 4 1) 40) 0 0)))) : AM X l yX9_cutsAnew cX9_cutsAnew 2 none 4 0 0 [.ref 181] f n (EXO f [(181, .inr (9, (.int 0 :: .ref 182 :: .ref 183 :: .ref 184 :: .ref 185 :: .int 0 :: .int 0 :: .int 0 :: .ref 186 :: .int 0 :: .int 0 :: .int 0 :: .int (-1) :: .ref 187 :: .ref 188 :: .ref 189 :: .int 0 :: .ref 190 :: .ref 191 :: .ref 192 :: .ref 193 :: .ref 194 :: .int 0 :: .ref 195 :: .ref 196 :: .ref 197 :: .int 0 :: .ref 198 :: .ref 199 :: .ref 200 :: .ref 201 :: .ref 202 :: .ref 203 :: .int 0 :: .ref 204 :: .ref 205 :: .ref 206 :: .ref 207 :: .ref 208 :: .ref 209 :: .ref 210 :: .ref 211 :: .ref 212 :: .ref 213 :: .ref 214 :: .int 0 :: .ref 215 :: .ref 216 :: .int 0 :: .ref 217 :: .ref 218 :: .ref 219 :: .ref 220 :: .ref 221 :: .int 0 :: .int 0 :: .int 0 :: .int 0 :: .ref 222 :: .int 0 :: []))), (182, .inl (0, 4347, .inl (tl (upd (tl (upd (upd (fun _ => 0) 2 (-1)) 4 1) 40) 0 0) 40)))] none n) := by
  refine AM.of (by decide +kernel) rfl (by decide) (fun p e s m args below meth c C hnm => ?_)
  refine ao_start ?_
  refine aw_nl [some (.ref 181), none] rfl ?_
  refine aw_ald_n C dX9_cutsAnew_0 rfl ?_
  refine ao_callV C (ci := 9) (b := 181) [] [(181, .inr (9, (.int 0 :: .ref 182 :: .ref 183 :: .ref 184 :: .ref 185 :: .int 0 :: .int 0 :: .int 0 :: .ref 186 :: .int 0 :: .int 0 :: .int 0 :: .int (-1) :: .ref 187 :: .ref 188 :: .ref 189 :: .int 0 :: .ref 190 :: .ref 191 :: .ref 192 :: .ref 193 :: .ref 194 :: .int 0 :: .ref 195 :: .ref 196 :: .ref 197 :: .int 0 :: .ref 198 :: .ref 199 :: .ref 200 :: .ref 201 :: .ref 202 :: .ref 203 :: .int 0 :: .ref 204 :: .ref 205 :: .ref 206 :: .ref 207 :: .ref 208 :: .ref 209 :: .ref 210 :: .ref 211 :: .ref 212 :: .ref 213 :: .ref 214 :: .int 0 :: .ref 215 :: .ref 216 :: .int 0 :: .ref 217 :: .ref 218 :: .ref 219 :: .ref 220 :: .ref 221 :: .int 0 :: .int 0 :: .int 0 :: .int 0 :: .ref 222 :: .int 0 :: [])))] mv_X9_244 rfl rfl h181 (c_X9_cutsFile_201 h181 h182) rfl dX9_cutsAnew_1 (Nat.le_of_ble_eq_true rfl) (Nat.le_of_ble_eq_true rfl) rfl (Nat.le_of_ble_eq_true rfl) (Nat.le_of_ble_eq_true rfl) (Nat.le_of_ble_eq_true rfl) rfl ?_
  refine aw_iconst C 0 dX9_cutsAnew_4 ki_0 ?_
  refine aw_istore_n C dX9_cutsAnew_5 (by decide) rfl ?_
  refine aw_nl [some (.ref 181), some (.int 0)] rfl ?_
  refine lp_X9_cutsAnew C (M := 181) (a := 182) (fs := (.int 0 :: .ref 182 :: .ref 183 :: .ref 184 :: .ref 185 :: .int 0 :: .int 0 :: .int 0 :: .ref 186 :: .int 0 :: .int 0 :: .int 0 :: .int (-1) :: .ref 187 :: .ref 188 :: .ref 189 :: .int 0 :: .ref 190 :: .ref 191 :: .ref 192 :: .ref 193 :: .ref 194 :: .int 0 :: .ref 195 :: .ref 196 :: .ref 197 :: .int 0 :: .ref 198 :: .ref 199 :: .ref 200 :: .ref 201 :: .ref 202 :: .ref 203 :: .int 0 :: .ref 204 :: .ref 205 :: .ref 206 :: .ref 207 :: .ref 208 :: .ref 209 :: .ref 210 :: .ref 211 :: .ref 212 :: .ref 213 :: .ref 214 :: .int 0 :: .ref 215 :: .ref 216 :: .int 0 :: .ref 217 :: .ref 218 :: .ref 219 :: .ref 220 :: .ref 221 :: .int 0 :: .int 0 :: .int 0 :: .int 0 :: .ref 222 :: .int 0 :: [])) (g := upd (tl (upd (upd (fun _ => 0) 2 (-1)) 4 1) 40) 0 0) [(181, .inr (9, (.int 0 :: .ref 182 :: .ref 183 :: .ref 184 :: .ref 185 :: .int 0 :: .int 0 :: .int 0 :: .ref 186 :: .int 0 :: .int 0 :: .int 0 :: .int (-1) :: .ref 187 :: .ref 188 :: .ref 189 :: .int 0 :: .ref 190 :: .ref 191 :: .ref 192 :: .ref 193 :: .ref 194 :: .int 0 :: .ref 195 :: .ref 196 :: .ref 197 :: .int 0 :: .ref 198 :: .ref 199 :: .ref 200 :: .ref 201 :: .ref 202 :: .ref 203 :: .int 0 :: .ref 204 :: .ref 205 :: .ref 206 :: .ref 207 :: .ref 208 :: .ref 209 :: .ref 210 :: .ref 211 :: .ref 212 :: .ref 213 :: .ref 214 :: .int 0 :: .ref 215 :: .ref 216 :: .int 0 :: .ref 217 :: .ref 218 :: .ref 219 :: .ref 220 :: .ref 221 :: .int 0 :: .int 0 :: .int 0 :: .int 0 :: .ref 222 :: .int 0 :: []))), (182, .inl (0, 4347, .inl (tl (upd (tl (upd (upd (fun _ => 0) 2 (-1)) 4 1) 40) 0 0) 40)))] rfl rfl (by decide) h182 rfl ?_
  exact aw_vret C rfl dX9_cutsAnew_32 (Nat.le_of_ble_eq_true rfl) (Nat.le_of_ble_eq_true rfl) ⟨rfl, rfl, rfl⟩

set_option maxHeartbeats 4000000 in
set_option maxRecDepth 100000 in
theorem c_X9_file_203 {X : GX} {l : Launch} {f : AH} {n : Nat} (h181 : f 181 = some (.inr (9, (.int 0 :: .ref 182 :: .ref 183 :: .ref 184 :: .ref 185 :: .int 0 :: .int 0 :: .int 0 :: .ref 186 :: .int 0 :: .int 0 :: .int 0 :: .int (-1) :: .ref 187 :: .ref 188 :: .ref 189 :: .int 0 :: .ref 190 :: .ref 191 :: .ref 192 :: .ref 193 :: .ref 194 :: .int 0 :: .ref 195 :: .ref 196 :: .ref 197 :: .int 0 :: .ref 198 :: .ref 199 :: .ref 200 :: .ref 201 :: .ref 202 :: .ref 203 :: .int 0 :: .ref 204 :: .ref 205 :: .ref 206 :: .ref 207 :: .ref 208 :: .ref 209 :: .ref 210 :: .ref 211 :: .ref 212 :: .ref 213 :: .ref 214 :: .int 0 :: .ref 215 :: .ref 216 :: .int 0 :: .ref 217 :: .ref 218 :: .ref 219 :: .ref 220 :: .ref 221 :: .int 0 :: .int 0 :: .int 0 :: .int 0 :: .ref 222 :: .int 0 :: [])))) (h182 : f 182 = some (.inl (0, 4347, .inl (tl (upd (upd (fun _ => 0) 2 (-1)) 4 1) 40)))) : AM X l yX9_file cX9_file 3 (some .int) 5 0 0 [.ref 181] f n (EXO f [(181, .inr (9, (.int 0 :: .ref 182 :: .ref 183 :: .ref 184 :: .ref 185 :: .int 0 :: .int 0 :: .int 0 :: .ref 186 :: .int 0 :: .int 0 :: .int 0 :: .int (-1) :: .ref 187 :: .ref 188 :: .ref 189 :: .int 0 :: .ref 190 :: .ref 191 :: .ref 192 :: .ref 193 :: .ref 194 :: .int 0 :: .ref 195 :: .ref 196 :: .ref 197 :: .int 0 :: .ref 198 :: .ref 199 :: .ref 200 :: .ref 201 :: .ref 202 :: .ref 203 :: .int 0 :: .ref 204 :: .ref 205 :: .ref 206 :: .ref 207 :: .ref 208 :: .ref 209 :: .ref 210 :: .ref 211 :: .ref 212 :: .ref 213 :: .ref 214 :: .int 0 :: .ref 215 :: .ref 216 :: .int 0 :: .ref 217 :: .ref 218 :: .ref 219 :: .ref 220 :: .ref 221 :: .int 0 :: .int 0 :: .int 0 :: .int 0 :: .ref 222 :: .int 0 :: []))), (182, .inl (0, 4347, .inl (tl (upd (tl (upd (upd (fun _ => 0) 2 (-1)) 4 1) 40) 0 0) 40)))] (some (.int 0)) n) := by
  refine AM.of (by decide +kernel) rfl (by decide) (fun p e s m args below meth c C hnm => ?_)
  refine ao_start ?_
  refine aw_nl [some (.ref 181), none, none] rfl ?_
  refine aw_ald_n C dX9_file_0 rfl ?_
  refine aw_iconst C 0 dX9_file_1 ki_0 ?_
  refine ao_put C [(181, .inr (9, (.int 0 :: .ref 182 :: .ref 183 :: .ref 184 :: .ref 185 :: .int 0 :: .int 0 :: .int 0 :: .ref 186 :: .int 0 :: .int 0 :: .int 0 :: .int (-1) :: .ref 187 :: .ref 188 :: .ref 189 :: .int 0 :: .ref 190 :: .ref 191 :: .ref 192 :: .ref 193 :: .ref 194 :: .int 0 :: .ref 195 :: .ref 196 :: .ref 197 :: .int 0 :: .ref 198 :: .ref 199 :: .ref 200 :: .ref 201 :: .ref 202 :: .ref 203 :: .int 0 :: .ref 204 :: .ref 205 :: .ref 206 :: .ref 207 :: .ref 208 :: .ref 209 :: .ref 210 :: .ref 211 :: .ref 212 :: .ref 213 :: .ref 214 :: .int 0 :: .ref 215 :: .ref 216 :: .int 0 :: .ref 217 :: .ref 218 :: .ref 219 :: .ref 220 :: .ref 221 :: .int 0 :: .int 0 :: .int 0 :: .int 0 :: .ref 222 :: .int 0 :: [])))] gf_X9_138 cf9 nf9_0 h181 (Nat.le_of_ble_eq_true rfl) rfl rfl dX9_file_2 rfl ?_
  refine aw_ald_n C dX9_file_5 rfl ?_
  refine ao_callV C (ci := 9) (b := 181) [] [(181, .inr (9, (.int 0 :: .ref 182 :: .ref 183 :: .ref 184 :: .ref 185 :: .int 0 :: .int 0 :: .int 0 :: .ref 186 :: .int 0 :: .int 0 :: .int 0 :: .int (-1) :: .ref 187 :: .ref 188 :: .ref 189 :: .int 0 :: .ref 190 :: .ref 191 :: .ref 192 :: .ref 193 :: .ref 194 :: .int 0 :: .ref 195 :: .ref 196 :: .ref 197 :: .int 0 :: .ref 198 :: .ref 199 :: .ref 200 :: .ref 201 :: .ref 202 :: .ref 203 :: .int 0 :: .ref 204 :: .ref 205 :: .ref 206 :: .ref 207 :: .ref 208 :: .ref 209 :: .ref 210 :: .ref 211 :: .ref 212 :: .ref 213 :: .ref 214 :: .int 0 :: .ref 215 :: .ref 216 :: .int 0 :: .ref 217 :: .ref 218 :: .ref 219 :: .ref 220 :: .ref 221 :: .int 0 :: .int 0 :: .int 0 :: .int 0 :: .ref 222 :: .int 0 :: [])))] mv_X9_426 rfl rfl rfl (c_X9_took_197 rfl) rfl dX9_file_6 (Nat.le_of_ble_eq_true rfl) (Nat.le_of_ble_eq_true rfl) rfl (Nat.le_of_ble_eq_true rfl) (Nat.le_of_ble_eq_true rfl) (Nat.le_of_ble_eq_true rfl) rfl ?_
  refine aw_istore_n C dX9_file_9 (by decide) rfl ?_
  refine aw_nl [some (.ref 181), some (.int 0), none] rfl ?_
  refine aw_ald_n C dX9_file_10 rfl ?_
  refine aw_get C gf_X9_7 rfl rfl dX9_file_11 ?_
  refine aw_iconst C 0 dX9_file_14 ki_0 ?_
  refine aw_iload_n C dX9_file_15 rfl ?_
  refine ao_iast C [(181, .inr (9, (.int 0 :: .ref 182 :: .ref 183 :: .ref 184 :: .ref 185 :: .int 0 :: .int 0 :: .int 0 :: .ref 186 :: .int 0 :: .int 0 :: .int 0 :: .int (-1) :: .ref 187 :: .ref 188 :: .ref 189 :: .int 0 :: .ref 190 :: .ref 191 :: .ref 192 :: .ref 193 :: .ref 194 :: .int 0 :: .ref 195 :: .ref 196 :: .ref 197 :: .int 0 :: .ref 198 :: .ref 199 :: .ref 200 :: .ref 201 :: .ref 202 :: .ref 203 :: .int 0 :: .ref 204 :: .ref 205 :: .ref 206 :: .ref 207 :: .ref 208 :: .ref 209 :: .ref 210 :: .ref 211 :: .ref 212 :: .ref 213 :: .ref 214 :: .int 0 :: .ref 215 :: .ref 216 :: .int 0 :: .ref 217 :: .ref 218 :: .ref 219 :: .ref 220 :: .ref 221 :: .int 0 :: .int 0 :: .int 0 :: .int 0 :: .ref 222 :: .int 0 :: []))), (182, .inl (0, 4347, .inl (upd (tl (upd (upd (fun _ => 0) 2 (-1)) 4 1) 40) 0 0)))] h182 (by unfold vp_in; decide) (by decide : _ = 0) dX9_file_16 rfl ?_
  refine aw_iconst C 0 dX9_file_17 ki_0 ?_
  refine aw_istore_n C dX9_file_18 (by decide) rfl ?_
  refine aw_nl [some (.ref 181), some (.int 0), some (.int 0)] rfl ?_
  refine aw_iload_n C dX9_file_19 rfl ?_
  refine aw_iload_n C dX9_file_20 rfl ?_
  refine aw_icmp_ge C 45 dX9_file_21 (by decide) (fun _ => ?_) (fun q => absurd (by decide) q)
  refine aw_ald_n C dX9_file_45 rfl ?_
  refine ao_callV C (ci := 9) (b := 181) [] [(181, .inr (9, (.int 0 :: .ref 182 :: .ref 183 :: .ref 184 :: .ref 185 :: .int 0 :: .int 0 :: .int 0 :: .ref 186 :: .int 0 :: .int 0 :: .int 0 :: .int (-1) :: .ref 187 :: .ref 188 :: .ref 189 :: .int 0 :: .ref 190 :: .ref 191 :: .ref 192 :: .ref 193 :: .ref 194 :: .int 0 :: .ref 195 :: .ref 196 :: .ref 197 :: .int 0 :: .ref 198 :: .ref 199 :: .ref 200 :: .ref 201 :: .ref 202 :: .ref 203 :: .int 0 :: .ref 204 :: .ref 205 :: .ref 206 :: .ref 207 :: .ref 208 :: .ref 209 :: .ref 210 :: .ref 211 :: .ref 212 :: .ref 213 :: .ref 214 :: .int 0 :: .ref 215 :: .ref 216 :: .int 0 :: .ref 217 :: .ref 218 :: .ref 219 :: .ref 220 :: .ref 221 :: .int 0 :: .int 0 :: .int 0 :: .int 0 :: .ref 222 :: .int 0 :: []))), (182, .inl (0, 4347, .inl (tl (upd (tl (upd (upd (fun _ => 0) 2 (-1)) 4 1) 40) 0 0) 40)))] mv_X9_322 rfl rfl rfl (c_X9_cutsAnew_202 rfl rfl) rfl dX9_file_46 (Nat.le_of_ble_eq_true rfl) (Nat.le_of_ble_eq_true rfl) rfl (Nat.le_of_ble_eq_true rfl) (Nat.le_of_ble_eq_true rfl) (Nat.le_of_ble_eq_true rfl) rfl ?_
  refine aw_ald_n C dX9_file_49 rfl ?_
  refine aw_iconst C 0 dX9_file_50 ki_0 ?_
  refine ao_put C [(181, .inr (9, (.int 0 :: .ref 182 :: .ref 183 :: .ref 184 :: .ref 185 :: .int 0 :: .int 0 :: .int 0 :: .ref 186 :: .int 0 :: .int 0 :: .int 0 :: .int (-1) :: .ref 187 :: .ref 188 :: .ref 189 :: .int 0 :: .ref 190 :: .ref 191 :: .ref 192 :: .ref 193 :: .ref 194 :: .int 0 :: .ref 195 :: .ref 196 :: .ref 197 :: .int 0 :: .ref 198 :: .ref 199 :: .ref 200 :: .ref 201 :: .ref 202 :: .ref 203 :: .int 0 :: .ref 204 :: .ref 205 :: .ref 206 :: .ref 207 :: .ref 208 :: .ref 209 :: .ref 210 :: .ref 211 :: .ref 212 :: .ref 213 :: .ref 214 :: .int 0 :: .ref 215 :: .ref 216 :: .int 0 :: .ref 217 :: .ref 218 :: .ref 219 :: .ref 220 :: .ref 221 :: .int 0 :: .int 0 :: .int 0 :: .int 0 :: .ref 222 :: .int 0 :: []))), (182, .inl (0, 4347, .inl (tl (upd (tl (upd (upd (fun _ => 0) 2 (-1)) 4 1) 40) 0 0) 40)))] gf_X9_325 cf9 nf9_5 rfl (Nat.le_of_ble_eq_true rfl) rfl rfl dX9_file_51 rfl ?_
  refine aw_ald_n C dX9_file_54 rfl ?_
  refine aw_get C gf_X9_204 rfl rfl dX9_file_55 ?_
  exact aw_iret C rfl rfl dX9_file_58 (Nat.le_of_ble_eq_true rfl) (Nat.le_of_ble_eq_true rfl) ⟨rfl, rfl, rfl⟩

set_option maxHeartbeats 4000000 in
set_option maxRecDepth 100000 in
theorem c_X8_kind_204 {X : GX} {l : Launch} {f : AH} {n : Nat} {a1 : Int32} (hl0 : l.stackTraces = false) (q0 : (-2147483648) ≤ a1.toInt ∧ a1.toInt ≤ (-2)) : AX X l yX8_kind cX8_kind 3 (some .int) 6 1 6 [.ref 0, .int a1, .int 0] f n (fun _ _ _ => False) (TXO eA f [] n) := by
  refine AX.of (by decide +kernel) rfl (Nat.le_of_ble_eq_true rfl) (fun p e s m args below meth c C htab => ?_)
  refine ao_start ?_
  refine aw_nl [some (.ref 0), some (.int a1), some (.int 0)] rfl ?_
  obtain ⟨q0a, q0b⟩ := q0
  refine aw_iload_n C dX8_kind_0 rfl ?_
  refine aw_iconst C 3 dX8_kind_1 ki_3 ?_
  refine aw_icmp_gt C 18 dX8_kind_2 (by decide) (fun q => absurd q (c_nlt (by rw [ti_3]; omega))) (fun _ => ?_)
  refine aw_iload_n C dX8_kind_5 rfl ?_
  refine aw_iload_n C dX8_kind_6 rfl ?_
  refine aw_if_eq C 14 dX8_kind_7 (by decide) (fun _ => ?_) (fun q => absurd (by decide) q)
  refine aw_iconst C 0 dX8_kind_14 ki_0 ?_
  refine aw_icmp_ge C 28 dX8_kind_15 (by decide) (fun q => absurd q (c_nle (by rw [ti_0]; omega))) (fun _ => ?_)
  exact ax_throw C htab hl0 th_eA sx_137 dX8_kind_18 dX8_kind_21 dX8_kind_22 dX8_kind_24 dX8_kind_27 (Nat.le_of_ble_eq_true rfl) (Nat.le_of_ble_eq_true rfl) (Nat.le_of_ble_eq_true rfl) (Nat.le_of_ble_eq_true rfl) (Nat.le_of_ble_eq_true rfl) (Nat.le_of_ble_eq_true rfl) (fun n9 h9 => ⟨rfl, rfl, h9⟩)

set_option maxHeartbeats 4000000 in
set_option maxRecDepth 100000 in
theorem c_L_kind_205 {X : GX} {l : Launch} {f : AH} {n : Nat} {a1 : Int32} (hl0 : l.stackTraces = false) (q0 : (-2147483648) ≤ a1.toInt ∧ a1.toInt ≤ (-2)) (h0 : f 0 = some (.inr (8, [.ref 1, .ref 3, .ref 8, .ref 13, .ref 18, .ref 59, .ref 115, .ref 171, .ref 178, .int 0, .int 0, .int 0, .int 0, .int (-1)]))) : AMW X l yL_kind cL_kind 5 (some .int) [(0, 10, 13, 13)] 7 1 6 [.ref 0, .int a1, .int 0, .ref 223] f n (EXN f [] (some (.int 1))) := by
  refine AMW.of (by decide +kernel) rfl (Nat.le_of_ble_eq_true rfl) (fun p e s m args below meth c C htab => ?_)
  refine ao_start ?_
  refine aw_nl [some (.ref 0), some (.int a1), some (.int 0), some (.ref 223), none] rfl ?_
  obtain ⟨q0a, q0b⟩ := q0
  refine aw_ald_n C dL_kind_0 rfl ?_
  refine aw_iconst C 0 dL_kind_1 ki_0 ?_
  refine aw_ald_n C dL_kind_2 rfl ?_
  refine aw_iload_n C dL_kind_3 rfl ?_
  refine aw_iload_n C dL_kind_4 rfl ?_
  refine ax_callV C (ci := 8) (b := 0) [.int a1, .int 0] mv_L_15 rfl rfl h0 (c_X8_kind_204 hl0 ⟨by omega, by omega⟩) rfl dL_kind_5 (Nat.le_of_ble_eq_true rfl) (Nat.le_of_ble_eq_true rfl) rfl (Nat.le_of_ble_eq_true rfl) (Nat.le_of_ble_eq_true rfl) (Nat.le_of_ble_eq_true rfl) (fun E9 f9 n9 h9 => ?_) (fun _ _ _ h9 => h9.elim)
  obtain ⟨rfl, rfl, h9⟩ := h9
  refine at_flat [] rfl ?_
  refine at_catch C htab [] ⟨0, 10, 13, 13⟩ [] rfl (fun z hz => nomatch hz) (by decide) (by decide) cl_L_13 (by decide) (ah_astore C dL_kind_13 (by decide) rfl ?_)
  refine aw_nl [some (.ref 0), some (.int a1), some (.int 0), some (.ref 223), none] rfl ?_
  refine aw_iconst C 1 dL_kind_15 ki_1 ?_
  exact aw_iret C rfl rfl dL_kind_16 (Nat.le_of_ble_eq_true rfl) (Nat.le_of_ble_eq_true rfl) ⟨rfl, rfl⟩

set_option maxHeartbeats 4000000 in
set_option maxRecDepth 100000 in
theorem c_X9_isIn_206 {X : GX} {l : Launch} {f : AH} {n : Nat} {a0 : Int32} (q0 : (-2147483648) ≤ a0.toInt ∧ a0.toInt ≤ (-2)) : AM X l yX9_isIn cX9_isIn 3 (some .boolean) 0 0 0 [.int a0, .int 0, .int 3] f n (EXO f [] (some (.int 0)) n) := by
  refine AM.of (by decide +kernel) rfl (Nat.le_of_ble_eq_true rfl) (fun p e s m args below meth c C hnm => ?_)
  refine ao_start ?_
  refine aw_nl [some (.int a0), some (.int 0), some (.int 3)] rfl ?_
  obtain ⟨q0a, q0b⟩ := q0
  refine aw_iload_n C dX9_isIn_0 rfl ?_
  refine aw_iload_n C dX9_isIn_1 rfl ?_
  refine aw_icmp_lt C 14 dX9_isIn_2 (by decide) (fun _ => ?_) (fun q => absurd (c_lt (by rw [ti_0]; omega)) q)
  refine aw_iconst C 0 dX9_isIn_14 ki_0 ?_
  exact aw_iret C rfl (by decide) dX9_isIn_15 (Nat.le_of_ble_eq_true rfl) (Nat.le_of_ble_eq_true rfl) ⟨rfl, rfl, rfl⟩

set_option maxHeartbeats 4000000 in
set_option maxRecDepth 100000 in
theorem c_X9_kind_207 {X : GX} {l : Launch} {f : AH} {n : Nat} {a1 : Int32} (q0 : (-2147483648) ≤ a1.toInt ∧ a1.toInt ≤ (-2)) (h181 : f 181 = some (.inr (9, (.int 0 :: .ref 182 :: .ref 183 :: .ref 184 :: .ref 185 :: .int 0 :: .int 0 :: .int 0 :: .ref 186 :: .int 0 :: .int 0 :: .int 0 :: .int (-1) :: .ref 187 :: .ref 188 :: .ref 189 :: .int 0 :: .ref 190 :: .ref 191 :: .ref 192 :: .ref 193 :: .ref 194 :: .int 0 :: .ref 195 :: .ref 196 :: .ref 197 :: .int 0 :: .ref 198 :: .ref 199 :: .ref 200 :: .ref 201 :: .ref 202 :: .ref 203 :: .int 0 :: .ref 204 :: .ref 205 :: .ref 206 :: .ref 207 :: .ref 208 :: .ref 209 :: .ref 210 :: .ref 211 :: .ref 212 :: .ref 213 :: .ref 214 :: .int 0 :: .ref 215 :: .ref 216 :: .int 0 :: .ref 217 :: .ref 218 :: .ref 219 :: .ref 220 :: .ref 221 :: .int 0 :: .int 0 :: .int 0 :: .int 0 :: .ref 222 :: .int 0 :: [])))) : AM X l yX9_kind cX9_kind 3 (some .int) 1 0 0 [.ref 181, .int a1, .int 0] f n (EXO f [(181, .inr (9, (.int 1 :: .ref 182 :: .ref 183 :: .ref 184 :: .ref 185 :: .int 0 :: .int 0 :: .int 0 :: .ref 186 :: .int 0 :: .int 0 :: .int 0 :: .int (-1) :: .ref 187 :: .ref 188 :: .ref 189 :: .int 0 :: .ref 190 :: .ref 191 :: .ref 192 :: .ref 193 :: .ref 194 :: .int 0 :: .ref 195 :: .ref 196 :: .ref 197 :: .int 0 :: .ref 198 :: .ref 199 :: .ref 200 :: .ref 201 :: .ref 202 :: .ref 203 :: .int 0 :: .ref 204 :: .ref 205 :: .ref 206 :: .ref 207 :: .ref 208 :: .ref 209 :: .ref 210 :: .ref 211 :: .ref 212 :: .ref 213 :: .ref 214 :: .int 0 :: .ref 215 :: .ref 216 :: .int 0 :: .ref 217 :: .ref 218 :: .ref 219 :: .ref 220 :: .ref 221 :: .int 0 :: .int 0 :: .int 0 :: .int 0 :: .ref 222 :: .int 0 :: [])))] (some (.int 0)) n) := by
  refine AM.of (by decide +kernel) rfl (Nat.le_of_ble_eq_true rfl) (fun p e s m args below meth c C hnm => ?_)
  refine ao_start ?_
  refine aw_nl [some (.ref 181), some (.int a1), some (.int 0)] rfl ?_
  obtain ⟨q0a, q0b⟩ := q0
  refine aw_ald_n C dX9_kind_0 rfl ?_
  refine aw_iload_n C dX9_kind_1 rfl ?_
  refine aw_iload_n C dX9_kind_2 rfl ?_
  refine aw_if_eq C 10 dX9_kind_3 (by decide) (fun _ => ?_) (fun q => absurd (by decide) q)
  refine aw_iconst C 0 dX9_kind_10 ki_0 ?_
  refine aw_iconst C 3 dX9_kind_11 ki_3 ?_
  refine ao_callS C [.int a1, .int 0, .int 3] [] ms_X9_141 (c_X9_isIn_206 ⟨by omega, by omega⟩) rfl dX9_kind_12 (Nat.le_of_ble_eq_true rfl) (Nat.le_of_ble_eq_true rfl) rfl (Nat.le_of_ble_eq_true rfl) (Nat.le_of_ble_eq_true rfl) (Nat.le_of_ble_eq_true rfl) rfl ?_
  refine aw_if_eq C 22 dX9_kind_15 (by decide) (fun _ => ?_) (fun q => absurd (by decide) q)
  refine aw_iconst C 1 dX9_kind_22 ki_1 ?_
  refine ao_put C [(181, .inr (9, (.int 1 :: .ref 182 :: .ref 183 :: .ref 184 :: .ref 185 :: .int 0 :: .int 0 :: .int 0 :: .ref 186 :: .int 0 :: .int 0 :: .int 0 :: .int (-1) :: .ref 187 :: .ref 188 :: .ref 189 :: .int 0 :: .ref 190 :: .ref 191 :: .ref 192 :: .ref 193 :: .ref 194 :: .int 0 :: .ref 195 :: .ref 196 :: .ref 197 :: .int 0 :: .ref 198 :: .ref 199 :: .ref 200 :: .ref 201 :: .ref 202 :: .ref 203 :: .int 0 :: .ref 204 :: .ref 205 :: .ref 206 :: .ref 207 :: .ref 208 :: .ref 209 :: .ref 210 :: .ref 211 :: .ref 212 :: .ref 213 :: .ref 214 :: .int 0 :: .ref 215 :: .ref 216 :: .int 0 :: .ref 217 :: .ref 218 :: .ref 219 :: .ref 220 :: .ref 221 :: .int 0 :: .int 0 :: .int 0 :: .int 0 :: .ref 222 :: .int 0 :: [])))] gf_X9_138 cf9 nf9_0 h181 (Nat.le_of_ble_eq_true rfl) rfl rfl dX9_kind_23 rfl ?_
  refine aw_ald_n C dX9_kind_26 rfl ?_
  refine aw_get C gf_X9_138 rfl rfl dX9_kind_27 ?_
  refine aw_if_le C 35 dX9_kind_30 (by decide) (fun q => absurd q (by decide)) (fun _ => ?_)
  refine aw_iconst C 0 dX9_kind_33 ki_0 ?_
  exact aw_iret C rfl rfl dX9_kind_34 (Nat.le_of_ble_eq_true rfl) (Nat.le_of_ble_eq_true rfl) ⟨rfl, rfl, rfl⟩

set_option maxHeartbeats 4000000 in
set_option maxRecDepth 100000 in
theorem c_X9_thrown_208 {X : GX} {l : Launch} {f : AH} {n : Nat} (h181 : f 181 = some (.inr (9, (.int 1 :: .ref 182 :: .ref 183 :: .ref 184 :: .ref 185 :: .int 0 :: .int 0 :: .int 0 :: .ref 186 :: .int 0 :: .int 0 :: .int 0 :: .int (-1) :: .ref 187 :: .ref 188 :: .ref 189 :: .int 0 :: .ref 190 :: .ref 191 :: .ref 192 :: .ref 193 :: .ref 194 :: .int 0 :: .ref 195 :: .ref 196 :: .ref 197 :: .int 0 :: .ref 198 :: .ref 199 :: .ref 200 :: .ref 201 :: .ref 202 :: .ref 203 :: .int 0 :: .ref 204 :: .ref 205 :: .ref 206 :: .ref 207 :: .ref 208 :: .ref 209 :: .ref 210 :: .ref 211 :: .ref 212 :: .ref 213 :: .ref 214 :: .int 0 :: .ref 215 :: .ref 216 :: .int 0 :: .ref 217 :: .ref 218 :: .ref 219 :: .ref 220 :: .ref 221 :: .int 0 :: .int 0 :: .int 0 :: .int 0 :: .ref 222 :: .int 0 :: [])))) : AM X l yX9_thrown cX9_thrown 1 (some .int) 0 0 0 [.ref 181] f n (EXO f [] (some (.int 1)) n) := by
  refine AM.of (by decide +kernel) rfl (by decide) (fun p e s m args below meth c C hnm => ?_)
  refine ao_start ?_
  refine aw_nl [some (.ref 181)] rfl ?_
  refine aw_ald_n C dX9_thrown_0 rfl ?_
  refine aw_get C gf_X9_138 h181 rfl dX9_thrown_1 ?_
  exact aw_iret C rfl rfl dX9_thrown_4 (Nat.le_of_ble_eq_true rfl) (Nat.le_of_ble_eq_true rfl) ⟨rfl, rfl, rfl⟩

set_option maxHeartbeats 4000000 in
set_option maxRecDepth 100000 in
theorem c_X8_kind_209 {X : GX} {l : Launch} {f : AH} {n : Nat} {a1 : Int32} (hl0 : l.stackTraces = false) (q0 : (-2147483648) ≤ a1.toInt ∧ a1.toInt ≤ (-2)) : AX X l yX8_kind cX8_kind 3 (some .int) 6 1 6 [.ref 0, .int a1, .int 1] f n (fun _ _ _ => False) (TXO eA f [] n) := by
  refine AX.of (by decide +kernel) rfl (Nat.le_of_ble_eq_true rfl) (fun p e s m args below meth c C htab => ?_)
  refine ao_start ?_
  refine aw_nl [some (.ref 0), some (.int a1), some (.int 1)] rfl ?_
  obtain ⟨q0a, q0b⟩ := q0
  refine aw_iload_n C dX8_kind_0 rfl ?_
  refine aw_iconst C 3 dX8_kind_1 ki_3 ?_
  refine aw_icmp_gt C 18 dX8_kind_2 (by decide) (fun q => absurd q (c_nlt (by rw [ti_3]; omega))) (fun _ => ?_)
  refine aw_iload_n C dX8_kind_5 rfl ?_
  refine aw_iload_n C dX8_kind_6 rfl ?_
  refine aw_if_eq C 14 dX8_kind_7 (by decide) (fun q => absurd q (by decide)) (fun _ => ?_)
  refine aw_iconst C (-1) dX8_kind_10 ki_m1 ?_
  refine aw_goto C 15 dX8_kind_11 (by decide) ?_
  refine aw_icmp_ge C 28 dX8_kind_15 (by decide) (fun q => absurd q (c_nle (by rw [ti_m1]; omega))) (fun _ => ?_)
  exact ax_throw C htab hl0 th_eA sx_137 dX8_kind_18 dX8_kind_21 dX8_kind_22 dX8_kind_24 dX8_kind_27 (Nat.le_of_ble_eq_true rfl) (Nat.le_of_ble_eq_true rfl) (Nat.le_of_ble_eq_true rfl) (Nat.le_of_ble_eq_true rfl) (Nat.le_of_ble_eq_true rfl) (Nat.le_of_ble_eq_true rfl) (fun n9 h9 => ⟨rfl, rfl, h9⟩)

set_option maxHeartbeats 4000000 in
set_option maxRecDepth 100000 in
theorem c_L_kind_210 {X : GX} {l : Launch} {f : AH} {n : Nat} {a1 : Int32} (hl0 : l.stackTraces = false) (q0 : (-2147483648) ≤ a1.toInt ∧ a1.toInt ≤ (-2)) (h0 : f 0 = some (.inr (8, [.ref 1, .ref 3, .ref 8, .ref 13, .ref 18, .ref 59, .ref 115, .ref 171, .ref 178, .int 0, .int 0, .int 0, .int 0, .int (-1)]))) : AMW X l yL_kind cL_kind 5 (some .int) [(0, 10, 13, 13)] 7 1 6 [.ref 0, .int a1, .int 1, .ref 223] f n (EXN f [] (some (.int 1))) := by
  refine AMW.of (by decide +kernel) rfl (Nat.le_of_ble_eq_true rfl) (fun p e s m args below meth c C htab => ?_)
  refine ao_start ?_
  refine aw_nl [some (.ref 0), some (.int a1), some (.int 1), some (.ref 223), none] rfl ?_
  obtain ⟨q0a, q0b⟩ := q0
  refine aw_ald_n C dL_kind_0 rfl ?_
  refine aw_iconst C 0 dL_kind_1 ki_0 ?_
  refine aw_ald_n C dL_kind_2 rfl ?_
  refine aw_iload_n C dL_kind_3 rfl ?_
  refine aw_iload_n C dL_kind_4 rfl ?_
  refine ax_callV C (ci := 8) (b := 0) [.int a1, .int 1] mv_L_15 rfl rfl h0 (c_X8_kind_209 hl0 ⟨by omega, by omega⟩) rfl dL_kind_5 (Nat.le_of_ble_eq_true rfl) (Nat.le_of_ble_eq_true rfl) rfl (Nat.le_of_ble_eq_true rfl) (Nat.le_of_ble_eq_true rfl) (Nat.le_of_ble_eq_true rfl) (fun E9 f9 n9 h9 => ?_) (fun _ _ _ h9 => h9.elim)
  obtain ⟨rfl, rfl, h9⟩ := h9
  refine at_flat [] rfl ?_
  refine at_catch C htab [] ⟨0, 10, 13, 13⟩ [] rfl (fun z hz => nomatch hz) (by decide) (by decide) cl_L_13 (by decide) (ah_astore C dL_kind_13 (by decide) rfl ?_)
  refine aw_nl [some (.ref 0), some (.int a1), some (.int 1), some (.ref 223), none] rfl ?_
  refine aw_iconst C 1 dL_kind_15 ki_1 ?_
  exact aw_iret C rfl rfl dL_kind_16 (Nat.le_of_ble_eq_true rfl) (Nat.le_of_ble_eq_true rfl) ⟨rfl, rfl⟩

set_option maxHeartbeats 4000000 in
set_option maxRecDepth 100000 in
theorem c_X9_isIn_211 {X : GX} {l : Launch} {f : AH} {n : Nat} {a0 : Int32} (q0 : (-2147483648) ≤ a0.toInt ∧ a0.toInt ≤ (-2)) : AM X l yX9_isIn cX9_isIn 3 (some .boolean) 0 0 0 [.int a0, .int (-1), .int 3] f n (EXO f [] (some (.int 0)) n) := by
  refine AM.of (by decide +kernel) rfl (Nat.le_of_ble_eq_true rfl) (fun p e s m args below meth c C hnm => ?_)
  refine ao_start ?_
  refine aw_nl [some (.int a0), some (.int (-1)), some (.int 3)] rfl ?_
  obtain ⟨q0a, q0b⟩ := q0
  refine aw_iload_n C dX9_isIn_0 rfl ?_
  refine aw_iload_n C dX9_isIn_1 rfl ?_
  refine aw_icmp_lt C 14 dX9_isIn_2 (by decide) (fun _ => ?_) (fun q => absurd (c_lt (by rw [ti_m1]; omega)) q)
  refine aw_iconst C 0 dX9_isIn_14 ki_0 ?_
  exact aw_iret C rfl (by decide) dX9_isIn_15 (Nat.le_of_ble_eq_true rfl) (Nat.le_of_ble_eq_true rfl) ⟨rfl, rfl, rfl⟩

set_option maxHeartbeats 4000000 in
set_option maxRecDepth 100000 in
theorem c_X9_kind_212 {X : GX} {l : Launch} {f : AH} {n : Nat} {a1 : Int32} (q0 : (-2147483648) ≤ a1.toInt ∧ a1.toInt ≤ (-2)) (h181 : f 181 = some (.inr (9, (.int 0 :: .ref 182 :: .ref 183 :: .ref 184 :: .ref 185 :: .int 0 :: .int 0 :: .int 0 :: .ref 186 :: .int 0 :: .int 0 :: .int 0 :: .int (-1) :: .ref 187 :: .ref 188 :: .ref 189 :: .int 0 :: .ref 190 :: .ref 191 :: .ref 192 :: .ref 193 :: .ref 194 :: .int 0 :: .ref 195 :: .ref 196 :: .ref 197 :: .int 0 :: .ref 198 :: .ref 199 :: .ref 200 :: .ref 201 :: .ref 202 :: .ref 203 :: .int 0 :: .ref 204 :: .ref 205 :: .ref 206 :: .ref 207 :: .ref 208 :: .ref 209 :: .ref 210 :: .ref 211 :: .ref 212 :: .ref 213 :: .ref 214 :: .int 0 :: .ref 215 :: .ref 216 :: .int 0 :: .ref 217 :: .ref 218 :: .ref 219 :: .ref 220 :: .ref 221 :: .int 0 :: .int 0 :: .int 0 :: .int 0 :: .ref 222 :: .int 0 :: [])))) : AM X l yX9_kind cX9_kind 3 (some .int) 1 0 0 [.ref 181, .int a1, .int 1] f n (EXO f [(181, .inr (9, (.int 1 :: .ref 182 :: .ref 183 :: .ref 184 :: .ref 185 :: .int 0 :: .int 0 :: .int 0 :: .ref 186 :: .int 0 :: .int 0 :: .int 0 :: .int (-1) :: .ref 187 :: .ref 188 :: .ref 189 :: .int 0 :: .ref 190 :: .ref 191 :: .ref 192 :: .ref 193 :: .ref 194 :: .int 0 :: .ref 195 :: .ref 196 :: .ref 197 :: .int 0 :: .ref 198 :: .ref 199 :: .ref 200 :: .ref 201 :: .ref 202 :: .ref 203 :: .int 0 :: .ref 204 :: .ref 205 :: .ref 206 :: .ref 207 :: .ref 208 :: .ref 209 :: .ref 210 :: .ref 211 :: .ref 212 :: .ref 213 :: .ref 214 :: .int 0 :: .ref 215 :: .ref 216 :: .int 0 :: .ref 217 :: .ref 218 :: .ref 219 :: .ref 220 :: .ref 221 :: .int 0 :: .int 0 :: .int 0 :: .int 0 :: .ref 222 :: .int 0 :: [])))] (some (.int 0)) n) := by
  refine AM.of (by decide +kernel) rfl (Nat.le_of_ble_eq_true rfl) (fun p e s m args below meth c C hnm => ?_)
  refine ao_start ?_
  refine aw_nl [some (.ref 181), some (.int a1), some (.int 1)] rfl ?_
  obtain ⟨q0a, q0b⟩ := q0
  refine aw_ald_n C dX9_kind_0 rfl ?_
  refine aw_iload_n C dX9_kind_1 rfl ?_
  refine aw_iload_n C dX9_kind_2 rfl ?_
  refine aw_if_eq C 10 dX9_kind_3 (by decide) (fun q => absurd q (by decide)) (fun _ => ?_)
  refine aw_iconst C (-1) dX9_kind_6 ki_m1 ?_
  refine aw_goto C 11 dX9_kind_7 (by decide) ?_
  refine aw_iconst C 3 dX9_kind_11 ki_3 ?_
  refine ao_callS C [.int a1, .int (-1), .int 3] [] ms_X9_141 (c_X9_isIn_211 ⟨by omega, by omega⟩) rfl dX9_kind_12 (Nat.le_of_ble_eq_true rfl) (Nat.le_of_ble_eq_true rfl) rfl (Nat.le_of_ble_eq_true rfl) (Nat.le_of_ble_eq_true rfl) (Nat.le_of_ble_eq_true rfl) rfl ?_
  refine aw_if_eq C 22 dX9_kind_15 (by decide) (fun _ => ?_) (fun q => absurd (by decide) q)
  refine aw_iconst C 1 dX9_kind_22 ki_1 ?_
  refine ao_put C [(181, .inr (9, (.int 1 :: .ref 182 :: .ref 183 :: .ref 184 :: .ref 185 :: .int 0 :: .int 0 :: .int 0 :: .ref 186 :: .int 0 :: .int 0 :: .int 0 :: .int (-1) :: .ref 187 :: .ref 188 :: .ref 189 :: .int 0 :: .ref 190 :: .ref 191 :: .ref 192 :: .ref 193 :: .ref 194 :: .int 0 :: .ref 195 :: .ref 196 :: .ref 197 :: .int 0 :: .ref 198 :: .ref 199 :: .ref 200 :: .ref 201 :: .ref 202 :: .ref 203 :: .int 0 :: .ref 204 :: .ref 205 :: .ref 206 :: .ref 207 :: .ref 208 :: .ref 209 :: .ref 210 :: .ref 211 :: .ref 212 :: .ref 213 :: .ref 214 :: .int 0 :: .ref 215 :: .ref 216 :: .int 0 :: .ref 217 :: .ref 218 :: .ref 219 :: .ref 220 :: .ref 221 :: .int 0 :: .int 0 :: .int 0 :: .int 0 :: .ref 222 :: .int 0 :: [])))] gf_X9_138 cf9 nf9_0 h181 (Nat.le_of_ble_eq_true rfl) rfl rfl dX9_kind_23 rfl ?_
  refine aw_ald_n C dX9_kind_26 rfl ?_
  refine aw_get C gf_X9_138 rfl rfl dX9_kind_27 ?_
  refine aw_if_le C 35 dX9_kind_30 (by decide) (fun q => absurd q (by decide)) (fun _ => ?_)
  refine aw_iconst C 0 dX9_kind_33 ki_0 ?_
  exact aw_iret C rfl rfl dX9_kind_34 (Nat.le_of_ble_eq_true rfl) (Nat.le_of_ble_eq_true rfl) ⟨rfl, rfl, rfl⟩

set_option maxHeartbeats 4000000 in
set_option maxRecDepth 100000 in
theorem c_X8_kind_213 {X : GX} {l : Launch} {f : AH} {n : Nat} (hl0 : l.stackTraces = false) : AX X l yX8_kind cX8_kind 3 (some .int) 6 1 6 [.ref 0, .int (-1), .int 0] f n (fun _ _ _ => False) (TXO eA f [] n) := by
  refine AX.of (by decide +kernel) rfl (by decide) (fun p e s m args below meth c C htab => ?_)
  refine ao_start ?_
  refine aw_nl [some (.ref 0), some (.int (-1)), some (.int 0)] rfl ?_
  refine aw_iload_n C dX8_kind_0 rfl ?_
  refine aw_iconst C 3 dX8_kind_1 ki_3 ?_
  refine aw_icmp_gt C 18 dX8_kind_2 (by decide) (fun q => absurd q (by decide)) (fun _ => ?_)
  refine aw_iload_n C dX8_kind_5 rfl ?_
  refine aw_iload_n C dX8_kind_6 rfl ?_
  refine aw_if_eq C 14 dX8_kind_7 (by decide) (fun _ => ?_) (fun q => absurd (by decide) q)
  refine aw_iconst C 0 dX8_kind_14 ki_0 ?_
  refine aw_icmp_ge C 28 dX8_kind_15 (by decide) (fun q => absurd q (by decide)) (fun _ => ?_)
  exact ax_throw C htab hl0 th_eA sx_137 dX8_kind_18 dX8_kind_21 dX8_kind_22 dX8_kind_24 dX8_kind_27 (Nat.le_of_ble_eq_true rfl) (Nat.le_of_ble_eq_true rfl) (Nat.le_of_ble_eq_true rfl) (Nat.le_of_ble_eq_true rfl) (Nat.le_of_ble_eq_true rfl) (Nat.le_of_ble_eq_true rfl) (fun n9 h9 => ⟨rfl, rfl, h9⟩)

set_option maxHeartbeats 4000000 in
set_option maxRecDepth 100000 in
theorem c_L_kind_214 {X : GX} {l : Launch} {f : AH} {n : Nat} (hl0 : l.stackTraces = false) (h0 : f 0 = some (.inr (8, [.ref 1, .ref 3, .ref 8, .ref 13, .ref 18, .ref 59, .ref 115, .ref 171, .ref 178, .int 0, .int 0, .int 0, .int 0, .int (-1)]))) : AMW X l yL_kind cL_kind 5 (some .int) [(0, 10, 13, 13)] 7 1 6 [.ref 0, .int (-1), .int 0, .ref 223] f n (EXN f [] (some (.int 1))) := by
  refine AMW.of (by decide +kernel) rfl (by decide) (fun p e s m args below meth c C htab => ?_)
  refine ao_start ?_
  refine aw_nl [some (.ref 0), some (.int (-1)), some (.int 0), some (.ref 223), none] rfl ?_
  refine aw_ald_n C dL_kind_0 rfl ?_
  refine aw_iconst C 0 dL_kind_1 ki_0 ?_
  refine aw_ald_n C dL_kind_2 rfl ?_
  refine aw_iload_n C dL_kind_3 rfl ?_
  refine aw_iload_n C dL_kind_4 rfl ?_
  refine ax_callV C (ci := 8) (b := 0) [.int (-1), .int 0] mv_L_15 rfl rfl h0 (c_X8_kind_213 hl0) rfl dL_kind_5 (Nat.le_of_ble_eq_true rfl) (Nat.le_of_ble_eq_true rfl) rfl (Nat.le_of_ble_eq_true rfl) (Nat.le_of_ble_eq_true rfl) (Nat.le_of_ble_eq_true rfl) (fun E9 f9 n9 h9 => ?_) (fun _ _ _ h9 => h9.elim)
  obtain ⟨rfl, rfl, h9⟩ := h9
  refine at_flat [] rfl ?_
  refine at_catch C htab [] ⟨0, 10, 13, 13⟩ [] rfl (fun z hz => nomatch hz) (by decide) (by decide) cl_L_13 (by decide) (ah_astore C dL_kind_13 (by decide) rfl ?_)
  refine aw_nl [some (.ref 0), some (.int (-1)), some (.int 0), some (.ref 223), none] rfl ?_
  refine aw_iconst C 1 dL_kind_15 ki_1 ?_
  exact aw_iret C rfl rfl dL_kind_16 (Nat.le_of_ble_eq_true rfl) (Nat.le_of_ble_eq_true rfl) ⟨rfl, rfl⟩

set_option maxHeartbeats 4000000 in
set_option maxRecDepth 100000 in
theorem c_X9_isIn_215 {X : GX} {l : Launch} {f : AH} {n : Nat} : AM X l yX9_isIn cX9_isIn 3 (some .boolean) 0 0 0 [.int (-1), .int 0, .int 3] f n (EXO f [] (some (.int 0)) n) := by
  refine AM.of (by decide +kernel) rfl (by decide) (fun p e s m args below meth c C hnm => ?_)
  refine ao_start ?_
  refine aw_nl [some (.int (-1)), some (.int 0), some (.int 3)] rfl ?_
  refine aw_iload_n C dX9_isIn_0 rfl ?_
  refine aw_iload_n C dX9_isIn_1 rfl ?_
  refine aw_icmp_lt C 14 dX9_isIn_2 (by decide) (fun _ => ?_) (fun q => absurd (by decide) q)
  refine aw_iconst C 0 dX9_isIn_14 ki_0 ?_
  exact aw_iret C rfl (by decide) dX9_isIn_15 (Nat.le_of_ble_eq_true rfl) (Nat.le_of_ble_eq_true rfl) ⟨rfl, rfl, rfl⟩

set_option maxHeartbeats 4000000 in
set_option maxRecDepth 100000 in
theorem c_X9_kind_216 {X : GX} {l : Launch} {f : AH} {n : Nat} (h181 : f 181 = some (.inr (9, (.int 0 :: .ref 182 :: .ref 183 :: .ref 184 :: .ref 185 :: .int 0 :: .int 0 :: .int 0 :: .ref 186 :: .int 0 :: .int 0 :: .int 0 :: .int (-1) :: .ref 187 :: .ref 188 :: .ref 189 :: .int 0 :: .ref 190 :: .ref 191 :: .ref 192 :: .ref 193 :: .ref 194 :: .int 0 :: .ref 195 :: .ref 196 :: .ref 197 :: .int 0 :: .ref 198 :: .ref 199 :: .ref 200 :: .ref 201 :: .ref 202 :: .ref 203 :: .int 0 :: .ref 204 :: .ref 205 :: .ref 206 :: .ref 207 :: .ref 208 :: .ref 209 :: .ref 210 :: .ref 211 :: .ref 212 :: .ref 213 :: .ref 214 :: .int 0 :: .ref 215 :: .ref 216 :: .int 0 :: .ref 217 :: .ref 218 :: .ref 219 :: .ref 220 :: .ref 221 :: .int 0 :: .int 0 :: .int 0 :: .int 0 :: .ref 222 :: .int 0 :: [])))) : AM X l yX9_kind cX9_kind 3 (some .int) 1 0 0 [.ref 181, .int (-1), .int 0] f n (EXO f [(181, .inr (9, (.int 1 :: .ref 182 :: .ref 183 :: .ref 184 :: .ref 185 :: .int 0 :: .int 0 :: .int 0 :: .ref 186 :: .int 0 :: .int 0 :: .int 0 :: .int (-1) :: .ref 187 :: .ref 188 :: .ref 189 :: .int 0 :: .ref 190 :: .ref 191 :: .ref 192 :: .ref 193 :: .ref 194 :: .int 0 :: .ref 195 :: .ref 196 :: .ref 197 :: .int 0 :: .ref 198 :: .ref 199 :: .ref 200 :: .ref 201 :: .ref 202 :: .ref 203 :: .int 0 :: .ref 204 :: .ref 205 :: .ref 206 :: .ref 207 :: .ref 208 :: .ref 209 :: .ref 210 :: .ref 211 :: .ref 212 :: .ref 213 :: .ref 214 :: .int 0 :: .ref 215 :: .ref 216 :: .int 0 :: .ref 217 :: .ref 218 :: .ref 219 :: .ref 220 :: .ref 221 :: .int 0 :: .int 0 :: .int 0 :: .int 0 :: .ref 222 :: .int 0 :: [])))] (some (.int 0)) n) := by
  refine AM.of (by decide +kernel) rfl (by decide) (fun p e s m args below meth c C hnm => ?_)
  refine ao_start ?_
  refine aw_nl [some (.ref 181), some (.int (-1)), some (.int 0)] rfl ?_
  refine aw_ald_n C dX9_kind_0 rfl ?_
  refine aw_iload_n C dX9_kind_1 rfl ?_
  refine aw_iload_n C dX9_kind_2 rfl ?_
  refine aw_if_eq C 10 dX9_kind_3 (by decide) (fun _ => ?_) (fun q => absurd (by decide) q)
  refine aw_iconst C 0 dX9_kind_10 ki_0 ?_
  refine aw_iconst C 3 dX9_kind_11 ki_3 ?_
  refine ao_callS C [.int (-1), .int 0, .int 3] [] ms_X9_141 (c_X9_isIn_215) rfl dX9_kind_12 (Nat.le_of_ble_eq_true rfl) (Nat.le_of_ble_eq_true rfl) rfl (Nat.le_of_ble_eq_true rfl) (Nat.le_of_ble_eq_true rfl) (Nat.le_of_ble_eq_true rfl) rfl ?_
  refine aw_if_eq C 22 dX9_kind_15 (by decide) (fun _ => ?_) (fun q => absurd (by decide) q)
  refine aw_iconst C 1 dX9_kind_22 ki_1 ?_
  refine ao_put C [(181, .inr (9, (.int 1 :: .ref 182 :: .ref 183 :: .ref 184 :: .ref 185 :: .int 0 :: .int 0 :: .int 0 :: .ref 186 :: .int 0 :: .int 0 :: .int 0 :: .int (-1) :: .ref 187 :: .ref 188 :: .ref 189 :: .int 0 :: .ref 190 :: .ref 191 :: .ref 192 :: .ref 193 :: .ref 194 :: .int 0 :: .ref 195 :: .ref 196 :: .ref 197 :: .int 0 :: .ref 198 :: .ref 199 :: .ref 200 :: .ref 201 :: .ref 202 :: .ref 203 :: .int 0 :: .ref 204 :: .ref 205 :: .ref 206 :: .ref 207 :: .ref 208 :: .ref 209 :: .ref 210 :: .ref 211 :: .ref 212 :: .ref 213 :: .ref 214 :: .int 0 :: .ref 215 :: .ref 216 :: .int 0 :: .ref 217 :: .ref 218 :: .ref 219 :: .ref 220 :: .ref 221 :: .int 0 :: .int 0 :: .int 0 :: .int 0 :: .ref 222 :: .int 0 :: [])))] gf_X9_138 cf9 nf9_0 h181 (Nat.le_of_ble_eq_true rfl) rfl rfl dX9_kind_23 rfl ?_
  refine aw_ald_n C dX9_kind_26 rfl ?_
  refine aw_get C gf_X9_138 rfl rfl dX9_kind_27 ?_
  refine aw_if_le C 35 dX9_kind_30 (by decide) (fun q => absurd q (by decide)) (fun _ => ?_)
  refine aw_iconst C 0 dX9_kind_33 ki_0 ?_
  exact aw_iret C rfl rfl dX9_kind_34 (Nat.le_of_ble_eq_true rfl) (Nat.le_of_ble_eq_true rfl) ⟨rfl, rfl, rfl⟩

set_option maxHeartbeats 4000000 in
set_option maxRecDepth 100000 in
theorem c_X7_forgetTold_217 {X : GX} {l : Launch} {f : AH} {n : Nat} (h3 : f 3 = some (.inr (7, [.ref 4, .int 0, .int (-1), .int 0, .int 1, .int 0, .null, .int 0, .ref 6, .ref 7]))) (h7 : f 7 = some (.inl (2, 40, .inr (.inr (fun _ => none))))) : AM X l yX7_forgetTold cX7_forgetTold 2 none 0 0 0 [.ref 3] f n (EXO f [] none n) := by
  refine AM.of (by decide +kernel) rfl (by decide) (fun p e s m args below meth c C hnm => ?_)
  refine ao_start ?_
  refine aw_nl [some (.ref 3), none] rfl ?_
  refine aw_iconst C 0 dX7_forgetTold_0 ki_0 ?_
  refine aw_istore_n C dX7_forgetTold_1 (by decide) rfl ?_
  refine aw_nl [some (.ref 3), some (.int 0)] rfl ?_
  refine lz_forget C (f := ovl f []) (S := 3) (a := 7) (fs := [.ref 4, .int 0, .int (-1), .int 0, .int 1, .int 0, .null, .int 0, .ref 6, .ref 7]) h3 rfl h7 ?_ 40 0 rfl
  exact aw_vret C rfl dX7_forgetTold_24 (Nat.le_of_ble_eq_true rfl) (Nat.le_of_ble_eq_true rfl) ⟨rfl, rfl, rfl⟩

set_option maxHeartbeats 4000000 in
set_option maxRecDepth 100000 in
theorem c_X6_start_218 {X : GX} {l : Launch} {f : AH} {n : Nat} (h68 : f 68 = some (.inr (6, [.ref 69, .int 0, .int 0, .int 0, .int 0, .int 0, .int 0, .int 0, .int 0, .int 0]))) : AM X l yX6_start cX6_start 3 none 0 0 0 [.ref 68, .ref 4, .int 0] f n (EXO f [(68, .inr (6, [.ref 4, .int 0, .int 0, .int 0, .int 0, .int 0, .int 0, .int 0, .int 0, .int 0]))] none n) := by
  refine AM.of (by decide +kernel) rfl (by decide) (fun p e s m args below meth c C hnm => ?_)
  refine ao_start ?_
  refine aw_nl [some (.ref 68), some (.ref 4), some (.int 0)] rfl ?_
  refine aw_ald_n C dX6_start_0 rfl ?_
  refine aw_ald_n C dX6_start_1 rfl ?_
  refine ao_put C [(68, .inr (6, [.ref 4, .int 0, .int 0, .int 0, .int 0, .int 0, .int 0, .int 0, .int 0, .int 0]))] gf_X6_14 cf6 nf6_0 h68 (Nat.le_of_ble_eq_true rfl) rfl rfl dX6_start_2 rfl ?_
  refine aw_ald_n C dX6_start_5 rfl ?_
  refine aw_iload_n C dX6_start_6 rfl ?_
  refine ao_put C [(68, .inr (6, [.ref 4, .int 0, .int 0, .int 0, .int 0, .int 0, .int 0, .int 0, .int 0, .int 0]))] gf_X6_20 cf6 nf6_8 rfl (Nat.le_of_ble_eq_true rfl) rfl rfl dX6_start_7 rfl ?_
  refine aw_ald_n C dX6_start_10 rfl ?_
  refine aw_iconst C 0 dX6_start_11 ki_0 ?_
  refine ao_put C [(68, .inr (6, [.ref 4, .int 0, .int 0, .int 0, .int 0, .int 0, .int 0, .int 0, .int 0, .int 0]))] gf_X6_24 cf6 nf6_9 rfl (Nat.le_of_ble_eq_true rfl) rfl rfl dX6_start_12 rfl ?_
  refine aw_ald_n C dX6_start_15 rfl ?_
  refine aw_iconst C 0 dX6_start_16 ki_0 ?_
  refine ao_put C [(68, .inr (6, [.ref 4, .int 0, .int 0, .int 0, .int 0, .int 0, .int 0, .int 0, .int 0, .int 0]))] gf_X6_27 cf6 nf6_3 rfl (Nat.le_of_ble_eq_true rfl) (by decide) (by decide) dX6_start_17 rfl ?_
  refine aw_ald_n C dX6_start_20 rfl ?_
  refine aw_iconst C 0 dX6_start_21 ki_0 ?_
  refine ao_put C [(68, .inr (6, [.ref 4, .int 0, .int 0, .int 0, .int 0, .int 0, .int 0, .int 0, .int 0, .int 0]))] gf_X6_31 cf6 nf6_4 rfl (Nat.le_of_ble_eq_true rfl) rfl rfl dX6_start_22 rfl ?_
  refine aw_ald_n C dX6_start_25 rfl ?_
  refine aw_iconst C 0 dX6_start_26 ki_0 ?_
  refine ao_put C [(68, .inr (6, [.ref 4, .int 0, .int 0, .int 0, .int 0, .int 0, .int 0, .int 0, .int 0, .int 0]))] gf_X6_34 cf6 nf6_5 rfl (Nat.le_of_ble_eq_true rfl) rfl rfl dX6_start_27 rfl ?_
  exact aw_vret C rfl dX6_start_30 (Nat.le_of_ble_eq_true rfl) (Nat.le_of_ble_eq_true rfl) ⟨rfl, rfl, rfl⟩

set_option maxHeartbeats 4000000 in
set_option maxRecDepth 100000 in
theorem c_X5_size_219 {X : GX} {l : Launch} {f : AH} {n : Nat} (h4 : f 4 = some (.inr (5, [.ref 5, .int 0]))) : AM X l yX5_size cX5_size 1 (some .int) 0 0 0 [.ref 4] f n (EXO f [] (some (.int 0)) n) := by
  refine AM.of (by decide +kernel) rfl (by decide) (fun p e s m args below meth c C hnm => ?_)
  refine ao_start ?_
  refine aw_nl [some (.ref 4)] rfl ?_
  refine aw_ald_n C dX5_size_0 rfl ?_
  refine aw_get C gf_X5_15 h4 rfl dX5_size_1 ?_
  exact aw_iret C rfl rfl dX5_size_4 (Nat.le_of_ble_eq_true rfl) (Nat.le_of_ble_eq_true rfl) ⟨rfl, rfl, rfl⟩

set_option maxHeartbeats 4000000 in
set_option maxRecDepth 100000 in
theorem c_X6_next_220 {X : GX} {l : Launch} {f : AH} {n : Nat} (h68 : f 68 = some (.inr (6, [.ref 4, .int 0, .int 0, .int 0, .int 0, .int 0, .int 0, .int 0, .int 0, .int 0]))) (h4 : f 4 = some (.inr (5, [.ref 5, .int 0]))) : AM X l yX6_next cX6_next 2 (some .boolean) 1 0 0 [.ref 68] f n (EXO f [] (some (.int 0)) n) := by
  refine AM.of (by decide +kernel) rfl (by decide) (fun p e s m args below meth c C hnm => ?_)
  refine ao_start ?_
  refine aw_nl [some (.ref 68), none] rfl ?_
  refine aw_iconst C 0 dX6_next_0 ki_0 ?_
  refine aw_istore_n C dX6_next_1 (by decide) rfl ?_
  refine aw_nl [some (.ref 68), some (.int 0)] rfl ?_
  refine aw_iload_n C dX6_next_2 rfl ?_
  refine aw_sipush C 600 dX6_next_3 ks_600 ?_
  refine aw_icmp_gt C 96 dX6_next_6 (by decide) (fun q => absurd q (by decide)) (fun _ => ?_)
  refine aw_ald_n C dX6_next_9 rfl ?_
  refine aw_get C gf_X6_24 h68 rfl dX6_next_10 ?_
  refine aw_ald_n C dX6_next_13 rfl ?_
  refine aw_get C gf_X6_14 h68 rfl dX6_next_14 ?_
  refine ao_callV C (ci := 5) (b := 4) [] [] mv_X6_37 rfl rfl h4 (c_X5_size_219 h4) rfl dX6_next_17 (Nat.le_of_ble_eq_true rfl) (Nat.le_of_ble_eq_true rfl) rfl (Nat.le_of_ble_eq_true rfl) (Nat.le_of_ble_eq_true rfl) (Nat.le_of_ble_eq_true rfl) rfl ?_
  refine aw_icmp_ge C 96 dX6_next_20 (by decide) (fun _ => ?_) (fun q => absurd (by decide) q)
  refine aw_iconst C 0 dX6_next_96 ki_0 ?_
  exact aw_iret C rfl (by decide) dX6_next_97 (Nat.le_of_ble_eq_true rfl) (Nat.le_of_ble_eq_true rfl) ⟨rfl, rfl, rfl⟩

set_option maxHeartbeats 4000000 in
set_option maxRecDepth 100000 in
theorem c_X1_find_221 {X : GX} {l : Launch} {f : AH} {n : Nat} {g74 : Nat → Option Nat} (h59 : f 59 = some (.inr (1, [.ref 60, .ref 62, .ref 74, .int 0, .ref 68, .ref 71, .ref 64, .ref 66]))) (h60 : f 60 = some (.inr (5, [.ref 61, .int 0]))) (h62 : f 62 = some (.inr (5, [.ref 63, .int 0]))) (h3 : f 3 = some (.inr (7, [.ref 4, .int 0, .int (-1), .int 0, .int 1, .int 0, .null, .int 0, .ref 6, .ref 7]))) (h68 : f 68 = some (.inr (6, [.ref 69, .int 0, .int 0, .int 0, .int 0, .int 0, .int 0, .int 0, .int 0, .int 0]))) (h74 : f 74 = some (.inl (1, 40, .inr (.inr g74)))) (h4 : f 4 = some (.inr (5, [.ref 5, .int 0]))) : AM X l yX1_find cX1_find 5 none 2 0 0 [.ref 59, .ref 4, .ref 3] f n (EXO f [(59, .inr (1, [.ref 60, .ref 62, .ref 74, .int 0, .ref 68, .ref 71, .ref 64, .ref 66])), (68, .inr (6, [.ref 4, .int 0, .int 0, .int 0, .int 0, .int 0, .int 0, .int 0, .int 0, .int 0]))] none n) := by
  refine AM.of (by decide +kernel) rfl (by decide) (fun p e s m args below meth c C hnm => ?_)
  refine ao_start ?_
  refine aw_nl [some (.ref 59), some (.ref 4), some (.ref 3), none, none] rfl ?_
  refine aw_ald_n C dX1_find_0 rfl ?_
  refine aw_iconst C 0 dX1_find_1 ki_0 ?_
  refine ao_put C [(59, .inr (1, [.ref 60, .ref 62, .ref 74, .int 0, .ref 68, .ref 71, .ref 64, .ref 66]))] gf_X1_46 cf1 nf1_3 h59 (Nat.le_of_ble_eq_true rfl) rfl rfl dX1_find_2 rfl ?_
  refine aw_ald_n C dX1_find_5 rfl ?_
  refine aw_get C gf_X1_14 rfl rfl dX1_find_6 ?_
  refine aw_iconst C 0 dX1_find_9 ki_0 ?_
  refine ao_callV C (ci := 5) (b := 60) [.int 0] [(59, .inr (1, [.ref 60, .ref 62, .ref 74, .int 0, .ref 68, .ref 71, .ref 64, .ref 66]))] mv_X1_50 rfl rfl h60 (c_X5_cutTo_185 h60) rfl dX1_find_10 (Nat.le_of_ble_eq_true rfl) (Nat.le_of_ble_eq_true rfl) rfl (Nat.le_of_ble_eq_true rfl) (Nat.le_of_ble_eq_true rfl) (Nat.le_of_ble_eq_true rfl) rfl ?_
  refine aw_ald_n C dX1_find_13 rfl ?_
  refine aw_get C gf_X1_20 rfl rfl dX1_find_14 ?_
  refine aw_iconst C 0 dX1_find_17 ki_0 ?_
  refine ao_callV C (ci := 5) (b := 62) [.int 0] [(59, .inr (1, [.ref 60, .ref 62, .ref 74, .int 0, .ref 68, .ref 71, .ref 64, .ref 66]))] mv_X1_50 rfl rfl h62 (c_X5_cutTo_186 h62) rfl dX1_find_18 (Nat.le_of_ble_eq_true rfl) (Nat.le_of_ble_eq_true rfl) rfl (Nat.le_of_ble_eq_true rfl) (Nat.le_of_ble_eq_true rfl) (Nat.le_of_ble_eq_true rfl) rfl ?_
  refine aw_ald_n C dX1_find_21 rfl ?_
  refine aw_get C gf_X1_32 rfl rfl dX1_find_22 ?_
  refine aw_ald_n C dX1_find_25 rfl ?_
  refine aw_ald_n C dX1_find_26 rfl ?_
  refine aw_get C gf_X1_53 h3 rfl dX1_find_27 ?_
  refine ao_callV C (ci := 6) (b := 68) [.ref 4, .int 0] [(59, .inr (1, [.ref 60, .ref 62, .ref 74, .int 0, .ref 68, .ref 71, .ref 64, .ref 66])), (68, .inr (6, [.ref 4, .int 0, .int 0, .int 0, .int 0, .int 0, .int 0, .int 0, .int 0, .int 0]))] mv_X1_58 rfl rfl h68 (c_X6_start_218 h68) rfl dX1_find_30 (Nat.le_of_ble_eq_true rfl) (Nat.le_of_ble_eq_true rfl) rfl (Nat.le_of_ble_eq_true rfl) (Nat.le_of_ble_eq_true rfl) (Nat.le_of_ble_eq_true rfl) rfl ?_
  refine aw_iconst C 0 dX1_find_33 ki_0 ?_
  refine aw_istore_n C dX1_find_34 (by decide) rfl ?_
  refine aw_nl [some (.ref 59), some (.ref 4), some (.ref 3), some (.int 0), none] rfl ?_
  refine aw_iload_n C dX1_find_35 rfl ?_
  refine aw_sipush C 600 dX1_find_36 ks_600 ?_
  refine aw_icmp_gt C 174 dX1_find_39 (by decide) (fun q => absurd q (by decide)) (fun _ => ?_)
  refine aw_ald_n C dX1_find_42 rfl ?_
  refine aw_get C gf_X1_46 rfl rfl dX1_find_43 ?_
  refine aw_ald_n C dX1_find_46 rfl ?_
  refine aw_get C gf_X1_41 rfl rfl dX1_find_47 ?_
  refine aw_alen C (by decide) h74 dX1_find_50 ?_
  refine aw_top 40 (by decide) ?_
  refine aw_icmp_ge C 174 dX1_find_51 (by decide) (fun q => absurd q (by decide)) (fun _ => ?_)
  refine aw_ald_n C dX1_find_54 rfl ?_
  refine aw_get C gf_X1_32 rfl rfl dX1_find_55 ?_
  refine ao_callV C (ci := 6) (b := 68) [] [(59, .inr (1, [.ref 60, .ref 62, .ref 74, .int 0, .ref 68, .ref 71, .ref 64, .ref 66])), (68, .inr (6, [.ref 4, .int 0, .int 0, .int 0, .int 0, .int 0, .int 0, .int 0, .int 0, .int 0]))] mv_X1_62 rfl rfl rfl (c_X6_next_220 rfl h4) rfl dX1_find_58 (Nat.le_of_ble_eq_true rfl) (Nat.le_of_ble_eq_true rfl) rfl (Nat.le_of_ble_eq_true rfl) (Nat.le_of_ble_eq_true rfl) (Nat.le_of_ble_eq_true rfl) rfl ?_
  refine aw_if_eq C 174 dX1_find_61 (by decide) (fun _ => ?_) (fun q => absurd (by decide) q)
  exact aw_vret C rfl dX1_find_174 (Nat.le_of_ble_eq_true rfl) (Nat.le_of_ble_eq_true rfl) ⟨rfl, rfl, rfl⟩

set_option maxHeartbeats 4000000 in
set_option maxRecDepth 100000 in
theorem c_X5_addPart_222 {X : GX} {l : Launch} {f : AH} {n : Nat} : AM X l yX5_addPart cX5_addPart 6 (some .boolean) 0 0 0 [.ref 172, .ref 4, .int 0, .int 0] f n (EXO f [] (some (.int 1)) n) := by
  refine AM.of (by decide +kernel) rfl (by decide) (fun p e s m args below meth c C hnm => ?_)
  refine ao_start ?_
  refine aw_nl [some (.ref 172), some (.ref 4), some (.int 0), some (.int 0), none, none] rfl ?_
  refine aw_iconst C 1 dX5_addPart_0 ki_1 ?_
  refine aw_istore C dX5_addPart_1 (by decide) rfl ?_
  refine aw_nl [some (.ref 172), some (.ref 4), some (.int 0), some (.int 0), some (.int 1), none] rfl ?_
  refine aw_iload_n C dX5_addPart_3 rfl ?_
  refine aw_istore C dX5_addPart_4 (by decide) rfl ?_
  refine aw_nl [some (.ref 172), some (.ref 4), some (.int 0), some (.int 0), some (.int 1), some (.int 0)] rfl ?_
  refine aw_iload C dX5_addPart_6 rfl ?_
  refine aw_iload_n C dX5_addPart_8 rfl ?_
  refine aw_icmp_ge C 35 dX5_addPart_9 (by decide) (fun _ => ?_) (fun q => absurd (by decide) q)
  refine aw_iload C dX5_addPart_35 rfl ?_
  exact aw_iret C rfl (by decide) dX5_addPart_37 (Nat.le_of_ble_eq_true rfl) (Nat.le_of_ble_eq_true rfl) ⟨rfl, rfl, rfl⟩

set_option maxHeartbeats 4000000 in
set_option maxRecDepth 100000 in
theorem c_X0_make_223 {X : GX} {l : Launch} {f : AH} {n : Nat} (h171 : f 171 = some (.inr (0, [.ref 172, .ref 174, .ref 176, .int 0]))) (h172 : f 172 = some (.inr (5, [.ref 173, .int 0]))) (h59 : f 59 = some (.inr (1, [.ref 60, .ref 62, .ref 74, .int 0, .ref 68, .ref 71, .ref 64, .ref 66]))) (h3 : f 3 = some (.inr (7, [.ref 4, .int 0, .int (-1), .int 0, .int 1, .int 0, .null, .int 0, .ref 6, .ref 7]))) (h4 : f 4 = some (.inr (5, [.ref 5, .int 0]))) : AM X l yX0_make cX0_make 8 (some .boolean) 1 0 0 [.ref 171, .ref 3, .ref 59] f n (EXO f [] (some (.int 1)) n) := by
  refine AM.of (by decide +kernel) rfl (by decide) (fun p e s m args below meth c C hnm => ?_)
  refine ao_start ?_
  refine aw_nl [some (.ref 171), some (.ref 3), some (.ref 59), none, none, none, none, none] rfl ?_
  refine aw_ald_n C dX0_make_0 rfl ?_
  refine aw_get C gf_X0_14 h171 rfl dX0_make_1 ?_
  refine aw_iconst C 0 dX0_make_4 ki_0 ?_
  refine ao_callV C (ci := 5) (b := 172) [.int 0] [] mv_X0_26 rfl rfl h172 (c_X5_cutTo_191 h172) rfl dX0_make_5 (Nat.le_of_ble_eq_true rfl) (Nat.le_of_ble_eq_true rfl) rfl (Nat.le_of_ble_eq_true rfl) (Nat.le_of_ble_eq_true rfl) (Nat.le_of_ble_eq_true rfl) rfl ?_
  refine aw_iconst C 0 dX0_make_8 ki_0 ?_
  refine aw_istore_n C dX0_make_9 (by decide) rfl ?_
  refine aw_nl [some (.ref 171), some (.ref 3), some (.ref 59), some (.int 0), none, none, none, none] rfl ?_
  refine aw_iconst C 1 dX0_make_10 ki_1 ?_
  refine aw_istore C dX0_make_11 (by decide) rfl ?_
  refine aw_nl [some (.ref 171), some (.ref 3), some (.ref 59), some (.int 0), some (.int 1), none, none, none] rfl ?_
  refine aw_iconst C 0 dX0_make_13 ki_0 ?_
  refine aw_istore C dX0_make_14 (by decide) rfl ?_
  refine aw_nl [some (.ref 171), some (.ref 3), some (.ref 59), some (.int 0), some (.int 1), some (.int 0), none, none] rfl ?_
  refine aw_iload C dX0_make_16 rfl ?_
  refine aw_ald_n C dX0_make_18 rfl ?_
  refine ao_callV C (ci := 1) (b := 59) [] [] mv_X0_29 rfl rfl h59 (c_X1_size_192 h59) rfl dX0_make_19 (Nat.le_of_ble_eq_true rfl) (Nat.le_of_ble_eq_true rfl) rfl (Nat.le_of_ble_eq_true rfl) (Nat.le_of_ble_eq_true rfl) (Nat.le_of_ble_eq_true rfl) rfl ?_
  refine aw_icmp_ge C 211 dX0_make_22 (by decide) (fun _ => ?_) (fun q => absurd (by decide) q)
  refine aw_iload C dX0_make_211 rfl ?_
  refine aw_if_eq C 242 dX0_make_213 (by decide) (fun q => absurd q (by decide)) (fun _ => ?_)
  refine aw_ald_n C dX0_make_216 rfl ?_
  refine aw_get C gf_X0_14 h171 rfl dX0_make_217 ?_
  refine aw_ald_n C dX0_make_220 rfl ?_
  refine aw_get C gf_X0_39 h3 rfl dX0_make_221 ?_
  refine aw_iload_n C dX0_make_224 rfl ?_
  refine aw_ald_n C dX0_make_225 rfl ?_
  refine aw_get C gf_X0_39 h3 rfl dX0_make_226 ?_
  refine ao_callV C (ci := 5) (b := 4) [] [] mv_X0_57 rfl rfl h4 (c_X5_size_219 h4) rfl dX0_make_229 (Nat.le_of_ble_eq_true rfl) (Nat.le_of_ble_eq_true rfl) rfl (Nat.le_of_ble_eq_true rfl) (Nat.le_of_ble_eq_true rfl) (Nat.le_of_ble_eq_true rfl) rfl ?_
  refine ao_callV C (ci := 5) (b := 172) [.ref 4, .int 0, .int 0] [] mv_X0_50 rfl rfl h172 (c_X5_addPart_222) rfl dX0_make_232 (Nat.le_of_ble_eq_true rfl) (Nat.le_of_ble_eq_true rfl) rfl (Nat.le_of_ble_eq_true rfl) (Nat.le_of_ble_eq_true rfl) (Nat.le_of_ble_eq_true rfl) rfl ?_
  refine aw_if_eq C 242 dX0_make_235 (by decide) (fun q => absurd q (by decide)) (fun _ => ?_)
  refine aw_iconst C 1 dX0_make_238 ki_1 ?_
  refine aw_goto C 243 dX0_make_239 (by decide) ?_
  exact aw_iret C rfl (by decide) dX0_make_243 (Nat.le_of_ble_eq_true rfl) (Nat.le_of_ble_eq_true rfl) ⟨rfl, rfl, rfl⟩

set_option maxHeartbeats 4000000 in
set_option maxRecDepth 100000 in
theorem c_X8_cutAnew_224 {X : GX} {l : Launch} {f : AH} {n : Nat} {g74 : Nat → Option Nat} (h0 : f 0 = some (.inr (8, [.ref 1, .ref 3, .ref 8, .ref 13, .ref 18, .ref 59, .ref 115, .ref 171, .ref 178, .int 0, .int 0, .int 0, .int 0, .int (-1)]))) (h3 : f 3 = some (.inr (7, [.ref 4, .int 0, .int (-1), .int 0, .int 1, .int 0, .null, .int 0, .ref 6, .ref 7]))) (h7 : f 7 = some (.inl (2, 40, .inr (.inr (fun _ => none))))) (h59 : f 59 = some (.inr (1, [.ref 60, .ref 62, .ref 74, .int 0, .ref 68, .ref 71, .ref 64, .ref 66]))) (h60 : f 60 = some (.inr (5, [.ref 61, .int 0]))) (h62 : f 62 = some (.inr (5, [.ref 63, .int 0]))) (h68 : f 68 = some (.inr (6, [.ref 69, .int 0, .int 0, .int 0, .int 0, .int 0, .int 0, .int 0, .int 0, .int 0]))) (h74 : f 74 = some (.inl (1, 40, .inr (.inr g74)))) (h4 : f 4 = some (.inr (5, [.ref 5, .int 0]))) (h171 : f 171 = some (.inr (0, [.ref 172, .ref 174, .ref 176, .int 0]))) (h172 : f 172 = some (.inr (5, [.ref 173, .int 0]))) : AM X l yX8_cutAnew cX8_cutAnew 1 (some .int) 3 0 0 [.ref 0] f n (EXO f [(0, .inr (8, [.ref 1, .ref 3, .ref 8, .ref 13, .ref 18, .ref 59, .ref 115, .ref 171, .ref 178, .int 0, .int 0, .int 0, .int 0, .int (-1)])), (68, .inr (6, [.ref 4, .int 0, .int 0, .int 0, .int 0, .int 0, .int 0, .int 0, .int 0, .int 0])), (59, .inr (1, [.ref 60, .ref 62, .ref 74, .int 0, .ref 68, .ref 71, .ref 64, .ref 66]))] (some (.int 0)) n) := by
  refine AM.of (by decide +kernel) rfl (by decide) (fun p e s m args below meth c C hnm => ?_)
  refine ao_start ?_
  refine aw_nl [some (.ref 0)] rfl ?_
  refine aw_ald_n C dX8_cutAnew_0 rfl ?_
  refine aw_iconst C 0 dX8_cutAnew_1 ki_0 ?_
  refine ao_put C [(0, .inr (8, [.ref 1, .ref 3, .ref 8, .ref 13, .ref 18, .ref 59, .ref 115, .ref 171, .ref 178, .int 0, .int 0, .int 0, .int 0, .int (-1)]))] gf_X8_334 cf8 nf8_10 h0 (Nat.le_of_ble_eq_true rfl) (by decide) (by decide) dX8_cutAnew_2 rfl ?_
  refine aw_ald_n C dX8_cutAnew_5 rfl ?_
  refine aw_get C gf_X8_21 rfl rfl dX8_cutAnew_6 ?_
  refine ao_callV C (ci := 7) (b := 3) [] [(0, .inr (8, [.ref 1, .ref 3, .ref 8, .ref 13, .ref 18, .ref 59, .ref 115, .ref 171, .ref 178, .int 0, .int 0, .int 0, .int 0, .int (-1)]))] mv_X8_358 rfl rfl h3 (c_X7_forgetTold_217 h3 h7) rfl dX8_cutAnew_9 (Nat.le_of_ble_eq_true rfl) (Nat.le_of_ble_eq_true rfl) rfl (Nat.le_of_ble_eq_true rfl) (Nat.le_of_ble_eq_true rfl) (Nat.le_of_ble_eq_true rfl) rfl ?_
  refine aw_ald_n C dX8_cutAnew_12 rfl ?_
  refine aw_get C gf_X8_38 rfl rfl dX8_cutAnew_13 ?_
  refine aw_ald_n C dX8_cutAnew_16 rfl ?_
  refine aw_get C gf_X8_21 rfl rfl dX8_cutAnew_17 ?_
  refine aw_get C gf_X8_130 h3 rfl dX8_cutAnew_20 ?_
  refine aw_ald_n C dX8_cutAnew_23 rfl ?_
  refine aw_get C gf_X8_21 rfl rfl dX8_cutAnew_24 ?_
  refine ao_callV C (ci := 1) (b := 59) [.ref 4, .ref 3] [(0, .inr (8, [.ref 1, .ref 3, .ref 8, .ref 13, .ref 18, .ref 59, .ref 115, .ref 171, .ref 178, .int 0, .int 0, .int 0, .int 0, .int (-1)])), (68, .inr (6, [.ref 4, .int 0, .int 0, .int 0, .int 0, .int 0, .int 0, .int 0, .int 0, .int 0])), (59, .inr (1, [.ref 60, .ref 62, .ref 74, .int 0, .ref 68, .ref 71, .ref 64, .ref 66]))] mv_X8_361 rfl rfl h59 (c_X1_find_221 h59 h60 h62 h3 h68 h74 h4) rfl dX8_cutAnew_27 (Nat.le_of_ble_eq_true rfl) (Nat.le_of_ble_eq_true rfl) rfl (Nat.le_of_ble_eq_true rfl) (Nat.le_of_ble_eq_true rfl) (Nat.le_of_ble_eq_true rfl) rfl ?_
  refine aw_ald_n C dX8_cutAnew_30 rfl ?_
  refine aw_get C gf_X8_48 rfl rfl dX8_cutAnew_31 ?_
  refine aw_ald_n C dX8_cutAnew_34 rfl ?_
  refine aw_get C gf_X8_21 rfl rfl dX8_cutAnew_35 ?_
  refine aw_ald_n C dX8_cutAnew_38 rfl ?_
  refine aw_get C gf_X8_38 rfl rfl dX8_cutAnew_39 ?_
  refine ao_callV C (ci := 0) (b := 171) [.ref 3, .ref 59] [(0, .inr (8, [.ref 1, .ref 3, .ref 8, .ref 13, .ref 18, .ref 59, .ref 115, .ref 171, .ref 178, .int 0, .int 0, .int 0, .int 0, .int (-1)])), (68, .inr (6, [.ref 4, .int 0, .int 0, .int 0, .int 0, .int 0, .int 0, .int 0, .int 0, .int 0])), (59, .inr (1, [.ref 60, .ref 62, .ref 74, .int 0, .ref 68, .ref 71, .ref 64, .ref 66]))] mv_X8_365 rfl rfl h171 (c_X0_make_223 h171 h172 rfl h3 h4) rfl dX8_cutAnew_42 (Nat.le_of_ble_eq_true rfl) (Nat.le_of_ble_eq_true rfl) rfl (Nat.le_of_ble_eq_true rfl) (Nat.le_of_ble_eq_true rfl) (Nat.le_of_ble_eq_true rfl) rfl ?_
  refine aw_pop C dX8_cutAnew_45 rfl ?_
  refine aw_iconst C 0 dX8_cutAnew_46 ki_0 ?_
  exact aw_iret C rfl rfl dX8_cutAnew_47 (Nat.le_of_ble_eq_true rfl) (Nat.le_of_ble_eq_true rfl) ⟨rfl, rfl, rfl⟩

