set_option maxHeartbeats 4000000 in
set_option maxRecDepth 100000 in
theorem c_X9_feed_157 {X : GX} {l : Launch} {f : AH} {n : Nat} {a1 : Int32} {a2 : Int32} {a3 : Int32} {a4 : Int32} {a5 : Int32} (h181 : f 181 = some (.inr (9, (.int 0 :: .ref 182 :: .ref 183 :: .ref 184 :: .ref 185 :: .int 0 :: .int 0 :: .int 0 :: .ref 186 :: .int 0 :: .int 0 :: .int 0 :: .int (-1) :: .ref 187 :: .ref 188 :: .ref 189 :: .int 0 :: .ref 190 :: .ref 191 :: .ref 192 :: .ref 193 :: .ref 194 :: .int 0 :: .ref 195 :: .ref 196 :: .ref 197 :: .int 0 :: .ref 198 :: .ref 199 :: .ref 200 :: .ref 201 :: .ref 202 :: .ref 203 :: .int 0 :: .ref 204 :: .ref 205 :: .ref 206 :: .ref 207 :: .ref 208 :: .ref 209 :: .ref 210 :: .ref 211 :: .ref 212 :: .ref 213 :: .ref 214 :: .int 0 :: .ref 215 :: .ref 216 :: .int 0 :: .ref 217 :: .ref 218 :: .ref 219 :: .ref 220 :: .ref 221 :: .int 0 :: .int 0 :: .int 0 :: .int 0 :: .ref 222 :: .int 0 :: [])))) (h186 : f 186 = some (.inl (0, 400, .inl (fun _ => 0)))) : AM X l yX9_feed cX9_feed 8 (some .int) 0 0 0 [.ref 181, .int a1, .int a2, .int a3, .int a4, .int a5] f n (EXO f [(181, .inr (9, (.int 0 :: .ref 182 :: .ref 183 :: .ref 184 :: .ref 185 :: .int 0 :: .int 0 :: .int 0 :: .ref 186 :: .int 20 :: .int 0 :: .int 0 :: .int (-1) :: .ref 187 :: .ref 188 :: .ref 189 :: .int 0 :: .ref 190 :: .ref 191 :: .ref 192 :: .ref 193 :: .ref 194 :: .int 0 :: .ref 195 :: .ref 196 :: .ref 197 :: .int 0 :: .ref 198 :: .ref 199 :: .ref 200 :: .ref 201 :: .ref 202 :: .ref 203 :: .int 0 :: .ref 204 :: .ref 205 :: .ref 206 :: .ref 207 :: .ref 208 :: .ref 209 :: .ref 210 :: .ref 211 :: .ref 212 :: .ref 213 :: .ref 214 :: .int 0 :: .ref 215 :: .ref 216 :: .int 0 :: .ref 217 :: .ref 218 :: .ref 219 :: .ref 220 :: .ref 221 :: .int 0 :: .int 0 :: .int 0 :: .int 0 :: .ref 222 :: .int 0 :: []))), (186, .inl (0, 400, .inl (upd (upd (upd (upd (upd (upd (upd (upd (upd (upd (upd (upd (upd (upd (upd (upd (upd (upd (upd (upd (fun _ => 0) 0 (((a1.toUInt32 >>> ((24 : Int32).toUInt32 &&& Int32.toUInt32 31)).toInt32) &&& 255)) 1 (((a1.toUInt32 >>> ((16 : Int32).toUInt32 &&& Int32.toUInt32 31)).toInt32) &&& 255)) 2 (((a1.toUInt32 >>> ((8 : Int32).toUInt32 &&& Int32.toUInt32 31)).toInt32) &&& 255)) 3 (((a1.toUInt32 >>> ((0 : Int32).toUInt32 &&& Int32.toUInt32 31)).toInt32) &&& 255)) 4 (((a2.toUInt32 >>> ((24 : Int32).toUInt32 &&& Int32.toUInt32 31)).toInt32) &&& 255)) 5 (((a2.toUInt32 >>> ((16 : Int32).toUInt32 &&& Int32.toUInt32 31)).toInt32) &&& 255)) 6 (((a2.toUInt32 >>> ((8 : Int32).toUInt32 &&& Int32.toUInt32 31)).toInt32) &&& 255)) 7 (((a2.toUInt32 >>> ((0 : Int32).toUInt32 &&& Int32.toUInt32 31)).toInt32) &&& 255)) 8 (((a3.toUInt32 >>> ((24 : Int32).toUInt32 &&& Int32.toUInt32 31)).toInt32) &&& 255)) 9 (((a3.toUInt32 >>> ((16 : Int32).toUInt32 &&& Int32.toUInt32 31)).toInt32) &&& 255)) 10 (((a3.toUInt32 >>> ((8 : Int32).toUInt32 &&& Int32.toUInt32 31)).toInt32) &&& 255)) 11 (((a3.toUInt32 >>> ((0 : Int32).toUInt32 &&& Int32.toUInt32 31)).toInt32) &&& 255)) 12 (((a4.toUInt32 >>> ((24 : Int32).toUInt32 &&& Int32.toUInt32 31)).toInt32) &&& 255)) 13 (((a4.toUInt32 >>> ((16 : Int32).toUInt32 &&& Int32.toUInt32 31)).toInt32) &&& 255)) 14 (((a4.toUInt32 >>> ((8 : Int32).toUInt32 &&& Int32.toUInt32 31)).toInt32) &&& 255)) 15 (((a4.toUInt32 >>> ((0 : Int32).toUInt32 &&& Int32.toUInt32 31)).toInt32) &&& 255)) 16 (((a5.toUInt32 >>> ((24 : Int32).toUInt32 &&& Int32.toUInt32 31)).toInt32) &&& 255)) 17 (((a5.toUInt32 >>> ((16 : Int32).toUInt32 &&& Int32.toUInt32 31)).toInt32) &&& 255)) 18 (((a5.toUInt32 >>> ((8 : Int32).toUInt32 &&& Int32.toUInt32 31)).toInt32) &&& 255)) 19 (((a5.toUInt32 >>> ((0 : Int32).toUInt32 &&& Int32.toUInt32 31)).toInt32) &&& 255))))] (some (.int 20)) n) := by
  refine AM.of (by decide +kernel) rfl (Nat.le_of_ble_eq_true rfl) (fun p e s m args below meth c C hnm => ?_)
  refine ao_start ?_
  refine aw_nl [some (.ref 181), some (.int a1), some (.int a2), some (.int a3), some (.int a4), some (.int a5), none, none] rfl ?_
  refine aw_ald_n C dX9_feed_0 rfl ?_
  refine aw_iconst C 0 dX9_feed_1 ki_0 ?_
  refine ao_put C [(181, .inr (9, (.int 0 :: .ref 182 :: .ref 183 :: .ref 184 :: .ref 185 :: .int 0 :: .int 0 :: .int 0 :: .ref 186 :: .int 0 :: .int 0 :: .int 0 :: .int (-1) :: .ref 187 :: .ref 188 :: .ref 189 :: .int 0 :: .ref 190 :: .ref 191 :: .ref 192 :: .ref 193 :: .ref 194 :: .int 0 :: .ref 195 :: .ref 196 :: .ref 197 :: .int 0 :: .ref 198 :: .ref 199 :: .ref 200 :: .ref 201 :: .ref 202 :: .ref 203 :: .int 0 :: .ref 204 :: .ref 205 :: .ref 206 :: .ref 207 :: .ref 208 :: .ref 209 :: .ref 210 :: .ref 211 :: .ref 212 :: .ref 213 :: .ref 214 :: .int 0 :: .ref 215 :: .ref 216 :: .int 0 :: .ref 217 :: .ref 218 :: .ref 219 :: .ref 220 :: .ref 221 :: .int 0 :: .int 0 :: .int 0 :: .int 0 :: .ref 222 :: .int 0 :: [])))] gf_X9_138 cf9 nf9_0 h181 (Nat.le_of_ble_eq_true rfl) rfl rfl dX9_feed_2 rfl ?_
  refine aw_ald_n C dX9_feed_5 rfl ?_
  refine aw_get C gf_X9_337 rfl rfl dX9_feed_6 ?_
  refine aw_bipush C 20 dX9_feed_9 kb_20 ?_
  refine ae_iadd C 20 dX9_feed_11 (by decide) ?_
  refine aw_sipush C 400 dX9_feed_12 ks_400 ?_
  refine aw_icmp_le C 20 dX9_feed_15 (by decide) (fun _ => ?_) (fun q => absurd (by decide) q)
  refine aw_iconst C 0 dX9_feed_20 ki_0 ?_
  refine aw_istore C dX9_feed_21 (by decide) rfl ?_
  refine aw_nl [some (.ref 181), some (.int a1), some (.int a2), some (.int a3), some (.int a4), some (.int a5), some (.int 0), none] rfl ?_
  refine aw_iload C dX9_feed_23 rfl ?_
  refine aw_bipush C 20 dX9_feed_25 kb_20 ?_
  refine aw_icmp_ge C 120 dX9_feed_27 (by decide) (fun q => absurd q (by decide)) (fun _ => ?_)
  refine aw_iload C dX9_feed_30 rfl ?_
  refine aw_iconst C 4 dX9_feed_32 ki_4 ?_
  refine aw_icmp_ge C 40 dX9_feed_33 (by decide) (fun q => absurd q (by decide)) (fun _ => ?_)
  refine aw_iload_n C dX9_feed_36 rfl ?_
  refine aw_goto C 76 dX9_feed_37 (by decide) ?_
  refine aw_istore C dX9_feed_76 (by decide) rfl ?_
  refine aw_nl [some (.ref 181), some (.int a1), some (.int a2), some (.int a3), some (.int a4), some (.int a5), some (.int 0), some (.int a1)] rfl ?_
  refine aw_ald_n C dX9_feed_78 rfl ?_
  refine aw_get C gf_X9_23 rfl rfl dX9_feed_79 ?_
  refine aw_ald_n C dX9_feed_82 rfl ?_
  refine aw_get C gf_X9_337 rfl rfl dX9_feed_83 ?_
  refine aw_iload C dX9_feed_86 rfl ?_
  refine aw_bipush C 24 dX9_feed_88 kb_24 ?_
  refine aw_bipush C 8 dX9_feed_90 kb_8 ?_
  refine aw_iload C dX9_feed_92 rfl ?_
  refine aw_iconst C 4 dX9_feed_94 ki_4 ?_
  refine ae_irem C 0 dX9_feed_95 (by decide) (by decide) ?_
  refine ae_imul C 0 dX9_feed_96 (by decide) ?_
  refine ae_isub C 24 dX9_feed_97 (by decide) ?_
  refine aw_iushr C dX9_feed_98 ?_
  refine aw_sipush C 255 dX9_feed_99 ks_255 ?_
  refine aw_iand C dX9_feed_102 ?_
  refine ao_iast C [(181, .inr (9, (.int 0 :: .ref 182 :: .ref 183 :: .ref 184 :: .ref 185 :: .int 0 :: .int 0 :: .int 0 :: .ref 186 :: .int 0 :: .int 0 :: .int 0 :: .int (-1) :: .ref 187 :: .ref 188 :: .ref 189 :: .int 0 :: .ref 190 :: .ref 191 :: .ref 192 :: .ref 193 :: .ref 194 :: .int 0 :: .ref 195 :: .ref 196 :: .ref 197 :: .int 0 :: .ref 198 :: .ref 199 :: .ref 200 :: .ref 201 :: .ref 202 :: .ref 203 :: .int 0 :: .ref 204 :: .ref 205 :: .ref 206 :: .ref 207 :: .ref 208 :: .ref 209 :: .ref 210 :: .ref 211 :: .ref 212 :: .ref 213 :: .ref 214 :: .int 0 :: .ref 215 :: .ref 216 :: .int 0 :: .ref 217 :: .ref 218 :: .ref 219 :: .ref 220 :: .ref 221 :: .int 0 :: .int 0 :: .int 0 :: .int 0 :: .ref 222 :: .int 0 :: []))), (186, .inl (0, 400, .inl (upd (fun _ => 0) 0 (((a1.toUInt32 >>> ((24 : Int32).toUInt32 &&& Int32.toUInt32 31)).toInt32) &&& 255))))] h186 (by unfold vp_in; decide) (by decide : _ = 0) dX9_feed_103 rfl ?_
  refine aw_ald_n C dX9_feed_104 rfl ?_
  refine aw_dup C dX9_feed_105 rfl ?_
  refine aw_get C gf_X9_337 rfl rfl dX9_feed_106 ?_
  refine aw_iconst C 1 dX9_feed_109 ki_1 ?_
  refine ae_iadd C 1 dX9_feed_110 (by decide) ?_
  refine ao_put C [(181, .inr (9, (.int 0 :: .ref 182 :: .ref 183 :: .ref 184 :: .ref 185 :: .int 0 :: .int 0 :: .int 0 :: .ref 186 :: .int 1 :: .int 0 :: .int 0 :: .int (-1) :: .ref 187 :: .ref 188 :: .ref 189 :: .int 0 :: .ref 190 :: .ref 191 :: .ref 192 :: .ref 193 :: .ref 194 :: .int 0 :: .ref 195 :: .ref 196 :: .ref 197 :: .int 0 :: .ref 198 :: .ref 199 :: .ref 200 :: .ref 201 :: .ref 202 :: .ref 203 :: .int 0 :: .ref 204 :: .ref 205 :: .ref 206 :: .ref 207 :: .ref 208 :: .ref 209 :: .ref 210 :: .ref 211 :: .ref 212 :: .ref 213 :: .ref 214 :: .int 0 :: .ref 215 :: .ref 216 :: .int 0 :: .ref 217 :: .ref 218 :: .ref 219 :: .ref 220 :: .ref 221 :: .int 0 :: .int 0 :: .int 0 :: .int 0 :: .ref 222 :: .int 0 :: []))), (186, .inl (0, 400, .inl (upd (fun _ => 0) 0 (((a1.toUInt32 >>> ((24 : Int32).toUInt32 &&& Int32.toUInt32 31)).toInt32) &&& 255))))] gf_X9_337 cf9 nf9_9 rfl (Nat.le_of_ble_eq_true rfl) rfl rfl dX9_feed_111 rfl ?_
  refine aw_iinc C 1 dX9_feed_114 rfl (by decide) (by decide) rfl ?_
  refine aw_nl [some (.ref 181), some (.int a1), some (.int a2), some (.int a3), some (.int a4), some (.int a5), some (.int 1), some (.int a1)] rfl ?_
  refine aw_goto C 23 dX9_feed_117 (by decide) ?_
  refine aw_iload C dX9_feed_23 rfl ?_
  refine aw_bipush C 20 dX9_feed_25 kb_20 ?_
  refine aw_icmp_ge C 120 dX9_feed_27 (by decide) (fun q => absurd q (by decide)) (fun _ => ?_)
  refine aw_iload C dX9_feed_30 rfl ?_
  refine aw_iconst C 4 dX9_feed_32 ki_4 ?_
  refine aw_icmp_ge C 40 dX9_feed_33 (by decide) (fun q => absurd q (by decide)) (fun _ => ?_)
  refine aw_iload_n C dX9_feed_36 rfl ?_
  refine aw_goto C 76 dX9_feed_37 (by decide) ?_
  refine aw_istore C dX9_feed_76 (by decide) rfl ?_
  refine aw_nl [some (.ref 181), some (.int a1), some (.int a2), some (.int a3), some (.int a4), some (.int a5), some (.int 1), some (.int a1)] rfl ?_
  refine aw_ald_n C dX9_feed_78 rfl ?_
  refine aw_get C gf_X9_23 rfl rfl dX9_feed_79 ?_
  refine aw_ald_n C dX9_feed_82 rfl ?_
  refine aw_get C gf_X9_337 rfl rfl dX9_feed_83 ?_
  refine aw_iload C dX9_feed_86 rfl ?_
  refine aw_bipush C 24 dX9_feed_88 kb_24 ?_
  refine aw_bipush C 8 dX9_feed_90 kb_8 ?_
  refine aw_iload C dX9_feed_92 rfl ?_
  refine aw_iconst C 4 dX9_feed_94 ki_4 ?_
  refine ae_irem C 1 dX9_feed_95 (by decide) (by decide) ?_
  refine ae_imul C 8 dX9_feed_96 (by decide) ?_
  refine ae_isub C 16 dX9_feed_97 (by decide) ?_
  refine aw_iushr C dX9_feed_98 ?_
  refine aw_sipush C 255 dX9_feed_99 ks_255 ?_
  refine aw_iand C dX9_feed_102 ?_
  refine ao_iast C [(181, .inr (9, (.int 0 :: .ref 182 :: .ref 183 :: .ref 184 :: .ref 185 :: .int 0 :: .int 0 :: .int 0 :: .ref 186 :: .int 1 :: .int 0 :: .int 0 :: .int (-1) :: .ref 187 :: .ref 188 :: .ref 189 :: .int 0 :: .ref 190 :: .ref 191 :: .ref 192 :: .ref 193 :: .ref 194 :: .int 0 :: .ref 195 :: .ref 196 :: .ref 197 :: .int 0 :: .ref 198 :: .ref 199 :: .ref 200 :: .ref 201 :: .ref 202 :: .ref 203 :: .int 0 :: .ref 204 :: .ref 205 :: .ref 206 :: .ref 207 :: .ref 208 :: .ref 209 :: .ref 210 :: .ref 211 :: .ref 212 :: .ref 213 :: .ref 214 :: .int 0 :: .ref 215 :: .ref 216 :: .int 0 :: .ref 217 :: .ref 218 :: .ref 219 :: .ref 220 :: .ref 221 :: .int 0 :: .int 0 :: .int 0 :: .int 0 :: .ref 222 :: .int 0 :: []))), (186, .inl (0, 400, .inl (upd (upd (fun _ => 0) 0 (((a1.toUInt32 >>> ((24 : Int32).toUInt32 &&& Int32.toUInt32 31)).toInt32) &&& 255)) 1 (((a1.toUInt32 >>> ((16 : Int32).toUInt32 &&& Int32.toUInt32 31)).toInt32) &&& 255))))] rfl (by unfold vp_in; decide) (by decide : _ = 1) dX9_feed_103 rfl ?_
  refine aw_ald_n C dX9_feed_104 rfl ?_
  refine aw_dup C dX9_feed_105 rfl ?_
  refine aw_get C gf_X9_337 rfl rfl dX9_feed_106 ?_
  refine aw_iconst C 1 dX9_feed_109 ki_1 ?_
  refine ae_iadd C 2 dX9_feed_110 (by decide) ?_
  refine ao_put C [(181, .inr (9, (.int 0 :: .ref 182 :: .ref 183 :: .ref 184 :: .ref 185 :: .int 0 :: .int 0 :: .int 0 :: .ref 186 :: .int 2 :: .int 0 :: .int 0 :: .int (-1) :: .ref 187 :: .ref 188 :: .ref 189 :: .int 0 :: .ref 190 :: .ref 191 :: .ref 192 :: .ref 193 :: .ref 194 :: .int 0 :: .ref 195 :: .ref 196 :: .ref 197 :: .int 0 :: .ref 198 :: .ref 199 :: .ref 200 :: .ref 201 :: .ref 202 :: .ref 203 :: .int 0 :: .ref 204 :: .ref 205 :: .ref 206 :: .ref 207 :: .ref 208 :: .ref 209 :: .ref 210 :: .ref 211 :: .ref 212 :: .ref 213 :: .ref 214 :: .int 0 :: .ref 215 :: .ref 216 :: .int 0 :: .ref 217 :: .ref 218 :: .ref 219 :: .ref 220 :: .ref 221 :: .int 0 :: .int 0 :: .int 0 :: .int 0 :: .ref 222 :: .int 0 :: []))), (186, .inl (0, 400, .inl (upd (upd (fun _ => 0) 0 (((a1.toUInt32 >>> ((24 : Int32).toUInt32 &&& Int32.toUInt32 31)).toInt32) &&& 255)) 1 (((a1.toUInt32 >>> ((16 : Int32).toUInt32 &&& Int32.toUInt32 31)).toInt32) &&& 255))))] gf_X9_337 cf9 nf9_9 rfl (Nat.le_of_ble_eq_true rfl) rfl rfl dX9_feed_111 rfl ?_
  refine aw_iinc C 2 dX9_feed_114 rfl (by decide) (by decide) rfl ?_
  refine aw_nl [some (.ref 181), some (.int a1), some (.int a2), some (.int a3), some (.int a4), some (.int a5), some (.int 2), some (.int a1)] rfl ?_
  refine aw_goto C 23 dX9_feed_117 (by decide) ?_
  refine aw_iload C dX9_feed_23 rfl ?_
  refine aw_bipush C 20 dX9_feed_25 kb_20 ?_
  refine aw_icmp_ge C 120 dX9_feed_27 (by decide) (fun q => absurd q (by decide)) (fun _ => ?_)
  refine aw_iload C dX9_feed_30 rfl ?_
  refine aw_iconst C 4 dX9_feed_32 ki_4 ?_
  refine aw_icmp_ge C 40 dX9_feed_33 (by decide) (fun q => absurd q (by decide)) (fun _ => ?_)
  refine aw_iload_n C dX9_feed_36 rfl ?_
  refine aw_goto C 76 dX9_feed_37 (by decide) ?_
  refine aw_istore C dX9_feed_76 (by decide) rfl ?_
  refine aw_nl [some (.ref 181), some (.int a1), some (.int a2), some (.int a3), some (.int a4), some (.int a5), some (.int 2), some (.int a1)] rfl ?_
  refine aw_ald_n C dX9_feed_78 rfl ?_
  refine aw_get C gf_X9_23 rfl rfl dX9_feed_79 ?_
  refine aw_ald_n C dX9_feed_82 rfl ?_
  refine aw_get C gf_X9_337 rfl rfl dX9_feed_83 ?_
  refine aw_iload C dX9_feed_86 rfl ?_
  refine aw_bipush C 24 dX9_feed_88 kb_24 ?_
  refine aw_bipush C 8 dX9_feed_90 kb_8 ?_
  refine aw_iload C dX9_feed_92 rfl ?_
  refine aw_iconst C 4 dX9_feed_94 ki_4 ?_
  refine ae_irem C 2 dX9_feed_95 (by decide) (by decide) ?_
  refine ae_imul C 16 dX9_feed_96 (by decide) ?_
  refine ae_isub C 8 dX9_feed_97 (by decide) ?_
  refine aw_iushr C dX9_feed_98 ?_
  refine aw_sipush C 255 dX9_feed_99 ks_255 ?_
  refine aw_iand C dX9_feed_102 ?_
  refine ao_iast C [(181, .inr (9, (.int 0 :: .ref 182 :: .ref 183 :: .ref 184 :: .ref 185 :: .int 0 :: .int 0 :: .int 0 :: .ref 186 :: .int 2 :: .int 0 :: .int 0 :: .int (-1) :: .ref 187 :: .ref 188 :: .ref 189 :: .int 0 :: .ref 190 :: .ref 191 :: .ref 192 :: .ref 193 :: .ref 194 :: .int 0 :: .ref 195 :: .ref 196 :: .ref 197 :: .int 0 :: .ref 198 :: .ref 199 :: .ref 200 :: .ref 201 :: .ref 202 :: .ref 203 :: .int 0 :: .ref 204 :: .ref 205 :: .ref 206 :: .ref 207 :: .ref 208 :: .ref 209 :: .ref 210 :: .ref 211 :: .ref 212 :: .ref 213 :: .ref 214 :: .int 0 :: .ref 215 :: .ref 216 :: .int 0 :: .ref 217 :: .ref 218 :: .ref 219 :: .ref 220 :: .ref 221 :: .int 0 :: .int 0 :: .int 0 :: .int 0 :: .ref 222 :: .int 0 :: []))), (186, .inl (0, 400, .inl (upd (upd (upd (fun _ => 0) 0 (((a1.toUInt32 >>> ((24 : Int32).toUInt32 &&& Int32.toUInt32 31)).toInt32) &&& 255)) 1 (((a1.toUInt32 >>> ((16 : Int32).toUInt32 &&& Int32.toUInt32 31)).toInt32) &&& 255)) 2 (((a1.toUInt32 >>> ((8 : Int32).toUInt32 &&& Int32.toUInt32 31)).toInt32) &&& 255))))] rfl (by unfold vp_in; decide) (by decide : _ = 2) dX9_feed_103 rfl ?_
  refine aw_ald_n C dX9_feed_104 rfl ?_
  refine aw_dup C dX9_feed_105 rfl ?_
  refine aw_get C gf_X9_337 rfl rfl dX9_feed_106 ?_
  refine aw_iconst C 1 dX9_feed_109 ki_1 ?_
  refine ae_iadd C 3 dX9_feed_110 (by decide) ?_
  refine ao_put C [(181, .inr (9, (.int 0 :: .ref 182 :: .ref 183 :: .ref 184 :: .ref 185 :: .int 0 :: .int 0 :: .int 0 :: .ref 186 :: .int 3 :: .int 0 :: .int 0 :: .int (-1) :: .ref 187 :: .ref 188 :: .ref 189 :: .int 0 :: .ref 190 :: .ref 191 :: .ref 192 :: .ref 193 :: .ref 194 :: .int 0 :: .ref 195 :: .ref 196 :: .ref 197 :: .int 0 :: .ref 198 :: .ref 199 :: .ref 200 :: .ref 201 :: .ref 202 :: .ref 203 :: .int 0 :: .ref 204 :: .ref 205 :: .ref 206 :: .ref 207 :: .ref 208 :: .ref 209 :: .ref 210 :: .ref 211 :: .ref 212 :: .ref 213 :: .ref 214 :: .int 0 :: .ref 215 :: .ref 216 :: .int 0 :: .ref 217 :: .ref 218 :: .ref 219 :: .ref 220 :: .ref 221 :: .int 0 :: .int 0 :: .int 0 :: .int 0 :: .ref 222 :: .int 0 :: []))), (186, .inl (0, 400, .inl (upd (upd (upd (fun _ => 0) 0 (((a1.toUInt32 >>> ((24 : Int32).toUInt32 &&& Int32.toUInt32 31)).toInt32) &&& 255)) 1 (((a1.toUInt32 >>> ((16 : Int32).toUInt32 &&& Int32.toUInt32 31)).toInt32) &&& 255)) 2 (((a1.toUInt32 >>> ((8 : Int32).toUInt32 &&& Int32.toUInt32 31)).toInt32) &&& 255))))] gf_X9_337 cf9 nf9_9 rfl (Nat.le_of_ble_eq_true rfl) rfl rfl dX9_feed_111 rfl ?_
  refine aw_iinc C 3 dX9_feed_114 rfl (by decide) (by decide) rfl ?_
  refine aw_nl [some (.ref 181), some (.int a1), some (.int a2), some (.int a3), some (.int a4), some (.int a5), some (.int 3), some (.int a1)] rfl ?_
  refine aw_goto C 23 dX9_feed_117 (by decide) ?_
  refine aw_iload C dX9_feed_23 rfl ?_
  refine aw_bipush C 20 dX9_feed_25 kb_20 ?_
  refine aw_icmp_ge C 120 dX9_feed_27 (by decide) (fun q => absurd q (by decide)) (fun _ => ?_)
  refine aw_iload C dX9_feed_30 rfl ?_
  refine aw_iconst C 4 dX9_feed_32 ki_4 ?_
  refine aw_icmp_ge C 40 dX9_feed_33 (by decide) (fun q => absurd q (by decide)) (fun _ => ?_)
  refine aw_iload_n C dX9_feed_36 rfl ?_
  refine aw_goto C 76 dX9_feed_37 (by decide) ?_
  refine aw_istore C dX9_feed_76 (by decide) rfl ?_
  refine aw_nl [some (.ref 181), some (.int a1), some (.int a2), some (.int a3), some (.int a4), some (.int a5), some (.int 3), some (.int a1)] rfl ?_
  refine aw_ald_n C dX9_feed_78 rfl ?_
  refine aw_get C gf_X9_23 rfl rfl dX9_feed_79 ?_
  refine aw_ald_n C dX9_feed_82 rfl ?_
  refine aw_get C gf_X9_337 rfl rfl dX9_feed_83 ?_
  refine aw_iload C dX9_feed_86 rfl ?_
  refine aw_bipush C 24 dX9_feed_88 kb_24 ?_
  refine aw_bipush C 8 dX9_feed_90 kb_8 ?_
  refine aw_iload C dX9_feed_92 rfl ?_
  refine aw_iconst C 4 dX9_feed_94 ki_4 ?_
  refine ae_irem C 3 dX9_feed_95 (by decide) (by decide) ?_
  refine ae_imul C 24 dX9_feed_96 (by decide) ?_
  refine ae_isub C 0 dX9_feed_97 (by decide) ?_
  refine aw_iushr C dX9_feed_98 ?_
  refine aw_sipush C 255 dX9_feed_99 ks_255 ?_
  refine aw_iand C dX9_feed_102 ?_
  refine ao_iast C [(181, .inr (9, (.int 0 :: .ref 182 :: .ref 183 :: .ref 184 :: .ref 185 :: .int 0 :: .int 0 :: .int 0 :: .ref 186 :: .int 3 :: .int 0 :: .int 0 :: .int (-1) :: .ref 187 :: .ref 188 :: .ref 189 :: .int 0 :: .ref 190 :: .ref 191 :: .ref 192 :: .ref 193 :: .ref 194 :: .int 0 :: .ref 195 :: .ref 196 :: .ref 197 :: .int 0 :: .ref 198 :: .ref 199 :: .ref 200 :: .ref 201 :: .ref 202 :: .ref 203 :: .int 0 :: .ref 204 :: .ref 205 :: .ref 206 :: .ref 207 :: .ref 208 :: .ref 209 :: .ref 210 :: .ref 211 :: .ref 212 :: .ref 213 :: .ref 214 :: .int 0 :: .ref 215 :: .ref 216 :: .int 0 :: .ref 217 :: .ref 218 :: .ref 219 :: .ref 220 :: .ref 221 :: .int 0 :: .int 0 :: .int 0 :: .int 0 :: .ref 222 :: .int 0 :: []))), (186, .inl (0, 400, .inl (upd (upd (upd (upd (fun _ => 0) 0 (((a1.toUInt32 >>> ((24 : Int32).toUInt32 &&& Int32.toUInt32 31)).toInt32) &&& 255)) 1 (((a1.toUInt32 >>> ((16 : Int32).toUInt32 &&& Int32.toUInt32 31)).toInt32) &&& 255)) 2 (((a1.toUInt32 >>> ((8 : Int32).toUInt32 &&& Int32.toUInt32 31)).toInt32) &&& 255)) 3 (((a1.toUInt32 >>> ((0 : Int32).toUInt32 &&& Int32.toUInt32 31)).toInt32) &&& 255))))] rfl (by unfold vp_in; decide) (by decide : _ = 3) dX9_feed_103 rfl ?_
  refine aw_ald_n C dX9_feed_104 rfl ?_
  refine aw_dup C dX9_feed_105 rfl ?_
  refine aw_get C gf_X9_337 rfl rfl dX9_feed_106 ?_
  refine aw_iconst C 1 dX9_feed_109 ki_1 ?_
  refine ae_iadd C 4 dX9_feed_110 (by decide) ?_
  refine ao_put C [(181, .inr (9, (.int 0 :: .ref 182 :: .ref 183 :: .ref 184 :: .ref 185 :: .int 0 :: .int 0 :: .int 0 :: .ref 186 :: .int 4 :: .int 0 :: .int 0 :: .int (-1) :: .ref 187 :: .ref 188 :: .ref 189 :: .int 0 :: .ref 190 :: .ref 191 :: .ref 192 :: .ref 193 :: .ref 194 :: .int 0 :: .ref 195 :: .ref 196 :: .ref 197 :: .int 0 :: .ref 198 :: .ref 199 :: .ref 200 :: .ref 201 :: .ref 202 :: .ref 203 :: .int 0 :: .ref 204 :: .ref 205 :: .ref 206 :: .ref 207 :: .ref 208 :: .ref 209 :: .ref 210 :: .ref 211 :: .ref 212 :: .ref 213 :: .ref 214 :: .int 0 :: .ref 215 :: .ref 216 :: .int 0 :: .ref 217 :: .ref 218 :: .ref 219 :: .ref 220 :: .ref 221 :: .int 0 :: .int 0 :: .int 0 :: .int 0 :: .ref 222 :: .int 0 :: []))), (186, .inl (0, 400, .inl (upd (upd (upd (upd (fun _ => 0) 0 (((a1.toUInt32 >>> ((24 : Int32).toUInt32 &&& Int32.toUInt32 31)).toInt32) &&& 255)) 1 (((a1.toUInt32 >>> ((16 : Int32).toUInt32 &&& Int32.toUInt32 31)).toInt32) &&& 255)) 2 (((a1.toUInt32 >>> ((8 : Int32).toUInt32 &&& Int32.toUInt32 31)).toInt32) &&& 255)) 3 (((a1.toUInt32 >>> ((0 : Int32).toUInt32 &&& Int32.toUInt32 31)).toInt32) &&& 255))))] gf_X9_337 cf9 nf9_9 rfl (Nat.le_of_ble_eq_true rfl) rfl rfl dX9_feed_111 rfl ?_
  refine aw_iinc C 4 dX9_feed_114 rfl (by decide) (by decide) rfl ?_
  refine aw_nl [some (.ref 181), some (.int a1), some (.int a2), some (.int a3), some (.int a4), some (.int a5), some (.int 4), some (.int a1)] rfl ?_
  refine aw_goto C 23 dX9_feed_117 (by decide) ?_
  refine aw_iload C dX9_feed_23 rfl ?_
  refine aw_bipush C 20 dX9_feed_25 kb_20 ?_
  refine aw_icmp_ge C 120 dX9_feed_27 (by decide) (fun q => absurd q (by decide)) (fun _ => ?_)
  refine aw_iload C dX9_feed_30 rfl ?_
  refine aw_iconst C 4 dX9_feed_32 ki_4 ?_
  refine aw_icmp_ge C 40 dX9_feed_33 (by decide) (fun _ => ?_) (fun q => absurd (by decide) q)
  refine aw_iload C dX9_feed_40 rfl ?_
  refine aw_bipush C 8 dX9_feed_42 kb_8 ?_
  refine aw_icmp_ge C 51 dX9_feed_44 (by decide) (fun q => absurd q (by decide)) (fun _ => ?_)
  refine aw_iload_n C dX9_feed_47 rfl ?_
  refine aw_goto C 76 dX9_feed_48 (by decide) ?_
  refine aw_istore C dX9_feed_76 (by decide) rfl ?_
  refine aw_nl [some (.ref 181), some (.int a1), some (.int a2), some (.int a3), some (.int a4), some (.int a5), some (.int 4), some (.int a2)] rfl ?_
  refine aw_ald_n C dX9_feed_78 rfl ?_
  refine aw_get C gf_X9_23 rfl rfl dX9_feed_79 ?_
  refine aw_ald_n C dX9_feed_82 rfl ?_
  refine aw_get C gf_X9_337 rfl rfl dX9_feed_83 ?_
  refine aw_iload C dX9_feed_86 rfl ?_
  refine aw_bipush C 24 dX9_feed_88 kb_24 ?_
  refine aw_bipush C 8 dX9_feed_90 kb_8 ?_
  refine aw_iload C dX9_feed_92 rfl ?_
  refine aw_iconst C 4 dX9_feed_94 ki_4 ?_
  refine ae_irem C 0 dX9_feed_95 (by decide) (by decide) ?_
  refine ae_imul C 0 dX9_feed_96 (by decide) ?_
  refine ae_isub C 24 dX9_feed_97 (by decide) ?_
  refine aw_iushr C dX9_feed_98 ?_
  refine aw_sipush C 255 dX9_feed_99 ks_255 ?_
  refine aw_iand C dX9_feed_102 ?_
  refine ao_iast C [(181, .inr (9, (.int 0 :: .ref 182 :: .ref 183 :: .ref 184 :: .ref 185 :: .int 0 :: .int 0 :: .int 0 :: .ref 186 :: .int 4 :: .int 0 :: .int 0 :: .int (-1) :: .ref 187 :: .ref 188 :: .ref 189 :: .int 0 :: .ref 190 :: .ref 191 :: .ref 192 :: .ref 193 :: .ref 194 :: .int 0 :: .ref 195 :: .ref 196 :: .ref 197 :: .int 0 :: .ref 198 :: .ref 199 :: .ref 200 :: .ref 201 :: .ref 202 :: .ref 203 :: .int 0 :: .ref 204 :: .ref 205 :: .ref 206 :: .ref 207 :: .ref 208 :: .ref 209 :: .ref 210 :: .ref 211 :: .ref 212 :: .ref 213 :: .ref 214 :: .int 0 :: .ref 215 :: .ref 216 :: .int 0 :: .ref 217 :: .ref 218 :: .ref 219 :: .ref 220 :: .ref 221 :: .int 0 :: .int 0 :: .int 0 :: .int 0 :: .ref 222 :: .int 0 :: []))), (186, .inl (0, 400, .inl (upd (upd (upd (upd (upd (fun _ => 0) 0 (((a1.toUInt32 >>> ((24 : Int32).toUInt32 &&& Int32.toUInt32 31)).toInt32) &&& 255)) 1 (((a1.toUInt32 >>> ((16 : Int32).toUInt32 &&& Int32.toUInt32 31)).toInt32) &&& 255)) 2 (((a1.toUInt32 >>> ((8 : Int32).toUInt32 &&& Int32.toUInt32 31)).toInt32) &&& 255)) 3 (((a1.toUInt32 >>> ((0 : Int32).toUInt32 &&& Int32.toUInt32 31)).toInt32) &&& 255)) 4 (((a2.toUInt32 >>> ((24 : Int32).toUInt32 &&& Int32.toUInt32 31)).toInt32) &&& 255))))] rfl (by unfold vp_in; decide) (by decide : _ = 4) dX9_feed_103 rfl ?_
  refine aw_ald_n C dX9_feed_104 rfl ?_
  refine aw_dup C dX9_feed_105 rfl ?_
  refine aw_get C gf_X9_337 rfl rfl dX9_feed_106 ?_
  refine aw_iconst C 1 dX9_feed_109 ki_1 ?_
  refine ae_iadd C 5 dX9_feed_110 (by decide) ?_
  refine ao_put C [(181, .inr (9, (.int 0 :: .ref 182 :: .ref 183 :: .ref 184 :: .ref 185 :: .int 0 :: .int 0 :: .int 0 :: .ref 186 :: .int 5 :: .int 0 :: .int 0 :: .int (-1) :: .ref 187 :: .ref 188 :: .ref 189 :: .int 0 :: .ref 190 :: .ref 191 :: .ref 192 :: .ref 193 :: .ref 194 :: .int 0 :: .ref 195 :: .ref 196 :: .ref 197 :: .int 0 :: .ref 198 :: .ref 199 :: .ref 200 :: .ref 201 :: .ref 202 :: .ref 203 :: .int 0 :: .ref 204 :: .ref 205 :: .ref 206 :: .ref 207 :: .ref 208 :: .ref 209 :: .ref 210 :: .ref 211 :: .ref 212 :: .ref 213 :: .ref 214 :: .int 0 :: .ref 215 :: .ref 216 :: .int 0 :: .ref 217 :: .ref 218 :: .ref 219 :: .ref 220 :: .ref 221 :: .int 0 :: .int 0 :: .int 0 :: .int 0 :: .ref 222 :: .int 0 :: []))), (186, .inl (0, 400, .inl (upd (upd (upd (upd (upd (fun _ => 0) 0 (((a1.toUInt32 >>> ((24 : Int32).toUInt32 &&& Int32.toUInt32 31)).toInt32) &&& 255)) 1 (((a1.toUInt32 >>> ((16 : Int32).toUInt32 &&& Int32.toUInt32 31)).toInt32) &&& 255)) 2 (((a1.toUInt32 >>> ((8 : Int32).toUInt32 &&& Int32.toUInt32 31)).toInt32) &&& 255)) 3 (((a1.toUInt32 >>> ((0 : Int32).toUInt32 &&& Int32.toUInt32 31)).toInt32) &&& 255)) 4 (((a2.toUInt32 >>> ((24 : Int32).toUInt32 &&& Int32.toUInt32 31)).toInt32) &&& 255))))] gf_X9_337 cf9 nf9_9 rfl (Nat.le_of_ble_eq_true rfl) rfl rfl dX9_feed_111 rfl ?_
  refine aw_iinc C 5 dX9_feed_114 rfl (by decide) (by decide) rfl ?_
  refine aw_nl [some (.ref 181), some (.int a1), some (.int a2), some (.int a3), some (.int a4), some (.int a5), some (.int 5), some (.int a2)] rfl ?_
  refine aw_goto C 23 dX9_feed_117 (by decide) ?_
  refine aw_iload C dX9_feed_23 rfl ?_
  refine aw_bipush C 20 dX9_feed_25 kb_20 ?_
  refine aw_icmp_ge C 120 dX9_feed_27 (by decide) (fun q => absurd q (by decide)) (fun _ => ?_)
  refine aw_iload C dX9_feed_30 rfl ?_
  refine aw_iconst C 4 dX9_feed_32 ki_4 ?_
  refine aw_icmp_ge C 40 dX9_feed_33 (by decide) (fun _ => ?_) (fun q => absurd (by decide) q)
  refine aw_iload C dX9_feed_40 rfl ?_
  refine aw_bipush C 8 dX9_feed_42 kb_8 ?_
  refine aw_icmp_ge C 51 dX9_feed_44 (by decide) (fun q => absurd q (by decide)) (fun _ => ?_)
  refine aw_iload_n C dX9_feed_47 rfl ?_
  refine aw_goto C 76 dX9_feed_48 (by decide) ?_
  refine aw_istore C dX9_feed_76 (by decide) rfl ?_
  refine aw_nl [some (.ref 181), some (.int a1), some (.int a2), some (.int a3), some (.int a4), some (.int a5), some (.int 5), some (.int a2)] rfl ?_
  refine aw_ald_n C dX9_feed_78 rfl ?_
  refine aw_get C gf_X9_23 rfl rfl dX9_feed_79 ?_
  refine aw_ald_n C dX9_feed_82 rfl ?_
  refine aw_get C gf_X9_337 rfl rfl dX9_feed_83 ?_
  refine aw_iload C dX9_feed_86 rfl ?_
  refine aw_bipush C 24 dX9_feed_88 kb_24 ?_
  refine aw_bipush C 8 dX9_feed_90 kb_8 ?_
  refine aw_iload C dX9_feed_92 rfl ?_
  refine aw_iconst C 4 dX9_feed_94 ki_4 ?_
  refine ae_irem C 1 dX9_feed_95 (by decide) (by decide) ?_
  refine ae_imul C 8 dX9_feed_96 (by decide) ?_
  refine ae_isub C 16 dX9_feed_97 (by decide) ?_
  refine aw_iushr C dX9_feed_98 ?_
  refine aw_sipush C 255 dX9_feed_99 ks_255 ?_
  refine aw_iand C dX9_feed_102 ?_
  refine ao_iast C [(181, .inr (9, (.int 0 :: .ref 182 :: .ref 183 :: .ref 184 :: .ref 185 :: .int 0 :: .int 0 :: .int 0 :: .ref 186 :: .int 5 :: .int 0 :: .int 0 :: .int (-1) :: .ref 187 :: .ref 188 :: .ref 189 :: .int 0 :: .ref 190 :: .ref 191 :: .ref 192 :: .ref 193 :: .ref 194 :: .int 0 :: .ref 195 :: .ref 196 :: .ref 197 :: .int 0 :: .ref 198 :: .ref 199 :: .ref 200 :: .ref 201 :: .ref 202 :: .ref 203 :: .int 0 :: .ref 204 :: .ref 205 :: .ref 206 :: .ref 207 :: .ref 208 :: .ref 209 :: .ref 210 :: .ref 211 :: .ref 212 :: .ref 213 :: .ref 214 :: .int 0 :: .ref 215 :: .ref 216 :: .int 0 :: .ref 217 :: .ref 218 :: .ref 219 :: .ref 220 :: .ref 221 :: .int 0 :: .int 0 :: .int 0 :: .int 0 :: .ref 222 :: .int 0 :: []))), (186, .inl (0, 400, .inl (upd (upd (upd (upd (upd (upd (fun _ => 0) 0 (((a1.toUInt32 >>> ((24 : Int32).toUInt32 &&& Int32.toUInt32 31)).toInt32) &&& 255)) 1 (((a1.toUInt32 >>> ((16 : Int32).toUInt32 &&& Int32.toUInt32 31)).toInt32) &&& 255)) 2 (((a1.toUInt32 >>> ((8 : Int32).toUInt32 &&& Int32.toUInt32 31)).toInt32) &&& 255)) 3 (((a1.toUInt32 >>> ((0 : Int32).toUInt32 &&& Int32.toUInt32 31)).toInt32) &&& 255)) 4 (((a2.toUInt32 >>> ((24 : Int32).toUInt32 &&& Int32.toUInt32 31)).toInt32) &&& 255)) 5 (((a2.toUInt32 >>> ((16 : Int32).toUInt32 &&& Int32.toUInt32 31)).toInt32) &&& 255))))] rfl (by unfold vp_in; decide) (by decide : _ = 5) dX9_feed_103 rfl ?_
  refine aw_ald_n C dX9_feed_104 rfl ?_
  refine aw_dup C dX9_feed_105 rfl ?_
  refine aw_get C gf_X9_337 rfl rfl dX9_feed_106 ?_
  refine aw_iconst C 1 dX9_feed_109 ki_1 ?_
  refine ae_iadd C 6 dX9_feed_110 (by decide) ?_
  refine ao_put C [(181, .inr (9, (.int 0 :: .ref 182 :: .ref 183 :: .ref 184 :: .ref 185 :: .int 0 :: .int 0 :: .int 0 :: .ref 186 :: .int 6 :: .int 0 :: .int 0 :: .int (-1) :: .ref 187 :: .ref 188 :: .ref 189 :: .int 0 :: .ref 190 :: .ref 191 :: .ref 192 :: .ref 193 :: .ref 194 :: .int 0 :: .ref 195 :: .ref 196 :: .ref 197 :: .int 0 :: .ref 198 :: .ref 199 :: .ref 200 :: .ref 201 :: .ref 202 :: .ref 203 :: .int 0 :: .ref 204 :: .ref 205 :: .ref 206 :: .ref 207 :: .ref 208 :: .ref 209 :: .ref 210 :: .ref 211 :: .ref 212 :: .ref 213 :: .ref 214 :: .int 0 :: .ref 215 :: .ref 216 :: .int 0 :: .ref 217 :: .ref 218 :: .ref 219 :: .ref 220 :: .ref 221 :: .int 0 :: .int 0 :: .int 0 :: .int 0 :: .ref 222 :: .int 0 :: []))), (186, .inl (0, 400, .inl (upd (upd (upd (upd (upd (upd (fun _ => 0) 0 (((a1.toUInt32 >>> ((24 : Int32).toUInt32 &&& Int32.toUInt32 31)).toInt32) &&& 255)) 1 (((a1.toUInt32 >>> ((16 : Int32).toUInt32 &&& Int32.toUInt32 31)).toInt32) &&& 255)) 2 (((a1.toUInt32 >>> ((8 : Int32).toUInt32 &&& Int32.toUInt32 31)).toInt32) &&& 255)) 3 (((a1.toUInt32 >>> ((0 : Int32).toUInt32 &&& Int32.toUInt32 31)).toInt32) &&& 255)) 4 (((a2.toUInt32 >>> ((24 : Int32).toUInt32 &&& Int32.toUInt32 31)).toInt32) &&& 255)) 5 (((a2.toUInt32 >>> ((16 : Int32).toUInt32 &&& Int32.toUInt32 31)).toInt32) &&& 255))))] gf_X9_337 cf9 nf9_9 rfl (Nat.le_of_ble_eq_true rfl) rfl rfl dX9_feed_111 rfl ?_
  refine aw_iinc C 6 dX9_feed_114 rfl (by decide) (by decide) rfl ?_
  refine aw_nl [some (.ref 181), some (.int a1), some (.int a2), some (.int a3), some (.int a4), some (.int a5), some (.int 6), some (.int a2)] rfl ?_
  refine aw_goto C 23 dX9_feed_117 (by decide) ?_
  refine aw_iload C dX9_feed_23 rfl ?_
  refine aw_bipush C 20 dX9_feed_25 kb_20 ?_
  refine aw_icmp_ge C 120 dX9_feed_27 (by decide) (fun q => absurd q (by decide)) (fun _ => ?_)
  refine aw_iload C dX9_feed_30 rfl ?_
  refine aw_iconst C 4 dX9_feed_32 ki_4 ?_
  refine aw_icmp_ge C 40 dX9_feed_33 (by decide) (fun _ => ?_) (fun q => absurd (by decide) q)
  refine aw_iload C dX9_feed_40 rfl ?_
  refine aw_bipush C 8 dX9_feed_42 kb_8 ?_
  refine aw_icmp_ge C 51 dX9_feed_44 (by decide) (fun q => absurd q (by decide)) (fun _ => ?_)
  refine aw_iload_n C dX9_feed_47 rfl ?_
  refine aw_goto C 76 dX9_feed_48 (by decide) ?_
  refine aw_istore C dX9_feed_76 (by decide) rfl ?_
  refine aw_nl [some (.ref 181), some (.int a1), some (.int a2), some (.int a3), some (.int a4), some (.int a5), some (.int 6), some (.int a2)] rfl ?_
  refine aw_ald_n C dX9_feed_78 rfl ?_
  refine aw_get C gf_X9_23 rfl rfl dX9_feed_79 ?_
  refine aw_ald_n C dX9_feed_82 rfl ?_
  refine aw_get C gf_X9_337 rfl rfl dX9_feed_83 ?_
  refine aw_iload C dX9_feed_86 rfl ?_
  refine aw_bipush C 24 dX9_feed_88 kb_24 ?_
  refine aw_bipush C 8 dX9_feed_90 kb_8 ?_
  refine aw_iload C dX9_feed_92 rfl ?_
  refine aw_iconst C 4 dX9_feed_94 ki_4 ?_
  refine ae_irem C 2 dX9_feed_95 (by decide) (by decide) ?_
  refine ae_imul C 16 dX9_feed_96 (by decide) ?_
  refine ae_isub C 8 dX9_feed_97 (by decide) ?_
  refine aw_iushr C dX9_feed_98 ?_
  refine aw_sipush C 255 dX9_feed_99 ks_255 ?_
  refine aw_iand C dX9_feed_102 ?_
  refine ao_iast C [(181, .inr (9, (.int 0 :: .ref 182 :: .ref 183 :: .ref 184 :: .ref 185 :: .int 0 :: .int 0 :: .int 0 :: .ref 186 :: .int 6 :: .int 0 :: .int 0 :: .int (-1) :: .ref 187 :: .ref 188 :: .ref 189 :: .int 0 :: .ref 190 :: .ref 191 :: .ref 192 :: .ref 193 :: .ref 194 :: .int 0 :: .ref 195 :: .ref 196 :: .ref 197 :: .int 0 :: .ref 198 :: .ref 199 :: .ref 200 :: .ref 201 :: .ref 202 :: .ref 203 :: .int 0 :: .ref 204 :: .ref 205 :: .ref 206 :: .ref 207 :: .ref 208 :: .ref 209 :: .ref 210 :: .ref 211 :: .ref 212 :: .ref 213 :: .ref 214 :: .int 0 :: .ref 215 :: .ref 216 :: .int 0 :: .ref 217 :: .ref 218 :: .ref 219 :: .ref 220 :: .ref 221 :: .int 0 :: .int 0 :: .int 0 :: .int 0 :: .ref 222 :: .int 0 :: []))), (186, .inl (0, 400, .inl (upd (upd (upd (upd (upd (upd (upd (fun _ => 0) 0 (((a1.toUInt32 >>> ((24 : Int32).toUInt32 &&& Int32.toUInt32 31)).toInt32) &&& 255)) 1 (((a1.toUInt32 >>> ((16 : Int32).toUInt32 &&& Int32.toUInt32 31)).toInt32) &&& 255)) 2 (((a1.toUInt32 >>> ((8 : Int32).toUInt32 &&& Int32.toUInt32 31)).toInt32) &&& 255)) 3 (((a1.toUInt32 >>> ((0 : Int32).toUInt32 &&& Int32.toUInt32 31)).toInt32) &&& 255)) 4 (((a2.toUInt32 >>> ((24 : Int32).toUInt32 &&& Int32.toUInt32 31)).toInt32) &&& 255)) 5 (((a2.toUInt32 >>> ((16 : Int32).toUInt32 &&& Int32.toUInt32 31)).toInt32) &&& 255)) 6 (((a2.toUInt32 >>> ((8 : Int32).toUInt32 &&& Int32.toUInt32 31)).toInt32) &&& 255))))] rfl (by unfold vp_in; decide) (by decide : _ = 6) dX9_feed_103 rfl ?_
  refine aw_ald_n C dX9_feed_104 rfl ?_
  refine aw_dup C dX9_feed_105 rfl ?_
  refine aw_get C gf_X9_337 rfl rfl dX9_feed_106 ?_
  refine aw_iconst C 1 dX9_feed_109 ki_1 ?_
  refine ae_iadd C 7 dX9_feed_110 (by decide) ?_
  refine ao_put C [(181, .inr (9, (.int 0 :: .ref 182 :: .ref 183 :: .ref 184 :: .ref 185 :: .int 0 :: .int 0 :: .int 0 :: .ref 186 :: .int 7 :: .int 0 :: .int 0 :: .int (-1) :: .ref 187 :: .ref 188 :: .ref 189 :: .int 0 :: .ref 190 :: .ref 191 :: .ref 192 :: .ref 193 :: .ref 194 :: .int 0 :: .ref 195 :: .ref 196 :: .ref 197 :: .int 0 :: .ref 198 :: .ref 199 :: .ref 200 :: .ref 201 :: .ref 202 :: .ref 203 :: .int 0 :: .ref 204 :: .ref 205 :: .ref 206 :: .ref 207 :: .ref 208 :: .ref 209 :: .ref 210 :: .ref 211 :: .ref 212 :: .ref 213 :: .ref 214 :: .int 0 :: .ref 215 :: .ref 216 :: .int 0 :: .ref 217 :: .ref 218 :: .ref 219 :: .ref 220 :: .ref 221 :: .int 0 :: .int 0 :: .int 0 :: .int 0 :: .ref 222 :: .int 0 :: []))), (186, .inl (0, 400, .inl (upd (upd (upd (upd (upd (upd (upd (fun _ => 0) 0 (((a1.toUInt32 >>> ((24 : Int32).toUInt32 &&& Int32.toUInt32 31)).toInt32) &&& 255)) 1 (((a1.toUInt32 >>> ((16 : Int32).toUInt32 &&& Int32.toUInt32 31)).toInt32) &&& 255)) 2 (((a1.toUInt32 >>> ((8 : Int32).toUInt32 &&& Int32.toUInt32 31)).toInt32) &&& 255)) 3 (((a1.toUInt32 >>> ((0 : Int32).toUInt32 &&& Int32.toUInt32 31)).toInt32) &&& 255)) 4 (((a2.toUInt32 >>> ((24 : Int32).toUInt32 &&& Int32.toUInt32 31)).toInt32) &&& 255)) 5 (((a2.toUInt32 >>> ((16 : Int32).toUInt32 &&& Int32.toUInt32 31)).toInt32) &&& 255)) 6 (((a2.toUInt32 >>> ((8 : Int32).toUInt32 &&& Int32.toUInt32 31)).toInt32) &&& 255))))] gf_X9_337 cf9 nf9_9 rfl (Nat.le_of_ble_eq_true rfl) rfl rfl dX9_feed_111 rfl ?_
  refine aw_iinc C 7 dX9_feed_114 rfl (by decide) (by decide) rfl ?_
  refine aw_nl [some (.ref 181), some (.int a1), some (.int a2), some (.int a3), some (.int a4), some (.int a5), some (.int 7), some (.int a2)] rfl ?_
  refine aw_goto C 23 dX9_feed_117 (by decide) ?_
  refine aw_iload C dX9_feed_23 rfl ?_
  refine aw_bipush C 20 dX9_feed_25 kb_20 ?_
  refine aw_icmp_ge C 120 dX9_feed_27 (by decide) (fun q => absurd q (by decide)) (fun _ => ?_)
  refine aw_iload C dX9_feed_30 rfl ?_
  refine aw_iconst C 4 dX9_feed_32 ki_4 ?_
  refine aw_icmp_ge C 40 dX9_feed_33 (by decide) (fun _ => ?_) (fun q => absurd (by decide) q)
  refine aw_iload C dX9_feed_40 rfl ?_
  refine aw_bipush C 8 dX9_feed_42 kb_8 ?_
  refine aw_icmp_ge C 51 dX9_feed_44 (by decide) (fun q => absurd q (by decide)) (fun _ => ?_)
  refine aw_iload_n C dX9_feed_47 rfl ?_
  refine aw_goto C 76 dX9_feed_48 (by decide) ?_
  refine aw_istore C dX9_feed_76 (by decide) rfl ?_
  refine aw_nl [some (.ref 181), some (.int a1), some (.int a2), some (.int a3), some (.int a4), some (.int a5), some (.int 7), some (.int a2)] rfl ?_
  refine aw_ald_n C dX9_feed_78 rfl ?_
  refine aw_get C gf_X9_23 rfl rfl dX9_feed_79 ?_
  refine aw_ald_n C dX9_feed_82 rfl ?_
  refine aw_get C gf_X9_337 rfl rfl dX9_feed_83 ?_
  refine aw_iload C dX9_feed_86 rfl ?_
  refine aw_bipush C 24 dX9_feed_88 kb_24 ?_
  refine aw_bipush C 8 dX9_feed_90 kb_8 ?_
  refine aw_iload C dX9_feed_92 rfl ?_
  refine aw_iconst C 4 dX9_feed_94 ki_4 ?_
  refine ae_irem C 3 dX9_feed_95 (by decide) (by decide) ?_
  refine ae_imul C 24 dX9_feed_96 (by decide) ?_
  refine ae_isub C 0 dX9_feed_97 (by decide) ?_
  refine aw_iushr C dX9_feed_98 ?_
  refine aw_sipush C 255 dX9_feed_99 ks_255 ?_
  refine aw_iand C dX9_feed_102 ?_
  refine ao_iast C [(181, .inr (9, (.int 0 :: .ref 182 :: .ref 183 :: .ref 184 :: .ref 185 :: .int 0 :: .int 0 :: .int 0 :: .ref 186 :: .int 7 :: .int 0 :: .int 0 :: .int (-1) :: .ref 187 :: .ref 188 :: .ref 189 :: .int 0 :: .ref 190 :: .ref 191 :: .ref 192 :: .ref 193 :: .ref 194 :: .int 0 :: .ref 195 :: .ref 196 :: .ref 197 :: .int 0 :: .ref 198 :: .ref 199 :: .ref 200 :: .ref 201 :: .ref 202 :: .ref 203 :: .int 0 :: .ref 204 :: .ref 205 :: .ref 206 :: .ref 207 :: .ref 208 :: .ref 209 :: .ref 210 :: .ref 211 :: .ref 212 :: .ref 213 :: .ref 214 :: .int 0 :: .ref 215 :: .ref 216 :: .int 0 :: .ref 217 :: .ref 218 :: .ref 219 :: .ref 220 :: .ref 221 :: .int 0 :: .int 0 :: .int 0 :: .int 0 :: .ref 222 :: .int 0 :: []))), (186, .inl (0, 400, .inl (upd (upd (upd (upd (upd (upd (upd (upd (fun _ => 0) 0 (((a1.toUInt32 >>> ((24 : Int32).toUInt32 &&& Int32.toUInt32 31)).toInt32) &&& 255)) 1 (((a1.toUInt32 >>> ((16 : Int32).toUInt32 &&& Int32.toUInt32 31)).toInt32) &&& 255)) 2 (((a1.toUInt32 >>> ((8 : Int32).toUInt32 &&& Int32.toUInt32 31)).toInt32) &&& 255)) 3 (((a1.toUInt32 >>> ((0 : Int32).toUInt32 &&& Int32.toUInt32 31)).toInt32) &&& 255)) 4 (((a2.toUInt32 >>> ((24 : Int32).toUInt32 &&& Int32.toUInt32 31)).toInt32) &&& 255)) 5 (((a2.toUInt32 >>> ((16 : Int32).toUInt32 &&& Int32.toUInt32 31)).toInt32) &&& 255)) 6 (((a2.toUInt32 >>> ((8 : Int32).toUInt32 &&& Int32.toUInt32 31)).toInt32) &&& 255)) 7 (((a2.toUInt32 >>> ((0 : Int32).toUInt32 &&& Int32.toUInt32 31)).toInt32) &&& 255))))] rfl (by unfold vp_in; decide) (by decide : _ = 7) dX9_feed_103 rfl ?_
  refine aw_ald_n C dX9_feed_104 rfl ?_
  refine aw_dup C dX9_feed_105 rfl ?_
  refine aw_get C gf_X9_337 rfl rfl dX9_feed_106 ?_
  refine aw_iconst C 1 dX9_feed_109 ki_1 ?_
  refine ae_iadd C 8 dX9_feed_110 (by decide) ?_
  refine ao_put C [(181, .inr (9, (.int 0 :: .ref 182 :: .ref 183 :: .ref 184 :: .ref 185 :: .int 0 :: .int 0 :: .int 0 :: .ref 186 :: .int 8 :: .int 0 :: .int 0 :: .int (-1) :: .ref 187 :: .ref 188 :: .ref 189 :: .int 0 :: .ref 190 :: .ref 191 :: .ref 192 :: .ref 193 :: .ref 194 :: .int 0 :: .ref 195 :: .ref 196 :: .ref 197 :: .int 0 :: .ref 198 :: .ref 199 :: .ref 200 :: .ref 201 :: .ref 202 :: .ref 203 :: .int 0 :: .ref 204 :: .ref 205 :: .ref 206 :: .ref 207 :: .ref 208 :: .ref 209 :: .ref 210 :: .ref 211 :: .ref 212 :: .ref 213 :: .ref 214 :: .int 0 :: .ref 215 :: .ref 216 :: .int 0 :: .ref 217 :: .ref 218 :: .ref 219 :: .ref 220 :: .ref 221 :: .int 0 :: .int 0 :: .int 0 :: .int 0 :: .ref 222 :: .int 0 :: []))), (186, .inl (0, 400, .inl (upd (upd (upd (upd (upd (upd (upd (upd (fun _ => 0) 0 (((a1.toUInt32 >>> ((24 : Int32).toUInt32 &&& Int32.toUInt32 31)).toInt32) &&& 255)) 1 (((a1.toUInt32 >>> ((16 : Int32).toUInt32 &&& Int32.toUInt32 31)).toInt32) &&& 255)) 2 (((a1.toUInt32 >>> ((8 : Int32).toUInt32 &&& Int32.toUInt32 31)).toInt32) &&& 255)) 3 (((a1.toUInt32 >>> ((0 : Int32).toUInt32 &&& Int32.toUInt32 31)).toInt32) &&& 255)) 4 (((a2.toUInt32 >>> ((24 : Int32).toUInt32 &&& Int32.toUInt32 31)).toInt32) &&& 255)) 5 (((a2.toUInt32 >>> ((16 : Int32).toUInt32 &&& Int32.toUInt32 31)).toInt32) &&& 255)) 6 (((a2.toUInt32 >>> ((8 : Int32).toUInt32 &&& Int32.toUInt32 31)).toInt32) &&& 255)) 7 (((a2.toUInt32 >>> ((0 : Int32).toUInt32 &&& Int32.toUInt32 31)).toInt32) &&& 255))))] gf_X9_337 cf9 nf9_9 rfl (Nat.le_of_ble_eq_true rfl) rfl rfl dX9_feed_111 rfl ?_
  refine aw_iinc C 8 dX9_feed_114 rfl (by decide) (by decide) rfl ?_
  refine aw_nl [some (.ref 181), some (.int a1), some (.int a2), some (.int a3), some (.int a4), some (.int a5), some (.int 8), some (.int a2)] rfl ?_
  refine aw_goto C 23 dX9_feed_117 (by decide) ?_
  refine aw_iload C dX9_feed_23 rfl ?_
  refine aw_bipush C 20 dX9_feed_25 kb_20 ?_
  refine aw_icmp_ge C 120 dX9_feed_27 (by decide) (fun q => absurd q (by decide)) (fun _ => ?_)
  refine aw_iload C dX9_feed_30 rfl ?_
  refine aw_iconst C 4 dX9_feed_32 ki_4 ?_
  refine aw_icmp_ge C 40 dX9_feed_33 (by decide) (fun _ => ?_) (fun q => absurd (by decide) q)
  refine aw_iload C dX9_feed_40 rfl ?_
  refine aw_bipush C 8 dX9_feed_42 kb_8 ?_
  refine aw_icmp_ge C 51 dX9_feed_44 (by decide) (fun _ => ?_) (fun q => absurd (by decide) q)
  refine aw_iload C dX9_feed_51 rfl ?_
  refine aw_bipush C 12 dX9_feed_53 kb_12 ?_
  refine aw_icmp_ge C 62 dX9_feed_55 (by decide) (fun q => absurd q (by decide)) (fun _ => ?_)
  refine aw_iload_n C dX9_feed_58 rfl ?_
  refine aw_goto C 76 dX9_feed_59 (by decide) ?_
  refine aw_istore C dX9_feed_76 (by decide) rfl ?_
  refine aw_nl [some (.ref 181), some (.int a1), some (.int a2), some (.int a3), some (.int a4), some (.int a5), some (.int 8), some (.int a3)] rfl ?_
  refine aw_ald_n C dX9_feed_78 rfl ?_
  refine aw_get C gf_X9_23 rfl rfl dX9_feed_79 ?_
  refine aw_ald_n C dX9_feed_82 rfl ?_
  refine aw_get C gf_X9_337 rfl rfl dX9_feed_83 ?_
  refine aw_iload C dX9_feed_86 rfl ?_
  refine aw_bipush C 24 dX9_feed_88 kb_24 ?_
  refine aw_bipush C 8 dX9_feed_90 kb_8 ?_
  refine aw_iload C dX9_feed_92 rfl ?_
  refine aw_iconst C 4 dX9_feed_94 ki_4 ?_
  refine ae_irem C 0 dX9_feed_95 (by decide) (by decide) ?_
  refine ae_imul C 0 dX9_feed_96 (by decide) ?_
  refine ae_isub C 24 dX9_feed_97 (by decide) ?_
  refine aw_iushr C dX9_feed_98 ?_
  refine aw_sipush C 255 dX9_feed_99 ks_255 ?_
  refine aw_iand C dX9_feed_102 ?_
  refine ao_iast C [(181, .inr (9, (.int 0 :: .ref 182 :: .ref 183 :: .ref 184 :: .ref 185 :: .int 0 :: .int 0 :: .int 0 :: .ref 186 :: .int 8 :: .int 0 :: .int 0 :: .int (-1) :: .ref 187 :: .ref 188 :: .ref 189 :: .int 0 :: .ref 190 :: .ref 191 :: .ref 192 :: .ref 193 :: .ref 194 :: .int 0 :: .ref 195 :: .ref 196 :: .ref 197 :: .int 0 :: .ref 198 :: .ref 199 :: .ref 200 :: .ref 201 :: .ref 202 :: .ref 203 :: .int 0 :: .ref 204 :: .ref 205 :: .ref 206 :: .ref 207 :: .ref 208 :: .ref 209 :: .ref 210 :: .ref 211 :: .ref 212 :: .ref 213 :: .ref 214 :: .int 0 :: .ref 215 :: .ref 216 :: .int 0 :: .ref 217 :: .ref 218 :: .ref 219 :: .ref 220 :: .ref 221 :: .int 0 :: .int 0 :: .int 0 :: .int 0 :: .ref 222 :: .int 0 :: []))), (186, .inl (0, 400, .inl (upd (upd (upd (upd (upd (upd (upd (upd (upd (fun _ => 0) 0 (((a1.toUInt32 >>> ((24 : Int32).toUInt32 &&& Int32.toUInt32 31)).toInt32) &&& 255)) 1 (((a1.toUInt32 >>> ((16 : Int32).toUInt32 &&& Int32.toUInt32 31)).toInt32) &&& 255)) 2 (((a1.toUInt32 >>> ((8 : Int32).toUInt32 &&& Int32.toUInt32 31)).toInt32) &&& 255)) 3 (((a1.toUInt32 >>> ((0 : Int32).toUInt32 &&& Int32.toUInt32 31)).toInt32) &&& 255)) 4 (((a2.toUInt32 >>> ((24 : Int32).toUInt32 &&& Int32.toUInt32 31)).toInt32) &&& 255)) 5 (((a2.toUInt32 >>> ((16 : Int32).toUInt32 &&& Int32.toUInt32 31)).toInt32) &&& 255)) 6 (((a2.toUInt32 >>> ((8 : Int32).toUInt32 &&& Int32.toUInt32 31)).toInt32) &&& 255)) 7 (((a2.toUInt32 >>> ((0 : Int32).toUInt32 &&& Int32.toUInt32 31)).toInt32) &&& 255)) 8 (((a3.toUInt32 >>> ((24 : Int32).toUInt32 &&& Int32.toUInt32 31)).toInt32) &&& 255))))] rfl (by unfold vp_in; decide) (by decide : _ = 8) dX9_feed_103 rfl ?_
  refine aw_ald_n C dX9_feed_104 rfl ?_
  refine aw_dup C dX9_feed_105 rfl ?_
  refine aw_get C gf_X9_337 rfl rfl dX9_feed_106 ?_
  refine aw_iconst C 1 dX9_feed_109 ki_1 ?_
  refine ae_iadd C 9 dX9_feed_110 (by decide) ?_
  refine ao_put C [(181, .inr (9, (.int 0 :: .ref 182 :: .ref 183 :: .ref 184 :: .ref 185 :: .int 0 :: .int 0 :: .int 0 :: .ref 186 :: .int 9 :: .int 0 :: .int 0 :: .int (-1) :: .ref 187 :: .ref 188 :: .ref 189 :: .int 0 :: .ref 190 :: .ref 191 :: .ref 192 :: .ref 193 :: .ref 194 :: .int 0 :: .ref 195 :: .ref 196 :: .ref 197 :: .int 0 :: .ref 198 :: .ref 199 :: .ref 200 :: .ref 201 :: .ref 202 :: .ref 203 :: .int 0 :: .ref 204 :: .ref 205 :: .ref 206 :: .ref 207 :: .ref 208 :: .ref 209 :: .ref 210 :: .ref 211 :: .ref 212 :: .ref 213 :: .ref 214 :: .int 0 :: .ref 215 :: .ref 216 :: .int 0 :: .ref 217 :: .ref 218 :: .ref 219 :: .ref 220 :: .ref 221 :: .int 0 :: .int 0 :: .int 0 :: .int 0 :: .ref 222 :: .int 0 :: []))), (186, .inl (0, 400, .inl (upd (upd (upd (upd (upd (upd (upd (upd (upd (fun _ => 0) 0 (((a1.toUInt32 >>> ((24 : Int32).toUInt32 &&& Int32.toUInt32 31)).toInt32) &&& 255)) 1 (((a1.toUInt32 >>> ((16 : Int32).toUInt32 &&& Int32.toUInt32 31)).toInt32) &&& 255)) 2 (((a1.toUInt32 >>> ((8 : Int32).toUInt32 &&& Int32.toUInt32 31)).toInt32) &&& 255)) 3 (((a1.toUInt32 >>> ((0 : Int32).toUInt32 &&& Int32.toUInt32 31)).toInt32) &&& 255)) 4 (((a2.toUInt32 >>> ((24 : Int32).toUInt32 &&& Int32.toUInt32 31)).toInt32) &&& 255)) 5 (((a2.toUInt32 >>> ((16 : Int32).toUInt32 &&& Int32.toUInt32 31)).toInt32) &&& 255)) 6 (((a2.toUInt32 >>> ((8 : Int32).toUInt32 &&& Int32.toUInt32 31)).toInt32) &&& 255)) 7 (((a2.toUInt32 >>> ((0 : Int32).toUInt32 &&& Int32.toUInt32 31)).toInt32) &&& 255)) 8 (((a3.toUInt32 >>> ((24 : Int32).toUInt32 &&& Int32.toUInt32 31)).toInt32) &&& 255))))] gf_X9_337 cf9 nf9_9 rfl (Nat.le_of_ble_eq_true rfl) rfl rfl dX9_feed_111 rfl ?_
  refine aw_iinc C 9 dX9_feed_114 rfl (by decide) (by decide) rfl ?_
  refine aw_nl [some (.ref 181), some (.int a1), some (.int a2), some (.int a3), some (.int a4), some (.int a5), some (.int 9), some (.int a3)] rfl ?_
  refine aw_goto C 23 dX9_feed_117 (by decide) ?_
  refine aw_iload C dX9_feed_23 rfl ?_
  refine aw_bipush C 20 dX9_feed_25 kb_20 ?_
  refine aw_icmp_ge C 120 dX9_feed_27 (by decide) (fun q => absurd q (by decide)) (fun _ => ?_)
  refine aw_iload C dX9_feed_30 rfl ?_
  refine aw_iconst C 4 dX9_feed_32 ki_4 ?_
  refine aw_icmp_ge C 40 dX9_feed_33 (by decide) (fun _ => ?_) (fun q => absurd (by decide) q)
  refine aw_iload C dX9_feed_40 rfl ?_
  refine aw_bipush C 8 dX9_feed_42 kb_8 ?_
  refine aw_icmp_ge C 51 dX9_feed_44 (by decide) (fun _ => ?_) (fun q => absurd (by decide) q)
  refine aw_iload C dX9_feed_51 rfl ?_
  refine aw_bipush C 12 dX9_feed_53 kb_12 ?_
  refine aw_icmp_ge C 62 dX9_feed_55 (by decide) (fun q => absurd q (by decide)) (fun _ => ?_)
  refine aw_iload_n C dX9_feed_58 rfl ?_
  refine aw_goto C 76 dX9_feed_59 (by decide) ?_
  refine aw_istore C dX9_feed_76 (by decide) rfl ?_
  refine aw_nl [some (.ref 181), some (.int a1), some (.int a2), some (.int a3), some (.int a4), some (.int a5), some (.int 9), some (.int a3)] rfl ?_
  refine aw_ald_n C dX9_feed_78 rfl ?_
  refine aw_get C gf_X9_23 rfl rfl dX9_feed_79 ?_
  refine aw_ald_n C dX9_feed_82 rfl ?_
  refine aw_get C gf_X9_337 rfl rfl dX9_feed_83 ?_
  refine aw_iload C dX9_feed_86 rfl ?_
  refine aw_bipush C 24 dX9_feed_88 kb_24 ?_
  refine aw_bipush C 8 dX9_feed_90 kb_8 ?_
  refine aw_iload C dX9_feed_92 rfl ?_
  refine aw_iconst C 4 dX9_feed_94 ki_4 ?_
  refine ae_irem C 1 dX9_feed_95 (by decide) (by decide) ?_
  refine ae_imul C 8 dX9_feed_96 (by decide) ?_
  refine ae_isub C 16 dX9_feed_97 (by decide) ?_
  refine aw_iushr C dX9_feed_98 ?_
  refine aw_sipush C 255 dX9_feed_99 ks_255 ?_
  refine aw_iand C dX9_feed_102 ?_
  refine ao_iast C [(181, .inr (9, (.int 0 :: .ref 182 :: .ref 183 :: .ref 184 :: .ref 185 :: .int 0 :: .int 0 :: .int 0 :: .ref 186 :: .int 9 :: .int 0 :: .int 0 :: .int (-1) :: .ref 187 :: .ref 188 :: .ref 189 :: .int 0 :: .ref 190 :: .ref 191 :: .ref 192 :: .ref 193 :: .ref 194 :: .int 0 :: .ref 195 :: .ref 196 :: .ref 197 :: .int 0 :: .ref 198 :: .ref 199 :: .ref 200 :: .ref 201 :: .ref 202 :: .ref 203 :: .int 0 :: .ref 204 :: .ref 205 :: .ref 206 :: .ref 207 :: .ref 208 :: .ref 209 :: .ref 210 :: .ref 211 :: .ref 212 :: .ref 213 :: .ref 214 :: .int 0 :: .ref 215 :: .ref 216 :: .int 0 :: .ref 217 :: .ref 218 :: .ref 219 :: .ref 220 :: .ref 221 :: .int 0 :: .int 0 :: .int 0 :: .int 0 :: .ref 222 :: .int 0 :: []))), (186, .inl (0, 400, .inl (upd (upd (upd (upd (upd (upd (upd (upd (upd (upd (fun _ => 0) 0 (((a1.toUInt32 >>> ((24 : Int32).toUInt32 &&& Int32.toUInt32 31)).toInt32) &&& 255)) 1 (((a1.toUInt32 >>> ((16 : Int32).toUInt32 &&& Int32.toUInt32 31)).toInt32) &&& 255)) 2 (((a1.toUInt32 >>> ((8 : Int32).toUInt32 &&& Int32.toUInt32 31)).toInt32) &&& 255)) 3 (((a1.toUInt32 >>> ((0 : Int32).toUInt32 &&& Int32.toUInt32 31)).toInt32) &&& 255)) 4 (((a2.toUInt32 >>> ((24 : Int32).toUInt32 &&& Int32.toUInt32 31)).toInt32) &&& 255)) 5 (((a2.toUInt32 >>> ((16 : Int32).toUInt32 &&& Int32.toUInt32 31)).toInt32) &&& 255)) 6 (((a2.toUInt32 >>> ((8 : Int32).toUInt32 &&& Int32.toUInt32 31)).toInt32) &&& 255)) 7 (((a2.toUInt32 >>> ((0 : Int32).toUInt32 &&& Int32.toUInt32 31)).toInt32) &&& 255)) 8 (((a3.toUInt32 >>> ((24 : Int32).toUInt32 &&& Int32.toUInt32 31)).toInt32) &&& 255)) 9 (((a3.toUInt32 >>> ((16 : Int32).toUInt32 &&& Int32.toUInt32 31)).toInt32) &&& 255))))] rfl (by unfold vp_in; decide) (by decide : _ = 9) dX9_feed_103 rfl ?_
  refine aw_ald_n C dX9_feed_104 rfl ?_
  refine aw_dup C dX9_feed_105 rfl ?_
  refine aw_get C gf_X9_337 rfl rfl dX9_feed_106 ?_
  refine aw_iconst C 1 dX9_feed_109 ki_1 ?_
  refine ae_iadd C 10 dX9_feed_110 (by decide) ?_
  refine ao_put C [(181, .inr (9, (.int 0 :: .ref 182 :: .ref 183 :: .ref 184 :: .ref 185 :: .int 0 :: .int 0 :: .int 0 :: .ref 186 :: .int 10 :: .int 0 :: .int 0 :: .int (-1) :: .ref 187 :: .ref 188 :: .ref 189 :: .int 0 :: .ref 190 :: .ref 191 :: .ref 192 :: .ref 193 :: .ref 194 :: .int 0 :: .ref 195 :: .ref 196 :: .ref 197 :: .int 0 :: .ref 198 :: .ref 199 :: .ref 200 :: .ref 201 :: .ref 202 :: .ref 203 :: .int 0 :: .ref 204 :: .ref 205 :: .ref 206 :: .ref 207 :: .ref 208 :: .ref 209 :: .ref 210 :: .ref 211 :: .ref 212 :: .ref 213 :: .ref 214 :: .int 0 :: .ref 215 :: .ref 216 :: .int 0 :: .ref 217 :: .ref 218 :: .ref 219 :: .ref 220 :: .ref 221 :: .int 0 :: .int 0 :: .int 0 :: .int 0 :: .ref 222 :: .int 0 :: []))), (186, .inl (0, 400, .inl (upd (upd (upd (upd (upd (upd (upd (upd (upd (upd (fun _ => 0) 0 (((a1.toUInt32 >>> ((24 : Int32).toUInt32 &&& Int32.toUInt32 31)).toInt32) &&& 255)) 1 (((a1.toUInt32 >>> ((16 : Int32).toUInt32 &&& Int32.toUInt32 31)).toInt32) &&& 255)) 2 (((a1.toUInt32 >>> ((8 : Int32).toUInt32 &&& Int32.toUInt32 31)).toInt32) &&& 255)) 3 (((a1.toUInt32 >>> ((0 : Int32).toUInt32 &&& Int32.toUInt32 31)).toInt32) &&& 255)) 4 (((a2.toUInt32 >>> ((24 : Int32).toUInt32 &&& Int32.toUInt32 31)).toInt32) &&& 255)) 5 (((a2.toUInt32 >>> ((16 : Int32).toUInt32 &&& Int32.toUInt32 31)).toInt32) &&& 255)) 6 (((a2.toUInt32 >>> ((8 : Int32).toUInt32 &&& Int32.toUInt32 31)).toInt32) &&& 255)) 7 (((a2.toUInt32 >>> ((0 : Int32).toUInt32 &&& Int32.toUInt32 31)).toInt32) &&& 255)) 8 (((a3.toUInt32 >>> ((24 : Int32).toUInt32 &&& Int32.toUInt32 31)).toInt32) &&& 255)) 9 (((a3.toUInt32 >>> ((16 : Int32).toUInt32 &&& Int32.toUInt32 31)).toInt32) &&& 255))))] gf_X9_337 cf9 nf9_9 rfl (Nat.le_of_ble_eq_true rfl) rfl rfl dX9_feed_111 rfl ?_
  refine aw_iinc C 10 dX9_feed_114 rfl (by decide) (by decide) rfl ?_
  refine aw_nl [some (.ref 181), some (.int a1), some (.int a2), some (.int a3), some (.int a4), some (.int a5), some (.int 10), some (.int a3)] rfl ?_
  refine aw_goto C 23 dX9_feed_117 (by decide) ?_
  refine aw_iload C dX9_feed_23 rfl ?_
  refine aw_bipush C 20 dX9_feed_25 kb_20 ?_
  refine aw_icmp_ge C 120 dX9_feed_27 (by decide) (fun q => absurd q (by decide)) (fun _ => ?_)
  refine aw_iload C dX9_feed_30 rfl ?_
  refine aw_iconst C 4 dX9_feed_32 ki_4 ?_
  refine aw_icmp_ge C 40 dX9_feed_33 (by decide) (fun _ => ?_) (fun q => absurd (by decide) q)
  refine aw_iload C dX9_feed_40 rfl ?_
  refine aw_bipush C 8 dX9_feed_42 kb_8 ?_
  refine aw_icmp_ge C 51 dX9_feed_44 (by decide) (fun _ => ?_) (fun q => absurd (by decide) q)
  refine aw_iload C dX9_feed_51 rfl ?_
  refine aw_bipush C 12 dX9_feed_53 kb_12 ?_
  refine aw_icmp_ge C 62 dX9_feed_55 (by decide) (fun q => absurd q (by decide)) (fun _ => ?_)
  refine aw_iload_n C dX9_feed_58 rfl ?_
  refine aw_goto C 76 dX9_feed_59 (by decide) ?_
  refine aw_istore C dX9_feed_76 (by decide) rfl ?_
  refine aw_nl [some (.ref 181), some (.int a1), some (.int a2), some (.int a3), some (.int a4), some (.int a5), some (.int 10), some (.int a3)] rfl ?_
  refine aw_ald_n C dX9_feed_78 rfl ?_
  refine aw_get C gf_X9_23 rfl rfl dX9_feed_79 ?_
  refine aw_ald_n C dX9_feed_82 rfl ?_
  refine aw_get C gf_X9_337 rfl rfl dX9_feed_83 ?_
  refine aw_iload C dX9_feed_86 rfl ?_
  refine aw_bipush C 24 dX9_feed_88 kb_24 ?_
  refine aw_bipush C 8 dX9_feed_90 kb_8 ?_
  refine aw_iload C dX9_feed_92 rfl ?_
  refine aw_iconst C 4 dX9_feed_94 ki_4 ?_
  refine ae_irem C 2 dX9_feed_95 (by decide) (by decide) ?_
  refine ae_imul C 16 dX9_feed_96 (by decide) ?_
  refine ae_isub C 8 dX9_feed_97 (by decide) ?_
  refine aw_iushr C dX9_feed_98 ?_
  refine aw_sipush C 255 dX9_feed_99 ks_255 ?_
  refine aw_iand C dX9_feed_102 ?_
  refine ao_iast C [(181, .inr (9, (.int 0 :: .ref 182 :: .ref 183 :: .ref 184 :: .ref 185 :: .int 0 :: .int 0 :: .int 0 :: .ref 186 :: .int 10 :: .int 0 :: .int 0 :: .int (-1) :: .ref 187 :: .ref 188 :: .ref 189 :: .int 0 :: .ref 190 :: .ref 191 :: .ref 192 :: .ref 193 :: .ref 194 :: .int 0 :: .ref 195 :: .ref 196 :: .ref 197 :: .int 0 :: .ref 198 :: .ref 199 :: .ref 200 :: .ref 201 :: .ref 202 :: .ref 203 :: .int 0 :: .ref 204 :: .ref 205 :: .ref 206 :: .ref 207 :: .ref 208 :: .ref 209 :: .ref 210 :: .ref 211 :: .ref 212 :: .ref 213 :: .ref 214 :: .int 0 :: .ref 215 :: .ref 216 :: .int 0 :: .ref 217 :: .ref 218 :: .ref 219 :: .ref 220 :: .ref 221 :: .int 0 :: .int 0 :: .int 0 :: .int 0 :: .ref 222 :: .int 0 :: []))), (186, .inl (0, 400, .inl (upd (upd (upd (upd (upd (upd (upd (upd (upd (upd (upd (fun _ => 0) 0 (((a1.toUInt32 >>> ((24 : Int32).toUInt32 &&& Int32.toUInt32 31)).toInt32) &&& 255)) 1 (((a1.toUInt32 >>> ((16 : Int32).toUInt32 &&& Int32.toUInt32 31)).toInt32) &&& 255)) 2 (((a1.toUInt32 >>> ((8 : Int32).toUInt32 &&& Int32.toUInt32 31)).toInt32) &&& 255)) 3 (((a1.toUInt32 >>> ((0 : Int32).toUInt32 &&& Int32.toUInt32 31)).toInt32) &&& 255)) 4 (((a2.toUInt32 >>> ((24 : Int32).toUInt32 &&& Int32.toUInt32 31)).toInt32) &&& 255)) 5 (((a2.toUInt32 >>> ((16 : Int32).toUInt32 &&& Int32.toUInt32 31)).toInt32) &&& 255)) 6 (((a2.toUInt32 >>> ((8 : Int32).toUInt32 &&& Int32.toUInt32 31)).toInt32) &&& 255)) 7 (((a2.toUInt32 >>> ((0 : Int32).toUInt32 &&& Int32.toUInt32 31)).toInt32) &&& 255)) 8 (((a3.toUInt32 >>> ((24 : Int32).toUInt32 &&& Int32.toUInt32 31)).toInt32) &&& 255)) 9 (((a3.toUInt32 >>> ((16 : Int32).toUInt32 &&& Int32.toUInt32 31)).toInt32) &&& 255)) 10 (((a3.toUInt32 >>> ((8 : Int32).toUInt32 &&& Int32.toUInt32 31)).toInt32) &&& 255))))] rfl (by unfold vp_in; decide) (by decide : _ = 10) dX9_feed_103 rfl ?_
  refine aw_ald_n C dX9_feed_104 rfl ?_
  refine aw_dup C dX9_feed_105 rfl ?_
  refine aw_get C gf_X9_337 rfl rfl dX9_feed_106 ?_
  refine aw_iconst C 1 dX9_feed_109 ki_1 ?_
  refine ae_iadd C 11 dX9_feed_110 (by decide) ?_
  refine ao_put C [(181, .inr (9, (.int 0 :: .ref 182 :: .ref 183 :: .ref 184 :: .ref 185 :: .int 0 :: .int 0 :: .int 0 :: .ref 186 :: .int 11 :: .int 0 :: .int 0 :: .int (-1) :: .ref 187 :: .ref 188 :: .ref 189 :: .int 0 :: .ref 190 :: .ref 191 :: .ref 192 :: .ref 193 :: .ref 194 :: .int 0 :: .ref 195 :: .ref 196 :: .ref 197 :: .int 0 :: .ref 198 :: .ref 199 :: .ref 200 :: .ref 201 :: .ref 202 :: .ref 203 :: .int 0 :: .ref 204 :: .ref 205 :: .ref 206 :: .ref 207 :: .ref 208 :: .ref 209 :: .ref 210 :: .ref 211 :: .ref 212 :: .ref 213 :: .ref 214 :: .int 0 :: .ref 215 :: .ref 216 :: .int 0 :: .ref 217 :: .ref 218 :: .ref 219 :: .ref 220 :: .ref 221 :: .int 0 :: .int 0 :: .int 0 :: .int 0 :: .ref 222 :: .int 0 :: []))), (186, .inl (0, 400, .inl (upd (upd (upd (upd (upd (upd (upd (upd (upd (upd (upd (fun _ => 0) 0 (((a1.toUInt32 >>> ((24 : Int32).toUInt32 &&& Int32.toUInt32 31)).toInt32) &&& 255)) 1 (((a1.toUInt32 >>> ((16 : Int32).toUInt32 &&& Int32.toUInt32 31)).toInt32) &&& 255)) 2 (((a1.toUInt32 >>> ((8 : Int32).toUInt32 &&& Int32.toUInt32 31)).toInt32) &&& 255)) 3 (((a1.toUInt32 >>> ((0 : Int32).toUInt32 &&& Int32.toUInt32 31)).toInt32) &&& 255)) 4 (((a2.toUInt32 >>> ((24 : Int32).toUInt32 &&& Int32.toUInt32 31)).toInt32) &&& 255)) 5 (((a2.toUInt32 >>> ((16 : Int32).toUInt32 &&& Int32.toUInt32 31)).toInt32) &&& 255)) 6 (((a2.toUInt32 >>> ((8 : Int32).toUInt32 &&& Int32.toUInt32 31)).toInt32) &&& 255)) 7 (((a2.toUInt32 >>> ((0 : Int32).toUInt32 &&& Int32.toUInt32 31)).toInt32) &&& 255)) 8 (((a3.toUInt32 >>> ((24 : Int32).toUInt32 &&& Int32.toUInt32 31)).toInt32) &&& 255)) 9 (((a3.toUInt32 >>> ((16 : Int32).toUInt32 &&& Int32.toUInt32 31)).toInt32) &&& 255)) 10 (((a3.toUInt32 >>> ((8 : Int32).toUInt32 &&& Int32.toUInt32 31)).toInt32) &&& 255))))] gf_X9_337 cf9 nf9_9 rfl (Nat.le_of_ble_eq_true rfl) rfl rfl dX9_feed_111 rfl ?_
  refine aw_iinc C 11 dX9_feed_114 rfl (by decide) (by decide) rfl ?_
  refine aw_nl [some (.ref 181), some (.int a1), some (.int a2), some (.int a3), some (.int a4), some (.int a5), some (.int 11), some (.int a3)] rfl ?_
  refine aw_goto C 23 dX9_feed_117 (by decide) ?_
  refine aw_iload C dX9_feed_23 rfl ?_
  refine aw_bipush C 20 dX9_feed_25 kb_20 ?_
  refine aw_icmp_ge C 120 dX9_feed_27 (by decide) (fun q => absurd q (by decide)) (fun _ => ?_)
  refine aw_iload C dX9_feed_30 rfl ?_
  refine aw_iconst C 4 dX9_feed_32 ki_4 ?_
  refine aw_icmp_ge C 40 dX9_feed_33 (by decide) (fun _ => ?_) (fun q => absurd (by decide) q)
  refine aw_iload C dX9_feed_40 rfl ?_
  refine aw_bipush C 8 dX9_feed_42 kb_8 ?_
  refine aw_icmp_ge C 51 dX9_feed_44 (by decide) (fun _ => ?_) (fun q => absurd (by decide) q)
  refine aw_iload C dX9_feed_51 rfl ?_
  refine aw_bipush C 12 dX9_feed_53 kb_12 ?_
  refine aw_icmp_ge C 62 dX9_feed_55 (by decide) (fun q => absurd q (by decide)) (fun _ => ?_)
  refine aw_iload_n C dX9_feed_58 rfl ?_
  refine aw_goto C 76 dX9_feed_59 (by decide) ?_
  refine aw_istore C dX9_feed_76 (by decide) rfl ?_
  refine aw_nl [some (.ref 181), some (.int a1), some (.int a2), some (.int a3), some (.int a4), some (.int a5), some (.int 11), some (.int a3)] rfl ?_
  refine aw_ald_n C dX9_feed_78 rfl ?_
  refine aw_get C gf_X9_23 rfl rfl dX9_feed_79 ?_
  refine aw_ald_n C dX9_feed_82 rfl ?_
  refine aw_get C gf_X9_337 rfl rfl dX9_feed_83 ?_
  refine aw_iload C dX9_feed_86 rfl ?_
  refine aw_bipush C 24 dX9_feed_88 kb_24 ?_
  refine aw_bipush C 8 dX9_feed_90 kb_8 ?_
  refine aw_iload C dX9_feed_92 rfl ?_
  refine aw_iconst C 4 dX9_feed_94 ki_4 ?_
  refine ae_irem C 3 dX9_feed_95 (by decide) (by decide) ?_
  refine ae_imul C 24 dX9_feed_96 (by decide) ?_
  refine ae_isub C 0 dX9_feed_97 (by decide) ?_
  refine aw_iushr C dX9_feed_98 ?_
  refine aw_sipush C 255 dX9_feed_99 ks_255 ?_
  refine aw_iand C dX9_feed_102 ?_
  refine ao_iast C [(181, .inr (9, (.int 0 :: .ref 182 :: .ref 183 :: .ref 184 :: .ref 185 :: .int 0 :: .int 0 :: .int 0 :: .ref 186 :: .int 11 :: .int 0 :: .int 0 :: .int (-1) :: .ref 187 :: .ref 188 :: .ref 189 :: .int 0 :: .ref 190 :: .ref 191 :: .ref 192 :: .ref 193 :: .ref 194 :: .int 0 :: .ref 195 :: .ref 196 :: .ref 197 :: .int 0 :: .ref 198 :: .ref 199 :: .ref 200 :: .ref 201 :: .ref 202 :: .ref 203 :: .int 0 :: .ref 204 :: .ref 205 :: .ref 206 :: .ref 207 :: .ref 208 :: .ref 209 :: .ref 210 :: .ref 211 :: .ref 212 :: .ref 213 :: .ref 214 :: .int 0 :: .ref 215 :: .ref 216 :: .int 0 :: .ref 217 :: .ref 218 :: .ref 219 :: .ref 220 :: .ref 221 :: .int 0 :: .int 0 :: .int 0 :: .int 0 :: .ref 222 :: .int 0 :: []))), (186, .inl (0, 400, .inl (upd (upd (upd (upd (upd (upd (upd (upd (upd (upd (upd (upd (fun _ => 0) 0 (((a1.toUInt32 >>> ((24 : Int32).toUInt32 &&& Int32.toUInt32 31)).toInt32) &&& 255)) 1 (((a1.toUInt32 >>> ((16 : Int32).toUInt32 &&& Int32.toUInt32 31)).toInt32) &&& 255)) 2 (((a1.toUInt32 >>> ((8 : Int32).toUInt32 &&& Int32.toUInt32 31)).toInt32) &&& 255)) 3 (((a1.toUInt32 >>> ((0 : Int32).toUInt32 &&& Int32.toUInt32 31)).toInt32) &&& 255)) 4 (((a2.toUInt32 >>> ((24 : Int32).toUInt32 &&& Int32.toUInt32 31)).toInt32) &&& 255)) 5 (((a2.toUInt32 >>> ((16 : Int32).toUInt32 &&& Int32.toUInt32 31)).toInt32) &&& 255)) 6 (((a2.toUInt32 >>> ((8 : Int32).toUInt32 &&& Int32.toUInt32 31)).toInt32) &&& 255)) 7 (((a2.toUInt32 >>> ((0 : Int32).toUInt32 &&& Int32.toUInt32 31)).toInt32) &&& 255)) 8 (((a3.toUInt32 >>> ((24 : Int32).toUInt32 &&& Int32.toUInt32 31)).toInt32) &&& 255)) 9 (((a3.toUInt32 >>> ((16 : Int32).toUInt32 &&& Int32.toUInt32 31)).toInt32) &&& 255)) 10 (((a3.toUInt32 >>> ((8 : Int32).toUInt32 &&& Int32.toUInt32 31)).toInt32) &&& 255)) 11 (((a3.toUInt32 >>> ((0 : Int32).toUInt32 &&& Int32.toUInt32 31)).toInt32) &&& 255))))] rfl (by unfold vp_in; decide) (by decide : _ = 11) dX9_feed_103 rfl ?_
  refine aw_ald_n C dX9_feed_104 rfl ?_
  refine aw_dup C dX9_feed_105 rfl ?_
  refine aw_get C gf_X9_337 rfl rfl dX9_feed_106 ?_
  refine aw_iconst C 1 dX9_feed_109 ki_1 ?_
  refine ae_iadd C 12 dX9_feed_110 (by decide) ?_
  refine ao_put C [(181, .inr (9, (.int 0 :: .ref 182 :: .ref 183 :: .ref 184 :: .ref 185 :: .int 0 :: .int 0 :: .int 0 :: .ref 186 :: .int 12 :: .int 0 :: .int 0 :: .int (-1) :: .ref 187 :: .ref 188 :: .ref 189 :: .int 0 :: .ref 190 :: .ref 191 :: .ref 192 :: .ref 193 :: .ref 194 :: .int 0 :: .ref 195 :: .ref 196 :: .ref 197 :: .int 0 :: .ref 198 :: .ref 199 :: .ref 200 :: .ref 201 :: .ref 202 :: .ref 203 :: .int 0 :: .ref 204 :: .ref 205 :: .ref 206 :: .ref 207 :: .ref 208 :: .ref 209 :: .ref 210 :: .ref 211 :: .ref 212 :: .ref 213 :: .ref 214 :: .int 0 :: .ref 215 :: .ref 216 :: .int 0 :: .ref 217 :: .ref 218 :: .ref 219 :: .ref 220 :: .ref 221 :: .int 0 :: .int 0 :: .int 0 :: .int 0 :: .ref 222 :: .int 0 :: []))), (186, .inl (0, 400, .inl (upd (upd (upd (upd (upd (upd (upd (upd (upd (upd (upd (upd (fun _ => 0) 0 (((a1.toUInt32 >>> ((24 : Int32).toUInt32 &&& Int32.toUInt32 31)).toInt32) &&& 255)) 1 (((a1.toUInt32 >>> ((16 : Int32).toUInt32 &&& Int32.toUInt32 31)).toInt32) &&& 255)) 2 (((a1.toUInt32 >>> ((8 : Int32).toUInt32 &&& Int32.toUInt32 31)).toInt32) &&& 255)) 3 (((a1.toUInt32 >>> ((0 : Int32).toUInt32 &&& Int32.toUInt32 31)).toInt32) &&& 255)) 4 (((a2.toUInt32 >>> ((24 : Int32).toUInt32 &&& Int32.toUInt32 31)).toInt32) &&& 255)) 5 (((a2.toUInt32 >>> ((16 : Int32).toUInt32 &&& Int32.toUInt32 31)).toInt32) &&& 255)) 6 (((a2.toUInt32 >>> ((8 : Int32).toUInt32 &&& Int32.toUInt32 31)).toInt32) &&& 255)) 7 (((a2.toUInt32 >>> ((0 : Int32).toUInt32 &&& Int32.toUInt32 31)).toInt32) &&& 255)) 8 (((a3.toUInt32 >>> ((24 : Int32).toUInt32 &&& Int32.toUInt32 31)).toInt32) &&& 255)) 9 (((a3.toUInt32 >>> ((16 : Int32).toUInt32 &&& Int32.toUInt32 31)).toInt32) &&& 255)) 10 (((a3.toUInt32 >>> ((8 : Int32).toUInt32 &&& Int32.toUInt32 31)).toInt32) &&& 255)) 11 (((a3.toUInt32 >>> ((0 : Int32).toUInt32 &&& Int32.toUInt32 31)).toInt32) &&& 255))))] gf_X9_337 cf9 nf9_9 rfl (Nat.le_of_ble_eq_true rfl) rfl rfl dX9_feed_111 rfl ?_
  refine aw_iinc C 12 dX9_feed_114 rfl (by decide) (by decide) rfl ?_
  refine aw_nl [some (.ref 181), some (.int a1), some (.int a2), some (.int a3), some (.int a4), some (.int a5), some (.int 12), some (.int a3)] rfl ?_
  refine aw_goto C 23 dX9_feed_117 (by decide) ?_
  refine aw_iload C dX9_feed_23 rfl ?_
  refine aw_bipush C 20 dX9_feed_25 kb_20 ?_
  refine aw_icmp_ge C 120 dX9_feed_27 (by decide) (fun q => absurd q (by decide)) (fun _ => ?_)
  refine aw_iload C dX9_feed_30 rfl ?_
  refine aw_iconst C 4 dX9_feed_32 ki_4 ?_
  refine aw_icmp_ge C 40 dX9_feed_33 (by decide) (fun _ => ?_) (fun q => absurd (by decide) q)
  refine aw_iload C dX9_feed_40 rfl ?_
  refine aw_bipush C 8 dX9_feed_42 kb_8 ?_
  refine aw_icmp_ge C 51 dX9_feed_44 (by decide) (fun _ => ?_) (fun q => absurd (by decide) q)
  refine aw_iload C dX9_feed_51 rfl ?_
  refine aw_bipush C 12 dX9_feed_53 kb_12 ?_
  refine aw_icmp_ge C 62 dX9_feed_55 (by decide) (fun _ => ?_) (fun q => absurd (by decide) q)
  refine aw_iload C dX9_feed_62 rfl ?_
  refine aw_bipush C 16 dX9_feed_64 kb_16 ?_
  refine aw_icmp_ge C 74 dX9_feed_66 (by decide) (fun q => absurd q (by decide)) (fun _ => ?_)
  refine aw_iload C dX9_feed_69 rfl ?_
  refine aw_goto C 76 dX9_feed_71 (by decide) ?_
  refine aw_istore C dX9_feed_76 (by decide) rfl ?_
  refine aw_nl [some (.ref 181), some (.int a1), some (.int a2), some (.int a3), some (.int a4), some (.int a5), some (.int 12), some (.int a4)] rfl ?_
  refine aw_ald_n C dX9_feed_78 rfl ?_
  refine aw_get C gf_X9_23 rfl rfl dX9_feed_79 ?_
  refine aw_ald_n C dX9_feed_82 rfl ?_
  refine aw_get C gf_X9_337 rfl rfl dX9_feed_83 ?_
  refine aw_iload C dX9_feed_86 rfl ?_
  refine aw_bipush C 24 dX9_feed_88 kb_24 ?_
  refine aw_bipush C 8 dX9_feed_90 kb_8 ?_
  refine aw_iload C dX9_feed_92 rfl ?_
  refine aw_iconst C 4 dX9_feed_94 ki_4 ?_
  refine ae_irem C 0 dX9_feed_95 (by decide) (by decide) ?_
  refine ae_imul C 0 dX9_feed_96 (by decide) ?_
  refine ae_isub C 24 dX9_feed_97 (by decide) ?_
  refine aw_iushr C dX9_feed_98 ?_
  refine aw_sipush C 255 dX9_feed_99 ks_255 ?_
  refine aw_iand C dX9_feed_102 ?_
  refine ao_iast C [(181, .inr (9, (.int 0 :: .ref 182 :: .ref 183 :: .ref 184 :: .ref 185 :: .int 0 :: .int 0 :: .int 0 :: .ref 186 :: .int 12 :: .int 0 :: .int 0 :: .int (-1) :: .ref 187 :: .ref 188 :: .ref 189 :: .int 0 :: .ref 190 :: .ref 191 :: .ref 192 :: .ref 193 :: .ref 194 :: .int 0 :: .ref 195 :: .ref 196 :: .ref 197 :: .int 0 :: .ref 198 :: .ref 199 :: .ref 200 :: .ref 201 :: .ref 202 :: .ref 203 :: .int 0 :: .ref 204 :: .ref 205 :: .ref 206 :: .ref 207 :: .ref 208 :: .ref 209 :: .ref 210 :: .ref 211 :: .ref 212 :: .ref 213 :: .ref 214 :: .int 0 :: .ref 215 :: .ref 216 :: .int 0 :: .ref 217 :: .ref 218 :: .ref 219 :: .ref 220 :: .ref 221 :: .int 0 :: .int 0 :: .int 0 :: .int 0 :: .ref 222 :: .int 0 :: []))), (186, .inl (0, 400, .inl (upd (upd (upd (upd (upd (upd (upd (upd (upd (upd (upd (upd (upd (fun _ => 0) 0 (((a1.toUInt32 >>> ((24 : Int32).toUInt32 &&& Int32.toUInt32 31)).toInt32) &&& 255)) 1 (((a1.toUInt32 >>> ((16 : Int32).toUInt32 &&& Int32.toUInt32 31)).toInt32) &&& 255)) 2 (((a1.toUInt32 >>> ((8 : Int32).toUInt32 &&& Int32.toUInt32 31)).toInt32) &&& 255)) 3 (((a1.toUInt32 >>> ((0 : Int32).toUInt32 &&& Int32.toUInt32 31)).toInt32) &&& 255)) 4 (((a2.toUInt32 >>> ((24 : Int32).toUInt32 &&& Int32.toUInt32 31)).toInt32) &&& 255)) 5 (((a2.toUInt32 >>> ((16 : Int32).toUInt32 &&& Int32.toUInt32 31)).toInt32) &&& 255)) 6 (((a2.toUInt32 >>> ((8 : Int32).toUInt32 &&& Int32.toUInt32 31)).toInt32) &&& 255)) 7 (((a2.toUInt32 >>> ((0 : Int32).toUInt32 &&& Int32.toUInt32 31)).toInt32) &&& 255)) 8 (((a3.toUInt32 >>> ((24 : Int32).toUInt32 &&& Int32.toUInt32 31)).toInt32) &&& 255)) 9 (((a3.toUInt32 >>> ((16 : Int32).toUInt32 &&& Int32.toUInt32 31)).toInt32) &&& 255)) 10 (((a3.toUInt32 >>> ((8 : Int32).toUInt32 &&& Int32.toUInt32 31)).toInt32) &&& 255)) 11 (((a3.toUInt32 >>> ((0 : Int32).toUInt32 &&& Int32.toUInt32 31)).toInt32) &&& 255)) 12 (((a4.toUInt32 >>> ((24 : Int32).toUInt32 &&& Int32.toUInt32 31)).toInt32) &&& 255))))] rfl (by unfold vp_in; decide) (by decide : _ = 12) dX9_feed_103 rfl ?_
  refine aw_ald_n C dX9_feed_104 rfl ?_
  refine aw_dup C dX9_feed_105 rfl ?_
  refine aw_get C gf_X9_337 rfl rfl dX9_feed_106 ?_
  refine aw_iconst C 1 dX9_feed_109 ki_1 ?_
  refine ae_iadd C 13 dX9_feed_110 (by decide) ?_
  refine ao_put C [(181, .inr (9, (.int 0 :: .ref 182 :: .ref 183 :: .ref 184 :: .ref 185 :: .int 0 :: .int 0 :: .int 0 :: .ref 186 :: .int 13 :: .int 0 :: .int 0 :: .int (-1) :: .ref 187 :: .ref 188 :: .ref 189 :: .int 0 :: .ref 190 :: .ref 191 :: .ref 192 :: .ref 193 :: .ref 194 :: .int 0 :: .ref 195 :: .ref 196 :: .ref 197 :: .int 0 :: .ref 198 :: .ref 199 :: .ref 200 :: .ref 201 :: .ref 202 :: .ref 203 :: .int 0 :: .ref 204 :: .ref 205 :: .ref 206 :: .ref 207 :: .ref 208 :: .ref 209 :: .ref 210 :: .ref 211 :: .ref 212 :: .ref 213 :: .ref 214 :: .int 0 :: .ref 215 :: .ref 216 :: .int 0 :: .ref 217 :: .ref 218 :: .ref 219 :: .ref 220 :: .ref 221 :: .int 0 :: .int 0 :: .int 0 :: .int 0 :: .ref 222 :: .int 0 :: []))), (186, .inl (0, 400, .inl (upd (upd (upd (upd (upd (upd (upd (upd (upd (upd (upd (upd (upd (fun _ => 0) 0 (((a1.toUInt32 >>> ((24 : Int32).toUInt32 &&& Int32.toUInt32 31)).toInt32) &&& 255)) 1 (((a1.toUInt32 >>> ((16 : Int32).toUInt32 &&& Int32.toUInt32 31)).toInt32) &&& 255)) 2 (((a1.toUInt32 >>> ((8 : Int32).toUInt32 &&& Int32.toUInt32 31)).toInt32) &&& 255)) 3 (((a1.toUInt32 >>> ((0 : Int32).toUInt32 &&& Int32.toUInt32 31)).toInt32) &&& 255)) 4 (((a2.toUInt32 >>> ((24 : Int32).toUInt32 &&& Int32.toUInt32 31)).toInt32) &&& 255)) 5 (((a2.toUInt32 >>> ((16 : Int32).toUInt32 &&& Int32.toUInt32 31)).toInt32) &&& 255)) 6 (((a2.toUInt32 >>> ((8 : Int32).toUInt32 &&& Int32.toUInt32 31)).toInt32) &&& 255)) 7 (((a2.toUInt32 >>> ((0 : Int32).toUInt32 &&& Int32.toUInt32 31)).toInt32) &&& 255)) 8 (((a3.toUInt32 >>> ((24 : Int32).toUInt32 &&& Int32.toUInt32 31)).toInt32) &&& 255)) 9 (((a3.toUInt32 >>> ((16 : Int32).toUInt32 &&& Int32.toUInt32 31)).toInt32) &&& 255)) 10 (((a3.toUInt32 >>> ((8 : Int32).toUInt32 &&& Int32.toUInt32 31)).toInt32) &&& 255)) 11 (((a3.toUInt32 >>> ((0 : Int32).toUInt32 &&& Int32.toUInt32 31)).toInt32) &&& 255)) 12 (((a4.toUInt32 >>> ((24 : Int32).toUInt32 &&& Int32.toUInt32 31)).toInt32) &&& 255))))] gf_X9_337 cf9 nf9_9 rfl (Nat.le_of_ble_eq_true rfl) rfl rfl dX9_feed_111 rfl ?_
  refine aw_iinc C 13 dX9_feed_114 rfl (by decide) (by decide) rfl ?_
  refine aw_nl [some (.ref 181), some (.int a1), some (.int a2), some (.int a3), some (.int a4), some (.int a5), some (.int 13), some (.int a4)] rfl ?_
  refine aw_goto C 23 dX9_feed_117 (by decide) ?_
  refine aw_iload C dX9_feed_23 rfl ?_
  refine aw_bipush C 20 dX9_feed_25 kb_20 ?_
  refine aw_icmp_ge C 120 dX9_feed_27 (by decide) (fun q => absurd q (by decide)) (fun _ => ?_)
  refine aw_iload C dX9_feed_30 rfl ?_
  refine aw_iconst C 4 dX9_feed_32 ki_4 ?_
  refine aw_icmp_ge C 40 dX9_feed_33 (by decide) (fun _ => ?_) (fun q => absurd (by decide) q)
  refine aw_iload C dX9_feed_40 rfl ?_
  refine aw_bipush C 8 dX9_feed_42 kb_8 ?_
  refine aw_icmp_ge C 51 dX9_feed_44 (by decide) (fun _ => ?_) (fun q => absurd (by decide) q)
  refine aw_iload C dX9_feed_51 rfl ?_
  refine aw_bipush C 12 dX9_feed_53 kb_12 ?_
  refine aw_icmp_ge C 62 dX9_feed_55 (by decide) (fun _ => ?_) (fun q => absurd (by decide) q)
  refine aw_iload C dX9_feed_62 rfl ?_
  refine aw_bipush C 16 dX9_feed_64 kb_16 ?_
  refine aw_icmp_ge C 74 dX9_feed_66 (by decide) (fun q => absurd q (by decide)) (fun _ => ?_)
  refine aw_iload C dX9_feed_69 rfl ?_
  refine aw_goto C 76 dX9_feed_71 (by decide) ?_
  refine aw_istore C dX9_feed_76 (by decide) rfl ?_
  refine aw_nl [some (.ref 181), some (.int a1), some (.int a2), some (.int a3), some (.int a4), some (.int a5), some (.int 13), some (.int a4)] rfl ?_
  refine aw_ald_n C dX9_feed_78 rfl ?_
  refine aw_get C gf_X9_23 rfl rfl dX9_feed_79 ?_
  refine aw_ald_n C dX9_feed_82 rfl ?_
  refine aw_get C gf_X9_337 rfl rfl dX9_feed_83 ?_
  refine aw_iload C dX9_feed_86 rfl ?_
  refine aw_bipush C 24 dX9_feed_88 kb_24 ?_
  refine aw_bipush C 8 dX9_feed_90 kb_8 ?_
  refine aw_iload C dX9_feed_92 rfl ?_
  refine aw_iconst C 4 dX9_feed_94 ki_4 ?_
  refine ae_irem C 1 dX9_feed_95 (by decide) (by decide) ?_
  refine ae_imul C 8 dX9_feed_96 (by decide) ?_
  refine ae_isub C 16 dX9_feed_97 (by decide) ?_
  refine aw_iushr C dX9_feed_98 ?_
  refine aw_sipush C 255 dX9_feed_99 ks_255 ?_
  refine aw_iand C dX9_feed_102 ?_
  refine ao_iast C [(181, .inr (9, (.int 0 :: .ref 182 :: .ref 183 :: .ref 184 :: .ref 185 :: .int 0 :: .int 0 :: .int 0 :: .ref 186 :: .int 13 :: .int 0 :: .int 0 :: .int (-1) :: .ref 187 :: .ref 188 :: .ref 189 :: .int 0 :: .ref 190 :: .ref 191 :: .ref 192 :: .ref 193 :: .ref 194 :: .int 0 :: .ref 195 :: .ref 196 :: .ref 197 :: .int 0 :: .ref 198 :: .ref 199 :: .ref 200 :: .ref 201 :: .ref 202 :: .ref 203 :: .int 0 :: .ref 204 :: .ref 205 :: .ref 206 :: .ref 207 :: .ref 208 :: .ref 209 :: .ref 210 :: .ref 211 :: .ref 212 :: .ref 213 :: .ref 214 :: .int 0 :: .ref 215 :: .ref 216 :: .int 0 :: .ref 217 :: .ref 218 :: .ref 219 :: .ref 220 :: .ref 221 :: .int 0 :: .int 0 :: .int 0 :: .int 0 :: .ref 222 :: .int 0 :: []))), (186, .inl (0, 400, .inl (upd (upd (upd (upd (upd (upd (upd (upd (upd (upd (upd (upd (upd (upd (fun _ => 0) 0 (((a1.toUInt32 >>> ((24 : Int32).toUInt32 &&& Int32.toUInt32 31)).toInt32) &&& 255)) 1 (((a1.toUInt32 >>> ((16 : Int32).toUInt32 &&& Int32.toUInt32 31)).toInt32) &&& 255)) 2 (((a1.toUInt32 >>> ((8 : Int32).toUInt32 &&& Int32.toUInt32 31)).toInt32) &&& 255)) 3 (((a1.toUInt32 >>> ((0 : Int32).toUInt32 &&& Int32.toUInt32 31)).toInt32) &&& 255)) 4 (((a2.toUInt32 >>> ((24 : Int32).toUInt32 &&& Int32.toUInt32 31)).toInt32) &&& 255)) 5 (((a2.toUInt32 >>> ((16 : Int32).toUInt32 &&& Int32.toUInt32 31)).toInt32) &&& 255)) 6 (((a2.toUInt32 >>> ((8 : Int32).toUInt32 &&& Int32.toUInt32 31)).toInt32) &&& 255)) 7 (((a2.toUInt32 >>> ((0 : Int32).toUInt32 &&& Int32.toUInt32 31)).toInt32) &&& 255)) 8 (((a3.toUInt32 >>> ((24 : Int32).toUInt32 &&& Int32.toUInt32 31)).toInt32) &&& 255)) 9 (((a3.toUInt32 >>> ((16 : Int32).toUInt32 &&& Int32.toUInt32 31)).toInt32) &&& 255)) 10 (((a3.toUInt32 >>> ((8 : Int32).toUInt32 &&& Int32.toUInt32 31)).toInt32) &&& 255)) 11 (((a3.toUInt32 >>> ((0 : Int32).toUInt32 &&& Int32.toUInt32 31)).toInt32) &&& 255)) 12 (((a4.toUInt32 >>> ((24 : Int32).toUInt32 &&& Int32.toUInt32 31)).toInt32) &&& 255)) 13 (((a4.toUInt32 >>> ((16 : Int32).toUInt32 &&& Int32.toUInt32 31)).toInt32) &&& 255))))] rfl (by unfold vp_in; decide) (by decide : _ = 13) dX9_feed_103 rfl ?_
  refine aw_ald_n C dX9_feed_104 rfl ?_
  refine aw_dup C dX9_feed_105 rfl ?_
  refine aw_get C gf_X9_337 rfl rfl dX9_feed_106 ?_
  refine aw_iconst C 1 dX9_feed_109 ki_1 ?_
  refine ae_iadd C 14 dX9_feed_110 (by decide) ?_
  refine ao_put C [(181, .inr (9, (.int 0 :: .ref 182 :: .ref 183 :: .ref 184 :: .ref 185 :: .int 0 :: .int 0 :: .int 0 :: .ref 186 :: .int 14 :: .int 0 :: .int 0 :: .int (-1) :: .ref 187 :: .ref 188 :: .ref 189 :: .int 0 :: .ref 190 :: .ref 191 :: .ref 192 :: .ref 193 :: .ref 194 :: .int 0 :: .ref 195 :: .ref 196 :: .ref 197 :: .int 0 :: .ref 198 :: .ref 199 :: .ref 200 :: .ref 201 :: .ref 202 :: .ref 203 :: .int 0 :: .ref 204 :: .ref 205 :: .ref 206 :: .ref 207 :: .ref 208 :: .ref 209 :: .ref 210 :: .ref 211 :: .ref 212 :: .ref 213 :: .ref 214 :: .int 0 :: .ref 215 :: .ref 216 :: .int 0 :: .ref 217 :: .ref 218 :: .ref 219 :: .ref 220 :: .ref 221 :: .int 0 :: .int 0 :: .int 0 :: .int 0 :: .ref 222 :: .int 0 :: []))), (186, .inl (0, 400, .inl (upd (upd (upd (upd (upd (upd (upd (upd (upd (upd (upd (upd (upd (upd (fun _ => 0) 0 (((a1.toUInt32 >>> ((24 : Int32).toUInt32 &&& Int32.toUInt32 31)).toInt32) &&& 255)) 1 (((a1.toUInt32 >>> ((16 : Int32).toUInt32 &&& Int32.toUInt32 31)).toInt32) &&& 255)) 2 (((a1.toUInt32 >>> ((8 : Int32).toUInt32 &&& Int32.toUInt32 31)).toInt32) &&& 255)) 3 (((a1.toUInt32 >>> ((0 : Int32).toUInt32 &&& Int32.toUInt32 31)).toInt32) &&& 255)) 4 (((a2.toUInt32 >>> ((24 : Int32).toUInt32 &&& Int32.toUInt32 31)).toInt32) &&& 255)) 5 (((a2.toUInt32 >>> ((16 : Int32).toUInt32 &&& Int32.toUInt32 31)).toInt32) &&& 255)) 6 (((a2.toUInt32 >>> ((8 : Int32).toUInt32 &&& Int32.toUInt32 31)).toInt32) &&& 255)) 7 (((a2.toUInt32 >>> ((0 : Int32).toUInt32 &&& Int32.toUInt32 31)).toInt32) &&& 255)) 8 (((a3.toUInt32 >>> ((24 : Int32).toUInt32 &&& Int32.toUInt32 31)).toInt32) &&& 255)) 9 (((a3.toUInt32 >>> ((16 : Int32).toUInt32 &&& Int32.toUInt32 31)).toInt32) &&& 255)) 10 (((a3.toUInt32 >>> ((8 : Int32).toUInt32 &&& Int32.toUInt32 31)).toInt32) &&& 255)) 11 (((a3.toUInt32 >>> ((0 : Int32).toUInt32 &&& Int32.toUInt32 31)).toInt32) &&& 255)) 12 (((a4.toUInt32 >>> ((24 : Int32).toUInt32 &&& Int32.toUInt32 31)).toInt32) &&& 255)) 13 (((a4.toUInt32 >>> ((16 : Int32).toUInt32 &&& Int32.toUInt32 31)).toInt32) &&& 255))))] gf_X9_337 cf9 nf9_9 rfl (Nat.le_of_ble_eq_true rfl) rfl rfl dX9_feed_111 rfl ?_
  refine aw_iinc C 14 dX9_feed_114 rfl (by decide) (by decide) rfl ?_
  refine aw_nl [some (.ref 181), some (.int a1), some (.int a2), some (.int a3), some (.int a4), some (.int a5), some (.int 14), some (.int a4)] rfl ?_
  refine aw_goto C 23 dX9_feed_117 (by decide) ?_
  refine aw_iload C dX9_feed_23 rfl ?_
  refine aw_bipush C 20 dX9_feed_25 kb_20 ?_
  refine aw_icmp_ge C 120 dX9_feed_27 (by decide) (fun q => absurd q (by decide)) (fun _ => ?_)
  refine aw_iload C dX9_feed_30 rfl ?_
  refine aw_iconst C 4 dX9_feed_32 ki_4 ?_
  refine aw_icmp_ge C 40 dX9_feed_33 (by decide) (fun _ => ?_) (fun q => absurd (by decide) q)
  refine aw_iload C dX9_feed_40 rfl ?_
  refine aw_bipush C 8 dX9_feed_42 kb_8 ?_
  refine aw_icmp_ge C 51 dX9_feed_44 (by decide) (fun _ => ?_) (fun q => absurd (by decide) q)
  refine aw_iload C dX9_feed_51 rfl ?_
  refine aw_bipush C 12 dX9_feed_53 kb_12 ?_
  refine aw_icmp_ge C 62 dX9_feed_55 (by decide) (fun _ => ?_) (fun q => absurd (by decide) q)
  refine aw_iload C dX9_feed_62 rfl ?_
  refine aw_bipush C 16 dX9_feed_64 kb_16 ?_
  refine aw_icmp_ge C 74 dX9_feed_66 (by decide) (fun q => absurd q (by decide)) (fun _ => ?_)
  refine aw_iload C dX9_feed_69 rfl ?_
  refine aw_goto C 76 dX9_feed_71 (by decide) ?_
  refine aw_istore C dX9_feed_76 (by decide) rfl ?_
  refine aw_nl [some (.ref 181), some (.int a1), some (.int a2), some (.int a3), some (.int a4), some (.int a5), some (.int 14), some (.int a4)] rfl ?_
  refine aw_ald_n C dX9_feed_78 rfl ?_
  refine aw_get C gf_X9_23 rfl rfl dX9_feed_79 ?_
  refine aw_ald_n C dX9_feed_82 rfl ?_
  refine aw_get C gf_X9_337 rfl rfl dX9_feed_83 ?_
  refine aw_iload C dX9_feed_86 rfl ?_
  refine aw_bipush C 24 dX9_feed_88 kb_24 ?_
  refine aw_bipush C 8 dX9_feed_90 kb_8 ?_
  refine aw_iload C dX9_feed_92 rfl ?_
  refine aw_iconst C 4 dX9_feed_94 ki_4 ?_
  refine ae_irem C 2 dX9_feed_95 (by decide) (by decide) ?_
  refine ae_imul C 16 dX9_feed_96 (by decide) ?_
  refine ae_isub C 8 dX9_feed_97 (by decide) ?_
  refine aw_iushr C dX9_feed_98 ?_
  refine aw_sipush C 255 dX9_feed_99 ks_255 ?_
  refine aw_iand C dX9_feed_102 ?_
  refine ao_iast C [(181, .inr (9, (.int 0 :: .ref 182 :: .ref 183 :: .ref 184 :: .ref 185 :: .int 0 :: .int 0 :: .int 0 :: .ref 186 :: .int 14 :: .int 0 :: .int 0 :: .int (-1) :: .ref 187 :: .ref 188 :: .ref 189 :: .int 0 :: .ref 190 :: .ref 191 :: .ref 192 :: .ref 193 :: .ref 194 :: .int 0 :: .ref 195 :: .ref 196 :: .ref 197 :: .int 0 :: .ref 198 :: .ref 199 :: .ref 200 :: .ref 201 :: .ref 202 :: .ref 203 :: .int 0 :: .ref 204 :: .ref 205 :: .ref 206 :: .ref 207 :: .ref 208 :: .ref 209 :: .ref 210 :: .ref 211 :: .ref 212 :: .ref 213 :: .ref 214 :: .int 0 :: .ref 215 :: .ref 216 :: .int 0 :: .ref 217 :: .ref 218 :: .ref 219 :: .ref 220 :: .ref 221 :: .int 0 :: .int 0 :: .int 0 :: .int 0 :: .ref 222 :: .int 0 :: []))), (186, .inl (0, 400, .inl (upd (upd (upd (upd (upd (upd (upd (upd (upd (upd (upd (upd (upd (upd (upd (fun _ => 0) 0 (((a1.toUInt32 >>> ((24 : Int32).toUInt32 &&& Int32.toUInt32 31)).toInt32) &&& 255)) 1 (((a1.toUInt32 >>> ((16 : Int32).toUInt32 &&& Int32.toUInt32 31)).toInt32) &&& 255)) 2 (((a1.toUInt32 >>> ((8 : Int32).toUInt32 &&& Int32.toUInt32 31)).toInt32) &&& 255)) 3 (((a1.toUInt32 >>> ((0 : Int32).toUInt32 &&& Int32.toUInt32 31)).toInt32) &&& 255)) 4 (((a2.toUInt32 >>> ((24 : Int32).toUInt32 &&& Int32.toUInt32 31)).toInt32) &&& 255)) 5 (((a2.toUInt32 >>> ((16 : Int32).toUInt32 &&& Int32.toUInt32 31)).toInt32) &&& 255)) 6 (((a2.toUInt32 >>> ((8 : Int32).toUInt32 &&& Int32.toUInt32 31)).toInt32) &&& 255)) 7 (((a2.toUInt32 >>> ((0 : Int32).toUInt32 &&& Int32.toUInt32 31)).toInt32) &&& 255)) 8 (((a3.toUInt32 >>> ((24 : Int32).toUInt32 &&& Int32.toUInt32 31)).toInt32) &&& 255)) 9 (((a3.toUInt32 >>> ((16 : Int32).toUInt32 &&& Int32.toUInt32 31)).toInt32) &&& 255)) 10 (((a3.toUInt32 >>> ((8 : Int32).toUInt32 &&& Int32.toUInt32 31)).toInt32) &&& 255)) 11 (((a3.toUInt32 >>> ((0 : Int32).toUInt32 &&& Int32.toUInt32 31)).toInt32) &&& 255)) 12 (((a4.toUInt32 >>> ((24 : Int32).toUInt32 &&& Int32.toUInt32 31)).toInt32) &&& 255)) 13 (((a4.toUInt32 >>> ((16 : Int32).toUInt32 &&& Int32.toUInt32 31)).toInt32) &&& 255)) 14 (((a4.toUInt32 >>> ((8 : Int32).toUInt32 &&& Int32.toUInt32 31)).toInt32) &&& 255))))] rfl (by unfold vp_in; decide) (by decide : _ = 14) dX9_feed_103 rfl ?_
  refine aw_ald_n C dX9_feed_104 rfl ?_
  refine aw_dup C dX9_feed_105 rfl ?_
  refine aw_get C gf_X9_337 rfl rfl dX9_feed_106 ?_
  refine aw_iconst C 1 dX9_feed_109 ki_1 ?_
  refine ae_iadd C 15 dX9_feed_110 (by decide) ?_
  refine ao_put C [(181, .inr (9, (.int 0 :: .ref 182 :: .ref 183 :: .ref 184 :: .ref 185 :: .int 0 :: .int 0 :: .int 0 :: .ref 186 :: .int 15 :: .int 0 :: .int 0 :: .int (-1) :: .ref 187 :: .ref 188 :: .ref 189 :: .int 0 :: .ref 190 :: .ref 191 :: .ref 192 :: .ref 193 :: .ref 194 :: .int 0 :: .ref 195 :: .ref 196 :: .ref 197 :: .int 0 :: .ref 198 :: .ref 199 :: .ref 200 :: .ref 201 :: .ref 202 :: .ref 203 :: .int 0 :: .ref 204 :: .ref 205 :: .ref 206 :: .ref 207 :: .ref 208 :: .ref 209 :: .ref 210 :: .ref 211 :: .ref 212 :: .ref 213 :: .ref 214 :: .int 0 :: .ref 215 :: .ref 216 :: .int 0 :: .ref 217 :: .ref 218 :: .ref 219 :: .ref 220 :: .ref 221 :: .int 0 :: .int 0 :: .int 0 :: .int 0 :: .ref 222 :: .int 0 :: []))), (186, .inl (0, 400, .inl (upd (upd (upd (upd (upd (upd (upd (upd (upd (upd (upd (upd (upd (upd (upd (fun _ => 0) 0 (((a1.toUInt32 >>> ((24 : Int32).toUInt32 &&& Int32.toUInt32 31)).toInt32) &&& 255)) 1 (((a1.toUInt32 >>> ((16 : Int32).toUInt32 &&& Int32.toUInt32 31)).toInt32) &&& 255)) 2 (((a1.toUInt32 >>> ((8 : Int32).toUInt32 &&& Int32.toUInt32 31)).toInt32) &&& 255)) 3 (((a1.toUInt32 >>> ((0 : Int32).toUInt32 &&& Int32.toUInt32 31)).toInt32) &&& 255)) 4 (((a2.toUInt32 >>> ((24 : Int32).toUInt32 &&& Int32.toUInt32 31)).toInt32) &&& 255)) 5 (((a2.toUInt32 >>> ((16 : Int32).toUInt32 &&& Int32.toUInt32 31)).toInt32) &&& 255)) 6 (((a2.toUInt32 >>> ((8 : Int32).toUInt32 &&& Int32.toUInt32 31)).toInt32) &&& 255)) 7 (((a2.toUInt32 >>> ((0 : Int32).toUInt32 &&& Int32.toUInt32 31)).toInt32) &&& 255)) 8 (((a3.toUInt32 >>> ((24 : Int32).toUInt32 &&& Int32.toUInt32 31)).toInt32) &&& 255)) 9 (((a3.toUInt32 >>> ((16 : Int32).toUInt32 &&& Int32.toUInt32 31)).toInt32) &&& 255)) 10 (((a3.toUInt32 >>> ((8 : Int32).toUInt32 &&& Int32.toUInt32 31)).toInt32) &&& 255)) 11 (((a3.toUInt32 >>> ((0 : Int32).toUInt32 &&& Int32.toUInt32 31)).toInt32) &&& 255)) 12 (((a4.toUInt32 >>> ((24 : Int32).toUInt32 &&& Int32.toUInt32 31)).toInt32) &&& 255)) 13 (((a4.toUInt32 >>> ((16 : Int32).toUInt32 &&& Int32.toUInt32 31)).toInt32) &&& 255)) 14 (((a4.toUInt32 >>> ((8 : Int32).toUInt32 &&& Int32.toUInt32 31)).toInt32) &&& 255))))] gf_X9_337 cf9 nf9_9 rfl (Nat.le_of_ble_eq_true rfl) rfl rfl dX9_feed_111 rfl ?_
  refine aw_iinc C 15 dX9_feed_114 rfl (by decide) (by decide) rfl ?_
  refine aw_nl [some (.ref 181), some (.int a1), some (.int a2), some (.int a3), some (.int a4), some (.int a5), some (.int 15), some (.int a4)] rfl ?_
  refine aw_goto C 23 dX9_feed_117 (by decide) ?_
  refine aw_iload C dX9_feed_23 rfl ?_
  refine aw_bipush C 20 dX9_feed_25 kb_20 ?_
  refine aw_icmp_ge C 120 dX9_feed_27 (by decide) (fun q => absurd q (by decide)) (fun _ => ?_)
  refine aw_iload C dX9_feed_30 rfl ?_
  refine aw_iconst C 4 dX9_feed_32 ki_4 ?_
  refine aw_icmp_ge C 40 dX9_feed_33 (by decide) (fun _ => ?_) (fun q => absurd (by decide) q)
  refine aw_iload C dX9_feed_40 rfl ?_
  refine aw_bipush C 8 dX9_feed_42 kb_8 ?_
  refine aw_icmp_ge C 51 dX9_feed_44 (by decide) (fun _ => ?_) (fun q => absurd (by decide) q)
  refine aw_iload C dX9_feed_51 rfl ?_
  refine aw_bipush C 12 dX9_feed_53 kb_12 ?_
  refine aw_icmp_ge C 62 dX9_feed_55 (by decide) (fun _ => ?_) (fun q => absurd (by decide) q)
  refine aw_iload C dX9_feed_62 rfl ?_
  refine aw_bipush C 16 dX9_feed_64 kb_16 ?_
  refine aw_icmp_ge C 74 dX9_feed_66 (by decide) (fun q => absurd q (by decide)) (fun _ => ?_)
  refine aw_iload C dX9_feed_69 rfl ?_
  refine aw_goto C 76 dX9_feed_71 (by decide) ?_
  refine aw_istore C dX9_feed_76 (by decide) rfl ?_
  refine aw_nl [some (.ref 181), some (.int a1), some (.int a2), some (.int a3), some (.int a4), some (.int a5), some (.int 15), some (.int a4)] rfl ?_
  refine aw_ald_n C dX9_feed_78 rfl ?_
  refine aw_get C gf_X9_23 rfl rfl dX9_feed_79 ?_
  refine aw_ald_n C dX9_feed_82 rfl ?_
  refine aw_get C gf_X9_337 rfl rfl dX9_feed_83 ?_
  refine aw_iload C dX9_feed_86 rfl ?_
  refine aw_bipush C 24 dX9_feed_88 kb_24 ?_
  refine aw_bipush C 8 dX9_feed_90 kb_8 ?_
  refine aw_iload C dX9_feed_92 rfl ?_
  refine aw_iconst C 4 dX9_feed_94 ki_4 ?_
  refine ae_irem C 3 dX9_feed_95 (by decide) (by decide) ?_
  refine ae_imul C 24 dX9_feed_96 (by decide) ?_
  refine ae_isub C 0 dX9_feed_97 (by decide) ?_
  refine aw_iushr C dX9_feed_98 ?_
  refine aw_sipush C 255 dX9_feed_99 ks_255 ?_
  refine aw_iand C dX9_feed_102 ?_
  refine ao_iast C [(181, .inr (9, (.int 0 :: .ref 182 :: .ref 183 :: .ref 184 :: .ref 185 :: .int 0 :: .int 0 :: .int 0 :: .ref 186 :: .int 15 :: .int 0 :: .int 0 :: .int (-1) :: .ref 187 :: .ref 188 :: .ref 189 :: .int 0 :: .ref 190 :: .ref 191 :: .ref 192 :: .ref 193 :: .ref 194 :: .int 0 :: .ref 195 :: .ref 196 :: .ref 197 :: .int 0 :: .ref 198 :: .ref 199 :: .ref 200 :: .ref 201 :: .ref 202 :: .ref 203 :: .int 0 :: .ref 204 :: .ref 205 :: .ref 206 :: .ref 207 :: .ref 208 :: .ref 209 :: .ref 210 :: .ref 211 :: .ref 212 :: .ref 213 :: .ref 214 :: .int 0 :: .ref 215 :: .ref 216 :: .int 0 :: .ref 217 :: .ref 218 :: .ref 219 :: .ref 220 :: .ref 221 :: .int 0 :: .int 0 :: .int 0 :: .int 0 :: .ref 222 :: .int 0 :: []))), (186, .inl (0, 400, .inl (upd (upd (upd (upd (upd (upd (upd (upd (upd (upd (upd (upd (upd (upd (upd (upd (fun _ => 0) 0 (((a1.toUInt32 >>> ((24 : Int32).toUInt32 &&& Int32.toUInt32 31)).toInt32) &&& 255)) 1 (((a1.toUInt32 >>> ((16 : Int32).toUInt32 &&& Int32.toUInt32 31)).toInt32) &&& 255)) 2 (((a1.toUInt32 >>> ((8 : Int32).toUInt32 &&& Int32.toUInt32 31)).toInt32) &&& 255)) 3 (((a1.toUInt32 >>> ((0 : Int32).toUInt32 &&& Int32.toUInt32 31)).toInt32) &&& 255)) 4 (((a2.toUInt32 >>> ((24 : Int32).toUInt32 &&& Int32.toUInt32 31)).toInt32) &&& 255)) 5 (((a2.toUInt32 >>> ((16 : Int32).toUInt32 &&& Int32.toUInt32 31)).toInt32) &&& 255)) 6 (((a2.toUInt32 >>> ((8 : Int32).toUInt32 &&& Int32.toUInt32 31)).toInt32) &&& 255)) 7 (((a2.toUInt32 >>> ((0 : Int32).toUInt32 &&& Int32.toUInt32 31)).toInt32) &&& 255)) 8 (((a3.toUInt32 >>> ((24 : Int32).toUInt32 &&& Int32.toUInt32 31)).toInt32) &&& 255)) 9 (((a3.toUInt32 >>> ((16 : Int32).toUInt32 &&& Int32.toUInt32 31)).toInt32) &&& 255)) 10 (((a3.toUInt32 >>> ((8 : Int32).toUInt32 &&& Int32.toUInt32 31)).toInt32) &&& 255)) 11 (((a3.toUInt32 >>> ((0 : Int32).toUInt32 &&& Int32.toUInt32 31)).toInt32) &&& 255)) 12 (((a4.toUInt32 >>> ((24 : Int32).toUInt32 &&& Int32.toUInt32 31)).toInt32) &&& 255)) 13 (((a4.toUInt32 >>> ((16 : Int32).toUInt32 &&& Int32.toUInt32 31)).toInt32) &&& 255)) 14 (((a4.toUInt32 >>> ((8 : Int32).toUInt32 &&& Int32.toUInt32 31)).toInt32) &&& 255)) 15 (((a4.toUInt32 >>> ((0 : Int32).toUInt32 &&& Int32.toUInt32 31)).toInt32) &&& 255))))] rfl (by unfold vp_in; decide) (by decide : _ = 15) dX9_feed_103 rfl ?_
  refine aw_ald_n C dX9_feed_104 rfl ?_
  refine aw_dup C dX9_feed_105 rfl ?_
  refine aw_get C gf_X9_337 rfl rfl dX9_feed_106 ?_
  refine aw_iconst C 1 dX9_feed_109 ki_1 ?_
  refine ae_iadd C 16 dX9_feed_110 (by decide) ?_
  refine ao_put C [(181, .inr (9, (.int 0 :: .ref 182 :: .ref 183 :: .ref 184 :: .ref 185 :: .int 0 :: .int 0 :: .int 0 :: .ref 186 :: .int 16 :: .int 0 :: .int 0 :: .int (-1) :: .ref 187 :: .ref 188 :: .ref 189 :: .int 0 :: .ref 190 :: .ref 191 :: .ref 192 :: .ref 193 :: .ref 194 :: .int 0 :: .ref 195 :: .ref 196 :: .ref 197 :: .int 0 :: .ref 198 :: .ref 199 :: .ref 200 :: .ref 201 :: .ref 202 :: .ref 203 :: .int 0 :: .ref 204 :: .ref 205 :: .ref 206 :: .ref 207 :: .ref 208 :: .ref 209 :: .ref 210 :: .ref 211 :: .ref 212 :: .ref 213 :: .ref 214 :: .int 0 :: .ref 215 :: .ref 216 :: .int 0 :: .ref 217 :: .ref 218 :: .ref 219 :: .ref 220 :: .ref 221 :: .int 0 :: .int 0 :: .int 0 :: .int 0 :: .ref 222 :: .int 0 :: []))), (186, .inl (0, 400, .inl (upd (upd (upd (upd (upd (upd (upd (upd (upd (upd (upd (upd (upd (upd (upd (upd (fun _ => 0) 0 (((a1.toUInt32 >>> ((24 : Int32).toUInt32 &&& Int32.toUInt32 31)).toInt32) &&& 255)) 1 (((a1.toUInt32 >>> ((16 : Int32).toUInt32 &&& Int32.toUInt32 31)).toInt32) &&& 255)) 2 (((a1.toUInt32 >>> ((8 : Int32).toUInt32 &&& Int32.toUInt32 31)).toInt32) &&& 255)) 3 (((a1.toUInt32 >>> ((0 : Int32).toUInt32 &&& Int32.toUInt32 31)).toInt32) &&& 255)) 4 (((a2.toUInt32 >>> ((24 : Int32).toUInt32 &&& Int32.toUInt32 31)).toInt32) &&& 255)) 5 (((a2.toUInt32 >>> ((16 : Int32).toUInt32 &&& Int32.toUInt32 31)).toInt32) &&& 255)) 6 (((a2.toUInt32 >>> ((8 : Int32).toUInt32 &&& Int32.toUInt32 31)).toInt32) &&& 255)) 7 (((a2.toUInt32 >>> ((0 : Int32).toUInt32 &&& Int32.toUInt32 31)).toInt32) &&& 255)) 8 (((a3.toUInt32 >>> ((24 : Int32).toUInt32 &&& Int32.toUInt32 31)).toInt32) &&& 255)) 9 (((a3.toUInt32 >>> ((16 : Int32).toUInt32 &&& Int32.toUInt32 31)).toInt32) &&& 255)) 10 (((a3.toUInt32 >>> ((8 : Int32).toUInt32 &&& Int32.toUInt32 31)).toInt32) &&& 255)) 11 (((a3.toUInt32 >>> ((0 : Int32).toUInt32 &&& Int32.toUInt32 31)).toInt32) &&& 255)) 12 (((a4.toUInt32 >>> ((24 : Int32).toUInt32 &&& Int32.toUInt32 31)).toInt32) &&& 255)) 13 (((a4.toUInt32 >>> ((16 : Int32).toUInt32 &&& Int32.toUInt32 31)).toInt32) &&& 255)) 14 (((a4.toUInt32 >>> ((8 : Int32).toUInt32 &&& Int32.toUInt32 31)).toInt32) &&& 255)) 15 (((a4.toUInt32 >>> ((0 : Int32).toUInt32 &&& Int32.toUInt32 31)).toInt32) &&& 255))))] gf_X9_337 cf9 nf9_9 rfl (Nat.le_of_ble_eq_true rfl) rfl rfl dX9_feed_111 rfl ?_
  refine aw_iinc C 16 dX9_feed_114 rfl (by decide) (by decide) rfl ?_
  refine aw_nl [some (.ref 181), some (.int a1), some (.int a2), some (.int a3), some (.int a4), some (.int a5), some (.int 16), some (.int a4)] rfl ?_
  refine aw_goto C 23 dX9_feed_117 (by decide) ?_
  refine aw_iload C dX9_feed_23 rfl ?_
  refine aw_bipush C 20 dX9_feed_25 kb_20 ?_
  refine aw_icmp_ge C 120 dX9_feed_27 (by decide) (fun q => absurd q (by decide)) (fun _ => ?_)
  refine aw_iload C dX9_feed_30 rfl ?_
  refine aw_iconst C 4 dX9_feed_32 ki_4 ?_
  refine aw_icmp_ge C 40 dX9_feed_33 (by decide) (fun _ => ?_) (fun q => absurd (by decide) q)
  refine aw_iload C dX9_feed_40 rfl ?_
  refine aw_bipush C 8 dX9_feed_42 kb_8 ?_
  refine aw_icmp_ge C 51 dX9_feed_44 (by decide) (fun _ => ?_) (fun q => absurd (by decide) q)
  refine aw_iload C dX9_feed_51 rfl ?_
  refine aw_bipush C 12 dX9_feed_53 kb_12 ?_
  refine aw_icmp_ge C 62 dX9_feed_55 (by decide) (fun _ => ?_) (fun q => absurd (by decide) q)
  refine aw_iload C dX9_feed_62 rfl ?_
  refine aw_bipush C 16 dX9_feed_64 kb_16 ?_
  refine aw_icmp_ge C 74 dX9_feed_66 (by decide) (fun _ => ?_) (fun q => absurd (by decide) q)
  refine aw_iload C dX9_feed_74 rfl ?_
  refine aw_istore C dX9_feed_76 (by decide) rfl ?_
  refine aw_nl [some (.ref 181), some (.int a1), some (.int a2), some (.int a3), some (.int a4), some (.int a5), some (.int 16), some (.int a5)] rfl ?_
  refine aw_ald_n C dX9_feed_78 rfl ?_
  refine aw_get C gf_X9_23 rfl rfl dX9_feed_79 ?_
  refine aw_ald_n C dX9_feed_82 rfl ?_
  refine aw_get C gf_X9_337 rfl rfl dX9_feed_83 ?_
  refine aw_iload C dX9_feed_86 rfl ?_
  refine aw_bipush C 24 dX9_feed_88 kb_24 ?_
  refine aw_bipush C 8 dX9_feed_90 kb_8 ?_
  refine aw_iload C dX9_feed_92 rfl ?_
  refine aw_iconst C 4 dX9_feed_94 ki_4 ?_
  refine ae_irem C 0 dX9_feed_95 (by decide) (by decide) ?_
  refine ae_imul C 0 dX9_feed_96 (by decide) ?_
  refine ae_isub C 24 dX9_feed_97 (by decide) ?_
  refine aw_iushr C dX9_feed_98 ?_
  refine aw_sipush C 255 dX9_feed_99 ks_255 ?_
  refine aw_iand C dX9_feed_102 ?_
  refine ao_iast C [(181, .inr (9, (.int 0 :: .ref 182 :: .ref 183 :: .ref 184 :: .ref 185 :: .int 0 :: .int 0 :: .int 0 :: .ref 186 :: .int 16 :: .int 0 :: .int 0 :: .int (-1) :: .ref 187 :: .ref 188 :: .ref 189 :: .int 0 :: .ref 190 :: .ref 191 :: .ref 192 :: .ref 193 :: .ref 194 :: .int 0 :: .ref 195 :: .ref 196 :: .ref 197 :: .int 0 :: .ref 198 :: .ref 199 :: .ref 200 :: .ref 201 :: .ref 202 :: .ref 203 :: .int 0 :: .ref 204 :: .ref 205 :: .ref 206 :: .ref 207 :: .ref 208 :: .ref 209 :: .ref 210 :: .ref 211 :: .ref 212 :: .ref 213 :: .ref 214 :: .int 0 :: .ref 215 :: .ref 216 :: .int 0 :: .ref 217 :: .ref 218 :: .ref 219 :: .ref 220 :: .ref 221 :: .int 0 :: .int 0 :: .int 0 :: .int 0 :: .ref 222 :: .int 0 :: []))), (186, .inl (0, 400, .inl (upd (upd (upd (upd (upd (upd (upd (upd (upd (upd (upd (upd (upd (upd (upd (upd (upd (fun _ => 0) 0 (((a1.toUInt32 >>> ((24 : Int32).toUInt32 &&& Int32.toUInt32 31)).toInt32) &&& 255)) 1 (((a1.toUInt32 >>> ((16 : Int32).toUInt32 &&& Int32.toUInt32 31)).toInt32) &&& 255)) 2 (((a1.toUInt32 >>> ((8 : Int32).toUInt32 &&& Int32.toUInt32 31)).toInt32) &&& 255)) 3 (((a1.toUInt32 >>> ((0 : Int32).toUInt32 &&& Int32.toUInt32 31)).toInt32) &&& 255)) 4 (((a2.toUInt32 >>> ((24 : Int32).toUInt32 &&& Int32.toUInt32 31)).toInt32) &&& 255)) 5 (((a2.toUInt32 >>> ((16 : Int32).toUInt32 &&& Int32.toUInt32 31)).toInt32) &&& 255)) 6 (((a2.toUInt32 >>> ((8 : Int32).toUInt32 &&& Int32.toUInt32 31)).toInt32) &&& 255)) 7 (((a2.toUInt32 >>> ((0 : Int32).toUInt32 &&& Int32.toUInt32 31)).toInt32) &&& 255)) 8 (((a3.toUInt32 >>> ((24 : Int32).toUInt32 &&& Int32.toUInt32 31)).toInt32) &&& 255)) 9 (((a3.toUInt32 >>> ((16 : Int32).toUInt32 &&& Int32.toUInt32 31)).toInt32) &&& 255)) 10 (((a3.toUInt32 >>> ((8 : Int32).toUInt32 &&& Int32.toUInt32 31)).toInt32) &&& 255)) 11 (((a3.toUInt32 >>> ((0 : Int32).toUInt32 &&& Int32.toUInt32 31)).toInt32) &&& 255)) 12 (((a4.toUInt32 >>> ((24 : Int32).toUInt32 &&& Int32.toUInt32 31)).toInt32) &&& 255)) 13 (((a4.toUInt32 >>> ((16 : Int32).toUInt32 &&& Int32.toUInt32 31)).toInt32) &&& 255)) 14 (((a4.toUInt32 >>> ((8 : Int32).toUInt32 &&& Int32.toUInt32 31)).toInt32) &&& 255)) 15 (((a4.toUInt32 >>> ((0 : Int32).toUInt32 &&& Int32.toUInt32 31)).toInt32) &&& 255)) 16 (((a5.toUInt32 >>> ((24 : Int32).toUInt32 &&& Int32.toUInt32 31)).toInt32) &&& 255))))] rfl (by unfold vp_in; decide) (by decide : _ = 16) dX9_feed_103 rfl ?_
  refine aw_ald_n C dX9_feed_104 rfl ?_
  refine aw_dup C dX9_feed_105 rfl ?_
  refine aw_get C gf_X9_337 rfl rfl dX9_feed_106 ?_
  refine aw_iconst C 1 dX9_feed_109 ki_1 ?_
  refine ae_iadd C 17 dX9_feed_110 (by decide) ?_
  refine ao_put C [(181, .inr (9, (.int 0 :: .ref 182 :: .ref 183 :: .ref 184 :: .ref 185 :: .int 0 :: .int 0 :: .int 0 :: .ref 186 :: .int 17 :: .int 0 :: .int 0 :: .int (-1) :: .ref 187 :: .ref 188 :: .ref 189 :: .int 0 :: .ref 190 :: .ref 191 :: .ref 192 :: .ref 193 :: .ref 194 :: .int 0 :: .ref 195 :: .ref 196 :: .ref 197 :: .int 0 :: .ref 198 :: .ref 199 :: .ref 200 :: .ref 201 :: .ref 202 :: .ref 203 :: .int 0 :: .ref 204 :: .ref 205 :: .ref 206 :: .ref 207 :: .ref 208 :: .ref 209 :: .ref 210 :: .ref 211 :: .ref 212 :: .ref 213 :: .ref 214 :: .int 0 :: .ref 215 :: .ref 216 :: .int 0 :: .ref 217 :: .ref 218 :: .ref 219 :: .ref 220 :: .ref 221 :: .int 0 :: .int 0 :: .int 0 :: .int 0 :: .ref 222 :: .int 0 :: []))), (186, .inl (0, 400, .inl (upd (upd (upd (upd (upd (upd (upd (upd (upd (upd (upd (upd (upd (upd (upd (upd (upd (fun _ => 0) 0 (((a1.toUInt32 >>> ((24 : Int32).toUInt32 &&& Int32.toUInt32 31)).toInt32) &&& 255)) 1 (((a1.toUInt32 >>> ((16 : Int32).toUInt32 &&& Int32.toUInt32 31)).toInt32) &&& 255)) 2 (((a1.toUInt32 >>> ((8 : Int32).toUInt32 &&& Int32.toUInt32 31)).toInt32) &&& 255)) 3 (((a1.toUInt32 >>> ((0 : Int32).toUInt32 &&& Int32.toUInt32 31)).toInt32) &&& 255)) 4 (((a2.toUInt32 >>> ((24 : Int32).toUInt32 &&& Int32.toUInt32 31)).toInt32) &&& 255)) 5 (((a2.toUInt32 >>> ((16 : Int32).toUInt32 &&& Int32.toUInt32 31)).toInt32) &&& 255)) 6 (((a2.toUInt32 >>> ((8 : Int32).toUInt32 &&& Int32.toUInt32 31)).toInt32) &&& 255)) 7 (((a2.toUInt32 >>> ((0 : Int32).toUInt32 &&& Int32.toUInt32 31)).toInt32) &&& 255)) 8 (((a3.toUInt32 >>> ((24 : Int32).toUInt32 &&& Int32.toUInt32 31)).toInt32) &&& 255)) 9 (((a3.toUInt32 >>> ((16 : Int32).toUInt32 &&& Int32.toUInt32 31)).toInt32) &&& 255)) 10 (((a3.toUInt32 >>> ((8 : Int32).toUInt32 &&& Int32.toUInt32 31)).toInt32) &&& 255)) 11 (((a3.toUInt32 >>> ((0 : Int32).toUInt32 &&& Int32.toUInt32 31)).toInt32) &&& 255)) 12 (((a4.toUInt32 >>> ((24 : Int32).toUInt32 &&& Int32.toUInt32 31)).toInt32) &&& 255)) 13 (((a4.toUInt32 >>> ((16 : Int32).toUInt32 &&& Int32.toUInt32 31)).toInt32) &&& 255)) 14 (((a4.toUInt32 >>> ((8 : Int32).toUInt32 &&& Int32.toUInt32 31)).toInt32) &&& 255)) 15 (((a4.toUInt32 >>> ((0 : Int32).toUInt32 &&& Int32.toUInt32 31)).toInt32) &&& 255)) 16 (((a5.toUInt32 >>> ((24 : Int32).toUInt32 &&& Int32.toUInt32 31)).toInt32) &&& 255))))] gf_X9_337 cf9 nf9_9 rfl (Nat.le_of_ble_eq_true rfl) rfl rfl dX9_feed_111 rfl ?_
  refine aw_iinc C 17 dX9_feed_114 rfl (by decide) (by decide) rfl ?_
  refine aw_nl [some (.ref 181), some (.int a1), some (.int a2), some (.int a3), some (.int a4), some (.int a5), some (.int 17), some (.int a5)] rfl ?_
  refine aw_goto C 23 dX9_feed_117 (by decide) ?_
  refine aw_iload C dX9_feed_23 rfl ?_
  refine aw_bipush C 20 dX9_feed_25 kb_20 ?_
  refine aw_icmp_ge C 120 dX9_feed_27 (by decide) (fun q => absurd q (by decide)) (fun _ => ?_)
  refine aw_iload C dX9_feed_30 rfl ?_
  refine aw_iconst C 4 dX9_feed_32 ki_4 ?_
  refine aw_icmp_ge C 40 dX9_feed_33 (by decide) (fun _ => ?_) (fun q => absurd (by decide) q)
  refine aw_iload C dX9_feed_40 rfl ?_
  refine aw_bipush C 8 dX9_feed_42 kb_8 ?_
  refine aw_icmp_ge C 51 dX9_feed_44 (by decide) (fun _ => ?_) (fun q => absurd (by decide) q)
  refine aw_iload C dX9_feed_51 rfl ?_
  refine aw_bipush C 12 dX9_feed_53 kb_12 ?_
  refine aw_icmp_ge C 62 dX9_feed_55 (by decide) (fun _ => ?_) (fun q => absurd (by decide) q)
  refine aw_iload C dX9_feed_62 rfl ?_
  refine aw_bipush C 16 dX9_feed_64 kb_16 ?_
  refine aw_icmp_ge C 74 dX9_feed_66 (by decide) (fun _ => ?_) (fun q => absurd (by decide) q)
  refine aw_iload C dX9_feed_74 rfl ?_
  refine aw_istore C dX9_feed_76 (by decide) rfl ?_
  refine aw_nl [some (.ref 181), some (.int a1), some (.int a2), some (.int a3), some (.int a4), some (.int a5), some (.int 17), some (.int a5)] rfl ?_
  refine aw_ald_n C dX9_feed_78 rfl ?_
  refine aw_get C gf_X9_23 rfl rfl dX9_feed_79 ?_
  refine aw_ald_n C dX9_feed_82 rfl ?_
  refine aw_get C gf_X9_337 rfl rfl dX9_feed_83 ?_
  refine aw_iload C dX9_feed_86 rfl ?_
  refine aw_bipush C 24 dX9_feed_88 kb_24 ?_
  refine aw_bipush C 8 dX9_feed_90 kb_8 ?_
  refine aw_iload C dX9_feed_92 rfl ?_
  refine aw_iconst C 4 dX9_feed_94 ki_4 ?_
  refine ae_irem C 1 dX9_feed_95 (by decide) (by decide) ?_
  refine ae_imul C 8 dX9_feed_96 (by decide) ?_
  refine ae_isub C 16 dX9_feed_97 (by decide) ?_
  refine aw_iushr C dX9_feed_98 ?_
  refine aw_sipush C 255 dX9_feed_99 ks_255 ?_
  refine aw_iand C dX9_feed_102 ?_
  refine ao_iast C [(181, .inr (9, (.int 0 :: .ref 182 :: .ref 183 :: .ref 184 :: .ref 185 :: .int 0 :: .int 0 :: .int 0 :: .ref 186 :: .int 17 :: .int 0 :: .int 0 :: .int (-1) :: .ref 187 :: .ref 188 :: .ref 189 :: .int 0 :: .ref 190 :: .ref 191 :: .ref 192 :: .ref 193 :: .ref 194 :: .int 0 :: .ref 195 :: .ref 196 :: .ref 197 :: .int 0 :: .ref 198 :: .ref 199 :: .ref 200 :: .ref 201 :: .ref 202 :: .ref 203 :: .int 0 :: .ref 204 :: .ref 205 :: .ref 206 :: .ref 207 :: .ref 208 :: .ref 209 :: .ref 210 :: .ref 211 :: .ref 212 :: .ref 213 :: .ref 214 :: .int 0 :: .ref 215 :: .ref 216 :: .int 0 :: .ref 217 :: .ref 218 :: .ref 219 :: .ref 220 :: .ref 221 :: .int 0 :: .int 0 :: .int 0 :: .int 0 :: .ref 222 :: .int 0 :: []))), (186, .inl (0, 400, .inl (upd (upd (upd (upd (upd (upd (upd (upd (upd (upd (upd (upd (upd (upd (upd (upd (upd (upd (fun _ => 0) 0 (((a1.toUInt32 >>> ((24 : Int32).toUInt32 &&& Int32.toUInt32 31)).toInt32) &&& 255)) 1 (((a1.toUInt32 >>> ((16 : Int32).toUInt32 &&& Int32.toUInt32 31)).toInt32) &&& 255)) 2 (((a1.toUInt32 >>> ((8 : Int32).toUInt32 &&& Int32.toUInt32 31)).toInt32) &&& 255)) 3 (((a1.toUInt32 >>> ((0 : Int32).toUInt32 &&& Int32.toUInt32 31)).toInt32) &&& 255)) 4 (((a2.toUInt32 >>> ((24 : Int32).toUInt32 &&& Int32.toUInt32 31)).toInt32) &&& 255)) 5 (((a2.toUInt32 >>> ((16 : Int32).toUInt32 &&& Int32.toUInt32 31)).toInt32) &&& 255)) 6 (((a2.toUInt32 >>> ((8 : Int32).toUInt32 &&& Int32.toUInt32 31)).toInt32) &&& 255)) 7 (((a2.toUInt32 >>> ((0 : Int32).toUInt32 &&& Int32.toUInt32 31)).toInt32) &&& 255)) 8 (((a3.toUInt32 >>> ((24 : Int32).toUInt32 &&& Int32.toUInt32 31)).toInt32) &&& 255)) 9 (((a3.toUInt32 >>> ((16 : Int32).toUInt32 &&& Int32.toUInt32 31)).toInt32) &&& 255)) 10 (((a3.toUInt32 >>> ((8 : Int32).toUInt32 &&& Int32.toUInt32 31)).toInt32) &&& 255)) 11 (((a3.toUInt32 >>> ((0 : Int32).toUInt32 &&& Int32.toUInt32 31)).toInt32) &&& 255)) 12 (((a4.toUInt32 >>> ((24 : Int32).toUInt32 &&& Int32.toUInt32 31)).toInt32) &&& 255)) 13 (((a4.toUInt32 >>> ((16 : Int32).toUInt32 &&& Int32.toUInt32 31)).toInt32) &&& 255)) 14 (((a4.toUInt32 >>> ((8 : Int32).toUInt32 &&& Int32.toUInt32 31)).toInt32) &&& 255)) 15 (((a4.toUInt32 >>> ((0 : Int32).toUInt32 &&& Int32.toUInt32 31)).toInt32) &&& 255)) 16 (((a5.toUInt32 >>> ((24 : Int32).toUInt32 &&& Int32.toUInt32 31)).toInt32) &&& 255)) 17 (((a5.toUInt32 >>> ((16 : Int32).toUInt32 &&& Int32.toUInt32 31)).toInt32) &&& 255))))] rfl (by unfold vp_in; decide) (by decide : _ = 17) dX9_feed_103 rfl ?_
  refine aw_ald_n C dX9_feed_104 rfl ?_
  refine aw_dup C dX9_feed_105 rfl ?_
  refine aw_get C gf_X9_337 rfl rfl dX9_feed_106 ?_
  refine aw_iconst C 1 dX9_feed_109 ki_1 ?_
  refine ae_iadd C 18 dX9_feed_110 (by decide) ?_
  refine ao_put C [(181, .inr (9, (.int 0 :: .ref 182 :: .ref 183 :: .ref 184 :: .ref 185 :: .int 0 :: .int 0 :: .int 0 :: .ref 186 :: .int 18 :: .int 0 :: .int 0 :: .int (-1) :: .ref 187 :: .ref 188 :: .ref 189 :: .int 0 :: .ref 190 :: .ref 191 :: .ref 192 :: .ref 193 :: .ref 194 :: .int 0 :: .ref 195 :: .ref 196 :: .ref 197 :: .int 0 :: .ref 198 :: .ref 199 :: .ref 200 :: .ref 201 :: .ref 202 :: .ref 203 :: .int 0 :: .ref 204 :: .ref 205 :: .ref 206 :: .ref 207 :: .ref 208 :: .ref 209 :: .ref 210 :: .ref 211 :: .ref 212 :: .ref 213 :: .ref 214 :: .int 0 :: .ref 215 :: .ref 216 :: .int 0 :: .ref 217 :: .ref 218 :: .ref 219 :: .ref 220 :: .ref 221 :: .int 0 :: .int 0 :: .int 0 :: .int 0 :: .ref 222 :: .int 0 :: []))), (186, .inl (0, 400, .inl (upd (upd (upd (upd (upd (upd (upd (upd (upd (upd (upd (upd (upd (upd (upd (upd (upd (upd (fun _ => 0) 0 (((a1.toUInt32 >>> ((24 : Int32).toUInt32 &&& Int32.toUInt32 31)).toInt32) &&& 255)) 1 (((a1.toUInt32 >>> ((16 : Int32).toUInt32 &&& Int32.toUInt32 31)).toInt32) &&& 255)) 2 (((a1.toUInt32 >>> ((8 : Int32).toUInt32 &&& Int32.toUInt32 31)).toInt32) &&& 255)) 3 (((a1.toUInt32 >>> ((0 : Int32).toUInt32 &&& Int32.toUInt32 31)).toInt32) &&& 255)) 4 (((a2.toUInt32 >>> ((24 : Int32).toUInt32 &&& Int32.toUInt32 31)).toInt32) &&& 255)) 5 (((a2.toUInt32 >>> ((16 : Int32).toUInt32 &&& Int32.toUInt32 31)).toInt32) &&& 255)) 6 (((a2.toUInt32 >>> ((8 : Int32).toUInt32 &&& Int32.toUInt32 31)).toInt32) &&& 255)) 7 (((a2.toUInt32 >>> ((0 : Int32).toUInt32 &&& Int32.toUInt32 31)).toInt32) &&& 255)) 8 (((a3.toUInt32 >>> ((24 : Int32).toUInt32 &&& Int32.toUInt32 31)).toInt32) &&& 255)) 9 (((a3.toUInt32 >>> ((16 : Int32).toUInt32 &&& Int32.toUInt32 31)).toInt32) &&& 255)) 10 (((a3.toUInt32 >>> ((8 : Int32).toUInt32 &&& Int32.toUInt32 31)).toInt32) &&& 255)) 11 (((a3.toUInt32 >>> ((0 : Int32).toUInt32 &&& Int32.toUInt32 31)).toInt32) &&& 255)) 12 (((a4.toUInt32 >>> ((24 : Int32).toUInt32 &&& Int32.toUInt32 31)).toInt32) &&& 255)) 13 (((a4.toUInt32 >>> ((16 : Int32).toUInt32 &&& Int32.toUInt32 31)).toInt32) &&& 255)) 14 (((a4.toUInt32 >>> ((8 : Int32).toUInt32 &&& Int32.toUInt32 31)).toInt32) &&& 255)) 15 (((a4.toUInt32 >>> ((0 : Int32).toUInt32 &&& Int32.toUInt32 31)).toInt32) &&& 255)) 16 (((a5.toUInt32 >>> ((24 : Int32).toUInt32 &&& Int32.toUInt32 31)).toInt32) &&& 255)) 17 (((a5.toUInt32 >>> ((16 : Int32).toUInt32 &&& Int32.toUInt32 31)).toInt32) &&& 255))))] gf_X9_337 cf9 nf9_9 rfl (Nat.le_of_ble_eq_true rfl) rfl rfl dX9_feed_111 rfl ?_
  refine aw_iinc C 18 dX9_feed_114 rfl (by decide) (by decide) rfl ?_
  refine aw_nl [some (.ref 181), some (.int a1), some (.int a2), some (.int a3), some (.int a4), some (.int a5), some (.int 18), some (.int a5)] rfl ?_
  refine aw_goto C 23 dX9_feed_117 (by decide) ?_
  refine aw_iload C dX9_feed_23 rfl ?_
  refine aw_bipush C 20 dX9_feed_25 kb_20 ?_
  refine aw_icmp_ge C 120 dX9_feed_27 (by decide) (fun q => absurd q (by decide)) (fun _ => ?_)
  refine aw_iload C dX9_feed_30 rfl ?_
  refine aw_iconst C 4 dX9_feed_32 ki_4 ?_
  refine aw_icmp_ge C 40 dX9_feed_33 (by decide) (fun _ => ?_) (fun q => absurd (by decide) q)
  refine aw_iload C dX9_feed_40 rfl ?_
  refine aw_bipush C 8 dX9_feed_42 kb_8 ?_
  refine aw_icmp_ge C 51 dX9_feed_44 (by decide) (fun _ => ?_) (fun q => absurd (by decide) q)
  refine aw_iload C dX9_feed_51 rfl ?_
  refine aw_bipush C 12 dX9_feed_53 kb_12 ?_
  refine aw_icmp_ge C 62 dX9_feed_55 (by decide) (fun _ => ?_) (fun q => absurd (by decide) q)
  refine aw_iload C dX9_feed_62 rfl ?_
  refine aw_bipush C 16 dX9_feed_64 kb_16 ?_
  refine aw_icmp_ge C 74 dX9_feed_66 (by decide) (fun _ => ?_) (fun q => absurd (by decide) q)
  refine aw_iload C dX9_feed_74 rfl ?_
  refine aw_istore C dX9_feed_76 (by decide) rfl ?_
  refine aw_nl [some (.ref 181), some (.int a1), some (.int a2), some (.int a3), some (.int a4), some (.int a5), some (.int 18), some (.int a5)] rfl ?_
  refine aw_ald_n C dX9_feed_78 rfl ?_
  refine aw_get C gf_X9_23 rfl rfl dX9_feed_79 ?_
  refine aw_ald_n C dX9_feed_82 rfl ?_
  refine aw_get C gf_X9_337 rfl rfl dX9_feed_83 ?_
  refine aw_iload C dX9_feed_86 rfl ?_
  refine aw_bipush C 24 dX9_feed_88 kb_24 ?_
  refine aw_bipush C 8 dX9_feed_90 kb_8 ?_
  refine aw_iload C dX9_feed_92 rfl ?_
  refine aw_iconst C 4 dX9_feed_94 ki_4 ?_
  refine ae_irem C 2 dX9_feed_95 (by decide) (by decide) ?_
  refine ae_imul C 16 dX9_feed_96 (by decide) ?_
  refine ae_isub C 8 dX9_feed_97 (by decide) ?_
  refine aw_iushr C dX9_feed_98 ?_
  refine aw_sipush C 255 dX9_feed_99 ks_255 ?_
  refine aw_iand C dX9_feed_102 ?_
  refine ao_iast C [(181, .inr (9, (.int 0 :: .ref 182 :: .ref 183 :: .ref 184 :: .ref 185 :: .int 0 :: .int 0 :: .int 0 :: .ref 186 :: .int 18 :: .int 0 :: .int 0 :: .int (-1) :: .ref 187 :: .ref 188 :: .ref 189 :: .int 0 :: .ref 190 :: .ref 191 :: .ref 192 :: .ref 193 :: .ref 194 :: .int 0 :: .ref 195 :: .ref 196 :: .ref 197 :: .int 0 :: .ref 198 :: .ref 199 :: .ref 200 :: .ref 201 :: .ref 202 :: .ref 203 :: .int 0 :: .ref 204 :: .ref 205 :: .ref 206 :: .ref 207 :: .ref 208 :: .ref 209 :: .ref 210 :: .ref 211 :: .ref 212 :: .ref 213 :: .ref 214 :: .int 0 :: .ref 215 :: .ref 216 :: .int 0 :: .ref 217 :: .ref 218 :: .ref 219 :: .ref 220 :: .ref 221 :: .int 0 :: .int 0 :: .int 0 :: .int 0 :: .ref 222 :: .int 0 :: []))), (186, .inl (0, 400, .inl (upd (upd (upd (upd (upd (upd (upd (upd (upd (upd (upd (upd (upd (upd (upd (upd (upd (upd (upd (fun _ => 0) 0 (((a1.toUInt32 >>> ((24 : Int32).toUInt32 &&& Int32.toUInt32 31)).toInt32) &&& 255)) 1 (((a1.toUInt32 >>> ((16 : Int32).toUInt32 &&& Int32.toUInt32 31)).toInt32) &&& 255)) 2 (((a1.toUInt32 >>> ((8 : Int32).toUInt32 &&& Int32.toUInt32 31)).toInt32) &&& 255)) 3 (((a1.toUInt32 >>> ((0 : Int32).toUInt32 &&& Int32.toUInt32 31)).toInt32) &&& 255)) 4 (((a2.toUInt32 >>> ((24 : Int32).toUInt32 &&& Int32.toUInt32 31)).toInt32) &&& 255)) 5 (((a2.toUInt32 >>> ((16 : Int32).toUInt32 &&& Int32.toUInt32 31)).toInt32) &&& 255)) 6 (((a2.toUInt32 >>> ((8 : Int32).toUInt32 &&& Int32.toUInt32 31)).toInt32) &&& 255)) 7 (((a2.toUInt32 >>> ((0 : Int32).toUInt32 &&& Int32.toUInt32 31)).toInt32) &&& 255)) 8 (((a3.toUInt32 >>> ((24 : Int32).toUInt32 &&& Int32.toUInt32 31)).toInt32) &&& 255)) 9 (((a3.toUInt32 >>> ((16 : Int32).toUInt32 &&& Int32.toUInt32 31)).toInt32) &&& 255)) 10 (((a3.toUInt32 >>> ((8 : Int32).toUInt32 &&& Int32.toUInt32 31)).toInt32) &&& 255)) 11 (((a3.toUInt32 >>> ((0 : Int32).toUInt32 &&& Int32.toUInt32 31)).toInt32) &&& 255)) 12 (((a4.toUInt32 >>> ((24 : Int32).toUInt32 &&& Int32.toUInt32 31)).toInt32) &&& 255)) 13 (((a4.toUInt32 >>> ((16 : Int32).toUInt32 &&& Int32.toUInt32 31)).toInt32) &&& 255)) 14 (((a4.toUInt32 >>> ((8 : Int32).toUInt32 &&& Int32.toUInt32 31)).toInt32) &&& 255)) 15 (((a4.toUInt32 >>> ((0 : Int32).toUInt32 &&& Int32.toUInt32 31)).toInt32) &&& 255)) 16 (((a5.toUInt32 >>> ((24 : Int32).toUInt32 &&& Int32.toUInt32 31)).toInt32) &&& 255)) 17 (((a5.toUInt32 >>> ((16 : Int32).toUInt32 &&& Int32.toUInt32 31)).toInt32) &&& 255)) 18 (((a5.toUInt32 >>> ((8 : Int32).toUInt32 &&& Int32.toUInt32 31)).toInt32) &&& 255))))] rfl (by unfold vp_in; decide) (by decide : _ = 18) dX9_feed_103 rfl ?_
  refine aw_ald_n C dX9_feed_104 rfl ?_
  refine aw_dup C dX9_feed_105 rfl ?_
  refine aw_get C gf_X9_337 rfl rfl dX9_feed_106 ?_
  refine aw_iconst C 1 dX9_feed_109 ki_1 ?_
  refine ae_iadd C 19 dX9_feed_110 (by decide) ?_
  refine ao_put C [(181, .inr (9, (.int 0 :: .ref 182 :: .ref 183 :: .ref 184 :: .ref 185 :: .int 0 :: .int 0 :: .int 0 :: .ref 186 :: .int 19 :: .int 0 :: .int 0 :: .int (-1) :: .ref 187 :: .ref 188 :: .ref 189 :: .int 0 :: .ref 190 :: .ref 191 :: .ref 192 :: .ref 193 :: .ref 194 :: .int 0 :: .ref 195 :: .ref 196 :: .ref 197 :: .int 0 :: .ref 198 :: .ref 199 :: .ref 200 :: .ref 201 :: .ref 202 :: .ref 203 :: .int 0 :: .ref 204 :: .ref 205 :: .ref 206 :: .ref 207 :: .ref 208 :: .ref 209 :: .ref 210 :: .ref 211 :: .ref 212 :: .ref 213 :: .ref 214 :: .int 0 :: .ref 215 :: .ref 216 :: .int 0 :: .ref 217 :: .ref 218 :: .ref 219 :: .ref 220 :: .ref 221 :: .int 0 :: .int 0 :: .int 0 :: .int 0 :: .ref 222 :: .int 0 :: []))), (186, .inl (0, 400, .inl (upd (upd (upd (upd (upd (upd (upd (upd (upd (upd (upd (upd (upd (upd (upd (upd (upd (upd (upd (fun _ => 0) 0 (((a1.toUInt32 >>> ((24 : Int32).toUInt32 &&& Int32.toUInt32 31)).toInt32) &&& 255)) 1 (((a1.toUInt32 >>> ((16 : Int32).toUInt32 &&& Int32.toUInt32 31)).toInt32) &&& 255)) 2 (((a1.toUInt32 >>> ((8 : Int32).toUInt32 &&& Int32.toUInt32 31)).toInt32) &&& 255)) 3 (((a1.toUInt32 >>> ((0 : Int32).toUInt32 &&& Int32.toUInt32 31)).toInt32) &&& 255)) 4 (((a2.toUInt32 >>> ((24 : Int32).toUInt32 &&& Int32.toUInt32 31)).toInt32) &&& 255)) 5 (((a2.toUInt32 >>> ((16 : Int32).toUInt32 &&& Int32.toUInt32 31)).toInt32) &&& 255)) 6 (((a2.toUInt32 >>> ((8 : Int32).toUInt32 &&& Int32.toUInt32 31)).toInt32) &&& 255)) 7 (((a2.toUInt32 >>> ((0 : Int32).toUInt32 &&& Int32.toUInt32 31)).toInt32) &&& 255)) 8 (((a3.toUInt32 >>> ((24 : Int32).toUInt32 &&& Int32.toUInt32 31)).toInt32) &&& 255)) 9 (((a3.toUInt32 >>> ((16 : Int32).toUInt32 &&& Int32.toUInt32 31)).toInt32) &&& 255)) 10 (((a3.toUInt32 >>> ((8 : Int32).toUInt32 &&& Int32.toUInt32 31)).toInt32) &&& 255)) 11 (((a3.toUInt32 >>> ((0 : Int32).toUInt32 &&& Int32.toUInt32 31)).toInt32) &&& 255)) 12 (((a4.toUInt32 >>> ((24 : Int32).toUInt32 &&& Int32.toUInt32 31)).toInt32) &&& 255)) 13 (((a4.toUInt32 >>> ((16 : Int32).toUInt32 &&& Int32.toUInt32 31)).toInt32) &&& 255)) 14 (((a4.toUInt32 >>> ((8 : Int32).toUInt32 &&& Int32.toUInt32 31)).toInt32) &&& 255)) 15 (((a4.toUInt32 >>> ((0 : Int32).toUInt32 &&& Int32.toUInt32 31)).toInt32) &&& 255)) 16 (((a5.toUInt32 >>> ((24 : Int32).toUInt32 &&& Int32.toUInt32 31)).toInt32) &&& 255)) 17 (((a5.toUInt32 >>> ((16 : Int32).toUInt32 &&& Int32.toUInt32 31)).toInt32) &&& 255)) 18 (((a5.toUInt32 >>> ((8 : Int32).toUInt32 &&& Int32.toUInt32 31)).toInt32) &&& 255))))] gf_X9_337 cf9 nf9_9 rfl (Nat.le_of_ble_eq_true rfl) rfl rfl dX9_feed_111 rfl ?_
  refine aw_iinc C 19 dX9_feed_114 rfl (by decide) (by decide) rfl ?_
  refine aw_nl [some (.ref 181), some (.int a1), some (.int a2), some (.int a3), some (.int a4), some (.int a5), some (.int 19), some (.int a5)] rfl ?_
  refine aw_goto C 23 dX9_feed_117 (by decide) ?_
  refine aw_iload C dX9_feed_23 rfl ?_
  refine aw_bipush C 20 dX9_feed_25 kb_20 ?_
  refine aw_icmp_ge C 120 dX9_feed_27 (by decide) (fun q => absurd q (by decide)) (fun _ => ?_)
  refine aw_iload C dX9_feed_30 rfl ?_
  refine aw_iconst C 4 dX9_feed_32 ki_4 ?_
  refine aw_icmp_ge C 40 dX9_feed_33 (by decide) (fun _ => ?_) (fun q => absurd (by decide) q)
  refine aw_iload C dX9_feed_40 rfl ?_
  refine aw_bipush C 8 dX9_feed_42 kb_8 ?_
  refine aw_icmp_ge C 51 dX9_feed_44 (by decide) (fun _ => ?_) (fun q => absurd (by decide) q)
  refine aw_iload C dX9_feed_51 rfl ?_
  refine aw_bipush C 12 dX9_feed_53 kb_12 ?_
  refine aw_icmp_ge C 62 dX9_feed_55 (by decide) (fun _ => ?_) (fun q => absurd (by decide) q)
  refine aw_iload C dX9_feed_62 rfl ?_
  refine aw_bipush C 16 dX9_feed_64 kb_16 ?_
  refine aw_icmp_ge C 74 dX9_feed_66 (by decide) (fun _ => ?_) (fun q => absurd (by decide) q)
  refine aw_iload C dX9_feed_74 rfl ?_
  refine aw_istore C dX9_feed_76 (by decide) rfl ?_
  refine aw_nl [some (.ref 181), some (.int a1), some (.int a2), some (.int a3), some (.int a4), some (.int a5), some (.int 19), some (.int a5)] rfl ?_
  refine aw_ald_n C dX9_feed_78 rfl ?_
  refine aw_get C gf_X9_23 rfl rfl dX9_feed_79 ?_
  refine aw_ald_n C dX9_feed_82 rfl ?_
  refine aw_get C gf_X9_337 rfl rfl dX9_feed_83 ?_
  refine aw_iload C dX9_feed_86 rfl ?_
  refine aw_bipush C 24 dX9_feed_88 kb_24 ?_
  refine aw_bipush C 8 dX9_feed_90 kb_8 ?_
  refine aw_iload C dX9_feed_92 rfl ?_
  refine aw_iconst C 4 dX9_feed_94 ki_4 ?_
  refine ae_irem C 3 dX9_feed_95 (by decide) (by decide) ?_
  refine ae_imul C 24 dX9_feed_96 (by decide) ?_
  refine ae_isub C 0 dX9_feed_97 (by decide) ?_
  refine aw_iushr C dX9_feed_98 ?_
  refine aw_sipush C 255 dX9_feed_99 ks_255 ?_
  refine aw_iand C dX9_feed_102 ?_
  refine ao_iast C [(181, .inr (9, (.int 0 :: .ref 182 :: .ref 183 :: .ref 184 :: .ref 185 :: .int 0 :: .int 0 :: .int 0 :: .ref 186 :: .int 19 :: .int 0 :: .int 0 :: .int (-1) :: .ref 187 :: .ref 188 :: .ref 189 :: .int 0 :: .ref 190 :: .ref 191 :: .ref 192 :: .ref 193 :: .ref 194 :: .int 0 :: .ref 195 :: .ref 196 :: .ref 197 :: .int 0 :: .ref 198 :: .ref 199 :: .ref 200 :: .ref 201 :: .ref 202 :: .ref 203 :: .int 0 :: .ref 204 :: .ref 205 :: .ref 206 :: .ref 207 :: .ref 208 :: .ref 209 :: .ref 210 :: .ref 211 :: .ref 212 :: .ref 213 :: .ref 214 :: .int 0 :: .ref 215 :: .ref 216 :: .int 0 :: .ref 217 :: .ref 218 :: .ref 219 :: .ref 220 :: .ref 221 :: .int 0 :: .int 0 :: .int 0 :: .int 0 :: .ref 222 :: .int 0 :: []))), (186, .inl (0, 400, .inl (upd (upd (upd (upd (upd (upd (upd (upd (upd (upd (upd (upd (upd (upd (upd (upd (upd (upd (upd (upd (fun _ => 0) 0 (((a1.toUInt32 >>> ((24 : Int32).toUInt32 &&& Int32.toUInt32 31)).toInt32) &&& 255)) 1 (((a1.toUInt32 >>> ((16 : Int32).toUInt32 &&& Int32.toUInt32 31)).toInt32) &&& 255)) 2 (((a1.toUInt32 >>> ((8 : Int32).toUInt32 &&& Int32.toUInt32 31)).toInt32) &&& 255)) 3 (((a1.toUInt32 >>> ((0 : Int32).toUInt32 &&& Int32.toUInt32 31)).toInt32) &&& 255)) 4 (((a2.toUInt32 >>> ((24 : Int32).toUInt32 &&& Int32.toUInt32 31)).toInt32) &&& 255)) 5 (((a2.toUInt32 >>> ((16 : Int32).toUInt32 &&& Int32.toUInt32 31)).toInt32) &&& 255)) 6 (((a2.toUInt32 >>> ((8 : Int32).toUInt32 &&& Int32.toUInt32 31)).toInt32) &&& 255)) 7 (((a2.toUInt32 >>> ((0 : Int32).toUInt32 &&& Int32.toUInt32 31)).toInt32) &&& 255)) 8 (((a3.toUInt32 >>> ((24 : Int32).toUInt32 &&& Int32.toUInt32 31)).toInt32) &&& 255)) 9 (((a3.toUInt32 >>> ((16 : Int32).toUInt32 &&& Int32.toUInt32 31)).toInt32) &&& 255)) 10 (((a3.toUInt32 >>> ((8 : Int32).toUInt32 &&& Int32.toUInt32 31)).toInt32) &&& 255)) 11 (((a3.toUInt32 >>> ((0 : Int32).toUInt32 &&& Int32.toUInt32 31)).toInt32) &&& 255)) 12 (((a4.toUInt32 >>> ((24 : Int32).toUInt32 &&& Int32.toUInt32 31)).toInt32) &&& 255)) 13 (((a4.toUInt32 >>> ((16 : Int32).toUInt32 &&& Int32.toUInt32 31)).toInt32) &&& 255)) 14 (((a4.toUInt32 >>> ((8 : Int32).toUInt32 &&& Int32.toUInt32 31)).toInt32) &&& 255)) 15 (((a4.toUInt32 >>> ((0 : Int32).toUInt32 &&& Int32.toUInt32 31)).toInt32) &&& 255)) 16 (((a5.toUInt32 >>> ((24 : Int32).toUInt32 &&& Int32.toUInt32 31)).toInt32) &&& 255)) 17 (((a5.toUInt32 >>> ((16 : Int32).toUInt32 &&& Int32.toUInt32 31)).toInt32) &&& 255)) 18 (((a5.toUInt32 >>> ((8 : Int32).toUInt32 &&& Int32.toUInt32 31)).toInt32) &&& 255)) 19 (((a5.toUInt32 >>> ((0 : Int32).toUInt32 &&& Int32.toUInt32 31)).toInt32) &&& 255))))] rfl (by unfold vp_in; decide) (by decide : _ = 19) dX9_feed_103 rfl ?_
  refine aw_ald_n C dX9_feed_104 rfl ?_
  refine aw_dup C dX9_feed_105 rfl ?_
  refine aw_get C gf_X9_337 rfl rfl dX9_feed_106 ?_
  refine aw_iconst C 1 dX9_feed_109 ki_1 ?_
  refine ae_iadd C 20 dX9_feed_110 (by decide) ?_
  refine ao_put C [(181, .inr (9, (.int 0 :: .ref 182 :: .ref 183 :: .ref 184 :: .ref 185 :: .int 0 :: .int 0 :: .int 0 :: .ref 186 :: .int 20 :: .int 0 :: .int 0 :: .int (-1) :: .ref 187 :: .ref 188 :: .ref 189 :: .int 0 :: .ref 190 :: .ref 191 :: .ref 192 :: .ref 193 :: .ref 194 :: .int 0 :: .ref 195 :: .ref 196 :: .ref 197 :: .int 0 :: .ref 198 :: .ref 199 :: .ref 200 :: .ref 201 :: .ref 202 :: .ref 203 :: .int 0 :: .ref 204 :: .ref 205 :: .ref 206 :: .ref 207 :: .ref 208 :: .ref 209 :: .ref 210 :: .ref 211 :: .ref 212 :: .ref 213 :: .ref 214 :: .int 0 :: .ref 215 :: .ref 216 :: .int 0 :: .ref 217 :: .ref 218 :: .ref 219 :: .ref 220 :: .ref 221 :: .int 0 :: .int 0 :: .int 0 :: .int 0 :: .ref 222 :: .int 0 :: []))), (186, .inl (0, 400, .inl (upd (upd (upd (upd (upd (upd (upd (upd (upd (upd (upd (upd (upd (upd (upd (upd (upd (upd (upd (upd (fun _ => 0) 0 (((a1.toUInt32 >>> ((24 : Int32).toUInt32 &&& Int32.toUInt32 31)).toInt32) &&& 255)) 1 (((a1.toUInt32 >>> ((16 : Int32).toUInt32 &&& Int32.toUInt32 31)).toInt32) &&& 255)) 2 (((a1.toUInt32 >>> ((8 : Int32).toUInt32 &&& Int32.toUInt32 31)).toInt32) &&& 255)) 3 (((a1.toUInt32 >>> ((0 : Int32).toUInt32 &&& Int32.toUInt32 31)).toInt32) &&& 255)) 4 (((a2.toUInt32 >>> ((24 : Int32).toUInt32 &&& Int32.toUInt32 31)).toInt32) &&& 255)) 5 (((a2.toUInt32 >>> ((16 : Int32).toUInt32 &&& Int32.toUInt32 31)).toInt32) &&& 255)) 6 (((a2.toUInt32 >>> ((8 : Int32).toUInt32 &&& Int32.toUInt32 31)).toInt32) &&& 255)) 7 (((a2.toUInt32 >>> ((0 : Int32).toUInt32 &&& Int32.toUInt32 31)).toInt32) &&& 255)) 8 (((a3.toUInt32 >>> ((24 : Int32).toUInt32 &&& Int32.toUInt32 31)).toInt32) &&& 255)) 9 (((a3.toUInt32 >>> ((16 : Int32).toUInt32 &&& Int32.toUInt32 31)).toInt32) &&& 255)) 10 (((a3.toUInt32 >>> ((8 : Int32).toUInt32 &&& Int32.toUInt32 31)).toInt32) &&& 255)) 11 (((a3.toUInt32 >>> ((0 : Int32).toUInt32 &&& Int32.toUInt32 31)).toInt32) &&& 255)) 12 (((a4.toUInt32 >>> ((24 : Int32).toUInt32 &&& Int32.toUInt32 31)).toInt32) &&& 255)) 13 (((a4.toUInt32 >>> ((16 : Int32).toUInt32 &&& Int32.toUInt32 31)).toInt32) &&& 255)) 14 (((a4.toUInt32 >>> ((8 : Int32).toUInt32 &&& Int32.toUInt32 31)).toInt32) &&& 255)) 15 (((a4.toUInt32 >>> ((0 : Int32).toUInt32 &&& Int32.toUInt32 31)).toInt32) &&& 255)) 16 (((a5.toUInt32 >>> ((24 : Int32).toUInt32 &&& Int32.toUInt32 31)).toInt32) &&& 255)) 17 (((a5.toUInt32 >>> ((16 : Int32).toUInt32 &&& Int32.toUInt32 31)).toInt32) &&& 255)) 18 (((a5.toUInt32 >>> ((8 : Int32).toUInt32 &&& Int32.toUInt32 31)).toInt32) &&& 255)) 19 (((a5.toUInt32 >>> ((0 : Int32).toUInt32 &&& Int32.toUInt32 31)).toInt32) &&& 255))))] gf_X9_337 cf9 nf9_9 rfl (Nat.le_of_ble_eq_true rfl) rfl rfl dX9_feed_111 rfl ?_
  refine aw_iinc C 20 dX9_feed_114 rfl (by decide) (by decide) rfl ?_
  refine aw_nl [some (.ref 181), some (.int a1), some (.int a2), some (.int a3), some (.int a4), some (.int a5), some (.int 20), some (.int a5)] rfl ?_
  refine aw_goto C 23 dX9_feed_117 (by decide) ?_
  refine aw_iload C dX9_feed_23 rfl ?_
  refine aw_bipush C 20 dX9_feed_25 kb_20 ?_
  refine aw_icmp_ge C 120 dX9_feed_27 (by decide) (fun _ => ?_) (fun q => absurd (by decide) q)
  refine aw_ald_n C dX9_feed_120 rfl ?_
  refine aw_get C gf_X9_337 rfl rfl dX9_feed_121 ?_
  exact aw_iret C rfl rfl dX9_feed_124 (Nat.le_of_ble_eq_true rfl) (Nat.le_of_ble_eq_true rfl) ⟨rfl, rfl, rfl⟩

set_option maxHeartbeats 4000000 in
set_option maxRecDepth 100000 in
theorem c_X8_end_158 {X : GX} {l : Launch} {f : AH} {n : Nat} {a1 : Int32} (q0 : (-2147483648) ≤ a1.toInt ∧ a1.toInt ≤ (-1)) : AM X l yX8_end cX8_end 2 (some .boolean) 0 0 0 [.ref 0, .int a1] f n (EXO f [] (some (.int 0)) n) := by
  refine AM.of (by decide +kernel) rfl (Nat.le_of_ble_eq_true rfl) (fun p e s m args below meth c C hnm => ?_)
  refine ao_start ?_
  refine aw_nl [some (.ref 0), some (.int a1)] rfl ?_
  obtain ⟨q0a, q0b⟩ := q0
  refine aw_iload_n C dX8_end_0 rfl ?_
  refine aw_if_lt C 15 dX8_end_1 (by decide) (fun _ => ?_) (fun q => absurd (c_lt (by rw [ti_0]; omega)) q)
  refine aw_iconst C 0 dX8_end_15 ki_0 ?_
  exact aw_iret C rfl (by decide) dX8_end_16 (Nat.le_of_ble_eq_true rfl) (Nat.le_of_ble_eq_true rfl) ⟨rfl, rfl, rfl⟩

set_option maxHeartbeats 4000000 in
set_option maxRecDepth 100000 in
theorem c_X9_isIn_159 {X : GX} {l : Launch} {f : AH} {n : Nat} {a0 : Int32} (q0 : (-2147483648) ≤ a0.toInt ∧ a0.toInt ≤ (-1)) : AM X l yX9_isIn cX9_isIn 3 (some .boolean) 0 0 0 [.int a0, .int 0, .int 0] f n (EXO f [] (some (.int 0)) n) := by
  refine AM.of (by decide +kernel) rfl (Nat.le_of_ble_eq_true rfl) (fun p e s m args below meth c C hnm => ?_)
  refine ao_start ?_
  refine aw_nl [some (.int a0), some (.int 0), some (.int 0)] rfl ?_
  obtain ⟨q0a, q0b⟩ := q0
  refine aw_iload_n C dX9_isIn_0 rfl ?_
  refine aw_iload_n C dX9_isIn_1 rfl ?_
  refine aw_icmp_lt C 14 dX9_isIn_2 (by decide) (fun _ => ?_) (fun q => absurd (c_lt (by rw [ti_0]; omega)) q)
  refine aw_iconst C 0 dX9_isIn_14 ki_0 ?_
  exact aw_iret C rfl (by decide) dX9_isIn_15 (Nat.le_of_ble_eq_true rfl) (Nat.le_of_ble_eq_true rfl) ⟨rfl, rfl, rfl⟩

set_option maxHeartbeats 4000000 in
set_option maxRecDepth 100000 in
theorem c_X9_end_160 {X : GX} {l : Launch} {f : AH} {n : Nat} {a1 : Int32} (q0 : (-2147483648) ≤ a1.toInt ∧ a1.toInt ≤ (-1)) (h181 : f 181 = some (.inr (9, (.int 0 :: .ref 182 :: .ref 183 :: .ref 184 :: .ref 185 :: .int 0 :: .int 0 :: .int 0 :: .ref 186 :: .int 0 :: .int 0 :: .int 0 :: .int (-1) :: .ref 187 :: .ref 188 :: .ref 189 :: .int 0 :: .ref 190 :: .ref 191 :: .ref 192 :: .ref 193 :: .ref 194 :: .int 0 :: .ref 195 :: .ref 196 :: .ref 197 :: .int 0 :: .ref 198 :: .ref 199 :: .ref 200 :: .ref 201 :: .ref 202 :: .ref 203 :: .int 0 :: .ref 204 :: .ref 205 :: .ref 206 :: .ref 207 :: .ref 208 :: .ref 209 :: .ref 210 :: .ref 211 :: .ref 212 :: .ref 213 :: .ref 214 :: .int 0 :: .ref 215 :: .ref 216 :: .int 0 :: .ref 217 :: .ref 218 :: .ref 219 :: .ref 220 :: .ref 221 :: .int 0 :: .int 0 :: .int 0 :: .int 0 :: .ref 222 :: .int 0 :: [])))) : AM X l yX9_end cX9_end 2 (some .boolean) 1 0 0 [.ref 181, .int a1] f n (EXO f [(181, .inr (9, (.int 0 :: .ref 182 :: .ref 183 :: .ref 184 :: .ref 185 :: .int 0 :: .int 0 :: .int 0 :: .ref 186 :: .int 0 :: .int 0 :: .int 0 :: .int (-1) :: .ref 187 :: .ref 188 :: .ref 189 :: .int 0 :: .ref 190 :: .ref 191 :: .ref 192 :: .ref 193 :: .ref 194 :: .int 0 :: .ref 195 :: .ref 196 :: .ref 197 :: .int 0 :: .ref 198 :: .ref 199 :: .ref 200 :: .ref 201 :: .ref 202 :: .ref 203 :: .int 0 :: .ref 204 :: .ref 205 :: .ref 206 :: .ref 207 :: .ref 208 :: .ref 209 :: .ref 210 :: .ref 211 :: .ref 212 :: .ref 213 :: .ref 214 :: .int 0 :: .ref 215 :: .ref 216 :: .int 0 :: .ref 217 :: .ref 218 :: .ref 219 :: .ref 220 :: .ref 221 :: .int 0 :: .int 0 :: .int 0 :: .int 0 :: .ref 222 :: .int 0 :: [])))] (some (.int 0)) n) := by
  refine AM.of (by decide +kernel) rfl (Nat.le_of_ble_eq_true rfl) (fun p e s m args below meth c C hnm => ?_)
  refine ao_start ?_
  refine aw_nl [some (.ref 181), some (.int a1)] rfl ?_
  obtain ⟨q0a, q0b⟩ := q0
  refine aw_ald_n C dX9_end_0 rfl ?_
  refine aw_iconst C 0 dX9_end_1 ki_0 ?_
  refine ao_put C [(181, .inr (9, (.int 0 :: .ref 182 :: .ref 183 :: .ref 184 :: .ref 185 :: .int 0 :: .int 0 :: .int 0 :: .ref 186 :: .int 0 :: .int 0 :: .int 0 :: .int (-1) :: .ref 187 :: .ref 188 :: .ref 189 :: .int 0 :: .ref 190 :: .ref 191 :: .ref 192 :: .ref 193 :: .ref 194 :: .int 0 :: .ref 195 :: .ref 196 :: .ref 197 :: .int 0 :: .ref 198 :: .ref 199 :: .ref 200 :: .ref 201 :: .ref 202 :: .ref 203 :: .int 0 :: .ref 204 :: .ref 205 :: .ref 206 :: .ref 207 :: .ref 208 :: .ref 209 :: .ref 210 :: .ref 211 :: .ref 212 :: .ref 213 :: .ref 214 :: .int 0 :: .ref 215 :: .ref 216 :: .int 0 :: .ref 217 :: .ref 218 :: .ref 219 :: .ref 220 :: .ref 221 :: .int 0 :: .int 0 :: .int 0 :: .int 0 :: .ref 222 :: .int 0 :: [])))] gf_X9_138 cf9 nf9_0 h181 (Nat.le_of_ble_eq_true rfl) rfl rfl dX9_end_2 rfl ?_
  refine aw_iload_n C dX9_end_5 rfl ?_
  refine aw_iconst C 0 dX9_end_6 ki_0 ?_
  refine aw_ald_n C dX9_end_7 rfl ?_
  refine aw_get C gf_X9_337 rfl rfl dX9_end_8 ?_
  refine ao_callS C [.int a1, .int 0, .int 0] [(181, .inr (9, (.int 0 :: .ref 182 :: .ref 183 :: .ref 184 :: .ref 185 :: .int 0 :: .int 0 :: .int 0 :: .ref 186 :: .int 0 :: .int 0 :: .int 0 :: .int (-1) :: .ref 187 :: .ref 188 :: .ref 189 :: .int 0 :: .ref 190 :: .ref 191 :: .ref 192 :: .ref 193 :: .ref 194 :: .int 0 :: .ref 195 :: .ref 196 :: .ref 197 :: .int 0 :: .ref 198 :: .ref 199 :: .ref 200 :: .ref 201 :: .ref 202 :: .ref 203 :: .int 0 :: .ref 204 :: .ref 205 :: .ref 206 :: .ref 207 :: .ref 208 :: .ref 209 :: .ref 210 :: .ref 211 :: .ref 212 :: .ref 213 :: .ref 214 :: .int 0 :: .ref 215 :: .ref 216 :: .int 0 :: .ref 217 :: .ref 218 :: .ref 219 :: .ref 220 :: .ref 221 :: .int 0 :: .int 0 :: .int 0 :: .int 0 :: .ref 222 :: .int 0 :: [])))] ms_X9_141 (c_X9_isIn_159 ⟨by omega, by omega⟩) rfl dX9_end_11 (Nat.le_of_ble_eq_true rfl) (Nat.le_of_ble_eq_true rfl) rfl (Nat.le_of_ble_eq_true rfl) (Nat.le_of_ble_eq_true rfl) (Nat.le_of_ble_eq_true rfl) rfl ?_
  refine aw_if_ne C 19 dX9_end_14 (by decide) (fun q => absurd (by decide) q) (fun _ => ?_)
  refine aw_iconst C 0 dX9_end_17 ki_0 ?_
  exact aw_iret C rfl (by decide) dX9_end_18 (Nat.le_of_ble_eq_true rfl) (Nat.le_of_ble_eq_true rfl) ⟨rfl, rfl, rfl⟩

set_option maxHeartbeats 4000000 in
set_option maxRecDepth 100000 in
theorem c_X5_cutTo_161 {X : GX} {l : Launch} {f : AH} {n : Nat} (h1 : f 1 = some (.inr (5, [.ref 2, .int 0]))) : AM X l yX5_cutTo cX5_cutTo 2 none 0 0 0 [.ref 1, .int 0] f n (EXO f [] none n) := by
  refine AM.of (by decide +kernel) rfl (by decide) (fun p e s m args below meth c C hnm => ?_)
  refine ao_start ?_
  refine aw_nl [some (.ref 1), some (.int 0)] rfl ?_
  refine aw_iload_n C dX5_cutTo_0 rfl ?_
  refine aw_if_lt C 17 dX5_cutTo_1 (by decide) (fun q => absurd q (by decide)) (fun _ => ?_)
  refine aw_iload_n C dX5_cutTo_4 rfl ?_
  refine aw_ald_n C dX5_cutTo_5 rfl ?_
  refine aw_get C gf_X5_15 h1 rfl dX5_cutTo_6 ?_
  refine aw_icmp_ge C 17 dX5_cutTo_9 (by decide) (fun _ => ?_) (fun q => absurd (by decide) q)
  exact aw_vret C rfl dX5_cutTo_17 (Nat.le_of_ble_eq_true rfl) (Nat.le_of_ble_eq_true rfl) ⟨rfl, rfl, rfl⟩

set_option maxHeartbeats 4000000 in
set_option maxRecDepth 100000 in
theorem c_X8_end_162 {X : GX} {l : Launch} {f : AH} {n : Nat} (h0 : f 0 = some (.inr (8, [.ref 1, .ref 3, .ref 8, .ref 13, .ref 18, .ref 59, .ref 115, .ref 171, .ref 178, .int 0, .int 0, .int 0, .int 0, .int (-1)]))) (h1 : f 1 = some (.inr (5, [.ref 2, .int 0]))) : AM X l yX8_end cX8_end 2 (some .boolean) 1 0 0 [.ref 0, .int 0] f n (EXO f [] (some (.int 1)) n) := by
  refine AM.of (by decide +kernel) rfl (by decide) (fun p e s m args below meth c C hnm => ?_)
  refine ao_start ?_
  refine aw_nl [some (.ref 0), some (.int 0)] rfl ?_
  refine aw_iload_n C dX8_end_0 rfl ?_
  refine aw_if_lt C 15 dX8_end_1 (by decide) (fun q => absurd q (by decide)) (fun _ => ?_)
  refine aw_iload_n C dX8_end_4 rfl ?_
  refine aw_ald_n C dX8_end_5 rfl ?_
  refine aw_get C gf_X8_14 h0 rfl dX8_end_6 ?_
  refine ao_callV C (ci := 5) (b := 1) [] [] mv_X8_63 rfl rfl h1 (c_X5_size_129 h1) rfl dX8_end_9 (Nat.le_of_ble_eq_true rfl) (Nat.le_of_ble_eq_true rfl) rfl (Nat.le_of_ble_eq_true rfl) (Nat.le_of_ble_eq_true rfl) (Nat.le_of_ble_eq_true rfl) rfl ?_
  refine aw_icmp_le C 17 dX8_end_12 (by decide) (fun _ => ?_) (fun q => absurd (by decide) q)
  refine aw_ald_n C dX8_end_17 rfl ?_
  refine aw_get C gf_X8_14 h0 rfl dX8_end_18 ?_
  refine aw_iload_n C dX8_end_21 rfl ?_
  refine ao_callV C (ci := 5) (b := 1) [.int 0] [] mv_X8_70 rfl rfl h1 (c_X5_cutTo_161 h1) rfl dX8_end_22 (Nat.le_of_ble_eq_true rfl) (Nat.le_of_ble_eq_true rfl) rfl (Nat.le_of_ble_eq_true rfl) (Nat.le_of_ble_eq_true rfl) (Nat.le_of_ble_eq_true rfl) rfl ?_
  refine aw_iconst C 1 dX8_end_25 ki_1 ?_
  exact aw_iret C rfl (by decide) dX8_end_26 (Nat.le_of_ble_eq_true rfl) (Nat.le_of_ble_eq_true rfl) ⟨rfl, rfl, rfl⟩

set_option maxHeartbeats 4000000 in
set_option maxRecDepth 100000 in
theorem c_X9_isIn_163 {X : GX} {l : Launch} {f : AH} {n : Nat} : AM X l yX9_isIn cX9_isIn 3 (some .boolean) 0 0 0 [.int 0, .int 0, .int 0] f n (EXO f [] (some (.int 1)) n) := by
  refine AM.of (by decide +kernel) rfl (by decide) (fun p e s m args below meth c C hnm => ?_)
  refine ao_start ?_
  refine aw_nl [some (.int 0), some (.int 0), some (.int 0)] rfl ?_
  refine aw_iload_n C dX9_isIn_0 rfl ?_
  refine aw_iload_n C dX9_isIn_1 rfl ?_
  refine aw_icmp_lt C 14 dX9_isIn_2 (by decide) (fun q => absurd q (by decide)) (fun _ => ?_)
  refine aw_iload_n C dX9_isIn_5 rfl ?_
  refine aw_iload_n C dX9_isIn_6 rfl ?_
  refine aw_icmp_gt C 14 dX9_isIn_7 (by decide) (fun q => absurd q (by decide)) (fun _ => ?_)
  refine aw_iconst C 1 dX9_isIn_10 ki_1 ?_
  refine aw_goto C 15 dX9_isIn_11 (by decide) ?_
  exact aw_iret C rfl (by decide) dX9_isIn_15 (Nat.le_of_ble_eq_true rfl) (Nat.le_of_ble_eq_true rfl) ⟨rfl, rfl, rfl⟩

set_option maxHeartbeats 4000000 in
set_option maxRecDepth 100000 in
theorem c_X9_end_164 {X : GX} {l : Launch} {f : AH} {n : Nat} (h181 : f 181 = some (.inr (9, (.int 0 :: .ref 182 :: .ref 183 :: .ref 184 :: .ref 185 :: .int 0 :: .int 0 :: .int 0 :: .ref 186 :: .int 0 :: .int 0 :: .int 0 :: .int (-1) :: .ref 187 :: .ref 188 :: .ref 189 :: .int 0 :: .ref 190 :: .ref 191 :: .ref 192 :: .ref 193 :: .ref 194 :: .int 0 :: .ref 195 :: .ref 196 :: .ref 197 :: .int 0 :: .ref 198 :: .ref 199 :: .ref 200 :: .ref 201 :: .ref 202 :: .ref 203 :: .int 0 :: .ref 204 :: .ref 205 :: .ref 206 :: .ref 207 :: .ref 208 :: .ref 209 :: .ref 210 :: .ref 211 :: .ref 212 :: .ref 213 :: .ref 214 :: .int 0 :: .ref 215 :: .ref 216 :: .int 0 :: .ref 217 :: .ref 218 :: .ref 219 :: .ref 220 :: .ref 221 :: .int 0 :: .int 0 :: .int 0 :: .int 0 :: .ref 222 :: .int 0 :: [])))) : AM X l yX9_end cX9_end 2 (some .boolean) 1 0 0 [.ref 181, .int 0] f n (EXO f [(181, .inr (9, (.int 0 :: .ref 182 :: .ref 183 :: .ref 184 :: .ref 185 :: .int 0 :: .int 0 :: .int 0 :: .ref 186 :: .int 0 :: .int 0 :: .int 0 :: .int (-1) :: .ref 187 :: .ref 188 :: .ref 189 :: .int 0 :: .ref 190 :: .ref 191 :: .ref 192 :: .ref 193 :: .ref 194 :: .int 0 :: .ref 195 :: .ref 196 :: .ref 197 :: .int 0 :: .ref 198 :: .ref 199 :: .ref 200 :: .ref 201 :: .ref 202 :: .ref 203 :: .int 0 :: .ref 204 :: .ref 205 :: .ref 206 :: .ref 207 :: .ref 208 :: .ref 209 :: .ref 210 :: .ref 211 :: .ref 212 :: .ref 213 :: .ref 214 :: .int 0 :: .ref 215 :: .ref 216 :: .int 0 :: .ref 217 :: .ref 218 :: .ref 219 :: .ref 220 :: .ref 221 :: .int 0 :: .int 0 :: .int 0 :: .int 0 :: .ref 222 :: .int 0 :: [])))] (some (.int 1)) n) := by
  refine AM.of (by decide +kernel) rfl (by decide) (fun p e s m args below meth c C hnm => ?_)
  refine ao_start ?_
  refine aw_nl [some (.ref 181), some (.int 0)] rfl ?_
  refine aw_ald_n C dX9_end_0 rfl ?_
  refine aw_iconst C 0 dX9_end_1 ki_0 ?_
  refine ao_put C [(181, .inr (9, (.int 0 :: .ref 182 :: .ref 183 :: .ref 184 :: .ref 185 :: .int 0 :: .int 0 :: .int 0 :: .ref 186 :: .int 0 :: .int 0 :: .int 0 :: .int (-1) :: .ref 187 :: .ref 188 :: .ref 189 :: .int 0 :: .ref 190 :: .ref 191 :: .ref 192 :: .ref 193 :: .ref 194 :: .int 0 :: .ref 195 :: .ref 196 :: .ref 197 :: .int 0 :: .ref 198 :: .ref 199 :: .ref 200 :: .ref 201 :: .ref 202 :: .ref 203 :: .int 0 :: .ref 204 :: .ref 205 :: .ref 206 :: .ref 207 :: .ref 208 :: .ref 209 :: .ref 210 :: .ref 211 :: .ref 212 :: .ref 213 :: .ref 214 :: .int 0 :: .ref 215 :: .ref 216 :: .int 0 :: .ref 217 :: .ref 218 :: .ref 219 :: .ref 220 :: .ref 221 :: .int 0 :: .int 0 :: .int 0 :: .int 0 :: .ref 222 :: .int 0 :: [])))] gf_X9_138 cf9 nf9_0 h181 (Nat.le_of_ble_eq_true rfl) rfl rfl dX9_end_2 rfl ?_
  refine aw_iload_n C dX9_end_5 rfl ?_
  refine aw_iconst C 0 dX9_end_6 ki_0 ?_
  refine aw_ald_n C dX9_end_7 rfl ?_
  refine aw_get C gf_X9_337 rfl rfl dX9_end_8 ?_
  refine ao_callS C [.int 0, .int 0, .int 0] [(181, .inr (9, (.int 0 :: .ref 182 :: .ref 183 :: .ref 184 :: .ref 185 :: .int 0 :: .int 0 :: .int 0 :: .ref 186 :: .int 0 :: .int 0 :: .int 0 :: .int (-1) :: .ref 187 :: .ref 188 :: .ref 189 :: .int 0 :: .ref 190 :: .ref 191 :: .ref 192 :: .ref 193 :: .ref 194 :: .int 0 :: .ref 195 :: .ref 196 :: .ref 197 :: .int 0 :: .ref 198 :: .ref 199 :: .ref 200 :: .ref 201 :: .ref 202 :: .ref 203 :: .int 0 :: .ref 204 :: .ref 205 :: .ref 206 :: .ref 207 :: .ref 208 :: .ref 209 :: .ref 210 :: .ref 211 :: .ref 212 :: .ref 213 :: .ref 214 :: .int 0 :: .ref 215 :: .ref 216 :: .int 0 :: .ref 217 :: .ref 218 :: .ref 219 :: .ref 220 :: .ref 221 :: .int 0 :: .int 0 :: .int 0 :: .int 0 :: .ref 222 :: .int 0 :: [])))] ms_X9_141 (c_X9_isIn_163) rfl dX9_end_11 (Nat.le_of_ble_eq_true rfl) (Nat.le_of_ble_eq_true rfl) rfl (Nat.le_of_ble_eq_true rfl) (Nat.le_of_ble_eq_true rfl) (Nat.le_of_ble_eq_true rfl) rfl ?_
  refine aw_if_ne C 19 dX9_end_14 (by decide) (fun _ => ?_) (fun q => absurd q (by decide))
  refine aw_ald_n C dX9_end_19 rfl ?_
  refine aw_iload_n C dX9_end_20 rfl ?_
  refine ao_put C [(181, .inr (9, (.int 0 :: .ref 182 :: .ref 183 :: .ref 184 :: .ref 185 :: .int 0 :: .int 0 :: .int 0 :: .ref 186 :: .int 0 :: .int 0 :: .int 0 :: .int (-1) :: .ref 187 :: .ref 188 :: .ref 189 :: .int 0 :: .ref 190 :: .ref 191 :: .ref 192 :: .ref 193 :: .ref 194 :: .int 0 :: .ref 195 :: .ref 196 :: .ref 197 :: .int 0 :: .ref 198 :: .ref 199 :: .ref 200 :: .ref 201 :: .ref 202 :: .ref 203 :: .int 0 :: .ref 204 :: .ref 205 :: .ref 206 :: .ref 207 :: .ref 208 :: .ref 209 :: .ref 210 :: .ref 211 :: .ref 212 :: .ref 213 :: .ref 214 :: .int 0 :: .ref 215 :: .ref 216 :: .int 0 :: .ref 217 :: .ref 218 :: .ref 219 :: .ref 220 :: .ref 221 :: .int 0 :: .int 0 :: .int 0 :: .int 0 :: .ref 222 :: .int 0 :: [])))] gf_X9_337 cf9 nf9_9 rfl (Nat.le_of_ble_eq_true rfl) rfl rfl dX9_end_21 rfl ?_
  refine aw_iconst C 1 dX9_end_24 ki_1 ?_
  exact aw_iret C rfl (by decide) dX9_end_25 (Nat.le_of_ble_eq_true rfl) (Nat.le_of_ble_eq_true rfl) ⟨rfl, rfl, rfl⟩

set_option maxHeartbeats 4000000 in
set_option maxRecDepth 100000 in
theorem c_X8_end_165 {X : GX} {l : Launch} {f : AH} {n : Nat} {a1 : Int32} (q0 : 1 ≤ a1.toInt ∧ a1.toInt ≤ 2147483647) (h0 : f 0 = some (.inr (8, [.ref 1, .ref 3, .ref 8, .ref 13, .ref 18, .ref 59, .ref 115, .ref 171, .ref 178, .int 0, .int 0, .int 0, .int 0, .int (-1)]))) (h1 : f 1 = some (.inr (5, [.ref 2, .int 0]))) : AM X l yX8_end cX8_end 2 (some .boolean) 1 0 0 [.ref 0, .int a1] f n (EXO f [] (some (.int 0)) n) := by
  refine AM.of (by decide +kernel) rfl (Nat.le_of_ble_eq_true rfl) (fun p e s m args below meth c C hnm => ?_)
  refine ao_start ?_
  refine aw_nl [some (.ref 0), some (.int a1)] rfl ?_
  obtain ⟨q0a, q0b⟩ := q0
  refine aw_iload_n C dX8_end_0 rfl ?_
  refine aw_if_lt C 15 dX8_end_1 (by decide) (fun q => absurd q (c_nlt (by rw [ti_0]; omega))) (fun _ => ?_)
  refine aw_iload_n C dX8_end_4 rfl ?_
  refine aw_ald_n C dX8_end_5 rfl ?_
  refine aw_get C gf_X8_14 h0 rfl dX8_end_6 ?_
  refine ao_callV C (ci := 5) (b := 1) [] [] mv_X8_63 rfl rfl h1 (c_X5_size_129 h1) rfl dX8_end_9 (Nat.le_of_ble_eq_true rfl) (Nat.le_of_ble_eq_true rfl) rfl (Nat.le_of_ble_eq_true rfl) (Nat.le_of_ble_eq_true rfl) (Nat.le_of_ble_eq_true rfl) rfl ?_
  refine aw_icmp_le C 17 dX8_end_12 (by decide) (fun q => absurd q (c_nle (by rw [ti_0]; omega))) (fun _ => ?_)
  refine aw_iconst C 0 dX8_end_15 ki_0 ?_
  exact aw_iret C rfl (by decide) dX8_end_16 (Nat.le_of_ble_eq_true rfl) (Nat.le_of_ble_eq_true rfl) ⟨rfl, rfl, rfl⟩

set_option maxHeartbeats 4000000 in
set_option maxRecDepth 100000 in
theorem c_X9_isIn_166 {X : GX} {l : Launch} {f : AH} {n : Nat} {a0 : Int32} (q0 : 1 ≤ a0.toInt ∧ a0.toInt ≤ 2147483647) : AM X l yX9_isIn cX9_isIn 3 (some .boolean) 0 0 0 [.int a0, .int 0, .int 0] f n (EXO f [] (some (.int 0)) n) := by
  refine AM.of (by decide +kernel) rfl (Nat.le_of_ble_eq_true rfl) (fun p e s m args below meth c C hnm => ?_)
  refine ao_start ?_
  refine aw_nl [some (.int a0), some (.int 0), some (.int 0)] rfl ?_
  obtain ⟨q0a, q0b⟩ := q0
  refine aw_iload_n C dX9_isIn_0 rfl ?_
  refine aw_iload_n C dX9_isIn_1 rfl ?_
  refine aw_icmp_lt C 14 dX9_isIn_2 (by decide) (fun q => absurd q (c_nlt (by rw [ti_0]; omega))) (fun _ => ?_)
  refine aw_iload_n C dX9_isIn_5 rfl ?_
  refine aw_iload_n C dX9_isIn_6 rfl ?_
  refine aw_icmp_gt C 14 dX9_isIn_7 (by decide) (fun _ => ?_) (fun q => absurd (c_lt (by rw [ti_0]; omega)) q)
  refine aw_iconst C 0 dX9_isIn_14 ki_0 ?_
  exact aw_iret C rfl (by decide) dX9_isIn_15 (Nat.le_of_ble_eq_true rfl) (Nat.le_of_ble_eq_true rfl) ⟨rfl, rfl, rfl⟩

set_option maxHeartbeats 4000000 in
set_option maxRecDepth 100000 in
theorem c_X9_end_167 {X : GX} {l : Launch} {f : AH} {n : Nat} {a1 : Int32} (q0 : 1 ≤ a1.toInt ∧ a1.toInt ≤ 2147483647) (h181 : f 181 = some (.inr (9, (.int 0 :: .ref 182 :: .ref 183 :: .ref 184 :: .ref 185 :: .int 0 :: .int 0 :: .int 0 :: .ref 186 :: .int 0 :: .int 0 :: .int 0 :: .int (-1) :: .ref 187 :: .ref 188 :: .ref 189 :: .int 0 :: .ref 190 :: .ref 191 :: .ref 192 :: .ref 193 :: .ref 194 :: .int 0 :: .ref 195 :: .ref 196 :: .ref 197 :: .int 0 :: .ref 198 :: .ref 199 :: .ref 200 :: .ref 201 :: .ref 202 :: .ref 203 :: .int 0 :: .ref 204 :: .ref 205 :: .ref 206 :: .ref 207 :: .ref 208 :: .ref 209 :: .ref 210 :: .ref 211 :: .ref 212 :: .ref 213 :: .ref 214 :: .int 0 :: .ref 215 :: .ref 216 :: .int 0 :: .ref 217 :: .ref 218 :: .ref 219 :: .ref 220 :: .ref 221 :: .int 0 :: .int 0 :: .int 0 :: .int 0 :: .ref 222 :: .int 0 :: [])))) : AM X l yX9_end cX9_end 2 (some .boolean) 1 0 0 [.ref 181, .int a1] f n (EXO f [(181, .inr (9, (.int 0 :: .ref 182 :: .ref 183 :: .ref 184 :: .ref 185 :: .int 0 :: .int 0 :: .int 0 :: .ref 186 :: .int 0 :: .int 0 :: .int 0 :: .int (-1) :: .ref 187 :: .ref 188 :: .ref 189 :: .int 0 :: .ref 190 :: .ref 191 :: .ref 192 :: .ref 193 :: .ref 194 :: .int 0 :: .ref 195 :: .ref 196 :: .ref 197 :: .int 0 :: .ref 198 :: .ref 199 :: .ref 200 :: .ref 201 :: .ref 202 :: .ref 203 :: .int 0 :: .ref 204 :: .ref 205 :: .ref 206 :: .ref 207 :: .ref 208 :: .ref 209 :: .ref 210 :: .ref 211 :: .ref 212 :: .ref 213 :: .ref 214 :: .int 0 :: .ref 215 :: .ref 216 :: .int 0 :: .ref 217 :: .ref 218 :: .ref 219 :: .ref 220 :: .ref 221 :: .int 0 :: .int 0 :: .int 0 :: .int 0 :: .ref 222 :: .int 0 :: [])))] (some (.int 0)) n) := by
  refine AM.of (by decide +kernel) rfl (Nat.le_of_ble_eq_true rfl) (fun p e s m args below meth c C hnm => ?_)
  refine ao_start ?_
  refine aw_nl [some (.ref 181), some (.int a1)] rfl ?_
  obtain ⟨q0a, q0b⟩ := q0
  refine aw_ald_n C dX9_end_0 rfl ?_
  refine aw_iconst C 0 dX9_end_1 ki_0 ?_
  refine ao_put C [(181, .inr (9, (.int 0 :: .ref 182 :: .ref 183 :: .ref 184 :: .ref 185 :: .int 0 :: .int 0 :: .int 0 :: .ref 186 :: .int 0 :: .int 0 :: .int 0 :: .int (-1) :: .ref 187 :: .ref 188 :: .ref 189 :: .int 0 :: .ref 190 :: .ref 191 :: .ref 192 :: .ref 193 :: .ref 194 :: .int 0 :: .ref 195 :: .ref 196 :: .ref 197 :: .int 0 :: .ref 198 :: .ref 199 :: .ref 200 :: .ref 201 :: .ref 202 :: .ref 203 :: .int 0 :: .ref 204 :: .ref 205 :: .ref 206 :: .ref 207 :: .ref 208 :: .ref 209 :: .ref 210 :: .ref 211 :: .ref 212 :: .ref 213 :: .ref 214 :: .int 0 :: .ref 215 :: .ref 216 :: .int 0 :: .ref 217 :: .ref 218 :: .ref 219 :: .ref 220 :: .ref 221 :: .int 0 :: .int 0 :: .int 0 :: .int 0 :: .ref 222 :: .int 0 :: [])))] gf_X9_138 cf9 nf9_0 h181 (Nat.le_of_ble_eq_true rfl) rfl rfl dX9_end_2 rfl ?_
  refine aw_iload_n C dX9_end_5 rfl ?_
  refine aw_iconst C 0 dX9_end_6 ki_0 ?_
  refine aw_ald_n C dX9_end_7 rfl ?_
  refine aw_get C gf_X9_337 rfl rfl dX9_end_8 ?_
  refine ao_callS C [.int a1, .int 0, .int 0] [(181, .inr (9, (.int 0 :: .ref 182 :: .ref 183 :: .ref 184 :: .ref 185 :: .int 0 :: .int 0 :: .int 0 :: .ref 186 :: .int 0 :: .int 0 :: .int 0 :: .int (-1) :: .ref 187 :: .ref 188 :: .ref 189 :: .int 0 :: .ref 190 :: .ref 191 :: .ref 192 :: .ref 193 :: .ref 194 :: .int 0 :: .ref 195 :: .ref 196 :: .ref 197 :: .int 0 :: .ref 198 :: .ref 199 :: .ref 200 :: .ref 201 :: .ref 202 :: .ref 203 :: .int 0 :: .ref 204 :: .ref 205 :: .ref 206 :: .ref 207 :: .ref 208 :: .ref 209 :: .ref 210 :: .ref 211 :: .ref 212 :: .ref 213 :: .ref 214 :: .int 0 :: .ref 215 :: .ref 216 :: .int 0 :: .ref 217 :: .ref 218 :: .ref 219 :: .ref 220 :: .ref 221 :: .int 0 :: .int 0 :: .int 0 :: .int 0 :: .ref 222 :: .int 0 :: [])))] ms_X9_141 (c_X9_isIn_166 ⟨by omega, by omega⟩) rfl dX9_end_11 (Nat.le_of_ble_eq_true rfl) (Nat.le_of_ble_eq_true rfl) rfl (Nat.le_of_ble_eq_true rfl) (Nat.le_of_ble_eq_true rfl) (Nat.le_of_ble_eq_true rfl) rfl ?_
  refine aw_if_ne C 19 dX9_end_14 (by decide) (fun q => absurd (by decide) q) (fun _ => ?_)
  refine aw_iconst C 0 dX9_end_17 ki_0 ?_
  exact aw_iret C rfl (by decide) dX9_end_18 (Nat.le_of_ble_eq_true rfl) (Nat.le_of_ble_eq_true rfl) ⟨rfl, rfl, rfl⟩

set_option maxHeartbeats 4000000 in
set_option maxRecDepth 100000 in
theorem c_X7_copyFrom_168 {X : GX} {l : Launch} {f : AH} {n : Nat} (h3 : f 3 = some (.inr (7, [.ref 4, .int 0, .int (-1), .int 0, .int 1, .int 0, .null, .int 0, .ref 6, .ref 7]))) (h8 : f 8 = some (.inr (7, [.ref 9, .int 0, .int (-1), .int 0, .int 1, .int 0, .null, .int 0, .ref 11, .ref 12]))) (h11 : f 11 = some (.inl (2, 4, .inr (.inr (fun _ => none))))) (h6 : f 6 = some (.inl (2, 4, .inr (.inr (fun _ => none))))) (h12 : f 12 = some (.inl (2, 40, .inr (.inr (fun _ => none))))) (h7 : f 7 = some (.inl (2, 40, .inr (.inr (fun _ => none))))) : AM X l yX7_copyFrom cX7_copyFrom 3 none 0 0 0 [.ref 8, .ref 3] f n (EXO f [(8, .inr (7, [.ref 4, .int 0, .int (-1), .int 0, .int 1, .int 0, .null, .int 0, .ref 11, .ref 12]))] none n) := by
  refine AM.of (by decide +kernel) rfl (by decide) (fun p e s m args below meth c C hnm => ?_)
  refine ao_start ?_
  refine aw_nl [some (.ref 8), some (.ref 3), none] rfl ?_
  refine aw_ald_n C dX7_copyFrom_0 rfl ?_
  refine aw_ald_n C dX7_copyFrom_1 rfl ?_
  refine aw_get C gf_X7_14 h3 rfl dX7_copyFrom_2 ?_
  refine ao_put C [(8, .inr (7, [.ref 4, .int 0, .int (-1), .int 0, .int 1, .int 0, .null, .int 0, .ref 11, .ref 12]))] gf_X7_14 cf7 nf7_0 h8 (Nat.le_of_ble_eq_true rfl) rfl rfl dX7_copyFrom_5 rfl ?_
  refine aw_ald_n C dX7_copyFrom_8 rfl ?_
  refine aw_ald_n C dX7_copyFrom_9 rfl ?_
  refine aw_get C gf_X7_20 h3 rfl dX7_copyFrom_10 ?_
  refine ao_put C [(8, .inr (7, [.ref 4, .int 0, .int (-1), .int 0, .int 1, .int 0, .null, .int 0, .ref 11, .ref 12]))] gf_X7_20 cf7 nf7_1 rfl (Nat.le_of_ble_eq_true rfl) rfl rfl dX7_copyFrom_13 rfl ?_
  refine aw_ald_n C dX7_copyFrom_16 rfl ?_
  refine aw_ald_n C dX7_copyFrom_17 rfl ?_
  refine aw_get C gf_X7_24 h3 rfl dX7_copyFrom_18 ?_
  refine ao_put C [(8, .inr (7, [.ref 4, .int 0, .int (-1), .int 0, .int 1, .int 0, .null, .int 0, .ref 11, .ref 12]))] gf_X7_24 cf7 nf7_2 rfl (Nat.le_of_ble_eq_true rfl) rfl rfl dX7_copyFrom_21 rfl ?_
  refine aw_ald_n C dX7_copyFrom_24 rfl ?_
  refine aw_ald_n C dX7_copyFrom_25 rfl ?_
  refine aw_get C gf_X7_37 h3 rfl dX7_copyFrom_26 ?_
  refine ao_put C [(8, .inr (7, [.ref 4, .int 0, .int (-1), .int 0, .int 1, .int 0, .null, .int 0, .ref 11, .ref 12]))] gf_X7_37 cf7 nf7_3 rfl (Nat.le_of_ble_eq_true rfl) (by decide) (by decide) dX7_copyFrom_29 rfl ?_
  refine aw_ald_n C dX7_copyFrom_32 rfl ?_
  refine aw_ald_n C dX7_copyFrom_33 rfl ?_
  refine aw_get C gf_X7_27 h3 rfl dX7_copyFrom_34 ?_
  refine ao_put C [(8, .inr (7, [.ref 4, .int 0, .int (-1), .int 0, .int 1, .int 0, .null, .int 0, .ref 11, .ref 12]))] gf_X7_27 cf7 nf7_4 rfl (Nat.le_of_ble_eq_true rfl) rfl rfl dX7_copyFrom_37 rfl ?_
  refine aw_ald_n C dX7_copyFrom_40 rfl ?_
  refine aw_ald_n C dX7_copyFrom_41 rfl ?_
  refine aw_get C gf_X7_41 h3 rfl dX7_copyFrom_42 ?_
  refine ao_put C [(8, .inr (7, [.ref 4, .int 0, .int (-1), .int 0, .int 1, .int 0, .null, .int 0, .ref 11, .ref 12]))] gf_X7_41 cf7 nf7_5 rfl (Nat.le_of_ble_eq_true rfl) rfl rfl dX7_copyFrom_45 rfl ?_
  refine aw_ald_n C dX7_copyFrom_48 rfl ?_
  refine aw_ald_n C dX7_copyFrom_49 rfl ?_
  refine aw_get C gf_X7_44 h3 rfl dX7_copyFrom_50 ?_
  refine ao_put C [(8, .inr (7, [.ref 4, .int 0, .int (-1), .int 0, .int 1, .int 0, .null, .int 0, .ref 11, .ref 12]))] gf_X7_44 cf7 nf7_6 rfl (Nat.le_of_ble_eq_true rfl) rfl rfl dX7_copyFrom_53 rfl ?_
  refine aw_ald_n C dX7_copyFrom_56 rfl ?_
  refine aw_ald_n C dX7_copyFrom_57 rfl ?_
  refine aw_get C gf_X7_48 h3 rfl dX7_copyFrom_58 ?_
  refine ao_put C [(8, .inr (7, [.ref 4, .int 0, .int (-1), .int 0, .int 1, .int 0, .null, .int 0, .ref 11, .ref 12]))] gf_X7_48 cf7 nf7_7 rfl (Nat.le_of_ble_eq_true rfl) rfl rfl dX7_copyFrom_61 rfl ?_
  refine aw_iconst C 0 dX7_copyFrom_64 ki_0 ?_
  refine aw_istore_n C dX7_copyFrom_65 (by decide) rfl ?_
  refine aw_nl [some (.ref 8), some (.ref 3), some (.int 0)] rfl ?_
  refine lz_locks C (f := ovl f [(8, .inr (7, [.ref 4, .int 0, .int (-1), .int 0, .int 1, .int 0, .null, .int 0, .ref 11, .ref 12]))]) (S := 8) (T := 3) (a := 11) (b := 6) (fs := [.ref 4, .int 0, .int (-1), .int 0, .int 1, .int 0, .null, .int 0, .ref 11, .ref 12]) (gs := [.ref 4, .int 0, .int (-1), .int 0, .int 1, .int 0, .null, .int 0, .ref 6, .ref 7]) rfl h3 rfl rfl h11 h6 ?_ 4 0 rfl
  refine aw_iconst C 0 dX7_copyFrom_102 ki_0 ?_
  refine aw_istore_n C dX7_copyFrom_103 (by decide) rfl ?_
  refine aw_nl [some (.ref 8), some (.ref 3), some (.int 0)] rfl ?_
  refine lz_told C (f := ovl f [(8, .inr (7, [.ref 4, .int 0, .int (-1), .int 0, .int 1, .int 0, .null, .int 0, .ref 11, .ref 12]))]) (S := 8) (T := 3) (a := 12) (b := 7) (fs := [.ref 4, .int 0, .int (-1), .int 0, .int 1, .int 0, .null, .int 0, .ref 11, .ref 12]) (gs := [.ref 4, .int 0, .int (-1), .int 0, .int 1, .int 0, .null, .int 0, .ref 6, .ref 7]) rfl h3 rfl rfl h12 h7 ?_ 40 0 rfl
  exact aw_vret C rfl dX7_copyFrom_140 (Nat.le_of_ble_eq_true rfl) (Nat.le_of_ble_eq_true rfl) ⟨rfl, rfl, rfl⟩

set_option maxHeartbeats 4000000 in
set_option maxRecDepth 100000 in
theorem c_X5_behindBlanks_169 {X : GX} {l : Launch} {f : AH} {n : Nat} : AM X l yX5_behindBlanks cX5_behindBlanks 4 (some .int) 0 0 0 [.ref 1, .int 0, .int 0] f n (EXO f [] (some (.int 0)) n) := by
  refine AM.of (by decide +kernel) rfl (by decide) (fun p e s m args below meth c C hnm => ?_)
  refine ao_start ?_
  refine aw_nl [some (.ref 1), some (.int 0), some (.int 0), none] rfl ?_
  refine aw_iload_n C dX5_behindBlanks_0 rfl ?_
  refine aw_istore_n C dX5_behindBlanks_1 (by decide) rfl ?_
  refine aw_nl [some (.ref 1), some (.int 0), some (.int 0), some (.int 0)] rfl ?_
  refine aw_iload_n C dX5_behindBlanks_2 rfl ?_
  refine aw_if_lt C 39 dX5_behindBlanks_3 (by decide) (fun q => absurd q (by decide)) (fun _ => ?_)
  refine aw_iload_n C dX5_behindBlanks_6 rfl ?_
  refine aw_iload_n C dX5_behindBlanks_7 rfl ?_
  refine aw_icmp_ge C 39 dX5_behindBlanks_8 (by decide) (fun _ => ?_) (fun q => absurd (by decide) q)
  refine aw_iload_n C dX5_behindBlanks_39 rfl ?_
  exact aw_iret C rfl rfl dX5_behindBlanks_40 (Nat.le_of_ble_eq_true rfl) (Nat.le_of_ble_eq_true rfl) ⟨rfl, rfl, rfl⟩

