set_option maxHeartbeats 4000000 in
set_option maxRecDepth 100000 in
theorem c_X5_size_129 {X : GX} {l : Launch} {f : AH} {n : Nat} (h1 : f 1 = some (.inr (5, [.ref 2, .int 0]))) : AM X l yX5_size cX5_size 1 (some .int) 0 0 0 [.ref 1] f n (EXO f [] (some (.int 0)) n) := by
  refine AM.of (by decide +kernel) rfl (by decide) (fun p e s m args below meth c C hnm => ?_)
  refine ao_start ?_
  refine aw_nl [some (.ref 1)] rfl ?_
  refine aw_ald_n C dX5_size_0 rfl ?_
  refine aw_get C gf_X5_15 h1 rfl dX5_size_1 ?_
  exact aw_iret C rfl rfl dX5_size_4 (Nat.le_of_ble_eq_true rfl) (Nat.le_of_ble_eq_true rfl) ⟨rfl, rfl, rfl⟩

set_option maxHeartbeats 4000000 in
set_option maxRecDepth 100000 in
theorem c_X5_add_130 {X : GX} {l : Launch} {f : AH} {n : Nat} {a1 : Int32} (h1 : f 1 = some (.inr (5, [.ref 2, .int 0]))) (h2 : f 2 = some (.inl (0, 400, .inl (fun _ => 0)))) : AM X l yX5_add cX5_add 2 (some .boolean) 0 0 0 [.ref 1, .int a1] f n (EXO f [(2, .inl (0, 400, .inl (upd (fun _ => 0) 0 a1))), (1, .inr (5, [.ref 2, .int 1]))] (some (.int 1)) n) := by
  refine AM.of (by decide +kernel) rfl (Nat.le_of_ble_eq_true rfl) (fun p e s m args below meth c C hnm => ?_)
  refine ao_start ?_
  refine aw_nl [some (.ref 1), some (.int a1)] rfl ?_
  refine aw_ald_n C dX5_add_0 rfl ?_
  refine aw_get C gf_X5_15 h1 rfl dX5_add_1 ?_
  refine aw_if_lt C 19 dX5_add_4 (by decide) (fun q => absurd q (by decide)) (fun _ => ?_)
  refine aw_ald_n C dX5_add_7 rfl ?_
  refine aw_get C gf_X5_15 h1 rfl dX5_add_8 ?_
  refine aw_ald_n C dX5_add_11 rfl ?_
  refine aw_get C gf_X5_9 h1 rfl dX5_add_12 ?_
  refine aw_alen C (by decide) h2 dX5_add_15 ?_
  refine aw_top 400 (by decide) ?_
  refine aw_icmp_lt C 21 dX5_add_16 (by decide) (fun _ => ?_) (fun q => absurd (by decide) q)
  refine aw_ald_n C dX5_add_21 rfl ?_
  refine aw_get C gf_X5_9 h1 rfl dX5_add_22 ?_
  refine aw_ald_n C dX5_add_25 rfl ?_
  refine aw_get C gf_X5_15 h1 rfl dX5_add_26 ?_
  refine aw_iload_n C dX5_add_29 rfl ?_
  refine ao_iast C [(2, .inl (0, 400, .inl (upd (fun _ => 0) 0 a1)))] h2 (by unfold vp_in; decide) (by decide : _ = 0) dX5_add_30 rfl ?_
  refine aw_ald_n C dX5_add_31 rfl ?_
  refine aw_dup C dX5_add_32 rfl ?_
  refine aw_get C gf_X5_15 h1 rfl dX5_add_33 ?_
  refine aw_iconst C 1 dX5_add_36 ki_1 ?_
  refine ae_iadd C 1 dX5_add_37 (by decide) ?_
  refine ao_put C [(2, .inl (0, 400, .inl (upd (fun _ => 0) 0 a1))), (1, .inr (5, [.ref 2, .int 1]))] gf_X5_15 cf5 nf5_1 h1 (Nat.le_of_ble_eq_true rfl) rfl rfl dX5_add_38 rfl ?_
  refine aw_iconst C 1 dX5_add_41 ki_1 ?_
  exact aw_iret C rfl (by decide) dX5_add_42 (Nat.le_of_ble_eq_true rfl) (Nat.le_of_ble_eq_true rfl) ⟨rfl, rfl, rfl⟩

set_option maxHeartbeats 4000000 in
set_option maxRecDepth 100000 in
theorem c_X5_add_131 {X : GX} {l : Launch} {f : AH} {n : Nat} {a1 : Int32} {g2 : Nat → Int32} (h1 : f 1 = some (.inr (5, [.ref 2, .int 1]))) (h2 : f 2 = some (.inl (0, 400, .inl g2))) : AM X l yX5_add cX5_add 2 (some .boolean) 0 0 0 [.ref 1, .int a1] f n (EXO f [(2, .inl (0, 400, .inl (upd g2 1 a1))), (1, .inr (5, [.ref 2, .int 2]))] (some (.int 1)) n) := by
  refine AM.of (by decide +kernel) rfl (Nat.le_of_ble_eq_true rfl) (fun p e s m args below meth c C hnm => ?_)
  refine ao_start ?_
  refine aw_nl [some (.ref 1), some (.int a1)] rfl ?_
  refine aw_ald_n C dX5_add_0 rfl ?_
  refine aw_get C gf_X5_15 h1 rfl dX5_add_1 ?_
  refine aw_if_lt C 19 dX5_add_4 (by decide) (fun q => absurd q (by decide)) (fun _ => ?_)
  refine aw_ald_n C dX5_add_7 rfl ?_
  refine aw_get C gf_X5_15 h1 rfl dX5_add_8 ?_
  refine aw_ald_n C dX5_add_11 rfl ?_
  refine aw_get C gf_X5_9 h1 rfl dX5_add_12 ?_
  refine aw_alen C (by decide) h2 dX5_add_15 ?_
  refine aw_top 400 (by decide) ?_
  refine aw_icmp_lt C 21 dX5_add_16 (by decide) (fun _ => ?_) (fun q => absurd (by decide) q)
  refine aw_ald_n C dX5_add_21 rfl ?_
  refine aw_get C gf_X5_9 h1 rfl dX5_add_22 ?_
  refine aw_ald_n C dX5_add_25 rfl ?_
  refine aw_get C gf_X5_15 h1 rfl dX5_add_26 ?_
  refine aw_iload_n C dX5_add_29 rfl ?_
  refine ao_iast C [(2, .inl (0, 400, .inl (upd g2 1 a1)))] h2 (by unfold vp_in; decide) (by decide : _ = 1) dX5_add_30 rfl ?_
  refine aw_ald_n C dX5_add_31 rfl ?_
  refine aw_dup C dX5_add_32 rfl ?_
  refine aw_get C gf_X5_15 h1 rfl dX5_add_33 ?_
  refine aw_iconst C 1 dX5_add_36 ki_1 ?_
  refine ae_iadd C 2 dX5_add_37 (by decide) ?_
  refine ao_put C [(2, .inl (0, 400, .inl (upd g2 1 a1))), (1, .inr (5, [.ref 2, .int 2]))] gf_X5_15 cf5 nf5_1 h1 (Nat.le_of_ble_eq_true rfl) rfl rfl dX5_add_38 rfl ?_
  refine aw_iconst C 1 dX5_add_41 ki_1 ?_
  exact aw_iret C rfl (by decide) dX5_add_42 (Nat.le_of_ble_eq_true rfl) (Nat.le_of_ble_eq_true rfl) ⟨rfl, rfl, rfl⟩

set_option maxHeartbeats 4000000 in
set_option maxRecDepth 100000 in
theorem c_X5_add_132 {X : GX} {l : Launch} {f : AH} {n : Nat} {a1 : Int32} {g2 : Nat → Int32} (h1 : f 1 = some (.inr (5, [.ref 2, .int 2]))) (h2 : f 2 = some (.inl (0, 400, .inl g2))) : AM X l yX5_add cX5_add 2 (some .boolean) 0 0 0 [.ref 1, .int a1] f n (EXO f [(2, .inl (0, 400, .inl (upd g2 2 a1))), (1, .inr (5, [.ref 2, .int 3]))] (some (.int 1)) n) := by
  refine AM.of (by decide +kernel) rfl (Nat.le_of_ble_eq_true rfl) (fun p e s m args below meth c C hnm => ?_)
  refine ao_start ?_
  refine aw_nl [some (.ref 1), some (.int a1)] rfl ?_
  refine aw_ald_n C dX5_add_0 rfl ?_
  refine aw_get C gf_X5_15 h1 rfl dX5_add_1 ?_
  refine aw_if_lt C 19 dX5_add_4 (by decide) (fun q => absurd q (by decide)) (fun _ => ?_)
  refine aw_ald_n C dX5_add_7 rfl ?_
  refine aw_get C gf_X5_15 h1 rfl dX5_add_8 ?_
  refine aw_ald_n C dX5_add_11 rfl ?_
  refine aw_get C gf_X5_9 h1 rfl dX5_add_12 ?_
  refine aw_alen C (by decide) h2 dX5_add_15 ?_
  refine aw_top 400 (by decide) ?_
  refine aw_icmp_lt C 21 dX5_add_16 (by decide) (fun _ => ?_) (fun q => absurd (by decide) q)
  refine aw_ald_n C dX5_add_21 rfl ?_
  refine aw_get C gf_X5_9 h1 rfl dX5_add_22 ?_
  refine aw_ald_n C dX5_add_25 rfl ?_
  refine aw_get C gf_X5_15 h1 rfl dX5_add_26 ?_
  refine aw_iload_n C dX5_add_29 rfl ?_
  refine ao_iast C [(2, .inl (0, 400, .inl (upd g2 2 a1)))] h2 (by unfold vp_in; decide) (by decide : _ = 2) dX5_add_30 rfl ?_
  refine aw_ald_n C dX5_add_31 rfl ?_
  refine aw_dup C dX5_add_32 rfl ?_
  refine aw_get C gf_X5_15 h1 rfl dX5_add_33 ?_
  refine aw_iconst C 1 dX5_add_36 ki_1 ?_
  refine ae_iadd C 3 dX5_add_37 (by decide) ?_
  refine ao_put C [(2, .inl (0, 400, .inl (upd g2 2 a1))), (1, .inr (5, [.ref 2, .int 3]))] gf_X5_15 cf5 nf5_1 h1 (Nat.le_of_ble_eq_true rfl) rfl rfl dX5_add_38 rfl ?_
  refine aw_iconst C 1 dX5_add_41 ki_1 ?_
  exact aw_iret C rfl (by decide) dX5_add_42 (Nat.le_of_ble_eq_true rfl) (Nat.le_of_ble_eq_true rfl) ⟨rfl, rfl, rfl⟩

set_option maxHeartbeats 4000000 in
set_option maxRecDepth 100000 in
theorem c_X5_add_133 {X : GX} {l : Launch} {f : AH} {n : Nat} {a1 : Int32} {g2 : Nat → Int32} (h1 : f 1 = some (.inr (5, [.ref 2, .int 3]))) (h2 : f 2 = some (.inl (0, 400, .inl g2))) : AM X l yX5_add cX5_add 2 (some .boolean) 0 0 0 [.ref 1, .int a1] f n (EXO f [(2, .inl (0, 400, .inl (upd g2 3 a1))), (1, .inr (5, [.ref 2, .int 4]))] (some (.int 1)) n) := by
  refine AM.of (by decide +kernel) rfl (Nat.le_of_ble_eq_true rfl) (fun p e s m args below meth c C hnm => ?_)
  refine ao_start ?_
  refine aw_nl [some (.ref 1), some (.int a1)] rfl ?_
  refine aw_ald_n C dX5_add_0 rfl ?_
  refine aw_get C gf_X5_15 h1 rfl dX5_add_1 ?_
  refine aw_if_lt C 19 dX5_add_4 (by decide) (fun q => absurd q (by decide)) (fun _ => ?_)
  refine aw_ald_n C dX5_add_7 rfl ?_
  refine aw_get C gf_X5_15 h1 rfl dX5_add_8 ?_
  refine aw_ald_n C dX5_add_11 rfl ?_
  refine aw_get C gf_X5_9 h1 rfl dX5_add_12 ?_
  refine aw_alen C (by decide) h2 dX5_add_15 ?_
  refine aw_top 400 (by decide) ?_
  refine aw_icmp_lt C 21 dX5_add_16 (by decide) (fun _ => ?_) (fun q => absurd (by decide) q)
  refine aw_ald_n C dX5_add_21 rfl ?_
  refine aw_get C gf_X5_9 h1 rfl dX5_add_22 ?_
  refine aw_ald_n C dX5_add_25 rfl ?_
  refine aw_get C gf_X5_15 h1 rfl dX5_add_26 ?_
  refine aw_iload_n C dX5_add_29 rfl ?_
  refine ao_iast C [(2, .inl (0, 400, .inl (upd g2 3 a1)))] h2 (by unfold vp_in; decide) (by decide : _ = 3) dX5_add_30 rfl ?_
  refine aw_ald_n C dX5_add_31 rfl ?_
  refine aw_dup C dX5_add_32 rfl ?_
  refine aw_get C gf_X5_15 h1 rfl dX5_add_33 ?_
  refine aw_iconst C 1 dX5_add_36 ki_1 ?_
  refine ae_iadd C 4 dX5_add_37 (by decide) ?_
  refine ao_put C [(2, .inl (0, 400, .inl (upd g2 3 a1))), (1, .inr (5, [.ref 2, .int 4]))] gf_X5_15 cf5 nf5_1 h1 (Nat.le_of_ble_eq_true rfl) rfl rfl dX5_add_38 rfl ?_
  refine aw_iconst C 1 dX5_add_41 ki_1 ?_
  exact aw_iret C rfl (by decide) dX5_add_42 (Nat.le_of_ble_eq_true rfl) (Nat.le_of_ble_eq_true rfl) ⟨rfl, rfl, rfl⟩

set_option maxHeartbeats 4000000 in
set_option maxRecDepth 100000 in
theorem c_X8_addFour_134 {X : GX} {l : Launch} {f : AH} {n : Nat} {a1 : Int32} (h0 : f 0 = some (.inr (8, [.ref 1, .ref 3, .ref 8, .ref 13, .ref 18, .ref 59, .ref 115, .ref 171, .ref 178, .int 0, .int 0, .int 0, .int 0, .int (-1)]))) (h1 : f 1 = some (.inr (5, [.ref 2, .int 0]))) (h2 : f 2 = some (.inl (0, 400, .inl (fun _ => 0)))) : AM X l yX8_addFour cX8_addFour 3 none 1 0 0 [.ref 0, .int a1] f n (EXO f [(1, .inr (5, [.ref 2, .int 4])), (2, .inl (0, 400, .inl (upd (upd (upd (upd (fun _ => 0) 0 ((((a1.toUInt32 >>> ((24 : Int32).toUInt32 &&& Int32.toUInt32 31)).toInt32) &&& 255))) 1 ((((a1.toUInt32 >>> ((16 : Int32).toUInt32 &&& Int32.toUInt32 31)).toInt32) &&& 255))) 2 ((((a1.toUInt32 >>> ((8 : Int32).toUInt32 &&& Int32.toUInt32 31)).toInt32) &&& 255))) 3 ((((a1.toUInt32 >>> ((0 : Int32).toUInt32 &&& Int32.toUInt32 31)).toInt32) &&& 255)))))] none n) := by
  refine AM.of (by decide +kernel) rfl (Nat.le_of_ble_eq_true rfl) (fun p e s m args below meth c C hnm => ?_)
  refine ao_start ?_
  refine aw_nl [some (.ref 0), some (.int a1), none] rfl ?_
  refine aw_bipush C 24 dX8_addFour_0 kb_24 ?_
  refine aw_istore_n C dX8_addFour_2 (by decide) rfl ?_
  refine aw_nl [some (.ref 0), some (.int a1), some (.int 24)] rfl ?_
  refine aw_iload_n C dX8_addFour_3 rfl ?_
  refine aw_if_lt C 28 dX8_addFour_4 (by decide) (fun q => absurd q (by decide)) (fun _ => ?_)
  refine aw_ald_n C dX8_addFour_7 rfl ?_
  refine aw_get C gf_X8_14 h0 rfl dX8_addFour_8 ?_
  refine aw_iload_n C dX8_addFour_11 rfl ?_
  refine aw_iload_n C dX8_addFour_12 rfl ?_
  refine aw_iushr C dX8_addFour_13 ?_
  refine aw_sipush C 255 dX8_addFour_14 ks_255 ?_
  refine aw_iand C dX8_addFour_17 ?_
  refine ao_callV C (ci := 5) (b := 1) [.int (((a1.toUInt32 >>> ((24 : Int32).toUInt32 &&& Int32.toUInt32 31)).toInt32) &&& 255)] [(1, .inr (5, [.ref 2, .int 1])), (2, .inl (0, 400, .inl (upd (fun _ => 0) 0 ((((a1.toUInt32 >>> ((24 : Int32).toUInt32 &&& Int32.toUInt32 31)).toInt32) &&& 255)))))] mv_X8_314 rfl rfl h1 (c_X5_add_130 h1 h2) rfl dX8_addFour_18 (Nat.le_of_ble_eq_true rfl) (Nat.le_of_ble_eq_true rfl) rfl (Nat.le_of_ble_eq_true rfl) (Nat.le_of_ble_eq_true rfl) (Nat.le_of_ble_eq_true rfl) rfl ?_
  refine aw_pop C dX8_addFour_21 rfl ?_
  refine aw_iinc C 16 dX8_addFour_22 rfl (by decide) (by decide) rfl ?_
  refine aw_nl [some (.ref 0), some (.int a1), some (.int 16)] rfl ?_
  refine aw_goto C 3 dX8_addFour_25 (by decide) ?_
  refine aw_iload_n C dX8_addFour_3 rfl ?_
  refine aw_if_lt C 28 dX8_addFour_4 (by decide) (fun q => absurd q (by decide)) (fun _ => ?_)
  refine aw_ald_n C dX8_addFour_7 rfl ?_
  refine aw_get C gf_X8_14 h0 rfl dX8_addFour_8 ?_
  refine aw_iload_n C dX8_addFour_11 rfl ?_
  refine aw_iload_n C dX8_addFour_12 rfl ?_
  refine aw_iushr C dX8_addFour_13 ?_
  refine aw_sipush C 255 dX8_addFour_14 ks_255 ?_
  refine aw_iand C dX8_addFour_17 ?_
  refine ao_callV C (ci := 5) (b := 1) [.int (((a1.toUInt32 >>> ((16 : Int32).toUInt32 &&& Int32.toUInt32 31)).toInt32) &&& 255)] [(1, .inr (5, [.ref 2, .int 2])), (2, .inl (0, 400, .inl (upd (upd (fun _ => 0) 0 ((((a1.toUInt32 >>> ((24 : Int32).toUInt32 &&& Int32.toUInt32 31)).toInt32) &&& 255))) 1 ((((a1.toUInt32 >>> ((16 : Int32).toUInt32 &&& Int32.toUInt32 31)).toInt32) &&& 255)))))] mv_X8_314 rfl rfl rfl (c_X5_add_131 rfl rfl) rfl dX8_addFour_18 (Nat.le_of_ble_eq_true rfl) (Nat.le_of_ble_eq_true rfl) rfl (Nat.le_of_ble_eq_true rfl) (Nat.le_of_ble_eq_true rfl) (Nat.le_of_ble_eq_true rfl) rfl ?_
  refine aw_pop C dX8_addFour_21 rfl ?_
  refine aw_iinc C 8 dX8_addFour_22 rfl (by decide) (by decide) rfl ?_
  refine aw_nl [some (.ref 0), some (.int a1), some (.int 8)] rfl ?_
  refine aw_goto C 3 dX8_addFour_25 (by decide) ?_
  refine aw_iload_n C dX8_addFour_3 rfl ?_
  refine aw_if_lt C 28 dX8_addFour_4 (by decide) (fun q => absurd q (by decide)) (fun _ => ?_)
  refine aw_ald_n C dX8_addFour_7 rfl ?_
  refine aw_get C gf_X8_14 h0 rfl dX8_addFour_8 ?_
  refine aw_iload_n C dX8_addFour_11 rfl ?_
  refine aw_iload_n C dX8_addFour_12 rfl ?_
  refine aw_iushr C dX8_addFour_13 ?_
  refine aw_sipush C 255 dX8_addFour_14 ks_255 ?_
  refine aw_iand C dX8_addFour_17 ?_
  refine ao_callV C (ci := 5) (b := 1) [.int (((a1.toUInt32 >>> ((8 : Int32).toUInt32 &&& Int32.toUInt32 31)).toInt32) &&& 255)] [(1, .inr (5, [.ref 2, .int 3])), (2, .inl (0, 400, .inl (upd (upd (upd (fun _ => 0) 0 ((((a1.toUInt32 >>> ((24 : Int32).toUInt32 &&& Int32.toUInt32 31)).toInt32) &&& 255))) 1 ((((a1.toUInt32 >>> ((16 : Int32).toUInt32 &&& Int32.toUInt32 31)).toInt32) &&& 255))) 2 ((((a1.toUInt32 >>> ((8 : Int32).toUInt32 &&& Int32.toUInt32 31)).toInt32) &&& 255)))))] mv_X8_314 rfl rfl rfl (c_X5_add_132 rfl rfl) rfl dX8_addFour_18 (Nat.le_of_ble_eq_true rfl) (Nat.le_of_ble_eq_true rfl) rfl (Nat.le_of_ble_eq_true rfl) (Nat.le_of_ble_eq_true rfl) (Nat.le_of_ble_eq_true rfl) rfl ?_
  refine aw_pop C dX8_addFour_21 rfl ?_
  refine aw_iinc C 0 dX8_addFour_22 rfl (by decide) (by decide) rfl ?_
  refine aw_nl [some (.ref 0), some (.int a1), some (.int 0)] rfl ?_
  refine aw_goto C 3 dX8_addFour_25 (by decide) ?_
  refine aw_iload_n C dX8_addFour_3 rfl ?_
  refine aw_if_lt C 28 dX8_addFour_4 (by decide) (fun q => absurd q (by decide)) (fun _ => ?_)
  refine aw_ald_n C dX8_addFour_7 rfl ?_
  refine aw_get C gf_X8_14 h0 rfl dX8_addFour_8 ?_
  refine aw_iload_n C dX8_addFour_11 rfl ?_
  refine aw_iload_n C dX8_addFour_12 rfl ?_
  refine aw_iushr C dX8_addFour_13 ?_
  refine aw_sipush C 255 dX8_addFour_14 ks_255 ?_
  refine aw_iand C dX8_addFour_17 ?_
  refine ao_callV C (ci := 5) (b := 1) [.int (((a1.toUInt32 >>> ((0 : Int32).toUInt32 &&& Int32.toUInt32 31)).toInt32) &&& 255)] [(1, .inr (5, [.ref 2, .int 4])), (2, .inl (0, 400, .inl (upd (upd (upd (upd (fun _ => 0) 0 ((((a1.toUInt32 >>> ((24 : Int32).toUInt32 &&& Int32.toUInt32 31)).toInt32) &&& 255))) 1 ((((a1.toUInt32 >>> ((16 : Int32).toUInt32 &&& Int32.toUInt32 31)).toInt32) &&& 255))) 2 ((((a1.toUInt32 >>> ((8 : Int32).toUInt32 &&& Int32.toUInt32 31)).toInt32) &&& 255))) 3 ((((a1.toUInt32 >>> ((0 : Int32).toUInt32 &&& Int32.toUInt32 31)).toInt32) &&& 255)))))] mv_X8_314 rfl rfl rfl (c_X5_add_133 rfl rfl) rfl dX8_addFour_18 (Nat.le_of_ble_eq_true rfl) (Nat.le_of_ble_eq_true rfl) rfl (Nat.le_of_ble_eq_true rfl) (Nat.le_of_ble_eq_true rfl) (Nat.le_of_ble_eq_true rfl) rfl ?_
  refine aw_pop C dX8_addFour_21 rfl ?_
  refine aw_iinc C (-8) dX8_addFour_22 rfl (by decide) (by decide) rfl ?_
  refine aw_nl [some (.ref 0), some (.int a1), some (.int (-8))] rfl ?_
  refine aw_goto C 3 dX8_addFour_25 (by decide) ?_
  refine aw_iload_n C dX8_addFour_3 rfl ?_
  refine aw_if_lt C 28 dX8_addFour_4 (by decide) (fun _ => ?_) (fun q => absurd (by decide) q)
  exact aw_vret C rfl dX8_addFour_28 (Nat.le_of_ble_eq_true rfl) (Nat.le_of_ble_eq_true rfl) ⟨rfl, rfl, rfl⟩

set_option maxHeartbeats 4000000 in
set_option maxRecDepth 100000 in
theorem c_X5_add_135 {X : GX} {l : Launch} {f : AH} {n : Nat} {a1 : Int32} {g2 : Nat → Int32} (h1 : f 1 = some (.inr (5, [.ref 2, .int 4]))) (h2 : f 2 = some (.inl (0, 400, .inl g2))) : AM X l yX5_add cX5_add 2 (some .boolean) 0 0 0 [.ref 1, .int a1] f n (EXO f [(2, .inl (0, 400, .inl (upd g2 4 a1))), (1, .inr (5, [.ref 2, .int 5]))] (some (.int 1)) n) := by
  refine AM.of (by decide +kernel) rfl (Nat.le_of_ble_eq_true rfl) (fun p e s m args below meth c C hnm => ?_)
  refine ao_start ?_
  refine aw_nl [some (.ref 1), some (.int a1)] rfl ?_
  refine aw_ald_n C dX5_add_0 rfl ?_
  refine aw_get C gf_X5_15 h1 rfl dX5_add_1 ?_
  refine aw_if_lt C 19 dX5_add_4 (by decide) (fun q => absurd q (by decide)) (fun _ => ?_)
  refine aw_ald_n C dX5_add_7 rfl ?_
  refine aw_get C gf_X5_15 h1 rfl dX5_add_8 ?_
  refine aw_ald_n C dX5_add_11 rfl ?_
  refine aw_get C gf_X5_9 h1 rfl dX5_add_12 ?_
  refine aw_alen C (by decide) h2 dX5_add_15 ?_
  refine aw_top 400 (by decide) ?_
  refine aw_icmp_lt C 21 dX5_add_16 (by decide) (fun _ => ?_) (fun q => absurd (by decide) q)
  refine aw_ald_n C dX5_add_21 rfl ?_
  refine aw_get C gf_X5_9 h1 rfl dX5_add_22 ?_
  refine aw_ald_n C dX5_add_25 rfl ?_
  refine aw_get C gf_X5_15 h1 rfl dX5_add_26 ?_
  refine aw_iload_n C dX5_add_29 rfl ?_
  refine ao_iast C [(2, .inl (0, 400, .inl (upd g2 4 a1)))] h2 (by unfold vp_in; decide) (by decide : _ = 4) dX5_add_30 rfl ?_
  refine aw_ald_n C dX5_add_31 rfl ?_
  refine aw_dup C dX5_add_32 rfl ?_
  refine aw_get C gf_X5_15 h1 rfl dX5_add_33 ?_
  refine aw_iconst C 1 dX5_add_36 ki_1 ?_
  refine ae_iadd C 5 dX5_add_37 (by decide) ?_
  refine ao_put C [(2, .inl (0, 400, .inl (upd g2 4 a1))), (1, .inr (5, [.ref 2, .int 5]))] gf_X5_15 cf5 nf5_1 h1 (Nat.le_of_ble_eq_true rfl) rfl rfl dX5_add_38 rfl ?_
  refine aw_iconst C 1 dX5_add_41 ki_1 ?_
  exact aw_iret C rfl (by decide) dX5_add_42 (Nat.le_of_ble_eq_true rfl) (Nat.le_of_ble_eq_true rfl) ⟨rfl, rfl, rfl⟩

set_option maxHeartbeats 4000000 in
set_option maxRecDepth 100000 in
theorem c_X5_add_136 {X : GX} {l : Launch} {f : AH} {n : Nat} {a1 : Int32} {g2 : Nat → Int32} (h1 : f 1 = some (.inr (5, [.ref 2, .int 5]))) (h2 : f 2 = some (.inl (0, 400, .inl g2))) : AM X l yX5_add cX5_add 2 (some .boolean) 0 0 0 [.ref 1, .int a1] f n (EXO f [(2, .inl (0, 400, .inl (upd g2 5 a1))), (1, .inr (5, [.ref 2, .int 6]))] (some (.int 1)) n) := by
  refine AM.of (by decide +kernel) rfl (Nat.le_of_ble_eq_true rfl) (fun p e s m args below meth c C hnm => ?_)
  refine ao_start ?_
  refine aw_nl [some (.ref 1), some (.int a1)] rfl ?_
  refine aw_ald_n C dX5_add_0 rfl ?_
  refine aw_get C gf_X5_15 h1 rfl dX5_add_1 ?_
  refine aw_if_lt C 19 dX5_add_4 (by decide) (fun q => absurd q (by decide)) (fun _ => ?_)
  refine aw_ald_n C dX5_add_7 rfl ?_
  refine aw_get C gf_X5_15 h1 rfl dX5_add_8 ?_
  refine aw_ald_n C dX5_add_11 rfl ?_
  refine aw_get C gf_X5_9 h1 rfl dX5_add_12 ?_
  refine aw_alen C (by decide) h2 dX5_add_15 ?_
  refine aw_top 400 (by decide) ?_
  refine aw_icmp_lt C 21 dX5_add_16 (by decide) (fun _ => ?_) (fun q => absurd (by decide) q)
  refine aw_ald_n C dX5_add_21 rfl ?_
  refine aw_get C gf_X5_9 h1 rfl dX5_add_22 ?_
  refine aw_ald_n C dX5_add_25 rfl ?_
  refine aw_get C gf_X5_15 h1 rfl dX5_add_26 ?_
  refine aw_iload_n C dX5_add_29 rfl ?_
  refine ao_iast C [(2, .inl (0, 400, .inl (upd g2 5 a1)))] h2 (by unfold vp_in; decide) (by decide : _ = 5) dX5_add_30 rfl ?_
  refine aw_ald_n C dX5_add_31 rfl ?_
  refine aw_dup C dX5_add_32 rfl ?_
  refine aw_get C gf_X5_15 h1 rfl dX5_add_33 ?_
  refine aw_iconst C 1 dX5_add_36 ki_1 ?_
  refine ae_iadd C 6 dX5_add_37 (by decide) ?_
  refine ao_put C [(2, .inl (0, 400, .inl (upd g2 5 a1))), (1, .inr (5, [.ref 2, .int 6]))] gf_X5_15 cf5 nf5_1 h1 (Nat.le_of_ble_eq_true rfl) rfl rfl dX5_add_38 rfl ?_
  refine aw_iconst C 1 dX5_add_41 ki_1 ?_
  exact aw_iret C rfl (by decide) dX5_add_42 (Nat.le_of_ble_eq_true rfl) (Nat.le_of_ble_eq_true rfl) ⟨rfl, rfl, rfl⟩

set_option maxHeartbeats 4000000 in
set_option maxRecDepth 100000 in
theorem c_X5_add_137 {X : GX} {l : Launch} {f : AH} {n : Nat} {a1 : Int32} {g2 : Nat → Int32} (h1 : f 1 = some (.inr (5, [.ref 2, .int 6]))) (h2 : f 2 = some (.inl (0, 400, .inl g2))) : AM X l yX5_add cX5_add 2 (some .boolean) 0 0 0 [.ref 1, .int a1] f n (EXO f [(2, .inl (0, 400, .inl (upd g2 6 a1))), (1, .inr (5, [.ref 2, .int 7]))] (some (.int 1)) n) := by
  refine AM.of (by decide +kernel) rfl (Nat.le_of_ble_eq_true rfl) (fun p e s m args below meth c C hnm => ?_)
  refine ao_start ?_
  refine aw_nl [some (.ref 1), some (.int a1)] rfl ?_
  refine aw_ald_n C dX5_add_0 rfl ?_
  refine aw_get C gf_X5_15 h1 rfl dX5_add_1 ?_
  refine aw_if_lt C 19 dX5_add_4 (by decide) (fun q => absurd q (by decide)) (fun _ => ?_)
  refine aw_ald_n C dX5_add_7 rfl ?_
  refine aw_get C gf_X5_15 h1 rfl dX5_add_8 ?_
  refine aw_ald_n C dX5_add_11 rfl ?_
  refine aw_get C gf_X5_9 h1 rfl dX5_add_12 ?_
  refine aw_alen C (by decide) h2 dX5_add_15 ?_
  refine aw_top 400 (by decide) ?_
  refine aw_icmp_lt C 21 dX5_add_16 (by decide) (fun _ => ?_) (fun q => absurd (by decide) q)
  refine aw_ald_n C dX5_add_21 rfl ?_
  refine aw_get C gf_X5_9 h1 rfl dX5_add_22 ?_
  refine aw_ald_n C dX5_add_25 rfl ?_
  refine aw_get C gf_X5_15 h1 rfl dX5_add_26 ?_
  refine aw_iload_n C dX5_add_29 rfl ?_
  refine ao_iast C [(2, .inl (0, 400, .inl (upd g2 6 a1)))] h2 (by unfold vp_in; decide) (by decide : _ = 6) dX5_add_30 rfl ?_
  refine aw_ald_n C dX5_add_31 rfl ?_
  refine aw_dup C dX5_add_32 rfl ?_
  refine aw_get C gf_X5_15 h1 rfl dX5_add_33 ?_
  refine aw_iconst C 1 dX5_add_36 ki_1 ?_
  refine ae_iadd C 7 dX5_add_37 (by decide) ?_
  refine ao_put C [(2, .inl (0, 400, .inl (upd g2 6 a1))), (1, .inr (5, [.ref 2, .int 7]))] gf_X5_15 cf5 nf5_1 h1 (Nat.le_of_ble_eq_true rfl) rfl rfl dX5_add_38 rfl ?_
  refine aw_iconst C 1 dX5_add_41 ki_1 ?_
  exact aw_iret C rfl (by decide) dX5_add_42 (Nat.le_of_ble_eq_true rfl) (Nat.le_of_ble_eq_true rfl) ⟨rfl, rfl, rfl⟩

set_option maxHeartbeats 4000000 in
set_option maxRecDepth 100000 in
theorem c_X5_add_138 {X : GX} {l : Launch} {f : AH} {n : Nat} {a1 : Int32} {g2 : Nat → Int32} (h1 : f 1 = some (.inr (5, [.ref 2, .int 7]))) (h2 : f 2 = some (.inl (0, 400, .inl g2))) : AM X l yX5_add cX5_add 2 (some .boolean) 0 0 0 [.ref 1, .int a1] f n (EXO f [(2, .inl (0, 400, .inl (upd g2 7 a1))), (1, .inr (5, [.ref 2, .int 8]))] (some (.int 1)) n) := by
  refine AM.of (by decide +kernel) rfl (Nat.le_of_ble_eq_true rfl) (fun p e s m args below meth c C hnm => ?_)
  refine ao_start ?_
  refine aw_nl [some (.ref 1), some (.int a1)] rfl ?_
  refine aw_ald_n C dX5_add_0 rfl ?_
  refine aw_get C gf_X5_15 h1 rfl dX5_add_1 ?_
  refine aw_if_lt C 19 dX5_add_4 (by decide) (fun q => absurd q (by decide)) (fun _ => ?_)
  refine aw_ald_n C dX5_add_7 rfl ?_
  refine aw_get C gf_X5_15 h1 rfl dX5_add_8 ?_
  refine aw_ald_n C dX5_add_11 rfl ?_
  refine aw_get C gf_X5_9 h1 rfl dX5_add_12 ?_
  refine aw_alen C (by decide) h2 dX5_add_15 ?_
  refine aw_top 400 (by decide) ?_
  refine aw_icmp_lt C 21 dX5_add_16 (by decide) (fun _ => ?_) (fun q => absurd (by decide) q)
  refine aw_ald_n C dX5_add_21 rfl ?_
  refine aw_get C gf_X5_9 h1 rfl dX5_add_22 ?_
  refine aw_ald_n C dX5_add_25 rfl ?_
  refine aw_get C gf_X5_15 h1 rfl dX5_add_26 ?_
  refine aw_iload_n C dX5_add_29 rfl ?_
  refine ao_iast C [(2, .inl (0, 400, .inl (upd g2 7 a1)))] h2 (by unfold vp_in; decide) (by decide : _ = 7) dX5_add_30 rfl ?_
  refine aw_ald_n C dX5_add_31 rfl ?_
  refine aw_dup C dX5_add_32 rfl ?_
  refine aw_get C gf_X5_15 h1 rfl dX5_add_33 ?_
  refine aw_iconst C 1 dX5_add_36 ki_1 ?_
  refine ae_iadd C 8 dX5_add_37 (by decide) ?_
  refine ao_put C [(2, .inl (0, 400, .inl (upd g2 7 a1))), (1, .inr (5, [.ref 2, .int 8]))] gf_X5_15 cf5 nf5_1 h1 (Nat.le_of_ble_eq_true rfl) rfl rfl dX5_add_38 rfl ?_
  refine aw_iconst C 1 dX5_add_41 ki_1 ?_
  exact aw_iret C rfl (by decide) dX5_add_42 (Nat.le_of_ble_eq_true rfl) (Nat.le_of_ble_eq_true rfl) ⟨rfl, rfl, rfl⟩

set_option maxHeartbeats 4000000 in
set_option maxRecDepth 100000 in
theorem c_X8_addFour_139 {X : GX} {l : Launch} {f : AH} {n : Nat} {a1 : Int32} {g2 : Nat → Int32} (h0 : f 0 = some (.inr (8, [.ref 1, .ref 3, .ref 8, .ref 13, .ref 18, .ref 59, .ref 115, .ref 171, .ref 178, .int 0, .int 0, .int 0, .int 0, .int (-1)]))) (h1 : f 1 = some (.inr (5, [.ref 2, .int 4]))) (h2 : f 2 = some (.inl (0, 400, .inl g2))) : AM X l yX8_addFour cX8_addFour 3 none 1 0 0 [.ref 0, .int a1] f n (EXO f [(1, .inr (5, [.ref 2, .int 8])), (2, .inl (0, 400, .inl (upd (upd (upd (upd g2 4 ((((a1.toUInt32 >>> ((24 : Int32).toUInt32 &&& Int32.toUInt32 31)).toInt32) &&& 255))) 5 ((((a1.toUInt32 >>> ((16 : Int32).toUInt32 &&& Int32.toUInt32 31)).toInt32) &&& 255))) 6 ((((a1.toUInt32 >>> ((8 : Int32).toUInt32 &&& Int32.toUInt32 31)).toInt32) &&& 255))) 7 ((((a1.toUInt32 >>> ((0 : Int32).toUInt32 &&& Int32.toUInt32 31)).toInt32) &&& 255)))))] none n) := by
  refine AM.of (by decide +kernel) rfl (Nat.le_of_ble_eq_true rfl) (fun p e s m args below meth c C hnm => ?_)
  refine ao_start ?_
  refine aw_nl [some (.ref 0), some (.int a1), none] rfl ?_
  refine aw_bipush C 24 dX8_addFour_0 kb_24 ?_
  refine aw_istore_n C dX8_addFour_2 (by decide) rfl ?_
  refine aw_nl [some (.ref 0), some (.int a1), some (.int 24)] rfl ?_
  refine aw_iload_n C dX8_addFour_3 rfl ?_
  refine aw_if_lt C 28 dX8_addFour_4 (by decide) (fun q => absurd q (by decide)) (fun _ => ?_)
  refine aw_ald_n C dX8_addFour_7 rfl ?_
  refine aw_get C gf_X8_14 h0 rfl dX8_addFour_8 ?_
  refine aw_iload_n C dX8_addFour_11 rfl ?_
  refine aw_iload_n C dX8_addFour_12 rfl ?_
  refine aw_iushr C dX8_addFour_13 ?_
  refine aw_sipush C 255 dX8_addFour_14 ks_255 ?_
  refine aw_iand C dX8_addFour_17 ?_
  refine ao_callV C (ci := 5) (b := 1) [.int (((a1.toUInt32 >>> ((24 : Int32).toUInt32 &&& Int32.toUInt32 31)).toInt32) &&& 255)] [(1, .inr (5, [.ref 2, .int 5])), (2, .inl (0, 400, .inl (upd g2 4 ((((a1.toUInt32 >>> ((24 : Int32).toUInt32 &&& Int32.toUInt32 31)).toInt32) &&& 255)))))] mv_X8_314 rfl rfl h1 (c_X5_add_135 h1 h2) rfl dX8_addFour_18 (Nat.le_of_ble_eq_true rfl) (Nat.le_of_ble_eq_true rfl) rfl (Nat.le_of_ble_eq_true rfl) (Nat.le_of_ble_eq_true rfl) (Nat.le_of_ble_eq_true rfl) rfl ?_
  refine aw_pop C dX8_addFour_21 rfl ?_
  refine aw_iinc C 16 dX8_addFour_22 rfl (by decide) (by decide) rfl ?_
  refine aw_nl [some (.ref 0), some (.int a1), some (.int 16)] rfl ?_
  refine aw_goto C 3 dX8_addFour_25 (by decide) ?_
  refine aw_iload_n C dX8_addFour_3 rfl ?_
  refine aw_if_lt C 28 dX8_addFour_4 (by decide) (fun q => absurd q (by decide)) (fun _ => ?_)
  refine aw_ald_n C dX8_addFour_7 rfl ?_
  refine aw_get C gf_X8_14 h0 rfl dX8_addFour_8 ?_
  refine aw_iload_n C dX8_addFour_11 rfl ?_
  refine aw_iload_n C dX8_addFour_12 rfl ?_
  refine aw_iushr C dX8_addFour_13 ?_
  refine aw_sipush C 255 dX8_addFour_14 ks_255 ?_
  refine aw_iand C dX8_addFour_17 ?_
  refine ao_callV C (ci := 5) (b := 1) [.int (((a1.toUInt32 >>> ((16 : Int32).toUInt32 &&& Int32.toUInt32 31)).toInt32) &&& 255)] [(1, .inr (5, [.ref 2, .int 6])), (2, .inl (0, 400, .inl (upd (upd g2 4 ((((a1.toUInt32 >>> ((24 : Int32).toUInt32 &&& Int32.toUInt32 31)).toInt32) &&& 255))) 5 ((((a1.toUInt32 >>> ((16 : Int32).toUInt32 &&& Int32.toUInt32 31)).toInt32) &&& 255)))))] mv_X8_314 rfl rfl rfl (c_X5_add_136 rfl rfl) rfl dX8_addFour_18 (Nat.le_of_ble_eq_true rfl) (Nat.le_of_ble_eq_true rfl) rfl (Nat.le_of_ble_eq_true rfl) (Nat.le_of_ble_eq_true rfl) (Nat.le_of_ble_eq_true rfl) rfl ?_
  refine aw_pop C dX8_addFour_21 rfl ?_
  refine aw_iinc C 8 dX8_addFour_22 rfl (by decide) (by decide) rfl ?_
  refine aw_nl [some (.ref 0), some (.int a1), some (.int 8)] rfl ?_
  refine aw_goto C 3 dX8_addFour_25 (by decide) ?_
  refine aw_iload_n C dX8_addFour_3 rfl ?_
  refine aw_if_lt C 28 dX8_addFour_4 (by decide) (fun q => absurd q (by decide)) (fun _ => ?_)
  refine aw_ald_n C dX8_addFour_7 rfl ?_
  refine aw_get C gf_X8_14 h0 rfl dX8_addFour_8 ?_
  refine aw_iload_n C dX8_addFour_11 rfl ?_
  refine aw_iload_n C dX8_addFour_12 rfl ?_
  refine aw_iushr C dX8_addFour_13 ?_
  refine aw_sipush C 255 dX8_addFour_14 ks_255 ?_
  refine aw_iand C dX8_addFour_17 ?_
  refine ao_callV C (ci := 5) (b := 1) [.int (((a1.toUInt32 >>> ((8 : Int32).toUInt32 &&& Int32.toUInt32 31)).toInt32) &&& 255)] [(1, .inr (5, [.ref 2, .int 7])), (2, .inl (0, 400, .inl (upd (upd (upd g2 4 ((((a1.toUInt32 >>> ((24 : Int32).toUInt32 &&& Int32.toUInt32 31)).toInt32) &&& 255))) 5 ((((a1.toUInt32 >>> ((16 : Int32).toUInt32 &&& Int32.toUInt32 31)).toInt32) &&& 255))) 6 ((((a1.toUInt32 >>> ((8 : Int32).toUInt32 &&& Int32.toUInt32 31)).toInt32) &&& 255)))))] mv_X8_314 rfl rfl rfl (c_X5_add_137 rfl rfl) rfl dX8_addFour_18 (Nat.le_of_ble_eq_true rfl) (Nat.le_of_ble_eq_true rfl) rfl (Nat.le_of_ble_eq_true rfl) (Nat.le_of_ble_eq_true rfl) (Nat.le_of_ble_eq_true rfl) rfl ?_
  refine aw_pop C dX8_addFour_21 rfl ?_
  refine aw_iinc C 0 dX8_addFour_22 rfl (by decide) (by decide) rfl ?_
  refine aw_nl [some (.ref 0), some (.int a1), some (.int 0)] rfl ?_
  refine aw_goto C 3 dX8_addFour_25 (by decide) ?_
  refine aw_iload_n C dX8_addFour_3 rfl ?_
  refine aw_if_lt C 28 dX8_addFour_4 (by decide) (fun q => absurd q (by decide)) (fun _ => ?_)
  refine aw_ald_n C dX8_addFour_7 rfl ?_
  refine aw_get C gf_X8_14 h0 rfl dX8_addFour_8 ?_
  refine aw_iload_n C dX8_addFour_11 rfl ?_
  refine aw_iload_n C dX8_addFour_12 rfl ?_
  refine aw_iushr C dX8_addFour_13 ?_
  refine aw_sipush C 255 dX8_addFour_14 ks_255 ?_
  refine aw_iand C dX8_addFour_17 ?_
  refine ao_callV C (ci := 5) (b := 1) [.int (((a1.toUInt32 >>> ((0 : Int32).toUInt32 &&& Int32.toUInt32 31)).toInt32) &&& 255)] [(1, .inr (5, [.ref 2, .int 8])), (2, .inl (0, 400, .inl (upd (upd (upd (upd g2 4 ((((a1.toUInt32 >>> ((24 : Int32).toUInt32 &&& Int32.toUInt32 31)).toInt32) &&& 255))) 5 ((((a1.toUInt32 >>> ((16 : Int32).toUInt32 &&& Int32.toUInt32 31)).toInt32) &&& 255))) 6 ((((a1.toUInt32 >>> ((8 : Int32).toUInt32 &&& Int32.toUInt32 31)).toInt32) &&& 255))) 7 ((((a1.toUInt32 >>> ((0 : Int32).toUInt32 &&& Int32.toUInt32 31)).toInt32) &&& 255)))))] mv_X8_314 rfl rfl rfl (c_X5_add_138 rfl rfl) rfl dX8_addFour_18 (Nat.le_of_ble_eq_true rfl) (Nat.le_of_ble_eq_true rfl) rfl (Nat.le_of_ble_eq_true rfl) (Nat.le_of_ble_eq_true rfl) (Nat.le_of_ble_eq_true rfl) rfl ?_
  refine aw_pop C dX8_addFour_21 rfl ?_
  refine aw_iinc C (-8) dX8_addFour_22 rfl (by decide) (by decide) rfl ?_
  refine aw_nl [some (.ref 0), some (.int a1), some (.int (-8))] rfl ?_
  refine aw_goto C 3 dX8_addFour_25 (by decide) ?_
  refine aw_iload_n C dX8_addFour_3 rfl ?_
  refine aw_if_lt C 28 dX8_addFour_4 (by decide) (fun _ => ?_) (fun q => absurd (by decide) q)
  exact aw_vret C rfl dX8_addFour_28 (Nat.le_of_ble_eq_true rfl) (Nat.le_of_ble_eq_true rfl) ⟨rfl, rfl, rfl⟩

set_option maxHeartbeats 4000000 in
set_option maxRecDepth 100000 in
theorem c_X5_add_140 {X : GX} {l : Launch} {f : AH} {n : Nat} {a1 : Int32} {g2 : Nat → Int32} (h1 : f 1 = some (.inr (5, [.ref 2, .int 8]))) (h2 : f 2 = some (.inl (0, 400, .inl g2))) : AM X l yX5_add cX5_add 2 (some .boolean) 0 0 0 [.ref 1, .int a1] f n (EXO f [(2, .inl (0, 400, .inl (upd g2 8 a1))), (1, .inr (5, [.ref 2, .int 9]))] (some (.int 1)) n) := by
  refine AM.of (by decide +kernel) rfl (Nat.le_of_ble_eq_true rfl) (fun p e s m args below meth c C hnm => ?_)
  refine ao_start ?_
  refine aw_nl [some (.ref 1), some (.int a1)] rfl ?_
  refine aw_ald_n C dX5_add_0 rfl ?_
  refine aw_get C gf_X5_15 h1 rfl dX5_add_1 ?_
  refine aw_if_lt C 19 dX5_add_4 (by decide) (fun q => absurd q (by decide)) (fun _ => ?_)
  refine aw_ald_n C dX5_add_7 rfl ?_
  refine aw_get C gf_X5_15 h1 rfl dX5_add_8 ?_
  refine aw_ald_n C dX5_add_11 rfl ?_
  refine aw_get C gf_X5_9 h1 rfl dX5_add_12 ?_
  refine aw_alen C (by decide) h2 dX5_add_15 ?_
  refine aw_top 400 (by decide) ?_
  refine aw_icmp_lt C 21 dX5_add_16 (by decide) (fun _ => ?_) (fun q => absurd (by decide) q)
  refine aw_ald_n C dX5_add_21 rfl ?_
  refine aw_get C gf_X5_9 h1 rfl dX5_add_22 ?_
  refine aw_ald_n C dX5_add_25 rfl ?_
  refine aw_get C gf_X5_15 h1 rfl dX5_add_26 ?_
  refine aw_iload_n C dX5_add_29 rfl ?_
  refine ao_iast C [(2, .inl (0, 400, .inl (upd g2 8 a1)))] h2 (by unfold vp_in; decide) (by decide : _ = 8) dX5_add_30 rfl ?_
  refine aw_ald_n C dX5_add_31 rfl ?_
  refine aw_dup C dX5_add_32 rfl ?_
  refine aw_get C gf_X5_15 h1 rfl dX5_add_33 ?_
  refine aw_iconst C 1 dX5_add_36 ki_1 ?_
  refine ae_iadd C 9 dX5_add_37 (by decide) ?_
  refine ao_put C [(2, .inl (0, 400, .inl (upd g2 8 a1))), (1, .inr (5, [.ref 2, .int 9]))] gf_X5_15 cf5 nf5_1 h1 (Nat.le_of_ble_eq_true rfl) rfl rfl dX5_add_38 rfl ?_
  refine aw_iconst C 1 dX5_add_41 ki_1 ?_
  exact aw_iret C rfl (by decide) dX5_add_42 (Nat.le_of_ble_eq_true rfl) (Nat.le_of_ble_eq_true rfl) ⟨rfl, rfl, rfl⟩

set_option maxHeartbeats 4000000 in
set_option maxRecDepth 100000 in
theorem c_X5_add_141 {X : GX} {l : Launch} {f : AH} {n : Nat} {a1 : Int32} {g2 : Nat → Int32} (h1 : f 1 = some (.inr (5, [.ref 2, .int 9]))) (h2 : f 2 = some (.inl (0, 400, .inl g2))) : AM X l yX5_add cX5_add 2 (some .boolean) 0 0 0 [.ref 1, .int a1] f n (EXO f [(2, .inl (0, 400, .inl (upd g2 9 a1))), (1, .inr (5, [.ref 2, .int 10]))] (some (.int 1)) n) := by
  refine AM.of (by decide +kernel) rfl (Nat.le_of_ble_eq_true rfl) (fun p e s m args below meth c C hnm => ?_)
  refine ao_start ?_
  refine aw_nl [some (.ref 1), some (.int a1)] rfl ?_
  refine aw_ald_n C dX5_add_0 rfl ?_
  refine aw_get C gf_X5_15 h1 rfl dX5_add_1 ?_
  refine aw_if_lt C 19 dX5_add_4 (by decide) (fun q => absurd q (by decide)) (fun _ => ?_)
  refine aw_ald_n C dX5_add_7 rfl ?_
  refine aw_get C gf_X5_15 h1 rfl dX5_add_8 ?_
  refine aw_ald_n C dX5_add_11 rfl ?_
  refine aw_get C gf_X5_9 h1 rfl dX5_add_12 ?_
  refine aw_alen C (by decide) h2 dX5_add_15 ?_
  refine aw_top 400 (by decide) ?_
  refine aw_icmp_lt C 21 dX5_add_16 (by decide) (fun _ => ?_) (fun q => absurd (by decide) q)
  refine aw_ald_n C dX5_add_21 rfl ?_
  refine aw_get C gf_X5_9 h1 rfl dX5_add_22 ?_
  refine aw_ald_n C dX5_add_25 rfl ?_
  refine aw_get C gf_X5_15 h1 rfl dX5_add_26 ?_
  refine aw_iload_n C dX5_add_29 rfl ?_
  refine ao_iast C [(2, .inl (0, 400, .inl (upd g2 9 a1)))] h2 (by unfold vp_in; decide) (by decide : _ = 9) dX5_add_30 rfl ?_
  refine aw_ald_n C dX5_add_31 rfl ?_
  refine aw_dup C dX5_add_32 rfl ?_
  refine aw_get C gf_X5_15 h1 rfl dX5_add_33 ?_
  refine aw_iconst C 1 dX5_add_36 ki_1 ?_
  refine ae_iadd C 10 dX5_add_37 (by decide) ?_
  refine ao_put C [(2, .inl (0, 400, .inl (upd g2 9 a1))), (1, .inr (5, [.ref 2, .int 10]))] gf_X5_15 cf5 nf5_1 h1 (Nat.le_of_ble_eq_true rfl) rfl rfl dX5_add_38 rfl ?_
  refine aw_iconst C 1 dX5_add_41 ki_1 ?_
  exact aw_iret C rfl (by decide) dX5_add_42 (Nat.le_of_ble_eq_true rfl) (Nat.le_of_ble_eq_true rfl) ⟨rfl, rfl, rfl⟩

set_option maxHeartbeats 4000000 in
set_option maxRecDepth 100000 in
theorem c_X5_add_142 {X : GX} {l : Launch} {f : AH} {n : Nat} {a1 : Int32} {g2 : Nat → Int32} (h1 : f 1 = some (.inr (5, [.ref 2, .int 10]))) (h2 : f 2 = some (.inl (0, 400, .inl g2))) : AM X l yX5_add cX5_add 2 (some .boolean) 0 0 0 [.ref 1, .int a1] f n (EXO f [(2, .inl (0, 400, .inl (upd g2 10 a1))), (1, .inr (5, [.ref 2, .int 11]))] (some (.int 1)) n) := by
  refine AM.of (by decide +kernel) rfl (Nat.le_of_ble_eq_true rfl) (fun p e s m args below meth c C hnm => ?_)
  refine ao_start ?_
  refine aw_nl [some (.ref 1), some (.int a1)] rfl ?_
  refine aw_ald_n C dX5_add_0 rfl ?_
  refine aw_get C gf_X5_15 h1 rfl dX5_add_1 ?_
  refine aw_if_lt C 19 dX5_add_4 (by decide) (fun q => absurd q (by decide)) (fun _ => ?_)
  refine aw_ald_n C dX5_add_7 rfl ?_
  refine aw_get C gf_X5_15 h1 rfl dX5_add_8 ?_
  refine aw_ald_n C dX5_add_11 rfl ?_
  refine aw_get C gf_X5_9 h1 rfl dX5_add_12 ?_
  refine aw_alen C (by decide) h2 dX5_add_15 ?_
  refine aw_top 400 (by decide) ?_
  refine aw_icmp_lt C 21 dX5_add_16 (by decide) (fun _ => ?_) (fun q => absurd (by decide) q)
  refine aw_ald_n C dX5_add_21 rfl ?_
  refine aw_get C gf_X5_9 h1 rfl dX5_add_22 ?_
  refine aw_ald_n C dX5_add_25 rfl ?_
  refine aw_get C gf_X5_15 h1 rfl dX5_add_26 ?_
  refine aw_iload_n C dX5_add_29 rfl ?_
  refine ao_iast C [(2, .inl (0, 400, .inl (upd g2 10 a1)))] h2 (by unfold vp_in; decide) (by decide : _ = 10) dX5_add_30 rfl ?_
  refine aw_ald_n C dX5_add_31 rfl ?_
  refine aw_dup C dX5_add_32 rfl ?_
  refine aw_get C gf_X5_15 h1 rfl dX5_add_33 ?_
  refine aw_iconst C 1 dX5_add_36 ki_1 ?_
  refine ae_iadd C 11 dX5_add_37 (by decide) ?_
  refine ao_put C [(2, .inl (0, 400, .inl (upd g2 10 a1))), (1, .inr (5, [.ref 2, .int 11]))] gf_X5_15 cf5 nf5_1 h1 (Nat.le_of_ble_eq_true rfl) rfl rfl dX5_add_38 rfl ?_
  refine aw_iconst C 1 dX5_add_41 ki_1 ?_
  exact aw_iret C rfl (by decide) dX5_add_42 (Nat.le_of_ble_eq_true rfl) (Nat.le_of_ble_eq_true rfl) ⟨rfl, rfl, rfl⟩

set_option maxHeartbeats 4000000 in
set_option maxRecDepth 100000 in
theorem c_X5_add_143 {X : GX} {l : Launch} {f : AH} {n : Nat} {a1 : Int32} {g2 : Nat → Int32} (h1 : f 1 = some (.inr (5, [.ref 2, .int 11]))) (h2 : f 2 = some (.inl (0, 400, .inl g2))) : AM X l yX5_add cX5_add 2 (some .boolean) 0 0 0 [.ref 1, .int a1] f n (EXO f [(2, .inl (0, 400, .inl (upd g2 11 a1))), (1, .inr (5, [.ref 2, .int 12]))] (some (.int 1)) n) := by
  refine AM.of (by decide +kernel) rfl (Nat.le_of_ble_eq_true rfl) (fun p e s m args below meth c C hnm => ?_)
  refine ao_start ?_
  refine aw_nl [some (.ref 1), some (.int a1)] rfl ?_
  refine aw_ald_n C dX5_add_0 rfl ?_
  refine aw_get C gf_X5_15 h1 rfl dX5_add_1 ?_
  refine aw_if_lt C 19 dX5_add_4 (by decide) (fun q => absurd q (by decide)) (fun _ => ?_)
  refine aw_ald_n C dX5_add_7 rfl ?_
  refine aw_get C gf_X5_15 h1 rfl dX5_add_8 ?_
  refine aw_ald_n C dX5_add_11 rfl ?_
  refine aw_get C gf_X5_9 h1 rfl dX5_add_12 ?_
  refine aw_alen C (by decide) h2 dX5_add_15 ?_
  refine aw_top 400 (by decide) ?_
  refine aw_icmp_lt C 21 dX5_add_16 (by decide) (fun _ => ?_) (fun q => absurd (by decide) q)
  refine aw_ald_n C dX5_add_21 rfl ?_
  refine aw_get C gf_X5_9 h1 rfl dX5_add_22 ?_
  refine aw_ald_n C dX5_add_25 rfl ?_
  refine aw_get C gf_X5_15 h1 rfl dX5_add_26 ?_
  refine aw_iload_n C dX5_add_29 rfl ?_
  refine ao_iast C [(2, .inl (0, 400, .inl (upd g2 11 a1)))] h2 (by unfold vp_in; decide) (by decide : _ = 11) dX5_add_30 rfl ?_
  refine aw_ald_n C dX5_add_31 rfl ?_
  refine aw_dup C dX5_add_32 rfl ?_
  refine aw_get C gf_X5_15 h1 rfl dX5_add_33 ?_
  refine aw_iconst C 1 dX5_add_36 ki_1 ?_
  refine ae_iadd C 12 dX5_add_37 (by decide) ?_
  refine ao_put C [(2, .inl (0, 400, .inl (upd g2 11 a1))), (1, .inr (5, [.ref 2, .int 12]))] gf_X5_15 cf5 nf5_1 h1 (Nat.le_of_ble_eq_true rfl) rfl rfl dX5_add_38 rfl ?_
  refine aw_iconst C 1 dX5_add_41 ki_1 ?_
  exact aw_iret C rfl (by decide) dX5_add_42 (Nat.le_of_ble_eq_true rfl) (Nat.le_of_ble_eq_true rfl) ⟨rfl, rfl, rfl⟩

set_option maxHeartbeats 4000000 in
set_option maxRecDepth 100000 in
theorem c_X8_addFour_144 {X : GX} {l : Launch} {f : AH} {n : Nat} {a1 : Int32} {g2 : Nat → Int32} (h0 : f 0 = some (.inr (8, [.ref 1, .ref 3, .ref 8, .ref 13, .ref 18, .ref 59, .ref 115, .ref 171, .ref 178, .int 0, .int 0, .int 0, .int 0, .int (-1)]))) (h1 : f 1 = some (.inr (5, [.ref 2, .int 8]))) (h2 : f 2 = some (.inl (0, 400, .inl g2))) : AM X l yX8_addFour cX8_addFour 3 none 1 0 0 [.ref 0, .int a1] f n (EXO f [(1, .inr (5, [.ref 2, .int 12])), (2, .inl (0, 400, .inl (upd (upd (upd (upd g2 8 ((((a1.toUInt32 >>> ((24 : Int32).toUInt32 &&& Int32.toUInt32 31)).toInt32) &&& 255))) 9 ((((a1.toUInt32 >>> ((16 : Int32).toUInt32 &&& Int32.toUInt32 31)).toInt32) &&& 255))) 10 ((((a1.toUInt32 >>> ((8 : Int32).toUInt32 &&& Int32.toUInt32 31)).toInt32) &&& 255))) 11 ((((a1.toUInt32 >>> ((0 : Int32).toUInt32 &&& Int32.toUInt32 31)).toInt32) &&& 255)))))] none n) := by
  refine AM.of (by decide +kernel) rfl (Nat.le_of_ble_eq_true rfl) (fun p e s m args below meth c C hnm => ?_)
  refine ao_start ?_
  refine aw_nl [some (.ref 0), some (.int a1), none] rfl ?_
  refine aw_bipush C 24 dX8_addFour_0 kb_24 ?_
  refine aw_istore_n C dX8_addFour_2 (by decide) rfl ?_
  refine aw_nl [some (.ref 0), some (.int a1), some (.int 24)] rfl ?_
  refine aw_iload_n C dX8_addFour_3 rfl ?_
  refine aw_if_lt C 28 dX8_addFour_4 (by decide) (fun q => absurd q (by decide)) (fun _ => ?_)
  refine aw_ald_n C dX8_addFour_7 rfl ?_
  refine aw_get C gf_X8_14 h0 rfl dX8_addFour_8 ?_
  refine aw_iload_n C dX8_addFour_11 rfl ?_
  refine aw_iload_n C dX8_addFour_12 rfl ?_
  refine aw_iushr C dX8_addFour_13 ?_
  refine aw_sipush C 255 dX8_addFour_14 ks_255 ?_
  refine aw_iand C dX8_addFour_17 ?_
  refine ao_callV C (ci := 5) (b := 1) [.int (((a1.toUInt32 >>> ((24 : Int32).toUInt32 &&& Int32.toUInt32 31)).toInt32) &&& 255)] [(1, .inr (5, [.ref 2, .int 9])), (2, .inl (0, 400, .inl (upd g2 8 ((((a1.toUInt32 >>> ((24 : Int32).toUInt32 &&& Int32.toUInt32 31)).toInt32) &&& 255)))))] mv_X8_314 rfl rfl h1 (c_X5_add_140 h1 h2) rfl dX8_addFour_18 (Nat.le_of_ble_eq_true rfl) (Nat.le_of_ble_eq_true rfl) rfl (Nat.le_of_ble_eq_true rfl) (Nat.le_of_ble_eq_true rfl) (Nat.le_of_ble_eq_true rfl) rfl ?_
  refine aw_pop C dX8_addFour_21 rfl ?_
  refine aw_iinc C 16 dX8_addFour_22 rfl (by decide) (by decide) rfl ?_
  refine aw_nl [some (.ref 0), some (.int a1), some (.int 16)] rfl ?_
  refine aw_goto C 3 dX8_addFour_25 (by decide) ?_
  refine aw_iload_n C dX8_addFour_3 rfl ?_
  refine aw_if_lt C 28 dX8_addFour_4 (by decide) (fun q => absurd q (by decide)) (fun _ => ?_)
  refine aw_ald_n C dX8_addFour_7 rfl ?_
  refine aw_get C gf_X8_14 h0 rfl dX8_addFour_8 ?_
  refine aw_iload_n C dX8_addFour_11 rfl ?_
  refine aw_iload_n C dX8_addFour_12 rfl ?_
  refine aw_iushr C dX8_addFour_13 ?_
  refine aw_sipush C 255 dX8_addFour_14 ks_255 ?_
  refine aw_iand C dX8_addFour_17 ?_
  refine ao_callV C (ci := 5) (b := 1) [.int (((a1.toUInt32 >>> ((16 : Int32).toUInt32 &&& Int32.toUInt32 31)).toInt32) &&& 255)] [(1, .inr (5, [.ref 2, .int 10])), (2, .inl (0, 400, .inl (upd (upd g2 8 ((((a1.toUInt32 >>> ((24 : Int32).toUInt32 &&& Int32.toUInt32 31)).toInt32) &&& 255))) 9 ((((a1.toUInt32 >>> ((16 : Int32).toUInt32 &&& Int32.toUInt32 31)).toInt32) &&& 255)))))] mv_X8_314 rfl rfl rfl (c_X5_add_141 rfl rfl) rfl dX8_addFour_18 (Nat.le_of_ble_eq_true rfl) (Nat.le_of_ble_eq_true rfl) rfl (Nat.le_of_ble_eq_true rfl) (Nat.le_of_ble_eq_true rfl) (Nat.le_of_ble_eq_true rfl) rfl ?_
  refine aw_pop C dX8_addFour_21 rfl ?_
  refine aw_iinc C 8 dX8_addFour_22 rfl (by decide) (by decide) rfl ?_
  refine aw_nl [some (.ref 0), some (.int a1), some (.int 8)] rfl ?_
  refine aw_goto C 3 dX8_addFour_25 (by decide) ?_
  refine aw_iload_n C dX8_addFour_3 rfl ?_
  refine aw_if_lt C 28 dX8_addFour_4 (by decide) (fun q => absurd q (by decide)) (fun _ => ?_)
  refine aw_ald_n C dX8_addFour_7 rfl ?_
  refine aw_get C gf_X8_14 h0 rfl dX8_addFour_8 ?_
  refine aw_iload_n C dX8_addFour_11 rfl ?_
  refine aw_iload_n C dX8_addFour_12 rfl ?_
  refine aw_iushr C dX8_addFour_13 ?_
  refine aw_sipush C 255 dX8_addFour_14 ks_255 ?_
  refine aw_iand C dX8_addFour_17 ?_
  refine ao_callV C (ci := 5) (b := 1) [.int (((a1.toUInt32 >>> ((8 : Int32).toUInt32 &&& Int32.toUInt32 31)).toInt32) &&& 255)] [(1, .inr (5, [.ref 2, .int 11])), (2, .inl (0, 400, .inl (upd (upd (upd g2 8 ((((a1.toUInt32 >>> ((24 : Int32).toUInt32 &&& Int32.toUInt32 31)).toInt32) &&& 255))) 9 ((((a1.toUInt32 >>> ((16 : Int32).toUInt32 &&& Int32.toUInt32 31)).toInt32) &&& 255))) 10 ((((a1.toUInt32 >>> ((8 : Int32).toUInt32 &&& Int32.toUInt32 31)).toInt32) &&& 255)))))] mv_X8_314 rfl rfl rfl (c_X5_add_142 rfl rfl) rfl dX8_addFour_18 (Nat.le_of_ble_eq_true rfl) (Nat.le_of_ble_eq_true rfl) rfl (Nat.le_of_ble_eq_true rfl) (Nat.le_of_ble_eq_true rfl) (Nat.le_of_ble_eq_true rfl) rfl ?_
  refine aw_pop C dX8_addFour_21 rfl ?_
  refine aw_iinc C 0 dX8_addFour_22 rfl (by decide) (by decide) rfl ?_
  refine aw_nl [some (.ref 0), some (.int a1), some (.int 0)] rfl ?_
  refine aw_goto C 3 dX8_addFour_25 (by decide) ?_
  refine aw_iload_n C dX8_addFour_3 rfl ?_
  refine aw_if_lt C 28 dX8_addFour_4 (by decide) (fun q => absurd q (by decide)) (fun _ => ?_)
  refine aw_ald_n C dX8_addFour_7 rfl ?_
  refine aw_get C gf_X8_14 h0 rfl dX8_addFour_8 ?_
  refine aw_iload_n C dX8_addFour_11 rfl ?_
  refine aw_iload_n C dX8_addFour_12 rfl ?_
  refine aw_iushr C dX8_addFour_13 ?_
  refine aw_sipush C 255 dX8_addFour_14 ks_255 ?_
  refine aw_iand C dX8_addFour_17 ?_
  refine ao_callV C (ci := 5) (b := 1) [.int (((a1.toUInt32 >>> ((0 : Int32).toUInt32 &&& Int32.toUInt32 31)).toInt32) &&& 255)] [(1, .inr (5, [.ref 2, .int 12])), (2, .inl (0, 400, .inl (upd (upd (upd (upd g2 8 ((((a1.toUInt32 >>> ((24 : Int32).toUInt32 &&& Int32.toUInt32 31)).toInt32) &&& 255))) 9 ((((a1.toUInt32 >>> ((16 : Int32).toUInt32 &&& Int32.toUInt32 31)).toInt32) &&& 255))) 10 ((((a1.toUInt32 >>> ((8 : Int32).toUInt32 &&& Int32.toUInt32 31)).toInt32) &&& 255))) 11 ((((a1.toUInt32 >>> ((0 : Int32).toUInt32 &&& Int32.toUInt32 31)).toInt32) &&& 255)))))] mv_X8_314 rfl rfl rfl (c_X5_add_143 rfl rfl) rfl dX8_addFour_18 (Nat.le_of_ble_eq_true rfl) (Nat.le_of_ble_eq_true rfl) rfl (Nat.le_of_ble_eq_true rfl) (Nat.le_of_ble_eq_true rfl) (Nat.le_of_ble_eq_true rfl) rfl ?_
  refine aw_pop C dX8_addFour_21 rfl ?_
  refine aw_iinc C (-8) dX8_addFour_22 rfl (by decide) (by decide) rfl ?_
  refine aw_nl [some (.ref 0), some (.int a1), some (.int (-8))] rfl ?_
  refine aw_goto C 3 dX8_addFour_25 (by decide) ?_
  refine aw_iload_n C dX8_addFour_3 rfl ?_
  refine aw_if_lt C 28 dX8_addFour_4 (by decide) (fun _ => ?_) (fun q => absurd (by decide) q)
  exact aw_vret C rfl dX8_addFour_28 (Nat.le_of_ble_eq_true rfl) (Nat.le_of_ble_eq_true rfl) ⟨rfl, rfl, rfl⟩

set_option maxHeartbeats 4000000 in
set_option maxRecDepth 100000 in
theorem c_X5_add_145 {X : GX} {l : Launch} {f : AH} {n : Nat} {a1 : Int32} {g2 : Nat → Int32} (h1 : f 1 = some (.inr (5, [.ref 2, .int 12]))) (h2 : f 2 = some (.inl (0, 400, .inl g2))) : AM X l yX5_add cX5_add 2 (some .boolean) 0 0 0 [.ref 1, .int a1] f n (EXO f [(2, .inl (0, 400, .inl (upd g2 12 a1))), (1, .inr (5, [.ref 2, .int 13]))] (some (.int 1)) n) := by
  refine AM.of (by decide +kernel) rfl (Nat.le_of_ble_eq_true rfl) (fun p e s m args below meth c C hnm => ?_)
  refine ao_start ?_
  refine aw_nl [some (.ref 1), some (.int a1)] rfl ?_
  refine aw_ald_n C dX5_add_0 rfl ?_
  refine aw_get C gf_X5_15 h1 rfl dX5_add_1 ?_
  refine aw_if_lt C 19 dX5_add_4 (by decide) (fun q => absurd q (by decide)) (fun _ => ?_)
  refine aw_ald_n C dX5_add_7 rfl ?_
  refine aw_get C gf_X5_15 h1 rfl dX5_add_8 ?_
  refine aw_ald_n C dX5_add_11 rfl ?_
  refine aw_get C gf_X5_9 h1 rfl dX5_add_12 ?_
  refine aw_alen C (by decide) h2 dX5_add_15 ?_
  refine aw_top 400 (by decide) ?_
  refine aw_icmp_lt C 21 dX5_add_16 (by decide) (fun _ => ?_) (fun q => absurd (by decide) q)
  refine aw_ald_n C dX5_add_21 rfl ?_
  refine aw_get C gf_X5_9 h1 rfl dX5_add_22 ?_
  refine aw_ald_n C dX5_add_25 rfl ?_
  refine aw_get C gf_X5_15 h1 rfl dX5_add_26 ?_
  refine aw_iload_n C dX5_add_29 rfl ?_
  refine ao_iast C [(2, .inl (0, 400, .inl (upd g2 12 a1)))] h2 (by unfold vp_in; decide) (by decide : _ = 12) dX5_add_30 rfl ?_
  refine aw_ald_n C dX5_add_31 rfl ?_
  refine aw_dup C dX5_add_32 rfl ?_
  refine aw_get C gf_X5_15 h1 rfl dX5_add_33 ?_
  refine aw_iconst C 1 dX5_add_36 ki_1 ?_
  refine ae_iadd C 13 dX5_add_37 (by decide) ?_
  refine ao_put C [(2, .inl (0, 400, .inl (upd g2 12 a1))), (1, .inr (5, [.ref 2, .int 13]))] gf_X5_15 cf5 nf5_1 h1 (Nat.le_of_ble_eq_true rfl) rfl rfl dX5_add_38 rfl ?_
  refine aw_iconst C 1 dX5_add_41 ki_1 ?_
  exact aw_iret C rfl (by decide) dX5_add_42 (Nat.le_of_ble_eq_true rfl) (Nat.le_of_ble_eq_true rfl) ⟨rfl, rfl, rfl⟩

set_option maxHeartbeats 4000000 in
set_option maxRecDepth 100000 in
theorem c_X5_add_146 {X : GX} {l : Launch} {f : AH} {n : Nat} {a1 : Int32} {g2 : Nat → Int32} (h1 : f 1 = some (.inr (5, [.ref 2, .int 13]))) (h2 : f 2 = some (.inl (0, 400, .inl g2))) : AM X l yX5_add cX5_add 2 (some .boolean) 0 0 0 [.ref 1, .int a1] f n (EXO f [(2, .inl (0, 400, .inl (upd g2 13 a1))), (1, .inr (5, [.ref 2, .int 14]))] (some (.int 1)) n) := by
  refine AM.of (by decide +kernel) rfl (Nat.le_of_ble_eq_true rfl) (fun p e s m args below meth c C hnm => ?_)
  refine ao_start ?_
  refine aw_nl [some (.ref 1), some (.int a1)] rfl ?_
  refine aw_ald_n C dX5_add_0 rfl ?_
  refine aw_get C gf_X5_15 h1 rfl dX5_add_1 ?_
  refine aw_if_lt C 19 dX5_add_4 (by decide) (fun q => absurd q (by decide)) (fun _ => ?_)
  refine aw_ald_n C dX5_add_7 rfl ?_
  refine aw_get C gf_X5_15 h1 rfl dX5_add_8 ?_
  refine aw_ald_n C dX5_add_11 rfl ?_
  refine aw_get C gf_X5_9 h1 rfl dX5_add_12 ?_
  refine aw_alen C (by decide) h2 dX5_add_15 ?_
  refine aw_top 400 (by decide) ?_
  refine aw_icmp_lt C 21 dX5_add_16 (by decide) (fun _ => ?_) (fun q => absurd (by decide) q)
  refine aw_ald_n C dX5_add_21 rfl ?_
  refine aw_get C gf_X5_9 h1 rfl dX5_add_22 ?_
  refine aw_ald_n C dX5_add_25 rfl ?_
  refine aw_get C gf_X5_15 h1 rfl dX5_add_26 ?_
  refine aw_iload_n C dX5_add_29 rfl ?_
  refine ao_iast C [(2, .inl (0, 400, .inl (upd g2 13 a1)))] h2 (by unfold vp_in; decide) (by decide : _ = 13) dX5_add_30 rfl ?_
  refine aw_ald_n C dX5_add_31 rfl ?_
  refine aw_dup C dX5_add_32 rfl ?_
  refine aw_get C gf_X5_15 h1 rfl dX5_add_33 ?_
  refine aw_iconst C 1 dX5_add_36 ki_1 ?_
  refine ae_iadd C 14 dX5_add_37 (by decide) ?_
  refine ao_put C [(2, .inl (0, 400, .inl (upd g2 13 a1))), (1, .inr (5, [.ref 2, .int 14]))] gf_X5_15 cf5 nf5_1 h1 (Nat.le_of_ble_eq_true rfl) rfl rfl dX5_add_38 rfl ?_
  refine aw_iconst C 1 dX5_add_41 ki_1 ?_
  exact aw_iret C rfl (by decide) dX5_add_42 (Nat.le_of_ble_eq_true rfl) (Nat.le_of_ble_eq_true rfl) ⟨rfl, rfl, rfl⟩

set_option maxHeartbeats 4000000 in
set_option maxRecDepth 100000 in
theorem c_X5_add_147 {X : GX} {l : Launch} {f : AH} {n : Nat} {a1 : Int32} {g2 : Nat → Int32} (h1 : f 1 = some (.inr (5, [.ref 2, .int 14]))) (h2 : f 2 = some (.inl (0, 400, .inl g2))) : AM X l yX5_add cX5_add 2 (some .boolean) 0 0 0 [.ref 1, .int a1] f n (EXO f [(2, .inl (0, 400, .inl (upd g2 14 a1))), (1, .inr (5, [.ref 2, .int 15]))] (some (.int 1)) n) := by
  refine AM.of (by decide +kernel) rfl (Nat.le_of_ble_eq_true rfl) (fun p e s m args below meth c C hnm => ?_)
  refine ao_start ?_
  refine aw_nl [some (.ref 1), some (.int a1)] rfl ?_
  refine aw_ald_n C dX5_add_0 rfl ?_
  refine aw_get C gf_X5_15 h1 rfl dX5_add_1 ?_
  refine aw_if_lt C 19 dX5_add_4 (by decide) (fun q => absurd q (by decide)) (fun _ => ?_)
  refine aw_ald_n C dX5_add_7 rfl ?_
  refine aw_get C gf_X5_15 h1 rfl dX5_add_8 ?_
  refine aw_ald_n C dX5_add_11 rfl ?_
  refine aw_get C gf_X5_9 h1 rfl dX5_add_12 ?_
  refine aw_alen C (by decide) h2 dX5_add_15 ?_
  refine aw_top 400 (by decide) ?_
  refine aw_icmp_lt C 21 dX5_add_16 (by decide) (fun _ => ?_) (fun q => absurd (by decide) q)
  refine aw_ald_n C dX5_add_21 rfl ?_
  refine aw_get C gf_X5_9 h1 rfl dX5_add_22 ?_
  refine aw_ald_n C dX5_add_25 rfl ?_
  refine aw_get C gf_X5_15 h1 rfl dX5_add_26 ?_
  refine aw_iload_n C dX5_add_29 rfl ?_
  refine ao_iast C [(2, .inl (0, 400, .inl (upd g2 14 a1)))] h2 (by unfold vp_in; decide) (by decide : _ = 14) dX5_add_30 rfl ?_
  refine aw_ald_n C dX5_add_31 rfl ?_
  refine aw_dup C dX5_add_32 rfl ?_
  refine aw_get C gf_X5_15 h1 rfl dX5_add_33 ?_
  refine aw_iconst C 1 dX5_add_36 ki_1 ?_
  refine ae_iadd C 15 dX5_add_37 (by decide) ?_
  refine ao_put C [(2, .inl (0, 400, .inl (upd g2 14 a1))), (1, .inr (5, [.ref 2, .int 15]))] gf_X5_15 cf5 nf5_1 h1 (Nat.le_of_ble_eq_true rfl) rfl rfl dX5_add_38 rfl ?_
  refine aw_iconst C 1 dX5_add_41 ki_1 ?_
  exact aw_iret C rfl (by decide) dX5_add_42 (Nat.le_of_ble_eq_true rfl) (Nat.le_of_ble_eq_true rfl) ⟨rfl, rfl, rfl⟩

set_option maxHeartbeats 4000000 in
set_option maxRecDepth 100000 in
theorem c_X5_add_148 {X : GX} {l : Launch} {f : AH} {n : Nat} {a1 : Int32} {g2 : Nat → Int32} (h1 : f 1 = some (.inr (5, [.ref 2, .int 15]))) (h2 : f 2 = some (.inl (0, 400, .inl g2))) : AM X l yX5_add cX5_add 2 (some .boolean) 0 0 0 [.ref 1, .int a1] f n (EXO f [(2, .inl (0, 400, .inl (upd g2 15 a1))), (1, .inr (5, [.ref 2, .int 16]))] (some (.int 1)) n) := by
  refine AM.of (by decide +kernel) rfl (Nat.le_of_ble_eq_true rfl) (fun p e s m args below meth c C hnm => ?_)
  refine ao_start ?_
  refine aw_nl [some (.ref 1), some (.int a1)] rfl ?_
  refine aw_ald_n C dX5_add_0 rfl ?_
  refine aw_get C gf_X5_15 h1 rfl dX5_add_1 ?_
  refine aw_if_lt C 19 dX5_add_4 (by decide) (fun q => absurd q (by decide)) (fun _ => ?_)
  refine aw_ald_n C dX5_add_7 rfl ?_
  refine aw_get C gf_X5_15 h1 rfl dX5_add_8 ?_
  refine aw_ald_n C dX5_add_11 rfl ?_
  refine aw_get C gf_X5_9 h1 rfl dX5_add_12 ?_
  refine aw_alen C (by decide) h2 dX5_add_15 ?_
  refine aw_top 400 (by decide) ?_
  refine aw_icmp_lt C 21 dX5_add_16 (by decide) (fun _ => ?_) (fun q => absurd (by decide) q)
  refine aw_ald_n C dX5_add_21 rfl ?_
  refine aw_get C gf_X5_9 h1 rfl dX5_add_22 ?_
  refine aw_ald_n C dX5_add_25 rfl ?_
  refine aw_get C gf_X5_15 h1 rfl dX5_add_26 ?_
  refine aw_iload_n C dX5_add_29 rfl ?_
  refine ao_iast C [(2, .inl (0, 400, .inl (upd g2 15 a1)))] h2 (by unfold vp_in; decide) (by decide : _ = 15) dX5_add_30 rfl ?_
  refine aw_ald_n C dX5_add_31 rfl ?_
  refine aw_dup C dX5_add_32 rfl ?_
  refine aw_get C gf_X5_15 h1 rfl dX5_add_33 ?_
  refine aw_iconst C 1 dX5_add_36 ki_1 ?_
  refine ae_iadd C 16 dX5_add_37 (by decide) ?_
  refine ao_put C [(2, .inl (0, 400, .inl (upd g2 15 a1))), (1, .inr (5, [.ref 2, .int 16]))] gf_X5_15 cf5 nf5_1 h1 (Nat.le_of_ble_eq_true rfl) rfl rfl dX5_add_38 rfl ?_
  refine aw_iconst C 1 dX5_add_41 ki_1 ?_
  exact aw_iret C rfl (by decide) dX5_add_42 (Nat.le_of_ble_eq_true rfl) (Nat.le_of_ble_eq_true rfl) ⟨rfl, rfl, rfl⟩

set_option maxHeartbeats 4000000 in
set_option maxRecDepth 100000 in
theorem c_X8_addFour_149 {X : GX} {l : Launch} {f : AH} {n : Nat} {a1 : Int32} {g2 : Nat → Int32} (h0 : f 0 = some (.inr (8, [.ref 1, .ref 3, .ref 8, .ref 13, .ref 18, .ref 59, .ref 115, .ref 171, .ref 178, .int 0, .int 0, .int 0, .int 0, .int (-1)]))) (h1 : f 1 = some (.inr (5, [.ref 2, .int 12]))) (h2 : f 2 = some (.inl (0, 400, .inl g2))) : AM X l yX8_addFour cX8_addFour 3 none 1 0 0 [.ref 0, .int a1] f n (EXO f [(1, .inr (5, [.ref 2, .int 16])), (2, .inl (0, 400, .inl (upd (upd (upd (upd g2 12 ((((a1.toUInt32 >>> ((24 : Int32).toUInt32 &&& Int32.toUInt32 31)).toInt32) &&& 255))) 13 ((((a1.toUInt32 >>> ((16 : Int32).toUInt32 &&& Int32.toUInt32 31)).toInt32) &&& 255))) 14 ((((a1.toUInt32 >>> ((8 : Int32).toUInt32 &&& Int32.toUInt32 31)).toInt32) &&& 255))) 15 ((((a1.toUInt32 >>> ((0 : Int32).toUInt32 &&& Int32.toUInt32 31)).toInt32) &&& 255)))))] none n) := by
  refine AM.of (by decide +kernel) rfl (Nat.le_of_ble_eq_true rfl) (fun p e s m args below meth c C hnm => ?_)
  refine ao_start ?_
  refine aw_nl [some (.ref 0), some (.int a1), none] rfl ?_
  refine aw_bipush C 24 dX8_addFour_0 kb_24 ?_
  refine aw_istore_n C dX8_addFour_2 (by decide) rfl ?_
  refine aw_nl [some (.ref 0), some (.int a1), some (.int 24)] rfl ?_
  refine aw_iload_n C dX8_addFour_3 rfl ?_
  refine aw_if_lt C 28 dX8_addFour_4 (by decide) (fun q => absurd q (by decide)) (fun _ => ?_)
  refine aw_ald_n C dX8_addFour_7 rfl ?_
  refine aw_get C gf_X8_14 h0 rfl dX8_addFour_8 ?_
  refine aw_iload_n C dX8_addFour_11 rfl ?_
  refine aw_iload_n C dX8_addFour_12 rfl ?_
  refine aw_iushr C dX8_addFour_13 ?_
  refine aw_sipush C 255 dX8_addFour_14 ks_255 ?_
  refine aw_iand C dX8_addFour_17 ?_
  refine ao_callV C (ci := 5) (b := 1) [.int (((a1.toUInt32 >>> ((24 : Int32).toUInt32 &&& Int32.toUInt32 31)).toInt32) &&& 255)] [(1, .inr (5, [.ref 2, .int 13])), (2, .inl (0, 400, .inl (upd g2 12 ((((a1.toUInt32 >>> ((24 : Int32).toUInt32 &&& Int32.toUInt32 31)).toInt32) &&& 255)))))] mv_X8_314 rfl rfl h1 (c_X5_add_145 h1 h2) rfl dX8_addFour_18 (Nat.le_of_ble_eq_true rfl) (Nat.le_of_ble_eq_true rfl) rfl (Nat.le_of_ble_eq_true rfl) (Nat.le_of_ble_eq_true rfl) (Nat.le_of_ble_eq_true rfl) rfl ?_
  refine aw_pop C dX8_addFour_21 rfl ?_
  refine aw_iinc C 16 dX8_addFour_22 rfl (by decide) (by decide) rfl ?_
  refine aw_nl [some (.ref 0), some (.int a1), some (.int 16)] rfl ?_
  refine aw_goto C 3 dX8_addFour_25 (by decide) ?_
  refine aw_iload_n C dX8_addFour_3 rfl ?_
  refine aw_if_lt C 28 dX8_addFour_4 (by decide) (fun q => absurd q (by decide)) (fun _ => ?_)
  refine aw_ald_n C dX8_addFour_7 rfl ?_
  refine aw_get C gf_X8_14 h0 rfl dX8_addFour_8 ?_
  refine aw_iload_n C dX8_addFour_11 rfl ?_
  refine aw_iload_n C dX8_addFour_12 rfl ?_
  refine aw_iushr C dX8_addFour_13 ?_
  refine aw_sipush C 255 dX8_addFour_14 ks_255 ?_
  refine aw_iand C dX8_addFour_17 ?_
  refine ao_callV C (ci := 5) (b := 1) [.int (((a1.toUInt32 >>> ((16 : Int32).toUInt32 &&& Int32.toUInt32 31)).toInt32) &&& 255)] [(1, .inr (5, [.ref 2, .int 14])), (2, .inl (0, 400, .inl (upd (upd g2 12 ((((a1.toUInt32 >>> ((24 : Int32).toUInt32 &&& Int32.toUInt32 31)).toInt32) &&& 255))) 13 ((((a1.toUInt32 >>> ((16 : Int32).toUInt32 &&& Int32.toUInt32 31)).toInt32) &&& 255)))))] mv_X8_314 rfl rfl rfl (c_X5_add_146 rfl rfl) rfl dX8_addFour_18 (Nat.le_of_ble_eq_true rfl) (Nat.le_of_ble_eq_true rfl) rfl (Nat.le_of_ble_eq_true rfl) (Nat.le_of_ble_eq_true rfl) (Nat.le_of_ble_eq_true rfl) rfl ?_
  refine aw_pop C dX8_addFour_21 rfl ?_
  refine aw_iinc C 8 dX8_addFour_22 rfl (by decide) (by decide) rfl ?_
  refine aw_nl [some (.ref 0), some (.int a1), some (.int 8)] rfl ?_
  refine aw_goto C 3 dX8_addFour_25 (by decide) ?_
  refine aw_iload_n C dX8_addFour_3 rfl ?_
  refine aw_if_lt C 28 dX8_addFour_4 (by decide) (fun q => absurd q (by decide)) (fun _ => ?_)
  refine aw_ald_n C dX8_addFour_7 rfl ?_
  refine aw_get C gf_X8_14 h0 rfl dX8_addFour_8 ?_
  refine aw_iload_n C dX8_addFour_11 rfl ?_
  refine aw_iload_n C dX8_addFour_12 rfl ?_
  refine aw_iushr C dX8_addFour_13 ?_
  refine aw_sipush C 255 dX8_addFour_14 ks_255 ?_
  refine aw_iand C dX8_addFour_17 ?_
  refine ao_callV C (ci := 5) (b := 1) [.int (((a1.toUInt32 >>> ((8 : Int32).toUInt32 &&& Int32.toUInt32 31)).toInt32) &&& 255)] [(1, .inr (5, [.ref 2, .int 15])), (2, .inl (0, 400, .inl (upd (upd (upd g2 12 ((((a1.toUInt32 >>> ((24 : Int32).toUInt32 &&& Int32.toUInt32 31)).toInt32) &&& 255))) 13 ((((a1.toUInt32 >>> ((16 : Int32).toUInt32 &&& Int32.toUInt32 31)).toInt32) &&& 255))) 14 ((((a1.toUInt32 >>> ((8 : Int32).toUInt32 &&& Int32.toUInt32 31)).toInt32) &&& 255)))))] mv_X8_314 rfl rfl rfl (c_X5_add_147 rfl rfl) rfl dX8_addFour_18 (Nat.le_of_ble_eq_true rfl) (Nat.le_of_ble_eq_true rfl) rfl (Nat.le_of_ble_eq_true rfl) (Nat.le_of_ble_eq_true rfl) (Nat.le_of_ble_eq_true rfl) rfl ?_
  refine aw_pop C dX8_addFour_21 rfl ?_
  refine aw_iinc C 0 dX8_addFour_22 rfl (by decide) (by decide) rfl ?_
  refine aw_nl [some (.ref 0), some (.int a1), some (.int 0)] rfl ?_
  refine aw_goto C 3 dX8_addFour_25 (by decide) ?_
  refine aw_iload_n C dX8_addFour_3 rfl ?_
  refine aw_if_lt C 28 dX8_addFour_4 (by decide) (fun q => absurd q (by decide)) (fun _ => ?_)
  refine aw_ald_n C dX8_addFour_7 rfl ?_
  refine aw_get C gf_X8_14 h0 rfl dX8_addFour_8 ?_
  refine aw_iload_n C dX8_addFour_11 rfl ?_
  refine aw_iload_n C dX8_addFour_12 rfl ?_
  refine aw_iushr C dX8_addFour_13 ?_
  refine aw_sipush C 255 dX8_addFour_14 ks_255 ?_
  refine aw_iand C dX8_addFour_17 ?_
  refine ao_callV C (ci := 5) (b := 1) [.int (((a1.toUInt32 >>> ((0 : Int32).toUInt32 &&& Int32.toUInt32 31)).toInt32) &&& 255)] [(1, .inr (5, [.ref 2, .int 16])), (2, .inl (0, 400, .inl (upd (upd (upd (upd g2 12 ((((a1.toUInt32 >>> ((24 : Int32).toUInt32 &&& Int32.toUInt32 31)).toInt32) &&& 255))) 13 ((((a1.toUInt32 >>> ((16 : Int32).toUInt32 &&& Int32.toUInt32 31)).toInt32) &&& 255))) 14 ((((a1.toUInt32 >>> ((8 : Int32).toUInt32 &&& Int32.toUInt32 31)).toInt32) &&& 255))) 15 ((((a1.toUInt32 >>> ((0 : Int32).toUInt32 &&& Int32.toUInt32 31)).toInt32) &&& 255)))))] mv_X8_314 rfl rfl rfl (c_X5_add_148 rfl rfl) rfl dX8_addFour_18 (Nat.le_of_ble_eq_true rfl) (Nat.le_of_ble_eq_true rfl) rfl (Nat.le_of_ble_eq_true rfl) (Nat.le_of_ble_eq_true rfl) (Nat.le_of_ble_eq_true rfl) rfl ?_
  refine aw_pop C dX8_addFour_21 rfl ?_
  refine aw_iinc C (-8) dX8_addFour_22 rfl (by decide) (by decide) rfl ?_
  refine aw_nl [some (.ref 0), some (.int a1), some (.int (-8))] rfl ?_
  refine aw_goto C 3 dX8_addFour_25 (by decide) ?_
  refine aw_iload_n C dX8_addFour_3 rfl ?_
  refine aw_if_lt C 28 dX8_addFour_4 (by decide) (fun _ => ?_) (fun q => absurd (by decide) q)
  exact aw_vret C rfl dX8_addFour_28 (Nat.le_of_ble_eq_true rfl) (Nat.le_of_ble_eq_true rfl) ⟨rfl, rfl, rfl⟩

set_option maxHeartbeats 4000000 in
set_option maxRecDepth 100000 in
theorem c_X5_add_150 {X : GX} {l : Launch} {f : AH} {n : Nat} {a1 : Int32} {g2 : Nat → Int32} (h1 : f 1 = some (.inr (5, [.ref 2, .int 16]))) (h2 : f 2 = some (.inl (0, 400, .inl g2))) : AM X l yX5_add cX5_add 2 (some .boolean) 0 0 0 [.ref 1, .int a1] f n (EXO f [(2, .inl (0, 400, .inl (upd g2 16 a1))), (1, .inr (5, [.ref 2, .int 17]))] (some (.int 1)) n) := by
  refine AM.of (by decide +kernel) rfl (Nat.le_of_ble_eq_true rfl) (fun p e s m args below meth c C hnm => ?_)
  refine ao_start ?_
  refine aw_nl [some (.ref 1), some (.int a1)] rfl ?_
  refine aw_ald_n C dX5_add_0 rfl ?_
  refine aw_get C gf_X5_15 h1 rfl dX5_add_1 ?_
  refine aw_if_lt C 19 dX5_add_4 (by decide) (fun q => absurd q (by decide)) (fun _ => ?_)
  refine aw_ald_n C dX5_add_7 rfl ?_
  refine aw_get C gf_X5_15 h1 rfl dX5_add_8 ?_
  refine aw_ald_n C dX5_add_11 rfl ?_
  refine aw_get C gf_X5_9 h1 rfl dX5_add_12 ?_
  refine aw_alen C (by decide) h2 dX5_add_15 ?_
  refine aw_top 400 (by decide) ?_
  refine aw_icmp_lt C 21 dX5_add_16 (by decide) (fun _ => ?_) (fun q => absurd (by decide) q)
  refine aw_ald_n C dX5_add_21 rfl ?_
  refine aw_get C gf_X5_9 h1 rfl dX5_add_22 ?_
  refine aw_ald_n C dX5_add_25 rfl ?_
  refine aw_get C gf_X5_15 h1 rfl dX5_add_26 ?_
  refine aw_iload_n C dX5_add_29 rfl ?_
  refine ao_iast C [(2, .inl (0, 400, .inl (upd g2 16 a1)))] h2 (by unfold vp_in; decide) (by decide : _ = 16) dX5_add_30 rfl ?_
  refine aw_ald_n C dX5_add_31 rfl ?_
  refine aw_dup C dX5_add_32 rfl ?_
  refine aw_get C gf_X5_15 h1 rfl dX5_add_33 ?_
  refine aw_iconst C 1 dX5_add_36 ki_1 ?_
  refine ae_iadd C 17 dX5_add_37 (by decide) ?_
  refine ao_put C [(2, .inl (0, 400, .inl (upd g2 16 a1))), (1, .inr (5, [.ref 2, .int 17]))] gf_X5_15 cf5 nf5_1 h1 (Nat.le_of_ble_eq_true rfl) rfl rfl dX5_add_38 rfl ?_
  refine aw_iconst C 1 dX5_add_41 ki_1 ?_
  exact aw_iret C rfl (by decide) dX5_add_42 (Nat.le_of_ble_eq_true rfl) (Nat.le_of_ble_eq_true rfl) ⟨rfl, rfl, rfl⟩

set_option maxHeartbeats 4000000 in
set_option maxRecDepth 100000 in
theorem c_X5_add_151 {X : GX} {l : Launch} {f : AH} {n : Nat} {a1 : Int32} {g2 : Nat → Int32} (h1 : f 1 = some (.inr (5, [.ref 2, .int 17]))) (h2 : f 2 = some (.inl (0, 400, .inl g2))) : AM X l yX5_add cX5_add 2 (some .boolean) 0 0 0 [.ref 1, .int a1] f n (EXO f [(2, .inl (0, 400, .inl (upd g2 17 a1))), (1, .inr (5, [.ref 2, .int 18]))] (some (.int 1)) n) := by
  refine AM.of (by decide +kernel) rfl (Nat.le_of_ble_eq_true rfl) (fun p e s m args below meth c C hnm => ?_)
  refine ao_start ?_
  refine aw_nl [some (.ref 1), some (.int a1)] rfl ?_
  refine aw_ald_n C dX5_add_0 rfl ?_
  refine aw_get C gf_X5_15 h1 rfl dX5_add_1 ?_
  refine aw_if_lt C 19 dX5_add_4 (by decide) (fun q => absurd q (by decide)) (fun _ => ?_)
  refine aw_ald_n C dX5_add_7 rfl ?_
  refine aw_get C gf_X5_15 h1 rfl dX5_add_8 ?_
  refine aw_ald_n C dX5_add_11 rfl ?_
  refine aw_get C gf_X5_9 h1 rfl dX5_add_12 ?_
  refine aw_alen C (by decide) h2 dX5_add_15 ?_
  refine aw_top 400 (by decide) ?_
  refine aw_icmp_lt C 21 dX5_add_16 (by decide) (fun _ => ?_) (fun q => absurd (by decide) q)
  refine aw_ald_n C dX5_add_21 rfl ?_
  refine aw_get C gf_X5_9 h1 rfl dX5_add_22 ?_
  refine aw_ald_n C dX5_add_25 rfl ?_
  refine aw_get C gf_X5_15 h1 rfl dX5_add_26 ?_
  refine aw_iload_n C dX5_add_29 rfl ?_
  refine ao_iast C [(2, .inl (0, 400, .inl (upd g2 17 a1)))] h2 (by unfold vp_in; decide) (by decide : _ = 17) dX5_add_30 rfl ?_
  refine aw_ald_n C dX5_add_31 rfl ?_
  refine aw_dup C dX5_add_32 rfl ?_
  refine aw_get C gf_X5_15 h1 rfl dX5_add_33 ?_
  refine aw_iconst C 1 dX5_add_36 ki_1 ?_
  refine ae_iadd C 18 dX5_add_37 (by decide) ?_
  refine ao_put C [(2, .inl (0, 400, .inl (upd g2 17 a1))), (1, .inr (5, [.ref 2, .int 18]))] gf_X5_15 cf5 nf5_1 h1 (Nat.le_of_ble_eq_true rfl) rfl rfl dX5_add_38 rfl ?_
  refine aw_iconst C 1 dX5_add_41 ki_1 ?_
  exact aw_iret C rfl (by decide) dX5_add_42 (Nat.le_of_ble_eq_true rfl) (Nat.le_of_ble_eq_true rfl) ⟨rfl, rfl, rfl⟩

set_option maxHeartbeats 4000000 in
set_option maxRecDepth 100000 in
theorem c_X5_add_152 {X : GX} {l : Launch} {f : AH} {n : Nat} {a1 : Int32} {g2 : Nat → Int32} (h1 : f 1 = some (.inr (5, [.ref 2, .int 18]))) (h2 : f 2 = some (.inl (0, 400, .inl g2))) : AM X l yX5_add cX5_add 2 (some .boolean) 0 0 0 [.ref 1, .int a1] f n (EXO f [(2, .inl (0, 400, .inl (upd g2 18 a1))), (1, .inr (5, [.ref 2, .int 19]))] (some (.int 1)) n) := by
  refine AM.of (by decide +kernel) rfl (Nat.le_of_ble_eq_true rfl) (fun p e s m args below meth c C hnm => ?_)
  refine ao_start ?_
  refine aw_nl [some (.ref 1), some (.int a1)] rfl ?_
  refine aw_ald_n C dX5_add_0 rfl ?_
  refine aw_get C gf_X5_15 h1 rfl dX5_add_1 ?_
  refine aw_if_lt C 19 dX5_add_4 (by decide) (fun q => absurd q (by decide)) (fun _ => ?_)
  refine aw_ald_n C dX5_add_7 rfl ?_
  refine aw_get C gf_X5_15 h1 rfl dX5_add_8 ?_
  refine aw_ald_n C dX5_add_11 rfl ?_
  refine aw_get C gf_X5_9 h1 rfl dX5_add_12 ?_
  refine aw_alen C (by decide) h2 dX5_add_15 ?_
  refine aw_top 400 (by decide) ?_
  refine aw_icmp_lt C 21 dX5_add_16 (by decide) (fun _ => ?_) (fun q => absurd (by decide) q)
  refine aw_ald_n C dX5_add_21 rfl ?_
  refine aw_get C gf_X5_9 h1 rfl dX5_add_22 ?_
  refine aw_ald_n C dX5_add_25 rfl ?_
  refine aw_get C gf_X5_15 h1 rfl dX5_add_26 ?_
  refine aw_iload_n C dX5_add_29 rfl ?_
  refine ao_iast C [(2, .inl (0, 400, .inl (upd g2 18 a1)))] h2 (by unfold vp_in; decide) (by decide : _ = 18) dX5_add_30 rfl ?_
  refine aw_ald_n C dX5_add_31 rfl ?_
  refine aw_dup C dX5_add_32 rfl ?_
  refine aw_get C gf_X5_15 h1 rfl dX5_add_33 ?_
  refine aw_iconst C 1 dX5_add_36 ki_1 ?_
  refine ae_iadd C 19 dX5_add_37 (by decide) ?_
  refine ao_put C [(2, .inl (0, 400, .inl (upd g2 18 a1))), (1, .inr (5, [.ref 2, .int 19]))] gf_X5_15 cf5 nf5_1 h1 (Nat.le_of_ble_eq_true rfl) rfl rfl dX5_add_38 rfl ?_
  refine aw_iconst C 1 dX5_add_41 ki_1 ?_
  exact aw_iret C rfl (by decide) dX5_add_42 (Nat.le_of_ble_eq_true rfl) (Nat.le_of_ble_eq_true rfl) ⟨rfl, rfl, rfl⟩

set_option maxHeartbeats 4000000 in
set_option maxRecDepth 100000 in
theorem c_X5_add_153 {X : GX} {l : Launch} {f : AH} {n : Nat} {a1 : Int32} {g2 : Nat → Int32} (h1 : f 1 = some (.inr (5, [.ref 2, .int 19]))) (h2 : f 2 = some (.inl (0, 400, .inl g2))) : AM X l yX5_add cX5_add 2 (some .boolean) 0 0 0 [.ref 1, .int a1] f n (EXO f [(2, .inl (0, 400, .inl (upd g2 19 a1))), (1, .inr (5, [.ref 2, .int 20]))] (some (.int 1)) n) := by
  refine AM.of (by decide +kernel) rfl (Nat.le_of_ble_eq_true rfl) (fun p e s m args below meth c C hnm => ?_)
  refine ao_start ?_
  refine aw_nl [some (.ref 1), some (.int a1)] rfl ?_
  refine aw_ald_n C dX5_add_0 rfl ?_
  refine aw_get C gf_X5_15 h1 rfl dX5_add_1 ?_
  refine aw_if_lt C 19 dX5_add_4 (by decide) (fun q => absurd q (by decide)) (fun _ => ?_)
  refine aw_ald_n C dX5_add_7 rfl ?_
  refine aw_get C gf_X5_15 h1 rfl dX5_add_8 ?_
  refine aw_ald_n C dX5_add_11 rfl ?_
  refine aw_get C gf_X5_9 h1 rfl dX5_add_12 ?_
  refine aw_alen C (by decide) h2 dX5_add_15 ?_
  refine aw_top 400 (by decide) ?_
  refine aw_icmp_lt C 21 dX5_add_16 (by decide) (fun _ => ?_) (fun q => absurd (by decide) q)
  refine aw_ald_n C dX5_add_21 rfl ?_
  refine aw_get C gf_X5_9 h1 rfl dX5_add_22 ?_
  refine aw_ald_n C dX5_add_25 rfl ?_
  refine aw_get C gf_X5_15 h1 rfl dX5_add_26 ?_
  refine aw_iload_n C dX5_add_29 rfl ?_
  refine ao_iast C [(2, .inl (0, 400, .inl (upd g2 19 a1)))] h2 (by unfold vp_in; decide) (by decide : _ = 19) dX5_add_30 rfl ?_
  refine aw_ald_n C dX5_add_31 rfl ?_
  refine aw_dup C dX5_add_32 rfl ?_
  refine aw_get C gf_X5_15 h1 rfl dX5_add_33 ?_
  refine aw_iconst C 1 dX5_add_36 ki_1 ?_
  refine ae_iadd C 20 dX5_add_37 (by decide) ?_
  refine ao_put C [(2, .inl (0, 400, .inl (upd g2 19 a1))), (1, .inr (5, [.ref 2, .int 20]))] gf_X5_15 cf5 nf5_1 h1 (Nat.le_of_ble_eq_true rfl) rfl rfl dX5_add_38 rfl ?_
  refine aw_iconst C 1 dX5_add_41 ki_1 ?_
  exact aw_iret C rfl (by decide) dX5_add_42 (Nat.le_of_ble_eq_true rfl) (Nat.le_of_ble_eq_true rfl) ⟨rfl, rfl, rfl⟩

set_option maxHeartbeats 4000000 in
set_option maxRecDepth 100000 in
theorem c_X8_addFour_154 {X : GX} {l : Launch} {f : AH} {n : Nat} {a1 : Int32} {g2 : Nat → Int32} (h0 : f 0 = some (.inr (8, [.ref 1, .ref 3, .ref 8, .ref 13, .ref 18, .ref 59, .ref 115, .ref 171, .ref 178, .int 0, .int 0, .int 0, .int 0, .int (-1)]))) (h1 : f 1 = some (.inr (5, [.ref 2, .int 16]))) (h2 : f 2 = some (.inl (0, 400, .inl g2))) : AM X l yX8_addFour cX8_addFour 3 none 1 0 0 [.ref 0, .int a1] f n (EXO f [(1, .inr (5, [.ref 2, .int 20])), (2, .inl (0, 400, .inl (upd (upd (upd (upd g2 16 ((((a1.toUInt32 >>> ((24 : Int32).toUInt32 &&& Int32.toUInt32 31)).toInt32) &&& 255))) 17 ((((a1.toUInt32 >>> ((16 : Int32).toUInt32 &&& Int32.toUInt32 31)).toInt32) &&& 255))) 18 ((((a1.toUInt32 >>> ((8 : Int32).toUInt32 &&& Int32.toUInt32 31)).toInt32) &&& 255))) 19 ((((a1.toUInt32 >>> ((0 : Int32).toUInt32 &&& Int32.toUInt32 31)).toInt32) &&& 255)))))] none n) := by
  refine AM.of (by decide +kernel) rfl (Nat.le_of_ble_eq_true rfl) (fun p e s m args below meth c C hnm => ?_)
  refine ao_start ?_
  refine aw_nl [some (.ref 0), some (.int a1), none] rfl ?_
  refine aw_bipush C 24 dX8_addFour_0 kb_24 ?_
  refine aw_istore_n C dX8_addFour_2 (by decide) rfl ?_
  refine aw_nl [some (.ref 0), some (.int a1), some (.int 24)] rfl ?_
  refine aw_iload_n C dX8_addFour_3 rfl ?_
  refine aw_if_lt C 28 dX8_addFour_4 (by decide) (fun q => absurd q (by decide)) (fun _ => ?_)
  refine aw_ald_n C dX8_addFour_7 rfl ?_
  refine aw_get C gf_X8_14 h0 rfl dX8_addFour_8 ?_
  refine aw_iload_n C dX8_addFour_11 rfl ?_
  refine aw_iload_n C dX8_addFour_12 rfl ?_
  refine aw_iushr C dX8_addFour_13 ?_
  refine aw_sipush C 255 dX8_addFour_14 ks_255 ?_
  refine aw_iand C dX8_addFour_17 ?_
  refine ao_callV C (ci := 5) (b := 1) [.int (((a1.toUInt32 >>> ((24 : Int32).toUInt32 &&& Int32.toUInt32 31)).toInt32) &&& 255)] [(1, .inr (5, [.ref 2, .int 17])), (2, .inl (0, 400, .inl (upd g2 16 ((((a1.toUInt32 >>> ((24 : Int32).toUInt32 &&& Int32.toUInt32 31)).toInt32) &&& 255)))))] mv_X8_314 rfl rfl h1 (c_X5_add_150 h1 h2) rfl dX8_addFour_18 (Nat.le_of_ble_eq_true rfl) (Nat.le_of_ble_eq_true rfl) rfl (Nat.le_of_ble_eq_true rfl) (Nat.le_of_ble_eq_true rfl) (Nat.le_of_ble_eq_true rfl) rfl ?_
  refine aw_pop C dX8_addFour_21 rfl ?_
  refine aw_iinc C 16 dX8_addFour_22 rfl (by decide) (by decide) rfl ?_
  refine aw_nl [some (.ref 0), some (.int a1), some (.int 16)] rfl ?_
  refine aw_goto C 3 dX8_addFour_25 (by decide) ?_
  refine aw_iload_n C dX8_addFour_3 rfl ?_
  refine aw_if_lt C 28 dX8_addFour_4 (by decide) (fun q => absurd q (by decide)) (fun _ => ?_)
  refine aw_ald_n C dX8_addFour_7 rfl ?_
  refine aw_get C gf_X8_14 h0 rfl dX8_addFour_8 ?_
  refine aw_iload_n C dX8_addFour_11 rfl ?_
  refine aw_iload_n C dX8_addFour_12 rfl ?_
  refine aw_iushr C dX8_addFour_13 ?_
  refine aw_sipush C 255 dX8_addFour_14 ks_255 ?_
  refine aw_iand C dX8_addFour_17 ?_
  refine ao_callV C (ci := 5) (b := 1) [.int (((a1.toUInt32 >>> ((16 : Int32).toUInt32 &&& Int32.toUInt32 31)).toInt32) &&& 255)] [(1, .inr (5, [.ref 2, .int 18])), (2, .inl (0, 400, .inl (upd (upd g2 16 ((((a1.toUInt32 >>> ((24 : Int32).toUInt32 &&& Int32.toUInt32 31)).toInt32) &&& 255))) 17 ((((a1.toUInt32 >>> ((16 : Int32).toUInt32 &&& Int32.toUInt32 31)).toInt32) &&& 255)))))] mv_X8_314 rfl rfl rfl (c_X5_add_151 rfl rfl) rfl dX8_addFour_18 (Nat.le_of_ble_eq_true rfl) (Nat.le_of_ble_eq_true rfl) rfl (Nat.le_of_ble_eq_true rfl) (Nat.le_of_ble_eq_true rfl) (Nat.le_of_ble_eq_true rfl) rfl ?_
  refine aw_pop C dX8_addFour_21 rfl ?_
  refine aw_iinc C 8 dX8_addFour_22 rfl (by decide) (by decide) rfl ?_
  refine aw_nl [some (.ref 0), some (.int a1), some (.int 8)] rfl ?_
  refine aw_goto C 3 dX8_addFour_25 (by decide) ?_
  refine aw_iload_n C dX8_addFour_3 rfl ?_
  refine aw_if_lt C 28 dX8_addFour_4 (by decide) (fun q => absurd q (by decide)) (fun _ => ?_)
  refine aw_ald_n C dX8_addFour_7 rfl ?_
  refine aw_get C gf_X8_14 h0 rfl dX8_addFour_8 ?_
  refine aw_iload_n C dX8_addFour_11 rfl ?_
  refine aw_iload_n C dX8_addFour_12 rfl ?_
  refine aw_iushr C dX8_addFour_13 ?_
  refine aw_sipush C 255 dX8_addFour_14 ks_255 ?_
  refine aw_iand C dX8_addFour_17 ?_
  refine ao_callV C (ci := 5) (b := 1) [.int (((a1.toUInt32 >>> ((8 : Int32).toUInt32 &&& Int32.toUInt32 31)).toInt32) &&& 255)] [(1, .inr (5, [.ref 2, .int 19])), (2, .inl (0, 400, .inl (upd (upd (upd g2 16 ((((a1.toUInt32 >>> ((24 : Int32).toUInt32 &&& Int32.toUInt32 31)).toInt32) &&& 255))) 17 ((((a1.toUInt32 >>> ((16 : Int32).toUInt32 &&& Int32.toUInt32 31)).toInt32) &&& 255))) 18 ((((a1.toUInt32 >>> ((8 : Int32).toUInt32 &&& Int32.toUInt32 31)).toInt32) &&& 255)))))] mv_X8_314 rfl rfl rfl (c_X5_add_152 rfl rfl) rfl dX8_addFour_18 (Nat.le_of_ble_eq_true rfl) (Nat.le_of_ble_eq_true rfl) rfl (Nat.le_of_ble_eq_true rfl) (Nat.le_of_ble_eq_true rfl) (Nat.le_of_ble_eq_true rfl) rfl ?_
  refine aw_pop C dX8_addFour_21 rfl ?_
  refine aw_iinc C 0 dX8_addFour_22 rfl (by decide) (by decide) rfl ?_
  refine aw_nl [some (.ref 0), some (.int a1), some (.int 0)] rfl ?_
  refine aw_goto C 3 dX8_addFour_25 (by decide) ?_
  refine aw_iload_n C dX8_addFour_3 rfl ?_
  refine aw_if_lt C 28 dX8_addFour_4 (by decide) (fun q => absurd q (by decide)) (fun _ => ?_)
  refine aw_ald_n C dX8_addFour_7 rfl ?_
  refine aw_get C gf_X8_14 h0 rfl dX8_addFour_8 ?_
  refine aw_iload_n C dX8_addFour_11 rfl ?_
  refine aw_iload_n C dX8_addFour_12 rfl ?_
  refine aw_iushr C dX8_addFour_13 ?_
  refine aw_sipush C 255 dX8_addFour_14 ks_255 ?_
  refine aw_iand C dX8_addFour_17 ?_
  refine ao_callV C (ci := 5) (b := 1) [.int (((a1.toUInt32 >>> ((0 : Int32).toUInt32 &&& Int32.toUInt32 31)).toInt32) &&& 255)] [(1, .inr (5, [.ref 2, .int 20])), (2, .inl (0, 400, .inl (upd (upd (upd (upd g2 16 ((((a1.toUInt32 >>> ((24 : Int32).toUInt32 &&& Int32.toUInt32 31)).toInt32) &&& 255))) 17 ((((a1.toUInt32 >>> ((16 : Int32).toUInt32 &&& Int32.toUInt32 31)).toInt32) &&& 255))) 18 ((((a1.toUInt32 >>> ((8 : Int32).toUInt32 &&& Int32.toUInt32 31)).toInt32) &&& 255))) 19 ((((a1.toUInt32 >>> ((0 : Int32).toUInt32 &&& Int32.toUInt32 31)).toInt32) &&& 255)))))] mv_X8_314 rfl rfl rfl (c_X5_add_153 rfl rfl) rfl dX8_addFour_18 (Nat.le_of_ble_eq_true rfl) (Nat.le_of_ble_eq_true rfl) rfl (Nat.le_of_ble_eq_true rfl) (Nat.le_of_ble_eq_true rfl) (Nat.le_of_ble_eq_true rfl) rfl ?_
  refine aw_pop C dX8_addFour_21 rfl ?_
  refine aw_iinc C (-8) dX8_addFour_22 rfl (by decide) (by decide) rfl ?_
  refine aw_nl [some (.ref 0), some (.int a1), some (.int (-8))] rfl ?_
  refine aw_goto C 3 dX8_addFour_25 (by decide) ?_
  refine aw_iload_n C dX8_addFour_3 rfl ?_
  refine aw_if_lt C 28 dX8_addFour_4 (by decide) (fun _ => ?_) (fun q => absurd (by decide) q)
  exact aw_vret C rfl dX8_addFour_28 (Nat.le_of_ble_eq_true rfl) (Nat.le_of_ble_eq_true rfl) ⟨rfl, rfl, rfl⟩

set_option maxHeartbeats 4000000 in
set_option maxRecDepth 100000 in
theorem c_X5_size_155 {X : GX} {l : Launch} {f : AH} {n : Nat} (h1 : f 1 = some (.inr (5, [.ref 2, .int 20]))) : AM X l yX5_size cX5_size 1 (some .int) 0 0 0 [.ref 1] f n (EXO f [] (some (.int 20)) n) := by
  refine AM.of (by decide +kernel) rfl (by decide) (fun p e s m args below meth c C hnm => ?_)
  refine ao_start ?_
  refine aw_nl [some (.ref 1)] rfl ?_
  refine aw_ald_n C dX5_size_0 rfl ?_
  refine aw_get C gf_X5_15 h1 rfl dX5_size_1 ?_
  exact aw_iret C rfl rfl dX5_size_4 (Nat.le_of_ble_eq_true rfl) (Nat.le_of_ble_eq_true rfl) ⟨rfl, rfl, rfl⟩

set_option maxHeartbeats 4000000 in
set_option maxRecDepth 100000 in
theorem c_X8_feed_156 {X : GX} {l : Launch} {f : AH} {n : Nat} {a1 : Int32} {a2 : Int32} {a3 : Int32} {a4 : Int32} {a5 : Int32} (h0 : f 0 = some (.inr (8, [.ref 1, .ref 3, .ref 8, .ref 13, .ref 18, .ref 59, .ref 115, .ref 171, .ref 178, .int 0, .int 0, .int 0, .int 0, .int (-1)]))) (h1 : f 1 = some (.inr (5, [.ref 2, .int 0]))) (h2 : f 2 = some (.inl (0, 400, .inl (fun _ => 0)))) : AM X l yX8_feed cX8_feed 6 (some .int) 2 0 0 [.ref 0, .int a1, .int a2, .int a3, .int a4, .int a5] f n (EXO f [(2, .inl (0, 400, .inl (upd (upd (upd (upd (upd (upd (upd (upd (upd (upd (upd (upd (upd (upd (upd (upd (upd (upd (upd (upd (fun _ => 0) 0 ((((a1.toUInt32 >>> ((24 : Int32).toUInt32 &&& Int32.toUInt32 31)).toInt32) &&& 255))) 1 ((((a1.toUInt32 >>> ((16 : Int32).toUInt32 &&& Int32.toUInt32 31)).toInt32) &&& 255))) 2 ((((a1.toUInt32 >>> ((8 : Int32).toUInt32 &&& Int32.toUInt32 31)).toInt32) &&& 255))) 3 ((((a1.toUInt32 >>> ((0 : Int32).toUInt32 &&& Int32.toUInt32 31)).toInt32) &&& 255))) 4 ((((a2.toUInt32 >>> ((24 : Int32).toUInt32 &&& Int32.toUInt32 31)).toInt32) &&& 255))) 5 ((((a2.toUInt32 >>> ((16 : Int32).toUInt32 &&& Int32.toUInt32 31)).toInt32) &&& 255))) 6 ((((a2.toUInt32 >>> ((8 : Int32).toUInt32 &&& Int32.toUInt32 31)).toInt32) &&& 255))) 7 ((((a2.toUInt32 >>> ((0 : Int32).toUInt32 &&& Int32.toUInt32 31)).toInt32) &&& 255))) 8 ((((a3.toUInt32 >>> ((24 : Int32).toUInt32 &&& Int32.toUInt32 31)).toInt32) &&& 255))) 9 ((((a3.toUInt32 >>> ((16 : Int32).toUInt32 &&& Int32.toUInt32 31)).toInt32) &&& 255))) 10 ((((a3.toUInt32 >>> ((8 : Int32).toUInt32 &&& Int32.toUInt32 31)).toInt32) &&& 255))) 11 ((((a3.toUInt32 >>> ((0 : Int32).toUInt32 &&& Int32.toUInt32 31)).toInt32) &&& 255))) 12 ((((a4.toUInt32 >>> ((24 : Int32).toUInt32 &&& Int32.toUInt32 31)).toInt32) &&& 255))) 13 ((((a4.toUInt32 >>> ((16 : Int32).toUInt32 &&& Int32.toUInt32 31)).toInt32) &&& 255))) 14 ((((a4.toUInt32 >>> ((8 : Int32).toUInt32 &&& Int32.toUInt32 31)).toInt32) &&& 255))) 15 ((((a4.toUInt32 >>> ((0 : Int32).toUInt32 &&& Int32.toUInt32 31)).toInt32) &&& 255))) 16 ((((a5.toUInt32 >>> ((24 : Int32).toUInt32 &&& Int32.toUInt32 31)).toInt32) &&& 255))) 17 ((((a5.toUInt32 >>> ((16 : Int32).toUInt32 &&& Int32.toUInt32 31)).toInt32) &&& 255))) 18 ((((a5.toUInt32 >>> ((8 : Int32).toUInt32 &&& Int32.toUInt32 31)).toInt32) &&& 255))) 19 ((((a5.toUInt32 >>> ((0 : Int32).toUInt32 &&& Int32.toUInt32 31)).toInt32) &&& 255))))), (1, .inr (5, [.ref 2, .int 20]))] (some (.int 20)) n) := by
  refine AM.of (by decide +kernel) rfl (Nat.le_of_ble_eq_true rfl) (fun p e s m args below meth c C hnm => ?_)
  refine ao_start ?_
  refine aw_nl [some (.ref 0), some (.int a1), some (.int a2), some (.int a3), some (.int a4), some (.int a5)] rfl ?_
  refine aw_ald_n C dX8_feed_0 rfl ?_
  refine aw_get C gf_X8_14 h0 rfl dX8_feed_1 ?_
  refine ao_callV C (ci := 5) (b := 1) [] [] mv_X8_63 rfl rfl h1 (c_X5_size_129 h1) rfl dX8_feed_4 (Nat.le_of_ble_eq_true rfl) (Nat.le_of_ble_eq_true rfl) rfl (Nat.le_of_ble_eq_true rfl) (Nat.le_of_ble_eq_true rfl) (Nat.le_of_ble_eq_true rfl) rfl ?_
  refine aw_bipush C 20 dX8_feed_7 kb_20 ?_
  refine ae_iadd C 20 dX8_feed_9 (by decide) ?_
  refine aw_sipush C 400 dX8_feed_10 ks_400 ?_
  refine aw_icmp_le C 18 dX8_feed_13 (by decide) (fun _ => ?_) (fun q => absurd (by decide) q)
  refine aw_ald_n C dX8_feed_18 rfl ?_
  refine aw_iload_n C dX8_feed_19 rfl ?_
  refine ao_callV C (ci := 8) (b := 0) [.int a1] [(2, .inl (0, 400, .inl (upd (upd (upd (upd (fun _ => 0) 0 ((((a1.toUInt32 >>> ((24 : Int32).toUInt32 &&& Int32.toUInt32 31)).toInt32) &&& 255))) 1 ((((a1.toUInt32 >>> ((16 : Int32).toUInt32 &&& Int32.toUInt32 31)).toInt32) &&& 255))) 2 ((((a1.toUInt32 >>> ((8 : Int32).toUInt32 &&& Int32.toUInt32 31)).toInt32) &&& 255))) 3 ((((a1.toUInt32 >>> ((0 : Int32).toUInt32 &&& Int32.toUInt32 31)).toInt32) &&& 255))))), (1, .inr (5, [.ref 2, .int 4]))] mv_X8_67 rfl rfl h0 (c_X8_addFour_134 h0 h1 h2) rfl dX8_feed_20 (Nat.le_of_ble_eq_true rfl) (Nat.le_of_ble_eq_true rfl) rfl (Nat.le_of_ble_eq_true rfl) (Nat.le_of_ble_eq_true rfl) (Nat.le_of_ble_eq_true rfl) rfl ?_
  refine aw_ald_n C dX8_feed_23 rfl ?_
  refine aw_iload_n C dX8_feed_24 rfl ?_
  refine ao_callV C (ci := 8) (b := 0) [.int a2] [(2, .inl (0, 400, .inl (upd (upd (upd (upd (upd (upd (upd (upd (fun _ => 0) 0 ((((a1.toUInt32 >>> ((24 : Int32).toUInt32 &&& Int32.toUInt32 31)).toInt32) &&& 255))) 1 ((((a1.toUInt32 >>> ((16 : Int32).toUInt32 &&& Int32.toUInt32 31)).toInt32) &&& 255))) 2 ((((a1.toUInt32 >>> ((8 : Int32).toUInt32 &&& Int32.toUInt32 31)).toInt32) &&& 255))) 3 ((((a1.toUInt32 >>> ((0 : Int32).toUInt32 &&& Int32.toUInt32 31)).toInt32) &&& 255))) 4 ((((a2.toUInt32 >>> ((24 : Int32).toUInt32 &&& Int32.toUInt32 31)).toInt32) &&& 255))) 5 ((((a2.toUInt32 >>> ((16 : Int32).toUInt32 &&& Int32.toUInt32 31)).toInt32) &&& 255))) 6 ((((a2.toUInt32 >>> ((8 : Int32).toUInt32 &&& Int32.toUInt32 31)).toInt32) &&& 255))) 7 ((((a2.toUInt32 >>> ((0 : Int32).toUInt32 &&& Int32.toUInt32 31)).toInt32) &&& 255))))), (1, .inr (5, [.ref 2, .int 8]))] mv_X8_67 rfl rfl h0 (c_X8_addFour_139 h0 rfl rfl) rfl dX8_feed_25 (Nat.le_of_ble_eq_true rfl) (Nat.le_of_ble_eq_true rfl) rfl (Nat.le_of_ble_eq_true rfl) (Nat.le_of_ble_eq_true rfl) (Nat.le_of_ble_eq_true rfl) rfl ?_
  refine aw_ald_n C dX8_feed_28 rfl ?_
  refine aw_iload_n C dX8_feed_29 rfl ?_
  refine ao_callV C (ci := 8) (b := 0) [.int a3] [(2, .inl (0, 400, .inl (upd (upd (upd (upd (upd (upd (upd (upd (upd (upd (upd (upd (fun _ => 0) 0 ((((a1.toUInt32 >>> ((24 : Int32).toUInt32 &&& Int32.toUInt32 31)).toInt32) &&& 255))) 1 ((((a1.toUInt32 >>> ((16 : Int32).toUInt32 &&& Int32.toUInt32 31)).toInt32) &&& 255))) 2 ((((a1.toUInt32 >>> ((8 : Int32).toUInt32 &&& Int32.toUInt32 31)).toInt32) &&& 255))) 3 ((((a1.toUInt32 >>> ((0 : Int32).toUInt32 &&& Int32.toUInt32 31)).toInt32) &&& 255))) 4 ((((a2.toUInt32 >>> ((24 : Int32).toUInt32 &&& Int32.toUInt32 31)).toInt32) &&& 255))) 5 ((((a2.toUInt32 >>> ((16 : Int32).toUInt32 &&& Int32.toUInt32 31)).toInt32) &&& 255))) 6 ((((a2.toUInt32 >>> ((8 : Int32).toUInt32 &&& Int32.toUInt32 31)).toInt32) &&& 255))) 7 ((((a2.toUInt32 >>> ((0 : Int32).toUInt32 &&& Int32.toUInt32 31)).toInt32) &&& 255))) 8 ((((a3.toUInt32 >>> ((24 : Int32).toUInt32 &&& Int32.toUInt32 31)).toInt32) &&& 255))) 9 ((((a3.toUInt32 >>> ((16 : Int32).toUInt32 &&& Int32.toUInt32 31)).toInt32) &&& 255))) 10 ((((a3.toUInt32 >>> ((8 : Int32).toUInt32 &&& Int32.toUInt32 31)).toInt32) &&& 255))) 11 ((((a3.toUInt32 >>> ((0 : Int32).toUInt32 &&& Int32.toUInt32 31)).toInt32) &&& 255))))), (1, .inr (5, [.ref 2, .int 12]))] mv_X8_67 rfl rfl h0 (c_X8_addFour_144 h0 rfl rfl) rfl dX8_feed_30 (Nat.le_of_ble_eq_true rfl) (Nat.le_of_ble_eq_true rfl) rfl (Nat.le_of_ble_eq_true rfl) (Nat.le_of_ble_eq_true rfl) (Nat.le_of_ble_eq_true rfl) rfl ?_
  refine aw_ald_n C dX8_feed_33 rfl ?_
  refine aw_iload C dX8_feed_34 rfl ?_
  refine ao_callV C (ci := 8) (b := 0) [.int a4] [(2, .inl (0, 400, .inl (upd (upd (upd (upd (upd (upd (upd (upd (upd (upd (upd (upd (upd (upd (upd (upd (fun _ => 0) 0 ((((a1.toUInt32 >>> ((24 : Int32).toUInt32 &&& Int32.toUInt32 31)).toInt32) &&& 255))) 1 ((((a1.toUInt32 >>> ((16 : Int32).toUInt32 &&& Int32.toUInt32 31)).toInt32) &&& 255))) 2 ((((a1.toUInt32 >>> ((8 : Int32).toUInt32 &&& Int32.toUInt32 31)).toInt32) &&& 255))) 3 ((((a1.toUInt32 >>> ((0 : Int32).toUInt32 &&& Int32.toUInt32 31)).toInt32) &&& 255))) 4 ((((a2.toUInt32 >>> ((24 : Int32).toUInt32 &&& Int32.toUInt32 31)).toInt32) &&& 255))) 5 ((((a2.toUInt32 >>> ((16 : Int32).toUInt32 &&& Int32.toUInt32 31)).toInt32) &&& 255))) 6 ((((a2.toUInt32 >>> ((8 : Int32).toUInt32 &&& Int32.toUInt32 31)).toInt32) &&& 255))) 7 ((((a2.toUInt32 >>> ((0 : Int32).toUInt32 &&& Int32.toUInt32 31)).toInt32) &&& 255))) 8 ((((a3.toUInt32 >>> ((24 : Int32).toUInt32 &&& Int32.toUInt32 31)).toInt32) &&& 255))) 9 ((((a3.toUInt32 >>> ((16 : Int32).toUInt32 &&& Int32.toUInt32 31)).toInt32) &&& 255))) 10 ((((a3.toUInt32 >>> ((8 : Int32).toUInt32 &&& Int32.toUInt32 31)).toInt32) &&& 255))) 11 ((((a3.toUInt32 >>> ((0 : Int32).toUInt32 &&& Int32.toUInt32 31)).toInt32) &&& 255))) 12 ((((a4.toUInt32 >>> ((24 : Int32).toUInt32 &&& Int32.toUInt32 31)).toInt32) &&& 255))) 13 ((((a4.toUInt32 >>> ((16 : Int32).toUInt32 &&& Int32.toUInt32 31)).toInt32) &&& 255))) 14 ((((a4.toUInt32 >>> ((8 : Int32).toUInt32 &&& Int32.toUInt32 31)).toInt32) &&& 255))) 15 ((((a4.toUInt32 >>> ((0 : Int32).toUInt32 &&& Int32.toUInt32 31)).toInt32) &&& 255))))), (1, .inr (5, [.ref 2, .int 16]))] mv_X8_67 rfl rfl h0 (c_X8_addFour_149 h0 rfl rfl) rfl dX8_feed_36 (Nat.le_of_ble_eq_true rfl) (Nat.le_of_ble_eq_true rfl) rfl (Nat.le_of_ble_eq_true rfl) (Nat.le_of_ble_eq_true rfl) (Nat.le_of_ble_eq_true rfl) rfl ?_
  refine aw_ald_n C dX8_feed_39 rfl ?_
  refine aw_iload C dX8_feed_40 rfl ?_
  refine ao_callV C (ci := 8) (b := 0) [.int a5] [(2, .inl (0, 400, .inl (upd (upd (upd (upd (upd (upd (upd (upd (upd (upd (upd (upd (upd (upd (upd (upd (upd (upd (upd (upd (fun _ => 0) 0 ((((a1.toUInt32 >>> ((24 : Int32).toUInt32 &&& Int32.toUInt32 31)).toInt32) &&& 255))) 1 ((((a1.toUInt32 >>> ((16 : Int32).toUInt32 &&& Int32.toUInt32 31)).toInt32) &&& 255))) 2 ((((a1.toUInt32 >>> ((8 : Int32).toUInt32 &&& Int32.toUInt32 31)).toInt32) &&& 255))) 3 ((((a1.toUInt32 >>> ((0 : Int32).toUInt32 &&& Int32.toUInt32 31)).toInt32) &&& 255))) 4 ((((a2.toUInt32 >>> ((24 : Int32).toUInt32 &&& Int32.toUInt32 31)).toInt32) &&& 255))) 5 ((((a2.toUInt32 >>> ((16 : Int32).toUInt32 &&& Int32.toUInt32 31)).toInt32) &&& 255))) 6 ((((a2.toUInt32 >>> ((8 : Int32).toUInt32 &&& Int32.toUInt32 31)).toInt32) &&& 255))) 7 ((((a2.toUInt32 >>> ((0 : Int32).toUInt32 &&& Int32.toUInt32 31)).toInt32) &&& 255))) 8 ((((a3.toUInt32 >>> ((24 : Int32).toUInt32 &&& Int32.toUInt32 31)).toInt32) &&& 255))) 9 ((((a3.toUInt32 >>> ((16 : Int32).toUInt32 &&& Int32.toUInt32 31)).toInt32) &&& 255))) 10 ((((a3.toUInt32 >>> ((8 : Int32).toUInt32 &&& Int32.toUInt32 31)).toInt32) &&& 255))) 11 ((((a3.toUInt32 >>> ((0 : Int32).toUInt32 &&& Int32.toUInt32 31)).toInt32) &&& 255))) 12 ((((a4.toUInt32 >>> ((24 : Int32).toUInt32 &&& Int32.toUInt32 31)).toInt32) &&& 255))) 13 ((((a4.toUInt32 >>> ((16 : Int32).toUInt32 &&& Int32.toUInt32 31)).toInt32) &&& 255))) 14 ((((a4.toUInt32 >>> ((8 : Int32).toUInt32 &&& Int32.toUInt32 31)).toInt32) &&& 255))) 15 ((((a4.toUInt32 >>> ((0 : Int32).toUInt32 &&& Int32.toUInt32 31)).toInt32) &&& 255))) 16 ((((a5.toUInt32 >>> ((24 : Int32).toUInt32 &&& Int32.toUInt32 31)).toInt32) &&& 255))) 17 ((((a5.toUInt32 >>> ((16 : Int32).toUInt32 &&& Int32.toUInt32 31)).toInt32) &&& 255))) 18 ((((a5.toUInt32 >>> ((8 : Int32).toUInt32 &&& Int32.toUInt32 31)).toInt32) &&& 255))) 19 ((((a5.toUInt32 >>> ((0 : Int32).toUInt32 &&& Int32.toUInt32 31)).toInt32) &&& 255))))), (1, .inr (5, [.ref 2, .int 20]))] mv_X8_67 rfl rfl h0 (c_X8_addFour_154 h0 rfl rfl) rfl dX8_feed_42 (Nat.le_of_ble_eq_true rfl) (Nat.le_of_ble_eq_true rfl) rfl (Nat.le_of_ble_eq_true rfl) (Nat.le_of_ble_eq_true rfl) (Nat.le_of_ble_eq_true rfl) rfl ?_
  refine aw_ald_n C dX8_feed_45 rfl ?_
  refine aw_get C gf_X8_14 h0 rfl dX8_feed_46 ?_
  refine ao_callV C (ci := 5) (b := 1) [] [(2, .inl (0, 400, .inl (upd (upd (upd (upd (upd (upd (upd (upd (upd (upd (upd (upd (upd (upd (upd (upd (upd (upd (upd (upd (fun _ => 0) 0 ((((a1.toUInt32 >>> ((24 : Int32).toUInt32 &&& Int32.toUInt32 31)).toInt32) &&& 255))) 1 ((((a1.toUInt32 >>> ((16 : Int32).toUInt32 &&& Int32.toUInt32 31)).toInt32) &&& 255))) 2 ((((a1.toUInt32 >>> ((8 : Int32).toUInt32 &&& Int32.toUInt32 31)).toInt32) &&& 255))) 3 ((((a1.toUInt32 >>> ((0 : Int32).toUInt32 &&& Int32.toUInt32 31)).toInt32) &&& 255))) 4 ((((a2.toUInt32 >>> ((24 : Int32).toUInt32 &&& Int32.toUInt32 31)).toInt32) &&& 255))) 5 ((((a2.toUInt32 >>> ((16 : Int32).toUInt32 &&& Int32.toUInt32 31)).toInt32) &&& 255))) 6 ((((a2.toUInt32 >>> ((8 : Int32).toUInt32 &&& Int32.toUInt32 31)).toInt32) &&& 255))) 7 ((((a2.toUInt32 >>> ((0 : Int32).toUInt32 &&& Int32.toUInt32 31)).toInt32) &&& 255))) 8 ((((a3.toUInt32 >>> ((24 : Int32).toUInt32 &&& Int32.toUInt32 31)).toInt32) &&& 255))) 9 ((((a3.toUInt32 >>> ((16 : Int32).toUInt32 &&& Int32.toUInt32 31)).toInt32) &&& 255))) 10 ((((a3.toUInt32 >>> ((8 : Int32).toUInt32 &&& Int32.toUInt32 31)).toInt32) &&& 255))) 11 ((((a3.toUInt32 >>> ((0 : Int32).toUInt32 &&& Int32.toUInt32 31)).toInt32) &&& 255))) 12 ((((a4.toUInt32 >>> ((24 : Int32).toUInt32 &&& Int32.toUInt32 31)).toInt32) &&& 255))) 13 ((((a4.toUInt32 >>> ((16 : Int32).toUInt32 &&& Int32.toUInt32 31)).toInt32) &&& 255))) 14 ((((a4.toUInt32 >>> ((8 : Int32).toUInt32 &&& Int32.toUInt32 31)).toInt32) &&& 255))) 15 ((((a4.toUInt32 >>> ((0 : Int32).toUInt32 &&& Int32.toUInt32 31)).toInt32) &&& 255))) 16 ((((a5.toUInt32 >>> ((24 : Int32).toUInt32 &&& Int32.toUInt32 31)).toInt32) &&& 255))) 17 ((((a5.toUInt32 >>> ((16 : Int32).toUInt32 &&& Int32.toUInt32 31)).toInt32) &&& 255))) 18 ((((a5.toUInt32 >>> ((8 : Int32).toUInt32 &&& Int32.toUInt32 31)).toInt32) &&& 255))) 19 ((((a5.toUInt32 >>> ((0 : Int32).toUInt32 &&& Int32.toUInt32 31)).toInt32) &&& 255))))), (1, .inr (5, [.ref 2, .int 20]))] mv_X8_63 rfl rfl rfl (c_X5_size_155 rfl) rfl dX8_feed_49 (Nat.le_of_ble_eq_true rfl) (Nat.le_of_ble_eq_true rfl) rfl (Nat.le_of_ble_eq_true rfl) (Nat.le_of_ble_eq_true rfl) (Nat.le_of_ble_eq_true rfl) rfl ?_
  exact aw_iret C rfl rfl dX8_feed_52 (Nat.le_of_ble_eq_true rfl) (Nat.le_of_ble_eq_true rfl) ⟨rfl, rfl, rfl⟩

