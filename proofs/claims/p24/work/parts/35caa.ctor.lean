set_option maxHeartbeats 4000000 in
set_option maxRecDepth 100000 in
theorem c_X5_init_0 {X : GX} {l : Launch} {f : AH} (h1 : f 1 = some (.inr (5, [.null, .int 0]))) : AM X l yX5_init cX5_init 2 none 1 1 400 [.ref 1, .int 400] f 2 (EXO f [(2, .inl (0, 400, .inl (fun _ => 0))), (1, .inr (5, [.ref 2, .int 0]))] none 3) := by
  refine AM.of (by decide +kernel) rfl (by decide) (fun p e s m args below meth c C hnm => ?_)
  refine ao_start ?_
  refine aw_nl [some (.ref 1), some (.int 400)] rfl ?_
  refine aw_ald_n C dX5_init_0 rfl ?_
  refine aw_oinit C oi_X5_3 oi2 oi3 dX5_init_1 (Nat.le_of_ble_eq_true rfl) (Nat.le_of_ble_eq_true rfl) ?_
  refine aw_ald_n C dX5_init_4 rfl ?_
  refine aw_iload_n C dX5_init_5 rfl ?_
  refine aw_if_le C 13 dX5_init_6 (by decide) (fun q => absurd q (by decide)) (fun _ => ?_)
  refine aw_iload_n C dX5_init_9 rfl ?_
  refine aw_goto C 14 dX5_init_10 (by decide) ?_
  refine ao_newi C 400 [(2, .inl (0, 400, .inl (fun _ => 0)))] (by decide) (by decide) (Nat.le_of_ble_eq_true rfl) (Nat.le_of_ble_eq_true rfl) (Nat.le_of_ble_eq_true rfl) dX5_init_14 rfl ?_
  refine ao_putF C [(2, .inl (0, 400, .inl (fun _ => 0))), (1, .inr (5, [.ref 2, .int 0]))] gf_X5_9 cf5 fi5_0 hnm h1 (Nat.le_of_ble_eq_true rfl) rfl rfl dX5_init_16 rfl ?_
  exact aw_vret C rfl dX5_init_19 (Nat.le_of_ble_eq_true rfl) (Nat.le_of_ble_eq_true rfl) ⟨rfl, rfl, rfl⟩

set_option maxHeartbeats 4000000 in
set_option maxRecDepth 100000 in
theorem c_X5_init_1 {X : GX} {l : Launch} {f : AH} (h4 : f 4 = some (.inr (5, [.null, .int 0]))) : AM X l yX5_init cX5_init 2 none 1 1 0 [.ref 4, .int 0] f 5 (EXO f [(5, .inl (0, 0, .inl (fun _ => 0))), (4, .inr (5, [.ref 5, .int 0]))] none 6) := by
  refine AM.of (by decide +kernel) rfl (by decide) (fun p e s m args below meth c C hnm => ?_)
  refine ao_start ?_
  refine aw_nl [some (.ref 4), some (.int 0)] rfl ?_
  refine aw_ald_n C dX5_init_0 rfl ?_
  refine aw_oinit C oi_X5_3 oi2 oi3 dX5_init_1 (Nat.le_of_ble_eq_true rfl) (Nat.le_of_ble_eq_true rfl) ?_
  refine aw_ald_n C dX5_init_4 rfl ?_
  refine aw_iload_n C dX5_init_5 rfl ?_
  refine aw_if_le C 13 dX5_init_6 (by decide) (fun _ => ?_) (fun q => absurd (by decide) q)
  refine aw_iconst C 0 dX5_init_13 ki_0 ?_
  refine ao_newi C 0 [(5, .inl (0, 0, .inl (fun _ => 0)))] (by decide) (by decide) (Nat.le_of_ble_eq_true rfl) (Nat.le_of_ble_eq_true rfl) (Nat.le_of_ble_eq_true rfl) dX5_init_14 rfl ?_
  refine ao_putF C [(5, .inl (0, 0, .inl (fun _ => 0))), (4, .inr (5, [.ref 5, .int 0]))] gf_X5_9 cf5 fi5_0 hnm h4 (Nat.le_of_ble_eq_true rfl) rfl rfl dX5_init_16 rfl ?_
  exact aw_vret C rfl dX5_init_19 (Nat.le_of_ble_eq_true rfl) (Nat.le_of_ble_eq_true rfl) ⟨rfl, rfl, rfl⟩

set_option maxHeartbeats 4000000 in
set_option maxRecDepth 100000 in
theorem c_X7_init_2 {X : GX} {l : Launch} {f : AH} (h3 : f 3 = some (.inr (7, [.null, .int 0, .int 0, .int 0, .int 0, .int 0, .null, .int 0, .null, .null]))) : AM X l yX7_init cX7_init 1 none 2 4 46 [.ref 3] f 4 (EXO f [(4, .inr (5, [.ref 5, .int 0])), (5, .inl (0, 0, .inl (fun _ => 0))), (3, .inr (7, [.ref 4, .int 0, .int (-1), .int 0, .int 1, .int 0, .null, .int 0, .ref 6, .ref 7])), (6, .inl (2, 4, .inr (.inr (fun _ => none)))), (7, .inl (2, 40, .inr (.inr (fun _ => none))))] none 8) := by
  refine AM.of (by decide +kernel) rfl (by decide) (fun p e s m args below meth c C hnm => ?_)
  refine ao_start ?_
  refine aw_nl [some (.ref 3)] rfl ?_
  refine aw_ald_n C dX7_init_0 rfl ?_
  refine aw_oinit C oi_X7_3 oi2 oi3 dX7_init_1 (Nat.le_of_ble_eq_true rfl) (Nat.le_of_ble_eq_true rfl) ?_
  refine aw_ald_n C dX7_init_4 rfl ?_
  refine ao_new C [(4, .inr (5, [.null, .int 0]))] nw_X7_9 (Nat.le_of_ble_eq_true rfl) (Nat.le_of_ble_eq_true rfl) dX7_init_5 rfl ?_
  refine aw_dup C dX7_init_8 rfl ?_
  refine aw_iconst C 0 dX7_init_9 ki_0 ?_
  refine ao_callI C [.int 0] [(4, .inr (5, [.ref 5, .int 0])), (5, .inl (0, 0, .inl (fun _ => 0)))] mi_X7_11 (c_X5_init_1 rfl) rfl dX7_init_10 (Nat.le_of_ble_eq_true rfl) (Nat.le_of_ble_eq_true rfl) rfl (Nat.le_of_ble_eq_true rfl) (Nat.le_of_ble_eq_true rfl) (Nat.le_of_ble_eq_true rfl) rfl ?_
  refine ao_put C [(4, .inr (5, [.ref 5, .int 0])), (5, .inl (0, 0, .inl (fun _ => 0))), (3, .inr (7, [.ref 4, .int 0, .int 0, .int 0, .int 0, .int 0, .null, .int 0, .null, .null]))] gf_X7_14 cf7 nf7_0 h3 (Nat.le_of_ble_eq_true rfl) rfl rfl dX7_init_13 rfl ?_
  refine aw_ald_n C dX7_init_16 rfl ?_
  refine aw_iconst C 0 dX7_init_17 ki_0 ?_
  refine ao_put C [(4, .inr (5, [.ref 5, .int 0])), (5, .inl (0, 0, .inl (fun _ => 0))), (3, .inr (7, [.ref 4, .int 0, .int 0, .int 0, .int 0, .int 0, .null, .int 0, .null, .null]))] gf_X7_20 cf7 nf7_1 rfl (Nat.le_of_ble_eq_true rfl) rfl rfl dX7_init_18 rfl ?_
  refine aw_ald_n C dX7_init_21 rfl ?_
  refine aw_iconst C (-1) dX7_init_22 ki_m1 ?_
  refine ao_put C [(4, .inr (5, [.ref 5, .int 0])), (5, .inl (0, 0, .inl (fun _ => 0))), (3, .inr (7, [.ref 4, .int 0, .int (-1), .int 0, .int 0, .int 0, .null, .int 0, .null, .null]))] gf_X7_24 cf7 nf7_2 rfl (Nat.le_of_ble_eq_true rfl) rfl rfl dX7_init_23 rfl ?_
  refine aw_ald_n C dX7_init_26 rfl ?_
  refine aw_iconst C 1 dX7_init_27 ki_1 ?_
  refine ao_put C [(4, .inr (5, [.ref 5, .int 0])), (5, .inl (0, 0, .inl (fun _ => 0))), (3, .inr (7, [.ref 4, .int 0, .int (-1), .int 0, .int 1, .int 0, .null, .int 0, .null, .null]))] gf_X7_27 cf7 nf7_4 rfl (Nat.le_of_ble_eq_true rfl) rfl rfl dX7_init_28 rfl ?_
  refine aw_ald_n C dX7_init_31 rfl ?_
  refine aw_iconst C 4 dX7_init_32 ki_4 ?_
  refine ao_newq C 2 4 [(4, .inr (5, [.ref 5, .int 0])), (5, .inl (0, 0, .inl (fun _ => 0))), (3, .inr (7, [.ref 4, .int 0, .int (-1), .int 0, .int 1, .int 0, .null, .int 0, .null, .null])), (6, .inl (2, 4, .inr (.inr (fun _ => none))))] (by decide) rfl cl_X7_9 C.2.2.2.2.2.2.1.2.2.2.2.1.2.1 (by decide) (by decide) (Nat.le_of_ble_eq_true rfl) (Nat.le_of_ble_eq_true rfl) (Nat.le_of_ble_eq_true rfl) dX7_init_33 rfl ?_
  refine ao_putF C [(4, .inr (5, [.ref 5, .int 0])), (5, .inl (0, 0, .inl (fun _ => 0))), (3, .inr (7, [.ref 4, .int 0, .int (-1), .int 0, .int 1, .int 0, .null, .int 0, .ref 6, .null])), (6, .inl (2, 4, .inr (.inr (fun _ => none))))] gf_X7_30 cf7 fi7_8 hnm rfl (Nat.le_of_ble_eq_true rfl) rfl rfl dX7_init_36 rfl ?_
  refine aw_ald_n C dX7_init_39 rfl ?_
  refine aw_bipush C 40 dX7_init_40 kb_40 ?_
  refine ao_newq C 2 40 [(4, .inr (5, [.ref 5, .int 0])), (5, .inl (0, 0, .inl (fun _ => 0))), (3, .inr (7, [.ref 4, .int 0, .int (-1), .int 0, .int 1, .int 0, .null, .int 0, .ref 6, .null])), (6, .inl (2, 4, .inr (.inr (fun _ => none)))), (7, .inl (2, 40, .inr (.inr (fun _ => none))))] (by decide) rfl cl_X7_9 C.2.2.2.2.2.2.1.2.2.2.2.1.2.1 (by decide) (by decide) (Nat.le_of_ble_eq_true rfl) (Nat.le_of_ble_eq_true rfl) (Nat.le_of_ble_eq_true rfl) dX7_init_42 rfl ?_
  refine ao_putF C [(4, .inr (5, [.ref 5, .int 0])), (5, .inl (0, 0, .inl (fun _ => 0))), (3, .inr (7, [.ref 4, .int 0, .int (-1), .int 0, .int 1, .int 0, .null, .int 0, .ref 6, .ref 7])), (6, .inl (2, 4, .inr (.inr (fun _ => none)))), (7, .inl (2, 40, .inr (.inr (fun _ => none))))] gf_X7_34 cf7 fi7_9 hnm rfl (Nat.le_of_ble_eq_true rfl) rfl rfl dX7_init_45 rfl ?_
  exact aw_vret C rfl dX7_init_48 (Nat.le_of_ble_eq_true rfl) (Nat.le_of_ble_eq_true rfl) ⟨rfl, rfl, rfl⟩

set_option maxHeartbeats 4000000 in
set_option maxRecDepth 100000 in
theorem c_X5_init_3 {X : GX} {l : Launch} {f : AH} (h9 : f 9 = some (.inr (5, [.null, .int 0]))) : AM X l yX5_init cX5_init 2 none 1 1 0 [.ref 9, .int 0] f 10 (EXO f [(10, .inl (0, 0, .inl (fun _ => 0))), (9, .inr (5, [.ref 10, .int 0]))] none 11) := by
  refine AM.of (by decide +kernel) rfl (by decide) (fun p e s m args below meth c C hnm => ?_)
  refine ao_start ?_
  refine aw_nl [some (.ref 9), some (.int 0)] rfl ?_
  refine aw_ald_n C dX5_init_0 rfl ?_
  refine aw_oinit C oi_X5_3 oi2 oi3 dX5_init_1 (Nat.le_of_ble_eq_true rfl) (Nat.le_of_ble_eq_true rfl) ?_
  refine aw_ald_n C dX5_init_4 rfl ?_
  refine aw_iload_n C dX5_init_5 rfl ?_
  refine aw_if_le C 13 dX5_init_6 (by decide) (fun _ => ?_) (fun q => absurd (by decide) q)
  refine aw_iconst C 0 dX5_init_13 ki_0 ?_
  refine ao_newi C 0 [(10, .inl (0, 0, .inl (fun _ => 0)))] (by decide) (by decide) (Nat.le_of_ble_eq_true rfl) (Nat.le_of_ble_eq_true rfl) (Nat.le_of_ble_eq_true rfl) dX5_init_14 rfl ?_
  refine ao_putF C [(10, .inl (0, 0, .inl (fun _ => 0))), (9, .inr (5, [.ref 10, .int 0]))] gf_X5_9 cf5 fi5_0 hnm h9 (Nat.le_of_ble_eq_true rfl) rfl rfl dX5_init_16 rfl ?_
  exact aw_vret C rfl dX5_init_19 (Nat.le_of_ble_eq_true rfl) (Nat.le_of_ble_eq_true rfl) ⟨rfl, rfl, rfl⟩

set_option maxHeartbeats 4000000 in
set_option maxRecDepth 100000 in
theorem c_X7_init_4 {X : GX} {l : Launch} {f : AH} (h8 : f 8 = some (.inr (7, [.null, .int 0, .int 0, .int 0, .int 0, .int 0, .null, .int 0, .null, .null]))) : AM X l yX7_init cX7_init 1 none 2 4 46 [.ref 8] f 9 (EXO f [(9, .inr (5, [.ref 10, .int 0])), (10, .inl (0, 0, .inl (fun _ => 0))), (8, .inr (7, [.ref 9, .int 0, .int (-1), .int 0, .int 1, .int 0, .null, .int 0, .ref 11, .ref 12])), (11, .inl (2, 4, .inr (.inr (fun _ => none)))), (12, .inl (2, 40, .inr (.inr (fun _ => none))))] none 13) := by
  refine AM.of (by decide +kernel) rfl (by decide) (fun p e s m args below meth c C hnm => ?_)
  refine ao_start ?_
  refine aw_nl [some (.ref 8)] rfl ?_
  refine aw_ald_n C dX7_init_0 rfl ?_
  refine aw_oinit C oi_X7_3 oi2 oi3 dX7_init_1 (Nat.le_of_ble_eq_true rfl) (Nat.le_of_ble_eq_true rfl) ?_
  refine aw_ald_n C dX7_init_4 rfl ?_
  refine ao_new C [(9, .inr (5, [.null, .int 0]))] nw_X7_9 (Nat.le_of_ble_eq_true rfl) (Nat.le_of_ble_eq_true rfl) dX7_init_5 rfl ?_
  refine aw_dup C dX7_init_8 rfl ?_
  refine aw_iconst C 0 dX7_init_9 ki_0 ?_
  refine ao_callI C [.int 0] [(9, .inr (5, [.ref 10, .int 0])), (10, .inl (0, 0, .inl (fun _ => 0)))] mi_X7_11 (c_X5_init_3 rfl) rfl dX7_init_10 (Nat.le_of_ble_eq_true rfl) (Nat.le_of_ble_eq_true rfl) rfl (Nat.le_of_ble_eq_true rfl) (Nat.le_of_ble_eq_true rfl) (Nat.le_of_ble_eq_true rfl) rfl ?_
  refine ao_put C [(9, .inr (5, [.ref 10, .int 0])), (10, .inl (0, 0, .inl (fun _ => 0))), (8, .inr (7, [.ref 9, .int 0, .int 0, .int 0, .int 0, .int 0, .null, .int 0, .null, .null]))] gf_X7_14 cf7 nf7_0 h8 (Nat.le_of_ble_eq_true rfl) rfl rfl dX7_init_13 rfl ?_
  refine aw_ald_n C dX7_init_16 rfl ?_
  refine aw_iconst C 0 dX7_init_17 ki_0 ?_
  refine ao_put C [(9, .inr (5, [.ref 10, .int 0])), (10, .inl (0, 0, .inl (fun _ => 0))), (8, .inr (7, [.ref 9, .int 0, .int 0, .int 0, .int 0, .int 0, .null, .int 0, .null, .null]))] gf_X7_20 cf7 nf7_1 rfl (Nat.le_of_ble_eq_true rfl) rfl rfl dX7_init_18 rfl ?_
  refine aw_ald_n C dX7_init_21 rfl ?_
  refine aw_iconst C (-1) dX7_init_22 ki_m1 ?_
  refine ao_put C [(9, .inr (5, [.ref 10, .int 0])), (10, .inl (0, 0, .inl (fun _ => 0))), (8, .inr (7, [.ref 9, .int 0, .int (-1), .int 0, .int 0, .int 0, .null, .int 0, .null, .null]))] gf_X7_24 cf7 nf7_2 rfl (Nat.le_of_ble_eq_true rfl) rfl rfl dX7_init_23 rfl ?_
  refine aw_ald_n C dX7_init_26 rfl ?_
  refine aw_iconst C 1 dX7_init_27 ki_1 ?_
  refine ao_put C [(9, .inr (5, [.ref 10, .int 0])), (10, .inl (0, 0, .inl (fun _ => 0))), (8, .inr (7, [.ref 9, .int 0, .int (-1), .int 0, .int 1, .int 0, .null, .int 0, .null, .null]))] gf_X7_27 cf7 nf7_4 rfl (Nat.le_of_ble_eq_true rfl) rfl rfl dX7_init_28 rfl ?_
  refine aw_ald_n C dX7_init_31 rfl ?_
  refine aw_iconst C 4 dX7_init_32 ki_4 ?_
  refine ao_newq C 2 4 [(9, .inr (5, [.ref 10, .int 0])), (10, .inl (0, 0, .inl (fun _ => 0))), (8, .inr (7, [.ref 9, .int 0, .int (-1), .int 0, .int 1, .int 0, .null, .int 0, .null, .null])), (11, .inl (2, 4, .inr (.inr (fun _ => none))))] (by decide) rfl cl_X7_9 C.2.2.2.2.2.2.1.2.2.2.2.1.2.1 (by decide) (by decide) (Nat.le_of_ble_eq_true rfl) (Nat.le_of_ble_eq_true rfl) (Nat.le_of_ble_eq_true rfl) dX7_init_33 rfl ?_
  refine ao_putF C [(9, .inr (5, [.ref 10, .int 0])), (10, .inl (0, 0, .inl (fun _ => 0))), (8, .inr (7, [.ref 9, .int 0, .int (-1), .int 0, .int 1, .int 0, .null, .int 0, .ref 11, .null])), (11, .inl (2, 4, .inr (.inr (fun _ => none))))] gf_X7_30 cf7 fi7_8 hnm rfl (Nat.le_of_ble_eq_true rfl) rfl rfl dX7_init_36 rfl ?_
  refine aw_ald_n C dX7_init_39 rfl ?_
  refine aw_bipush C 40 dX7_init_40 kb_40 ?_
  refine ao_newq C 2 40 [(9, .inr (5, [.ref 10, .int 0])), (10, .inl (0, 0, .inl (fun _ => 0))), (8, .inr (7, [.ref 9, .int 0, .int (-1), .int 0, .int 1, .int 0, .null, .int 0, .ref 11, .null])), (11, .inl (2, 4, .inr (.inr (fun _ => none)))), (12, .inl (2, 40, .inr (.inr (fun _ => none))))] (by decide) rfl cl_X7_9 C.2.2.2.2.2.2.1.2.2.2.2.1.2.1 (by decide) (by decide) (Nat.le_of_ble_eq_true rfl) (Nat.le_of_ble_eq_true rfl) (Nat.le_of_ble_eq_true rfl) dX7_init_42 rfl ?_
  refine ao_putF C [(9, .inr (5, [.ref 10, .int 0])), (10, .inl (0, 0, .inl (fun _ => 0))), (8, .inr (7, [.ref 9, .int 0, .int (-1), .int 0, .int 1, .int 0, .null, .int 0, .ref 11, .ref 12])), (11, .inl (2, 4, .inr (.inr (fun _ => none)))), (12, .inl (2, 40, .inr (.inr (fun _ => none))))] gf_X7_34 cf7 fi7_9 hnm rfl (Nat.le_of_ble_eq_true rfl) rfl rfl dX7_init_45 rfl ?_
  exact aw_vret C rfl dX7_init_48 (Nat.le_of_ble_eq_true rfl) (Nat.le_of_ble_eq_true rfl) ⟨rfl, rfl, rfl⟩

set_option maxHeartbeats 4000000 in
set_option maxRecDepth 100000 in
theorem c_X5_init_5 {X : GX} {l : Launch} {f : AH} (h14 : f 14 = some (.inr (5, [.null, .int 0]))) : AM X l yX5_init cX5_init 2 none 1 1 0 [.ref 14, .int 0] f 15 (EXO f [(15, .inl (0, 0, .inl (fun _ => 0))), (14, .inr (5, [.ref 15, .int 0]))] none 16) := by
  refine AM.of (by decide +kernel) rfl (by decide) (fun p e s m args below meth c C hnm => ?_)
  refine ao_start ?_
  refine aw_nl [some (.ref 14), some (.int 0)] rfl ?_
  refine aw_ald_n C dX5_init_0 rfl ?_
  refine aw_oinit C oi_X5_3 oi2 oi3 dX5_init_1 (Nat.le_of_ble_eq_true rfl) (Nat.le_of_ble_eq_true rfl) ?_
  refine aw_ald_n C dX5_init_4 rfl ?_
  refine aw_iload_n C dX5_init_5 rfl ?_
  refine aw_if_le C 13 dX5_init_6 (by decide) (fun _ => ?_) (fun q => absurd (by decide) q)
  refine aw_iconst C 0 dX5_init_13 ki_0 ?_
  refine ao_newi C 0 [(15, .inl (0, 0, .inl (fun _ => 0)))] (by decide) (by decide) (Nat.le_of_ble_eq_true rfl) (Nat.le_of_ble_eq_true rfl) (Nat.le_of_ble_eq_true rfl) dX5_init_14 rfl ?_
  refine ao_putF C [(15, .inl (0, 0, .inl (fun _ => 0))), (14, .inr (5, [.ref 15, .int 0]))] gf_X5_9 cf5 fi5_0 hnm h14 (Nat.le_of_ble_eq_true rfl) rfl rfl dX5_init_16 rfl ?_
  exact aw_vret C rfl dX5_init_19 (Nat.le_of_ble_eq_true rfl) (Nat.le_of_ble_eq_true rfl) ⟨rfl, rfl, rfl⟩

set_option maxHeartbeats 4000000 in
set_option maxRecDepth 100000 in
theorem c_X7_init_6 {X : GX} {l : Launch} {f : AH} (h13 : f 13 = some (.inr (7, [.null, .int 0, .int 0, .int 0, .int 0, .int 0, .null, .int 0, .null, .null]))) : AM X l yX7_init cX7_init 1 none 2 4 46 [.ref 13] f 14 (EXO f [(14, .inr (5, [.ref 15, .int 0])), (15, .inl (0, 0, .inl (fun _ => 0))), (13, .inr (7, [.ref 14, .int 0, .int (-1), .int 0, .int 1, .int 0, .null, .int 0, .ref 16, .ref 17])), (16, .inl (2, 4, .inr (.inr (fun _ => none)))), (17, .inl (2, 40, .inr (.inr (fun _ => none))))] none 18) := by
  refine AM.of (by decide +kernel) rfl (by decide) (fun p e s m args below meth c C hnm => ?_)
  refine ao_start ?_
  refine aw_nl [some (.ref 13)] rfl ?_
  refine aw_ald_n C dX7_init_0 rfl ?_
  refine aw_oinit C oi_X7_3 oi2 oi3 dX7_init_1 (Nat.le_of_ble_eq_true rfl) (Nat.le_of_ble_eq_true rfl) ?_
  refine aw_ald_n C dX7_init_4 rfl ?_
  refine ao_new C [(14, .inr (5, [.null, .int 0]))] nw_X7_9 (Nat.le_of_ble_eq_true rfl) (Nat.le_of_ble_eq_true rfl) dX7_init_5 rfl ?_
  refine aw_dup C dX7_init_8 rfl ?_
  refine aw_iconst C 0 dX7_init_9 ki_0 ?_
  refine ao_callI C [.int 0] [(14, .inr (5, [.ref 15, .int 0])), (15, .inl (0, 0, .inl (fun _ => 0)))] mi_X7_11 (c_X5_init_5 rfl) rfl dX7_init_10 (Nat.le_of_ble_eq_true rfl) (Nat.le_of_ble_eq_true rfl) rfl (Nat.le_of_ble_eq_true rfl) (Nat.le_of_ble_eq_true rfl) (Nat.le_of_ble_eq_true rfl) rfl ?_
  refine ao_put C [(14, .inr (5, [.ref 15, .int 0])), (15, .inl (0, 0, .inl (fun _ => 0))), (13, .inr (7, [.ref 14, .int 0, .int 0, .int 0, .int 0, .int 0, .null, .int 0, .null, .null]))] gf_X7_14 cf7 nf7_0 h13 (Nat.le_of_ble_eq_true rfl) rfl rfl dX7_init_13 rfl ?_
  refine aw_ald_n C dX7_init_16 rfl ?_
  refine aw_iconst C 0 dX7_init_17 ki_0 ?_
  refine ao_put C [(14, .inr (5, [.ref 15, .int 0])), (15, .inl (0, 0, .inl (fun _ => 0))), (13, .inr (7, [.ref 14, .int 0, .int 0, .int 0, .int 0, .int 0, .null, .int 0, .null, .null]))] gf_X7_20 cf7 nf7_1 rfl (Nat.le_of_ble_eq_true rfl) rfl rfl dX7_init_18 rfl ?_
  refine aw_ald_n C dX7_init_21 rfl ?_
  refine aw_iconst C (-1) dX7_init_22 ki_m1 ?_
  refine ao_put C [(14, .inr (5, [.ref 15, .int 0])), (15, .inl (0, 0, .inl (fun _ => 0))), (13, .inr (7, [.ref 14, .int 0, .int (-1), .int 0, .int 0, .int 0, .null, .int 0, .null, .null]))] gf_X7_24 cf7 nf7_2 rfl (Nat.le_of_ble_eq_true rfl) rfl rfl dX7_init_23 rfl ?_
  refine aw_ald_n C dX7_init_26 rfl ?_
  refine aw_iconst C 1 dX7_init_27 ki_1 ?_
  refine ao_put C [(14, .inr (5, [.ref 15, .int 0])), (15, .inl (0, 0, .inl (fun _ => 0))), (13, .inr (7, [.ref 14, .int 0, .int (-1), .int 0, .int 1, .int 0, .null, .int 0, .null, .null]))] gf_X7_27 cf7 nf7_4 rfl (Nat.le_of_ble_eq_true rfl) rfl rfl dX7_init_28 rfl ?_
  refine aw_ald_n C dX7_init_31 rfl ?_
  refine aw_iconst C 4 dX7_init_32 ki_4 ?_
  refine ao_newq C 2 4 [(14, .inr (5, [.ref 15, .int 0])), (15, .inl (0, 0, .inl (fun _ => 0))), (13, .inr (7, [.ref 14, .int 0, .int (-1), .int 0, .int 1, .int 0, .null, .int 0, .null, .null])), (16, .inl (2, 4, .inr (.inr (fun _ => none))))] (by decide) rfl cl_X7_9 C.2.2.2.2.2.2.1.2.2.2.2.1.2.1 (by decide) (by decide) (Nat.le_of_ble_eq_true rfl) (Nat.le_of_ble_eq_true rfl) (Nat.le_of_ble_eq_true rfl) dX7_init_33 rfl ?_
  refine ao_putF C [(14, .inr (5, [.ref 15, .int 0])), (15, .inl (0, 0, .inl (fun _ => 0))), (13, .inr (7, [.ref 14, .int 0, .int (-1), .int 0, .int 1, .int 0, .null, .int 0, .ref 16, .null])), (16, .inl (2, 4, .inr (.inr (fun _ => none))))] gf_X7_30 cf7 fi7_8 hnm rfl (Nat.le_of_ble_eq_true rfl) rfl rfl dX7_init_36 rfl ?_
  refine aw_ald_n C dX7_init_39 rfl ?_
  refine aw_bipush C 40 dX7_init_40 kb_40 ?_
  refine ao_newq C 2 40 [(14, .inr (5, [.ref 15, .int 0])), (15, .inl (0, 0, .inl (fun _ => 0))), (13, .inr (7, [.ref 14, .int 0, .int (-1), .int 0, .int 1, .int 0, .null, .int 0, .ref 16, .null])), (16, .inl (2, 4, .inr (.inr (fun _ => none)))), (17, .inl (2, 40, .inr (.inr (fun _ => none))))] (by decide) rfl cl_X7_9 C.2.2.2.2.2.2.1.2.2.2.2.1.2.1 (by decide) (by decide) (Nat.le_of_ble_eq_true rfl) (Nat.le_of_ble_eq_true rfl) (Nat.le_of_ble_eq_true rfl) dX7_init_42 rfl ?_
  refine ao_putF C [(14, .inr (5, [.ref 15, .int 0])), (15, .inl (0, 0, .inl (fun _ => 0))), (13, .inr (7, [.ref 14, .int 0, .int (-1), .int 0, .int 1, .int 0, .null, .int 0, .ref 16, .ref 17])), (16, .inl (2, 4, .inr (.inr (fun _ => none)))), (17, .inl (2, 40, .inr (.inr (fun _ => none))))] gf_X7_34 cf7 fi7_9 hnm rfl (Nat.le_of_ble_eq_true rfl) rfl rfl dX7_init_45 rfl ?_
  exact aw_vret C rfl dX7_init_48 (Nat.le_of_ble_eq_true rfl) (Nat.le_of_ble_eq_true rfl) ⟨rfl, rfl, rfl⟩

set_option maxHeartbeats 4000000 in
set_option maxRecDepth 100000 in
theorem c_X5_init_7 {X : GX} {l : Launch} {f : AH} (h20 : f 20 = some (.inr (5, [.null, .int 0]))) : AM X l yX5_init cX5_init 2 none 1 1 0 [.ref 20, .int 0] f 21 (EXO f [(21, .inl (0, 0, .inl (fun _ => 0))), (20, .inr (5, [.ref 21, .int 0]))] none 22) := by
  refine AM.of (by decide +kernel) rfl (by decide) (fun p e s m args below meth c C hnm => ?_)
  refine ao_start ?_
  refine aw_nl [some (.ref 20), some (.int 0)] rfl ?_
  refine aw_ald_n C dX5_init_0 rfl ?_
  refine aw_oinit C oi_X5_3 oi2 oi3 dX5_init_1 (Nat.le_of_ble_eq_true rfl) (Nat.le_of_ble_eq_true rfl) ?_
  refine aw_ald_n C dX5_init_4 rfl ?_
  refine aw_iload_n C dX5_init_5 rfl ?_
  refine aw_if_le C 13 dX5_init_6 (by decide) (fun _ => ?_) (fun q => absurd (by decide) q)
  refine aw_iconst C 0 dX5_init_13 ki_0 ?_
  refine ao_newi C 0 [(21, .inl (0, 0, .inl (fun _ => 0)))] (by decide) (by decide) (Nat.le_of_ble_eq_true rfl) (Nat.le_of_ble_eq_true rfl) (Nat.le_of_ble_eq_true rfl) dX5_init_14 rfl ?_
  refine ao_putF C [(21, .inl (0, 0, .inl (fun _ => 0))), (20, .inr (5, [.ref 21, .int 0]))] gf_X5_9 cf5 fi5_0 hnm h20 (Nat.le_of_ble_eq_true rfl) rfl rfl dX5_init_16 rfl ?_
  exact aw_vret C rfl dX5_init_19 (Nat.le_of_ble_eq_true rfl) (Nat.le_of_ble_eq_true rfl) ⟨rfl, rfl, rfl⟩

set_option maxHeartbeats 4000000 in
set_option maxRecDepth 100000 in
theorem c_X7_init_8 {X : GX} {l : Launch} {f : AH} (h19 : f 19 = some (.inr (7, [.null, .int 0, .int 0, .int 0, .int 0, .int 0, .null, .int 0, .null, .null]))) : AM X l yX7_init cX7_init 1 none 2 4 46 [.ref 19] f 20 (EXO f [(20, .inr (5, [.ref 21, .int 0])), (21, .inl (0, 0, .inl (fun _ => 0))), (19, .inr (7, [.ref 20, .int 0, .int (-1), .int 0, .int 1, .int 0, .null, .int 0, .ref 22, .ref 23])), (22, .inl (2, 4, .inr (.inr (fun _ => none)))), (23, .inl (2, 40, .inr (.inr (fun _ => none))))] none 24) := by
  refine AM.of (by decide +kernel) rfl (by decide) (fun p e s m args below meth c C hnm => ?_)
  refine ao_start ?_
  refine aw_nl [some (.ref 19)] rfl ?_
  refine aw_ald_n C dX7_init_0 rfl ?_
  refine aw_oinit C oi_X7_3 oi2 oi3 dX7_init_1 (Nat.le_of_ble_eq_true rfl) (Nat.le_of_ble_eq_true rfl) ?_
  refine aw_ald_n C dX7_init_4 rfl ?_
  refine ao_new C [(20, .inr (5, [.null, .int 0]))] nw_X7_9 (Nat.le_of_ble_eq_true rfl) (Nat.le_of_ble_eq_true rfl) dX7_init_5 rfl ?_
  refine aw_dup C dX7_init_8 rfl ?_
  refine aw_iconst C 0 dX7_init_9 ki_0 ?_
  refine ao_callI C [.int 0] [(20, .inr (5, [.ref 21, .int 0])), (21, .inl (0, 0, .inl (fun _ => 0)))] mi_X7_11 (c_X5_init_7 rfl) rfl dX7_init_10 (Nat.le_of_ble_eq_true rfl) (Nat.le_of_ble_eq_true rfl) rfl (Nat.le_of_ble_eq_true rfl) (Nat.le_of_ble_eq_true rfl) (Nat.le_of_ble_eq_true rfl) rfl ?_
  refine ao_put C [(20, .inr (5, [.ref 21, .int 0])), (21, .inl (0, 0, .inl (fun _ => 0))), (19, .inr (7, [.ref 20, .int 0, .int 0, .int 0, .int 0, .int 0, .null, .int 0, .null, .null]))] gf_X7_14 cf7 nf7_0 h19 (Nat.le_of_ble_eq_true rfl) rfl rfl dX7_init_13 rfl ?_
  refine aw_ald_n C dX7_init_16 rfl ?_
  refine aw_iconst C 0 dX7_init_17 ki_0 ?_
  refine ao_put C [(20, .inr (5, [.ref 21, .int 0])), (21, .inl (0, 0, .inl (fun _ => 0))), (19, .inr (7, [.ref 20, .int 0, .int 0, .int 0, .int 0, .int 0, .null, .int 0, .null, .null]))] gf_X7_20 cf7 nf7_1 rfl (Nat.le_of_ble_eq_true rfl) rfl rfl dX7_init_18 rfl ?_
  refine aw_ald_n C dX7_init_21 rfl ?_
  refine aw_iconst C (-1) dX7_init_22 ki_m1 ?_
  refine ao_put C [(20, .inr (5, [.ref 21, .int 0])), (21, .inl (0, 0, .inl (fun _ => 0))), (19, .inr (7, [.ref 20, .int 0, .int (-1), .int 0, .int 0, .int 0, .null, .int 0, .null, .null]))] gf_X7_24 cf7 nf7_2 rfl (Nat.le_of_ble_eq_true rfl) rfl rfl dX7_init_23 rfl ?_
  refine aw_ald_n C dX7_init_26 rfl ?_
  refine aw_iconst C 1 dX7_init_27 ki_1 ?_
  refine ao_put C [(20, .inr (5, [.ref 21, .int 0])), (21, .inl (0, 0, .inl (fun _ => 0))), (19, .inr (7, [.ref 20, .int 0, .int (-1), .int 0, .int 1, .int 0, .null, .int 0, .null, .null]))] gf_X7_27 cf7 nf7_4 rfl (Nat.le_of_ble_eq_true rfl) rfl rfl dX7_init_28 rfl ?_
  refine aw_ald_n C dX7_init_31 rfl ?_
  refine aw_iconst C 4 dX7_init_32 ki_4 ?_
  refine ao_newq C 2 4 [(20, .inr (5, [.ref 21, .int 0])), (21, .inl (0, 0, .inl (fun _ => 0))), (19, .inr (7, [.ref 20, .int 0, .int (-1), .int 0, .int 1, .int 0, .null, .int 0, .null, .null])), (22, .inl (2, 4, .inr (.inr (fun _ => none))))] (by decide) rfl cl_X7_9 C.2.2.2.2.2.2.1.2.2.2.2.1.2.1 (by decide) (by decide) (Nat.le_of_ble_eq_true rfl) (Nat.le_of_ble_eq_true rfl) (Nat.le_of_ble_eq_true rfl) dX7_init_33 rfl ?_
  refine ao_putF C [(20, .inr (5, [.ref 21, .int 0])), (21, .inl (0, 0, .inl (fun _ => 0))), (19, .inr (7, [.ref 20, .int 0, .int (-1), .int 0, .int 1, .int 0, .null, .int 0, .ref 22, .null])), (22, .inl (2, 4, .inr (.inr (fun _ => none))))] gf_X7_30 cf7 fi7_8 hnm rfl (Nat.le_of_ble_eq_true rfl) rfl rfl dX7_init_36 rfl ?_
  refine aw_ald_n C dX7_init_39 rfl ?_
  refine aw_bipush C 40 dX7_init_40 kb_40 ?_
  refine ao_newq C 2 40 [(20, .inr (5, [.ref 21, .int 0])), (21, .inl (0, 0, .inl (fun _ => 0))), (19, .inr (7, [.ref 20, .int 0, .int (-1), .int 0, .int 1, .int 0, .null, .int 0, .ref 22, .null])), (22, .inl (2, 4, .inr (.inr (fun _ => none)))), (23, .inl (2, 40, .inr (.inr (fun _ => none))))] (by decide) rfl cl_X7_9 C.2.2.2.2.2.2.1.2.2.2.2.1.2.1 (by decide) (by decide) (Nat.le_of_ble_eq_true rfl) (Nat.le_of_ble_eq_true rfl) (Nat.le_of_ble_eq_true rfl) dX7_init_42 rfl ?_
  refine ao_putF C [(20, .inr (5, [.ref 21, .int 0])), (21, .inl (0, 0, .inl (fun _ => 0))), (19, .inr (7, [.ref 20, .int 0, .int (-1), .int 0, .int 1, .int 0, .null, .int 0, .ref 22, .ref 23])), (22, .inl (2, 4, .inr (.inr (fun _ => none)))), (23, .inl (2, 40, .inr (.inr (fun _ => none))))] gf_X7_34 cf7 fi7_9 hnm rfl (Nat.le_of_ble_eq_true rfl) rfl rfl dX7_init_45 rfl ?_
  exact aw_vret C rfl dX7_init_48 (Nat.le_of_ble_eq_true rfl) (Nat.le_of_ble_eq_true rfl) ⟨rfl, rfl, rfl⟩

set_option maxHeartbeats 4000000 in
set_option maxRecDepth 100000 in
theorem c_X5_init_9 {X : GX} {l : Launch} {f : AH} (h25 : f 25 = some (.inr (5, [.null, .int 0]))) : AM X l yX5_init cX5_init 2 none 1 1 0 [.ref 25, .int 0] f 26 (EXO f [(26, .inl (0, 0, .inl (fun _ => 0))), (25, .inr (5, [.ref 26, .int 0]))] none 27) := by
  refine AM.of (by decide +kernel) rfl (by decide) (fun p e s m args below meth c C hnm => ?_)
  refine ao_start ?_
  refine aw_nl [some (.ref 25), some (.int 0)] rfl ?_
  refine aw_ald_n C dX5_init_0 rfl ?_
  refine aw_oinit C oi_X5_3 oi2 oi3 dX5_init_1 (Nat.le_of_ble_eq_true rfl) (Nat.le_of_ble_eq_true rfl) ?_
  refine aw_ald_n C dX5_init_4 rfl ?_
  refine aw_iload_n C dX5_init_5 rfl ?_
  refine aw_if_le C 13 dX5_init_6 (by decide) (fun _ => ?_) (fun q => absurd (by decide) q)
  refine aw_iconst C 0 dX5_init_13 ki_0 ?_
  refine ao_newi C 0 [(26, .inl (0, 0, .inl (fun _ => 0)))] (by decide) (by decide) (Nat.le_of_ble_eq_true rfl) (Nat.le_of_ble_eq_true rfl) (Nat.le_of_ble_eq_true rfl) dX5_init_14 rfl ?_
  refine ao_putF C [(26, .inl (0, 0, .inl (fun _ => 0))), (25, .inr (5, [.ref 26, .int 0]))] gf_X5_9 cf5 fi5_0 hnm h25 (Nat.le_of_ble_eq_true rfl) rfl rfl dX5_init_16 rfl ?_
  exact aw_vret C rfl dX5_init_19 (Nat.le_of_ble_eq_true rfl) (Nat.le_of_ble_eq_true rfl) ⟨rfl, rfl, rfl⟩

set_option maxHeartbeats 4000000 in
set_option maxRecDepth 100000 in
theorem c_X7_init_10 {X : GX} {l : Launch} {f : AH} (h24 : f 24 = some (.inr (7, [.null, .int 0, .int 0, .int 0, .int 0, .int 0, .null, .int 0, .null, .null]))) : AM X l yX7_init cX7_init 1 none 2 4 46 [.ref 24] f 25 (EXO f [(25, .inr (5, [.ref 26, .int 0])), (26, .inl (0, 0, .inl (fun _ => 0))), (24, .inr (7, [.ref 25, .int 0, .int (-1), .int 0, .int 1, .int 0, .null, .int 0, .ref 27, .ref 28])), (27, .inl (2, 4, .inr (.inr (fun _ => none)))), (28, .inl (2, 40, .inr (.inr (fun _ => none))))] none 29) := by
  refine AM.of (by decide +kernel) rfl (by decide) (fun p e s m args below meth c C hnm => ?_)
  refine ao_start ?_
  refine aw_nl [some (.ref 24)] rfl ?_
  refine aw_ald_n C dX7_init_0 rfl ?_
  refine aw_oinit C oi_X7_3 oi2 oi3 dX7_init_1 (Nat.le_of_ble_eq_true rfl) (Nat.le_of_ble_eq_true rfl) ?_
  refine aw_ald_n C dX7_init_4 rfl ?_
  refine ao_new C [(25, .inr (5, [.null, .int 0]))] nw_X7_9 (Nat.le_of_ble_eq_true rfl) (Nat.le_of_ble_eq_true rfl) dX7_init_5 rfl ?_
  refine aw_dup C dX7_init_8 rfl ?_
  refine aw_iconst C 0 dX7_init_9 ki_0 ?_
  refine ao_callI C [.int 0] [(25, .inr (5, [.ref 26, .int 0])), (26, .inl (0, 0, .inl (fun _ => 0)))] mi_X7_11 (c_X5_init_9 rfl) rfl dX7_init_10 (Nat.le_of_ble_eq_true rfl) (Nat.le_of_ble_eq_true rfl) rfl (Nat.le_of_ble_eq_true rfl) (Nat.le_of_ble_eq_true rfl) (Nat.le_of_ble_eq_true rfl) rfl ?_
  refine ao_put C [(25, .inr (5, [.ref 26, .int 0])), (26, .inl (0, 0, .inl (fun _ => 0))), (24, .inr (7, [.ref 25, .int 0, .int 0, .int 0, .int 0, .int 0, .null, .int 0, .null, .null]))] gf_X7_14 cf7 nf7_0 h24 (Nat.le_of_ble_eq_true rfl) rfl rfl dX7_init_13 rfl ?_
  refine aw_ald_n C dX7_init_16 rfl ?_
  refine aw_iconst C 0 dX7_init_17 ki_0 ?_
  refine ao_put C [(25, .inr (5, [.ref 26, .int 0])), (26, .inl (0, 0, .inl (fun _ => 0))), (24, .inr (7, [.ref 25, .int 0, .int 0, .int 0, .int 0, .int 0, .null, .int 0, .null, .null]))] gf_X7_20 cf7 nf7_1 rfl (Nat.le_of_ble_eq_true rfl) rfl rfl dX7_init_18 rfl ?_
  refine aw_ald_n C dX7_init_21 rfl ?_
  refine aw_iconst C (-1) dX7_init_22 ki_m1 ?_
  refine ao_put C [(25, .inr (5, [.ref 26, .int 0])), (26, .inl (0, 0, .inl (fun _ => 0))), (24, .inr (7, [.ref 25, .int 0, .int (-1), .int 0, .int 0, .int 0, .null, .int 0, .null, .null]))] gf_X7_24 cf7 nf7_2 rfl (Nat.le_of_ble_eq_true rfl) rfl rfl dX7_init_23 rfl ?_
  refine aw_ald_n C dX7_init_26 rfl ?_
  refine aw_iconst C 1 dX7_init_27 ki_1 ?_
  refine ao_put C [(25, .inr (5, [.ref 26, .int 0])), (26, .inl (0, 0, .inl (fun _ => 0))), (24, .inr (7, [.ref 25, .int 0, .int (-1), .int 0, .int 1, .int 0, .null, .int 0, .null, .null]))] gf_X7_27 cf7 nf7_4 rfl (Nat.le_of_ble_eq_true rfl) rfl rfl dX7_init_28 rfl ?_
  refine aw_ald_n C dX7_init_31 rfl ?_
  refine aw_iconst C 4 dX7_init_32 ki_4 ?_
  refine ao_newq C 2 4 [(25, .inr (5, [.ref 26, .int 0])), (26, .inl (0, 0, .inl (fun _ => 0))), (24, .inr (7, [.ref 25, .int 0, .int (-1), .int 0, .int 1, .int 0, .null, .int 0, .null, .null])), (27, .inl (2, 4, .inr (.inr (fun _ => none))))] (by decide) rfl cl_X7_9 C.2.2.2.2.2.2.1.2.2.2.2.1.2.1 (by decide) (by decide) (Nat.le_of_ble_eq_true rfl) (Nat.le_of_ble_eq_true rfl) (Nat.le_of_ble_eq_true rfl) dX7_init_33 rfl ?_
  refine ao_putF C [(25, .inr (5, [.ref 26, .int 0])), (26, .inl (0, 0, .inl (fun _ => 0))), (24, .inr (7, [.ref 25, .int 0, .int (-1), .int 0, .int 1, .int 0, .null, .int 0, .ref 27, .null])), (27, .inl (2, 4, .inr (.inr (fun _ => none))))] gf_X7_30 cf7 fi7_8 hnm rfl (Nat.le_of_ble_eq_true rfl) rfl rfl dX7_init_36 rfl ?_
  refine aw_ald_n C dX7_init_39 rfl ?_
  refine aw_bipush C 40 dX7_init_40 kb_40 ?_
  refine ao_newq C 2 40 [(25, .inr (5, [.ref 26, .int 0])), (26, .inl (0, 0, .inl (fun _ => 0))), (24, .inr (7, [.ref 25, .int 0, .int (-1), .int 0, .int 1, .int 0, .null, .int 0, .ref 27, .null])), (27, .inl (2, 4, .inr (.inr (fun _ => none)))), (28, .inl (2, 40, .inr (.inr (fun _ => none))))] (by decide) rfl cl_X7_9 C.2.2.2.2.2.2.1.2.2.2.2.1.2.1 (by decide) (by decide) (Nat.le_of_ble_eq_true rfl) (Nat.le_of_ble_eq_true rfl) (Nat.le_of_ble_eq_true rfl) dX7_init_42 rfl ?_
  refine ao_putF C [(25, .inr (5, [.ref 26, .int 0])), (26, .inl (0, 0, .inl (fun _ => 0))), (24, .inr (7, [.ref 25, .int 0, .int (-1), .int 0, .int 1, .int 0, .null, .int 0, .ref 27, .ref 28])), (27, .inl (2, 4, .inr (.inr (fun _ => none)))), (28, .inl (2, 40, .inr (.inr (fun _ => none))))] gf_X7_34 cf7 fi7_9 hnm rfl (Nat.le_of_ble_eq_true rfl) rfl rfl dX7_init_45 rfl ?_
  exact aw_vret C rfl dX7_init_48 (Nat.le_of_ble_eq_true rfl) (Nat.le_of_ble_eq_true rfl) ⟨rfl, rfl, rfl⟩

set_option maxHeartbeats 4000000 in
set_option maxRecDepth 100000 in
theorem c_X5_init_11 {X : GX} {l : Launch} {f : AH} (h30 : f 30 = some (.inr (5, [.null, .int 0]))) : AM X l yX5_init cX5_init 2 none 1 1 0 [.ref 30, .int 0] f 31 (EXO f [(31, .inl (0, 0, .inl (fun _ => 0))), (30, .inr (5, [.ref 31, .int 0]))] none 32) := by
  refine AM.of (by decide +kernel) rfl (by decide) (fun p e s m args below meth c C hnm => ?_)
  refine ao_start ?_
  refine aw_nl [some (.ref 30), some (.int 0)] rfl ?_
  refine aw_ald_n C dX5_init_0 rfl ?_
  refine aw_oinit C oi_X5_3 oi2 oi3 dX5_init_1 (Nat.le_of_ble_eq_true rfl) (Nat.le_of_ble_eq_true rfl) ?_
  refine aw_ald_n C dX5_init_4 rfl ?_
  refine aw_iload_n C dX5_init_5 rfl ?_
  refine aw_if_le C 13 dX5_init_6 (by decide) (fun _ => ?_) (fun q => absurd (by decide) q)
  refine aw_iconst C 0 dX5_init_13 ki_0 ?_
  refine ao_newi C 0 [(31, .inl (0, 0, .inl (fun _ => 0)))] (by decide) (by decide) (Nat.le_of_ble_eq_true rfl) (Nat.le_of_ble_eq_true rfl) (Nat.le_of_ble_eq_true rfl) dX5_init_14 rfl ?_
  refine ao_putF C [(31, .inl (0, 0, .inl (fun _ => 0))), (30, .inr (5, [.ref 31, .int 0]))] gf_X5_9 cf5 fi5_0 hnm h30 (Nat.le_of_ble_eq_true rfl) rfl rfl dX5_init_16 rfl ?_
  exact aw_vret C rfl dX5_init_19 (Nat.le_of_ble_eq_true rfl) (Nat.le_of_ble_eq_true rfl) ⟨rfl, rfl, rfl⟩

set_option maxHeartbeats 4000000 in
set_option maxRecDepth 100000 in
theorem c_X7_init_12 {X : GX} {l : Launch} {f : AH} (h29 : f 29 = some (.inr (7, [.null, .int 0, .int 0, .int 0, .int 0, .int 0, .null, .int 0, .null, .null]))) : AM X l yX7_init cX7_init 1 none 2 4 46 [.ref 29] f 30 (EXO f [(30, .inr (5, [.ref 31, .int 0])), (31, .inl (0, 0, .inl (fun _ => 0))), (29, .inr (7, [.ref 30, .int 0, .int (-1), .int 0, .int 1, .int 0, .null, .int 0, .ref 32, .ref 33])), (32, .inl (2, 4, .inr (.inr (fun _ => none)))), (33, .inl (2, 40, .inr (.inr (fun _ => none))))] none 34) := by
  refine AM.of (by decide +kernel) rfl (by decide) (fun p e s m args below meth c C hnm => ?_)
  refine ao_start ?_
  refine aw_nl [some (.ref 29)] rfl ?_
  refine aw_ald_n C dX7_init_0 rfl ?_
  refine aw_oinit C oi_X7_3 oi2 oi3 dX7_init_1 (Nat.le_of_ble_eq_true rfl) (Nat.le_of_ble_eq_true rfl) ?_
  refine aw_ald_n C dX7_init_4 rfl ?_
  refine ao_new C [(30, .inr (5, [.null, .int 0]))] nw_X7_9 (Nat.le_of_ble_eq_true rfl) (Nat.le_of_ble_eq_true rfl) dX7_init_5 rfl ?_
  refine aw_dup C dX7_init_8 rfl ?_
  refine aw_iconst C 0 dX7_init_9 ki_0 ?_
  refine ao_callI C [.int 0] [(30, .inr (5, [.ref 31, .int 0])), (31, .inl (0, 0, .inl (fun _ => 0)))] mi_X7_11 (c_X5_init_11 rfl) rfl dX7_init_10 (Nat.le_of_ble_eq_true rfl) (Nat.le_of_ble_eq_true rfl) rfl (Nat.le_of_ble_eq_true rfl) (Nat.le_of_ble_eq_true rfl) (Nat.le_of_ble_eq_true rfl) rfl ?_
  refine ao_put C [(30, .inr (5, [.ref 31, .int 0])), (31, .inl (0, 0, .inl (fun _ => 0))), (29, .inr (7, [.ref 30, .int 0, .int 0, .int 0, .int 0, .int 0, .null, .int 0, .null, .null]))] gf_X7_14 cf7 nf7_0 h29 (Nat.le_of_ble_eq_true rfl) rfl rfl dX7_init_13 rfl ?_
  refine aw_ald_n C dX7_init_16 rfl ?_
  refine aw_iconst C 0 dX7_init_17 ki_0 ?_
  refine ao_put C [(30, .inr (5, [.ref 31, .int 0])), (31, .inl (0, 0, .inl (fun _ => 0))), (29, .inr (7, [.ref 30, .int 0, .int 0, .int 0, .int 0, .int 0, .null, .int 0, .null, .null]))] gf_X7_20 cf7 nf7_1 rfl (Nat.le_of_ble_eq_true rfl) rfl rfl dX7_init_18 rfl ?_
  refine aw_ald_n C dX7_init_21 rfl ?_
  refine aw_iconst C (-1) dX7_init_22 ki_m1 ?_
  refine ao_put C [(30, .inr (5, [.ref 31, .int 0])), (31, .inl (0, 0, .inl (fun _ => 0))), (29, .inr (7, [.ref 30, .int 0, .int (-1), .int 0, .int 0, .int 0, .null, .int 0, .null, .null]))] gf_X7_24 cf7 nf7_2 rfl (Nat.le_of_ble_eq_true rfl) rfl rfl dX7_init_23 rfl ?_
  refine aw_ald_n C dX7_init_26 rfl ?_
  refine aw_iconst C 1 dX7_init_27 ki_1 ?_
  refine ao_put C [(30, .inr (5, [.ref 31, .int 0])), (31, .inl (0, 0, .inl (fun _ => 0))), (29, .inr (7, [.ref 30, .int 0, .int (-1), .int 0, .int 1, .int 0, .null, .int 0, .null, .null]))] gf_X7_27 cf7 nf7_4 rfl (Nat.le_of_ble_eq_true rfl) rfl rfl dX7_init_28 rfl ?_
  refine aw_ald_n C dX7_init_31 rfl ?_
  refine aw_iconst C 4 dX7_init_32 ki_4 ?_
  refine ao_newq C 2 4 [(30, .inr (5, [.ref 31, .int 0])), (31, .inl (0, 0, .inl (fun _ => 0))), (29, .inr (7, [.ref 30, .int 0, .int (-1), .int 0, .int 1, .int 0, .null, .int 0, .null, .null])), (32, .inl (2, 4, .inr (.inr (fun _ => none))))] (by decide) rfl cl_X7_9 C.2.2.2.2.2.2.1.2.2.2.2.1.2.1 (by decide) (by decide) (Nat.le_of_ble_eq_true rfl) (Nat.le_of_ble_eq_true rfl) (Nat.le_of_ble_eq_true rfl) dX7_init_33 rfl ?_
  refine ao_putF C [(30, .inr (5, [.ref 31, .int 0])), (31, .inl (0, 0, .inl (fun _ => 0))), (29, .inr (7, [.ref 30, .int 0, .int (-1), .int 0, .int 1, .int 0, .null, .int 0, .ref 32, .null])), (32, .inl (2, 4, .inr (.inr (fun _ => none))))] gf_X7_30 cf7 fi7_8 hnm rfl (Nat.le_of_ble_eq_true rfl) rfl rfl dX7_init_36 rfl ?_
  refine aw_ald_n C dX7_init_39 rfl ?_
  refine aw_bipush C 40 dX7_init_40 kb_40 ?_
  refine ao_newq C 2 40 [(30, .inr (5, [.ref 31, .int 0])), (31, .inl (0, 0, .inl (fun _ => 0))), (29, .inr (7, [.ref 30, .int 0, .int (-1), .int 0, .int 1, .int 0, .null, .int 0, .ref 32, .null])), (32, .inl (2, 4, .inr (.inr (fun _ => none)))), (33, .inl (2, 40, .inr (.inr (fun _ => none))))] (by decide) rfl cl_X7_9 C.2.2.2.2.2.2.1.2.2.2.2.1.2.1 (by decide) (by decide) (Nat.le_of_ble_eq_true rfl) (Nat.le_of_ble_eq_true rfl) (Nat.le_of_ble_eq_true rfl) dX7_init_42 rfl ?_
  refine ao_putF C [(30, .inr (5, [.ref 31, .int 0])), (31, .inl (0, 0, .inl (fun _ => 0))), (29, .inr (7, [.ref 30, .int 0, .int (-1), .int 0, .int 1, .int 0, .null, .int 0, .ref 32, .ref 33])), (32, .inl (2, 4, .inr (.inr (fun _ => none)))), (33, .inl (2, 40, .inr (.inr (fun _ => none))))] gf_X7_34 cf7 fi7_9 hnm rfl (Nat.le_of_ble_eq_true rfl) rfl rfl dX7_init_45 rfl ?_
  exact aw_vret C rfl dX7_init_48 (Nat.le_of_ble_eq_true rfl) (Nat.le_of_ble_eq_true rfl) ⟨rfl, rfl, rfl⟩

set_option maxHeartbeats 4000000 in
set_option maxRecDepth 100000 in
theorem c_X5_init_13 {X : GX} {l : Launch} {f : AH} (h35 : f 35 = some (.inr (5, [.null, .int 0]))) : AM X l yX5_init cX5_init 2 none 1 1 0 [.ref 35, .int 0] f 36 (EXO f [(36, .inl (0, 0, .inl (fun _ => 0))), (35, .inr (5, [.ref 36, .int 0]))] none 37) := by
  refine AM.of (by decide +kernel) rfl (by decide) (fun p e s m args below meth c C hnm => ?_)
  refine ao_start ?_
  refine aw_nl [some (.ref 35), some (.int 0)] rfl ?_
  refine aw_ald_n C dX5_init_0 rfl ?_
  refine aw_oinit C oi_X5_3 oi2 oi3 dX5_init_1 (Nat.le_of_ble_eq_true rfl) (Nat.le_of_ble_eq_true rfl) ?_
  refine aw_ald_n C dX5_init_4 rfl ?_
  refine aw_iload_n C dX5_init_5 rfl ?_
  refine aw_if_le C 13 dX5_init_6 (by decide) (fun _ => ?_) (fun q => absurd (by decide) q)
  refine aw_iconst C 0 dX5_init_13 ki_0 ?_
  refine ao_newi C 0 [(36, .inl (0, 0, .inl (fun _ => 0)))] (by decide) (by decide) (Nat.le_of_ble_eq_true rfl) (Nat.le_of_ble_eq_true rfl) (Nat.le_of_ble_eq_true rfl) dX5_init_14 rfl ?_
  refine ao_putF C [(36, .inl (0, 0, .inl (fun _ => 0))), (35, .inr (5, [.ref 36, .int 0]))] gf_X5_9 cf5 fi5_0 hnm h35 (Nat.le_of_ble_eq_true rfl) rfl rfl dX5_init_16 rfl ?_
  exact aw_vret C rfl dX5_init_19 (Nat.le_of_ble_eq_true rfl) (Nat.le_of_ble_eq_true rfl) ⟨rfl, rfl, rfl⟩

set_option maxHeartbeats 4000000 in
set_option maxRecDepth 100000 in
theorem c_X7_init_14 {X : GX} {l : Launch} {f : AH} (h34 : f 34 = some (.inr (7, [.null, .int 0, .int 0, .int 0, .int 0, .int 0, .null, .int 0, .null, .null]))) : AM X l yX7_init cX7_init 1 none 2 4 46 [.ref 34] f 35 (EXO f [(35, .inr (5, [.ref 36, .int 0])), (36, .inl (0, 0, .inl (fun _ => 0))), (34, .inr (7, [.ref 35, .int 0, .int (-1), .int 0, .int 1, .int 0, .null, .int 0, .ref 37, .ref 38])), (37, .inl (2, 4, .inr (.inr (fun _ => none)))), (38, .inl (2, 40, .inr (.inr (fun _ => none))))] none 39) := by
  refine AM.of (by decide +kernel) rfl (by decide) (fun p e s m args below meth c C hnm => ?_)
  refine ao_start ?_
  refine aw_nl [some (.ref 34)] rfl ?_
  refine aw_ald_n C dX7_init_0 rfl ?_
  refine aw_oinit C oi_X7_3 oi2 oi3 dX7_init_1 (Nat.le_of_ble_eq_true rfl) (Nat.le_of_ble_eq_true rfl) ?_
  refine aw_ald_n C dX7_init_4 rfl ?_
  refine ao_new C [(35, .inr (5, [.null, .int 0]))] nw_X7_9 (Nat.le_of_ble_eq_true rfl) (Nat.le_of_ble_eq_true rfl) dX7_init_5 rfl ?_
  refine aw_dup C dX7_init_8 rfl ?_
  refine aw_iconst C 0 dX7_init_9 ki_0 ?_
  refine ao_callI C [.int 0] [(35, .inr (5, [.ref 36, .int 0])), (36, .inl (0, 0, .inl (fun _ => 0)))] mi_X7_11 (c_X5_init_13 rfl) rfl dX7_init_10 (Nat.le_of_ble_eq_true rfl) (Nat.le_of_ble_eq_true rfl) rfl (Nat.le_of_ble_eq_true rfl) (Nat.le_of_ble_eq_true rfl) (Nat.le_of_ble_eq_true rfl) rfl ?_
  refine ao_put C [(35, .inr (5, [.ref 36, .int 0])), (36, .inl (0, 0, .inl (fun _ => 0))), (34, .inr (7, [.ref 35, .int 0, .int 0, .int 0, .int 0, .int 0, .null, .int 0, .null, .null]))] gf_X7_14 cf7 nf7_0 h34 (Nat.le_of_ble_eq_true rfl) rfl rfl dX7_init_13 rfl ?_
  refine aw_ald_n C dX7_init_16 rfl ?_
  refine aw_iconst C 0 dX7_init_17 ki_0 ?_
  refine ao_put C [(35, .inr (5, [.ref 36, .int 0])), (36, .inl (0, 0, .inl (fun _ => 0))), (34, .inr (7, [.ref 35, .int 0, .int 0, .int 0, .int 0, .int 0, .null, .int 0, .null, .null]))] gf_X7_20 cf7 nf7_1 rfl (Nat.le_of_ble_eq_true rfl) rfl rfl dX7_init_18 rfl ?_
  refine aw_ald_n C dX7_init_21 rfl ?_
  refine aw_iconst C (-1) dX7_init_22 ki_m1 ?_
  refine ao_put C [(35, .inr (5, [.ref 36, .int 0])), (36, .inl (0, 0, .inl (fun _ => 0))), (34, .inr (7, [.ref 35, .int 0, .int (-1), .int 0, .int 0, .int 0, .null, .int 0, .null, .null]))] gf_X7_24 cf7 nf7_2 rfl (Nat.le_of_ble_eq_true rfl) rfl rfl dX7_init_23 rfl ?_
  refine aw_ald_n C dX7_init_26 rfl ?_
  refine aw_iconst C 1 dX7_init_27 ki_1 ?_
  refine ao_put C [(35, .inr (5, [.ref 36, .int 0])), (36, .inl (0, 0, .inl (fun _ => 0))), (34, .inr (7, [.ref 35, .int 0, .int (-1), .int 0, .int 1, .int 0, .null, .int 0, .null, .null]))] gf_X7_27 cf7 nf7_4 rfl (Nat.le_of_ble_eq_true rfl) rfl rfl dX7_init_28 rfl ?_
  refine aw_ald_n C dX7_init_31 rfl ?_
  refine aw_iconst C 4 dX7_init_32 ki_4 ?_
  refine ao_newq C 2 4 [(35, .inr (5, [.ref 36, .int 0])), (36, .inl (0, 0, .inl (fun _ => 0))), (34, .inr (7, [.ref 35, .int 0, .int (-1), .int 0, .int 1, .int 0, .null, .int 0, .null, .null])), (37, .inl (2, 4, .inr (.inr (fun _ => none))))] (by decide) rfl cl_X7_9 C.2.2.2.2.2.2.1.2.2.2.2.1.2.1 (by decide) (by decide) (Nat.le_of_ble_eq_true rfl) (Nat.le_of_ble_eq_true rfl) (Nat.le_of_ble_eq_true rfl) dX7_init_33 rfl ?_
  refine ao_putF C [(35, .inr (5, [.ref 36, .int 0])), (36, .inl (0, 0, .inl (fun _ => 0))), (34, .inr (7, [.ref 35, .int 0, .int (-1), .int 0, .int 1, .int 0, .null, .int 0, .ref 37, .null])), (37, .inl (2, 4, .inr (.inr (fun _ => none))))] gf_X7_30 cf7 fi7_8 hnm rfl (Nat.le_of_ble_eq_true rfl) rfl rfl dX7_init_36 rfl ?_
  refine aw_ald_n C dX7_init_39 rfl ?_
  refine aw_bipush C 40 dX7_init_40 kb_40 ?_
  refine ao_newq C 2 40 [(35, .inr (5, [.ref 36, .int 0])), (36, .inl (0, 0, .inl (fun _ => 0))), (34, .inr (7, [.ref 35, .int 0, .int (-1), .int 0, .int 1, .int 0, .null, .int 0, .ref 37, .null])), (37, .inl (2, 4, .inr (.inr (fun _ => none)))), (38, .inl (2, 40, .inr (.inr (fun _ => none))))] (by decide) rfl cl_X7_9 C.2.2.2.2.2.2.1.2.2.2.2.1.2.1 (by decide) (by decide) (Nat.le_of_ble_eq_true rfl) (Nat.le_of_ble_eq_true rfl) (Nat.le_of_ble_eq_true rfl) dX7_init_42 rfl ?_
  refine ao_putF C [(35, .inr (5, [.ref 36, .int 0])), (36, .inl (0, 0, .inl (fun _ => 0))), (34, .inr (7, [.ref 35, .int 0, .int (-1), .int 0, .int 1, .int 0, .null, .int 0, .ref 37, .ref 38])), (37, .inl (2, 4, .inr (.inr (fun _ => none)))), (38, .inl (2, 40, .inr (.inr (fun _ => none))))] gf_X7_34 cf7 fi7_9 hnm rfl (Nat.le_of_ble_eq_true rfl) rfl rfl dX7_init_45 rfl ?_
  exact aw_vret C rfl dX7_init_48 (Nat.le_of_ble_eq_true rfl) (Nat.le_of_ble_eq_true rfl) ⟨rfl, rfl, rfl⟩

set_option maxHeartbeats 4000000 in
set_option maxRecDepth 100000 in
theorem c_X5_init_15 {X : GX} {l : Launch} {f : AH} (h40 : f 40 = some (.inr (5, [.null, .int 0]))) : AM X l yX5_init cX5_init 2 none 1 1 0 [.ref 40, .int 0] f 41 (EXO f [(41, .inl (0, 0, .inl (fun _ => 0))), (40, .inr (5, [.ref 41, .int 0]))] none 42) := by
  refine AM.of (by decide +kernel) rfl (by decide) (fun p e s m args below meth c C hnm => ?_)
  refine ao_start ?_
  refine aw_nl [some (.ref 40), some (.int 0)] rfl ?_
  refine aw_ald_n C dX5_init_0 rfl ?_
  refine aw_oinit C oi_X5_3 oi2 oi3 dX5_init_1 (Nat.le_of_ble_eq_true rfl) (Nat.le_of_ble_eq_true rfl) ?_
  refine aw_ald_n C dX5_init_4 rfl ?_
  refine aw_iload_n C dX5_init_5 rfl ?_
  refine aw_if_le C 13 dX5_init_6 (by decide) (fun _ => ?_) (fun q => absurd (by decide) q)
  refine aw_iconst C 0 dX5_init_13 ki_0 ?_
  refine ao_newi C 0 [(41, .inl (0, 0, .inl (fun _ => 0)))] (by decide) (by decide) (Nat.le_of_ble_eq_true rfl) (Nat.le_of_ble_eq_true rfl) (Nat.le_of_ble_eq_true rfl) dX5_init_14 rfl ?_
  refine ao_putF C [(41, .inl (0, 0, .inl (fun _ => 0))), (40, .inr (5, [.ref 41, .int 0]))] gf_X5_9 cf5 fi5_0 hnm h40 (Nat.le_of_ble_eq_true rfl) rfl rfl dX5_init_16 rfl ?_
  exact aw_vret C rfl dX5_init_19 (Nat.le_of_ble_eq_true rfl) (Nat.le_of_ble_eq_true rfl) ⟨rfl, rfl, rfl⟩

set_option maxHeartbeats 4000000 in
set_option maxRecDepth 100000 in
theorem c_X7_init_16 {X : GX} {l : Launch} {f : AH} (h39 : f 39 = some (.inr (7, [.null, .int 0, .int 0, .int 0, .int 0, .int 0, .null, .int 0, .null, .null]))) : AM X l yX7_init cX7_init 1 none 2 4 46 [.ref 39] f 40 (EXO f [(40, .inr (5, [.ref 41, .int 0])), (41, .inl (0, 0, .inl (fun _ => 0))), (39, .inr (7, [.ref 40, .int 0, .int (-1), .int 0, .int 1, .int 0, .null, .int 0, .ref 42, .ref 43])), (42, .inl (2, 4, .inr (.inr (fun _ => none)))), (43, .inl (2, 40, .inr (.inr (fun _ => none))))] none 44) := by
  refine AM.of (by decide +kernel) rfl (by decide) (fun p e s m args below meth c C hnm => ?_)
  refine ao_start ?_
  refine aw_nl [some (.ref 39)] rfl ?_
  refine aw_ald_n C dX7_init_0 rfl ?_
  refine aw_oinit C oi_X7_3 oi2 oi3 dX7_init_1 (Nat.le_of_ble_eq_true rfl) (Nat.le_of_ble_eq_true rfl) ?_
  refine aw_ald_n C dX7_init_4 rfl ?_
  refine ao_new C [(40, .inr (5, [.null, .int 0]))] nw_X7_9 (Nat.le_of_ble_eq_true rfl) (Nat.le_of_ble_eq_true rfl) dX7_init_5 rfl ?_
  refine aw_dup C dX7_init_8 rfl ?_
  refine aw_iconst C 0 dX7_init_9 ki_0 ?_
  refine ao_callI C [.int 0] [(40, .inr (5, [.ref 41, .int 0])), (41, .inl (0, 0, .inl (fun _ => 0)))] mi_X7_11 (c_X5_init_15 rfl) rfl dX7_init_10 (Nat.le_of_ble_eq_true rfl) (Nat.le_of_ble_eq_true rfl) rfl (Nat.le_of_ble_eq_true rfl) (Nat.le_of_ble_eq_true rfl) (Nat.le_of_ble_eq_true rfl) rfl ?_
  refine ao_put C [(40, .inr (5, [.ref 41, .int 0])), (41, .inl (0, 0, .inl (fun _ => 0))), (39, .inr (7, [.ref 40, .int 0, .int 0, .int 0, .int 0, .int 0, .null, .int 0, .null, .null]))] gf_X7_14 cf7 nf7_0 h39 (Nat.le_of_ble_eq_true rfl) rfl rfl dX7_init_13 rfl ?_
  refine aw_ald_n C dX7_init_16 rfl ?_
  refine aw_iconst C 0 dX7_init_17 ki_0 ?_
  refine ao_put C [(40, .inr (5, [.ref 41, .int 0])), (41, .inl (0, 0, .inl (fun _ => 0))), (39, .inr (7, [.ref 40, .int 0, .int 0, .int 0, .int 0, .int 0, .null, .int 0, .null, .null]))] gf_X7_20 cf7 nf7_1 rfl (Nat.le_of_ble_eq_true rfl) rfl rfl dX7_init_18 rfl ?_
  refine aw_ald_n C dX7_init_21 rfl ?_
  refine aw_iconst C (-1) dX7_init_22 ki_m1 ?_
  refine ao_put C [(40, .inr (5, [.ref 41, .int 0])), (41, .inl (0, 0, .inl (fun _ => 0))), (39, .inr (7, [.ref 40, .int 0, .int (-1), .int 0, .int 0, .int 0, .null, .int 0, .null, .null]))] gf_X7_24 cf7 nf7_2 rfl (Nat.le_of_ble_eq_true rfl) rfl rfl dX7_init_23 rfl ?_
  refine aw_ald_n C dX7_init_26 rfl ?_
  refine aw_iconst C 1 dX7_init_27 ki_1 ?_
  refine ao_put C [(40, .inr (5, [.ref 41, .int 0])), (41, .inl (0, 0, .inl (fun _ => 0))), (39, .inr (7, [.ref 40, .int 0, .int (-1), .int 0, .int 1, .int 0, .null, .int 0, .null, .null]))] gf_X7_27 cf7 nf7_4 rfl (Nat.le_of_ble_eq_true rfl) rfl rfl dX7_init_28 rfl ?_
  refine aw_ald_n C dX7_init_31 rfl ?_
  refine aw_iconst C 4 dX7_init_32 ki_4 ?_
  refine ao_newq C 2 4 [(40, .inr (5, [.ref 41, .int 0])), (41, .inl (0, 0, .inl (fun _ => 0))), (39, .inr (7, [.ref 40, .int 0, .int (-1), .int 0, .int 1, .int 0, .null, .int 0, .null, .null])), (42, .inl (2, 4, .inr (.inr (fun _ => none))))] (by decide) rfl cl_X7_9 C.2.2.2.2.2.2.1.2.2.2.2.1.2.1 (by decide) (by decide) (Nat.le_of_ble_eq_true rfl) (Nat.le_of_ble_eq_true rfl) (Nat.le_of_ble_eq_true rfl) dX7_init_33 rfl ?_
  refine ao_putF C [(40, .inr (5, [.ref 41, .int 0])), (41, .inl (0, 0, .inl (fun _ => 0))), (39, .inr (7, [.ref 40, .int 0, .int (-1), .int 0, .int 1, .int 0, .null, .int 0, .ref 42, .null])), (42, .inl (2, 4, .inr (.inr (fun _ => none))))] gf_X7_30 cf7 fi7_8 hnm rfl (Nat.le_of_ble_eq_true rfl) rfl rfl dX7_init_36 rfl ?_
  refine aw_ald_n C dX7_init_39 rfl ?_
  refine aw_bipush C 40 dX7_init_40 kb_40 ?_
  refine ao_newq C 2 40 [(40, .inr (5, [.ref 41, .int 0])), (41, .inl (0, 0, .inl (fun _ => 0))), (39, .inr (7, [.ref 40, .int 0, .int (-1), .int 0, .int 1, .int 0, .null, .int 0, .ref 42, .null])), (42, .inl (2, 4, .inr (.inr (fun _ => none)))), (43, .inl (2, 40, .inr (.inr (fun _ => none))))] (by decide) rfl cl_X7_9 C.2.2.2.2.2.2.1.2.2.2.2.1.2.1 (by decide) (by decide) (Nat.le_of_ble_eq_true rfl) (Nat.le_of_ble_eq_true rfl) (Nat.le_of_ble_eq_true rfl) dX7_init_42 rfl ?_
  refine ao_putF C [(40, .inr (5, [.ref 41, .int 0])), (41, .inl (0, 0, .inl (fun _ => 0))), (39, .inr (7, [.ref 40, .int 0, .int (-1), .int 0, .int 1, .int 0, .null, .int 0, .ref 42, .ref 43])), (42, .inl (2, 4, .inr (.inr (fun _ => none)))), (43, .inl (2, 40, .inr (.inr (fun _ => none))))] gf_X7_34 cf7 fi7_9 hnm rfl (Nat.le_of_ble_eq_true rfl) rfl rfl dX7_init_45 rfl ?_
  exact aw_vret C rfl dX7_init_48 (Nat.le_of_ble_eq_true rfl) (Nat.le_of_ble_eq_true rfl) ⟨rfl, rfl, rfl⟩

set_option maxHeartbeats 4000000 in
set_option maxRecDepth 100000 in
theorem c_X5_init_17 {X : GX} {l : Launch} {f : AH} (h45 : f 45 = some (.inr (5, [.null, .int 0]))) : AM X l yX5_init cX5_init 2 none 1 1 0 [.ref 45, .int 0] f 46 (EXO f [(46, .inl (0, 0, .inl (fun _ => 0))), (45, .inr (5, [.ref 46, .int 0]))] none 47) := by
  refine AM.of (by decide +kernel) rfl (by decide) (fun p e s m args below meth c C hnm => ?_)
  refine ao_start ?_
  refine aw_nl [some (.ref 45), some (.int 0)] rfl ?_
  refine aw_ald_n C dX5_init_0 rfl ?_
  refine aw_oinit C oi_X5_3 oi2 oi3 dX5_init_1 (Nat.le_of_ble_eq_true rfl) (Nat.le_of_ble_eq_true rfl) ?_
  refine aw_ald_n C dX5_init_4 rfl ?_
  refine aw_iload_n C dX5_init_5 rfl ?_
  refine aw_if_le C 13 dX5_init_6 (by decide) (fun _ => ?_) (fun q => absurd (by decide) q)
  refine aw_iconst C 0 dX5_init_13 ki_0 ?_
  refine ao_newi C 0 [(46, .inl (0, 0, .inl (fun _ => 0)))] (by decide) (by decide) (Nat.le_of_ble_eq_true rfl) (Nat.le_of_ble_eq_true rfl) (Nat.le_of_ble_eq_true rfl) dX5_init_14 rfl ?_
  refine ao_putF C [(46, .inl (0, 0, .inl (fun _ => 0))), (45, .inr (5, [.ref 46, .int 0]))] gf_X5_9 cf5 fi5_0 hnm h45 (Nat.le_of_ble_eq_true rfl) rfl rfl dX5_init_16 rfl ?_
  exact aw_vret C rfl dX5_init_19 (Nat.le_of_ble_eq_true rfl) (Nat.le_of_ble_eq_true rfl) ⟨rfl, rfl, rfl⟩

set_option maxHeartbeats 4000000 in
set_option maxRecDepth 100000 in
theorem c_X7_init_18 {X : GX} {l : Launch} {f : AH} (h44 : f 44 = some (.inr (7, [.null, .int 0, .int 0, .int 0, .int 0, .int 0, .null, .int 0, .null, .null]))) : AM X l yX7_init cX7_init 1 none 2 4 46 [.ref 44] f 45 (EXO f [(45, .inr (5, [.ref 46, .int 0])), (46, .inl (0, 0, .inl (fun _ => 0))), (44, .inr (7, [.ref 45, .int 0, .int (-1), .int 0, .int 1, .int 0, .null, .int 0, .ref 47, .ref 48])), (47, .inl (2, 4, .inr (.inr (fun _ => none)))), (48, .inl (2, 40, .inr (.inr (fun _ => none))))] none 49) := by
  refine AM.of (by decide +kernel) rfl (by decide) (fun p e s m args below meth c C hnm => ?_)
  refine ao_start ?_
  refine aw_nl [some (.ref 44)] rfl ?_
  refine aw_ald_n C dX7_init_0 rfl ?_
  refine aw_oinit C oi_X7_3 oi2 oi3 dX7_init_1 (Nat.le_of_ble_eq_true rfl) (Nat.le_of_ble_eq_true rfl) ?_
  refine aw_ald_n C dX7_init_4 rfl ?_
  refine ao_new C [(45, .inr (5, [.null, .int 0]))] nw_X7_9 (Nat.le_of_ble_eq_true rfl) (Nat.le_of_ble_eq_true rfl) dX7_init_5 rfl ?_
  refine aw_dup C dX7_init_8 rfl ?_
  refine aw_iconst C 0 dX7_init_9 ki_0 ?_
  refine ao_callI C [.int 0] [(45, .inr (5, [.ref 46, .int 0])), (46, .inl (0, 0, .inl (fun _ => 0)))] mi_X7_11 (c_X5_init_17 rfl) rfl dX7_init_10 (Nat.le_of_ble_eq_true rfl) (Nat.le_of_ble_eq_true rfl) rfl (Nat.le_of_ble_eq_true rfl) (Nat.le_of_ble_eq_true rfl) (Nat.le_of_ble_eq_true rfl) rfl ?_
  refine ao_put C [(45, .inr (5, [.ref 46, .int 0])), (46, .inl (0, 0, .inl (fun _ => 0))), (44, .inr (7, [.ref 45, .int 0, .int 0, .int 0, .int 0, .int 0, .null, .int 0, .null, .null]))] gf_X7_14 cf7 nf7_0 h44 (Nat.le_of_ble_eq_true rfl) rfl rfl dX7_init_13 rfl ?_
  refine aw_ald_n C dX7_init_16 rfl ?_
  refine aw_iconst C 0 dX7_init_17 ki_0 ?_
  refine ao_put C [(45, .inr (5, [.ref 46, .int 0])), (46, .inl (0, 0, .inl (fun _ => 0))), (44, .inr (7, [.ref 45, .int 0, .int 0, .int 0, .int 0, .int 0, .null, .int 0, .null, .null]))] gf_X7_20 cf7 nf7_1 rfl (Nat.le_of_ble_eq_true rfl) rfl rfl dX7_init_18 rfl ?_
  refine aw_ald_n C dX7_init_21 rfl ?_
  refine aw_iconst C (-1) dX7_init_22 ki_m1 ?_
  refine ao_put C [(45, .inr (5, [.ref 46, .int 0])), (46, .inl (0, 0, .inl (fun _ => 0))), (44, .inr (7, [.ref 45, .int 0, .int (-1), .int 0, .int 0, .int 0, .null, .int 0, .null, .null]))] gf_X7_24 cf7 nf7_2 rfl (Nat.le_of_ble_eq_true rfl) rfl rfl dX7_init_23 rfl ?_
  refine aw_ald_n C dX7_init_26 rfl ?_
  refine aw_iconst C 1 dX7_init_27 ki_1 ?_
  refine ao_put C [(45, .inr (5, [.ref 46, .int 0])), (46, .inl (0, 0, .inl (fun _ => 0))), (44, .inr (7, [.ref 45, .int 0, .int (-1), .int 0, .int 1, .int 0, .null, .int 0, .null, .null]))] gf_X7_27 cf7 nf7_4 rfl (Nat.le_of_ble_eq_true rfl) rfl rfl dX7_init_28 rfl ?_
  refine aw_ald_n C dX7_init_31 rfl ?_
  refine aw_iconst C 4 dX7_init_32 ki_4 ?_
  refine ao_newq C 2 4 [(45, .inr (5, [.ref 46, .int 0])), (46, .inl (0, 0, .inl (fun _ => 0))), (44, .inr (7, [.ref 45, .int 0, .int (-1), .int 0, .int 1, .int 0, .null, .int 0, .null, .null])), (47, .inl (2, 4, .inr (.inr (fun _ => none))))] (by decide) rfl cl_X7_9 C.2.2.2.2.2.2.1.2.2.2.2.1.2.1 (by decide) (by decide) (Nat.le_of_ble_eq_true rfl) (Nat.le_of_ble_eq_true rfl) (Nat.le_of_ble_eq_true rfl) dX7_init_33 rfl ?_
  refine ao_putF C [(45, .inr (5, [.ref 46, .int 0])), (46, .inl (0, 0, .inl (fun _ => 0))), (44, .inr (7, [.ref 45, .int 0, .int (-1), .int 0, .int 1, .int 0, .null, .int 0, .ref 47, .null])), (47, .inl (2, 4, .inr (.inr (fun _ => none))))] gf_X7_30 cf7 fi7_8 hnm rfl (Nat.le_of_ble_eq_true rfl) rfl rfl dX7_init_36 rfl ?_
  refine aw_ald_n C dX7_init_39 rfl ?_
  refine aw_bipush C 40 dX7_init_40 kb_40 ?_
  refine ao_newq C 2 40 [(45, .inr (5, [.ref 46, .int 0])), (46, .inl (0, 0, .inl (fun _ => 0))), (44, .inr (7, [.ref 45, .int 0, .int (-1), .int 0, .int 1, .int 0, .null, .int 0, .ref 47, .null])), (47, .inl (2, 4, .inr (.inr (fun _ => none)))), (48, .inl (2, 40, .inr (.inr (fun _ => none))))] (by decide) rfl cl_X7_9 C.2.2.2.2.2.2.1.2.2.2.2.1.2.1 (by decide) (by decide) (Nat.le_of_ble_eq_true rfl) (Nat.le_of_ble_eq_true rfl) (Nat.le_of_ble_eq_true rfl) dX7_init_42 rfl ?_
  refine ao_putF C [(45, .inr (5, [.ref 46, .int 0])), (46, .inl (0, 0, .inl (fun _ => 0))), (44, .inr (7, [.ref 45, .int 0, .int (-1), .int 0, .int 1, .int 0, .null, .int 0, .ref 47, .ref 48])), (47, .inl (2, 4, .inr (.inr (fun _ => none)))), (48, .inl (2, 40, .inr (.inr (fun _ => none))))] gf_X7_34 cf7 fi7_9 hnm rfl (Nat.le_of_ble_eq_true rfl) rfl rfl dX7_init_45 rfl ?_
  exact aw_vret C rfl dX7_init_48 (Nat.le_of_ble_eq_true rfl) (Nat.le_of_ble_eq_true rfl) ⟨rfl, rfl, rfl⟩

set_option maxHeartbeats 4000000 in
set_option maxRecDepth 100000 in
theorem c_X5_init_19 {X : GX} {l : Launch} {f : AH} (h50 : f 50 = some (.inr (5, [.null, .int 0]))) : AM X l yX5_init cX5_init 2 none 1 1 0 [.ref 50, .int 0] f 51 (EXO f [(51, .inl (0, 0, .inl (fun _ => 0))), (50, .inr (5, [.ref 51, .int 0]))] none 52) := by
  refine AM.of (by decide +kernel) rfl (by decide) (fun p e s m args below meth c C hnm => ?_)
  refine ao_start ?_
  refine aw_nl [some (.ref 50), some (.int 0)] rfl ?_
  refine aw_ald_n C dX5_init_0 rfl ?_
  refine aw_oinit C oi_X5_3 oi2 oi3 dX5_init_1 (Nat.le_of_ble_eq_true rfl) (Nat.le_of_ble_eq_true rfl) ?_
  refine aw_ald_n C dX5_init_4 rfl ?_
  refine aw_iload_n C dX5_init_5 rfl ?_
  refine aw_if_le C 13 dX5_init_6 (by decide) (fun _ => ?_) (fun q => absurd (by decide) q)
  refine aw_iconst C 0 dX5_init_13 ki_0 ?_
  refine ao_newi C 0 [(51, .inl (0, 0, .inl (fun _ => 0)))] (by decide) (by decide) (Nat.le_of_ble_eq_true rfl) (Nat.le_of_ble_eq_true rfl) (Nat.le_of_ble_eq_true rfl) dX5_init_14 rfl ?_
  refine ao_putF C [(51, .inl (0, 0, .inl (fun _ => 0))), (50, .inr (5, [.ref 51, .int 0]))] gf_X5_9 cf5 fi5_0 hnm h50 (Nat.le_of_ble_eq_true rfl) rfl rfl dX5_init_16 rfl ?_
  exact aw_vret C rfl dX5_init_19 (Nat.le_of_ble_eq_true rfl) (Nat.le_of_ble_eq_true rfl) ⟨rfl, rfl, rfl⟩

set_option maxHeartbeats 4000000 in
set_option maxRecDepth 100000 in
theorem c_X7_init_20 {X : GX} {l : Launch} {f : AH} (h49 : f 49 = some (.inr (7, [.null, .int 0, .int 0, .int 0, .int 0, .int 0, .null, .int 0, .null, .null]))) : AM X l yX7_init cX7_init 1 none 2 4 46 [.ref 49] f 50 (EXO f [(50, .inr (5, [.ref 51, .int 0])), (51, .inl (0, 0, .inl (fun _ => 0))), (49, .inr (7, [.ref 50, .int 0, .int (-1), .int 0, .int 1, .int 0, .null, .int 0, .ref 52, .ref 53])), (52, .inl (2, 4, .inr (.inr (fun _ => none)))), (53, .inl (2, 40, .inr (.inr (fun _ => none))))] none 54) := by
  refine AM.of (by decide +kernel) rfl (by decide) (fun p e s m args below meth c C hnm => ?_)
  refine ao_start ?_
  refine aw_nl [some (.ref 49)] rfl ?_
  refine aw_ald_n C dX7_init_0 rfl ?_
  refine aw_oinit C oi_X7_3 oi2 oi3 dX7_init_1 (Nat.le_of_ble_eq_true rfl) (Nat.le_of_ble_eq_true rfl) ?_
  refine aw_ald_n C dX7_init_4 rfl ?_
  refine ao_new C [(50, .inr (5, [.null, .int 0]))] nw_X7_9 (Nat.le_of_ble_eq_true rfl) (Nat.le_of_ble_eq_true rfl) dX7_init_5 rfl ?_
  refine aw_dup C dX7_init_8 rfl ?_
  refine aw_iconst C 0 dX7_init_9 ki_0 ?_
  refine ao_callI C [.int 0] [(50, .inr (5, [.ref 51, .int 0])), (51, .inl (0, 0, .inl (fun _ => 0)))] mi_X7_11 (c_X5_init_19 rfl) rfl dX7_init_10 (Nat.le_of_ble_eq_true rfl) (Nat.le_of_ble_eq_true rfl) rfl (Nat.le_of_ble_eq_true rfl) (Nat.le_of_ble_eq_true rfl) (Nat.le_of_ble_eq_true rfl) rfl ?_
  refine ao_put C [(50, .inr (5, [.ref 51, .int 0])), (51, .inl (0, 0, .inl (fun _ => 0))), (49, .inr (7, [.ref 50, .int 0, .int 0, .int 0, .int 0, .int 0, .null, .int 0, .null, .null]))] gf_X7_14 cf7 nf7_0 h49 (Nat.le_of_ble_eq_true rfl) rfl rfl dX7_init_13 rfl ?_
  refine aw_ald_n C dX7_init_16 rfl ?_
  refine aw_iconst C 0 dX7_init_17 ki_0 ?_
  refine ao_put C [(50, .inr (5, [.ref 51, .int 0])), (51, .inl (0, 0, .inl (fun _ => 0))), (49, .inr (7, [.ref 50, .int 0, .int 0, .int 0, .int 0, .int 0, .null, .int 0, .null, .null]))] gf_X7_20 cf7 nf7_1 rfl (Nat.le_of_ble_eq_true rfl) rfl rfl dX7_init_18 rfl ?_
  refine aw_ald_n C dX7_init_21 rfl ?_
  refine aw_iconst C (-1) dX7_init_22 ki_m1 ?_
  refine ao_put C [(50, .inr (5, [.ref 51, .int 0])), (51, .inl (0, 0, .inl (fun _ => 0))), (49, .inr (7, [.ref 50, .int 0, .int (-1), .int 0, .int 0, .int 0, .null, .int 0, .null, .null]))] gf_X7_24 cf7 nf7_2 rfl (Nat.le_of_ble_eq_true rfl) rfl rfl dX7_init_23 rfl ?_
  refine aw_ald_n C dX7_init_26 rfl ?_
  refine aw_iconst C 1 dX7_init_27 ki_1 ?_
  refine ao_put C [(50, .inr (5, [.ref 51, .int 0])), (51, .inl (0, 0, .inl (fun _ => 0))), (49, .inr (7, [.ref 50, .int 0, .int (-1), .int 0, .int 1, .int 0, .null, .int 0, .null, .null]))] gf_X7_27 cf7 nf7_4 rfl (Nat.le_of_ble_eq_true rfl) rfl rfl dX7_init_28 rfl ?_
  refine aw_ald_n C dX7_init_31 rfl ?_
  refine aw_iconst C 4 dX7_init_32 ki_4 ?_
  refine ao_newq C 2 4 [(50, .inr (5, [.ref 51, .int 0])), (51, .inl (0, 0, .inl (fun _ => 0))), (49, .inr (7, [.ref 50, .int 0, .int (-1), .int 0, .int 1, .int 0, .null, .int 0, .null, .null])), (52, .inl (2, 4, .inr (.inr (fun _ => none))))] (by decide) rfl cl_X7_9 C.2.2.2.2.2.2.1.2.2.2.2.1.2.1 (by decide) (by decide) (Nat.le_of_ble_eq_true rfl) (Nat.le_of_ble_eq_true rfl) (Nat.le_of_ble_eq_true rfl) dX7_init_33 rfl ?_
  refine ao_putF C [(50, .inr (5, [.ref 51, .int 0])), (51, .inl (0, 0, .inl (fun _ => 0))), (49, .inr (7, [.ref 50, .int 0, .int (-1), .int 0, .int 1, .int 0, .null, .int 0, .ref 52, .null])), (52, .inl (2, 4, .inr (.inr (fun _ => none))))] gf_X7_30 cf7 fi7_8 hnm rfl (Nat.le_of_ble_eq_true rfl) rfl rfl dX7_init_36 rfl ?_
  refine aw_ald_n C dX7_init_39 rfl ?_
  refine aw_bipush C 40 dX7_init_40 kb_40 ?_
  refine ao_newq C 2 40 [(50, .inr (5, [.ref 51, .int 0])), (51, .inl (0, 0, .inl (fun _ => 0))), (49, .inr (7, [.ref 50, .int 0, .int (-1), .int 0, .int 1, .int 0, .null, .int 0, .ref 52, .null])), (52, .inl (2, 4, .inr (.inr (fun _ => none)))), (53, .inl (2, 40, .inr (.inr (fun _ => none))))] (by decide) rfl cl_X7_9 C.2.2.2.2.2.2.1.2.2.2.2.1.2.1 (by decide) (by decide) (Nat.le_of_ble_eq_true rfl) (Nat.le_of_ble_eq_true rfl) (Nat.le_of_ble_eq_true rfl) dX7_init_42 rfl ?_
  refine ao_putF C [(50, .inr (5, [.ref 51, .int 0])), (51, .inl (0, 0, .inl (fun _ => 0))), (49, .inr (7, [.ref 50, .int 0, .int (-1), .int 0, .int 1, .int 0, .null, .int 0, .ref 52, .ref 53])), (52, .inl (2, 4, .inr (.inr (fun _ => none)))), (53, .inl (2, 40, .inr (.inr (fun _ => none))))] gf_X7_34 cf7 fi7_9 hnm rfl (Nat.le_of_ble_eq_true rfl) rfl rfl dX7_init_45 rfl ?_
  exact aw_vret C rfl dX7_init_48 (Nat.le_of_ble_eq_true rfl) (Nat.le_of_ble_eq_true rfl) ⟨rfl, rfl, rfl⟩

set_option maxHeartbeats 4000000 in
set_option maxRecDepth 100000 in
theorem c_X5_init_21 {X : GX} {l : Launch} {f : AH} (h55 : f 55 = some (.inr (5, [.null, .int 0]))) : AM X l yX5_init cX5_init 2 none 1 1 0 [.ref 55, .int 0] f 56 (EXO f [(56, .inl (0, 0, .inl (fun _ => 0))), (55, .inr (5, [.ref 56, .int 0]))] none 57) := by
  refine AM.of (by decide +kernel) rfl (by decide) (fun p e s m args below meth c C hnm => ?_)
  refine ao_start ?_
  refine aw_nl [some (.ref 55), some (.int 0)] rfl ?_
  refine aw_ald_n C dX5_init_0 rfl ?_
  refine aw_oinit C oi_X5_3 oi2 oi3 dX5_init_1 (Nat.le_of_ble_eq_true rfl) (Nat.le_of_ble_eq_true rfl) ?_
  refine aw_ald_n C dX5_init_4 rfl ?_
  refine aw_iload_n C dX5_init_5 rfl ?_
  refine aw_if_le C 13 dX5_init_6 (by decide) (fun _ => ?_) (fun q => absurd (by decide) q)
  refine aw_iconst C 0 dX5_init_13 ki_0 ?_
  refine ao_newi C 0 [(56, .inl (0, 0, .inl (fun _ => 0)))] (by decide) (by decide) (Nat.le_of_ble_eq_true rfl) (Nat.le_of_ble_eq_true rfl) (Nat.le_of_ble_eq_true rfl) dX5_init_14 rfl ?_
  refine ao_putF C [(56, .inl (0, 0, .inl (fun _ => 0))), (55, .inr (5, [.ref 56, .int 0]))] gf_X5_9 cf5 fi5_0 hnm h55 (Nat.le_of_ble_eq_true rfl) rfl rfl dX5_init_16 rfl ?_
  exact aw_vret C rfl dX5_init_19 (Nat.le_of_ble_eq_true rfl) (Nat.le_of_ble_eq_true rfl) ⟨rfl, rfl, rfl⟩

set_option maxHeartbeats 4000000 in
set_option maxRecDepth 100000 in
theorem c_X7_init_22 {X : GX} {l : Launch} {f : AH} (h54 : f 54 = some (.inr (7, [.null, .int 0, .int 0, .int 0, .int 0, .int 0, .null, .int 0, .null, .null]))) : AM X l yX7_init cX7_init 1 none 2 4 46 [.ref 54] f 55 (EXO f [(55, .inr (5, [.ref 56, .int 0])), (56, .inl (0, 0, .inl (fun _ => 0))), (54, .inr (7, [.ref 55, .int 0, .int (-1), .int 0, .int 1, .int 0, .null, .int 0, .ref 57, .ref 58])), (57, .inl (2, 4, .inr (.inr (fun _ => none)))), (58, .inl (2, 40, .inr (.inr (fun _ => none))))] none 59) := by
  refine AM.of (by decide +kernel) rfl (by decide) (fun p e s m args below meth c C hnm => ?_)
  refine ao_start ?_
  refine aw_nl [some (.ref 54)] rfl ?_
  refine aw_ald_n C dX7_init_0 rfl ?_
  refine aw_oinit C oi_X7_3 oi2 oi3 dX7_init_1 (Nat.le_of_ble_eq_true rfl) (Nat.le_of_ble_eq_true rfl) ?_
  refine aw_ald_n C dX7_init_4 rfl ?_
  refine ao_new C [(55, .inr (5, [.null, .int 0]))] nw_X7_9 (Nat.le_of_ble_eq_true rfl) (Nat.le_of_ble_eq_true rfl) dX7_init_5 rfl ?_
  refine aw_dup C dX7_init_8 rfl ?_
  refine aw_iconst C 0 dX7_init_9 ki_0 ?_
  refine ao_callI C [.int 0] [(55, .inr (5, [.ref 56, .int 0])), (56, .inl (0, 0, .inl (fun _ => 0)))] mi_X7_11 (c_X5_init_21 rfl) rfl dX7_init_10 (Nat.le_of_ble_eq_true rfl) (Nat.le_of_ble_eq_true rfl) rfl (Nat.le_of_ble_eq_true rfl) (Nat.le_of_ble_eq_true rfl) (Nat.le_of_ble_eq_true rfl) rfl ?_
  refine ao_put C [(55, .inr (5, [.ref 56, .int 0])), (56, .inl (0, 0, .inl (fun _ => 0))), (54, .inr (7, [.ref 55, .int 0, .int 0, .int 0, .int 0, .int 0, .null, .int 0, .null, .null]))] gf_X7_14 cf7 nf7_0 h54 (Nat.le_of_ble_eq_true rfl) rfl rfl dX7_init_13 rfl ?_
  refine aw_ald_n C dX7_init_16 rfl ?_
  refine aw_iconst C 0 dX7_init_17 ki_0 ?_
  refine ao_put C [(55, .inr (5, [.ref 56, .int 0])), (56, .inl (0, 0, .inl (fun _ => 0))), (54, .inr (7, [.ref 55, .int 0, .int 0, .int 0, .int 0, .int 0, .null, .int 0, .null, .null]))] gf_X7_20 cf7 nf7_1 rfl (Nat.le_of_ble_eq_true rfl) rfl rfl dX7_init_18 rfl ?_
  refine aw_ald_n C dX7_init_21 rfl ?_
  refine aw_iconst C (-1) dX7_init_22 ki_m1 ?_
  refine ao_put C [(55, .inr (5, [.ref 56, .int 0])), (56, .inl (0, 0, .inl (fun _ => 0))), (54, .inr (7, [.ref 55, .int 0, .int (-1), .int 0, .int 0, .int 0, .null, .int 0, .null, .null]))] gf_X7_24 cf7 nf7_2 rfl (Nat.le_of_ble_eq_true rfl) rfl rfl dX7_init_23 rfl ?_
  refine aw_ald_n C dX7_init_26 rfl ?_
  refine aw_iconst C 1 dX7_init_27 ki_1 ?_
  refine ao_put C [(55, .inr (5, [.ref 56, .int 0])), (56, .inl (0, 0, .inl (fun _ => 0))), (54, .inr (7, [.ref 55, .int 0, .int (-1), .int 0, .int 1, .int 0, .null, .int 0, .null, .null]))] gf_X7_27 cf7 nf7_4 rfl (Nat.le_of_ble_eq_true rfl) rfl rfl dX7_init_28 rfl ?_
  refine aw_ald_n C dX7_init_31 rfl ?_
  refine aw_iconst C 4 dX7_init_32 ki_4 ?_
  refine ao_newq C 2 4 [(55, .inr (5, [.ref 56, .int 0])), (56, .inl (0, 0, .inl (fun _ => 0))), (54, .inr (7, [.ref 55, .int 0, .int (-1), .int 0, .int 1, .int 0, .null, .int 0, .null, .null])), (57, .inl (2, 4, .inr (.inr (fun _ => none))))] (by decide) rfl cl_X7_9 C.2.2.2.2.2.2.1.2.2.2.2.1.2.1 (by decide) (by decide) (Nat.le_of_ble_eq_true rfl) (Nat.le_of_ble_eq_true rfl) (Nat.le_of_ble_eq_true rfl) dX7_init_33 rfl ?_
  refine ao_putF C [(55, .inr (5, [.ref 56, .int 0])), (56, .inl (0, 0, .inl (fun _ => 0))), (54, .inr (7, [.ref 55, .int 0, .int (-1), .int 0, .int 1, .int 0, .null, .int 0, .ref 57, .null])), (57, .inl (2, 4, .inr (.inr (fun _ => none))))] gf_X7_30 cf7 fi7_8 hnm rfl (Nat.le_of_ble_eq_true rfl) rfl rfl dX7_init_36 rfl ?_
  refine aw_ald_n C dX7_init_39 rfl ?_
  refine aw_bipush C 40 dX7_init_40 kb_40 ?_
  refine ao_newq C 2 40 [(55, .inr (5, [.ref 56, .int 0])), (56, .inl (0, 0, .inl (fun _ => 0))), (54, .inr (7, [.ref 55, .int 0, .int (-1), .int 0, .int 1, .int 0, .null, .int 0, .ref 57, .null])), (57, .inl (2, 4, .inr (.inr (fun _ => none)))), (58, .inl (2, 40, .inr (.inr (fun _ => none))))] (by decide) rfl cl_X7_9 C.2.2.2.2.2.2.1.2.2.2.2.1.2.1 (by decide) (by decide) (Nat.le_of_ble_eq_true rfl) (Nat.le_of_ble_eq_true rfl) (Nat.le_of_ble_eq_true rfl) dX7_init_42 rfl ?_
  refine ao_putF C [(55, .inr (5, [.ref 56, .int 0])), (56, .inl (0, 0, .inl (fun _ => 0))), (54, .inr (7, [.ref 55, .int 0, .int (-1), .int 0, .int 1, .int 0, .null, .int 0, .ref 57, .ref 58])), (57, .inl (2, 4, .inr (.inr (fun _ => none)))), (58, .inl (2, 40, .inr (.inr (fun _ => none))))] gf_X7_34 cf7 fi7_9 hnm rfl (Nat.le_of_ble_eq_true rfl) rfl rfl dX7_init_45 rfl ?_
  exact aw_vret C rfl dX7_init_48 (Nat.le_of_ble_eq_true rfl) (Nat.le_of_ble_eq_true rfl) ⟨rfl, rfl, rfl⟩

set_option maxHeartbeats 4000000 in
set_option maxRecDepth 100000 in
theorem c_X5_init_23 {X : GX} {l : Launch} {f : AH} (h60 : f 60 = some (.inr (5, [.null, .int 0]))) : AM X l yX5_init cX5_init 2 none 1 1 600 [.ref 60, .int 600] f 61 (EXO f [(61, .inl (0, 600, .inl (fun _ => 0))), (60, .inr (5, [.ref 61, .int 0]))] none 62) := by
  refine AM.of (by decide +kernel) rfl (by decide) (fun p e s m args below meth c C hnm => ?_)
  refine ao_start ?_
  refine aw_nl [some (.ref 60), some (.int 600)] rfl ?_
  refine aw_ald_n C dX5_init_0 rfl ?_
  refine aw_oinit C oi_X5_3 oi2 oi3 dX5_init_1 (Nat.le_of_ble_eq_true rfl) (Nat.le_of_ble_eq_true rfl) ?_
  refine aw_ald_n C dX5_init_4 rfl ?_
  refine aw_iload_n C dX5_init_5 rfl ?_
  refine aw_if_le C 13 dX5_init_6 (by decide) (fun q => absurd q (by decide)) (fun _ => ?_)
  refine aw_iload_n C dX5_init_9 rfl ?_
  refine aw_goto C 14 dX5_init_10 (by decide) ?_
  refine ao_newi C 600 [(61, .inl (0, 600, .inl (fun _ => 0)))] (by decide) (by decide) (Nat.le_of_ble_eq_true rfl) (Nat.le_of_ble_eq_true rfl) (Nat.le_of_ble_eq_true rfl) dX5_init_14 rfl ?_
  refine ao_putF C [(61, .inl (0, 600, .inl (fun _ => 0))), (60, .inr (5, [.ref 61, .int 0]))] gf_X5_9 cf5 fi5_0 hnm h60 (Nat.le_of_ble_eq_true rfl) rfl rfl dX5_init_16 rfl ?_
  exact aw_vret C rfl dX5_init_19 (Nat.le_of_ble_eq_true rfl) (Nat.le_of_ble_eq_true rfl) ⟨rfl, rfl, rfl⟩

set_option maxHeartbeats 4000000 in
set_option maxRecDepth 100000 in
theorem c_X5_init_24 {X : GX} {l : Launch} {f : AH} (h62 : f 62 = some (.inr (5, [.null, .int 0]))) : AM X l yX5_init cX5_init 2 none 1 1 600 [.ref 62, .int 600] f 63 (EXO f [(63, .inl (0, 600, .inl (fun _ => 0))), (62, .inr (5, [.ref 63, .int 0]))] none 64) := by
  refine AM.of (by decide +kernel) rfl (by decide) (fun p e s m args below meth c C hnm => ?_)
  refine ao_start ?_
  refine aw_nl [some (.ref 62), some (.int 600)] rfl ?_
  refine aw_ald_n C dX5_init_0 rfl ?_
  refine aw_oinit C oi_X5_3 oi2 oi3 dX5_init_1 (Nat.le_of_ble_eq_true rfl) (Nat.le_of_ble_eq_true rfl) ?_
  refine aw_ald_n C dX5_init_4 rfl ?_
  refine aw_iload_n C dX5_init_5 rfl ?_
  refine aw_if_le C 13 dX5_init_6 (by decide) (fun q => absurd q (by decide)) (fun _ => ?_)
  refine aw_iload_n C dX5_init_9 rfl ?_
  refine aw_goto C 14 dX5_init_10 (by decide) ?_
  refine ao_newi C 600 [(63, .inl (0, 600, .inl (fun _ => 0)))] (by decide) (by decide) (Nat.le_of_ble_eq_true rfl) (Nat.le_of_ble_eq_true rfl) (Nat.le_of_ble_eq_true rfl) dX5_init_14 rfl ?_
  refine ao_putF C [(63, .inl (0, 600, .inl (fun _ => 0))), (62, .inr (5, [.ref 63, .int 0]))] gf_X5_9 cf5 fi5_0 hnm h62 (Nat.le_of_ble_eq_true rfl) rfl rfl dX5_init_16 rfl ?_
  exact aw_vret C rfl dX5_init_19 (Nat.le_of_ble_eq_true rfl) (Nat.le_of_ble_eq_true rfl) ⟨rfl, rfl, rfl⟩

set_option maxHeartbeats 4000000 in
set_option maxRecDepth 100000 in
theorem c_X5_init_25 {X : GX} {l : Launch} {f : AH} (h64 : f 64 = some (.inr (5, [.null, .int 0]))) : AM X l yX5_init cX5_init 2 none 1 1 600 [.ref 64, .int 600] f 65 (EXO f [(65, .inl (0, 600, .inl (fun _ => 0))), (64, .inr (5, [.ref 65, .int 0]))] none 66) := by
  refine AM.of (by decide +kernel) rfl (by decide) (fun p e s m args below meth c C hnm => ?_)
  refine ao_start ?_
  refine aw_nl [some (.ref 64), some (.int 600)] rfl ?_
  refine aw_ald_n C dX5_init_0 rfl ?_
  refine aw_oinit C oi_X5_3 oi2 oi3 dX5_init_1 (Nat.le_of_ble_eq_true rfl) (Nat.le_of_ble_eq_true rfl) ?_
  refine aw_ald_n C dX5_init_4 rfl ?_
  refine aw_iload_n C dX5_init_5 rfl ?_
  refine aw_if_le C 13 dX5_init_6 (by decide) (fun q => absurd q (by decide)) (fun _ => ?_)
  refine aw_iload_n C dX5_init_9 rfl ?_
  refine aw_goto C 14 dX5_init_10 (by decide) ?_
  refine ao_newi C 600 [(65, .inl (0, 600, .inl (fun _ => 0)))] (by decide) (by decide) (Nat.le_of_ble_eq_true rfl) (Nat.le_of_ble_eq_true rfl) (Nat.le_of_ble_eq_true rfl) dX5_init_14 rfl ?_
  refine ao_putF C [(65, .inl (0, 600, .inl (fun _ => 0))), (64, .inr (5, [.ref 65, .int 0]))] gf_X5_9 cf5 fi5_0 hnm h64 (Nat.le_of_ble_eq_true rfl) rfl rfl dX5_init_16 rfl ?_
  exact aw_vret C rfl dX5_init_19 (Nat.le_of_ble_eq_true rfl) (Nat.le_of_ble_eq_true rfl) ⟨rfl, rfl, rfl⟩

set_option maxHeartbeats 4000000 in
set_option maxRecDepth 100000 in
theorem c_X5_init_26 {X : GX} {l : Launch} {f : AH} (h66 : f 66 = some (.inr (5, [.null, .int 0]))) : AM X l yX5_init cX5_init 2 none 1 1 600 [.ref 66, .int 600] f 67 (EXO f [(67, .inl (0, 600, .inl (fun _ => 0))), (66, .inr (5, [.ref 67, .int 0]))] none 68) := by
  refine AM.of (by decide +kernel) rfl (by decide) (fun p e s m args below meth c C hnm => ?_)
  refine ao_start ?_
  refine aw_nl [some (.ref 66), some (.int 600)] rfl ?_
  refine aw_ald_n C dX5_init_0 rfl ?_
  refine aw_oinit C oi_X5_3 oi2 oi3 dX5_init_1 (Nat.le_of_ble_eq_true rfl) (Nat.le_of_ble_eq_true rfl) ?_
  refine aw_ald_n C dX5_init_4 rfl ?_
  refine aw_iload_n C dX5_init_5 rfl ?_
  refine aw_if_le C 13 dX5_init_6 (by decide) (fun q => absurd q (by decide)) (fun _ => ?_)
  refine aw_iload_n C dX5_init_9 rfl ?_
  refine aw_goto C 14 dX5_init_10 (by decide) ?_
  refine ao_newi C 600 [(67, .inl (0, 600, .inl (fun _ => 0)))] (by decide) (by decide) (Nat.le_of_ble_eq_true rfl) (Nat.le_of_ble_eq_true rfl) (Nat.le_of_ble_eq_true rfl) dX5_init_14 rfl ?_
  refine ao_putF C [(67, .inl (0, 600, .inl (fun _ => 0))), (66, .inr (5, [.ref 67, .int 0]))] gf_X5_9 cf5 fi5_0 hnm h66 (Nat.le_of_ble_eq_true rfl) rfl rfl dX5_init_16 rfl ?_
  exact aw_vret C rfl dX5_init_19 (Nat.le_of_ble_eq_true rfl) (Nat.le_of_ble_eq_true rfl) ⟨rfl, rfl, rfl⟩

set_option maxHeartbeats 4000000 in
set_option maxRecDepth 100000 in
theorem c_X5_init_27 {X : GX} {l : Launch} {f : AH} (h69 : f 69 = some (.inr (5, [.null, .int 0]))) : AM X l yX5_init cX5_init 2 none 1 1 0 [.ref 69, .int 0] f 70 (EXO f [(70, .inl (0, 0, .inl (fun _ => 0))), (69, .inr (5, [.ref 70, .int 0]))] none 71) := by
  refine AM.of (by decide +kernel) rfl (by decide) (fun p e s m args below meth c C hnm => ?_)
  refine ao_start ?_
  refine aw_nl [some (.ref 69), some (.int 0)] rfl ?_
  refine aw_ald_n C dX5_init_0 rfl ?_
  refine aw_oinit C oi_X5_3 oi2 oi3 dX5_init_1 (Nat.le_of_ble_eq_true rfl) (Nat.le_of_ble_eq_true rfl) ?_
  refine aw_ald_n C dX5_init_4 rfl ?_
  refine aw_iload_n C dX5_init_5 rfl ?_
  refine aw_if_le C 13 dX5_init_6 (by decide) (fun _ => ?_) (fun q => absurd (by decide) q)
  refine aw_iconst C 0 dX5_init_13 ki_0 ?_
  refine ao_newi C 0 [(70, .inl (0, 0, .inl (fun _ => 0)))] (by decide) (by decide) (Nat.le_of_ble_eq_true rfl) (Nat.le_of_ble_eq_true rfl) (Nat.le_of_ble_eq_true rfl) dX5_init_14 rfl ?_
  refine ao_putF C [(70, .inl (0, 0, .inl (fun _ => 0))), (69, .inr (5, [.ref 70, .int 0]))] gf_X5_9 cf5 fi5_0 hnm h69 (Nat.le_of_ble_eq_true rfl) rfl rfl dX5_init_16 rfl ?_
  exact aw_vret C rfl dX5_init_19 (Nat.le_of_ble_eq_true rfl) (Nat.le_of_ble_eq_true rfl) ⟨rfl, rfl, rfl⟩

set_option maxHeartbeats 4000000 in
set_option maxRecDepth 100000 in
theorem c_X6_init_28 {X : GX} {l : Launch} {f : AH} (h68 : f 68 = some (.inr (6, [.null, .int 0, .int 0, .int 0, .int 0, .int 0, .int 0, .int 0, .int 0, .int 0]))) : AM X l yX6_init cX6_init 1 none 2 2 2 [.ref 68] f 69 (EXO f [(69, .inr (5, [.ref 70, .int 0])), (70, .inl (0, 0, .inl (fun _ => 0))), (68, .inr (6, [.ref 69, .int 0, .int 0, .int 0, .int 0, .int 0, .int 0, .int 0, .int 0, .int 0]))] none 71) := by
  refine AM.of (by decide +kernel) rfl (by decide) (fun p e s m args below meth c C hnm => ?_)
  refine ao_start ?_
  refine aw_nl [some (.ref 68)] rfl ?_
  refine aw_ald_n C dX6_init_0 rfl ?_
  refine aw_oinit C oi_X6_3 oi2 oi3 dX6_init_1 (Nat.le_of_ble_eq_true rfl) (Nat.le_of_ble_eq_true rfl) ?_
  refine aw_ald_n C dX6_init_4 rfl ?_
  refine ao_new C [(69, .inr (5, [.null, .int 0]))] nw_X6_9 (Nat.le_of_ble_eq_true rfl) (Nat.le_of_ble_eq_true rfl) dX6_init_5 rfl ?_
  refine aw_dup C dX6_init_8 rfl ?_
  refine aw_iconst C 0 dX6_init_9 ki_0 ?_
  refine ao_callI C [.int 0] [(69, .inr (5, [.ref 70, .int 0])), (70, .inl (0, 0, .inl (fun _ => 0)))] mi_X6_11 (c_X5_init_27 rfl) rfl dX6_init_10 (Nat.le_of_ble_eq_true rfl) (Nat.le_of_ble_eq_true rfl) rfl (Nat.le_of_ble_eq_true rfl) (Nat.le_of_ble_eq_true rfl) (Nat.le_of_ble_eq_true rfl) rfl ?_
  refine ao_put C [(69, .inr (5, [.ref 70, .int 0])), (70, .inl (0, 0, .inl (fun _ => 0))), (68, .inr (6, [.ref 69, .int 0, .int 0, .int 0, .int 0, .int 0, .int 0, .int 0, .int 0, .int 0]))] gf_X6_14 cf6 nf6_0 h68 (Nat.le_of_ble_eq_true rfl) rfl rfl dX6_init_13 rfl ?_
  exact aw_vret C rfl dX6_init_16 (Nat.le_of_ble_eq_true rfl) (Nat.le_of_ble_eq_true rfl) ⟨rfl, rfl, rfl⟩

set_option maxHeartbeats 4000000 in
set_option maxRecDepth 100000 in
theorem c_X5_init_29 {X : GX} {l : Launch} {f : AH} (h72 : f 72 = some (.inr (5, [.null, .int 0]))) : AM X l yX5_init cX5_init 2 none 1 1 0 [.ref 72, .int 0] f 73 (EXO f [(73, .inl (0, 0, .inl (fun _ => 0))), (72, .inr (5, [.ref 73, .int 0]))] none 74) := by
  refine AM.of (by decide +kernel) rfl (by decide) (fun p e s m args below meth c C hnm => ?_)
  refine ao_start ?_
  refine aw_nl [some (.ref 72), some (.int 0)] rfl ?_
  refine aw_ald_n C dX5_init_0 rfl ?_
  refine aw_oinit C oi_X5_3 oi2 oi3 dX5_init_1 (Nat.le_of_ble_eq_true rfl) (Nat.le_of_ble_eq_true rfl) ?_
  refine aw_ald_n C dX5_init_4 rfl ?_
  refine aw_iload_n C dX5_init_5 rfl ?_
  refine aw_if_le C 13 dX5_init_6 (by decide) (fun _ => ?_) (fun q => absurd (by decide) q)
  refine aw_iconst C 0 dX5_init_13 ki_0 ?_
  refine ao_newi C 0 [(73, .inl (0, 0, .inl (fun _ => 0)))] (by decide) (by decide) (Nat.le_of_ble_eq_true rfl) (Nat.le_of_ble_eq_true rfl) (Nat.le_of_ble_eq_true rfl) dX5_init_14 rfl ?_
  refine ao_putF C [(73, .inl (0, 0, .inl (fun _ => 0))), (72, .inr (5, [.ref 73, .int 0]))] gf_X5_9 cf5 fi5_0 hnm h72 (Nat.le_of_ble_eq_true rfl) rfl rfl dX5_init_16 rfl ?_
  exact aw_vret C rfl dX5_init_19 (Nat.le_of_ble_eq_true rfl) (Nat.le_of_ble_eq_true rfl) ⟨rfl, rfl, rfl⟩

set_option maxHeartbeats 4000000 in
set_option maxRecDepth 100000 in
theorem c_X6_init_30 {X : GX} {l : Launch} {f : AH} (h71 : f 71 = some (.inr (6, [.null, .int 0, .int 0, .int 0, .int 0, .int 0, .int 0, .int 0, .int 0, .int 0]))) : AM X l yX6_init cX6_init 1 none 2 2 2 [.ref 71] f 72 (EXO f [(72, .inr (5, [.ref 73, .int 0])), (73, .inl (0, 0, .inl (fun _ => 0))), (71, .inr (6, [.ref 72, .int 0, .int 0, .int 0, .int 0, .int 0, .int 0, .int 0, .int 0, .int 0]))] none 74) := by
  refine AM.of (by decide +kernel) rfl (by decide) (fun p e s m args below meth c C hnm => ?_)
  refine ao_start ?_
  refine aw_nl [some (.ref 71)] rfl ?_
  refine aw_ald_n C dX6_init_0 rfl ?_
  refine aw_oinit C oi_X6_3 oi2 oi3 dX6_init_1 (Nat.le_of_ble_eq_true rfl) (Nat.le_of_ble_eq_true rfl) ?_
  refine aw_ald_n C dX6_init_4 rfl ?_
  refine ao_new C [(72, .inr (5, [.null, .int 0]))] nw_X6_9 (Nat.le_of_ble_eq_true rfl) (Nat.le_of_ble_eq_true rfl) dX6_init_5 rfl ?_
  refine aw_dup C dX6_init_8 rfl ?_
  refine aw_iconst C 0 dX6_init_9 ki_0 ?_
  refine ao_callI C [.int 0] [(72, .inr (5, [.ref 73, .int 0])), (73, .inl (0, 0, .inl (fun _ => 0)))] mi_X6_11 (c_X5_init_29 rfl) rfl dX6_init_10 (Nat.le_of_ble_eq_true rfl) (Nat.le_of_ble_eq_true rfl) rfl (Nat.le_of_ble_eq_true rfl) (Nat.le_of_ble_eq_true rfl) (Nat.le_of_ble_eq_true rfl) rfl ?_
  refine ao_put C [(72, .inr (5, [.ref 73, .int 0])), (73, .inl (0, 0, .inl (fun _ => 0))), (71, .inr (6, [.ref 72, .int 0, .int 0, .int 0, .int 0, .int 0, .int 0, .int 0, .int 0, .int 0]))] gf_X6_14 cf6 nf6_0 h71 (Nat.le_of_ble_eq_true rfl) rfl rfl dX6_init_13 rfl ?_
  exact aw_vret C rfl dX6_init_16 (Nat.le_of_ble_eq_true rfl) (Nat.le_of_ble_eq_true rfl) ⟨rfl, rfl, rfl⟩

set_option maxHeartbeats 4000000 in
set_option maxRecDepth 100000 in
theorem c_X3_init_31 {X : GX} {l : Launch} {f : AH} {n : Nat} : AM X l yX3_init cX3_init 1 none 1 0 0 [.ref 75] f n (EXO f [] none n) := by
  refine AM.of (by decide +kernel) rfl (by decide) (fun p e s m args below meth c C hnm => ?_)
  refine ao_start ?_
  refine aw_nl [some (.ref 75)] rfl ?_
  refine aw_ald_n C dX3_init_0 rfl ?_
  refine aw_oinit C oi_X3_1 oi2 oi3 dX3_init_1 (Nat.le_of_ble_eq_true rfl) (Nat.le_of_ble_eq_true rfl) ?_
  exact aw_vret C rfl dX3_init_4 (Nat.le_of_ble_eq_true rfl) (Nat.le_of_ble_eq_true rfl) ⟨rfl, rfl, rfl⟩

set_option maxHeartbeats 4000000 in
set_option maxRecDepth 100000 in
theorem c_X3_init_32 {X : GX} {l : Launch} {f : AH} {n : Nat} : AM X l yX3_init cX3_init 1 none 1 0 0 [.ref 76] f n (EXO f [] none n) := by
  refine AM.of (by decide +kernel) rfl (by decide) (fun p e s m args below meth c C hnm => ?_)
  refine ao_start ?_
  refine aw_nl [some (.ref 76)] rfl ?_
  refine aw_ald_n C dX3_init_0 rfl ?_
  refine aw_oinit C oi_X3_1 oi2 oi3 dX3_init_1 (Nat.le_of_ble_eq_true rfl) (Nat.le_of_ble_eq_true rfl) ?_
  exact aw_vret C rfl dX3_init_4 (Nat.le_of_ble_eq_true rfl) (Nat.le_of_ble_eq_true rfl) ⟨rfl, rfl, rfl⟩

set_option maxHeartbeats 4000000 in
set_option maxRecDepth 100000 in
theorem c_X3_init_33 {X : GX} {l : Launch} {f : AH} {n : Nat} : AM X l yX3_init cX3_init 1 none 1 0 0 [.ref 77] f n (EXO f [] none n) := by
  refine AM.of (by decide +kernel) rfl (by decide) (fun p e s m args below meth c C hnm => ?_)
  refine ao_start ?_
  refine aw_nl [some (.ref 77)] rfl ?_
  refine aw_ald_n C dX3_init_0 rfl ?_
  refine aw_oinit C oi_X3_1 oi2 oi3 dX3_init_1 (Nat.le_of_ble_eq_true rfl) (Nat.le_of_ble_eq_true rfl) ?_
  exact aw_vret C rfl dX3_init_4 (Nat.le_of_ble_eq_true rfl) (Nat.le_of_ble_eq_true rfl) ⟨rfl, rfl, rfl⟩

set_option maxHeartbeats 4000000 in
set_option maxRecDepth 100000 in
theorem c_X3_init_34 {X : GX} {l : Launch} {f : AH} {n : Nat} : AM X l yX3_init cX3_init 1 none 1 0 0 [.ref 78] f n (EXO f [] none n) := by
  refine AM.of (by decide +kernel) rfl (by decide) (fun p e s m args below meth c C hnm => ?_)
  refine ao_start ?_
  refine aw_nl [some (.ref 78)] rfl ?_
  refine aw_ald_n C dX3_init_0 rfl ?_
  refine aw_oinit C oi_X3_1 oi2 oi3 dX3_init_1 (Nat.le_of_ble_eq_true rfl) (Nat.le_of_ble_eq_true rfl) ?_
  exact aw_vret C rfl dX3_init_4 (Nat.le_of_ble_eq_true rfl) (Nat.le_of_ble_eq_true rfl) ⟨rfl, rfl, rfl⟩

set_option maxHeartbeats 4000000 in
set_option maxRecDepth 100000 in
theorem c_X3_init_35 {X : GX} {l : Launch} {f : AH} {n : Nat} : AM X l yX3_init cX3_init 1 none 1 0 0 [.ref 79] f n (EXO f [] none n) := by
  refine AM.of (by decide +kernel) rfl (by decide) (fun p e s m args below meth c C hnm => ?_)
  refine ao_start ?_
  refine aw_nl [some (.ref 79)] rfl ?_
  refine aw_ald_n C dX3_init_0 rfl ?_
  refine aw_oinit C oi_X3_1 oi2 oi3 dX3_init_1 (Nat.le_of_ble_eq_true rfl) (Nat.le_of_ble_eq_true rfl) ?_
  exact aw_vret C rfl dX3_init_4 (Nat.le_of_ble_eq_true rfl) (Nat.le_of_ble_eq_true rfl) ⟨rfl, rfl, rfl⟩

set_option maxHeartbeats 4000000 in
set_option maxRecDepth 100000 in
theorem c_X3_init_36 {X : GX} {l : Launch} {f : AH} {n : Nat} : AM X l yX3_init cX3_init 1 none 1 0 0 [.ref 80] f n (EXO f [] none n) := by
  refine AM.of (by decide +kernel) rfl (by decide) (fun p e s m args below meth c C hnm => ?_)
  refine ao_start ?_
  refine aw_nl [some (.ref 80)] rfl ?_
  refine aw_ald_n C dX3_init_0 rfl ?_
  refine aw_oinit C oi_X3_1 oi2 oi3 dX3_init_1 (Nat.le_of_ble_eq_true rfl) (Nat.le_of_ble_eq_true rfl) ?_
  exact aw_vret C rfl dX3_init_4 (Nat.le_of_ble_eq_true rfl) (Nat.le_of_ble_eq_true rfl) ⟨rfl, rfl, rfl⟩

set_option maxHeartbeats 4000000 in
set_option maxRecDepth 100000 in
theorem c_X3_init_37 {X : GX} {l : Launch} {f : AH} {n : Nat} : AM X l yX3_init cX3_init 1 none 1 0 0 [.ref 81] f n (EXO f [] none n) := by
  refine AM.of (by decide +kernel) rfl (by decide) (fun p e s m args below meth c C hnm => ?_)
  refine ao_start ?_
  refine aw_nl [some (.ref 81)] rfl ?_
  refine aw_ald_n C dX3_init_0 rfl ?_
  refine aw_oinit C oi_X3_1 oi2 oi3 dX3_init_1 (Nat.le_of_ble_eq_true rfl) (Nat.le_of_ble_eq_true rfl) ?_
  exact aw_vret C rfl dX3_init_4 (Nat.le_of_ble_eq_true rfl) (Nat.le_of_ble_eq_true rfl) ⟨rfl, rfl, rfl⟩

set_option maxHeartbeats 4000000 in
set_option maxRecDepth 100000 in
theorem c_X3_init_38 {X : GX} {l : Launch} {f : AH} {n : Nat} : AM X l yX3_init cX3_init 1 none 1 0 0 [.ref 82] f n (EXO f [] none n) := by
  refine AM.of (by decide +kernel) rfl (by decide) (fun p e s m args below meth c C hnm => ?_)
  refine ao_start ?_
  refine aw_nl [some (.ref 82)] rfl ?_
  refine aw_ald_n C dX3_init_0 rfl ?_
  refine aw_oinit C oi_X3_1 oi2 oi3 dX3_init_1 (Nat.le_of_ble_eq_true rfl) (Nat.le_of_ble_eq_true rfl) ?_
  exact aw_vret C rfl dX3_init_4 (Nat.le_of_ble_eq_true rfl) (Nat.le_of_ble_eq_true rfl) ⟨rfl, rfl, rfl⟩

set_option maxHeartbeats 4000000 in
set_option maxRecDepth 100000 in
theorem c_X3_init_39 {X : GX} {l : Launch} {f : AH} {n : Nat} : AM X l yX3_init cX3_init 1 none 1 0 0 [.ref 83] f n (EXO f [] none n) := by
  refine AM.of (by decide +kernel) rfl (by decide) (fun p e s m args below meth c C hnm => ?_)
  refine ao_start ?_
  refine aw_nl [some (.ref 83)] rfl ?_
  refine aw_ald_n C dX3_init_0 rfl ?_
  refine aw_oinit C oi_X3_1 oi2 oi3 dX3_init_1 (Nat.le_of_ble_eq_true rfl) (Nat.le_of_ble_eq_true rfl) ?_
  exact aw_vret C rfl dX3_init_4 (Nat.le_of_ble_eq_true rfl) (Nat.le_of_ble_eq_true rfl) ⟨rfl, rfl, rfl⟩

set_option maxHeartbeats 4000000 in
set_option maxRecDepth 100000 in
theorem c_X3_init_40 {X : GX} {l : Launch} {f : AH} {n : Nat} : AM X l yX3_init cX3_init 1 none 1 0 0 [.ref 84] f n (EXO f [] none n) := by
  refine AM.of (by decide +kernel) rfl (by decide) (fun p e s m args below meth c C hnm => ?_)
  refine ao_start ?_
  refine aw_nl [some (.ref 84)] rfl ?_
  refine aw_ald_n C dX3_init_0 rfl ?_
  refine aw_oinit C oi_X3_1 oi2 oi3 dX3_init_1 (Nat.le_of_ble_eq_true rfl) (Nat.le_of_ble_eq_true rfl) ?_
  exact aw_vret C rfl dX3_init_4 (Nat.le_of_ble_eq_true rfl) (Nat.le_of_ble_eq_true rfl) ⟨rfl, rfl, rfl⟩

set_option maxHeartbeats 4000000 in
set_option maxRecDepth 100000 in
theorem c_X3_init_41 {X : GX} {l : Launch} {f : AH} {n : Nat} : AM X l yX3_init cX3_init 1 none 1 0 0 [.ref 85] f n (EXO f [] none n) := by
  refine AM.of (by decide +kernel) rfl (by decide) (fun p e s m args below meth c C hnm => ?_)
  refine ao_start ?_
  refine aw_nl [some (.ref 85)] rfl ?_
  refine aw_ald_n C dX3_init_0 rfl ?_
  refine aw_oinit C oi_X3_1 oi2 oi3 dX3_init_1 (Nat.le_of_ble_eq_true rfl) (Nat.le_of_ble_eq_true rfl) ?_
  exact aw_vret C rfl dX3_init_4 (Nat.le_of_ble_eq_true rfl) (Nat.le_of_ble_eq_true rfl) ⟨rfl, rfl, rfl⟩

set_option maxHeartbeats 4000000 in
set_option maxRecDepth 100000 in
theorem c_X3_init_42 {X : GX} {l : Launch} {f : AH} {n : Nat} : AM X l yX3_init cX3_init 1 none 1 0 0 [.ref 86] f n (EXO f [] none n) := by
  refine AM.of (by decide +kernel) rfl (by decide) (fun p e s m args below meth c C hnm => ?_)
  refine ao_start ?_
  refine aw_nl [some (.ref 86)] rfl ?_
  refine aw_ald_n C dX3_init_0 rfl ?_
  refine aw_oinit C oi_X3_1 oi2 oi3 dX3_init_1 (Nat.le_of_ble_eq_true rfl) (Nat.le_of_ble_eq_true rfl) ?_
  exact aw_vret C rfl dX3_init_4 (Nat.le_of_ble_eq_true rfl) (Nat.le_of_ble_eq_true rfl) ⟨rfl, rfl, rfl⟩

set_option maxHeartbeats 4000000 in
set_option maxRecDepth 100000 in
theorem c_X3_init_43 {X : GX} {l : Launch} {f : AH} {n : Nat} : AM X l yX3_init cX3_init 1 none 1 0 0 [.ref 87] f n (EXO f [] none n) := by
  refine AM.of (by decide +kernel) rfl (by decide) (fun p e s m args below meth c C hnm => ?_)
  refine ao_start ?_
  refine aw_nl [some (.ref 87)] rfl ?_
  refine aw_ald_n C dX3_init_0 rfl ?_
  refine aw_oinit C oi_X3_1 oi2 oi3 dX3_init_1 (Nat.le_of_ble_eq_true rfl) (Nat.le_of_ble_eq_true rfl) ?_
  exact aw_vret C rfl dX3_init_4 (Nat.le_of_ble_eq_true rfl) (Nat.le_of_ble_eq_true rfl) ⟨rfl, rfl, rfl⟩

set_option maxHeartbeats 4000000 in
set_option maxRecDepth 100000 in
theorem c_X3_init_44 {X : GX} {l : Launch} {f : AH} {n : Nat} : AM X l yX3_init cX3_init 1 none 1 0 0 [.ref 88] f n (EXO f [] none n) := by
  refine AM.of (by decide +kernel) rfl (by decide) (fun p e s m args below meth c C hnm => ?_)
  refine ao_start ?_
  refine aw_nl [some (.ref 88)] rfl ?_
  refine aw_ald_n C dX3_init_0 rfl ?_
  refine aw_oinit C oi_X3_1 oi2 oi3 dX3_init_1 (Nat.le_of_ble_eq_true rfl) (Nat.le_of_ble_eq_true rfl) ?_
  exact aw_vret C rfl dX3_init_4 (Nat.le_of_ble_eq_true rfl) (Nat.le_of_ble_eq_true rfl) ⟨rfl, rfl, rfl⟩

set_option maxHeartbeats 4000000 in
set_option maxRecDepth 100000 in
theorem c_X3_init_45 {X : GX} {l : Launch} {f : AH} {n : Nat} : AM X l yX3_init cX3_init 1 none 1 0 0 [.ref 89] f n (EXO f [] none n) := by
  refine AM.of (by decide +kernel) rfl (by decide) (fun p e s m args below meth c C hnm => ?_)
  refine ao_start ?_
  refine aw_nl [some (.ref 89)] rfl ?_
  refine aw_ald_n C dX3_init_0 rfl ?_
  refine aw_oinit C oi_X3_1 oi2 oi3 dX3_init_1 (Nat.le_of_ble_eq_true rfl) (Nat.le_of_ble_eq_true rfl) ?_
  exact aw_vret C rfl dX3_init_4 (Nat.le_of_ble_eq_true rfl) (Nat.le_of_ble_eq_true rfl) ⟨rfl, rfl, rfl⟩

set_option maxHeartbeats 4000000 in
set_option maxRecDepth 100000 in
theorem c_X3_init_46 {X : GX} {l : Launch} {f : AH} {n : Nat} : AM X l yX3_init cX3_init 1 none 1 0 0 [.ref 90] f n (EXO f [] none n) := by
  refine AM.of (by decide +kernel) rfl (by decide) (fun p e s m args below meth c C hnm => ?_)
  refine ao_start ?_
  refine aw_nl [some (.ref 90)] rfl ?_
  refine aw_ald_n C dX3_init_0 rfl ?_
  refine aw_oinit C oi_X3_1 oi2 oi3 dX3_init_1 (Nat.le_of_ble_eq_true rfl) (Nat.le_of_ble_eq_true rfl) ?_
  exact aw_vret C rfl dX3_init_4 (Nat.le_of_ble_eq_true rfl) (Nat.le_of_ble_eq_true rfl) ⟨rfl, rfl, rfl⟩

set_option maxHeartbeats 4000000 in
set_option maxRecDepth 100000 in
theorem c_X3_init_47 {X : GX} {l : Launch} {f : AH} {n : Nat} : AM X l yX3_init cX3_init 1 none 1 0 0 [.ref 91] f n (EXO f [] none n) := by
  refine AM.of (by decide +kernel) rfl (by decide) (fun p e s m args below meth c C hnm => ?_)
  refine ao_start ?_
  refine aw_nl [some (.ref 91)] rfl ?_
  refine aw_ald_n C dX3_init_0 rfl ?_
  refine aw_oinit C oi_X3_1 oi2 oi3 dX3_init_1 (Nat.le_of_ble_eq_true rfl) (Nat.le_of_ble_eq_true rfl) ?_
  exact aw_vret C rfl dX3_init_4 (Nat.le_of_ble_eq_true rfl) (Nat.le_of_ble_eq_true rfl) ⟨rfl, rfl, rfl⟩

set_option maxHeartbeats 4000000 in
set_option maxRecDepth 100000 in
theorem c_X3_init_48 {X : GX} {l : Launch} {f : AH} {n : Nat} : AM X l yX3_init cX3_init 1 none 1 0 0 [.ref 92] f n (EXO f [] none n) := by
  refine AM.of (by decide +kernel) rfl (by decide) (fun p e s m args below meth c C hnm => ?_)
  refine ao_start ?_
  refine aw_nl [some (.ref 92)] rfl ?_
  refine aw_ald_n C dX3_init_0 rfl ?_
  refine aw_oinit C oi_X3_1 oi2 oi3 dX3_init_1 (Nat.le_of_ble_eq_true rfl) (Nat.le_of_ble_eq_true rfl) ?_
  exact aw_vret C rfl dX3_init_4 (Nat.le_of_ble_eq_true rfl) (Nat.le_of_ble_eq_true rfl) ⟨rfl, rfl, rfl⟩

set_option maxHeartbeats 4000000 in
set_option maxRecDepth 100000 in
theorem c_X3_init_49 {X : GX} {l : Launch} {f : AH} {n : Nat} : AM X l yX3_init cX3_init 1 none 1 0 0 [.ref 93] f n (EXO f [] none n) := by
  refine AM.of (by decide +kernel) rfl (by decide) (fun p e s m args below meth c C hnm => ?_)
  refine ao_start ?_
  refine aw_nl [some (.ref 93)] rfl ?_
  refine aw_ald_n C dX3_init_0 rfl ?_
  refine aw_oinit C oi_X3_1 oi2 oi3 dX3_init_1 (Nat.le_of_ble_eq_true rfl) (Nat.le_of_ble_eq_true rfl) ?_
  exact aw_vret C rfl dX3_init_4 (Nat.le_of_ble_eq_true rfl) (Nat.le_of_ble_eq_true rfl) ⟨rfl, rfl, rfl⟩

set_option maxHeartbeats 4000000 in
set_option maxRecDepth 100000 in
theorem c_X3_init_50 {X : GX} {l : Launch} {f : AH} {n : Nat} : AM X l yX3_init cX3_init 1 none 1 0 0 [.ref 94] f n (EXO f [] none n) := by
  refine AM.of (by decide +kernel) rfl (by decide) (fun p e s m args below meth c C hnm => ?_)
  refine ao_start ?_
  refine aw_nl [some (.ref 94)] rfl ?_
  refine aw_ald_n C dX3_init_0 rfl ?_
  refine aw_oinit C oi_X3_1 oi2 oi3 dX3_init_1 (Nat.le_of_ble_eq_true rfl) (Nat.le_of_ble_eq_true rfl) ?_
  exact aw_vret C rfl dX3_init_4 (Nat.le_of_ble_eq_true rfl) (Nat.le_of_ble_eq_true rfl) ⟨rfl, rfl, rfl⟩

set_option maxHeartbeats 4000000 in
set_option maxRecDepth 100000 in
theorem c_X3_init_51 {X : GX} {l : Launch} {f : AH} {n : Nat} : AM X l yX3_init cX3_init 1 none 1 0 0 [.ref 95] f n (EXO f [] none n) := by
  refine AM.of (by decide +kernel) rfl (by decide) (fun p e s m args below meth c C hnm => ?_)
  refine ao_start ?_
  refine aw_nl [some (.ref 95)] rfl ?_
  refine aw_ald_n C dX3_init_0 rfl ?_
  refine aw_oinit C oi_X3_1 oi2 oi3 dX3_init_1 (Nat.le_of_ble_eq_true rfl) (Nat.le_of_ble_eq_true rfl) ?_
  exact aw_vret C rfl dX3_init_4 (Nat.le_of_ble_eq_true rfl) (Nat.le_of_ble_eq_true rfl) ⟨rfl, rfl, rfl⟩

set_option maxHeartbeats 4000000 in
set_option maxRecDepth 100000 in
theorem c_X3_init_52 {X : GX} {l : Launch} {f : AH} {n : Nat} : AM X l yX3_init cX3_init 1 none 1 0 0 [.ref 96] f n (EXO f [] none n) := by
  refine AM.of (by decide +kernel) rfl (by decide) (fun p e s m args below meth c C hnm => ?_)
  refine ao_start ?_
  refine aw_nl [some (.ref 96)] rfl ?_
  refine aw_ald_n C dX3_init_0 rfl ?_
  refine aw_oinit C oi_X3_1 oi2 oi3 dX3_init_1 (Nat.le_of_ble_eq_true rfl) (Nat.le_of_ble_eq_true rfl) ?_
  exact aw_vret C rfl dX3_init_4 (Nat.le_of_ble_eq_true rfl) (Nat.le_of_ble_eq_true rfl) ⟨rfl, rfl, rfl⟩

set_option maxHeartbeats 4000000 in
set_option maxRecDepth 100000 in
theorem c_X3_init_53 {X : GX} {l : Launch} {f : AH} {n : Nat} : AM X l yX3_init cX3_init 1 none 1 0 0 [.ref 97] f n (EXO f [] none n) := by
  refine AM.of (by decide +kernel) rfl (by decide) (fun p e s m args below meth c C hnm => ?_)
  refine ao_start ?_
  refine aw_nl [some (.ref 97)] rfl ?_
  refine aw_ald_n C dX3_init_0 rfl ?_
  refine aw_oinit C oi_X3_1 oi2 oi3 dX3_init_1 (Nat.le_of_ble_eq_true rfl) (Nat.le_of_ble_eq_true rfl) ?_
  exact aw_vret C rfl dX3_init_4 (Nat.le_of_ble_eq_true rfl) (Nat.le_of_ble_eq_true rfl) ⟨rfl, rfl, rfl⟩

set_option maxHeartbeats 4000000 in
set_option maxRecDepth 100000 in
theorem c_X3_init_54 {X : GX} {l : Launch} {f : AH} {n : Nat} : AM X l yX3_init cX3_init 1 none 1 0 0 [.ref 98] f n (EXO f [] none n) := by
  refine AM.of (by decide +kernel) rfl (by decide) (fun p e s m args below meth c C hnm => ?_)
  refine ao_start ?_
  refine aw_nl [some (.ref 98)] rfl ?_
  refine aw_ald_n C dX3_init_0 rfl ?_
  refine aw_oinit C oi_X3_1 oi2 oi3 dX3_init_1 (Nat.le_of_ble_eq_true rfl) (Nat.le_of_ble_eq_true rfl) ?_
  exact aw_vret C rfl dX3_init_4 (Nat.le_of_ble_eq_true rfl) (Nat.le_of_ble_eq_true rfl) ⟨rfl, rfl, rfl⟩

set_option maxHeartbeats 4000000 in
set_option maxRecDepth 100000 in
theorem c_X3_init_55 {X : GX} {l : Launch} {f : AH} {n : Nat} : AM X l yX3_init cX3_init 1 none 1 0 0 [.ref 99] f n (EXO f [] none n) := by
  refine AM.of (by decide +kernel) rfl (by decide) (fun p e s m args below meth c C hnm => ?_)
  refine ao_start ?_
  refine aw_nl [some (.ref 99)] rfl ?_
  refine aw_ald_n C dX3_init_0 rfl ?_
  refine aw_oinit C oi_X3_1 oi2 oi3 dX3_init_1 (Nat.le_of_ble_eq_true rfl) (Nat.le_of_ble_eq_true rfl) ?_
  exact aw_vret C rfl dX3_init_4 (Nat.le_of_ble_eq_true rfl) (Nat.le_of_ble_eq_true rfl) ⟨rfl, rfl, rfl⟩

set_option maxHeartbeats 4000000 in
set_option maxRecDepth 100000 in
theorem c_X3_init_56 {X : GX} {l : Launch} {f : AH} {n : Nat} : AM X l yX3_init cX3_init 1 none 1 0 0 [.ref 100] f n (EXO f [] none n) := by
  refine AM.of (by decide +kernel) rfl (by decide) (fun p e s m args below meth c C hnm => ?_)
  refine ao_start ?_
  refine aw_nl [some (.ref 100)] rfl ?_
  refine aw_ald_n C dX3_init_0 rfl ?_
  refine aw_oinit C oi_X3_1 oi2 oi3 dX3_init_1 (Nat.le_of_ble_eq_true rfl) (Nat.le_of_ble_eq_true rfl) ?_
  exact aw_vret C rfl dX3_init_4 (Nat.le_of_ble_eq_true rfl) (Nat.le_of_ble_eq_true rfl) ⟨rfl, rfl, rfl⟩

set_option maxHeartbeats 4000000 in
set_option maxRecDepth 100000 in
theorem c_X3_init_57 {X : GX} {l : Launch} {f : AH} {n : Nat} : AM X l yX3_init cX3_init 1 none 1 0 0 [.ref 101] f n (EXO f [] none n) := by
  refine AM.of (by decide +kernel) rfl (by decide) (fun p e s m args below meth c C hnm => ?_)
  refine ao_start ?_
  refine aw_nl [some (.ref 101)] rfl ?_
  refine aw_ald_n C dX3_init_0 rfl ?_
  refine aw_oinit C oi_X3_1 oi2 oi3 dX3_init_1 (Nat.le_of_ble_eq_true rfl) (Nat.le_of_ble_eq_true rfl) ?_
  exact aw_vret C rfl dX3_init_4 (Nat.le_of_ble_eq_true rfl) (Nat.le_of_ble_eq_true rfl) ⟨rfl, rfl, rfl⟩

set_option maxHeartbeats 4000000 in
set_option maxRecDepth 100000 in
theorem c_X3_init_58 {X : GX} {l : Launch} {f : AH} {n : Nat} : AM X l yX3_init cX3_init 1 none 1 0 0 [.ref 102] f n (EXO f [] none n) := by
  refine AM.of (by decide +kernel) rfl (by decide) (fun p e s m args below meth c C hnm => ?_)
  refine ao_start ?_
  refine aw_nl [some (.ref 102)] rfl ?_
  refine aw_ald_n C dX3_init_0 rfl ?_
  refine aw_oinit C oi_X3_1 oi2 oi3 dX3_init_1 (Nat.le_of_ble_eq_true rfl) (Nat.le_of_ble_eq_true rfl) ?_
  exact aw_vret C rfl dX3_init_4 (Nat.le_of_ble_eq_true rfl) (Nat.le_of_ble_eq_true rfl) ⟨rfl, rfl, rfl⟩

set_option maxHeartbeats 4000000 in
set_option maxRecDepth 100000 in
theorem c_X3_init_59 {X : GX} {l : Launch} {f : AH} {n : Nat} : AM X l yX3_init cX3_init 1 none 1 0 0 [.ref 103] f n (EXO f [] none n) := by
  refine AM.of (by decide +kernel) rfl (by decide) (fun p e s m args below meth c C hnm => ?_)
  refine ao_start ?_
  refine aw_nl [some (.ref 103)] rfl ?_
  refine aw_ald_n C dX3_init_0 rfl ?_
  refine aw_oinit C oi_X3_1 oi2 oi3 dX3_init_1 (Nat.le_of_ble_eq_true rfl) (Nat.le_of_ble_eq_true rfl) ?_
  exact aw_vret C rfl dX3_init_4 (Nat.le_of_ble_eq_true rfl) (Nat.le_of_ble_eq_true rfl) ⟨rfl, rfl, rfl⟩

set_option maxHeartbeats 4000000 in
set_option maxRecDepth 100000 in
theorem c_X3_init_60 {X : GX} {l : Launch} {f : AH} {n : Nat} : AM X l yX3_init cX3_init 1 none 1 0 0 [.ref 104] f n (EXO f [] none n) := by
  refine AM.of (by decide +kernel) rfl (by decide) (fun p e s m args below meth c C hnm => ?_)
  refine ao_start ?_
  refine aw_nl [some (.ref 104)] rfl ?_
  refine aw_ald_n C dX3_init_0 rfl ?_
  refine aw_oinit C oi_X3_1 oi2 oi3 dX3_init_1 (Nat.le_of_ble_eq_true rfl) (Nat.le_of_ble_eq_true rfl) ?_
  exact aw_vret C rfl dX3_init_4 (Nat.le_of_ble_eq_true rfl) (Nat.le_of_ble_eq_true rfl) ⟨rfl, rfl, rfl⟩

set_option maxHeartbeats 4000000 in
set_option maxRecDepth 100000 in
theorem c_X3_init_61 {X : GX} {l : Launch} {f : AH} {n : Nat} : AM X l yX3_init cX3_init 1 none 1 0 0 [.ref 105] f n (EXO f [] none n) := by
  refine AM.of (by decide +kernel) rfl (by decide) (fun p e s m args below meth c C hnm => ?_)
  refine ao_start ?_
  refine aw_nl [some (.ref 105)] rfl ?_
  refine aw_ald_n C dX3_init_0 rfl ?_
  refine aw_oinit C oi_X3_1 oi2 oi3 dX3_init_1 (Nat.le_of_ble_eq_true rfl) (Nat.le_of_ble_eq_true rfl) ?_
  exact aw_vret C rfl dX3_init_4 (Nat.le_of_ble_eq_true rfl) (Nat.le_of_ble_eq_true rfl) ⟨rfl, rfl, rfl⟩

set_option maxHeartbeats 4000000 in
set_option maxRecDepth 100000 in
theorem c_X3_init_62 {X : GX} {l : Launch} {f : AH} {n : Nat} : AM X l yX3_init cX3_init 1 none 1 0 0 [.ref 106] f n (EXO f [] none n) := by
  refine AM.of (by decide +kernel) rfl (by decide) (fun p e s m args below meth c C hnm => ?_)
  refine ao_start ?_
  refine aw_nl [some (.ref 106)] rfl ?_
  refine aw_ald_n C dX3_init_0 rfl ?_
  refine aw_oinit C oi_X3_1 oi2 oi3 dX3_init_1 (Nat.le_of_ble_eq_true rfl) (Nat.le_of_ble_eq_true rfl) ?_
  exact aw_vret C rfl dX3_init_4 (Nat.le_of_ble_eq_true rfl) (Nat.le_of_ble_eq_true rfl) ⟨rfl, rfl, rfl⟩

set_option maxHeartbeats 4000000 in
set_option maxRecDepth 100000 in
theorem c_X3_init_63 {X : GX} {l : Launch} {f : AH} {n : Nat} : AM X l yX3_init cX3_init 1 none 1 0 0 [.ref 107] f n (EXO f [] none n) := by
  refine AM.of (by decide +kernel) rfl (by decide) (fun p e s m args below meth c C hnm => ?_)
  refine ao_start ?_
  refine aw_nl [some (.ref 107)] rfl ?_
  refine aw_ald_n C dX3_init_0 rfl ?_
  refine aw_oinit C oi_X3_1 oi2 oi3 dX3_init_1 (Nat.le_of_ble_eq_true rfl) (Nat.le_of_ble_eq_true rfl) ?_
  exact aw_vret C rfl dX3_init_4 (Nat.le_of_ble_eq_true rfl) (Nat.le_of_ble_eq_true rfl) ⟨rfl, rfl, rfl⟩

set_option maxHeartbeats 4000000 in
set_option maxRecDepth 100000 in
theorem c_X3_init_64 {X : GX} {l : Launch} {f : AH} {n : Nat} : AM X l yX3_init cX3_init 1 none 1 0 0 [.ref 108] f n (EXO f [] none n) := by
  refine AM.of (by decide +kernel) rfl (by decide) (fun p e s m args below meth c C hnm => ?_)
  refine ao_start ?_
  refine aw_nl [some (.ref 108)] rfl ?_
  refine aw_ald_n C dX3_init_0 rfl ?_
  refine aw_oinit C oi_X3_1 oi2 oi3 dX3_init_1 (Nat.le_of_ble_eq_true rfl) (Nat.le_of_ble_eq_true rfl) ?_
  exact aw_vret C rfl dX3_init_4 (Nat.le_of_ble_eq_true rfl) (Nat.le_of_ble_eq_true rfl) ⟨rfl, rfl, rfl⟩

set_option maxHeartbeats 4000000 in
set_option maxRecDepth 100000 in
theorem c_X3_init_65 {X : GX} {l : Launch} {f : AH} {n : Nat} : AM X l yX3_init cX3_init 1 none 1 0 0 [.ref 109] f n (EXO f [] none n) := by
  refine AM.of (by decide +kernel) rfl (by decide) (fun p e s m args below meth c C hnm => ?_)
  refine ao_start ?_
  refine aw_nl [some (.ref 109)] rfl ?_
  refine aw_ald_n C dX3_init_0 rfl ?_
  refine aw_oinit C oi_X3_1 oi2 oi3 dX3_init_1 (Nat.le_of_ble_eq_true rfl) (Nat.le_of_ble_eq_true rfl) ?_
  exact aw_vret C rfl dX3_init_4 (Nat.le_of_ble_eq_true rfl) (Nat.le_of_ble_eq_true rfl) ⟨rfl, rfl, rfl⟩

set_option maxHeartbeats 4000000 in
set_option maxRecDepth 100000 in
theorem c_X3_init_66 {X : GX} {l : Launch} {f : AH} {n : Nat} : AM X l yX3_init cX3_init 1 none 1 0 0 [.ref 110] f n (EXO f [] none n) := by
  refine AM.of (by decide +kernel) rfl (by decide) (fun p e s m args below meth c C hnm => ?_)
  refine ao_start ?_
  refine aw_nl [some (.ref 110)] rfl ?_
  refine aw_ald_n C dX3_init_0 rfl ?_
  refine aw_oinit C oi_X3_1 oi2 oi3 dX3_init_1 (Nat.le_of_ble_eq_true rfl) (Nat.le_of_ble_eq_true rfl) ?_
  exact aw_vret C rfl dX3_init_4 (Nat.le_of_ble_eq_true rfl) (Nat.le_of_ble_eq_true rfl) ⟨rfl, rfl, rfl⟩

set_option maxHeartbeats 4000000 in
set_option maxRecDepth 100000 in
theorem c_X3_init_67 {X : GX} {l : Launch} {f : AH} {n : Nat} : AM X l yX3_init cX3_init 1 none 1 0 0 [.ref 111] f n (EXO f [] none n) := by
  refine AM.of (by decide +kernel) rfl (by decide) (fun p e s m args below meth c C hnm => ?_)
  refine ao_start ?_
  refine aw_nl [some (.ref 111)] rfl ?_
  refine aw_ald_n C dX3_init_0 rfl ?_
  refine aw_oinit C oi_X3_1 oi2 oi3 dX3_init_1 (Nat.le_of_ble_eq_true rfl) (Nat.le_of_ble_eq_true rfl) ?_
  exact aw_vret C rfl dX3_init_4 (Nat.le_of_ble_eq_true rfl) (Nat.le_of_ble_eq_true rfl) ⟨rfl, rfl, rfl⟩

set_option maxHeartbeats 4000000 in
set_option maxRecDepth 100000 in
theorem c_X3_init_68 {X : GX} {l : Launch} {f : AH} {n : Nat} : AM X l yX3_init cX3_init 1 none 1 0 0 [.ref 112] f n (EXO f [] none n) := by
  refine AM.of (by decide +kernel) rfl (by decide) (fun p e s m args below meth c C hnm => ?_)
  refine ao_start ?_
  refine aw_nl [some (.ref 112)] rfl ?_
  refine aw_ald_n C dX3_init_0 rfl ?_
  refine aw_oinit C oi_X3_1 oi2 oi3 dX3_init_1 (Nat.le_of_ble_eq_true rfl) (Nat.le_of_ble_eq_true rfl) ?_
  exact aw_vret C rfl dX3_init_4 (Nat.le_of_ble_eq_true rfl) (Nat.le_of_ble_eq_true rfl) ⟨rfl, rfl, rfl⟩

set_option maxHeartbeats 4000000 in
set_option maxRecDepth 100000 in
theorem c_X3_init_69 {X : GX} {l : Launch} {f : AH} {n : Nat} : AM X l yX3_init cX3_init 1 none 1 0 0 [.ref 113] f n (EXO f [] none n) := by
  refine AM.of (by decide +kernel) rfl (by decide) (fun p e s m args below meth c C hnm => ?_)
  refine ao_start ?_
  refine aw_nl [some (.ref 113)] rfl ?_
  refine aw_ald_n C dX3_init_0 rfl ?_
  refine aw_oinit C oi_X3_1 oi2 oi3 dX3_init_1 (Nat.le_of_ble_eq_true rfl) (Nat.le_of_ble_eq_true rfl) ?_
  exact aw_vret C rfl dX3_init_4 (Nat.le_of_ble_eq_true rfl) (Nat.le_of_ble_eq_true rfl) ⟨rfl, rfl, rfl⟩

set_option maxHeartbeats 4000000 in
set_option maxRecDepth 100000 in
theorem c_X3_init_70 {X : GX} {l : Launch} {f : AH} {n : Nat} : AM X l yX3_init cX3_init 1 none 1 0 0 [.ref 114] f n (EXO f [] none n) := by
  refine AM.of (by decide +kernel) rfl (by decide) (fun p e s m args below meth c C hnm => ?_)
  refine ao_start ?_
  refine aw_nl [some (.ref 114)] rfl ?_
  refine aw_ald_n C dX3_init_0 rfl ?_
  refine aw_oinit C oi_X3_1 oi2 oi3 dX3_init_1 (Nat.le_of_ble_eq_true rfl) (Nat.le_of_ble_eq_true rfl) ?_
  exact aw_vret C rfl dX3_init_4 (Nat.le_of_ble_eq_true rfl) (Nat.le_of_ble_eq_true rfl) ⟨rfl, rfl, rfl⟩

