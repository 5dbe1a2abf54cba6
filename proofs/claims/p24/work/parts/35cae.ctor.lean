set_option maxHeartbeats 4000000 in
set_option maxRecDepth 100000 in
theorem c_X5_init_121 {X : GX} {l : Launch} {f : AH} (h172 : f 172 = some (.inr (5, [.null, .int 0]))) : AM X l yX5_init cX5_init 2 none 1 1 600 [.ref 172, .int 600] f 173 (EXO f [(173, .inl (0, 600, .inl (fun _ => 0))), (172, .inr (5, [.ref 173, .int 0]))] none 174) := by
  refine AM.of (by decide +kernel) rfl (by decide) (fun p e s m args below meth c C hnm => ?_)
  refine ao_start ?_
  refine aw_nl [some (.ref 172), some (.int 600)] rfl ?_
  refine aw_ald_n C dX5_init_0 rfl ?_
  refine aw_oinit C oi_X5_3 oi2 oi3 dX5_init_1 (Nat.le_of_ble_eq_true rfl) (Nat.le_of_ble_eq_true rfl) ?_
  refine aw_ald_n C dX5_init_4 rfl ?_
  refine aw_iload_n C dX5_init_5 rfl ?_
  refine aw_if_le C 13 dX5_init_6 (by decide) (fun q => absurd q (by decide)) (fun _ => ?_)
  refine aw_iload_n C dX5_init_9 rfl ?_
  refine aw_goto C 14 dX5_init_10 (by decide) ?_
  refine ao_newi C 600 [(173, .inl (0, 600, .inl (fun _ => 0)))] (by decide) (by decide) (Nat.le_of_ble_eq_true rfl) (Nat.le_of_ble_eq_true rfl) (Nat.le_of_ble_eq_true rfl) dX5_init_14 rfl ?_
  refine ao_putF C [(173, .inl (0, 600, .inl (fun _ => 0))), (172, .inr (5, [.ref 173, .int 0]))] gf_X5_9 cf5 fi5_0 hnm h172 (Nat.le_of_ble_eq_true rfl) rfl rfl dX5_init_16 rfl ?_
  exact aw_vret C rfl dX5_init_19 (Nat.le_of_ble_eq_true rfl) (Nat.le_of_ble_eq_true rfl) ⟨rfl, rfl, rfl⟩

set_option maxHeartbeats 4000000 in
set_option maxRecDepth 100000 in
theorem c_X5_init_122 {X : GX} {l : Launch} {f : AH} (h174 : f 174 = some (.inr (5, [.null, .int 0]))) : AM X l yX5_init cX5_init 2 none 1 1 540 [.ref 174, .int 540] f 175 (EXO f [(175, .inl (0, 540, .inl (fun _ => 0))), (174, .inr (5, [.ref 175, .int 0]))] none 176) := by
  refine AM.of (by decide +kernel) rfl (by decide) (fun p e s m args below meth c C hnm => ?_)
  refine ao_start ?_
  refine aw_nl [some (.ref 174), some (.int 540)] rfl ?_
  refine aw_ald_n C dX5_init_0 rfl ?_
  refine aw_oinit C oi_X5_3 oi2 oi3 dX5_init_1 (Nat.le_of_ble_eq_true rfl) (Nat.le_of_ble_eq_true rfl) ?_
  refine aw_ald_n C dX5_init_4 rfl ?_
  refine aw_iload_n C dX5_init_5 rfl ?_
  refine aw_if_le C 13 dX5_init_6 (by decide) (fun q => absurd q (by decide)) (fun _ => ?_)
  refine aw_iload_n C dX5_init_9 rfl ?_
  refine aw_goto C 14 dX5_init_10 (by decide) ?_
  refine ao_newi C 540 [(175, .inl (0, 540, .inl (fun _ => 0)))] (by decide) (by decide) (Nat.le_of_ble_eq_true rfl) (Nat.le_of_ble_eq_true rfl) (Nat.le_of_ble_eq_true rfl) dX5_init_14 rfl ?_
  refine ao_putF C [(175, .inl (0, 540, .inl (fun _ => 0))), (174, .inr (5, [.ref 175, .int 0]))] gf_X5_9 cf5 fi5_0 hnm h174 (Nat.le_of_ble_eq_true rfl) rfl rfl dX5_init_16 rfl ?_
  exact aw_vret C rfl dX5_init_19 (Nat.le_of_ble_eq_true rfl) (Nat.le_of_ble_eq_true rfl) ⟨rfl, rfl, rfl⟩

set_option maxHeartbeats 4000000 in
set_option maxRecDepth 100000 in
theorem c_X5_init_123 {X : GX} {l : Launch} {f : AH} (h176 : f 176 = some (.inr (5, [.null, .int 0]))) : AM X l yX5_init cX5_init 2 none 1 1 540 [.ref 176, .int 540] f 177 (EXO f [(177, .inl (0, 540, .inl (fun _ => 0))), (176, .inr (5, [.ref 177, .int 0]))] none 178) := by
  refine AM.of (by decide +kernel) rfl (by decide) (fun p e s m args below meth c C hnm => ?_)
  refine ao_start ?_
  refine aw_nl [some (.ref 176), some (.int 540)] rfl ?_
  refine aw_ald_n C dX5_init_0 rfl ?_
  refine aw_oinit C oi_X5_3 oi2 oi3 dX5_init_1 (Nat.le_of_ble_eq_true rfl) (Nat.le_of_ble_eq_true rfl) ?_
  refine aw_ald_n C dX5_init_4 rfl ?_
  refine aw_iload_n C dX5_init_5 rfl ?_
  refine aw_if_le C 13 dX5_init_6 (by decide) (fun q => absurd q (by decide)) (fun _ => ?_)
  refine aw_iload_n C dX5_init_9 rfl ?_
  refine aw_goto C 14 dX5_init_10 (by decide) ?_
  refine ao_newi C 540 [(177, .inl (0, 540, .inl (fun _ => 0)))] (by decide) (by decide) (Nat.le_of_ble_eq_true rfl) (Nat.le_of_ble_eq_true rfl) (Nat.le_of_ble_eq_true rfl) dX5_init_14 rfl ?_
  refine ao_putF C [(177, .inl (0, 540, .inl (fun _ => 0))), (176, .inr (5, [.ref 177, .int 0]))] gf_X5_9 cf5 fi5_0 hnm h176 (Nat.le_of_ble_eq_true rfl) rfl rfl dX5_init_16 rfl ?_
  exact aw_vret C rfl dX5_init_19 (Nat.le_of_ble_eq_true rfl) (Nat.le_of_ble_eq_true rfl) ⟨rfl, rfl, rfl⟩

set_option maxHeartbeats 4000000 in
set_option maxRecDepth 100000 in
theorem c_X0_init_124 {X : GX} {l : Launch} {f : AH} (h171 : f 171 = some (.inr (0, [.null, .null, .null, .int 0]))) : AM X l yX0_init cX0_init 1 none 2 6 1686 [.ref 171] f 172 (EXO f [(172, .inr (5, [.ref 173, .int 0])), (173, .inl (0, 600, .inl (fun _ => 0))), (171, .inr (0, [.ref 172, .ref 174, .ref 176, .int 0])), (174, .inr (5, [.ref 175, .int 0])), (175, .inl (0, 540, .inl (fun _ => 0))), (176, .inr (5, [.ref 177, .int 0])), (177, .inl (0, 540, .inl (fun _ => 0)))] none 178) := by
  refine AM.of (by decide +kernel) rfl (by decide) (fun p e s m args below meth c C hnm => ?_)
  refine ao_start ?_
  refine aw_nl [some (.ref 171)] rfl ?_
  refine aw_ald_n C dX0_init_0 rfl ?_
  refine aw_oinit C oi_X0_3 oi2 oi3 dX0_init_1 (Nat.le_of_ble_eq_true rfl) (Nat.le_of_ble_eq_true rfl) ?_
  refine aw_ald_n C dX0_init_4 rfl ?_
  refine ao_new C [(172, .inr (5, [.null, .int 0]))] nw_X0_9 (Nat.le_of_ble_eq_true rfl) (Nat.le_of_ble_eq_true rfl) dX0_init_5 rfl ?_
  refine aw_dup C dX0_init_8 rfl ?_
  refine aw_sipush C 600 dX0_init_9 ks_600 ?_
  refine ao_callI C [.int 600] [(172, .inr (5, [.ref 173, .int 0])), (173, .inl (0, 600, .inl (fun _ => 0)))] mi_X0_11 (c_X5_init_121 rfl) rfl dX0_init_12 (Nat.le_of_ble_eq_true rfl) (Nat.le_of_ble_eq_true rfl) rfl (Nat.le_of_ble_eq_true rfl) (Nat.le_of_ble_eq_true rfl) (Nat.le_of_ble_eq_true rfl) rfl ?_
  refine ao_putF C [(172, .inr (5, [.ref 173, .int 0])), (173, .inl (0, 600, .inl (fun _ => 0))), (171, .inr (0, [.ref 172, .null, .null, .int 0]))] gf_X0_14 cf0 fi0_0 hnm h171 (Nat.le_of_ble_eq_true rfl) rfl rfl dX0_init_15 rfl ?_
  refine aw_ald_n C dX0_init_18 rfl ?_
  refine ao_new C [(172, .inr (5, [.ref 173, .int 0])), (173, .inl (0, 600, .inl (fun _ => 0))), (171, .inr (0, [.ref 172, .null, .null, .int 0])), (174, .inr (5, [.null, .int 0]))] nw_X0_9 (Nat.le_of_ble_eq_true rfl) (Nat.le_of_ble_eq_true rfl) dX0_init_19 rfl ?_
  refine aw_dup C dX0_init_22 rfl ?_
  refine aw_sipush C 540 dX0_init_23 ks_540 ?_
  refine ao_callI C [.int 540] [(172, .inr (5, [.ref 173, .int 0])), (173, .inl (0, 600, .inl (fun _ => 0))), (171, .inr (0, [.ref 172, .null, .null, .int 0])), (174, .inr (5, [.ref 175, .int 0])), (175, .inl (0, 540, .inl (fun _ => 0)))] mi_X0_11 (c_X5_init_122 rfl) rfl dX0_init_26 (Nat.le_of_ble_eq_true rfl) (Nat.le_of_ble_eq_true rfl) rfl (Nat.le_of_ble_eq_true rfl) (Nat.le_of_ble_eq_true rfl) (Nat.le_of_ble_eq_true rfl) rfl ?_
  refine ao_putF C [(172, .inr (5, [.ref 173, .int 0])), (173, .inl (0, 600, .inl (fun _ => 0))), (171, .inr (0, [.ref 172, .ref 174, .null, .int 0])), (174, .inr (5, [.ref 175, .int 0])), (175, .inl (0, 540, .inl (fun _ => 0)))] gf_X0_20 cf0 fi0_1 hnm rfl (Nat.le_of_ble_eq_true rfl) rfl rfl dX0_init_29 rfl ?_
  refine aw_ald_n C dX0_init_32 rfl ?_
  refine ao_new C [(172, .inr (5, [.ref 173, .int 0])), (173, .inl (0, 600, .inl (fun _ => 0))), (171, .inr (0, [.ref 172, .ref 174, .null, .int 0])), (174, .inr (5, [.ref 175, .int 0])), (175, .inl (0, 540, .inl (fun _ => 0))), (176, .inr (5, [.null, .int 0]))] nw_X0_9 (Nat.le_of_ble_eq_true rfl) (Nat.le_of_ble_eq_true rfl) dX0_init_33 rfl ?_
  refine aw_dup C dX0_init_36 rfl ?_
  refine aw_sipush C 540 dX0_init_37 ks_540 ?_
  refine ao_callI C [.int 540] [(172, .inr (5, [.ref 173, .int 0])), (173, .inl (0, 600, .inl (fun _ => 0))), (171, .inr (0, [.ref 172, .ref 174, .null, .int 0])), (174, .inr (5, [.ref 175, .int 0])), (175, .inl (0, 540, .inl (fun _ => 0))), (176, .inr (5, [.ref 177, .int 0])), (177, .inl (0, 540, .inl (fun _ => 0)))] mi_X0_11 (c_X5_init_123 rfl) rfl dX0_init_40 (Nat.le_of_ble_eq_true rfl) (Nat.le_of_ble_eq_true rfl) rfl (Nat.le_of_ble_eq_true rfl) (Nat.le_of_ble_eq_true rfl) (Nat.le_of_ble_eq_true rfl) rfl ?_
  refine ao_putF C [(172, .inr (5, [.ref 173, .int 0])), (173, .inl (0, 600, .inl (fun _ => 0))), (171, .inr (0, [.ref 172, .ref 174, .ref 176, .int 0])), (174, .inr (5, [.ref 175, .int 0])), (175, .inl (0, 540, .inl (fun _ => 0))), (176, .inr (5, [.ref 177, .int 0])), (177, .inl (0, 540, .inl (fun _ => 0)))] gf_X0_23 cf0 fi0_2 hnm rfl (Nat.le_of_ble_eq_true rfl) rfl rfl dX0_init_43 rfl ?_
  exact aw_vret C rfl dX0_init_46 (Nat.le_of_ble_eq_true rfl) (Nat.le_of_ble_eq_true rfl) ⟨rfl, rfl, rfl⟩

set_option maxHeartbeats 4000000 in
set_option maxRecDepth 100000 in
theorem c_X5_init_125 {X : GX} {l : Launch} {f : AH} (h179 : f 179 = some (.inr (5, [.null, .int 0]))) : AM X l yX5_init cX5_init 2 none 1 1 0 [.ref 179, .int 0] f 180 (EXO f [(180, .inl (0, 0, .inl (fun _ => 0))), (179, .inr (5, [.ref 180, .int 0]))] none 181) := by
  refine AM.of (by decide +kernel) rfl (by decide) (fun p e s m args below meth c C hnm => ?_)
  refine ao_start ?_
  refine aw_nl [some (.ref 179), some (.int 0)] rfl ?_
  refine aw_ald_n C dX5_init_0 rfl ?_
  refine aw_oinit C oi_X5_3 oi2 oi3 dX5_init_1 (Nat.le_of_ble_eq_true rfl) (Nat.le_of_ble_eq_true rfl) ?_
  refine aw_ald_n C dX5_init_4 rfl ?_
  refine aw_iload_n C dX5_init_5 rfl ?_
  refine aw_if_le C 13 dX5_init_6 (by decide) (fun _ => ?_) (fun q => absurd (by decide) q)
  refine aw_iconst C 0 dX5_init_13 ki_0 ?_
  refine ao_newi C 0 [(180, .inl (0, 0, .inl (fun _ => 0)))] (by decide) (by decide) (Nat.le_of_ble_eq_true rfl) (Nat.le_of_ble_eq_true rfl) (Nat.le_of_ble_eq_true rfl) dX5_init_14 rfl ?_
  refine ao_putF C [(180, .inl (0, 0, .inl (fun _ => 0))), (179, .inr (5, [.ref 180, .int 0]))] gf_X5_9 cf5 fi5_0 hnm h179 (Nat.le_of_ble_eq_true rfl) rfl rfl dX5_init_16 rfl ?_
  exact aw_vret C rfl dX5_init_19 (Nat.le_of_ble_eq_true rfl) (Nat.le_of_ble_eq_true rfl) ⟨rfl, rfl, rfl⟩

set_option maxHeartbeats 4000000 in
set_option maxRecDepth 100000 in
theorem c_X4_init_126 {X : GX} {l : Launch} {f : AH} (h178 : f 178 = some (.inr (4, [.int 0, .int 0, .int 0, .int 0, .int 0, .null, .int 0, .null]))) : AM X l yX4_init cX4_init 1 none 2 2 2 [.ref 178] f 179 (EXO f [(179, .inr (5, [.ref 180, .int 0])), (180, .inl (0, 0, .inl (fun _ => 0))), (178, .inr (4, [.int 0, .int 0, .int 0, .int 0, .int 0, .null, .int 0, .ref 179]))] none 181) := by
  refine AM.of (by decide +kernel) rfl (by decide) (fun p e s m args below meth c C hnm => ?_)
  refine ao_start ?_
  refine aw_nl [some (.ref 178)] rfl ?_
  refine aw_ald_n C dX4_init_0 rfl ?_
  refine aw_oinit C oi_X4_3 oi2 oi3 dX4_init_1 (Nat.le_of_ble_eq_true rfl) (Nat.le_of_ble_eq_true rfl) ?_
  refine aw_ald_n C dX4_init_4 rfl ?_
  refine ao_new C [(179, .inr (5, [.null, .int 0]))] nw_X4_9 (Nat.le_of_ble_eq_true rfl) (Nat.le_of_ble_eq_true rfl) dX4_init_5 rfl ?_
  refine aw_dup C dX4_init_8 rfl ?_
  refine aw_iconst C 0 dX4_init_9 ki_0 ?_
  refine ao_callI C [.int 0] [(179, .inr (5, [.ref 180, .int 0])), (180, .inl (0, 0, .inl (fun _ => 0)))] mi_X4_11 (c_X5_init_125 rfl) rfl dX4_init_10 (Nat.le_of_ble_eq_true rfl) (Nat.le_of_ble_eq_true rfl) rfl (Nat.le_of_ble_eq_true rfl) (Nat.le_of_ble_eq_true rfl) (Nat.le_of_ble_eq_true rfl) rfl ?_
  refine ao_put C [(179, .inr (5, [.ref 180, .int 0])), (180, .inl (0, 0, .inl (fun _ => 0))), (178, .inr (4, [.int 0, .int 0, .int 0, .int 0, .int 0, .null, .int 0, .ref 179]))] gf_X4_14 cf4 nf4_7 h178 (Nat.le_of_ble_eq_true rfl) rfl rfl dX4_init_13 rfl ?_
  exact aw_vret C rfl dX4_init_16 (Nat.le_of_ble_eq_true rfl) (Nat.le_of_ble_eq_true rfl) ⟨rfl, rfl, rfl⟩

