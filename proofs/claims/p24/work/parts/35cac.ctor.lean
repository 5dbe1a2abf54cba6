set_option maxHeartbeats 4000000 in
set_option maxRecDepth 100000 in
theorem c_X5_init_72 {X : GX} {l : Launch} {f : AH} (h116 : f 116 = some (.inr (5, [.null, .int 0]))) : AM X l yX5_init cX5_init 2 none 1 1 600 [.ref 116, .int 600] f 117 (EXO f [(117, .inl (0, 600, .inl (fun _ => 0))), (116, .inr (5, [.ref 117, .int 0]))] none 118) := by
  refine AM.of (by decide +kernel) rfl (by decide) (fun p e s m args below meth c C hnm => ?_)
  refine ao_start ?_
  refine aw_nl [some (.ref 116), some (.int 600)] rfl ?_
  refine aw_ald_n C dX5_init_0 rfl ?_
  refine aw_oinit C oi_X5_3 oi2 oi3 dX5_init_1 (Nat.le_of_ble_eq_true rfl) (Nat.le_of_ble_eq_true rfl) ?_
  refine aw_ald_n C dX5_init_4 rfl ?_
  refine aw_iload_n C dX5_init_5 rfl ?_
  refine aw_if_le C 13 dX5_init_6 (by decide) (fun q => absurd q (by decide)) (fun _ => ?_)
  refine aw_iload_n C dX5_init_9 rfl ?_
  refine aw_goto C 14 dX5_init_10 (by decide) ?_
  refine ao_newi C 600 [(117, .inl (0, 600, .inl (fun _ => 0)))] (by decide) (by decide) (Nat.le_of_ble_eq_true rfl) (Nat.le_of_ble_eq_true rfl) (Nat.le_of_ble_eq_true rfl) dX5_init_14 rfl ?_
  refine ao_putF C [(117, .inl (0, 600, .inl (fun _ => 0))), (116, .inr (5, [.ref 117, .int 0]))] gf_X5_9 cf5 fi5_0 hnm h116 (Nat.le_of_ble_eq_true rfl) rfl rfl dX5_init_16 rfl ?_
  exact aw_vret C rfl dX5_init_19 (Nat.le_of_ble_eq_true rfl) (Nat.le_of_ble_eq_true rfl) ⟨rfl, rfl, rfl⟩

set_option maxHeartbeats 4000000 in
set_option maxRecDepth 100000 in
theorem c_X5_init_73 {X : GX} {l : Launch} {f : AH} (h118 : f 118 = some (.inr (5, [.null, .int 0]))) : AM X l yX5_init cX5_init 2 none 1 1 600 [.ref 118, .int 600] f 119 (EXO f [(119, .inl (0, 600, .inl (fun _ => 0))), (118, .inr (5, [.ref 119, .int 0]))] none 120) := by
  refine AM.of (by decide +kernel) rfl (by decide) (fun p e s m args below meth c C hnm => ?_)
  refine ao_start ?_
  refine aw_nl [some (.ref 118), some (.int 600)] rfl ?_
  refine aw_ald_n C dX5_init_0 rfl ?_
  refine aw_oinit C oi_X5_3 oi2 oi3 dX5_init_1 (Nat.le_of_ble_eq_true rfl) (Nat.le_of_ble_eq_true rfl) ?_
  refine aw_ald_n C dX5_init_4 rfl ?_
  refine aw_iload_n C dX5_init_5 rfl ?_
  refine aw_if_le C 13 dX5_init_6 (by decide) (fun q => absurd q (by decide)) (fun _ => ?_)
  refine aw_iload_n C dX5_init_9 rfl ?_
  refine aw_goto C 14 dX5_init_10 (by decide) ?_
  refine ao_newi C 600 [(119, .inl (0, 600, .inl (fun _ => 0)))] (by decide) (by decide) (Nat.le_of_ble_eq_true rfl) (Nat.le_of_ble_eq_true rfl) (Nat.le_of_ble_eq_true rfl) dX5_init_14 rfl ?_
  refine ao_putF C [(119, .inl (0, 600, .inl (fun _ => 0))), (118, .inr (5, [.ref 119, .int 0]))] gf_X5_9 cf5 fi5_0 hnm h118 (Nat.le_of_ble_eq_true rfl) rfl rfl dX5_init_16 rfl ?_
  exact aw_vret C rfl dX5_init_19 (Nat.le_of_ble_eq_true rfl) (Nat.le_of_ble_eq_true rfl) ⟨rfl, rfl, rfl⟩

set_option maxHeartbeats 4000000 in
set_option maxRecDepth 100000 in
theorem c_X5_init_74 {X : GX} {l : Launch} {f : AH} (h120 : f 120 = some (.inr (5, [.null, .int 0]))) : AM X l yX5_init cX5_init 2 none 1 1 600 [.ref 120, .int 600] f 121 (EXO f [(121, .inl (0, 600, .inl (fun _ => 0))), (120, .inr (5, [.ref 121, .int 0]))] none 122) := by
  refine AM.of (by decide +kernel) rfl (by decide) (fun p e s m args below meth c C hnm => ?_)
  refine ao_start ?_
  refine aw_nl [some (.ref 120), some (.int 600)] rfl ?_
  refine aw_ald_n C dX5_init_0 rfl ?_
  refine aw_oinit C oi_X5_3 oi2 oi3 dX5_init_1 (Nat.le_of_ble_eq_true rfl) (Nat.le_of_ble_eq_true rfl) ?_
  refine aw_ald_n C dX5_init_4 rfl ?_
  refine aw_iload_n C dX5_init_5 rfl ?_
  refine aw_if_le C 13 dX5_init_6 (by decide) (fun q => absurd q (by decide)) (fun _ => ?_)
  refine aw_iload_n C dX5_init_9 rfl ?_
  refine aw_goto C 14 dX5_init_10 (by decide) ?_
  refine ao_newi C 600 [(121, .inl (0, 600, .inl (fun _ => 0)))] (by decide) (by decide) (Nat.le_of_ble_eq_true rfl) (Nat.le_of_ble_eq_true rfl) (Nat.le_of_ble_eq_true rfl) dX5_init_14 rfl ?_
  refine ao_putF C [(121, .inl (0, 600, .inl (fun _ => 0))), (120, .inr (5, [.ref 121, .int 0]))] gf_X5_9 cf5 fi5_0 hnm h120 (Nat.le_of_ble_eq_true rfl) rfl rfl dX5_init_16 rfl ?_
  exact aw_vret C rfl dX5_init_19 (Nat.le_of_ble_eq_true rfl) (Nat.le_of_ble_eq_true rfl) ⟨rfl, rfl, rfl⟩

set_option maxHeartbeats 4000000 in
set_option maxRecDepth 100000 in
theorem c_X5_init_75 {X : GX} {l : Launch} {f : AH} (h122 : f 122 = some (.inr (5, [.null, .int 0]))) : AM X l yX5_init cX5_init 2 none 1 1 600 [.ref 122, .int 600] f 123 (EXO f [(123, .inl (0, 600, .inl (fun _ => 0))), (122, .inr (5, [.ref 123, .int 0]))] none 124) := by
  refine AM.of (by decide +kernel) rfl (by decide) (fun p e s m args below meth c C hnm => ?_)
  refine ao_start ?_
  refine aw_nl [some (.ref 122), some (.int 600)] rfl ?_
  refine aw_ald_n C dX5_init_0 rfl ?_
  refine aw_oinit C oi_X5_3 oi2 oi3 dX5_init_1 (Nat.le_of_ble_eq_true rfl) (Nat.le_of_ble_eq_true rfl) ?_
  refine aw_ald_n C dX5_init_4 rfl ?_
  refine aw_iload_n C dX5_init_5 rfl ?_
  refine aw_if_le C 13 dX5_init_6 (by decide) (fun q => absurd q (by decide)) (fun _ => ?_)
  refine aw_iload_n C dX5_init_9 rfl ?_
  refine aw_goto C 14 dX5_init_10 (by decide) ?_
  refine ao_newi C 600 [(123, .inl (0, 600, .inl (fun _ => 0)))] (by decide) (by decide) (Nat.le_of_ble_eq_true rfl) (Nat.le_of_ble_eq_true rfl) (Nat.le_of_ble_eq_true rfl) dX5_init_14 rfl ?_
  refine ao_putF C [(123, .inl (0, 600, .inl (fun _ => 0))), (122, .inr (5, [.ref 123, .int 0]))] gf_X5_9 cf5 fi5_0 hnm h122 (Nat.le_of_ble_eq_true rfl) rfl rfl dX5_init_16 rfl ?_
  exact aw_vret C rfl dX5_init_19 (Nat.le_of_ble_eq_true rfl) (Nat.le_of_ble_eq_true rfl) ⟨rfl, rfl, rfl⟩

set_option maxHeartbeats 4000000 in
set_option maxRecDepth 100000 in
theorem c_X5_init_76 {X : GX} {l : Launch} {f : AH} (h125 : f 125 = some (.inr (5, [.null, .int 0]))) : AM X l yX5_init cX5_init 2 none 1 1 0 [.ref 125, .int 0] f 126 (EXO f [(126, .inl (0, 0, .inl (fun _ => 0))), (125, .inr (5, [.ref 126, .int 0]))] none 127) := by
  refine AM.of (by decide +kernel) rfl (by decide) (fun p e s m args below meth c C hnm => ?_)
  refine ao_start ?_
  refine aw_nl [some (.ref 125), some (.int 0)] rfl ?_
  refine aw_ald_n C dX5_init_0 rfl ?_
  refine aw_oinit C oi_X5_3 oi2 oi3 dX5_init_1 (Nat.le_of_ble_eq_true rfl) (Nat.le_of_ble_eq_true rfl) ?_
  refine aw_ald_n C dX5_init_4 rfl ?_
  refine aw_iload_n C dX5_init_5 rfl ?_
  refine aw_if_le C 13 dX5_init_6 (by decide) (fun _ => ?_) (fun q => absurd (by decide) q)
  refine aw_iconst C 0 dX5_init_13 ki_0 ?_
  refine ao_newi C 0 [(126, .inl (0, 0, .inl (fun _ => 0)))] (by decide) (by decide) (Nat.le_of_ble_eq_true rfl) (Nat.le_of_ble_eq_true rfl) (Nat.le_of_ble_eq_true rfl) dX5_init_14 rfl ?_
  refine ao_putF C [(126, .inl (0, 0, .inl (fun _ => 0))), (125, .inr (5, [.ref 126, .int 0]))] gf_X5_9 cf5 fi5_0 hnm h125 (Nat.le_of_ble_eq_true rfl) rfl rfl dX5_init_16 rfl ?_
  exact aw_vret C rfl dX5_init_19 (Nat.le_of_ble_eq_true rfl) (Nat.le_of_ble_eq_true rfl) ⟨rfl, rfl, rfl⟩

set_option maxHeartbeats 4000000 in
set_option maxRecDepth 100000 in
theorem c_X6_init_77 {X : GX} {l : Launch} {f : AH} (h124 : f 124 = some (.inr (6, [.null, .int 0, .int 0, .int 0, .int 0, .int 0, .int 0, .int 0, .int 0, .int 0]))) : AM X l yX6_init cX6_init 1 none 2 2 2 [.ref 124] f 125 (EXO f [(125, .inr (5, [.ref 126, .int 0])), (126, .inl (0, 0, .inl (fun _ => 0))), (124, .inr (6, [.ref 125, .int 0, .int 0, .int 0, .int 0, .int 0, .int 0, .int 0, .int 0, .int 0]))] none 127) := by
  refine AM.of (by decide +kernel) rfl (by decide) (fun p e s m args below meth c C hnm => ?_)
  refine ao_start ?_
  refine aw_nl [some (.ref 124)] rfl ?_
  refine aw_ald_n C dX6_init_0 rfl ?_
  refine aw_oinit C oi_X6_3 oi2 oi3 dX6_init_1 (Nat.le_of_ble_eq_true rfl) (Nat.le_of_ble_eq_true rfl) ?_
  refine aw_ald_n C dX6_init_4 rfl ?_
  refine ao_new C [(125, .inr (5, [.null, .int 0]))] nw_X6_9 (Nat.le_of_ble_eq_true rfl) (Nat.le_of_ble_eq_true rfl) dX6_init_5 rfl ?_
  refine aw_dup C dX6_init_8 rfl ?_
  refine aw_iconst C 0 dX6_init_9 ki_0 ?_
  refine ao_callI C [.int 0] [(125, .inr (5, [.ref 126, .int 0])), (126, .inl (0, 0, .inl (fun _ => 0)))] mi_X6_11 (c_X5_init_76 rfl) rfl dX6_init_10 (Nat.le_of_ble_eq_true rfl) (Nat.le_of_ble_eq_true rfl) rfl (Nat.le_of_ble_eq_true rfl) (Nat.le_of_ble_eq_true rfl) (Nat.le_of_ble_eq_true rfl) rfl ?_
  refine ao_put C [(125, .inr (5, [.ref 126, .int 0])), (126, .inl (0, 0, .inl (fun _ => 0))), (124, .inr (6, [.ref 125, .int 0, .int 0, .int 0, .int 0, .int 0, .int 0, .int 0, .int 0, .int 0]))] gf_X6_14 cf6 nf6_0 h124 (Nat.le_of_ble_eq_true rfl) rfl rfl dX6_init_13 rfl ?_
  exact aw_vret C rfl dX6_init_16 (Nat.le_of_ble_eq_true rfl) (Nat.le_of_ble_eq_true rfl) ⟨rfl, rfl, rfl⟩

set_option maxHeartbeats 4000000 in
set_option maxRecDepth 100000 in
theorem c_X5_init_78 {X : GX} {l : Launch} {f : AH} (h128 : f 128 = some (.inr (5, [.null, .int 0]))) : AM X l yX5_init cX5_init 2 none 1 1 0 [.ref 128, .int 0] f 129 (EXO f [(129, .inl (0, 0, .inl (fun _ => 0))), (128, .inr (5, [.ref 129, .int 0]))] none 130) := by
  refine AM.of (by decide +kernel) rfl (by decide) (fun p e s m args below meth c C hnm => ?_)
  refine ao_start ?_
  refine aw_nl [some (.ref 128), some (.int 0)] rfl ?_
  refine aw_ald_n C dX5_init_0 rfl ?_
  refine aw_oinit C oi_X5_3 oi2 oi3 dX5_init_1 (Nat.le_of_ble_eq_true rfl) (Nat.le_of_ble_eq_true rfl) ?_
  refine aw_ald_n C dX5_init_4 rfl ?_
  refine aw_iload_n C dX5_init_5 rfl ?_
  refine aw_if_le C 13 dX5_init_6 (by decide) (fun _ => ?_) (fun q => absurd (by decide) q)
  refine aw_iconst C 0 dX5_init_13 ki_0 ?_
  refine ao_newi C 0 [(129, .inl (0, 0, .inl (fun _ => 0)))] (by decide) (by decide) (Nat.le_of_ble_eq_true rfl) (Nat.le_of_ble_eq_true rfl) (Nat.le_of_ble_eq_true rfl) dX5_init_14 rfl ?_
  refine ao_putF C [(129, .inl (0, 0, .inl (fun _ => 0))), (128, .inr (5, [.ref 129, .int 0]))] gf_X5_9 cf5 fi5_0 hnm h128 (Nat.le_of_ble_eq_true rfl) rfl rfl dX5_init_16 rfl ?_
  exact aw_vret C rfl dX5_init_19 (Nat.le_of_ble_eq_true rfl) (Nat.le_of_ble_eq_true rfl) ⟨rfl, rfl, rfl⟩

set_option maxHeartbeats 4000000 in
set_option maxRecDepth 100000 in
theorem c_X6_init_79 {X : GX} {l : Launch} {f : AH} (h127 : f 127 = some (.inr (6, [.null, .int 0, .int 0, .int 0, .int 0, .int 0, .int 0, .int 0, .int 0, .int 0]))) : AM X l yX6_init cX6_init 1 none 2 2 2 [.ref 127] f 128 (EXO f [(128, .inr (5, [.ref 129, .int 0])), (129, .inl (0, 0, .inl (fun _ => 0))), (127, .inr (6, [.ref 128, .int 0, .int 0, .int 0, .int 0, .int 0, .int 0, .int 0, .int 0, .int 0]))] none 130) := by
  refine AM.of (by decide +kernel) rfl (by decide) (fun p e s m args below meth c C hnm => ?_)
  refine ao_start ?_
  refine aw_nl [some (.ref 127)] rfl ?_
  refine aw_ald_n C dX6_init_0 rfl ?_
  refine aw_oinit C oi_X6_3 oi2 oi3 dX6_init_1 (Nat.le_of_ble_eq_true rfl) (Nat.le_of_ble_eq_true rfl) ?_
  refine aw_ald_n C dX6_init_4 rfl ?_
  refine ao_new C [(128, .inr (5, [.null, .int 0]))] nw_X6_9 (Nat.le_of_ble_eq_true rfl) (Nat.le_of_ble_eq_true rfl) dX6_init_5 rfl ?_
  refine aw_dup C dX6_init_8 rfl ?_
  refine aw_iconst C 0 dX6_init_9 ki_0 ?_
  refine ao_callI C [.int 0] [(128, .inr (5, [.ref 129, .int 0])), (129, .inl (0, 0, .inl (fun _ => 0)))] mi_X6_11 (c_X5_init_78 rfl) rfl dX6_init_10 (Nat.le_of_ble_eq_true rfl) (Nat.le_of_ble_eq_true rfl) rfl (Nat.le_of_ble_eq_true rfl) (Nat.le_of_ble_eq_true rfl) (Nat.le_of_ble_eq_true rfl) rfl ?_
  refine ao_put C [(128, .inr (5, [.ref 129, .int 0])), (129, .inl (0, 0, .inl (fun _ => 0))), (127, .inr (6, [.ref 128, .int 0, .int 0, .int 0, .int 0, .int 0, .int 0, .int 0, .int 0, .int 0]))] gf_X6_14 cf6 nf6_0 h127 (Nat.le_of_ble_eq_true rfl) rfl rfl dX6_init_13 rfl ?_
  exact aw_vret C rfl dX6_init_16 (Nat.le_of_ble_eq_true rfl) (Nat.le_of_ble_eq_true rfl) ⟨rfl, rfl, rfl⟩

set_option maxHeartbeats 4000000 in
set_option maxRecDepth 100000 in
theorem c_X3_init_80 {X : GX} {l : Launch} {f : AH} {n : Nat} : AM X l yX3_init cX3_init 1 none 1 0 0 [.ref 131] f n (EXO f [] none n) := by
  refine AM.of (by decide +kernel) rfl (by decide) (fun p e s m args below meth c C hnm => ?_)
  refine ao_start ?_
  refine aw_nl [some (.ref 131)] rfl ?_
  refine aw_ald_n C dX3_init_0 rfl ?_
  refine aw_oinit C oi_X3_1 oi2 oi3 dX3_init_1 (Nat.le_of_ble_eq_true rfl) (Nat.le_of_ble_eq_true rfl) ?_
  exact aw_vret C rfl dX3_init_4 (Nat.le_of_ble_eq_true rfl) (Nat.le_of_ble_eq_true rfl) ⟨rfl, rfl, rfl⟩

set_option maxHeartbeats 4000000 in
set_option maxRecDepth 100000 in
theorem c_X3_init_81 {X : GX} {l : Launch} {f : AH} {n : Nat} : AM X l yX3_init cX3_init 1 none 1 0 0 [.ref 132] f n (EXO f [] none n) := by
  refine AM.of (by decide +kernel) rfl (by decide) (fun p e s m args below meth c C hnm => ?_)
  refine ao_start ?_
  refine aw_nl [some (.ref 132)] rfl ?_
  refine aw_ald_n C dX3_init_0 rfl ?_
  refine aw_oinit C oi_X3_1 oi2 oi3 dX3_init_1 (Nat.le_of_ble_eq_true rfl) (Nat.le_of_ble_eq_true rfl) ?_
  exact aw_vret C rfl dX3_init_4 (Nat.le_of_ble_eq_true rfl) (Nat.le_of_ble_eq_true rfl) ⟨rfl, rfl, rfl⟩

set_option maxHeartbeats 4000000 in
set_option maxRecDepth 100000 in
theorem c_X3_init_82 {X : GX} {l : Launch} {f : AH} {n : Nat} : AM X l yX3_init cX3_init 1 none 1 0 0 [.ref 133] f n (EXO f [] none n) := by
  refine AM.of (by decide +kernel) rfl (by decide) (fun p e s m args below meth c C hnm => ?_)
  refine ao_start ?_
  refine aw_nl [some (.ref 133)] rfl ?_
  refine aw_ald_n C dX3_init_0 rfl ?_
  refine aw_oinit C oi_X3_1 oi2 oi3 dX3_init_1 (Nat.le_of_ble_eq_true rfl) (Nat.le_of_ble_eq_true rfl) ?_
  exact aw_vret C rfl dX3_init_4 (Nat.le_of_ble_eq_true rfl) (Nat.le_of_ble_eq_true rfl) ⟨rfl, rfl, rfl⟩

set_option maxHeartbeats 4000000 in
set_option maxRecDepth 100000 in
theorem c_X3_init_83 {X : GX} {l : Launch} {f : AH} {n : Nat} : AM X l yX3_init cX3_init 1 none 1 0 0 [.ref 134] f n (EXO f [] none n) := by
  refine AM.of (by decide +kernel) rfl (by decide) (fun p e s m args below meth c C hnm => ?_)
  refine ao_start ?_
  refine aw_nl [some (.ref 134)] rfl ?_
  refine aw_ald_n C dX3_init_0 rfl ?_
  refine aw_oinit C oi_X3_1 oi2 oi3 dX3_init_1 (Nat.le_of_ble_eq_true rfl) (Nat.le_of_ble_eq_true rfl) ?_
  exact aw_vret C rfl dX3_init_4 (Nat.le_of_ble_eq_true rfl) (Nat.le_of_ble_eq_true rfl) ⟨rfl, rfl, rfl⟩

set_option maxHeartbeats 4000000 in
set_option maxRecDepth 100000 in
theorem c_X3_init_84 {X : GX} {l : Launch} {f : AH} {n : Nat} : AM X l yX3_init cX3_init 1 none 1 0 0 [.ref 135] f n (EXO f [] none n) := by
  refine AM.of (by decide +kernel) rfl (by decide) (fun p e s m args below meth c C hnm => ?_)
  refine ao_start ?_
  refine aw_nl [some (.ref 135)] rfl ?_
  refine aw_ald_n C dX3_init_0 rfl ?_
  refine aw_oinit C oi_X3_1 oi2 oi3 dX3_init_1 (Nat.le_of_ble_eq_true rfl) (Nat.le_of_ble_eq_true rfl) ?_
  exact aw_vret C rfl dX3_init_4 (Nat.le_of_ble_eq_true rfl) (Nat.le_of_ble_eq_true rfl) ⟨rfl, rfl, rfl⟩

set_option maxHeartbeats 4000000 in
set_option maxRecDepth 100000 in
theorem c_X3_init_85 {X : GX} {l : Launch} {f : AH} {n : Nat} : AM X l yX3_init cX3_init 1 none 1 0 0 [.ref 136] f n (EXO f [] none n) := by
  refine AM.of (by decide +kernel) rfl (by decide) (fun p e s m args below meth c C hnm => ?_)
  refine ao_start ?_
  refine aw_nl [some (.ref 136)] rfl ?_
  refine aw_ald_n C dX3_init_0 rfl ?_
  refine aw_oinit C oi_X3_1 oi2 oi3 dX3_init_1 (Nat.le_of_ble_eq_true rfl) (Nat.le_of_ble_eq_true rfl) ?_
  exact aw_vret C rfl dX3_init_4 (Nat.le_of_ble_eq_true rfl) (Nat.le_of_ble_eq_true rfl) ⟨rfl, rfl, rfl⟩

set_option maxHeartbeats 4000000 in
set_option maxRecDepth 100000 in
theorem c_X3_init_86 {X : GX} {l : Launch} {f : AH} {n : Nat} : AM X l yX3_init cX3_init 1 none 1 0 0 [.ref 137] f n (EXO f [] none n) := by
  refine AM.of (by decide +kernel) rfl (by decide) (fun p e s m args below meth c C hnm => ?_)
  refine ao_start ?_
  refine aw_nl [some (.ref 137)] rfl ?_
  refine aw_ald_n C dX3_init_0 rfl ?_
  refine aw_oinit C oi_X3_1 oi2 oi3 dX3_init_1 (Nat.le_of_ble_eq_true rfl) (Nat.le_of_ble_eq_true rfl) ?_
  exact aw_vret C rfl dX3_init_4 (Nat.le_of_ble_eq_true rfl) (Nat.le_of_ble_eq_true rfl) ⟨rfl, rfl, rfl⟩

set_option maxHeartbeats 4000000 in
set_option maxRecDepth 100000 in
theorem c_X3_init_87 {X : GX} {l : Launch} {f : AH} {n : Nat} : AM X l yX3_init cX3_init 1 none 1 0 0 [.ref 138] f n (EXO f [] none n) := by
  refine AM.of (by decide +kernel) rfl (by decide) (fun p e s m args below meth c C hnm => ?_)
  refine ao_start ?_
  refine aw_nl [some (.ref 138)] rfl ?_
  refine aw_ald_n C dX3_init_0 rfl ?_
  refine aw_oinit C oi_X3_1 oi2 oi3 dX3_init_1 (Nat.le_of_ble_eq_true rfl) (Nat.le_of_ble_eq_true rfl) ?_
  exact aw_vret C rfl dX3_init_4 (Nat.le_of_ble_eq_true rfl) (Nat.le_of_ble_eq_true rfl) ⟨rfl, rfl, rfl⟩

set_option maxHeartbeats 4000000 in
set_option maxRecDepth 100000 in
theorem c_X3_init_88 {X : GX} {l : Launch} {f : AH} {n : Nat} : AM X l yX3_init cX3_init 1 none 1 0 0 [.ref 139] f n (EXO f [] none n) := by
  refine AM.of (by decide +kernel) rfl (by decide) (fun p e s m args below meth c C hnm => ?_)
  refine ao_start ?_
  refine aw_nl [some (.ref 139)] rfl ?_
  refine aw_ald_n C dX3_init_0 rfl ?_
  refine aw_oinit C oi_X3_1 oi2 oi3 dX3_init_1 (Nat.le_of_ble_eq_true rfl) (Nat.le_of_ble_eq_true rfl) ?_
  exact aw_vret C rfl dX3_init_4 (Nat.le_of_ble_eq_true rfl) (Nat.le_of_ble_eq_true rfl) ⟨rfl, rfl, rfl⟩

set_option maxHeartbeats 4000000 in
set_option maxRecDepth 100000 in
theorem c_X3_init_89 {X : GX} {l : Launch} {f : AH} {n : Nat} : AM X l yX3_init cX3_init 1 none 1 0 0 [.ref 140] f n (EXO f [] none n) := by
  refine AM.of (by decide +kernel) rfl (by decide) (fun p e s m args below meth c C hnm => ?_)
  refine ao_start ?_
  refine aw_nl [some (.ref 140)] rfl ?_
  refine aw_ald_n C dX3_init_0 rfl ?_
  refine aw_oinit C oi_X3_1 oi2 oi3 dX3_init_1 (Nat.le_of_ble_eq_true rfl) (Nat.le_of_ble_eq_true rfl) ?_
  exact aw_vret C rfl dX3_init_4 (Nat.le_of_ble_eq_true rfl) (Nat.le_of_ble_eq_true rfl) ⟨rfl, rfl, rfl⟩

set_option maxHeartbeats 4000000 in
set_option maxRecDepth 100000 in
theorem c_X3_init_90 {X : GX} {l : Launch} {f : AH} {n : Nat} : AM X l yX3_init cX3_init 1 none 1 0 0 [.ref 141] f n (EXO f [] none n) := by
  refine AM.of (by decide +kernel) rfl (by decide) (fun p e s m args below meth c C hnm => ?_)
  refine ao_start ?_
  refine aw_nl [some (.ref 141)] rfl ?_
  refine aw_ald_n C dX3_init_0 rfl ?_
  refine aw_oinit C oi_X3_1 oi2 oi3 dX3_init_1 (Nat.le_of_ble_eq_true rfl) (Nat.le_of_ble_eq_true rfl) ?_
  exact aw_vret C rfl dX3_init_4 (Nat.le_of_ble_eq_true rfl) (Nat.le_of_ble_eq_true rfl) ⟨rfl, rfl, rfl⟩

set_option maxHeartbeats 4000000 in
set_option maxRecDepth 100000 in
theorem c_X3_init_91 {X : GX} {l : Launch} {f : AH} {n : Nat} : AM X l yX3_init cX3_init 1 none 1 0 0 [.ref 142] f n (EXO f [] none n) := by
  refine AM.of (by decide +kernel) rfl (by decide) (fun p e s m args below meth c C hnm => ?_)
  refine ao_start ?_
  refine aw_nl [some (.ref 142)] rfl ?_
  refine aw_ald_n C dX3_init_0 rfl ?_
  refine aw_oinit C oi_X3_1 oi2 oi3 dX3_init_1 (Nat.le_of_ble_eq_true rfl) (Nat.le_of_ble_eq_true rfl) ?_
  exact aw_vret C rfl dX3_init_4 (Nat.le_of_ble_eq_true rfl) (Nat.le_of_ble_eq_true rfl) ⟨rfl, rfl, rfl⟩

set_option maxHeartbeats 4000000 in
set_option maxRecDepth 100000 in
theorem c_X3_init_92 {X : GX} {l : Launch} {f : AH} {n : Nat} : AM X l yX3_init cX3_init 1 none 1 0 0 [.ref 143] f n (EXO f [] none n) := by
  refine AM.of (by decide +kernel) rfl (by decide) (fun p e s m args below meth c C hnm => ?_)
  refine ao_start ?_
  refine aw_nl [some (.ref 143)] rfl ?_
  refine aw_ald_n C dX3_init_0 rfl ?_
  refine aw_oinit C oi_X3_1 oi2 oi3 dX3_init_1 (Nat.le_of_ble_eq_true rfl) (Nat.le_of_ble_eq_true rfl) ?_
  exact aw_vret C rfl dX3_init_4 (Nat.le_of_ble_eq_true rfl) (Nat.le_of_ble_eq_true rfl) ⟨rfl, rfl, rfl⟩

set_option maxHeartbeats 4000000 in
set_option maxRecDepth 100000 in
theorem c_X3_init_93 {X : GX} {l : Launch} {f : AH} {n : Nat} : AM X l yX3_init cX3_init 1 none 1 0 0 [.ref 144] f n (EXO f [] none n) := by
  refine AM.of (by decide +kernel) rfl (by decide) (fun p e s m args below meth c C hnm => ?_)
  refine ao_start ?_
  refine aw_nl [some (.ref 144)] rfl ?_
  refine aw_ald_n C dX3_init_0 rfl ?_
  refine aw_oinit C oi_X3_1 oi2 oi3 dX3_init_1 (Nat.le_of_ble_eq_true rfl) (Nat.le_of_ble_eq_true rfl) ?_
  exact aw_vret C rfl dX3_init_4 (Nat.le_of_ble_eq_true rfl) (Nat.le_of_ble_eq_true rfl) ⟨rfl, rfl, rfl⟩

set_option maxHeartbeats 4000000 in
set_option maxRecDepth 100000 in
theorem c_X3_init_94 {X : GX} {l : Launch} {f : AH} {n : Nat} : AM X l yX3_init cX3_init 1 none 1 0 0 [.ref 145] f n (EXO f [] none n) := by
  refine AM.of (by decide +kernel) rfl (by decide) (fun p e s m args below meth c C hnm => ?_)
  refine ao_start ?_
  refine aw_nl [some (.ref 145)] rfl ?_
  refine aw_ald_n C dX3_init_0 rfl ?_
  refine aw_oinit C oi_X3_1 oi2 oi3 dX3_init_1 (Nat.le_of_ble_eq_true rfl) (Nat.le_of_ble_eq_true rfl) ?_
  exact aw_vret C rfl dX3_init_4 (Nat.le_of_ble_eq_true rfl) (Nat.le_of_ble_eq_true rfl) ⟨rfl, rfl, rfl⟩

set_option maxHeartbeats 4000000 in
set_option maxRecDepth 100000 in
theorem c_X3_init_95 {X : GX} {l : Launch} {f : AH} {n : Nat} : AM X l yX3_init cX3_init 1 none 1 0 0 [.ref 146] f n (EXO f [] none n) := by
  refine AM.of (by decide +kernel) rfl (by decide) (fun p e s m args below meth c C hnm => ?_)
  refine ao_start ?_
  refine aw_nl [some (.ref 146)] rfl ?_
  refine aw_ald_n C dX3_init_0 rfl ?_
  refine aw_oinit C oi_X3_1 oi2 oi3 dX3_init_1 (Nat.le_of_ble_eq_true rfl) (Nat.le_of_ble_eq_true rfl) ?_
  exact aw_vret C rfl dX3_init_4 (Nat.le_of_ble_eq_true rfl) (Nat.le_of_ble_eq_true rfl) ⟨rfl, rfl, rfl⟩

set_option maxHeartbeats 4000000 in
set_option maxRecDepth 100000 in
theorem c_X3_init_96 {X : GX} {l : Launch} {f : AH} {n : Nat} : AM X l yX3_init cX3_init 1 none 1 0 0 [.ref 147] f n (EXO f [] none n) := by
  refine AM.of (by decide +kernel) rfl (by decide) (fun p e s m args below meth c C hnm => ?_)
  refine ao_start ?_
  refine aw_nl [some (.ref 147)] rfl ?_
  refine aw_ald_n C dX3_init_0 rfl ?_
  refine aw_oinit C oi_X3_1 oi2 oi3 dX3_init_1 (Nat.le_of_ble_eq_true rfl) (Nat.le_of_ble_eq_true rfl) ?_
  exact aw_vret C rfl dX3_init_4 (Nat.le_of_ble_eq_true rfl) (Nat.le_of_ble_eq_true rfl) ⟨rfl, rfl, rfl⟩

set_option maxHeartbeats 4000000 in
set_option maxRecDepth 100000 in
theorem c_X3_init_97 {X : GX} {l : Launch} {f : AH} {n : Nat} : AM X l yX3_init cX3_init 1 none 1 0 0 [.ref 148] f n (EXO f [] none n) := by
  refine AM.of (by decide +kernel) rfl (by decide) (fun p e s m args below meth c C hnm => ?_)
  refine ao_start ?_
  refine aw_nl [some (.ref 148)] rfl ?_
  refine aw_ald_n C dX3_init_0 rfl ?_
  refine aw_oinit C oi_X3_1 oi2 oi3 dX3_init_1 (Nat.le_of_ble_eq_true rfl) (Nat.le_of_ble_eq_true rfl) ?_
  exact aw_vret C rfl dX3_init_4 (Nat.le_of_ble_eq_true rfl) (Nat.le_of_ble_eq_true rfl) ⟨rfl, rfl, rfl⟩

set_option maxHeartbeats 4000000 in
set_option maxRecDepth 100000 in
theorem c_X3_init_98 {X : GX} {l : Launch} {f : AH} {n : Nat} : AM X l yX3_init cX3_init 1 none 1 0 0 [.ref 149] f n (EXO f [] none n) := by
  refine AM.of (by decide +kernel) rfl (by decide) (fun p e s m args below meth c C hnm => ?_)
  refine ao_start ?_
  refine aw_nl [some (.ref 149)] rfl ?_
  refine aw_ald_n C dX3_init_0 rfl ?_
  refine aw_oinit C oi_X3_1 oi2 oi3 dX3_init_1 (Nat.le_of_ble_eq_true rfl) (Nat.le_of_ble_eq_true rfl) ?_
  exact aw_vret C rfl dX3_init_4 (Nat.le_of_ble_eq_true rfl) (Nat.le_of_ble_eq_true rfl) ⟨rfl, rfl, rfl⟩

set_option maxHeartbeats 4000000 in
set_option maxRecDepth 100000 in
theorem c_X3_init_99 {X : GX} {l : Launch} {f : AH} {n : Nat} : AM X l yX3_init cX3_init 1 none 1 0 0 [.ref 150] f n (EXO f [] none n) := by
  refine AM.of (by decide +kernel) rfl (by decide) (fun p e s m args below meth c C hnm => ?_)
  refine ao_start ?_
  refine aw_nl [some (.ref 150)] rfl ?_
  refine aw_ald_n C dX3_init_0 rfl ?_
  refine aw_oinit C oi_X3_1 oi2 oi3 dX3_init_1 (Nat.le_of_ble_eq_true rfl) (Nat.le_of_ble_eq_true rfl) ?_
  exact aw_vret C rfl dX3_init_4 (Nat.le_of_ble_eq_true rfl) (Nat.le_of_ble_eq_true rfl) ⟨rfl, rfl, rfl⟩

set_option maxHeartbeats 4000000 in
set_option maxRecDepth 100000 in
theorem c_X3_init_100 {X : GX} {l : Launch} {f : AH} {n : Nat} : AM X l yX3_init cX3_init 1 none 1 0 0 [.ref 151] f n (EXO f [] none n) := by
  refine AM.of (by decide +kernel) rfl (by decide) (fun p e s m args below meth c C hnm => ?_)
  refine ao_start ?_
  refine aw_nl [some (.ref 151)] rfl ?_
  refine aw_ald_n C dX3_init_0 rfl ?_
  refine aw_oinit C oi_X3_1 oi2 oi3 dX3_init_1 (Nat.le_of_ble_eq_true rfl) (Nat.le_of_ble_eq_true rfl) ?_
  exact aw_vret C rfl dX3_init_4 (Nat.le_of_ble_eq_true rfl) (Nat.le_of_ble_eq_true rfl) ⟨rfl, rfl, rfl⟩

set_option maxHeartbeats 4000000 in
set_option maxRecDepth 100000 in
theorem c_X3_init_101 {X : GX} {l : Launch} {f : AH} {n : Nat} : AM X l yX3_init cX3_init 1 none 1 0 0 [.ref 152] f n (EXO f [] none n) := by
  refine AM.of (by decide +kernel) rfl (by decide) (fun p e s m args below meth c C hnm => ?_)
  refine ao_start ?_
  refine aw_nl [some (.ref 152)] rfl ?_
  refine aw_ald_n C dX3_init_0 rfl ?_
  refine aw_oinit C oi_X3_1 oi2 oi3 dX3_init_1 (Nat.le_of_ble_eq_true rfl) (Nat.le_of_ble_eq_true rfl) ?_
  exact aw_vret C rfl dX3_init_4 (Nat.le_of_ble_eq_true rfl) (Nat.le_of_ble_eq_true rfl) ⟨rfl, rfl, rfl⟩

set_option maxHeartbeats 4000000 in
set_option maxRecDepth 100000 in
theorem c_X3_init_102 {X : GX} {l : Launch} {f : AH} {n : Nat} : AM X l yX3_init cX3_init 1 none 1 0 0 [.ref 153] f n (EXO f [] none n) := by
  refine AM.of (by decide +kernel) rfl (by decide) (fun p e s m args below meth c C hnm => ?_)
  refine ao_start ?_
  refine aw_nl [some (.ref 153)] rfl ?_
  refine aw_ald_n C dX3_init_0 rfl ?_
  refine aw_oinit C oi_X3_1 oi2 oi3 dX3_init_1 (Nat.le_of_ble_eq_true rfl) (Nat.le_of_ble_eq_true rfl) ?_
  exact aw_vret C rfl dX3_init_4 (Nat.le_of_ble_eq_true rfl) (Nat.le_of_ble_eq_true rfl) ⟨rfl, rfl, rfl⟩

set_option maxHeartbeats 4000000 in
set_option maxRecDepth 100000 in
theorem c_X3_init_103 {X : GX} {l : Launch} {f : AH} {n : Nat} : AM X l yX3_init cX3_init 1 none 1 0 0 [.ref 154] f n (EXO f [] none n) := by
  refine AM.of (by decide +kernel) rfl (by decide) (fun p e s m args below meth c C hnm => ?_)
  refine ao_start ?_
  refine aw_nl [some (.ref 154)] rfl ?_
  refine aw_ald_n C dX3_init_0 rfl ?_
  refine aw_oinit C oi_X3_1 oi2 oi3 dX3_init_1 (Nat.le_of_ble_eq_true rfl) (Nat.le_of_ble_eq_true rfl) ?_
  exact aw_vret C rfl dX3_init_4 (Nat.le_of_ble_eq_true rfl) (Nat.le_of_ble_eq_true rfl) ⟨rfl, rfl, rfl⟩

set_option maxHeartbeats 4000000 in
set_option maxRecDepth 100000 in
theorem c_X3_init_104 {X : GX} {l : Launch} {f : AH} {n : Nat} : AM X l yX3_init cX3_init 1 none 1 0 0 [.ref 155] f n (EXO f [] none n) := by
  refine AM.of (by decide +kernel) rfl (by decide) (fun p e s m args below meth c C hnm => ?_)
  refine ao_start ?_
  refine aw_nl [some (.ref 155)] rfl ?_
  refine aw_ald_n C dX3_init_0 rfl ?_
  refine aw_oinit C oi_X3_1 oi2 oi3 dX3_init_1 (Nat.le_of_ble_eq_true rfl) (Nat.le_of_ble_eq_true rfl) ?_
  exact aw_vret C rfl dX3_init_4 (Nat.le_of_ble_eq_true rfl) (Nat.le_of_ble_eq_true rfl) ⟨rfl, rfl, rfl⟩

set_option maxHeartbeats 4000000 in
set_option maxRecDepth 100000 in
theorem c_X3_init_105 {X : GX} {l : Launch} {f : AH} {n : Nat} : AM X l yX3_init cX3_init 1 none 1 0 0 [.ref 156] f n (EXO f [] none n) := by
  refine AM.of (by decide +kernel) rfl (by decide) (fun p e s m args below meth c C hnm => ?_)
  refine ao_start ?_
  refine aw_nl [some (.ref 156)] rfl ?_
  refine aw_ald_n C dX3_init_0 rfl ?_
  refine aw_oinit C oi_X3_1 oi2 oi3 dX3_init_1 (Nat.le_of_ble_eq_true rfl) (Nat.le_of_ble_eq_true rfl) ?_
  exact aw_vret C rfl dX3_init_4 (Nat.le_of_ble_eq_true rfl) (Nat.le_of_ble_eq_true rfl) ⟨rfl, rfl, rfl⟩

set_option maxHeartbeats 4000000 in
set_option maxRecDepth 100000 in
theorem c_X3_init_106 {X : GX} {l : Launch} {f : AH} {n : Nat} : AM X l yX3_init cX3_init 1 none 1 0 0 [.ref 157] f n (EXO f [] none n) := by
  refine AM.of (by decide +kernel) rfl (by decide) (fun p e s m args below meth c C hnm => ?_)
  refine ao_start ?_
  refine aw_nl [some (.ref 157)] rfl ?_
  refine aw_ald_n C dX3_init_0 rfl ?_
  refine aw_oinit C oi_X3_1 oi2 oi3 dX3_init_1 (Nat.le_of_ble_eq_true rfl) (Nat.le_of_ble_eq_true rfl) ?_
  exact aw_vret C rfl dX3_init_4 (Nat.le_of_ble_eq_true rfl) (Nat.le_of_ble_eq_true rfl) ⟨rfl, rfl, rfl⟩

set_option maxHeartbeats 4000000 in
set_option maxRecDepth 100000 in
theorem c_X3_init_107 {X : GX} {l : Launch} {f : AH} {n : Nat} : AM X l yX3_init cX3_init 1 none 1 0 0 [.ref 158] f n (EXO f [] none n) := by
  refine AM.of (by decide +kernel) rfl (by decide) (fun p e s m args below meth c C hnm => ?_)
  refine ao_start ?_
  refine aw_nl [some (.ref 158)] rfl ?_
  refine aw_ald_n C dX3_init_0 rfl ?_
  refine aw_oinit C oi_X3_1 oi2 oi3 dX3_init_1 (Nat.le_of_ble_eq_true rfl) (Nat.le_of_ble_eq_true rfl) ?_
  exact aw_vret C rfl dX3_init_4 (Nat.le_of_ble_eq_true rfl) (Nat.le_of_ble_eq_true rfl) ⟨rfl, rfl, rfl⟩

set_option maxHeartbeats 4000000 in
set_option maxRecDepth 100000 in
theorem c_X3_init_108 {X : GX} {l : Launch} {f : AH} {n : Nat} : AM X l yX3_init cX3_init 1 none 1 0 0 [.ref 159] f n (EXO f [] none n) := by
  refine AM.of (by decide +kernel) rfl (by decide) (fun p e s m args below meth c C hnm => ?_)
  refine ao_start ?_
  refine aw_nl [some (.ref 159)] rfl ?_
  refine aw_ald_n C dX3_init_0 rfl ?_
  refine aw_oinit C oi_X3_1 oi2 oi3 dX3_init_1 (Nat.le_of_ble_eq_true rfl) (Nat.le_of_ble_eq_true rfl) ?_
  exact aw_vret C rfl dX3_init_4 (Nat.le_of_ble_eq_true rfl) (Nat.le_of_ble_eq_true rfl) ⟨rfl, rfl, rfl⟩

set_option maxHeartbeats 4000000 in
set_option maxRecDepth 100000 in
theorem c_X3_init_109 {X : GX} {l : Launch} {f : AH} {n : Nat} : AM X l yX3_init cX3_init 1 none 1 0 0 [.ref 160] f n (EXO f [] none n) := by
  refine AM.of (by decide +kernel) rfl (by decide) (fun p e s m args below meth c C hnm => ?_)
  refine ao_start ?_
  refine aw_nl [some (.ref 160)] rfl ?_
  refine aw_ald_n C dX3_init_0 rfl ?_
  refine aw_oinit C oi_X3_1 oi2 oi3 dX3_init_1 (Nat.le_of_ble_eq_true rfl) (Nat.le_of_ble_eq_true rfl) ?_
  exact aw_vret C rfl dX3_init_4 (Nat.le_of_ble_eq_true rfl) (Nat.le_of_ble_eq_true rfl) ⟨rfl, rfl, rfl⟩

set_option maxHeartbeats 4000000 in
set_option maxRecDepth 100000 in
theorem c_X3_init_110 {X : GX} {l : Launch} {f : AH} {n : Nat} : AM X l yX3_init cX3_init 1 none 1 0 0 [.ref 161] f n (EXO f [] none n) := by
  refine AM.of (by decide +kernel) rfl (by decide) (fun p e s m args below meth c C hnm => ?_)
  refine ao_start ?_
  refine aw_nl [some (.ref 161)] rfl ?_
  refine aw_ald_n C dX3_init_0 rfl ?_
  refine aw_oinit C oi_X3_1 oi2 oi3 dX3_init_1 (Nat.le_of_ble_eq_true rfl) (Nat.le_of_ble_eq_true rfl) ?_
  exact aw_vret C rfl dX3_init_4 (Nat.le_of_ble_eq_true rfl) (Nat.le_of_ble_eq_true rfl) ⟨rfl, rfl, rfl⟩

set_option maxHeartbeats 4000000 in
set_option maxRecDepth 100000 in
theorem c_X3_init_111 {X : GX} {l : Launch} {f : AH} {n : Nat} : AM X l yX3_init cX3_init 1 none 1 0 0 [.ref 162] f n (EXO f [] none n) := by
  refine AM.of (by decide +kernel) rfl (by decide) (fun p e s m args below meth c C hnm => ?_)
  refine ao_start ?_
  refine aw_nl [some (.ref 162)] rfl ?_
  refine aw_ald_n C dX3_init_0 rfl ?_
  refine aw_oinit C oi_X3_1 oi2 oi3 dX3_init_1 (Nat.le_of_ble_eq_true rfl) (Nat.le_of_ble_eq_true rfl) ?_
  exact aw_vret C rfl dX3_init_4 (Nat.le_of_ble_eq_true rfl) (Nat.le_of_ble_eq_true rfl) ⟨rfl, rfl, rfl⟩

set_option maxHeartbeats 4000000 in
set_option maxRecDepth 100000 in
theorem c_X3_init_112 {X : GX} {l : Launch} {f : AH} {n : Nat} : AM X l yX3_init cX3_init 1 none 1 0 0 [.ref 163] f n (EXO f [] none n) := by
  refine AM.of (by decide +kernel) rfl (by decide) (fun p e s m args below meth c C hnm => ?_)
  refine ao_start ?_
  refine aw_nl [some (.ref 163)] rfl ?_
  refine aw_ald_n C dX3_init_0 rfl ?_
  refine aw_oinit C oi_X3_1 oi2 oi3 dX3_init_1 (Nat.le_of_ble_eq_true rfl) (Nat.le_of_ble_eq_true rfl) ?_
  exact aw_vret C rfl dX3_init_4 (Nat.le_of_ble_eq_true rfl) (Nat.le_of_ble_eq_true rfl) ⟨rfl, rfl, rfl⟩

set_option maxHeartbeats 4000000 in
set_option maxRecDepth 100000 in
theorem c_X3_init_113 {X : GX} {l : Launch} {f : AH} {n : Nat} : AM X l yX3_init cX3_init 1 none 1 0 0 [.ref 164] f n (EXO f [] none n) := by
  refine AM.of (by decide +kernel) rfl (by decide) (fun p e s m args below meth c C hnm => ?_)
  refine ao_start ?_
  refine aw_nl [some (.ref 164)] rfl ?_
  refine aw_ald_n C dX3_init_0 rfl ?_
  refine aw_oinit C oi_X3_1 oi2 oi3 dX3_init_1 (Nat.le_of_ble_eq_true rfl) (Nat.le_of_ble_eq_true rfl) ?_
  exact aw_vret C rfl dX3_init_4 (Nat.le_of_ble_eq_true rfl) (Nat.le_of_ble_eq_true rfl) ⟨rfl, rfl, rfl⟩

set_option maxHeartbeats 4000000 in
set_option maxRecDepth 100000 in
theorem c_X3_init_114 {X : GX} {l : Launch} {f : AH} {n : Nat} : AM X l yX3_init cX3_init 1 none 1 0 0 [.ref 165] f n (EXO f [] none n) := by
  refine AM.of (by decide +kernel) rfl (by decide) (fun p e s m args below meth c C hnm => ?_)
  refine ao_start ?_
  refine aw_nl [some (.ref 165)] rfl ?_
  refine aw_ald_n C dX3_init_0 rfl ?_
  refine aw_oinit C oi_X3_1 oi2 oi3 dX3_init_1 (Nat.le_of_ble_eq_true rfl) (Nat.le_of_ble_eq_true rfl) ?_
  exact aw_vret C rfl dX3_init_4 (Nat.le_of_ble_eq_true rfl) (Nat.le_of_ble_eq_true rfl) ⟨rfl, rfl, rfl⟩

set_option maxHeartbeats 4000000 in
set_option maxRecDepth 100000 in
theorem c_X3_init_115 {X : GX} {l : Launch} {f : AH} {n : Nat} : AM X l yX3_init cX3_init 1 none 1 0 0 [.ref 166] f n (EXO f [] none n) := by
  refine AM.of (by decide +kernel) rfl (by decide) (fun p e s m args below meth c C hnm => ?_)
  refine ao_start ?_
  refine aw_nl [some (.ref 166)] rfl ?_
  refine aw_ald_n C dX3_init_0 rfl ?_
  refine aw_oinit C oi_X3_1 oi2 oi3 dX3_init_1 (Nat.le_of_ble_eq_true rfl) (Nat.le_of_ble_eq_true rfl) ?_
  exact aw_vret C rfl dX3_init_4 (Nat.le_of_ble_eq_true rfl) (Nat.le_of_ble_eq_true rfl) ⟨rfl, rfl, rfl⟩

set_option maxHeartbeats 4000000 in
set_option maxRecDepth 100000 in
theorem c_X3_init_116 {X : GX} {l : Launch} {f : AH} {n : Nat} : AM X l yX3_init cX3_init 1 none 1 0 0 [.ref 167] f n (EXO f [] none n) := by
  refine AM.of (by decide +kernel) rfl (by decide) (fun p e s m args below meth c C hnm => ?_)
  refine ao_start ?_
  refine aw_nl [some (.ref 167)] rfl ?_
  refine aw_ald_n C dX3_init_0 rfl ?_
  refine aw_oinit C oi_X3_1 oi2 oi3 dX3_init_1 (Nat.le_of_ble_eq_true rfl) (Nat.le_of_ble_eq_true rfl) ?_
  exact aw_vret C rfl dX3_init_4 (Nat.le_of_ble_eq_true rfl) (Nat.le_of_ble_eq_true rfl) ⟨rfl, rfl, rfl⟩

set_option maxHeartbeats 4000000 in
set_option maxRecDepth 100000 in
theorem c_X3_init_117 {X : GX} {l : Launch} {f : AH} {n : Nat} : AM X l yX3_init cX3_init 1 none 1 0 0 [.ref 168] f n (EXO f [] none n) := by
  refine AM.of (by decide +kernel) rfl (by decide) (fun p e s m args below meth c C hnm => ?_)
  refine ao_start ?_
  refine aw_nl [some (.ref 168)] rfl ?_
  refine aw_ald_n C dX3_init_0 rfl ?_
  refine aw_oinit C oi_X3_1 oi2 oi3 dX3_init_1 (Nat.le_of_ble_eq_true rfl) (Nat.le_of_ble_eq_true rfl) ?_
  exact aw_vret C rfl dX3_init_4 (Nat.le_of_ble_eq_true rfl) (Nat.le_of_ble_eq_true rfl) ⟨rfl, rfl, rfl⟩

set_option maxHeartbeats 4000000 in
set_option maxRecDepth 100000 in
theorem c_X3_init_118 {X : GX} {l : Launch} {f : AH} {n : Nat} : AM X l yX3_init cX3_init 1 none 1 0 0 [.ref 169] f n (EXO f [] none n) := by
  refine AM.of (by decide +kernel) rfl (by decide) (fun p e s m args below meth c C hnm => ?_)
  refine ao_start ?_
  refine aw_nl [some (.ref 169)] rfl ?_
  refine aw_ald_n C dX3_init_0 rfl ?_
  refine aw_oinit C oi_X3_1 oi2 oi3 dX3_init_1 (Nat.le_of_ble_eq_true rfl) (Nat.le_of_ble_eq_true rfl) ?_
  exact aw_vret C rfl dX3_init_4 (Nat.le_of_ble_eq_true rfl) (Nat.le_of_ble_eq_true rfl) ⟨rfl, rfl, rfl⟩

set_option maxHeartbeats 4000000 in
set_option maxRecDepth 100000 in
theorem c_X3_init_119 {X : GX} {l : Launch} {f : AH} {n : Nat} : AM X l yX3_init cX3_init 1 none 1 0 0 [.ref 170] f n (EXO f [] none n) := by
  refine AM.of (by decide +kernel) rfl (by decide) (fun p e s m args below meth c C hnm => ?_)
  refine ao_start ?_
  refine aw_nl [some (.ref 170)] rfl ?_
  refine aw_ald_n C dX3_init_0 rfl ?_
  refine aw_oinit C oi_X3_1 oi2 oi3 dX3_init_1 (Nat.le_of_ble_eq_true rfl) (Nat.le_of_ble_eq_true rfl) ?_
  exact aw_vret C rfl dX3_init_4 (Nat.le_of_ble_eq_true rfl) (Nat.le_of_ble_eq_true rfl) ⟨rfl, rfl, rfl⟩

