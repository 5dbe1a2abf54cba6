theorem al_main {X : GX} {p : Program} {l : Launch} {e : Env} {s : State} {m : MethodId} {below : List Frame} {meth : Method} {c : Code} {b : Nat} {xs : Nat → Int32} (C : CC X p l room_1 s m #[Value.ref b] meth c RL cL_law 8 ret) (S0 : SC X b 6 xs s) (hl0 : l.stackTraces = false) : AW X p l e room_1 s m #[Value.ref b] below meth c 8 (lw_Z below #[Value.ref b] s) FF 224 1000 300000 23 [some (.retAddr b), some (.ref 0), some (.ref 181), some (.ref 223), some (.int 0), none, none, none] [] := by
  refine aw_iload C dL_law_23 rfl ?_
  refine aw_raw_n C dL_law_25 rfl ?_
  refine aw_slen C S0 dL_law_26 ?_
  refine aw_bipush C 6 dL_law_27 kb_6 ?_
  refine ae_isub C 0 dL_law_29 (by decide) ?_
  refine aw_icmp_gt C 1635 dL_law_30 (by decide) (fun q => absurd q (by decide)) (fun _ => ?_)
  refine aw_raw_n C dL_law_33 rfl ?_
  refine aw_iload C dL_law_34 rfl ?_
  refine aw_sld C S0 (xs 0) (by unfold vp_in; decide) (by decide : _ = 0) rfl dL_law_36 ?_
  refine aw_bipush C 31 dL_law_37 kb_31 ?_
  obtain ⟨j, hj, hx⟩ := pk_andE (xs 0) (m := 31) 5 (by decide)
  refine ae_iand C (nI j) dL_law_39 hx ?_
  match j, hj with
  | 0, _ => exact aw_tabIn C (off := 140) 180 dL_law_40 (by decide) (by decide) (by decide) (by decide) (op_0 C S0 hl0)
  | 1, _ => exact aw_tabIn C (off := 213) 253 dL_law_40 (by decide) (by decide) (by decide) (by decide) (op_1 C S0 hl0)
  | 2, _ => exact aw_tabIn C (off := 238) 278 dL_law_40 (by decide) (by decide) (by decide) (by decide) (op_2 C S0 hl0)
  | 3, _ => exact aw_tabIn C (off := 282) 322 dL_law_40 (by decide) (by decide) (by decide) (by decide) (op_3 C S0 hl0)
  | 4, _ => exact aw_tabIn C (off := 295) 335 dL_law_40 (by decide) (by decide) (by decide) (by decide) (op_4 C S0 hl0)
  | 5, _ => exact aw_tabIn C (off := 308) 348 dL_law_40 (by decide) (by decide) (by decide) (by decide) (op_5 C S0 hl0)
  | 6, _ => exact aw_tabIn C (off := 321) 361 dL_law_40 (by decide) (by decide) (by decide) (by decide) (op_6 C S0 hl0)
  | 7, _ => exact aw_tabIn C (off := 405) 445 dL_law_40 (by decide) (by decide) (by decide) (by decide) (op_7 C S0 hl0)
  | 8, _ => exact aw_tabIn C (off := 473) 513 dL_law_40 (by decide) (by decide) (by decide) (by decide) (op_8 C S0 hl0)
  | 9, _ => exact aw_tabIn C (off := 517) 557 dL_law_40 (by decide) (by decide) (by decide) (by decide) (op_9 C S0 hl0)
  | 10, _ => exact aw_tabIn C (off := 530) 570 dL_law_40 (by decide) (by decide) (by decide) (by decide) (op_10 C S0 hl0)
  | 11, _ => exact aw_tabIn C (off := 586) 626 dL_law_40 (by decide) (by decide) (by decide) (by decide) (op_11 C S0 hl0)
  | 12, _ => exact aw_tabIn C (off := 642) 682 dL_law_40 (by decide) (by decide) (by decide) (by decide) (op_12 C S0 hl0)
  | 13, _ => exact aw_tabIn C (off := 698) 738 dL_law_40 (by decide) (by decide) (by decide) (by decide) (op_13 C S0 hl0)
  | 14, _ => exact aw_tabIn C (off := 766) 806 dL_law_40 (by decide) (by decide) (by decide) (by decide) (op_14 C S0 hl0)
  | 15, _ => exact aw_tabIn C (off := 810) 850 dL_law_40 (by decide) (by decide) (by decide) (by decide) (op_15 C S0 hl0)
  | 16, _ => exact aw_tabIn C (off := 854) 894 dL_law_40 (by decide) (by decide) (by decide) (by decide) (op_16 C S0 hl0)
  | 17, _ => exact aw_tabIn C (off := 922) 962 dL_law_40 (by decide) (by decide) (by decide) (by decide) (op_17 C S0 hl0)
  | 18, _ => exact aw_tabIn C (off := 1018) 1058 dL_law_40 (by decide) (by decide) (by decide) (by decide) (op_18 C S0 hl0)
  | 19, _ => exact aw_tabIn C (off := 1086) 1126 dL_law_40 (by decide) (by decide) (by decide) (by decide) (op_19 C S0 hl0)
  | 20, _ => exact aw_tabIn C (off := 1154) 1194 dL_law_40 (by decide) (by decide) (by decide) (by decide) (op_20 C S0 hl0)
  | 21, _ => exact aw_tabIn C (off := 1179) 1219 dL_law_40 (by decide) (by decide) (by decide) (by decide) (op_21 C S0 hl0)
  | 22, _ => exact aw_tabIn C (off := 1232) 1272 dL_law_40 (by decide) (by decide) (by decide) (by decide) (op_22 C S0 hl0)
  | 23, _ => exact aw_tabIn C (off := 1300) 1340 dL_law_40 (by decide) (by decide) (by decide) (by decide) (op_23 C S0 hl0)
  | 24, _ => exact aw_tabIn C (off := 1356) 1396 dL_law_40 (by decide) (by decide) (by decide) (by decide) (op_24 C S0 hl0)
  | 25, _ => exact aw_tabIn C (off := 1399) 1439 dL_law_40 (by decide) (by decide) (by decide) (by decide) (op_25 C S0 hl0)
  | 26, _ => exact aw_tabIn C (off := 1464) 1504 dL_law_40 (by decide) (by decide) (by decide) (by decide) (op_26 C S0 hl0)
  | 27, _ => exact aw_tabIn C (off := 1527) 1567 dL_law_40 (by decide) (by decide) (by decide) (by decide) (op_27 C S0 hl0)
  | 28, _ => exact aw_tabIn C (off := 1540) 1580 dL_law_40 (by decide) (by decide) (by decide) (by decide) (op_28 C S0 hl0)
  | 29, _ => exact aw_tabIn C (off := 1551) 1591 dL_law_40 (by decide) (by decide) (by decide) (by decide) (op_29 C S0 hl0)
  | 30, _ => exact aw_tabIn C (off := 1564) 1604 dL_law_40 (by decide) (by decide) (by decide) (by decide) (op_30 C S0 hl0)
  | 31, _ => exact aw_tabOut C 1629 dL_law_40 (by decide) (by decide) (aw_fl [some (.retAddr b), none, none, none, some (.int 0), none, none, none] (by simp [SubL]) (al_tail C S0 (Nat.le_of_ble_eq_true rfl) (Nat.le_of_ble_eq_true rfl)))
  | k + 32, h => exact absurd h (by omega)
