theorem dL_law_1540 : decode cL_law 1540 = .ok (.iload 5, 2) := by decide +kernel
theorem dL_law_1542 : decode cL_law 1542 = .ok (.ifCond .ne 22, 3) := by decide +kernel
theorem dL_law_1564 : decode cL_law 1564 = .ok (.goto 65, 3) := by decide +kernel
theorem dL_law_1567 : decode cL_law 1567 = .ok (.aload_n 1, 1) := by decide +kernel
theorem dL_law_1568 : decode cL_law 1568 = .ok (.invokevirtual 184, 3) := by decide +kernel
theorem dL_law_1571 : decode cL_law 1571 = .ok (.aload_n 2, 1) := by decide +kernel
theorem dL_law_1572 : decode cL_law 1572 = .ok (.invokevirtual 188, 3) := by decide +kernel
theorem dL_law_1575 : decode cL_law 1575 = .ok (.if_icmp .eq 54, 3) := by decide +kernel
theorem dL_law_1580 : decode cL_law 1580 = .ok (.aload_n 1, 1) := by decide +kernel
theorem dL_law_1581 : decode cL_law 1581 = .ok (.invokevirtual 189, 3) := by decide +kernel
theorem dL_law_1584 : decode cL_law 1584 = .ok (.aload_n 2, 1) := by decide +kernel
theorem dL_law_1585 : decode cL_law 1585 = .ok (.invokevirtual 192, 3) := by decide +kernel
theorem dL_law_1588 : decode cL_law 1588 = .ok (.goto 41, 3) := by decide +kernel
theorem dL_law_1591 : decode cL_law 1591 = .ok (.aload_n 1, 1) := by decide +kernel
theorem dL_law_1592 : decode cL_law 1592 = .ok (.invokevirtual 193, 3) := by decide +kernel
theorem dL_law_1595 : decode cL_law 1595 = .ok (.aload_n 2, 1) := by decide +kernel
theorem dL_law_1596 : decode cL_law 1596 = .ok (.invokevirtual 196, 3) := by decide +kernel
theorem dL_law_1599 : decode cL_law 1599 = .ok (.if_icmp .eq 30, 3) := by decide +kernel
theorem dL_law_1604 : decode cL_law 1604 = .ok (.aload_n 1, 1) := by decide +kernel
theorem dL_law_1605 : decode cL_law 1605 = .ok (.aload_n 0, 1) := by decide +kernel
theorem dL_law_1606 : decode cL_law 1606 = .ok (.iload 4, 2) := by decide +kernel
theorem dL_law_1608 : decode cL_law 1608 = .ok (.iconst 1, 1) := by decide +kernel
theorem dL_law_1609 : decode cL_law 1609 = .ok (.iadd, 1) := by decide +kernel
theorem dL_law_1610 : decode cL_law 1610 = .ok (.iaload, 1) := by decide +kernel
theorem dL_law_1611 : decode cL_law 1611 = .ok (.invokevirtual 197, 3) := by decide +kernel
theorem dL_law_1614 : decode cL_law 1614 = .ok (.aload_n 2, 1) := by decide +kernel
theorem dL_law_1615 : decode cL_law 1615 = .ok (.aload_n 0, 1) := by decide +kernel
theorem dL_law_1616 : decode cL_law 1616 = .ok (.iload 4, 2) := by decide +kernel
theorem dL_law_1618 : decode cL_law 1618 = .ok (.iconst 1, 1) := by decide +kernel
theorem dL_law_1619 : decode cL_law 1619 = .ok (.iadd, 1) := by decide +kernel
theorem dL_law_1620 : decode cL_law 1620 = .ok (.iaload, 1) := by decide +kernel
theorem dL_law_1621 : decode cL_law 1621 = .ok (.invokevirtual 200, 3) := by decide +kernel
theorem dL_law_1624 : decode cL_law 1624 = .ok (.if_icmp .eq 5, 3) := by decide +kernel
theorem dL_law_1629 : decode cL_law 1629 = .ok (.iinc 4 6, 3) := by decide +kernel
theorem dL_law_1632 : decode cL_law 1632 = .ok (.goto (-1609), 3) := by decide +kernel
theorem dL_law_1635 : decode cL_law 1635 = .ok (.iconst 1, 1) := by decide +kernel
theorem dL_law_1636 : decode cL_law 1636 = .ok (.ireturn, 1) := by decide +kernel
theorem dL_like_0 : decode cL_like 0 = .ok (.aload_n 3, 1) := by decide +kernel
theorem dL_like_1 : decode cL_like 1 = .ok (.iconst 0, 1) := by decide +kernel
theorem dL_like_2 : decode cL_like 2 = .ok (.aload_n 0, 1) := by decide +kernel
theorem dL_like_3 : decode cL_like 3 = .ok (.iload_n 1, 1) := by decide +kernel
theorem dL_like_4 : decode cL_like 4 = .ok (.iload_n 2, 1) := by decide +kernel
theorem dL_like_5 : decode cL_like 5 = .ok (.invokevirtual 64, 3) := by decide +kernel
theorem dL_like_13 : decode cL_like 13 = .ok (.astore 4, 2) := by decide +kernel
theorem dL_like_15 : decode cL_like 15 = .ok (.iconst 1, 1) := by decide +kernel
theorem dL_like_16 : decode cL_like 16 = .ok (.ireturn, 1) := by decide +kernel
theorem dL_lock_0 : decode cL_lock 0 = .ok (.aload_n 1, 1) := by decide +kernel
theorem dL_lock_1 : decode cL_lock 1 = .ok (.iconst 0, 1) := by decide +kernel
theorem dL_lock_2 : decode cL_lock 2 = .ok (.aload_n 0, 1) := by decide +kernel
theorem dL_lock_3 : decode cL_lock 3 = .ok (.invokevirtual 25, 3) := by decide +kernel
theorem dL_lock_11 : decode cL_lock 11 = .ok (.astore_n 2, 1) := by decide +kernel
theorem dL_lock_12 : decode cL_lock 12 = .ok (.iconst 1, 1) := by decide +kernel
theorem dL_lock_13 : decode cL_lock 13 = .ok (.ireturn, 1) := by decide +kernel
theorem dL_octet_0 : decode cL_octet 0 = .ok (.aload 4, 2) := by decide +kernel
theorem dL_octet_2 : decode cL_octet 2 = .ok (.iconst 0, 1) := by decide +kernel
theorem dL_octet_3 : decode cL_octet 3 = .ok (.aload_n 0, 1) := by decide +kernel
theorem dL_octet_4 : decode cL_octet 4 = .ok (.iload_n 1, 1) := by decide +kernel
theorem dL_octet_5 : decode cL_octet 5 = .ok (.iload_n 2, 1) := by decide +kernel
theorem dL_octet_6 : decode cL_octet 6 = .ok (.iload_n 3, 1) := by decide +kernel
theorem dL_octet_7 : decode cL_octet 7 = .ok (.invokevirtual 54, 3) := by decide +kernel
theorem dL_octet_15 : decode cL_octet 15 = .ok (.astore 5, 2) := by decide +kernel
theorem dL_octet_17 : decode cL_octet 17 = .ok (.iconst 1, 1) := by decide +kernel
theorem dL_octet_18 : decode cL_octet 18 = .ok (.ireturn, 1) := by decide +kernel
theorem dL_origin_0 : decode cL_origin 0 = .ok (.aload_n 3, 1) := by decide +kernel
theorem dL_origin_1 : decode cL_origin 1 = .ok (.iconst 0, 1) := by decide +kernel
theorem dL_origin_2 : decode cL_origin 2 = .ok (.aload_n 0, 1) := by decide +kernel
theorem dL_origin_3 : decode cL_origin 3 = .ok (.iload_n 1, 1) := by decide +kernel
theorem dL_origin_4 : decode cL_origin 4 = .ok (.iload_n 2, 1) := by decide +kernel
theorem dL_origin_5 : decode cL_origin 5 = .ok (.invokevirtual 58, 3) := by decide +kernel
theorem dL_origin_13 : decode cL_origin 13 = .ok (.astore 4, 2) := by decide +kernel
theorem dL_origin_15 : decode cL_origin 15 = .ok (.iconst 1, 1) := by decide +kernel
theorem dL_origin_16 : decode cL_origin 16 = .ok (.ireturn, 1) := by decide +kernel
theorem dL_piece_0 : decode cL_piece 0 = .ok (.aload_n 3, 1) := by decide +kernel
theorem dL_piece_1 : decode cL_piece 1 = .ok (.iconst 0, 1) := by decide +kernel
theorem dL_piece_2 : decode cL_piece 2 = .ok (.aload_n 0, 1) := by decide +kernel
theorem dL_piece_3 : decode cL_piece 3 = .ok (.iload_n 1, 1) := by decide +kernel
theorem dL_piece_4 : decode cL_piece 4 = .ok (.iload_n 2, 1) := by decide +kernel
theorem dL_piece_5 : decode cL_piece 5 = .ok (.invokevirtual 49, 3) := by decide +kernel
theorem dL_piece_13 : decode cL_piece 13 = .ok (.astore 4, 2) := by decide +kernel
theorem dL_piece_15 : decode cL_piece 15 = .ok (.iconst 1, 1) := by decide +kernel
theorem dL_piece_16 : decode cL_piece 16 = .ok (.ireturn, 1) := by decide +kernel
theorem dL_rule_0 : decode cL_rule 0 = .ok (.aload_n 3, 1) := by decide +kernel
theorem dL_rule_1 : decode cL_rule 1 = .ok (.iconst 0, 1) := by decide +kernel
theorem dL_rule_2 : decode cL_rule 2 = .ok (.aload_n 0, 1) := by decide +kernel
theorem dL_rule_3 : decode cL_rule 3 = .ok (.iload_n 1, 1) := by decide +kernel
theorem dL_rule_4 : decode cL_rule 4 = .ok (.iload_n 2, 1) := by decide +kernel
theorem dL_rule_5 : decode cL_rule 5 = .ok (.invokevirtual 19, 3) := by decide +kernel
theorem dL_rule_8 : decode cL_rule 8 = .ok (.i2l, 1) := by decide +kernel
theorem dL_rule_9 : decode cL_rule 9 = .ok (.lastore, 1) := by decide +kernel
theorem dL_rule_10 : decode cL_rule 10 = .ok (.goto 11, 3) := by decide +kernel
theorem dL_rule_13 : decode cL_rule 13 = .ok (.astore 4, 2) := by decide +kernel
theorem dL_rule_15 : decode cL_rule 15 = .ok (.iconst 1, 1) := by decide +kernel
theorem dL_rule_16 : decode cL_rule 16 = .ok (.ireturn, 1) := by decide +kernel
theorem dL_rule_17 : decode cL_rule 17 = .ok (.astore 4, 2) := by decide +kernel
theorem dL_rule_19 : decode cL_rule 19 = .ok (.iconst 2, 1) := by decide +kernel
theorem dL_rule_20 : decode cL_rule 20 = .ok (.ireturn, 1) := by decide +kernel
theorem dL_rule_21 : decode cL_rule 21 = .ok (.iconst 0, 1) := by decide +kernel
theorem dL_rule_22 : decode cL_rule 22 = .ok (.ireturn, 1) := by decide +kernel
theorem dL_spread_0 : decode cL_spread 0 = .ok (.aload_n 2, 1) := by decide +kernel
theorem dL_spread_1 : decode cL_spread 1 = .ok (.iconst 0, 1) := by decide +kernel
theorem dL_spread_2 : decode cL_spread 2 = .ok (.aload_n 0, 1) := by decide +kernel
theorem dL_spread_3 : decode cL_spread 3 = .ok (.iload_n 1, 1) := by decide +kernel
theorem dL_spread_4 : decode cL_spread 4 = .ok (.invokevirtual 37, 3) := by decide +kernel
theorem dL_spread_12 : decode cL_spread 12 = .ok (.astore_n 3, 1) := by decide +kernel
theorem dL_spread_13 : decode cL_spread 13 = .ok (.iconst 1, 1) := by decide +kernel
theorem dL_spread_14 : decode cL_spread 14 = .ok (.ireturn, 1) := by decide +kernel
theorem dL_swap_0 : decode cL_swap 0 = .ok (.aload_n 3, 1) := by decide +kernel
theorem dL_swap_1 : decode cL_swap 1 = .ok (.iconst 0, 1) := by decide +kernel
theorem dL_swap_2 : decode cL_swap 2 = .ok (.aload_n 0, 1) := by decide +kernel
theorem dL_swap_3 : decode cL_swap 3 = .ok (.iload_n 1, 1) := by decide +kernel
theorem dL_swap_4 : decode cL_swap 4 = .ok (.iload_n 2, 1) := by decide +kernel
theorem dL_swap_5 : decode cL_swap 5 = .ok (.invokevirtual 40, 3) := by decide +kernel
theorem dL_swap_13 : decode cL_swap 13 = .ok (.astore 4, 2) := by decide +kernel
theorem dL_swap_15 : decode cL_swap 15 = .ok (.iconst 1, 1) := by decide +kernel
theorem dL_swap_16 : decode cL_swap 16 = .ok (.ireturn, 1) := by decide +kernel
theorem dL_tell_0 : decode cL_tell 0 = .ok (.aload_n 2, 1) := by decide +kernel
theorem dL_tell_1 : decode cL_tell 1 = .ok (.iconst 0, 1) := by decide +kernel
theorem dL_tell_2 : decode cL_tell 2 = .ok (.aload_n 0, 1) := by decide +kernel
theorem dL_tell_3 : decode cL_tell 3 = .ok (.iload_n 1, 1) := by decide +kernel
theorem dL_tell_4 : decode cL_tell 4 = .ok (.invokevirtual 30, 3) := by decide +kernel
theorem dL_tell_15 : decode cL_tell 15 = .ok (.astore_n 3, 1) := by decide +kernel
theorem dL_tell_16 : decode cL_tell 16 = .ok (.iconst 2, 1) := by decide +kernel
theorem dL_tell_17 : decode cL_tell 17 = .ok (.ireturn, 1) := by decide +kernel
theorem dL_undo_0 : decode cL_undo 0 = .ok (.aload_n 1, 1) := by decide +kernel
theorem dL_undo_1 : decode cL_undo 1 = .ok (.iconst 0, 1) := by decide +kernel
theorem dL_undo_2 : decode cL_undo 2 = .ok (.aload_n 0, 1) := by decide +kernel
theorem dL_undo_3 : decode cL_undo 3 = .ok (.invokevirtual 46, 3) := by decide +kernel
theorem dL_undo_11 : decode cL_undo 11 = .ok (.astore_n 2, 1) := by decide +kernel
theorem dL_undo_12 : decode cL_undo 12 = .ok (.iconst 1, 1) := by decide +kernel
theorem dL_undo_13 : decode cL_undo 13 = .ok (.ireturn, 1) := by decide +kernel
theorem dL_wipe_0 : decode cL_wipe 0 = .ok (.aload_n 1, 1) := by decide +kernel
theorem dL_wipe_1 : decode cL_wipe 1 = .ok (.iconst 0, 1) := by decide +kernel
theorem dL_wipe_2 : decode cL_wipe 2 = .ok (.aload_n 0, 1) := by decide +kernel
theorem dL_wipe_3 : decode cL_wipe 3 = .ok (.invokevirtual 43, 3) := by decide +kernel
theorem dL_wipe_11 : decode cL_wipe 11 = .ok (.astore_n 2, 1) := by decide +kernel
theorem dL_wipe_12 : decode cL_wipe 12 = .ok (.iconst 1, 1) := by decide +kernel
theorem dL_wipe_13 : decode cL_wipe 13 = .ok (.ireturn, 1) := by decide +kernel
theorem dL_would_0 : decode cL_would 0 = .ok (.aload_n 2, 1) := by decide +kernel
theorem dL_would_1 : decode cL_would 1 = .ok (.iconst 0, 1) := by decide +kernel
theorem dL_would_2 : decode cL_would 2 = .ok (.aload_n 0, 1) := by decide +kernel
theorem dL_would_3 : decode cL_would 3 = .ok (.iload_n 1, 1) := by decide +kernel
theorem dL_would_4 : decode cL_would 4 = .ok (.invokevirtual 67, 3) := by decide +kernel
theorem dL_would_12 : decode cL_would 12 = .ok (.astore_n 3, 1) := by decide +kernel
theorem dL_would_13 : decode cL_would 13 = .ok (.iconst 1, 1) := by decide +kernel
theorem dL_would_14 : decode cL_would 14 = .ok (.ireturn, 1) := by decide +kernel
theorem dX0_make_0 : decode cX0_make 0 = .ok (.aload_n 0, 1) := by decide +kernel
theorem dX0_make_1 : decode cX0_make 1 = .ok (.getfield 14, 3) := by decide +kernel
theorem dX0_make_4 : decode cX0_make 4 = .ok (.iconst 0, 1) := by decide +kernel
theorem dX0_make_5 : decode cX0_make 5 = .ok (.invokevirtual 26, 3) := by decide +kernel
theorem dX0_make_8 : decode cX0_make 8 = .ok (.iconst 0, 1) := by decide +kernel
theorem dX0_make_9 : decode cX0_make 9 = .ok (.istore_n 3, 1) := by decide +kernel
theorem dX0_make_10 : decode cX0_make 10 = .ok (.iconst 1, 1) := by decide +kernel
theorem dX0_make_11 : decode cX0_make 11 = .ok (.istore 4, 2) := by decide +kernel
theorem dX0_make_13 : decode cX0_make 13 = .ok (.iconst 0, 1) := by decide +kernel
theorem dX0_make_14 : decode cX0_make 14 = .ok (.istore 5, 2) := by decide +kernel
theorem dX0_make_16 : decode cX0_make 16 = .ok (.iload 5, 2) := by decide +kernel
theorem dX0_make_18 : decode cX0_make 18 = .ok (.aload_n 2, 1) := by decide +kernel
theorem dX0_make_19 : decode cX0_make 19 = .ok (.invokevirtual 29, 3) := by decide +kernel
theorem dX0_make_22 : decode cX0_make 22 = .ok (.if_icmp .ge 189, 3) := by decide +kernel
theorem dX0_make_211 : decode cX0_make 211 = .ok (.iload 4, 2) := by decide +kernel
theorem dX0_make_213 : decode cX0_make 213 = .ok (.ifCond .eq 29, 3) := by decide +kernel
theorem dX0_make_216 : decode cX0_make 216 = .ok (.aload_n 0, 1) := by decide +kernel
theorem dX0_make_217 : decode cX0_make 217 = .ok (.getfield 14, 3) := by decide +kernel
theorem dX0_make_220 : decode cX0_make 220 = .ok (.aload_n 1, 1) := by decide +kernel
theorem dX0_make_221 : decode cX0_make 221 = .ok (.getfield 39, 3) := by decide +kernel
theorem dX0_make_224 : decode cX0_make 224 = .ok (.iload_n 3, 1) := by decide +kernel
theorem dX0_make_225 : decode cX0_make 225 = .ok (.aload_n 1, 1) := by decide +kernel
theorem dX0_make_226 : decode cX0_make 226 = .ok (.getfield 39, 3) := by decide +kernel
theorem dX0_make_229 : decode cX0_make 229 = .ok (.invokevirtual 57, 3) := by decide +kernel
theorem dX0_make_232 : decode cX0_make 232 = .ok (.invokevirtual 50, 3) := by decide +kernel
theorem dX0_make_235 : decode cX0_make 235 = .ok (.ifCond .eq 7, 3) := by decide +kernel
theorem dX0_make_238 : decode cX0_make 238 = .ok (.iconst 1, 1) := by decide +kernel
theorem dX0_make_239 : decode cX0_make 239 = .ok (.goto 4, 3) := by decide +kernel
theorem dX0_make_243 : decode cX0_make 243 = .ok (.ireturn, 1) := by decide +kernel
theorem dX1_bytesInPieces_0 : decode cX1_bytesInPieces 0 = .ok (.iconst 0, 1) := by decide +kernel
theorem dX1_bytesInPieces_1 : decode cX1_bytesInPieces 1 = .ok (.istore_n 1, 1) := by decide +kernel
theorem dX1_bytesInPieces_2 : decode cX1_bytesInPieces 2 = .ok (.iconst 0, 1) := by decide +kernel
theorem dX1_bytesInPieces_3 : decode cX1_bytesInPieces 3 = .ok (.istore_n 2, 1) := by decide +kernel
theorem dX1_bytesInPieces_4 : decode cX1_bytesInPieces 4 = .ok (.iload_n 2, 1) := by decide +kernel
theorem dX1_bytesInPieces_5 : decode cX1_bytesInPieces 5 = .ok (.aload_n 0, 1) := by decide +kernel
theorem dX1_bytesInPieces_6 : decode cX1_bytesInPieces 6 = .ok (.getfield 46, 3) := by decide +kernel
theorem dX1_bytesInPieces_9 : decode cX1_bytesInPieces 9 = .ok (.if_icmp .ge 35, 3) := by decide +kernel
theorem dX1_bytesInPieces_44 : decode cX1_bytesInPieces 44 = .ok (.iload_n 1, 1) := by decide +kernel
theorem dX1_bytesInPieces_45 : decode cX1_bytesInPieces 45 = .ok (.ireturn, 1) := by decide +kernel
theorem dX1_find_0 : decode cX1_find 0 = .ok (.aload_n 0, 1) := by decide +kernel
theorem dX1_find_1 : decode cX1_find 1 = .ok (.iconst 0, 1) := by decide +kernel
theorem dX1_find_2 : decode cX1_find 2 = .ok (.putfield 46, 3) := by decide +kernel
theorem dX1_find_5 : decode cX1_find 5 = .ok (.aload_n 0, 1) := by decide +kernel
theorem dX1_find_6 : decode cX1_find 6 = .ok (.getfield 14, 3) := by decide +kernel
theorem dX1_find_9 : decode cX1_find 9 = .ok (.iconst 0, 1) := by decide +kernel
theorem dX1_find_10 : decode cX1_find 10 = .ok (.invokevirtual 50, 3) := by decide +kernel
theorem dX1_find_13 : decode cX1_find 13 = .ok (.aload_n 0, 1) := by decide +kernel
theorem dX1_find_14 : decode cX1_find 14 = .ok (.getfield 20, 3) := by decide +kernel
theorem dX1_find_17 : decode cX1_find 17 = .ok (.iconst 0, 1) := by decide +kernel
theorem dX1_find_18 : decode cX1_find 18 = .ok (.invokevirtual 50, 3) := by decide +kernel
theorem dX1_find_21 : decode cX1_find 21 = .ok (.aload_n 0, 1) := by decide +kernel
theorem dX1_find_22 : decode cX1_find 22 = .ok (.getfield 32, 3) := by decide +kernel
theorem dX1_find_25 : decode cX1_find 25 = .ok (.aload_n 1, 1) := by decide +kernel
theorem dX1_find_26 : decode cX1_find 26 = .ok (.aload_n 2, 1) := by decide +kernel
theorem dX1_find_27 : decode cX1_find 27 = .ok (.getfield 53, 3) := by decide +kernel
theorem dX1_find_30 : decode cX1_find 30 = .ok (.invokevirtual 58, 3) := by decide +kernel
theorem dX1_find_33 : decode cX1_find 33 = .ok (.iconst 0, 1) := by decide +kernel
theorem dX1_find_34 : decode cX1_find 34 = .ok (.istore_n 3, 1) := by decide +kernel
theorem dX1_find_35 : decode cX1_find 35 = .ok (.iload_n 3, 1) := by decide +kernel
theorem dX1_find_36 : decode cX1_find 36 = .ok (.sipush 600, 3) := by decide +kernel
theorem dX1_find_39 : decode cX1_find 39 = .ok (.if_icmp .gt 135, 3) := by decide +kernel
theorem dX1_find_42 : decode cX1_find 42 = .ok (.aload_n 0, 1) := by decide +kernel
theorem dX1_find_43 : decode cX1_find 43 = .ok (.getfield 46, 3) := by decide +kernel
theorem dX1_find_46 : decode cX1_find 46 = .ok (.aload_n 0, 1) := by decide +kernel
theorem dX1_find_47 : decode cX1_find 47 = .ok (.getfield 41, 3) := by decide +kernel
theorem dX1_find_50 : decode cX1_find 50 = .ok (.arraylength, 1) := by decide +kernel
theorem dX1_find_51 : decode cX1_find 51 = .ok (.if_icmp .ge 123, 3) := by decide +kernel
theorem dX1_find_54 : decode cX1_find 54 = .ok (.aload_n 0, 1) := by decide +kernel
theorem dX1_find_55 : decode cX1_find 55 = .ok (.getfield 32, 3) := by decide +kernel
theorem dX1_find_58 : decode cX1_find 58 = .ok (.invokevirtual 62, 3) := by decide +kernel
theorem dX1_find_61 : decode cX1_find 61 = .ok (.ifCond .eq 113, 3) := by decide +kernel
theorem dX1_find_174 : decode cX1_find 174 = .ok (.return_, 1) := by decide +kernel
theorem dX1_get_0 : decode cX1_get 0 = .ok (.iload_n 1, 1) := by decide +kernel
theorem dX1_get_1 : decode cX1_get 1 = .ok (.ifCond .lt 29, 3) := by decide +kernel
theorem dX1_get_4 : decode cX1_get 4 = .ok (.iload_n 1, 1) := by decide +kernel
theorem dX1_get_5 : decode cX1_get 5 = .ok (.aload_n 0, 1) := by decide +kernel
theorem dX1_get_6 : decode cX1_get 6 = .ok (.getfield 46, 3) := by decide +kernel
theorem dX1_get_9 : decode cX1_get 9 = .ok (.if_icmp .ge 21, 3) := by decide +kernel
theorem dX1_get_30 : decode cX1_get 30 = .ok (.aconst_null, 1) := by decide +kernel
theorem dX1_get_31 : decode cX1_get 31 = .ok (.areturn, 1) := by decide +kernel
theorem dX1_longestText_0 : decode cX1_longestText 0 = .ok (.iconst 0, 1) := by decide +kernel
theorem dX1_longestText_1 : decode cX1_longestText 1 = .ok (.istore_n 1, 1) := by decide +kernel
theorem dX1_longestText_2 : decode cX1_longestText 2 = .ok (.iconst 0, 1) := by decide +kernel
theorem dX1_longestText_3 : decode cX1_longestText 3 = .ok (.istore_n 2, 1) := by decide +kernel
theorem dX1_longestText_4 : decode cX1_longestText 4 = .ok (.iload_n 2, 1) := by decide +kernel
theorem dX1_longestText_5 : decode cX1_longestText 5 = .ok (.aload_n 0, 1) := by decide +kernel
theorem dX1_longestText_6 : decode cX1_longestText 6 = .ok (.getfield 46, 3) := by decide +kernel
theorem dX1_longestText_9 : decode cX1_longestText 9 = .ok (.if_icmp .ge 32, 3) := by decide +kernel
theorem dX1_longestText_41 : decode cX1_longestText 41 = .ok (.iload_n 1, 1) := by decide +kernel
theorem dX1_longestText_42 : decode cX1_longestText 42 = .ok (.ireturn, 1) := by decide +kernel
theorem dX1_size_0 : decode cX1_size 0 = .ok (.aload_n 0, 1) := by decide +kernel
theorem dX1_size_1 : decode cX1_size 1 = .ok (.getfield 46, 3) := by decide +kernel
theorem dX1_size_4 : decode cX1_size 4 = .ok (.ireturn, 1) := by decide +kernel
theorem dX1_unlikeCount_0 : decode cX1_unlikeCount 0 = .ok (.iconst 0, 1) := by decide +kernel
theorem dX1_unlikeCount_1 : decode cX1_unlikeCount 1 = .ok (.istore_n 1, 1) := by decide +kernel
theorem dX1_unlikeCount_2 : decode cX1_unlikeCount 2 = .ok (.iconst 0, 1) := by decide +kernel
theorem dX1_unlikeCount_3 : decode cX1_unlikeCount 3 = .ok (.istore_n 2, 1) := by decide +kernel
theorem dX1_unlikeCount_4 : decode cX1_unlikeCount 4 = .ok (.iload_n 2, 1) := by decide +kernel
theorem dX1_unlikeCount_5 : decode cX1_unlikeCount 5 = .ok (.aload_n 0, 1) := by decide +kernel
theorem dX1_unlikeCount_6 : decode cX1_unlikeCount 6 = .ok (.getfield 46, 3) := by decide +kernel
theorem dX1_unlikeCount_9 : decode cX1_unlikeCount 9 = .ok (.if_icmp .ge 20, 3) := by decide +kernel
theorem dX1_unlikeCount_29 : decode cX1_unlikeCount 29 = .ok (.iload_n 1, 1) := by decide +kernel
theorem dX1_unlikeCount_30 : decode cX1_unlikeCount 30 = .ok (.ireturn, 1) := by decide +kernel
theorem dX4_start_0 : decode cX4_start 0 = .ok (.aload_n 0, 1) := by decide +kernel
theorem dX4_start_1 : decode cX4_start 1 = .ok (.aload_n 1, 1) := by decide +kernel
theorem dX4_start_2 : decode cX4_start 2 = .ok (.putfield 14, 3) := by decide +kernel
theorem dX4_start_5 : decode cX4_start 5 = .ok (.aload_n 0, 1) := by decide +kernel
theorem dX4_start_6 : decode cX4_start 6 = .ok (.aload_n 0, 1) := by decide +kernel
theorem dX4_start_7 : decode cX4_start 7 = .ok (.getfield 14, 3) := by decide +kernel
theorem dX4_start_10 : decode cX4_start 10 = .ok (.iconst 0, 1) := by decide +kernel
theorem dX4_start_11 : decode cX4_start 11 = .ok (.aload_n 0, 1) := by decide +kernel
theorem dX4_start_12 : decode cX4_start 12 = .ok (.getfield 14, 3) := by decide +kernel
theorem dX4_start_15 : decode cX4_start 15 = .ok (.invokevirtual 20, 3) := by decide +kernel
theorem dX4_start_18 : decode cX4_start 18 = .ok (.invokevirtual 24, 3) := by decide +kernel
theorem dX4_start_21 : decode cX4_start 21 = .ok (.putfield 28, 3) := by decide +kernel
theorem dX4_start_24 : decode cX4_start 24 = .ok (.aload_n 0, 1) := by decide +kernel
theorem dX4_start_25 : decode cX4_start 25 = .ok (.aload_n 0, 1) := by decide +kernel
theorem dX4_start_26 : decode cX4_start 26 = .ok (.getfield 28, 3) := by decide +kernel
theorem dX4_start_29 : decode cX4_start 29 = .ok (.aload_n 0, 1) := by decide +kernel
theorem dX4_start_30 : decode cX4_start 30 = .ok (.getfield 14, 3) := by decide +kernel
theorem dX4_start_33 : decode cX4_start 33 = .ok (.invokevirtual 20, 3) := by decide +kernel
theorem dX4_start_36 : decode cX4_start 36 = .ok (.if_icmp .ge 7, 3) := by decide +kernel
theorem dX4_start_43 : decode cX4_start 43 = .ok (.iconst 0, 1) := by decide +kernel
theorem dX4_start_44 : decode cX4_start 44 = .ok (.putfield 32, 3) := by decide +kernel
theorem dX4_start_47 : decode cX4_start 47 = .ok (.return_, 1) := by decide +kernel
theorem dX5_add_0 : decode cX5_add 0 = .ok (.aload_n 0, 1) := by decide +kernel
theorem dX5_add_1 : decode cX5_add 1 = .ok (.getfield 15, 3) := by decide +kernel
theorem dX5_add_4 : decode cX5_add 4 = .ok (.ifCond .lt 15, 3) := by decide +kernel
theorem dX5_add_7 : decode cX5_add 7 = .ok (.aload_n 0, 1) := by decide +kernel
theorem dX5_add_8 : decode cX5_add 8 = .ok (.getfield 15, 3) := by decide +kernel
theorem dX5_add_11 : decode cX5_add 11 = .ok (.aload_n 0, 1) := by decide +kernel
theorem dX5_add_12 : decode cX5_add 12 = .ok (.getfield 9, 3) := by decide +kernel
theorem dX5_add_15 : decode cX5_add 15 = .ok (.arraylength, 1) := by decide +kernel
theorem dX5_add_16 : decode cX5_add 16 = .ok (.if_icmp .lt 5, 3) := by decide +kernel
theorem dX5_add_21 : decode cX5_add 21 = .ok (.aload_n 0, 1) := by decide +kernel
theorem dX5_add_22 : decode cX5_add 22 = .ok (.getfield 9, 3) := by decide +kernel
theorem dX5_add_25 : decode cX5_add 25 = .ok (.aload_n 0, 1) := by decide +kernel
theorem dX5_add_26 : decode cX5_add 26 = .ok (.getfield 15, 3) := by decide +kernel
theorem dX5_add_29 : decode cX5_add 29 = .ok (.iload_n 1, 1) := by decide +kernel
theorem dX5_add_30 : decode cX5_add 30 = .ok (.iastore, 1) := by decide +kernel
theorem dX5_add_31 : decode cX5_add 31 = .ok (.aload_n 0, 1) := by decide +kernel
theorem dX5_add_32 : decode cX5_add 32 = .ok (.dup, 1) := by decide +kernel
theorem dX5_add_33 : decode cX5_add 33 = .ok (.getfield 15, 3) := by decide +kernel
theorem dX5_add_36 : decode cX5_add 36 = .ok (.iconst 1, 1) := by decide +kernel
theorem dX5_add_37 : decode cX5_add 37 = .ok (.iadd, 1) := by decide +kernel
theorem dX5_add_38 : decode cX5_add 38 = .ok (.putfield 15, 3) := by decide +kernel
theorem dX5_add_41 : decode cX5_add 41 = .ok (.iconst 1, 1) := by decide +kernel
theorem dX5_add_42 : decode cX5_add 42 = .ok (.ireturn, 1) := by decide +kernel
theorem dX5_addPart_0 : decode cX5_addPart 0 = .ok (.iconst 1, 1) := by decide +kernel
theorem dX5_addPart_1 : decode cX5_addPart 1 = .ok (.istore 4, 2) := by decide +kernel
theorem dX5_addPart_3 : decode cX5_addPart 3 = .ok (.iload_n 2, 1) := by decide +kernel
theorem dX5_addPart_4 : decode cX5_addPart 4 = .ok (.istore 5, 2) := by decide +kernel
theorem dX5_addPart_6 : decode cX5_addPart 6 = .ok (.iload 5, 2) := by decide +kernel
theorem dX5_addPart_8 : decode cX5_addPart 8 = .ok (.iload_n 3, 1) := by decide +kernel
theorem dX5_addPart_9 : decode cX5_addPart 9 = .ok (.if_icmp .ge 26, 3) := by decide +kernel
theorem dX5_addPart_35 : decode cX5_addPart 35 = .ok (.iload 4, 2) := by decide +kernel
theorem dX5_addPart_37 : decode cX5_addPart 37 = .ok (.ireturn, 1) := by decide +kernel
theorem dX5_behindBlanks_0 : decode cX5_behindBlanks 0 = .ok (.iload_n 1, 1) := by decide +kernel
theorem dX5_behindBlanks_1 : decode cX5_behindBlanks 1 = .ok (.istore_n 3, 1) := by decide +kernel
theorem dX5_behindBlanks_2 : decode cX5_behindBlanks 2 = .ok (.iload_n 3, 1) := by decide +kernel
theorem dX5_behindBlanks_3 : decode cX5_behindBlanks 3 = .ok (.ifCond .lt 36, 3) := by decide +kernel
theorem dX5_behindBlanks_6 : decode cX5_behindBlanks 6 = .ok (.iload_n 3, 1) := by decide +kernel
theorem dX5_behindBlanks_7 : decode cX5_behindBlanks 7 = .ok (.iload_n 2, 1) := by decide +kernel
theorem dX5_behindBlanks_8 : decode cX5_behindBlanks 8 = .ok (.if_icmp .ge 31, 3) := by decide +kernel
theorem dX5_behindBlanks_39 : decode cX5_behindBlanks 39 = .ok (.iload_n 2, 1) := by decide +kernel
theorem dX5_behindBlanks_40 : decode cX5_behindBlanks 40 = .ok (.ireturn, 1) := by decide +kernel
theorem dX5_cutTo_0 : decode cX5_cutTo 0 = .ok (.iload_n 1, 1) := by decide +kernel
theorem dX5_cutTo_1 : decode cX5_cutTo 1 = .ok (.ifCond .lt 16, 3) := by decide +kernel
theorem dX5_cutTo_4 : decode cX5_cutTo 4 = .ok (.iload_n 1, 1) := by decide +kernel
theorem dX5_cutTo_5 : decode cX5_cutTo 5 = .ok (.aload_n 0, 1) := by decide +kernel
theorem dX5_cutTo_6 : decode cX5_cutTo 6 = .ok (.getfield 15, 3) := by decide +kernel
theorem dX5_cutTo_9 : decode cX5_cutTo 9 = .ok (.if_icmp .ge 8, 3) := by decide +kernel
theorem dX5_cutTo_17 : decode cX5_cutTo 17 = .ok (.return_, 1) := by decide +kernel
theorem dX5_get_0 : decode cX5_get 0 = .ok (.iload_n 1, 1) := by decide +kernel
theorem dX5_get_1 : decode cX5_get 1 = .ok (.ifCond .lt 29, 3) := by decide +kernel
theorem dX5_get_4 : decode cX5_get 4 = .ok (.iload_n 1, 1) := by decide +kernel
theorem dX5_get_5 : decode cX5_get 5 = .ok (.aload_n 0, 1) := by decide +kernel
theorem dX5_get_6 : decode cX5_get 6 = .ok (.getfield 15, 3) := by decide +kernel
theorem dX5_get_9 : decode cX5_get 9 = .ok (.if_icmp .ge 21, 3) := by decide +kernel
theorem dX5_get_30 : decode cX5_get 30 = .ok (.iconst (-1), 1) := by decide +kernel
theorem dX5_get_31 : decode cX5_get 31 = .ok (.ireturn, 1) := by decide +kernel
theorem dX5_isWord_0 : decode cX5_isWord 0 = .ok (.iconst 0, 1) := by decide +kernel
theorem dX5_isWord_1 : decode cX5_isWord 1 = .ok (.istore_n 1, 1) := by decide +kernel
theorem dX5_isWord_2 : decode cX5_isWord 2 = .ok (.iload_n 1, 1) := by decide +kernel
theorem dX5_isWord_3 : decode cX5_isWord 3 = .ok (.aload_n 0, 1) := by decide +kernel
theorem dX5_isWord_4 : decode cX5_isWord 4 = .ok (.getfield 15, 3) := by decide +kernel
theorem dX5_isWord_7 : decode cX5_isWord 7 = .ok (.if_icmp .ge 31, 3) := by decide +kernel
theorem dX5_isWord_38 : decode cX5_isWord 38 = .ok (.aload_n 0, 1) := by decide +kernel
theorem dX5_isWord_39 : decode cX5_isWord 39 = .ok (.getfield 15, 3) := by decide +kernel
theorem dX5_isWord_42 : decode cX5_isWord 42 = .ok (.iconst 1, 1) := by decide +kernel
theorem dX5_isWord_43 : decode cX5_isWord 43 = .ok (.if_icmp .lt 16, 3) := by decide +kernel
theorem dX5_isWord_59 : decode cX5_isWord 59 = .ok (.iconst 0, 1) := by decide +kernel
theorem dX5_isWord_60 : decode cX5_isWord 60 = .ok (.ireturn, 1) := by decide +kernel
theorem dX5_part_0 : decode cX5_part 0 = .ok (.new 10, 3) := by decide +kernel
theorem dX5_part_3 : decode cX5_part 3 = .ok (.dup, 1) := by decide +kernel
theorem dX5_part_4 : decode cX5_part 4 = .ok (.iload_n 2, 1) := by decide +kernel
theorem dX5_part_5 : decode cX5_part 5 = .ok (.invokespecial 27, 3) := by decide +kernel
theorem dX5_part_8 : decode cX5_part 8 = .ok (.astore_n 3, 1) := by decide +kernel
theorem dX5_part_9 : decode cX5_part 9 = .ok (.aload_n 3, 1) := by decide +kernel
theorem dX5_part_10 : decode cX5_part 10 = .ok (.aload_n 0, 1) := by decide +kernel
theorem dX5_part_11 : decode cX5_part 11 = .ok (.iload_n 1, 1) := by decide +kernel
theorem dX5_part_12 : decode cX5_part 12 = .ok (.iload_n 1, 1) := by decide +kernel
theorem dX5_part_13 : decode cX5_part 13 = .ok (.iload_n 2, 1) := by decide +kernel
theorem dX5_part_14 : decode cX5_part 14 = .ok (.iadd, 1) := by decide +kernel
theorem dX5_part_15 : decode cX5_part 15 = .ok (.invokevirtual 30, 3) := by decide +kernel
theorem dX5_part_18 : decode cX5_part 18 = .ok (.pop, 1) := by decide +kernel
theorem dX5_part_19 : decode cX5_part 19 = .ok (.aload_n 3, 1) := by decide +kernel
theorem dX5_part_20 : decode cX5_part 20 = .ok (.areturn, 1) := by decide +kernel
theorem dX5_size_0 : decode cX5_size 0 = .ok (.aload_n 0, 1) := by decide +kernel
theorem dX5_size_1 : decode cX5_size 1 = .ok (.getfield 15, 3) := by decide +kernel
theorem dX5_size_4 : decode cX5_size 4 = .ok (.ireturn, 1) := by decide +kernel
theorem dX6_next_0 : decode cX6_next 0 = .ok (.iconst 0, 1) := by decide +kernel
theorem dX6_next_1 : decode cX6_next 1 = .ok (.istore_n 1, 1) := by decide +kernel
theorem dX6_next_2 : decode cX6_next 2 = .ok (.iload_n 1, 1) := by decide +kernel
theorem dX6_next_3 : decode cX6_next 3 = .ok (.sipush 600, 3) := by decide +kernel
theorem dX6_next_6 : decode cX6_next 6 = .ok (.if_icmp .gt 90, 3) := by decide +kernel
theorem dX6_next_9 : decode cX6_next 9 = .ok (.aload_n 0, 1) := by decide +kernel
theorem dX6_next_10 : decode cX6_next 10 = .ok (.getfield 24, 3) := by decide +kernel
theorem dX6_next_13 : decode cX6_next 13 = .ok (.aload_n 0, 1) := by decide +kernel
theorem dX6_next_14 : decode cX6_next 14 = .ok (.getfield 14, 3) := by decide +kernel
theorem dX6_next_17 : decode cX6_next 17 = .ok (.invokevirtual 37, 3) := by decide +kernel
theorem dX6_next_20 : decode cX6_next 20 = .ok (.if_icmp .ge 76, 3) := by decide +kernel
theorem dX6_next_96 : decode cX6_next 96 = .ok (.iconst 0, 1) := by decide +kernel
theorem dX6_next_97 : decode cX6_next 97 = .ok (.ireturn, 1) := by decide +kernel
theorem dX6_start_0 : decode cX6_start 0 = .ok (.aload_n 0, 1) := by decide +kernel
theorem dX6_start_1 : decode cX6_start 1 = .ok (.aload_n 1, 1) := by decide +kernel
theorem dX6_start_2 : decode cX6_start 2 = .ok (.putfield 14, 3) := by decide +kernel
theorem dX6_start_5 : decode cX6_start 5 = .ok (.aload_n 0, 1) := by decide +kernel
theorem dX6_start_6 : decode cX6_start 6 = .ok (.iload_n 2, 1) := by decide +kernel
theorem dX6_start_7 : decode cX6_start 7 = .ok (.putfield 20, 3) := by decide +kernel
theorem dX6_start_10 : decode cX6_start 10 = .ok (.aload_n 0, 1) := by decide +kernel
theorem dX6_start_11 : decode cX6_start 11 = .ok (.iconst 0, 1) := by decide +kernel
theorem dX6_start_12 : decode cX6_start 12 = .ok (.putfield 24, 3) := by decide +kernel
theorem dX6_start_15 : decode cX6_start 15 = .ok (.aload_n 0, 1) := by decide +kernel
theorem dX6_start_16 : decode cX6_start 16 = .ok (.iconst 0, 1) := by decide +kernel
theorem dX6_start_17 : decode cX6_start 17 = .ok (.putfield 27, 3) := by decide +kernel
theorem dX6_start_20 : decode cX6_start 20 = .ok (.aload_n 0, 1) := by decide +kernel
theorem dX6_start_21 : decode cX6_start 21 = .ok (.iconst 0, 1) := by decide +kernel
theorem dX6_start_22 : decode cX6_start 22 = .ok (.putfield 31, 3) := by decide +kernel
theorem dX6_start_25 : decode cX6_start 25 = .ok (.aload_n 0, 1) := by decide +kernel
theorem dX6_start_26 : decode cX6_start 26 = .ok (.iconst 0, 1) := by decide +kernel
theorem dX6_start_27 : decode cX6_start 27 = .ok (.putfield 34, 3) := by decide +kernel
theorem dX6_start_30 : decode cX6_start 30 = .ok (.return_, 1) := by decide +kernel
theorem dX7_copyFrom_0 : decode cX7_copyFrom 0 = .ok (.aload_n 0, 1) := by decide +kernel
theorem dX7_copyFrom_1 : decode cX7_copyFrom 1 = .ok (.aload_n 1, 1) := by decide +kernel
theorem dX7_copyFrom_2 : decode cX7_copyFrom 2 = .ok (.getfield 14, 3) := by decide +kernel
theorem dX7_copyFrom_5 : decode cX7_copyFrom 5 = .ok (.putfield 14, 3) := by decide +kernel
theorem dX7_copyFrom_8 : decode cX7_copyFrom 8 = .ok (.aload_n 0, 1) := by decide +kernel
theorem dX7_copyFrom_9 : decode cX7_copyFrom 9 = .ok (.aload_n 1, 1) := by decide +kernel
theorem dX7_copyFrom_10 : decode cX7_copyFrom 10 = .ok (.getfield 20, 3) := by decide +kernel
theorem dX7_copyFrom_13 : decode cX7_copyFrom 13 = .ok (.putfield 20, 3) := by decide +kernel
theorem dX7_copyFrom_16 : decode cX7_copyFrom 16 = .ok (.aload_n 0, 1) := by decide +kernel
theorem dX7_copyFrom_17 : decode cX7_copyFrom 17 = .ok (.aload_n 1, 1) := by decide +kernel
theorem dX7_copyFrom_18 : decode cX7_copyFrom 18 = .ok (.getfield 24, 3) := by decide +kernel
theorem dX7_copyFrom_21 : decode cX7_copyFrom 21 = .ok (.putfield 24, 3) := by decide +kernel
