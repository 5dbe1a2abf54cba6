theorem dL_acts_0 : decode cL_acts 0 = .ok (.aload_n 1, 1) := by decide +kernel
theorem dL_acts_1 : decode cL_acts 1 = .ok (.iconst 0, 1) := by decide +kernel
theorem dL_acts_2 : decode cL_acts 2 = .ok (.aload_n 0, 1) := by decide +kernel
theorem dL_acts_3 : decode cL_acts 3 = .ok (.invokevirtual 7, 3) := by decide +kernel
theorem dL_acts_6 : decode cL_acts 6 = .ok (.i2l, 1) := by decide +kernel
theorem dL_acts_7 : decode cL_acts 7 = .ok (.lastore, 1) := by decide +kernel
theorem dL_acts_8 : decode cL_acts 8 = .ok (.goto 6, 3) := by decide +kernel
theorem dL_acts_11 : decode cL_acts 11 = .ok (.astore_n 2, 1) := by decide +kernel
theorem dL_acts_12 : decode cL_acts 12 = .ok (.iconst 1, 1) := by decide +kernel
theorem dL_acts_13 : decode cL_acts 13 = .ok (.ireturn, 1) := by decide +kernel
theorem dL_acts_14 : decode cL_acts 14 = .ok (.iconst 0, 1) := by decide +kernel
theorem dL_acts_15 : decode cL_acts 15 = .ok (.ireturn, 1) := by decide +kernel
theorem dL_found_0 : decode cL_found 0 = .ok (.aload_n 1, 1) := by decide +kernel
theorem dL_found_1 : decode cL_found 1 = .ok (.iconst 0, 1) := by decide +kernel
theorem dL_found_2 : decode cL_found 2 = .ok (.aload_n 0, 1) := by decide +kernel
theorem dL_found_3 : decode cL_found 3 = .ok (.invokevirtual 70, 3) := by decide +kernel
theorem dL_found_6 : decode cL_found 6 = .ok (.lastore, 1) := by decide +kernel
theorem dL_found_7 : decode cL_found 7 = .ok (.goto 6, 3) := by decide +kernel
theorem dL_found_10 : decode cL_found 10 = .ok (.astore_n 2, 1) := by decide +kernel
theorem dL_found_11 : decode cL_found 11 = .ok (.iconst 1, 1) := by decide +kernel
theorem dL_found_12 : decode cL_found 12 = .ok (.ireturn, 1) := by decide +kernel
theorem dL_found_13 : decode cL_found 13 = .ok (.iconst 0, 1) := by decide +kernel
theorem dL_found_14 : decode cL_found 14 = .ok (.ireturn, 1) := by decide +kernel
theorem dL_free_0 : decode cL_free 0 = .ok (.aload_n 2, 1) := by decide +kernel
theorem dL_free_1 : decode cL_free 1 = .ok (.iconst 0, 1) := by decide +kernel
theorem dL_free_2 : decode cL_free 2 = .ok (.aload_n 0, 1) := by decide +kernel
theorem dL_free_3 : decode cL_free 3 = .ok (.iload_n 1, 1) := by decide +kernel
theorem dL_free_4 : decode cL_free 4 = .ok (.invokevirtual 34, 3) := by decide +kernel
theorem dL_free_7 : decode cL_free 7 = .ok (.i2l, 1) := by decide +kernel
theorem dL_free_8 : decode cL_free 8 = .ok (.lastore, 1) := by decide +kernel
theorem dL_free_9 : decode cL_free 9 = .ok (.goto 6, 3) := by decide +kernel
theorem dL_free_12 : decode cL_free 12 = .ok (.astore_n 3, 1) := by decide +kernel
theorem dL_free_13 : decode cL_free 13 = .ok (.iconst 1, 1) := by decide +kernel
theorem dL_free_14 : decode cL_free 14 = .ok (.ireturn, 1) := by decide +kernel
theorem dL_free_15 : decode cL_free 15 = .ok (.iconst 0, 1) := by decide +kernel
theorem dL_free_16 : decode cL_free 16 = .ok (.ireturn, 1) := by decide +kernel
theorem dL_kept_0 : decode cL_kept 0 = .ok (.aload_n 2, 1) := by decide +kernel
theorem dL_kept_1 : decode cL_kept 1 = .ok (.iconst 0, 1) := by decide +kernel
theorem dL_kept_2 : decode cL_kept 2 = .ok (.aload_n 0, 1) := by decide +kernel
theorem dL_kept_3 : decode cL_kept 3 = .ok (.iload_n 1, 1) := by decide +kernel
theorem dL_kept_4 : decode cL_kept 4 = .ok (.invokevirtual 74, 3) := by decide +kernel
theorem dL_kept_7 : decode cL_kept 7 = .ok (.ifCond .eq 7, 3) := by decide +kernel
theorem dL_kept_10 : decode cL_kept 10 = .ok (.lconst 1, 1) := by decide +kernel
theorem dL_kept_11 : decode cL_kept 11 = .ok (.goto 4, 3) := by decide +kernel
theorem dL_kept_14 : decode cL_kept 14 = .ok (.lconst 0, 1) := by decide +kernel
theorem dL_kept_15 : decode cL_kept 15 = .ok (.lastore, 1) := by decide +kernel
theorem dL_kept_16 : decode cL_kept 16 = .ok (.goto 6, 3) := by decide +kernel
theorem dL_kept_19 : decode cL_kept 19 = .ok (.astore_n 3, 1) := by decide +kernel
theorem dL_kept_20 : decode cL_kept 20 = .ok (.iconst 1, 1) := by decide +kernel
theorem dL_kept_21 : decode cL_kept 21 = .ok (.ireturn, 1) := by decide +kernel
theorem dL_kept_22 : decode cL_kept 22 = .ok (.iconst 0, 1) := by decide +kernel
theorem dL_kept_23 : decode cL_kept 23 = .ok (.ireturn, 1) := by decide +kernel
theorem dL_key_0 : decode cL_key 0 = .ok (.aload_n 3, 1) := by decide +kernel
theorem dL_key_1 : decode cL_key 1 = .ok (.iconst 0, 1) := by decide +kernel
theorem dL_key_2 : decode cL_key 2 = .ok (.aload_n 0, 1) := by decide +kernel
theorem dL_key_3 : decode cL_key 3 = .ok (.iload_n 1, 1) := by decide +kernel
theorem dL_key_4 : decode cL_key 4 = .ok (.iload_n 2, 1) := by decide +kernel
theorem dL_key_5 : decode cL_key 5 = .ok (.invokevirtual 61, 3) := by decide +kernel
theorem dL_key_8 : decode cL_key 8 = .ok (.i2l, 1) := by decide +kernel
theorem dL_key_9 : decode cL_key 9 = .ok (.lastore, 1) := by decide +kernel
theorem dL_key_10 : decode cL_key 10 = .ok (.goto 11, 3) := by decide +kernel
theorem dL_key_13 : decode cL_key 13 = .ok (.astore 4, 2) := by decide +kernel
theorem dL_key_15 : decode cL_key 15 = .ok (.iconst 1, 1) := by decide +kernel
theorem dL_key_16 : decode cL_key 16 = .ok (.ireturn, 1) := by decide +kernel
theorem dL_key_17 : decode cL_key 17 = .ok (.astore 4, 2) := by decide +kernel
theorem dL_key_19 : decode cL_key 19 = .ok (.iconst 2, 1) := by decide +kernel
theorem dL_key_20 : decode cL_key 20 = .ok (.ireturn, 1) := by decide +kernel
theorem dL_key_21 : decode cL_key 21 = .ok (.iconst 0, 1) := by decide +kernel
theorem dL_key_22 : decode cL_key 22 = .ok (.ireturn, 1) := by decide +kernel
theorem dL_kind_0 : decode cL_kind 0 = .ok (.aload_n 3, 1) := by decide +kernel
theorem dL_kind_1 : decode cL_kind 1 = .ok (.iconst 0, 1) := by decide +kernel
theorem dL_kind_2 : decode cL_kind 2 = .ok (.aload_n 0, 1) := by decide +kernel
theorem dL_kind_3 : decode cL_kind 3 = .ok (.iload_n 1, 1) := by decide +kernel
theorem dL_kind_4 : decode cL_kind 4 = .ok (.iload_n 2, 1) := by decide +kernel
theorem dL_kind_5 : decode cL_kind 5 = .ok (.invokevirtual 15, 3) := by decide +kernel
theorem dL_kind_8 : decode cL_kind 8 = .ok (.i2l, 1) := by decide +kernel
theorem dL_kind_9 : decode cL_kind 9 = .ok (.lastore, 1) := by decide +kernel
theorem dL_kind_10 : decode cL_kind 10 = .ok (.goto 7, 3) := by decide +kernel
theorem dL_kind_13 : decode cL_kind 13 = .ok (.astore 4, 2) := by decide +kernel
theorem dL_kind_15 : decode cL_kind 15 = .ok (.iconst 1, 1) := by decide +kernel
theorem dL_kind_16 : decode cL_kind 16 = .ok (.ireturn, 1) := by decide +kernel
theorem dL_kind_17 : decode cL_kind 17 = .ok (.iconst 0, 1) := by decide +kernel
theorem dL_kind_18 : decode cL_kind 18 = .ok (.ireturn, 1) := by decide +kernel
theorem dL_like_0 : decode cL_like 0 = .ok (.aload_n 3, 1) := by decide +kernel
theorem dL_like_1 : decode cL_like 1 = .ok (.iconst 0, 1) := by decide +kernel
theorem dL_like_2 : decode cL_like 2 = .ok (.aload_n 0, 1) := by decide +kernel
theorem dL_like_3 : decode cL_like 3 = .ok (.iload_n 1, 1) := by decide +kernel
theorem dL_like_4 : decode cL_like 4 = .ok (.iload_n 2, 1) := by decide +kernel
theorem dL_like_5 : decode cL_like 5 = .ok (.invokevirtual 64, 3) := by decide +kernel
theorem dL_like_8 : decode cL_like 8 = .ok (.i2l, 1) := by decide +kernel
theorem dL_like_9 : decode cL_like 9 = .ok (.lastore, 1) := by decide +kernel
theorem dL_like_10 : decode cL_like 10 = .ok (.goto 7, 3) := by decide +kernel
theorem dL_like_13 : decode cL_like 13 = .ok (.astore 4, 2) := by decide +kernel
theorem dL_like_15 : decode cL_like 15 = .ok (.iconst 1, 1) := by decide +kernel
theorem dL_like_16 : decode cL_like 16 = .ok (.ireturn, 1) := by decide +kernel
theorem dL_like_17 : decode cL_like 17 = .ok (.iconst 0, 1) := by decide +kernel
theorem dL_like_18 : decode cL_like 18 = .ok (.ireturn, 1) := by decide +kernel
theorem dL_lock_0 : decode cL_lock 0 = .ok (.aload_n 1, 1) := by decide +kernel
theorem dL_lock_1 : decode cL_lock 1 = .ok (.iconst 0, 1) := by decide +kernel
theorem dL_lock_2 : decode cL_lock 2 = .ok (.aload_n 0, 1) := by decide +kernel
theorem dL_lock_3 : decode cL_lock 3 = .ok (.invokevirtual 25, 3) := by decide +kernel
theorem dL_lock_6 : decode cL_lock 6 = .ok (.i2l, 1) := by decide +kernel
theorem dL_lock_7 : decode cL_lock 7 = .ok (.lastore, 1) := by decide +kernel
theorem dL_lock_8 : decode cL_lock 8 = .ok (.goto 9, 3) := by decide +kernel
theorem dL_lock_11 : decode cL_lock 11 = .ok (.astore_n 2, 1) := by decide +kernel
theorem dL_lock_12 : decode cL_lock 12 = .ok (.iconst 1, 1) := by decide +kernel
theorem dL_lock_13 : decode cL_lock 13 = .ok (.ireturn, 1) := by decide +kernel
theorem dL_lock_14 : decode cL_lock 14 = .ok (.astore_n 2, 1) := by decide +kernel
theorem dL_lock_15 : decode cL_lock 15 = .ok (.iconst 2, 1) := by decide +kernel
theorem dL_lock_16 : decode cL_lock 16 = .ok (.ireturn, 1) := by decide +kernel
theorem dL_lock_17 : decode cL_lock 17 = .ok (.iconst 0, 1) := by decide +kernel
theorem dL_lock_18 : decode cL_lock 18 = .ok (.ireturn, 1) := by decide +kernel
theorem dL_octet_0 : decode cL_octet 0 = .ok (.aload 4, 2) := by decide +kernel
theorem dL_octet_2 : decode cL_octet 2 = .ok (.iconst 0, 1) := by decide +kernel
theorem dL_octet_3 : decode cL_octet 3 = .ok (.aload_n 0, 1) := by decide +kernel
theorem dL_octet_4 : decode cL_octet 4 = .ok (.iload_n 1, 1) := by decide +kernel
theorem dL_octet_5 : decode cL_octet 5 = .ok (.iload_n 2, 1) := by decide +kernel
theorem dL_octet_6 : decode cL_octet 6 = .ok (.iload_n 3, 1) := by decide +kernel
theorem dL_octet_7 : decode cL_octet 7 = .ok (.invokevirtual 54, 3) := by decide +kernel
theorem dL_octet_10 : decode cL_octet 10 = .ok (.i2l, 1) := by decide +kernel
theorem dL_octet_11 : decode cL_octet 11 = .ok (.lastore, 1) := by decide +kernel
theorem dL_octet_12 : decode cL_octet 12 = .ok (.goto 7, 3) := by decide +kernel
theorem dL_octet_15 : decode cL_octet 15 = .ok (.astore 5, 2) := by decide +kernel
theorem dL_octet_17 : decode cL_octet 17 = .ok (.iconst 1, 1) := by decide +kernel
theorem dL_octet_18 : decode cL_octet 18 = .ok (.ireturn, 1) := by decide +kernel
theorem dL_octet_19 : decode cL_octet 19 = .ok (.iconst 0, 1) := by decide +kernel
theorem dL_octet_20 : decode cL_octet 20 = .ok (.ireturn, 1) := by decide +kernel
theorem dL_origin_0 : decode cL_origin 0 = .ok (.aload_n 3, 1) := by decide +kernel
theorem dL_origin_1 : decode cL_origin 1 = .ok (.iconst 0, 1) := by decide +kernel
theorem dL_origin_2 : decode cL_origin 2 = .ok (.aload_n 0, 1) := by decide +kernel
theorem dL_origin_3 : decode cL_origin 3 = .ok (.iload_n 1, 1) := by decide +kernel
theorem dL_origin_4 : decode cL_origin 4 = .ok (.iload_n 2, 1) := by decide +kernel
theorem dL_origin_5 : decode cL_origin 5 = .ok (.invokevirtual 58, 3) := by decide +kernel
theorem dL_origin_8 : decode cL_origin 8 = .ok (.i2l, 1) := by decide +kernel
theorem dL_origin_9 : decode cL_origin 9 = .ok (.lastore, 1) := by decide +kernel
theorem dL_origin_10 : decode cL_origin 10 = .ok (.goto 7, 3) := by decide +kernel
theorem dL_origin_13 : decode cL_origin 13 = .ok (.astore 4, 2) := by decide +kernel
theorem dL_origin_15 : decode cL_origin 15 = .ok (.iconst 1, 1) := by decide +kernel
theorem dL_origin_16 : decode cL_origin 16 = .ok (.ireturn, 1) := by decide +kernel
theorem dL_origin_17 : decode cL_origin 17 = .ok (.iconst 0, 1) := by decide +kernel
theorem dL_origin_18 : decode cL_origin 18 = .ok (.ireturn, 1) := by decide +kernel
theorem dL_piece_0 : decode cL_piece 0 = .ok (.aload_n 3, 1) := by decide +kernel
theorem dL_piece_1 : decode cL_piece 1 = .ok (.iconst 0, 1) := by decide +kernel
theorem dL_piece_2 : decode cL_piece 2 = .ok (.aload_n 0, 1) := by decide +kernel
theorem dL_piece_3 : decode cL_piece 3 = .ok (.iload_n 1, 1) := by decide +kernel
theorem dL_piece_4 : decode cL_piece 4 = .ok (.iload_n 2, 1) := by decide +kernel
theorem dL_piece_5 : decode cL_piece 5 = .ok (.invokevirtual 49, 3) := by decide +kernel
theorem dL_piece_8 : decode cL_piece 8 = .ok (.i2l, 1) := by decide +kernel
theorem dL_piece_9 : decode cL_piece 9 = .ok (.lastore, 1) := by decide +kernel
theorem dL_piece_10 : decode cL_piece 10 = .ok (.goto 11, 3) := by decide +kernel
theorem dL_piece_13 : decode cL_piece 13 = .ok (.astore 4, 2) := by decide +kernel
theorem dL_piece_15 : decode cL_piece 15 = .ok (.iconst 1, 1) := by decide +kernel
theorem dL_piece_16 : decode cL_piece 16 = .ok (.ireturn, 1) := by decide +kernel
theorem dL_piece_17 : decode cL_piece 17 = .ok (.astore 4, 2) := by decide +kernel
theorem dL_piece_19 : decode cL_piece 19 = .ok (.iconst 2, 1) := by decide +kernel
theorem dL_piece_20 : decode cL_piece 20 = .ok (.ireturn, 1) := by decide +kernel
theorem dL_piece_21 : decode cL_piece 21 = .ok (.iconst 0, 1) := by decide +kernel
theorem dL_piece_22 : decode cL_piece 22 = .ok (.ireturn, 1) := by decide +kernel
theorem dL_rule_0 : decode cL_rule 0 = .ok (.aload_n 3, 1) := by decide +kernel
theorem dL_rule_1 : decode cL_rule 1 = .ok (.iconst 0, 1) := by decide +kernel
theorem dL_rule_2 : decode cL_rule 2 = .ok (.aload_n 0, 1) := by decide +kernel
theorem dL_rule_3 : decode cL_rule 3 = .ok (.iload_n 1, 1) := by decide +kernel
theorem dL_rule_4 : decode cL_rule 4 = .ok (.iload_n 2, 1) := by decide +kernel
theorem dL_rule_5 : decode cL_rule 5 = .ok (.invokevirtual 19, 3) := by decide +kernel
theorem dL_rule_8 : decode cL_rule 8 = .ok (.i2l, 1) := by decide +kernel
theorem dL_rule_9 : decode cL_rule 9 = .ok (.lastore, 1) := by decide +kernel
theorem dL_rule_10 : decode cL_rule 10 = .ok (.goto 11, 3) := by decide +kernel
theorem dL_rule_13 : decode cL_rule 13 = .ok (.astore 4, 2) := by decide +kernel
theorem dL_rule_15 : decode cL_rule 15 = .ok (.iconst 1, 1) := by decide +kernel
theorem dL_rule_16 : decode cL_rule 16 = .ok (.ireturn, 1) := by decide +kernel
theorem dL_rule_17 : decode cL_rule 17 = .ok (.astore 4, 2) := by decide +kernel
theorem dL_rule_19 : decode cL_rule 19 = .ok (.iconst 2, 1) := by decide +kernel
theorem dL_rule_20 : decode cL_rule 20 = .ok (.ireturn, 1) := by decide +kernel
theorem dL_rule_21 : decode cL_rule 21 = .ok (.iconst 0, 1) := by decide +kernel
theorem dL_rule_22 : decode cL_rule 22 = .ok (.ireturn, 1) := by decide +kernel
theorem dL_spread_0 : decode cL_spread 0 = .ok (.aload_n 2, 1) := by decide +kernel
theorem dL_spread_1 : decode cL_spread 1 = .ok (.iconst 0, 1) := by decide +kernel
theorem dL_spread_2 : decode cL_spread 2 = .ok (.aload_n 0, 1) := by decide +kernel
theorem dL_spread_3 : decode cL_spread 3 = .ok (.iload_n 1, 1) := by decide +kernel
theorem dL_spread_4 : decode cL_spread 4 = .ok (.invokevirtual 37, 3) := by decide +kernel
theorem dL_spread_7 : decode cL_spread 7 = .ok (.i2l, 1) := by decide +kernel
theorem dL_spread_8 : decode cL_spread 8 = .ok (.lastore, 1) := by decide +kernel
theorem dL_spread_9 : decode cL_spread 9 = .ok (.goto 6, 3) := by decide +kernel
theorem dL_spread_12 : decode cL_spread 12 = .ok (.astore_n 3, 1) := by decide +kernel
theorem dL_spread_13 : decode cL_spread 13 = .ok (.iconst 1, 1) := by decide +kernel
theorem dL_spread_14 : decode cL_spread 14 = .ok (.ireturn, 1) := by decide +kernel
theorem dL_spread_15 : decode cL_spread 15 = .ok (.iconst 0, 1) := by decide +kernel
theorem dL_spread_16 : decode cL_spread 16 = .ok (.ireturn, 1) := by decide +kernel
theorem dL_swap_0 : decode cL_swap 0 = .ok (.aload_n 3, 1) := by decide +kernel
theorem dL_swap_1 : decode cL_swap 1 = .ok (.iconst 0, 1) := by decide +kernel
theorem dL_swap_2 : decode cL_swap 2 = .ok (.aload_n 0, 1) := by decide +kernel
theorem dL_swap_3 : decode cL_swap 3 = .ok (.iload_n 1, 1) := by decide +kernel
theorem dL_swap_4 : decode cL_swap 4 = .ok (.iload_n 2, 1) := by decide +kernel
theorem dL_swap_5 : decode cL_swap 5 = .ok (.invokevirtual 40, 3) := by decide +kernel
theorem dL_swap_8 : decode cL_swap 8 = .ok (.i2l, 1) := by decide +kernel
theorem dL_swap_9 : decode cL_swap 9 = .ok (.lastore, 1) := by decide +kernel
theorem dL_swap_10 : decode cL_swap 10 = .ok (.goto 7, 3) := by decide +kernel
theorem dL_swap_13 : decode cL_swap 13 = .ok (.astore 4, 2) := by decide +kernel
theorem dL_swap_15 : decode cL_swap 15 = .ok (.iconst 1, 1) := by decide +kernel
theorem dL_swap_16 : decode cL_swap 16 = .ok (.ireturn, 1) := by decide +kernel
theorem dL_swap_17 : decode cL_swap 17 = .ok (.iconst 0, 1) := by decide +kernel
theorem dL_swap_18 : decode cL_swap 18 = .ok (.ireturn, 1) := by decide +kernel
theorem dL_tell_0 : decode cL_tell 0 = .ok (.aload_n 2, 1) := by decide +kernel
theorem dL_tell_1 : decode cL_tell 1 = .ok (.iconst 0, 1) := by decide +kernel
theorem dL_tell_2 : decode cL_tell 2 = .ok (.aload_n 0, 1) := by decide +kernel
theorem dL_tell_3 : decode cL_tell 3 = .ok (.iload_n 1, 1) := by decide +kernel
theorem dL_tell_4 : decode cL_tell 4 = .ok (.invokevirtual 30, 3) := by decide +kernel
theorem dL_tell_7 : decode cL_tell 7 = .ok (.i2l, 1) := by decide +kernel
theorem dL_tell_8 : decode cL_tell 8 = .ok (.lastore, 1) := by decide +kernel
theorem dL_tell_9 : decode cL_tell 9 = .ok (.goto 9, 3) := by decide +kernel
theorem dL_tell_12 : decode cL_tell 12 = .ok (.astore_n 3, 1) := by decide +kernel
theorem dL_tell_13 : decode cL_tell 13 = .ok (.iconst 1, 1) := by decide +kernel
theorem dL_tell_14 : decode cL_tell 14 = .ok (.ireturn, 1) := by decide +kernel
theorem dL_tell_15 : decode cL_tell 15 = .ok (.astore_n 3, 1) := by decide +kernel
theorem dL_tell_16 : decode cL_tell 16 = .ok (.iconst 2, 1) := by decide +kernel
theorem dL_tell_17 : decode cL_tell 17 = .ok (.ireturn, 1) := by decide +kernel
theorem dL_tell_18 : decode cL_tell 18 = .ok (.iconst 0, 1) := by decide +kernel
theorem dL_tell_19 : decode cL_tell 19 = .ok (.ireturn, 1) := by decide +kernel
theorem dL_undo_0 : decode cL_undo 0 = .ok (.aload_n 1, 1) := by decide +kernel
theorem dL_undo_1 : decode cL_undo 1 = .ok (.iconst 0, 1) := by decide +kernel
theorem dL_undo_2 : decode cL_undo 2 = .ok (.aload_n 0, 1) := by decide +kernel
theorem dL_undo_3 : decode cL_undo 3 = .ok (.invokevirtual 46, 3) := by decide +kernel
theorem dL_undo_6 : decode cL_undo 6 = .ok (.i2l, 1) := by decide +kernel
theorem dL_undo_7 : decode cL_undo 7 = .ok (.lastore, 1) := by decide +kernel
theorem dL_undo_8 : decode cL_undo 8 = .ok (.goto 6, 3) := by decide +kernel
theorem dL_undo_11 : decode cL_undo 11 = .ok (.astore_n 2, 1) := by decide +kernel
theorem dL_undo_12 : decode cL_undo 12 = .ok (.iconst 1, 1) := by decide +kernel
theorem dL_undo_13 : decode cL_undo 13 = .ok (.ireturn, 1) := by decide +kernel
theorem dL_undo_14 : decode cL_undo 14 = .ok (.iconst 0, 1) := by decide +kernel
theorem dL_undo_15 : decode cL_undo 15 = .ok (.ireturn, 1) := by decide +kernel
theorem dL_wipe_0 : decode cL_wipe 0 = .ok (.aload_n 1, 1) := by decide +kernel
theorem dL_wipe_1 : decode cL_wipe 1 = .ok (.iconst 0, 1) := by decide +kernel
theorem dL_wipe_2 : decode cL_wipe 2 = .ok (.aload_n 0, 1) := by decide +kernel
theorem dL_wipe_3 : decode cL_wipe 3 = .ok (.invokevirtual 43, 3) := by decide +kernel
theorem dL_wipe_6 : decode cL_wipe 6 = .ok (.i2l, 1) := by decide +kernel
theorem dL_wipe_7 : decode cL_wipe 7 = .ok (.lastore, 1) := by decide +kernel
theorem dL_wipe_8 : decode cL_wipe 8 = .ok (.goto 6, 3) := by decide +kernel
theorem dL_wipe_11 : decode cL_wipe 11 = .ok (.astore_n 2, 1) := by decide +kernel
theorem dL_wipe_12 : decode cL_wipe 12 = .ok (.iconst 1, 1) := by decide +kernel
theorem dL_wipe_13 : decode cL_wipe 13 = .ok (.ireturn, 1) := by decide +kernel
theorem dL_wipe_14 : decode cL_wipe 14 = .ok (.iconst 0, 1) := by decide +kernel
theorem dL_wipe_15 : decode cL_wipe 15 = .ok (.ireturn, 1) := by decide +kernel
theorem dL_would_0 : decode cL_would 0 = .ok (.aload_n 2, 1) := by decide +kernel
theorem dL_would_1 : decode cL_would 1 = .ok (.iconst 0, 1) := by decide +kernel
theorem dL_would_2 : decode cL_would 2 = .ok (.aload_n 0, 1) := by decide +kernel
theorem dL_would_3 : decode cL_would 3 = .ok (.iload_n 1, 1) := by decide +kernel
theorem dL_would_4 : decode cL_would 4 = .ok (.invokevirtual 67, 3) := by decide +kernel
theorem dL_would_7 : decode cL_would 7 = .ok (.i2l, 1) := by decide +kernel
theorem dL_would_8 : decode cL_would 8 = .ok (.lastore, 1) := by decide +kernel
theorem dL_would_9 : decode cL_would 9 = .ok (.goto 9, 3) := by decide +kernel
theorem dL_would_12 : decode cL_would 12 = .ok (.astore_n 3, 1) := by decide +kernel
theorem dL_would_13 : decode cL_would 13 = .ok (.iconst 1, 1) := by decide +kernel
theorem dL_would_14 : decode cL_would 14 = .ok (.ireturn, 1) := by decide +kernel
theorem dL_would_15 : decode cL_would 15 = .ok (.astore_n 3, 1) := by decide +kernel
theorem dL_would_16 : decode cL_would 16 = .ok (.iconst 2, 1) := by decide +kernel
theorem dL_would_17 : decode cL_would 17 = .ok (.ireturn, 1) := by decide +kernel
theorem dL_would_18 : decode cL_would 18 = .ok (.iconst 0, 1) := by decide +kernel
theorem dL_would_19 : decode cL_would 19 = .ok (.ireturn, 1) := by decide +kernel
/-! the law's wrappers: what is answered goes into the long row out (id u), a throw becomes a number -/
def QW {α : Type} (cv : α → Int64) (code : String → Int32) (u : Nat) (g0 : Nat → Int64) (r : (α ⊕ String) × HpN) : Option Value → AH → Nat → Prop := fun v' f' n' =>
  (∃ v : α, r.1 = .inl v ∧ v' = some (.int 0) ∧ f' = va_up r.2.1 u (some (.inl (4, 1, .inr (.inl (vp_updL g0 0 (cv v)))))) ∧ n' = r.2.2) ∨ (∃ E : String, r.1 = .inr E ∧ v' = some (.int (code E)) ∧ f' = r.2.1 ∧ r.2.2 ≤ n')
def cvZ (x : Int32) : Int64 := if x = 0 then 0 else 1
theorem cvZ_0 {x : Int32} (h : x = 0) : cvZ x = 0 := if_pos h
theorem cvZ_1 {x : Int32} (h : ¬ x = 0) : cvZ x = 1 := if_neg h
theorem v1_in : vp_in (0 : Int32) 1 := by unfold vp_in; decide
def wc_L_acts (E : String) : Int32 := if E = eA then 1 else 0
set_option maxHeartbeats 1000000 in
theorem wr_L_acts {X : GX} {l : Launch} {f : AH} {n v0 u : Nat} {r : (Int32 ⊕ String) × HpN} {fs : List Value} {g0 : Nat → Int64} (hl0 : l.stackTraces = false) (hx : f v0 = some (.inr (8, fs))) (h : mX8_acts v0 f n = some r) (hE : ∀ E : String, r.1 = .inr E → E = eA) (hu : ∀ v, r.1 = .inl v → r.2.1 u = some (.inl (4, 1, .inr (.inl g0)))) : AMW X l yL_acts cL_acts 3 (some .int) [(0, 8, 11, 13)] 8 108 2412 [.ref v0, .ref u] f n (QW Int32.toInt64 wc_L_acts u g0 r) := by
  refine AMW.of (by decide +kernel) rfl (Nat.le_of_ble_eq_true rfl) (fun p e s m args below meth c C htab => ?_)
  refine aw_nl [some (.ref v0), some (.ref u), none] rfl ?_
  refine aw_ald_n C dL_acts_0 rfl ?_
  refine aw_iconst C 0 dL_acts_1 ki_0 ?_
  refine aw_ald_n C dL_acts_2 rfl ?_
  refine ax_callV C (ci := 8) (b := v0) [] mv_L_7 rfl rfl hx (rmX8_acts hl0 h) rfl dL_acts_3 (Nat.le_of_ble_eq_true rfl) (Nat.le_of_ble_eq_true rfl) rfl (Nat.le_of_ble_eq_true rfl) (Nat.le_of_ble_eq_true rfl) (Nat.le_of_ble_eq_true rfl) (fun E9 f9 n9 hq => ?_) (fun v9 f9 n9 hq => ?_)
  · obtain ⟨e1, rfl, e3⟩ := hq
    rcases hE E9 e1 with rfl
    refine at_catch C htab [] ⟨0, 8, 11, 13⟩ [] rfl (fun z hz => nomatch hz) (by decide) (by decide) cl_L_13 (by decide) (ah_astore_n C dL_acts_11 (by decide) rfl ?_)
    refine aw_iconst C 1 dL_acts_12 ki_1 ?_
    exact aw_iret C rfl rfl dL_acts_13 (Nat.le_of_ble_eq_true rfl) (Nat.le_of_ble_eq_true rfl) (Or.inr ⟨_, e1, by decide, rfl, e3⟩)
  · obtain ⟨y1, e1, rfl, rfl, rfl⟩ := hq
    refine aw_i2l C dL_acts_6 ?_
    refine aw_last C (hu _ e1) v1_in dL_acts_7 ?_
    refine aw_goto C 14 dL_acts_8 (by decide) ?_
    refine aw_iconst C 0 dL_acts_14 ki_0 ?_
    exact aw_iret C rfl rfl dL_acts_15 (Nat.le_of_ble_eq_true rfl) (Nat.le_of_ble_eq_true rfl) (Or.inl ⟨_, e1, rfl, rfl, rfl⟩)
def wc_L_kind (E : String) : Int32 := if E = eA then 1 else 0
set_option maxHeartbeats 1000000 in
theorem wr_L_kind {X : GX} {l : Launch} {f : AH} {n v0 u : Nat} {v1 : Int32} {v2 : Int32} {r : (Int32 ⊕ String) × HpN} {fs : List Value} {g0 : Nat → Int64} (hl0 : l.stackTraces = false) (hx : f v0 = some (.inr (8, fs))) (h : mX8_kind v0 v1 v2 f n = some r) (hE : ∀ E : String, r.1 = .inr E → E = eA) (hu : ∀ v, r.1 = .inl v → r.2.1 u = some (.inl (4, 1, .inr (.inl g0)))) : AMW X l yL_kind cL_kind 5 (some .int) [(0, 10, 13, 13)] 8 5 130 [.ref v0, .int v1, .int v2, .ref u] f n (QW Int32.toInt64 wc_L_kind u g0 r) := by
  refine AMW.of (by decide +kernel) rfl (Nat.le_of_ble_eq_true rfl) (fun p e s m args below meth c C htab => ?_)
  refine aw_nl [some (.ref v0), some (.int v1), some (.int v2), some (.ref u), none] rfl ?_
  refine aw_ald_n C dL_kind_0 rfl ?_
  refine aw_iconst C 0 dL_kind_1 ki_0 ?_
  refine aw_ald_n C dL_kind_2 rfl ?_
  refine aw_iload_n C dL_kind_3 rfl ?_
  refine aw_iload_n C dL_kind_4 rfl ?_
  refine ax_callV C (ci := 8) (b := v0) [.int v1, .int v2] mv_L_15 rfl rfl hx (rmX8_kind hl0 h) rfl dL_kind_5 (Nat.le_of_ble_eq_true rfl) (Nat.le_of_ble_eq_true rfl) rfl (Nat.le_of_ble_eq_true rfl) (Nat.le_of_ble_eq_true rfl) (Nat.le_of_ble_eq_true rfl) (fun E9 f9 n9 hq => ?_) (fun v9 f9 n9 hq => ?_)
  · obtain ⟨e1, rfl, e3⟩ := hq
    rcases hE E9 e1 with rfl
    refine at_catch C htab [] ⟨0, 10, 13, 13⟩ [] rfl (fun z hz => nomatch hz) (by decide) (by decide) cl_L_13 (by decide) (ah_astore C dL_kind_13 (by decide) rfl ?_)
    refine aw_iconst C 1 dL_kind_15 ki_1 ?_
    exact aw_iret C rfl rfl dL_kind_16 (Nat.le_of_ble_eq_true rfl) (Nat.le_of_ble_eq_true rfl) (Or.inr ⟨_, e1, by decide, rfl, e3⟩)
  · obtain ⟨y1, e1, rfl, rfl, rfl⟩ := hq
    refine aw_i2l C dL_kind_8 ?_
    refine aw_last C (hu _ e1) v1_in dL_kind_9 ?_
    refine aw_goto C 17 dL_kind_10 (by decide) ?_
    refine aw_iconst C 0 dL_kind_17 ki_0 ?_
    exact aw_iret C rfl rfl dL_kind_18 (Nat.le_of_ble_eq_true rfl) (Nat.le_of_ble_eq_true rfl) (Or.inl ⟨_, e1, rfl, rfl, rfl⟩)
def wc_L_rule (E : String) : Int32 := if E = eN then 1 else if E = eA then 2 else 0
set_option maxHeartbeats 1000000 in
theorem wr_L_rule {X : GX} {l : Launch} {f : AH} {n v0 u : Nat} {v1 : Int32} {v2 : Int32} {r : (Int32 ⊕ String) × HpN} {fs : List Value} {g0 : Nat → Int64} (hl0 : l.stackTraces = false) (hx : f v0 = some (.inr (8, fs))) (h : mX8_rule v0 v1 v2 f n = some r) (hE : ∀ E : String, r.1 = .inr E → E = eN ∨ E = eA) (hu : ∀ v, r.1 = .inl v → r.2.1 u = some (.inl (4, 1, .inr (.inl g0)))) : AMW X l yL_rule cL_rule 5 (some .int) [(0, 10, 13, 23), (0, 10, 17, 13)] 8 5 130 [.ref v0, .int v1, .int v2, .ref u] f n (QW Int32.toInt64 wc_L_rule u g0 r) := by
  refine AMW.of (by decide +kernel) rfl (Nat.le_of_ble_eq_true rfl) (fun p e s m args below meth c C htab => ?_)
  refine aw_nl [some (.ref v0), some (.int v1), some (.int v2), some (.ref u), none] rfl ?_
  refine aw_ald_n C dL_rule_0 rfl ?_
  refine aw_iconst C 0 dL_rule_1 ki_0 ?_
  refine aw_ald_n C dL_rule_2 rfl ?_
  refine aw_iload_n C dL_rule_3 rfl ?_
  refine aw_iload_n C dL_rule_4 rfl ?_
  refine ax_callV C (ci := 8) (b := v0) [.int v1, .int v2] mv_L_19 rfl rfl hx (rmX8_rule hl0 h) rfl dL_rule_5 (Nat.le_of_ble_eq_true rfl) (Nat.le_of_ble_eq_true rfl) rfl (Nat.le_of_ble_eq_true rfl) (Nat.le_of_ble_eq_true rfl) (Nat.le_of_ble_eq_true rfl) (fun E9 f9 n9 hq => ?_) (fun v9 f9 n9 hq => ?_)
  · obtain ⟨e1, rfl, e3⟩ := hq
    rcases hE E9 e1 with rfl | rfl
    · refine at_catch C htab [] ⟨0, 10, 13, 23⟩ [⟨0, 10, 17, 13⟩] rfl (fun z hz => nomatch hz) (by decide) (by decide) cl_L_23 (by decide) (ah_astore C dL_rule_13 (by decide) rfl ?_)
      refine aw_iconst C 1 dL_rule_15 ki_1 ?_
      exact aw_iret C rfl rfl dL_rule_16 (Nat.le_of_ble_eq_true rfl) (Nat.le_of_ble_eq_true rfl) (Or.inr ⟨_, e1, by decide, rfl, e3⟩)
    · refine at_catch C htab [⟨0, 10, 13, 23⟩] ⟨0, 10, 17, 13⟩ [] rfl (fun z hz => by rw [List.mem_singleton.mp hz]; exact Or.inr ⟨by decide, _, cl_L_23, by decide⟩) (by decide) (by decide) cl_L_13 (by decide) (ah_astore C dL_rule_17 (by decide) rfl ?_)
      refine aw_iconst C 2 dL_rule_19 ki_2 ?_
      exact aw_iret C rfl rfl dL_rule_20 (Nat.le_of_ble_eq_true rfl) (Nat.le_of_ble_eq_true rfl) (Or.inr ⟨_, e1, by decide, rfl, e3⟩)
  · obtain ⟨y1, e1, rfl, rfl, rfl⟩ := hq
    refine aw_i2l C dL_rule_8 ?_
    refine aw_last C (hu _ e1) v1_in dL_rule_9 ?_
    refine aw_goto C 21 dL_rule_10 (by decide) ?_
    refine aw_iconst C 0 dL_rule_21 ki_0 ?_
    exact aw_iret C rfl rfl dL_rule_22 (Nat.le_of_ble_eq_true rfl) (Nat.le_of_ble_eq_true rfl) (Or.inl ⟨_, e1, rfl, rfl, rfl⟩)
def wc_L_lock (E : String) : Int32 := if E = eA then 1 else if E = eS then 2 else 0
set_option maxHeartbeats 1000000 in
theorem wr_L_lock {X : GX} {l : Launch} {f : AH} {n v0 u : Nat} {r : (Int32 ⊕ String) × HpN} {fs : List Value} {g0 : Nat → Int64} (hl0 : l.stackTraces = false) (hx : f v0 = some (.inr (8, fs))) (h : mX8_lock v0 f n = some r) (hE : ∀ E : String, r.1 = .inr E → E = eA ∨ E = eS) (hu : ∀ v, r.1 = .inl v → r.2.1 u = some (.inl (4, 1, .inr (.inl g0)))) : AMW X l yL_lock cL_lock 3 (some .int) [(0, 8, 11, 13), (0, 8, 14, 28)] 8 7 140 [.ref v0, .ref u] f n (QW Int32.toInt64 wc_L_lock u g0 r) := by
  refine AMW.of (by decide +kernel) rfl (Nat.le_of_ble_eq_true rfl) (fun p e s m args below meth c C htab => ?_)
  refine aw_nl [some (.ref v0), some (.ref u), none] rfl ?_
  refine aw_ald_n C dL_lock_0 rfl ?_
  refine aw_iconst C 0 dL_lock_1 ki_0 ?_
  refine aw_ald_n C dL_lock_2 rfl ?_
  refine ax_callV C (ci := 8) (b := v0) [] mv_L_25 rfl rfl hx (rmX8_lock hl0 h) rfl dL_lock_3 (Nat.le_of_ble_eq_true rfl) (Nat.le_of_ble_eq_true rfl) rfl (Nat.le_of_ble_eq_true rfl) (Nat.le_of_ble_eq_true rfl) (Nat.le_of_ble_eq_true rfl) (fun E9 f9 n9 hq => ?_) (fun v9 f9 n9 hq => ?_)
  · obtain ⟨e1, rfl, e3⟩ := hq
    rcases hE E9 e1 with rfl | rfl
    · refine at_catch C htab [] ⟨0, 8, 11, 13⟩ [⟨0, 8, 14, 28⟩] rfl (fun z hz => nomatch hz) (by decide) (by decide) cl_L_13 (by decide) (ah_astore_n C dL_lock_11 (by decide) rfl ?_)
      refine aw_iconst C 1 dL_lock_12 ki_1 ?_
      exact aw_iret C rfl rfl dL_lock_13 (Nat.le_of_ble_eq_true rfl) (Nat.le_of_ble_eq_true rfl) (Or.inr ⟨_, e1, by decide, rfl, e3⟩)
    · refine at_catch C htab [⟨0, 8, 11, 13⟩] ⟨0, 8, 14, 28⟩ [] rfl (fun z hz => by rw [List.mem_singleton.mp hz]; exact Or.inr ⟨by decide, _, cl_L_13, by decide⟩) (by decide) (by decide) cl_L_28 (by decide) (ah_astore_n C dL_lock_14 (by decide) rfl ?_)
      refine aw_iconst C 2 dL_lock_15 ki_2 ?_
      exact aw_iret C rfl rfl dL_lock_16 (Nat.le_of_ble_eq_true rfl) (Nat.le_of_ble_eq_true rfl) (Or.inr ⟨_, e1, by decide, rfl, e3⟩)
  · obtain ⟨y1, e1, rfl, rfl, rfl⟩ := hq
    refine aw_i2l C dL_lock_6 ?_
    refine aw_last C (hu _ e1) v1_in dL_lock_7 ?_
    refine aw_goto C 17 dL_lock_8 (by decide) ?_
    refine aw_iconst C 0 dL_lock_17 ki_0 ?_
    exact aw_iret C rfl rfl dL_lock_18 (Nat.le_of_ble_eq_true rfl) (Nat.le_of_ble_eq_true rfl) (Or.inl ⟨_, e1, rfl, rfl, rfl⟩)
def wc_L_tell (E : String) : Int32 := if E = eA then 1 else if E = eS then 2 else 0
set_option maxHeartbeats 1000000 in
theorem wr_L_tell {X : GX} {l : Launch} {f : AH} {n v0 u : Nat} {v1 : Int32} {r : (Int32 ⊕ String) × HpN} {fs : List Value} {g0 : Nat → Int64} (hl0 : l.stackTraces = false) (hx : f v0 = some (.inr (8, fs))) (h : mX8_tell v0 v1 f n = some r) (hE : ∀ E : String, r.1 = .inr E → E = eA ∨ E = eS) (hu : ∀ v, r.1 = .inl v → r.2.1 u = some (.inl (4, 1, .inr (.inl g0)))) : AMW X l yL_tell cL_tell 4 (some .int) [(0, 9, 12, 13), (0, 9, 15, 28)] 8 7 192 [.ref v0, .int v1, .ref u] f n (QW Int32.toInt64 wc_L_tell u g0 r) := by
  refine AMW.of (by decide +kernel) rfl (Nat.le_of_ble_eq_true rfl) (fun p e s m args below meth c C htab => ?_)
  refine aw_nl [some (.ref v0), some (.int v1), some (.ref u), none] rfl ?_
  refine aw_ald_n C dL_tell_0 rfl ?_
  refine aw_iconst C 0 dL_tell_1 ki_0 ?_
  refine aw_ald_n C dL_tell_2 rfl ?_
  refine aw_iload_n C dL_tell_3 rfl ?_
  refine ax_callV C (ci := 8) (b := v0) [.int v1] mv_L_30 rfl rfl hx (rmX8_tell hl0 h) rfl dL_tell_4 (Nat.le_of_ble_eq_true rfl) (Nat.le_of_ble_eq_true rfl) rfl (Nat.le_of_ble_eq_true rfl) (Nat.le_of_ble_eq_true rfl) (Nat.le_of_ble_eq_true rfl) (fun E9 f9 n9 hq => ?_) (fun v9 f9 n9 hq => ?_)
  · obtain ⟨e1, rfl, e3⟩ := hq
    rcases hE E9 e1 with rfl | rfl
    · refine at_catch C htab [] ⟨0, 9, 12, 13⟩ [⟨0, 9, 15, 28⟩] rfl (fun z hz => nomatch hz) (by decide) (by decide) cl_L_13 (by decide) (ah_astore_n C dL_tell_12 (by decide) rfl ?_)
      refine aw_iconst C 1 dL_tell_13 ki_1 ?_
      exact aw_iret C rfl rfl dL_tell_14 (Nat.le_of_ble_eq_true rfl) (Nat.le_of_ble_eq_true rfl) (Or.inr ⟨_, e1, by decide, rfl, e3⟩)
    · refine at_catch C htab [⟨0, 9, 12, 13⟩] ⟨0, 9, 15, 28⟩ [] rfl (fun z hz => by rw [List.mem_singleton.mp hz]; exact Or.inr ⟨by decide, _, cl_L_13, by decide⟩) (by decide) (by decide) cl_L_28 (by decide) (ah_astore_n C dL_tell_15 (by decide) rfl ?_)
      refine aw_iconst C 2 dL_tell_16 ki_2 ?_
      exact aw_iret C rfl rfl dL_tell_17 (Nat.le_of_ble_eq_true rfl) (Nat.le_of_ble_eq_true rfl) (Or.inr ⟨_, e1, by decide, rfl, e3⟩)
  · obtain ⟨y1, e1, rfl, rfl, rfl⟩ := hq
    refine aw_i2l C dL_tell_7 ?_
    refine aw_last C (hu _ e1) v1_in dL_tell_8 ?_
    refine aw_goto C 18 dL_tell_9 (by decide) ?_
    refine aw_iconst C 0 dL_tell_18 ki_0 ?_
    exact aw_iret C rfl rfl dL_tell_19 (Nat.le_of_ble_eq_true rfl) (Nat.le_of_ble_eq_true rfl) (Or.inl ⟨_, e1, rfl, rfl, rfl⟩)
def wc_L_free (E : String) : Int32 := if E = eS then 1 else 0
set_option maxHeartbeats 1000000 in
theorem wr_L_free {X : GX} {l : Launch} {f : AH} {n v0 u : Nat} {v1 : Int32} {r : (Int32 ⊕ String) × HpN} {fs : List Value} {g0 : Nat → Int64} (hl0 : l.stackTraces = false) (hx : f v0 = some (.inr (8, fs))) (h : mX8_free v0 v1 f n = some r) (hE : ∀ E : String, r.1 = .inr E → E = eS) (hu : ∀ v, r.1 = .inl v → r.2.1 u = some (.inl (4, 1, .inr (.inl g0)))) : AMW X l yL_free cL_free 4 (some .int) [(0, 9, 12, 28)] 8 5 130 [.ref v0, .int v1, .ref u] f n (QW Int32.toInt64 wc_L_free u g0 r) := by
  refine AMW.of (by decide +kernel) rfl (Nat.le_of_ble_eq_true rfl) (fun p e s m args below meth c C htab => ?_)
  refine aw_nl [some (.ref v0), some (.int v1), some (.ref u), none] rfl ?_
  refine aw_ald_n C dL_free_0 rfl ?_
  refine aw_iconst C 0 dL_free_1 ki_0 ?_
  refine aw_ald_n C dL_free_2 rfl ?_
  refine aw_iload_n C dL_free_3 rfl ?_
  refine ax_callV C (ci := 8) (b := v0) [.int v1] mv_L_34 rfl rfl hx (rmX8_free hl0 h) rfl dL_free_4 (Nat.le_of_ble_eq_true rfl) (Nat.le_of_ble_eq_true rfl) rfl (Nat.le_of_ble_eq_true rfl) (Nat.le_of_ble_eq_true rfl) (Nat.le_of_ble_eq_true rfl) (fun E9 f9 n9 hq => ?_) (fun v9 f9 n9 hq => ?_)
  · obtain ⟨e1, rfl, e3⟩ := hq
    rcases hE E9 e1 with rfl
    refine at_catch C htab [] ⟨0, 9, 12, 28⟩ [] rfl (fun z hz => nomatch hz) (by decide) (by decide) cl_L_28 (by decide) (ah_astore_n C dL_free_12 (by decide) rfl ?_)
    refine aw_iconst C 1 dL_free_13 ki_1 ?_
    exact aw_iret C rfl rfl dL_free_14 (Nat.le_of_ble_eq_true rfl) (Nat.le_of_ble_eq_true rfl) (Or.inr ⟨_, e1, by decide, rfl, e3⟩)
  · obtain ⟨y1, e1, rfl, rfl, rfl⟩ := hq
    refine aw_i2l C dL_free_7 ?_
    refine aw_last C (hu _ e1) v1_in dL_free_8 ?_
    refine aw_goto C 15 dL_free_9 (by decide) ?_
    refine aw_iconst C 0 dL_free_15 ki_0 ?_
    exact aw_iret C rfl rfl dL_free_16 (Nat.le_of_ble_eq_true rfl) (Nat.le_of_ble_eq_true rfl) (Or.inl ⟨_, e1, rfl, rfl, rfl⟩)
def wc_L_spread (E : String) : Int32 := if E = eS then 1 else 0
set_option maxHeartbeats 1000000 in
theorem wr_L_spread {X : GX} {l : Launch} {f : AH} {n v0 u : Nat} {v1 : Int32} {r : (Int32 ⊕ String) × HpN} {fs : List Value} {g0 : Nat → Int64} (hl0 : l.stackTraces = false) (hx : f v0 = some (.inr (8, fs))) (h : mX8_spread v0 v1 f n = some r) (hE : ∀ E : String, r.1 = .inr E → E = eS) (hu : ∀ v, r.1 = .inl v → r.2.1 u = some (.inl (4, 1, .inr (.inl g0)))) : AMW X l yL_spread cL_spread 4 (some .int) [(0, 9, 12, 28)] 8 5 130 [.ref v0, .int v1, .ref u] f n (QW Int32.toInt64 wc_L_spread u g0 r) := by
  refine AMW.of (by decide +kernel) rfl (Nat.le_of_ble_eq_true rfl) (fun p e s m args below meth c C htab => ?_)
  refine aw_nl [some (.ref v0), some (.int v1), some (.ref u), none] rfl ?_
  refine aw_ald_n C dL_spread_0 rfl ?_
  refine aw_iconst C 0 dL_spread_1 ki_0 ?_
  refine aw_ald_n C dL_spread_2 rfl ?_
  refine aw_iload_n C dL_spread_3 rfl ?_
  refine ax_callV C (ci := 8) (b := v0) [.int v1] mv_L_37 rfl rfl hx (rmX8_spread hl0 h) rfl dL_spread_4 (Nat.le_of_ble_eq_true rfl) (Nat.le_of_ble_eq_true rfl) rfl (Nat.le_of_ble_eq_true rfl) (Nat.le_of_ble_eq_true rfl) (Nat.le_of_ble_eq_true rfl) (fun E9 f9 n9 hq => ?_) (fun v9 f9 n9 hq => ?_)
  · obtain ⟨e1, rfl, e3⟩ := hq
    rcases hE E9 e1 with rfl
    refine at_catch C htab [] ⟨0, 9, 12, 28⟩ [] rfl (fun z hz => nomatch hz) (by decide) (by decide) cl_L_28 (by decide) (ah_astore_n C dL_spread_12 (by decide) rfl ?_)
    refine aw_iconst C 1 dL_spread_13 ki_1 ?_
    exact aw_iret C rfl rfl dL_spread_14 (Nat.le_of_ble_eq_true rfl) (Nat.le_of_ble_eq_true rfl) (Or.inr ⟨_, e1, by decide, rfl, e3⟩)
  · obtain ⟨y1, e1, rfl, rfl, rfl⟩ := hq
    refine aw_i2l C dL_spread_7 ?_
    refine aw_last C (hu _ e1) v1_in dL_spread_8 ?_
    refine aw_goto C 15 dL_spread_9 (by decide) ?_
    refine aw_iconst C 0 dL_spread_15 ki_0 ?_
    exact aw_iret C rfl rfl dL_spread_16 (Nat.le_of_ble_eq_true rfl) (Nat.le_of_ble_eq_true rfl) (Or.inl ⟨_, e1, rfl, rfl, rfl⟩)
def wc_L_swap (E : String) : Int32 := if E = eS then 1 else 0
set_option maxHeartbeats 1000000 in
theorem wr_L_swap {X : GX} {l : Launch} {f : AH} {n v0 u : Nat} {v1 : Int32} {v2 : Int32} {r : (Int32 ⊕ String) × HpN} {fs : List Value} {g0 : Nat → Int64} (hl0 : l.stackTraces = false) (hx : f v0 = some (.inr (8, fs))) (h : mX8_swap v0 v1 v2 f n = some r) (hE : ∀ E : String, r.1 = .inr E → E = eS) (hu : ∀ v, r.1 = .inl v → r.2.1 u = some (.inl (4, 1, .inr (.inl g0)))) : AMW X l yL_swap cL_swap 5 (some .int) [(0, 10, 13, 28)] 8 5 130 [.ref v0, .int v1, .int v2, .ref u] f n (QW Int32.toInt64 wc_L_swap u g0 r) := by
  refine AMW.of (by decide +kernel) rfl (Nat.le_of_ble_eq_true rfl) (fun p e s m args below meth c C htab => ?_)
  refine aw_nl [some (.ref v0), some (.int v1), some (.int v2), some (.ref u), none] rfl ?_
  refine aw_ald_n C dL_swap_0 rfl ?_
  refine aw_iconst C 0 dL_swap_1 ki_0 ?_
  refine aw_ald_n C dL_swap_2 rfl ?_
  refine aw_iload_n C dL_swap_3 rfl ?_
  refine aw_iload_n C dL_swap_4 rfl ?_
  refine ax_callV C (ci := 8) (b := v0) [.int v1, .int v2] mv_L_40 rfl rfl hx (rmX8_swap hl0 h) rfl dL_swap_5 (Nat.le_of_ble_eq_true rfl) (Nat.le_of_ble_eq_true rfl) rfl (Nat.le_of_ble_eq_true rfl) (Nat.le_of_ble_eq_true rfl) (Nat.le_of_ble_eq_true rfl) (fun E9 f9 n9 hq => ?_) (fun v9 f9 n9 hq => ?_)
  · obtain ⟨e1, rfl, e3⟩ := hq
    rcases hE E9 e1 with rfl
    refine at_catch C htab [] ⟨0, 10, 13, 28⟩ [] rfl (fun z hz => nomatch hz) (by decide) (by decide) cl_L_28 (by decide) (ah_astore C dL_swap_13 (by decide) rfl ?_)
    refine aw_iconst C 1 dL_swap_15 ki_1 ?_
    exact aw_iret C rfl rfl dL_swap_16 (Nat.le_of_ble_eq_true rfl) (Nat.le_of_ble_eq_true rfl) (Or.inr ⟨_, e1, by decide, rfl, e3⟩)
  · obtain ⟨y1, e1, rfl, rfl, rfl⟩ := hq
    refine aw_i2l C dL_swap_8 ?_
    refine aw_last C (hu _ e1) v1_in dL_swap_9 ?_
    refine aw_goto C 17 dL_swap_10 (by decide) ?_
    refine aw_iconst C 0 dL_swap_17 ki_0 ?_
    exact aw_iret C rfl rfl dL_swap_18 (Nat.le_of_ble_eq_true rfl) (Nat.le_of_ble_eq_true rfl) (Or.inl ⟨_, e1, rfl, rfl, rfl⟩)
def wc_L_wipe (E : String) : Int32 := if E = eS then 1 else 0
set_option maxHeartbeats 1000000 in
theorem wr_L_wipe {X : GX} {l : Launch} {f : AH} {n v0 u : Nat} {r : (Int32 ⊕ String) × HpN} {fs : List Value} {g0 : Nat → Int64} (hl0 : l.stackTraces = false) (hx : f v0 = some (.inr (8, fs))) (h : mX8_wipe v0 f n = some r) (hE : ∀ E : String, r.1 = .inr E → E = eS) (hu : ∀ v, r.1 = .inl v → r.2.1 u = some (.inl (4, 1, .inr (.inl g0)))) : AMW X l yL_wipe cL_wipe 3 (some .int) [(0, 8, 11, 28)] 8 5 130 [.ref v0, .ref u] f n (QW Int32.toInt64 wc_L_wipe u g0 r) := by
  refine AMW.of (by decide +kernel) rfl (Nat.le_of_ble_eq_true rfl) (fun p e s m args below meth c C htab => ?_)
  refine aw_nl [some (.ref v0), some (.ref u), none] rfl ?_
  refine aw_ald_n C dL_wipe_0 rfl ?_
  refine aw_iconst C 0 dL_wipe_1 ki_0 ?_
  refine aw_ald_n C dL_wipe_2 rfl ?_
  refine ax_callV C (ci := 8) (b := v0) [] mv_L_43 rfl rfl hx (rmX8_wipe hl0 h) rfl dL_wipe_3 (Nat.le_of_ble_eq_true rfl) (Nat.le_of_ble_eq_true rfl) rfl (Nat.le_of_ble_eq_true rfl) (Nat.le_of_ble_eq_true rfl) (Nat.le_of_ble_eq_true rfl) (fun E9 f9 n9 hq => ?_) (fun v9 f9 n9 hq => ?_)
  · obtain ⟨e1, rfl, e3⟩ := hq
    rcases hE E9 e1 with rfl
    refine at_catch C htab [] ⟨0, 8, 11, 28⟩ [] rfl (fun z hz => nomatch hz) (by decide) (by decide) cl_L_28 (by decide) (ah_astore_n C dL_wipe_11 (by decide) rfl ?_)
    refine aw_iconst C 1 dL_wipe_12 ki_1 ?_
    exact aw_iret C rfl rfl dL_wipe_13 (Nat.le_of_ble_eq_true rfl) (Nat.le_of_ble_eq_true rfl) (Or.inr ⟨_, e1, by decide, rfl, e3⟩)
  · obtain ⟨y1, e1, rfl, rfl, rfl⟩ := hq
    refine aw_i2l C dL_wipe_6 ?_
    refine aw_last C (hu _ e1) v1_in dL_wipe_7 ?_
    refine aw_goto C 14 dL_wipe_8 (by decide) ?_
    refine aw_iconst C 0 dL_wipe_14 ki_0 ?_
    exact aw_iret C rfl rfl dL_wipe_15 (Nat.le_of_ble_eq_true rfl) (Nat.le_of_ble_eq_true rfl) (Or.inl ⟨_, e1, rfl, rfl, rfl⟩)
def wc_L_undo (E : String) : Int32 := if E = eS then 1 else 0
set_option maxHeartbeats 1000000 in
theorem wr_L_undo {X : GX} {l : Launch} {f : AH} {n v0 u : Nat} {r : (Int32 ⊕ String) × HpN} {fs : List Value} {g0 : Nat → Int64} (hl0 : l.stackTraces = false) (hx : f v0 = some (.inr (8, fs))) (h : mX8_undo v0 f n = some r) (hE : ∀ E : String, r.1 = .inr E → E = eS) (hu : ∀ v, r.1 = .inl v → r.2.1 u = some (.inl (4, 1, .inr (.inl g0)))) : AMW X l yL_undo cL_undo 3 (some .int) [(0, 8, 11, 28)] 7 1 6 [.ref v0, .ref u] f n (QW Int32.toInt64 wc_L_undo u g0 r) := by
  refine AMW.of (by decide +kernel) rfl (Nat.le_of_ble_eq_true rfl) (fun p e s m args below meth c C htab => ?_)
  refine aw_nl [some (.ref v0), some (.ref u), none] rfl ?_
  refine aw_ald_n C dL_undo_0 rfl ?_
  refine aw_iconst C 0 dL_undo_1 ki_0 ?_
  refine aw_ald_n C dL_undo_2 rfl ?_
  refine ax_callV C (ci := 8) (b := v0) [] mv_L_46 rfl rfl hx (rmX8_undo hl0 h) rfl dL_undo_3 (Nat.le_of_ble_eq_true rfl) (Nat.le_of_ble_eq_true rfl) rfl (Nat.le_of_ble_eq_true rfl) (Nat.le_of_ble_eq_true rfl) (Nat.le_of_ble_eq_true rfl) (fun E9 f9 n9 hq => ?_) (fun v9 f9 n9 hq => ?_)
  · obtain ⟨e1, rfl, e3⟩ := hq
    rcases hE E9 e1 with rfl
    refine at_catch C htab [] ⟨0, 8, 11, 28⟩ [] rfl (fun z hz => nomatch hz) (by decide) (by decide) cl_L_28 (by decide) (ah_astore_n C dL_undo_11 (by decide) rfl ?_)
    refine aw_iconst C 1 dL_undo_12 ki_1 ?_
    exact aw_iret C rfl rfl dL_undo_13 (Nat.le_of_ble_eq_true rfl) (Nat.le_of_ble_eq_true rfl) (Or.inr ⟨_, e1, by decide, rfl, e3⟩)
  · obtain ⟨y1, e1, rfl, rfl, rfl⟩ := hq
    refine aw_i2l C dL_undo_6 ?_
    refine aw_last C (hu _ e1) v1_in dL_undo_7 ?_
    refine aw_goto C 14 dL_undo_8 (by decide) ?_
    refine aw_iconst C 0 dL_undo_14 ki_0 ?_
    exact aw_iret C rfl rfl dL_undo_15 (Nat.le_of_ble_eq_true rfl) (Nat.le_of_ble_eq_true rfl) (Or.inl ⟨_, e1, rfl, rfl, rfl⟩)
def wc_L_piece (E : String) : Int32 := if E = eI then 1 else if E = eN then 2 else 0
set_option maxHeartbeats 1000000 in
theorem wr_L_piece {X : GX} {l : Launch} {f : AH} {n v0 u : Nat} {v1 : Int32} {v2 : Int32} {r : (Int32 ⊕ String) × HpN} {fs : List Value} {g0 : Nat → Int64} (hl0 : l.stackTraces = false) (hx : f v0 = some (.inr (8, fs))) (h : mX8_piece v0 v1 v2 f n = some r) (hE : ∀ E : String, r.1 = .inr E → E = eI ∨ E = eN) (hu : ∀ v, r.1 = .inl v → r.2.1 u = some (.inl (4, 1, .inr (.inl g0)))) : AMW X l yL_piece cL_piece 5 (some .int) [(0, 10, 13, 52), (0, 10, 17, 23)] 8 2 12 [.ref v0, .int v1, .int v2, .ref u] f n (QW Int32.toInt64 wc_L_piece u g0 r) := by
  refine AMW.of (by decide +kernel) rfl (Nat.le_of_ble_eq_true rfl) (fun p e s m args below meth c C htab => ?_)
  refine aw_nl [some (.ref v0), some (.int v1), some (.int v2), some (.ref u), none] rfl ?_
  refine aw_ald_n C dL_piece_0 rfl ?_
  refine aw_iconst C 0 dL_piece_1 ki_0 ?_
  refine aw_ald_n C dL_piece_2 rfl ?_
  refine aw_iload_n C dL_piece_3 rfl ?_
  refine aw_iload_n C dL_piece_4 rfl ?_
  refine ax_callV C (ci := 8) (b := v0) [.int v1, .int v2] mv_L_49 rfl rfl hx (rmX8_piece hl0 h) rfl dL_piece_5 (Nat.le_of_ble_eq_true rfl) (Nat.le_of_ble_eq_true rfl) rfl (Nat.le_of_ble_eq_true rfl) (Nat.le_of_ble_eq_true rfl) (Nat.le_of_ble_eq_true rfl) (fun E9 f9 n9 hq => ?_) (fun v9 f9 n9 hq => ?_)
  · obtain ⟨e1, rfl, e3⟩ := hq
    rcases hE E9 e1 with rfl | rfl
    · refine at_catch C htab [] ⟨0, 10, 13, 52⟩ [⟨0, 10, 17, 23⟩] rfl (fun z hz => nomatch hz) (by decide) (by decide) cl_L_52 (by decide) (ah_astore C dL_piece_13 (by decide) rfl ?_)
      refine aw_iconst C 1 dL_piece_15 ki_1 ?_
      exact aw_iret C rfl rfl dL_piece_16 (Nat.le_of_ble_eq_true rfl) (Nat.le_of_ble_eq_true rfl) (Or.inr ⟨_, e1, by decide, rfl, e3⟩)
    · refine at_catch C htab [⟨0, 10, 13, 52⟩] ⟨0, 10, 17, 23⟩ [] rfl (fun z hz => by rw [List.mem_singleton.mp hz]; exact Or.inr ⟨by decide, _, cl_L_52, by decide⟩) (by decide) (by decide) cl_L_23 (by decide) (ah_astore C dL_piece_17 (by decide) rfl ?_)
      refine aw_iconst C 2 dL_piece_19 ki_2 ?_
      exact aw_iret C rfl rfl dL_piece_20 (Nat.le_of_ble_eq_true rfl) (Nat.le_of_ble_eq_true rfl) (Or.inr ⟨_, e1, by decide, rfl, e3⟩)
  · obtain ⟨y1, e1, rfl, rfl, rfl⟩ := hq
    refine aw_i2l C dL_piece_8 ?_
    refine aw_last C (hu _ e1) v1_in dL_piece_9 ?_
    refine aw_goto C 21 dL_piece_10 (by decide) ?_
    refine aw_iconst C 0 dL_piece_21 ki_0 ?_
    exact aw_iret C rfl rfl dL_piece_22 (Nat.le_of_ble_eq_true rfl) (Nat.le_of_ble_eq_true rfl) (Or.inl ⟨_, e1, rfl, rfl, rfl⟩)
def wc_L_octet (E : String) : Int32 := if E = eI then 1 else 0
set_option maxHeartbeats 1000000 in
theorem wr_L_octet {X : GX} {l : Launch} {f : AH} {n v0 u : Nat} {v1 : Int32} {v2 : Int32} {v3 : Int32} {r : (Int32 ⊕ String) × HpN} {fs : List Value} {g0 : Nat → Int64} (hl0 : l.stackTraces = false) (hx : f v0 = some (.inr (8, fs))) (h : mX8_octet v0 v1 v2 v3 f n = some r) (hE : ∀ E : String, r.1 = .inr E → E = eI) (hu : ∀ v, r.1 = .inl v → r.2.1 u = some (.inl (4, 1, .inr (.inl g0)))) : AMW X l yL_octet cL_octet 6 (some .int) [(0, 12, 15, 52)] 8 1 6 [.ref v0, .int v1, .int v2, .int v3, .ref u] f n (QW Int32.toInt64 wc_L_octet u g0 r) := by
  refine AMW.of (by decide +kernel) rfl (Nat.le_of_ble_eq_true rfl) (fun p e s m args below meth c C htab => ?_)
  refine aw_nl [some (.ref v0), some (.int v1), some (.int v2), some (.int v3), some (.ref u), none] rfl ?_
  refine aw_ald C dL_octet_0 rfl ?_
  refine aw_iconst C 0 dL_octet_2 ki_0 ?_
  refine aw_ald_n C dL_octet_3 rfl ?_
  refine aw_iload_n C dL_octet_4 rfl ?_
  refine aw_iload_n C dL_octet_5 rfl ?_
  refine aw_iload_n C dL_octet_6 rfl ?_
  refine ax_callV C (ci := 8) (b := v0) [.int v1, .int v2, .int v3] mv_L_54 rfl rfl hx (rmX8_octet hl0 h) rfl dL_octet_7 (Nat.le_of_ble_eq_true rfl) (Nat.le_of_ble_eq_true rfl) rfl (Nat.le_of_ble_eq_true rfl) (Nat.le_of_ble_eq_true rfl) (Nat.le_of_ble_eq_true rfl) (fun E9 f9 n9 hq => ?_) (fun v9 f9 n9 hq => ?_)
  · obtain ⟨e1, rfl, e3⟩ := hq
    rcases hE E9 e1 with rfl
    refine at_catch C htab [] ⟨0, 12, 15, 52⟩ [] rfl (fun z hz => nomatch hz) (by decide) (by decide) cl_L_52 (by decide) (ah_astore C dL_octet_15 (by decide) rfl ?_)
    refine aw_iconst C 1 dL_octet_17 ki_1 ?_
    exact aw_iret C rfl rfl dL_octet_18 (Nat.le_of_ble_eq_true rfl) (Nat.le_of_ble_eq_true rfl) (Or.inr ⟨_, e1, by decide, rfl, e3⟩)
  · obtain ⟨y1, e1, rfl, rfl, rfl⟩ := hq
    refine aw_i2l C dL_octet_10 ?_
    refine aw_last C (hu _ e1) v1_in dL_octet_11 ?_
    refine aw_goto C 19 dL_octet_12 (by decide) ?_
    refine aw_iconst C 0 dL_octet_19 ki_0 ?_
    exact aw_iret C rfl rfl dL_octet_20 (Nat.le_of_ble_eq_true rfl) (Nat.le_of_ble_eq_true rfl) (Or.inl ⟨_, e1, rfl, rfl, rfl⟩)
def wc_L_origin (E : String) : Int32 := if E = eI then 1 else 0
set_option maxHeartbeats 1000000 in
theorem wr_L_origin {X : GX} {l : Launch} {f : AH} {n v0 u : Nat} {v1 : Int32} {v2 : Int32} {r : (Int32 ⊕ String) × HpN} {fs : List Value} {g0 : Nat → Int64} (hl0 : l.stackTraces = false) (hx : f v0 = some (.inr (8, fs))) (h : mX8_origin v0 v1 v2 f n = some r) (hE : ∀ E : String, r.1 = .inr E → E = eI) (hu : ∀ v, r.1 = .inl v → r.2.1 u = some (.inl (4, 1, .inr (.inl g0)))) : AMW X l yL_origin cL_origin 5 (some .int) [(0, 10, 13, 52)] 8 1 6 [.ref v0, .int v1, .int v2, .ref u] f n (QW Int32.toInt64 wc_L_origin u g0 r) := by
  refine AMW.of (by decide +kernel) rfl (Nat.le_of_ble_eq_true rfl) (fun p e s m args below meth c C htab => ?_)
  refine aw_nl [some (.ref v0), some (.int v1), some (.int v2), some (.ref u), none] rfl ?_
  refine aw_ald_n C dL_origin_0 rfl ?_
  refine aw_iconst C 0 dL_origin_1 ki_0 ?_
  refine aw_ald_n C dL_origin_2 rfl ?_
  refine aw_iload_n C dL_origin_3 rfl ?_
  refine aw_iload_n C dL_origin_4 rfl ?_
  refine ax_callV C (ci := 8) (b := v0) [.int v1, .int v2] mv_L_58 rfl rfl hx (rmX8_origin hl0 h) rfl dL_origin_5 (Nat.le_of_ble_eq_true rfl) (Nat.le_of_ble_eq_true rfl) rfl (Nat.le_of_ble_eq_true rfl) (Nat.le_of_ble_eq_true rfl) (Nat.le_of_ble_eq_true rfl) (fun E9 f9 n9 hq => ?_) (fun v9 f9 n9 hq => ?_)
  · obtain ⟨e1, rfl, e3⟩ := hq
    rcases hE E9 e1 with rfl
    refine at_catch C htab [] ⟨0, 10, 13, 52⟩ [] rfl (fun z hz => nomatch hz) (by decide) (by decide) cl_L_52 (by decide) (ah_astore C dL_origin_13 (by decide) rfl ?_)
    refine aw_iconst C 1 dL_origin_15 ki_1 ?_
    exact aw_iret C rfl rfl dL_origin_16 (Nat.le_of_ble_eq_true rfl) (Nat.le_of_ble_eq_true rfl) (Or.inr ⟨_, e1, by decide, rfl, e3⟩)
  · obtain ⟨y1, e1, rfl, rfl, rfl⟩ := hq
    refine aw_i2l C dL_origin_8 ?_
    refine aw_last C (hu _ e1) v1_in dL_origin_9 ?_
    refine aw_goto C 17 dL_origin_10 (by decide) ?_
    refine aw_iconst C 0 dL_origin_17 ki_0 ?_
    exact aw_iret C rfl rfl dL_origin_18 (Nat.le_of_ble_eq_true rfl) (Nat.le_of_ble_eq_true rfl) (Or.inl ⟨_, e1, rfl, rfl, rfl⟩)
def wc_L_key (E : String) : Int32 := if E = eI then 1 else if E = eN then 2 else 0
set_option maxHeartbeats 1000000 in
theorem wr_L_key {X : GX} {l : Launch} {f : AH} {n v0 u : Nat} {v1 : Int32} {v2 : Int32} {r : (Int32 ⊕ String) × HpN} {fs : List Value} {g0 : Nat → Int64} (hl0 : l.stackTraces = false) (hx : f v0 = some (.inr (8, fs))) (h : mX8_key v0 v1 v2 f n = some r) (hE : ∀ E : String, r.1 = .inr E → E = eI ∨ E = eN) (hu : ∀ v, r.1 = .inl v → r.2.1 u = some (.inl (4, 1, .inr (.inl g0)))) : AMW X l yL_key cL_key 5 (some .int) [(0, 10, 13, 52), (0, 10, 17, 23)] 8 2 12 [.ref v0, .int v1, .int v2, .ref u] f n (QW Int32.toInt64 wc_L_key u g0 r) := by
  refine AMW.of (by decide +kernel) rfl (Nat.le_of_ble_eq_true rfl) (fun p e s m args below meth c C htab => ?_)
  refine aw_nl [some (.ref v0), some (.int v1), some (.int v2), some (.ref u), none] rfl ?_
  refine aw_ald_n C dL_key_0 rfl ?_
  refine aw_iconst C 0 dL_key_1 ki_0 ?_
  refine aw_ald_n C dL_key_2 rfl ?_
  refine aw_iload_n C dL_key_3 rfl ?_
  refine aw_iload_n C dL_key_4 rfl ?_
  refine ax_callV C (ci := 8) (b := v0) [.int v1, .int v2] mv_L_61 rfl rfl hx (rmX8_key hl0 h) rfl dL_key_5 (Nat.le_of_ble_eq_true rfl) (Nat.le_of_ble_eq_true rfl) rfl (Nat.le_of_ble_eq_true rfl) (Nat.le_of_ble_eq_true rfl) (Nat.le_of_ble_eq_true rfl) (fun E9 f9 n9 hq => ?_) (fun v9 f9 n9 hq => ?_)
  · obtain ⟨e1, rfl, e3⟩ := hq
    rcases hE E9 e1 with rfl | rfl
    · refine at_catch C htab [] ⟨0, 10, 13, 52⟩ [⟨0, 10, 17, 23⟩] rfl (fun z hz => nomatch hz) (by decide) (by decide) cl_L_52 (by decide) (ah_astore C dL_key_13 (by decide) rfl ?_)
      refine aw_iconst C 1 dL_key_15 ki_1 ?_
      exact aw_iret C rfl rfl dL_key_16 (Nat.le_of_ble_eq_true rfl) (Nat.le_of_ble_eq_true rfl) (Or.inr ⟨_, e1, by decide, rfl, e3⟩)
    · refine at_catch C htab [⟨0, 10, 13, 52⟩] ⟨0, 10, 17, 23⟩ [] rfl (fun z hz => by rw [List.mem_singleton.mp hz]; exact Or.inr ⟨by decide, _, cl_L_52, by decide⟩) (by decide) (by decide) cl_L_23 (by decide) (ah_astore C dL_key_17 (by decide) rfl ?_)
      refine aw_iconst C 2 dL_key_19 ki_2 ?_
      exact aw_iret C rfl rfl dL_key_20 (Nat.le_of_ble_eq_true rfl) (Nat.le_of_ble_eq_true rfl) (Or.inr ⟨_, e1, by decide, rfl, e3⟩)
  · obtain ⟨y1, e1, rfl, rfl, rfl⟩ := hq
    refine aw_i2l C dL_key_8 ?_
    refine aw_last C (hu _ e1) v1_in dL_key_9 ?_
    refine aw_goto C 21 dL_key_10 (by decide) ?_
    refine aw_iconst C 0 dL_key_21 ki_0 ?_
    exact aw_iret C rfl rfl dL_key_22 (Nat.le_of_ble_eq_true rfl) (Nat.le_of_ble_eq_true rfl) (Or.inl ⟨_, e1, rfl, rfl, rfl⟩)
def wc_L_like (E : String) : Int32 := if E = eI then 1 else 0
set_option maxHeartbeats 1000000 in
theorem wr_L_like {X : GX} {l : Launch} {f : AH} {n v0 u : Nat} {v1 : Int32} {v2 : Int32} {r : (Int32 ⊕ String) × HpN} {fs : List Value} {g0 : Nat → Int64} (hl0 : l.stackTraces = false) (hx : f v0 = some (.inr (8, fs))) (h : mX8_like v0 v1 v2 f n = some r) (hE : ∀ E : String, r.1 = .inr E → E = eI) (hu : ∀ v, r.1 = .inl v → r.2.1 u = some (.inl (4, 1, .inr (.inl g0)))) : AMW X l yL_like cL_like 5 (some .int) [(0, 10, 13, 52)] 8 1 6 [.ref v0, .int v1, .int v2, .ref u] f n (QW Int32.toInt64 wc_L_like u g0 r) := by
  refine AMW.of (by decide +kernel) rfl (Nat.le_of_ble_eq_true rfl) (fun p e s m args below meth c C htab => ?_)
  refine aw_nl [some (.ref v0), some (.int v1), some (.int v2), some (.ref u), none] rfl ?_
  refine aw_ald_n C dL_like_0 rfl ?_
  refine aw_iconst C 0 dL_like_1 ki_0 ?_
  refine aw_ald_n C dL_like_2 rfl ?_
  refine aw_iload_n C dL_like_3 rfl ?_
  refine aw_iload_n C dL_like_4 rfl ?_
  refine ax_callV C (ci := 8) (b := v0) [.int v1, .int v2] mv_L_64 rfl rfl hx (rmX8_like hl0 h) rfl dL_like_5 (Nat.le_of_ble_eq_true rfl) (Nat.le_of_ble_eq_true rfl) rfl (Nat.le_of_ble_eq_true rfl) (Nat.le_of_ble_eq_true rfl) (Nat.le_of_ble_eq_true rfl) (fun E9 f9 n9 hq => ?_) (fun v9 f9 n9 hq => ?_)
  · obtain ⟨e1, rfl, e3⟩ := hq
    rcases hE E9 e1 with rfl
    refine at_catch C htab [] ⟨0, 10, 13, 52⟩ [] rfl (fun z hz => nomatch hz) (by decide) (by decide) cl_L_52 (by decide) (ah_astore C dL_like_13 (by decide) rfl ?_)
    refine aw_iconst C 1 dL_like_15 ki_1 ?_
    exact aw_iret C rfl rfl dL_like_16 (Nat.le_of_ble_eq_true rfl) (Nat.le_of_ble_eq_true rfl) (Or.inr ⟨_, e1, by decide, rfl, e3⟩)
  · obtain ⟨y1, e1, rfl, rfl, rfl⟩ := hq
    refine aw_i2l C dL_like_8 ?_
    refine aw_last C (hu _ e1) v1_in dL_like_9 ?_
    refine aw_goto C 17 dL_like_10 (by decide) ?_
    refine aw_iconst C 0 dL_like_17 ki_0 ?_
    exact aw_iret C rfl rfl dL_like_18 (Nat.le_of_ble_eq_true rfl) (Nat.le_of_ble_eq_true rfl) (Or.inl ⟨_, e1, rfl, rfl, rfl⟩)
def wc_L_would (E : String) : Int32 := if E = eI then 1 else if E = eA then 2 else 0
set_option maxHeartbeats 1000000 in
theorem wr_L_would {X : GX} {l : Launch} {f : AH} {n v0 u : Nat} {v1 : Int32} {r : (Int32 ⊕ String) × HpN} {fs : List Value} {g0 : Nat → Int64} (hl0 : l.stackTraces = false) (hx : f v0 = some (.inr (8, fs))) (h : mX8_would v0 v1 f n = some r) (hE : ∀ E : String, r.1 = .inr E → E = eI ∨ E = eA) (hu : ∀ v, r.1 = .inl v → r.2.1 u = some (.inl (4, 1, .inr (.inl g0)))) : AMW X l yL_would cL_would 4 (some .int) [(0, 9, 12, 52), (0, 9, 15, 13)] 8 4 74 [.ref v0, .int v1, .ref u] f n (QW Int32.toInt64 wc_L_would u g0 r) := by
  refine AMW.of (by decide +kernel) rfl (Nat.le_of_ble_eq_true rfl) (fun p e s m args below meth c C htab => ?_)
  refine aw_nl [some (.ref v0), some (.int v1), some (.ref u), none] rfl ?_
  refine aw_ald_n C dL_would_0 rfl ?_
  refine aw_iconst C 0 dL_would_1 ki_0 ?_
  refine aw_ald_n C dL_would_2 rfl ?_
  refine aw_iload_n C dL_would_3 rfl ?_
  refine ax_callV C (ci := 8) (b := v0) [.int v1] mv_L_67 rfl rfl hx (rmX8_would hl0 h) rfl dL_would_4 (Nat.le_of_ble_eq_true rfl) (Nat.le_of_ble_eq_true rfl) rfl (Nat.le_of_ble_eq_true rfl) (Nat.le_of_ble_eq_true rfl) (Nat.le_of_ble_eq_true rfl) (fun E9 f9 n9 hq => ?_) (fun v9 f9 n9 hq => ?_)
  · obtain ⟨e1, rfl, e3⟩ := hq
    rcases hE E9 e1 with rfl | rfl
    · refine at_catch C htab [] ⟨0, 9, 12, 52⟩ [⟨0, 9, 15, 13⟩] rfl (fun z hz => nomatch hz) (by decide) (by decide) cl_L_52 (by decide) (ah_astore_n C dL_would_12 (by decide) rfl ?_)
      refine aw_iconst C 1 dL_would_13 ki_1 ?_
      exact aw_iret C rfl rfl dL_would_14 (Nat.le_of_ble_eq_true rfl) (Nat.le_of_ble_eq_true rfl) (Or.inr ⟨_, e1, by decide, rfl, e3⟩)
    · refine at_catch C htab [⟨0, 9, 12, 52⟩] ⟨0, 9, 15, 13⟩ [] rfl (fun z hz => by rw [List.mem_singleton.mp hz]; exact Or.inr ⟨by decide, _, cl_L_52, by decide⟩) (by decide) (by decide) cl_L_13 (by decide) (ah_astore_n C dL_would_15 (by decide) rfl ?_)
      refine aw_iconst C 2 dL_would_16 ki_2 ?_
      exact aw_iret C rfl rfl dL_would_17 (Nat.le_of_ble_eq_true rfl) (Nat.le_of_ble_eq_true rfl) (Or.inr ⟨_, e1, by decide, rfl, e3⟩)
  · obtain ⟨y1, e1, rfl, rfl, rfl⟩ := hq
    refine aw_i2l C dL_would_7 ?_
    refine aw_last C (hu _ e1) v1_in dL_would_8 ?_
    refine aw_goto C 18 dL_would_9 (by decide) ?_
    refine aw_iconst C 0 dL_would_18 ki_0 ?_
    exact aw_iret C rfl rfl dL_would_19 (Nat.le_of_ble_eq_true rfl) (Nat.le_of_ble_eq_true rfl) (Or.inl ⟨_, e1, rfl, rfl, rfl⟩)
def wc_L_found (E : String) : Int32 := if E = eA then 1 else 0
set_option maxHeartbeats 1000000 in
theorem wr_L_found {X : GX} {l : Launch} {f : AH} {n v0 u : Nat} {r : (Int64 ⊕ String) × HpN} {fs : List Value} {g0 : Nat → Int64} (hl0 : l.stackTraces = false) (hx : f v0 = some (.inr (8, fs))) (h : mX8_found v0 f n = some r) (hE : ∀ E : String, r.1 = .inr E → E = eA) (hu : ∀ v, r.1 = .inl v → r.2.1 u = some (.inl (4, 1, .inr (.inl g0)))) : AMW X l yL_found cL_found 3 (some .int) [(0, 7, 10, 13)] 7 3 16 [.ref v0, .ref u] f n (QW id wc_L_found u g0 r) := by
  refine AMW.of (by decide +kernel) rfl (Nat.le_of_ble_eq_true rfl) (fun p e s m args below meth c C htab => ?_)
  refine aw_nl [some (.ref v0), some (.ref u), none] rfl ?_
  refine aw_ald_n C dL_found_0 rfl ?_
  refine aw_iconst C 0 dL_found_1 ki_0 ?_
  refine aw_ald_n C dL_found_2 rfl ?_
  refine ax_callV C (ci := 8) (b := v0) [] mv_L_70 rfl rfl hx (rmX8_found hl0 h) rfl dL_found_3 (Nat.le_of_ble_eq_true rfl) (Nat.le_of_ble_eq_true rfl) rfl (Nat.le_of_ble_eq_true rfl) (Nat.le_of_ble_eq_true rfl) (Nat.le_of_ble_eq_true rfl) (fun E9 f9 n9 hq => ?_) (fun v9 f9 n9 hq => ?_)
  · obtain ⟨e1, rfl, e3⟩ := hq
    rcases hE E9 e1 with rfl
    refine at_catch C htab [] ⟨0, 7, 10, 13⟩ [] rfl (fun z hz => nomatch hz) (by decide) (by decide) cl_L_13 (by decide) (ah_astore_n C dL_found_10 (by decide) rfl ?_)
    refine aw_iconst C 1 dL_found_11 ki_1 ?_
    exact aw_iret C rfl rfl dL_found_12 (Nat.le_of_ble_eq_true rfl) (Nat.le_of_ble_eq_true rfl) (Or.inr ⟨_, e1, by decide, rfl, e3⟩)
  · obtain ⟨y1, e1, rfl, rfl, rfl⟩ := hq
    refine aw_last C (hu _ e1) v1_in dL_found_6 ?_
    refine aw_goto C 13 dL_found_7 (by decide) ?_
    refine aw_iconst C 0 dL_found_13 ki_0 ?_
    exact aw_iret C rfl rfl dL_found_14 (Nat.le_of_ble_eq_true rfl) (Nat.le_of_ble_eq_true rfl) (Or.inl ⟨_, e1, rfl, rfl, rfl⟩)
def wc_L_kept (E : String) : Int32 := if E = eI then 1 else 0
set_option maxHeartbeats 1000000 in
theorem wr_L_kept {X : GX} {l : Launch} {f : AH} {n v0 u : Nat} {v1 : Int32} {r : (Int32 ⊕ String) × HpN} {fs : List Value} {g0 : Nat → Int64} (hl0 : l.stackTraces = false) (hx : f v0 = some (.inr (8, fs))) (h : mX8_kept v0 v1 f n = some r) (hE : ∀ E : String, r.1 = .inr E → E = eI) (hu : ∀ v, r.1 = .inl v → r.2.1 u = some (.inl (4, 1, .inr (.inl g0)))) : AMW X l yL_kept cL_kept 4 (some .int) [(0, 16, 19, 52)] 8 1 6 [.ref v0, .int v1, .ref u] f n (QW cvZ wc_L_kept u g0 r) := by
  refine AMW.of (by decide +kernel) rfl (Nat.le_of_ble_eq_true rfl) (fun p e s m args below meth c C htab => ?_)
  refine aw_nl [some (.ref v0), some (.int v1), some (.ref u), none] rfl ?_
  refine aw_ald_n C dL_kept_0 rfl ?_
  refine aw_iconst C 0 dL_kept_1 ki_0 ?_
  refine aw_ald_n C dL_kept_2 rfl ?_
  refine aw_iload_n C dL_kept_3 rfl ?_
  refine ax_callV C (ci := 8) (b := v0) [.int v1] mv_L_74 rfl rfl hx (rmX8_kept hl0 h) rfl dL_kept_4 (Nat.le_of_ble_eq_true rfl) (Nat.le_of_ble_eq_true rfl) rfl (Nat.le_of_ble_eq_true rfl) (Nat.le_of_ble_eq_true rfl) (Nat.le_of_ble_eq_true rfl) (fun E9 f9 n9 hq => ?_) (fun v9 f9 n9 hq => ?_)
  · obtain ⟨e1, rfl, e3⟩ := hq
    rcases hE E9 e1 with rfl
    refine at_catch C htab [] ⟨0, 16, 19, 52⟩ [] rfl (fun z hz => nomatch hz) (by decide) (by decide) cl_L_52 (by decide) (ah_astore_n C dL_kept_19 (by decide) rfl ?_)
    refine aw_iconst C 1 dL_kept_20 ki_1 ?_
    exact aw_iret C rfl rfl dL_kept_21 (Nat.le_of_ble_eq_true rfl) (Nat.le_of_ble_eq_true rfl) (Or.inr ⟨_, e1, by decide, rfl, e3⟩)
  · obtain ⟨y1, e1, rfl, rfl, rfl⟩ := hq
    refine aw_if_eq C 14 dL_kept_7 (by decide) (fun q => ?_) (fun q => ?_)
    · refine aw_lconst C 0 dL_kept_14 rfl ?_
      refine aw_last C (hu _ e1) v1_in dL_kept_15 ?_
      refine aw_goto C 22 dL_kept_16 (by decide) ?_
      refine aw_iconst C 0 dL_kept_22 ki_0 ?_
      exact aw_iret C rfl rfl dL_kept_23 (Nat.le_of_ble_eq_true rfl) (Nat.le_of_ble_eq_true rfl) (Or.inl ⟨_, e1, rfl, (by rw [cvZ_0 q]; rfl), rfl⟩)
    · refine aw_lconst C 1 dL_kept_10 rfl ?_
      refine aw_goto C 15 dL_kept_11 (by decide) ?_
      refine aw_last C (hu _ e1) v1_in dL_kept_15 ?_
      refine aw_goto C 22 dL_kept_16 (by decide) ?_
      refine aw_iconst C 0 dL_kept_22 ki_0 ?_
      exact aw_iret C rfl rfl dL_kept_23 (Nat.le_of_ble_eq_true rfl) (Nat.le_of_ble_eq_true rfl) (Or.inl ⟨_, e1, rfl, (by rw [cvZ_1 q]; rfl), rfl⟩)
