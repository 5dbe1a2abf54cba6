theorem dX9_twice_36 : decode cX9_twice 36 = .ok (.iload_n 1, 1) := by decide +kernel
theorem dX9_twice_37 : decode cX9_twice 37 = .ok (.ifCond .eq 16, 3) := by decide +kernel
theorem dX9_twice_40 : decode cX9_twice 40 = .ok (.aload_n 0, 1) := by decide +kernel
theorem dX9_twice_41 : decode cX9_twice 41 = .ok (.iload_n 2, 1) := by decide +kernel
theorem dX9_twice_42 : decode cX9_twice 42 = .ok (.iload_n 2, 1) := by decide +kernel
theorem dX9_twice_43 : decode cX9_twice 43 = .ok (.invokevirtual 465, 3) := by decide +kernel
theorem dX9_twice_46 : decode cX9_twice 46 = .ok (.istore_n 1, 1) := by decide +kernel
theorem dX9_twice_47 : decode cX9_twice 47 = .ok (.iinc 2 1, 3) := by decide +kernel
theorem dX9_twice_50 : decode cX9_twice 50 = .ok (.goto (-22), 3) := by decide +kernel
theorem dX9_twice_53 : decode cX9_twice 53 = .ok (.aload_n 0, 1) := by decide +kernel
theorem dX9_twice_54 : decode cX9_twice 54 = .ok (.invokevirtual 244, 3) := by decide +kernel
theorem dX9_twice_57 : decode cX9_twice 57 = .ok (.iload_n 1, 1) := by decide +kernel
theorem dX9_twice_58 : decode cX9_twice 58 = .ok (.ireturn, 1) := by decide +kernel
theorem dX9_undo_0 : decode cX9_undo 0 = .ok (.aload_n 0, 1) := by decide +kernel
theorem dX9_undo_1 : decode cX9_undo 1 = .ok (.aload_n 0, 1) := by decide +kernel
theorem dX9_undo_2 : decode cX9_undo 2 = .ok (.getfield 325, 3) := by decide +kernel
theorem dX9_undo_5 : decode cX9_undo 5 = .ok (.ifCond .ne 7, 3) := by decide +kernel
theorem dX9_undo_8 : decode cX9_undo 8 = .ok (.iconst 1, 1) := by decide +kernel
theorem dX9_undo_9 : decode cX9_undo 9 = .ok (.goto 4, 3) := by decide +kernel
theorem dX9_undo_12 : decode cX9_undo 12 = .ok (.iconst 0, 1) := by decide +kernel
theorem dX9_undo_13 : decode cX9_undo 13 = .ok (.putfield 138, 3) := by decide +kernel
theorem dX9_undo_16 : decode cX9_undo 16 = .ok (.aload_n 0, 1) := by decide +kernel
theorem dX9_undo_17 : decode cX9_undo 17 = .ok (.getfield 138, 3) := by decide +kernel
theorem dX9_undo_20 : decode cX9_undo 20 = .ok (.ifCond .le 5, 3) := by decide +kernel
theorem dX9_undo_23 : decode cX9_undo 23 = .ok (.iconst 0, 1) := by decide +kernel
theorem dX9_undo_24 : decode cX9_undo 24 = .ok (.ireturn, 1) := by decide +kernel
theorem dX9_undo_25 : decode cX9_undo 25 = .ok (.aload_n 0, 1) := by decide +kernel
theorem dX9_undo_26 : decode cX9_undo 26 = .ok (.dup, 1) := by decide +kernel
theorem dX9_undo_27 : decode cX9_undo 27 = .ok (.getfield 325, 3) := by decide +kernel
theorem dX9_undo_30 : decode cX9_undo 30 = .ok (.iconst 1, 1) := by decide +kernel
theorem dX9_undo_31 : decode cX9_undo 31 = .ok (.isub, 1) := by decide +kernel
theorem dX9_undo_32 : decode cX9_undo 32 = .ok (.putfield 325, 3) := by decide +kernel
theorem dX9_undo_35 : decode cX9_undo 35 = .ok (.iconst 0, 1) := by decide +kernel
theorem dX9_undo_36 : decode cX9_undo 36 = .ok (.istore_n 1, 1) := by decide +kernel
theorem dX9_undo_37 : decode cX9_undo 37 = .ok (.iload_n 1, 1) := by decide +kernel
theorem dX9_undo_38 : decode cX9_undo 38 = .ok (.sipush 4347, 3) := by decide +kernel
theorem dX9_undo_41 : decode cX9_undo 41 = .ok (.if_icmp .ge 30, 3) := by decide +kernel
theorem dX9_undo_44 : decode cX9_undo 44 = .ok (.aload_n 0, 1) := by decide +kernel
theorem dX9_undo_45 : decode cX9_undo 45 = .ok (.getfield 7, 3) := by decide +kernel
theorem dX9_undo_48 : decode cX9_undo 48 = .ok (.iload_n 1, 1) := by decide +kernel
theorem dX9_undo_49 : decode cX9_undo 49 = .ok (.aload_n 0, 1) := by decide +kernel
theorem dX9_undo_50 : decode cX9_undo 50 = .ok (.getfield 20, 3) := by decide +kernel
theorem dX9_undo_53 : decode cX9_undo 53 = .ok (.sipush 4347, 3) := by decide +kernel
theorem dX9_undo_56 : decode cX9_undo 56 = .ok (.aload_n 0, 1) := by decide +kernel
theorem dX9_undo_57 : decode cX9_undo 57 = .ok (.getfield 325, 3) := by decide +kernel
theorem dX9_undo_60 : decode cX9_undo 60 = .ok (.imul, 1) := by decide +kernel
theorem dX9_undo_61 : decode cX9_undo 61 = .ok (.iload_n 1, 1) := by decide +kernel
theorem dX9_undo_62 : decode cX9_undo 62 = .ok (.iadd, 1) := by decide +kernel
theorem dX9_undo_63 : decode cX9_undo 63 = .ok (.iaload, 1) := by decide +kernel
theorem dX9_undo_64 : decode cX9_undo 64 = .ok (.iastore, 1) := by decide +kernel
theorem dX9_undo_65 : decode cX9_undo 65 = .ok (.iinc 1 1, 3) := by decide +kernel
theorem dX9_undo_68 : decode cX9_undo 68 = .ok (.goto (-31), 3) := by decide +kernel
theorem dX9_undo_71 : decode cX9_undo 71 = .ok (.aload_n 0, 1) := by decide +kernel
theorem dX9_undo_72 : decode cX9_undo 72 = .ok (.invokevirtual 244, 3) := by decide +kernel
theorem dX9_undo_75 : decode cX9_undo 75 = .ok (.aload_n 0, 1) := by decide +kernel
theorem dX9_undo_76 : decode cX9_undo 76 = .ok (.getfield 325, 3) := by decide +kernel
theorem dX9_undo_79 : decode cX9_undo 79 = .ok (.ireturn, 1) := by decide +kernel
theorem dX9_undoes_0 : decode cX9_undoes 0 = .ok (.iconst 0, 1) := by decide +kernel
theorem dX9_undoes_1 : decode cX9_undoes 1 = .ok (.istore 11, 2) := by decide +kernel
theorem dX9_undoes_3 : decode cX9_undoes 3 = .ok (.iload 6, 2) := by decide +kernel
theorem dX9_undoes_5 : decode cX9_undoes 5 = .ok (.istore 12, 2) := by decide +kernel
theorem dX9_undoes_7 : decode cX9_undoes 7 = .ok (.iload 12, 2) := by decide +kernel
theorem dX9_undoes_9 : decode cX9_undoes 9 = .ok (.iload 7, 2) := by decide +kernel
theorem dX9_undoes_11 : decode cX9_undoes 11 = .ok (.if_icmp .ge 63, 3) := by decide +kernel
theorem dX9_undoes_14 : decode cX9_undoes 14 = .ok (.aload_n 0, 1) := by decide +kernel
theorem dX9_undoes_15 : decode cX9_undoes 15 = .ok (.iload_n 1, 1) := by decide +kernel
theorem dX9_undoes_16 : decode cX9_undoes 16 = .ok (.iload_n 2, 1) := by decide +kernel
theorem dX9_undoes_17 : decode cX9_undoes 17 = .ok (.aload_n 3, 1) := by decide +kernel
theorem dX9_undoes_18 : decode cX9_undoes 18 = .ok (.iload 12, 2) := by decide +kernel
theorem dX9_undoes_20 : decode cX9_undoes 20 = .ok (.iload 7, 2) := by decide +kernel
theorem dX9_undoes_22 : decode cX9_undoes 22 = .ok (.invokevirtual 200, 3) := by decide +kernel
theorem dX9_undoes_25 : decode cX9_undoes 25 = .ok (.istore 13, 2) := by decide +kernel
theorem dX9_undoes_27 : decode cX9_undoes 27 = .ok (.aload 8, 2) := by decide +kernel
theorem dX9_undoes_29 : decode cX9_undoes 29 = .ok (.iload 11, 2) := by decide +kernel
theorem dX9_undoes_31 : decode cX9_undoes 31 = .ok (.aload_n 0, 1) := by decide +kernel
theorem dX9_undoes_32 : decode cX9_undoes 32 = .ok (.getfield 183, 3) := by decide +kernel
theorem dX9_undoes_35 : decode cX9_undoes 35 = .ok (.iastore, 1) := by decide +kernel
theorem dX9_undoes_36 : decode cX9_undoes 36 = .ok (.aload 9, 2) := by decide +kernel
theorem dX9_undoes_38 : decode cX9_undoes 38 = .ok (.iload 11, 2) := by decide +kernel
theorem dX9_undoes_40 : decode cX9_undoes 40 = .ok (.aload 4, 2) := by decide +kernel
theorem dX9_undoes_42 : decode cX9_undoes 42 = .ok (.iload 12, 2) := by decide +kernel
theorem dX9_undoes_44 : decode cX9_undoes 44 = .ok (.iaload, 1) := by decide +kernel
theorem dX9_undoes_45 : decode cX9_undoes 45 = .ok (.iastore, 1) := by decide +kernel
theorem dX9_undoes_46 : decode cX9_undoes 46 = .ok (.aload 10, 2) := by decide +kernel
theorem dX9_undoes_48 : decode cX9_undoes 48 = .ok (.iload 11, 2) := by decide +kernel
theorem dX9_undoes_50 : decode cX9_undoes 50 = .ok (.aload 5, 2) := by decide +kernel
theorem dX9_undoes_52 : decode cX9_undoes 52 = .ok (.iload 12, 2) := by decide +kernel
theorem dX9_undoes_54 : decode cX9_undoes 54 = .ok (.iload 13, 2) := by decide +kernel
theorem dX9_undoes_56 : decode cX9_undoes 56 = .ok (.iadd, 1) := by decide +kernel
theorem dX9_undoes_57 : decode cX9_undoes 57 = .ok (.iconst 1, 1) := by decide +kernel
theorem dX9_undoes_58 : decode cX9_undoes 58 = .ok (.isub, 1) := by decide +kernel
theorem dX9_undoes_59 : decode cX9_undoes 59 = .ok (.iaload, 1) := by decide +kernel
theorem dX9_undoes_60 : decode cX9_undoes 60 = .ok (.iastore, 1) := by decide +kernel
theorem dX9_undoes_61 : decode cX9_undoes 61 = .ok (.iinc 11 1, 3) := by decide +kernel
theorem dX9_undoes_64 : decode cX9_undoes 64 = .ok (.iload 12, 2) := by decide +kernel
theorem dX9_undoes_66 : decode cX9_undoes 66 = .ok (.iload 13, 2) := by decide +kernel
theorem dX9_undoes_68 : decode cX9_undoes 68 = .ok (.iadd, 1) := by decide +kernel
theorem dX9_undoes_69 : decode cX9_undoes 69 = .ok (.istore 12, 2) := by decide +kernel
theorem dX9_undoes_71 : decode cX9_undoes 71 = .ok (.goto (-64), 3) := by decide +kernel
theorem dX9_undoes_74 : decode cX9_undoes 74 = .ok (.iload 11, 2) := by decide +kernel
theorem dX9_undoes_76 : decode cX9_undoes 76 = .ok (.ireturn, 1) := by decide +kernel
theorem dX9_unlikeTexts_0 : decode cX9_unlikeTexts 0 = .ok (.iconst 0, 1) := by decide +kernel
theorem dX9_unlikeTexts_1 : decode cX9_unlikeTexts 1 = .ok (.istore_n 1, 1) := by decide +kernel
theorem dX9_unlikeTexts_2 : decode cX9_unlikeTexts 2 = .ok (.iconst 0, 1) := by decide +kernel
theorem dX9_unlikeTexts_3 : decode cX9_unlikeTexts 3 = .ok (.istore_n 2, 1) := by decide +kernel
theorem dX9_unlikeTexts_4 : decode cX9_unlikeTexts 4 = .ok (.iload_n 2, 1) := by decide +kernel
theorem dX9_unlikeTexts_5 : decode cX9_unlikeTexts 5 = .ok (.aload_n 0, 1) := by decide +kernel
theorem dX9_unlikeTexts_6 : decode cX9_unlikeTexts 6 = .ok (.getfield 204, 3) := by decide +kernel
theorem dX9_unlikeTexts_9 : decode cX9_unlikeTexts 9 = .ok (.if_icmp .ge 58, 3) := by decide +kernel
theorem dX9_unlikeTexts_12 : decode cX9_unlikeTexts 12 = .ok (.iconst 1, 1) := by decide +kernel
theorem dX9_unlikeTexts_13 : decode cX9_unlikeTexts 13 = .ok (.istore_n 3, 1) := by decide +kernel
theorem dX9_unlikeTexts_14 : decode cX9_unlikeTexts 14 = .ok (.iconst 0, 1) := by decide +kernel
theorem dX9_unlikeTexts_15 : decode cX9_unlikeTexts 15 = .ok (.istore 4, 2) := by decide +kernel
theorem dX9_unlikeTexts_17 : decode cX9_unlikeTexts 17 = .ok (.iload 4, 2) := by decide +kernel
theorem dX9_unlikeTexts_19 : decode cX9_unlikeTexts 19 = .ok (.iload_n 2, 1) := by decide +kernel
theorem dX9_unlikeTexts_20 : decode cX9_unlikeTexts 20 = .ok (.if_icmp .ge 29, 3) := by decide +kernel
theorem dX9_unlikeTexts_23 : decode cX9_unlikeTexts 23 = .ok (.iload_n 3, 1) := by decide +kernel
theorem dX9_unlikeTexts_24 : decode cX9_unlikeTexts 24 = .ok (.ifCond .eq 17, 3) := by decide +kernel
theorem dX9_unlikeTexts_27 : decode cX9_unlikeTexts 27 = .ok (.aload_n 0, 1) := by decide +kernel
theorem dX9_unlikeTexts_28 : decode cX9_unlikeTexts 28 = .ok (.iload_n 2, 1) := by decide +kernel
theorem dX9_unlikeTexts_29 : decode cX9_unlikeTexts 29 = .ok (.iload 4, 2) := by decide +kernel
theorem dX9_unlikeTexts_31 : decode cX9_unlikeTexts 31 = .ok (.invokevirtual 309, 3) := by decide +kernel
theorem dX9_unlikeTexts_34 : decode cX9_unlikeTexts 34 = .ok (.ifCond .ne 7, 3) := by decide +kernel
theorem dX9_unlikeTexts_37 : decode cX9_unlikeTexts 37 = .ok (.iconst 1, 1) := by decide +kernel
theorem dX9_unlikeTexts_38 : decode cX9_unlikeTexts 38 = .ok (.goto 4, 3) := by decide +kernel
theorem dX9_unlikeTexts_41 : decode cX9_unlikeTexts 41 = .ok (.iconst 0, 1) := by decide +kernel
theorem dX9_unlikeTexts_42 : decode cX9_unlikeTexts 42 = .ok (.istore_n 3, 1) := by decide +kernel
theorem dX9_unlikeTexts_43 : decode cX9_unlikeTexts 43 = .ok (.iinc 4 1, 3) := by decide +kernel
theorem dX9_unlikeTexts_46 : decode cX9_unlikeTexts 46 = .ok (.goto (-29), 3) := by decide +kernel
theorem dX9_unlikeTexts_49 : decode cX9_unlikeTexts 49 = .ok (.iload_n 1, 1) := by decide +kernel
theorem dX9_unlikeTexts_50 : decode cX9_unlikeTexts 50 = .ok (.iload_n 3, 1) := by decide +kernel
theorem dX9_unlikeTexts_51 : decode cX9_unlikeTexts 51 = .ok (.ifCond .eq 7, 3) := by decide +kernel
theorem dX9_unlikeTexts_54 : decode cX9_unlikeTexts 54 = .ok (.iconst 1, 1) := by decide +kernel
theorem dX9_unlikeTexts_55 : decode cX9_unlikeTexts 55 = .ok (.goto 4, 3) := by decide +kernel
theorem dX9_unlikeTexts_58 : decode cX9_unlikeTexts 58 = .ok (.iconst 0, 1) := by decide +kernel
theorem dX9_unlikeTexts_59 : decode cX9_unlikeTexts 59 = .ok (.iadd, 1) := by decide +kernel
theorem dX9_unlikeTexts_60 : decode cX9_unlikeTexts 60 = .ok (.istore_n 1, 1) := by decide +kernel
theorem dX9_unlikeTexts_61 : decode cX9_unlikeTexts 61 = .ok (.iinc 2 1, 3) := by decide +kernel
theorem dX9_unlikeTexts_64 : decode cX9_unlikeTexts 64 = .ok (.goto (-60), 3) := by decide +kernel
theorem dX9_unlikeTexts_67 : decode cX9_unlikeTexts 67 = .ok (.iload_n 1, 1) := by decide +kernel
theorem dX9_unlikeTexts_68 : decode cX9_unlikeTexts 68 = .ok (.ireturn, 1) := by decide +kernel
theorem dX9_unlock_0 : decode cX9_unlock 0 = .ok (.aload_n 0, 1) := by decide +kernel
theorem dX9_unlock_1 : decode cX9_unlock 1 = .ok (.invokevirtual 420, 3) := by decide +kernel
theorem dX9_unlock_4 : decode cX9_unlock 4 = .ok (.aload_n 0, 1) := by decide +kernel
theorem dX9_unlock_5 : decode cX9_unlock 5 = .ok (.aload_n 0, 1) := by decide +kernel
theorem dX9_unlock_6 : decode cX9_unlock 6 = .ok (.invokevirtual 399, 3) := by decide +kernel
theorem dX9_unlock_9 : decode cX9_unlock 9 = .ok (.iconst 0, 1) := by decide +kernel
theorem dX9_unlock_10 : decode cX9_unlock 10 = .ok (.invokevirtual 429, 3) := by decide +kernel
theorem dX9_unlock_13 : decode cX9_unlock 13 = .ok (.ifCond .eq 10, 3) := by decide +kernel
theorem dX9_unlock_16 : decode cX9_unlock 16 = .ok (.aload_n 0, 1) := by decide +kernel
theorem dX9_unlock_17 : decode cX9_unlock 17 = .ok (.getfield 204, 3) := by decide +kernel
theorem dX9_unlock_20 : decode cX9_unlock 20 = .ok (.goto 4, 3) := by decide +kernel
theorem dX9_unlock_23 : decode cX9_unlock 23 = .ok (.iconst 0, 1) := by decide +kernel
theorem dX9_unlock_24 : decode cX9_unlock 24 = .ok (.ireturn, 1) := by decide +kernel
theorem dX9_unlocks_0 : decode cX9_unlocks 0 = .ok (.aload_n 0, 1) := by decide +kernel
theorem dX9_unlocks_1 : decode cX9_unlocks 1 = .ok (.getfield 7, 3) := by decide +kernel
theorem dX9_unlocks_4 : decode cX9_unlocks 4 = .ok (.iconst 5, 1) := by decide +kernel
theorem dX9_unlocks_5 : decode cX9_unlocks 5 = .ok (.iconst 0, 1) := by decide +kernel
theorem dX9_unlocks_6 : decode cX9_unlocks 6 = .ok (.iastore, 1) := by decide +kernel
theorem dX9_unlocks_7 : decode cX9_unlocks 7 = .ok (.aload_n 0, 1) := by decide +kernel
theorem dX9_unlocks_8 : decode cX9_unlocks 8 = .ok (.invokevirtual 322, 3) := by decide +kernel
theorem dX9_unlocks_11 : decode cX9_unlocks 11 = .ok (.iconst 0, 1) := by decide +kernel
theorem dX9_unlocks_12 : decode cX9_unlocks 12 = .ok (.ireturn, 1) := by decide +kernel
theorem dX9_why_0 : decode cX9_why 0 = .ok (.aload_n 0, 1) := by decide +kernel
theorem dX9_why_1 : decode cX9_why 1 = .ok (.iconst 0, 1) := by decide +kernel
theorem dX9_why_2 : decode cX9_why 2 = .ok (.putfield 138, 3) := by decide +kernel
theorem dX9_why_5 : decode cX9_why 5 = .ok (.aload_n 0, 1) := by decide +kernel
theorem dX9_why_6 : decode cX9_why 6 = .ok (.getfield 328, 3) := by decide +kernel
theorem dX9_why_9 : decode cX9_why 9 = .ok (.ireturn, 1) := by decide +kernel
theorem dX9_wipe_0 : decode cX9_wipe 0 = .ok (.aload_n 0, 1) := by decide +kernel
theorem dX9_wipe_1 : decode cX9_wipe 1 = .ok (.invokevirtual 420, 3) := by decide +kernel
theorem dX9_wipe_4 : decode cX9_wipe 4 = .ok (.aload_n 0, 1) := by decide +kernel
theorem dX9_wipe_5 : decode cX9_wipe 5 = .ok (.invokevirtual 319, 3) := by decide +kernel
theorem dX9_wipe_8 : decode cX9_wipe 8 = .ok (.istore_n 1, 1) := by decide +kernel
theorem dX9_wipe_9 : decode cX9_wipe 9 = .ok (.aload_n 0, 1) := by decide +kernel
theorem dX9_wipe_10 : decode cX9_wipe 10 = .ok (.aload_n 0, 1) := by decide +kernel
theorem dX9_wipe_11 : decode cX9_wipe 11 = .ok (.invokevirtual 417, 3) := by decide +kernel
theorem dX9_wipe_14 : decode cX9_wipe 14 = .ok (.iconst 1, 1) := by decide +kernel
theorem dX9_wipe_15 : decode cX9_wipe 15 = .ok (.invokevirtual 429, 3) := by decide +kernel
theorem dX9_wipe_18 : decode cX9_wipe 18 = .ok (.ifCond .eq 7, 3) := by decide +kernel
theorem dX9_wipe_21 : decode cX9_wipe 21 = .ok (.iload_n 1, 1) := by decide +kernel
theorem dX9_wipe_22 : decode cX9_wipe 22 = .ok (.goto 4, 3) := by decide +kernel
theorem dX9_wipe_25 : decode cX9_wipe 25 = .ok (.iconst 0, 1) := by decide +kernel
theorem dX9_wipe_26 : decode cX9_wipe 26 = .ok (.ireturn, 1) := by decide +kernel
theorem dX9_wipe0_0 : decode cX9_wipe0 0 = .ok (.aload_n 0, 1) := by decide +kernel
theorem dX9_wipe0_1 : decode cX9_wipe0 1 = .ok (.invokevirtual 319, 3) := by decide +kernel
theorem dX9_wipe0_4 : decode cX9_wipe0 4 = .ok (.ifCond .ne 5, 3) := by decide +kernel
theorem dX9_wipe0_7 : decode cX9_wipe0 7 = .ok (.iconst 4, 1) := by decide +kernel
theorem dX9_wipe0_8 : decode cX9_wipe0 8 = .ok (.ireturn, 1) := by decide +kernel
theorem dX9_wipe0_9 : decode cX9_wipe0 9 = .ok (.iconst 0, 1) := by decide +kernel
theorem dX9_wipe0_10 : decode cX9_wipe0 10 = .ok (.istore_n 1, 1) := by decide +kernel
theorem dX9_wipe0_11 : decode cX9_wipe0 11 = .ok (.iload_n 1, 1) := by decide +kernel
theorem dX9_wipe0_12 : decode cX9_wipe0 12 = .ok (.bipush 40, 2) := by decide +kernel
theorem dX9_wipe0_14 : decode cX9_wipe0 14 = .ok (.if_icmp .ge 23, 3) := by decide +kernel
theorem dX9_wipe0_17 : decode cX9_wipe0 17 = .ok (.aload_n 0, 1) := by decide +kernel
theorem dX9_wipe0_18 : decode cX9_wipe0 18 = .ok (.getfield 7, 3) := by decide +kernel
theorem dX9_wipe0_21 : decode cX9_wipe0 21 = .ok (.sipush 443, 3) := by decide +kernel
theorem dX9_wipe0_24 : decode cX9_wipe0 24 = .ok (.bipush 61, 2) := by decide +kernel
theorem dX9_wipe0_26 : decode cX9_wipe0 26 = .ok (.iload_n 1, 1) := by decide +kernel
theorem dX9_wipe0_27 : decode cX9_wipe0 27 = .ok (.imul, 1) := by decide +kernel
theorem dX9_wipe0_28 : decode cX9_wipe0 28 = .ok (.iadd, 1) := by decide +kernel
theorem dX9_wipe0_29 : decode cX9_wipe0 29 = .ok (.iconst (-1), 1) := by decide +kernel
theorem dX9_wipe0_30 : decode cX9_wipe0 30 = .ok (.iastore, 1) := by decide +kernel
theorem dX9_wipe0_31 : decode cX9_wipe0 31 = .ok (.iinc 1 1, 3) := by decide +kernel
theorem dX9_wipe0_34 : decode cX9_wipe0 34 = .ok (.goto (-23), 3) := by decide +kernel
theorem dX9_wipe0_37 : decode cX9_wipe0 37 = .ok (.iconst 0, 1) := by decide +kernel
theorem dX9_wipe0_38 : decode cX9_wipe0 38 = .ok (.ireturn, 1) := by decide +kernel
theorem dX9_word_0 : decode cX9_word 0 = .ok (.iconst 0, 1) := by decide +kernel
theorem dX9_word_1 : decode cX9_word 1 = .ok (.istore_n 3, 1) := by decide +kernel
theorem dX9_word_2 : decode cX9_word 2 = .ok (.iload_n 3, 1) := by decide +kernel
theorem dX9_word_3 : decode cX9_word 3 = .ok (.aload_n 2, 1) := by decide +kernel
theorem dX9_word_4 : decode cX9_word 4 = .ok (.invokevirtual 173, 3) := by decide +kernel
theorem dX9_word_7 : decode cX9_word 7 = .ok (.if_icmp .ge 22, 3) := by decide +kernel
theorem dX9_word_10 : decode cX9_word 10 = .ok (.aload_n 1, 1) := by decide +kernel
theorem dX9_word_11 : decode cX9_word 11 = .ok (.aload_n 0, 1) := by decide +kernel
theorem dX9_word_12 : decode cX9_word 12 = .ok (.getfield 254, 3) := by decide +kernel
theorem dX9_word_15 : decode cX9_word 15 = .ok (.iload_n 3, 1) := by decide +kernel
theorem dX9_word_16 : decode cX9_word 16 = .ok (.iadd, 1) := by decide +kernel
theorem dX9_word_17 : decode cX9_word 17 = .ok (.aload_n 2, 1) := by decide +kernel
theorem dX9_word_18 : decode cX9_word 18 = .ok (.iload_n 3, 1) := by decide +kernel
theorem dX9_word_19 : decode cX9_word 19 = .ok (.invokevirtual 179, 3) := by decide +kernel
theorem dX9_word_22 : decode cX9_word 22 = .ok (.iastore, 1) := by decide +kernel
theorem dX9_word_23 : decode cX9_word 23 = .ok (.iinc 3 1, 3) := by decide +kernel
theorem dX9_word_26 : decode cX9_word 26 = .ok (.goto (-24), 3) := by decide +kernel
theorem dX9_word_29 : decode cX9_word 29 = .ok (.aload_n 0, 1) := by decide +kernel
theorem dX9_word_30 : decode cX9_word 30 = .ok (.dup, 1) := by decide +kernel
theorem dX9_word_31 : decode cX9_word 31 = .ok (.getfield 254, 3) := by decide +kernel
theorem dX9_word_34 : decode cX9_word 34 = .ok (.aload_n 2, 1) := by decide +kernel
theorem dX9_word_35 : decode cX9_word 35 = .ok (.invokevirtual 173, 3) := by decide +kernel
theorem dX9_word_38 : decode cX9_word 38 = .ok (.iadd, 1) := by decide +kernel
theorem dX9_word_39 : decode cX9_word 39 = .ok (.putfield 254, 3) := by decide +kernel
theorem dX9_word_42 : decode cX9_word 42 = .ok (.return_, 1) := by decide +kernel
theorem dX9_wordEnd_0 : decode cX9_wordEnd 0 = .ok (.aload_n 0, 1) := by decide +kernel
theorem dX9_wordEnd_1 : decode cX9_wordEnd 1 = .ok (.invokevirtual 346, 3) := by decide +kernel
theorem dX9_wordEnd_4 : decode cX9_wordEnd 4 = .ok (.istore_n 1, 1) := by decide +kernel
theorem dX9_wordEnd_5 : decode cX9_wordEnd 5 = .ok (.iload_n 1, 1) := by decide +kernel
theorem dX9_wordEnd_6 : decode cX9_wordEnd 6 = .ok (.aload_n 0, 1) := by decide +kernel
theorem dX9_wordEnd_7 : decode cX9_wordEnd 7 = .ok (.getfield 343, 3) := by decide +kernel
theorem dX9_wordEnd_10 : decode cX9_wordEnd 10 = .ok (.if_icmp .ge 25, 3) := by decide +kernel
theorem dX9_wordEnd_13 : decode cX9_wordEnd 13 = .ok (.aload_n 0, 1) := by decide +kernel
theorem dX9_wordEnd_14 : decode cX9_wordEnd 14 = .ok (.getfield 23, 3) := by decide +kernel
theorem dX9_wordEnd_17 : decode cX9_wordEnd 17 = .ok (.iload_n 1, 1) := by decide +kernel
theorem dX9_wordEnd_18 : decode cX9_wordEnd 18 = .ok (.iaload, 1) := by decide +kernel
theorem dX9_wordEnd_19 : decode cX9_wordEnd 19 = .ok (.bipush 97, 2) := by decide +kernel
theorem dX9_wordEnd_21 : decode cX9_wordEnd 21 = .ok (.bipush 122, 2) := by decide +kernel
theorem dX9_wordEnd_23 : decode cX9_wordEnd 23 = .ok (.invokestatic 141, 3) := by decide +kernel
theorem dX9_wordEnd_26 : decode cX9_wordEnd 26 = .ok (.ifCond .eq 9, 3) := by decide +kernel
theorem dX9_wordEnd_29 : decode cX9_wordEnd 29 = .ok (.iinc 1 1, 3) := by decide +kernel
theorem dX9_wordEnd_32 : decode cX9_wordEnd 32 = .ok (.goto (-27), 3) := by decide +kernel
theorem dX9_wordEnd_35 : decode cX9_wordEnd 35 = .ok (.iload_n 1, 1) := by decide +kernel
theorem dX9_wordEnd_36 : decode cX9_wordEnd 36 = .ok (.ireturn, 1) := by decide +kernel
theorem dX9_wordsOf_0 : decode cX9_wordsOf 0 = .ok (.iconst 0, 1) := by decide +kernel
theorem dX9_wordsOf_1 : decode cX9_wordsOf 1 = .ok (.istore_n 2, 1) := by decide +kernel
theorem dX9_wordsOf_2 : decode cX9_wordsOf 2 = .ok (.iconst 0, 1) := by decide +kernel
theorem dX9_wordsOf_3 : decode cX9_wordsOf 3 = .ok (.istore_n 3, 1) := by decide +kernel
theorem dX9_wordsOf_4 : decode cX9_wordsOf 4 = .ok (.iload_n 3, 1) := by decide +kernel
theorem dX9_wordsOf_5 : decode cX9_wordsOf 5 = .ok (.aload_n 0, 1) := by decide +kernel
theorem dX9_wordsOf_6 : decode cX9_wordsOf 6 = .ok (.iload_n 1, 1) := by decide +kernel
theorem dX9_wordsOf_7 : decode cX9_wordsOf 7 = .ok (.invokevirtual 313, 3) := by decide +kernel
theorem dX9_wordsOf_10 : decode cX9_wordsOf 10 = .ok (.if_icmp .ge 47, 3) := by decide +kernel
theorem dX9_wordsOf_13 : decode cX9_wordsOf 13 = .ok (.iload_n 2, 1) := by decide +kernel
theorem dX9_wordsOf_14 : decode cX9_wordsOf 14 = .ok (.aload_n 0, 1) := by decide +kernel
theorem dX9_wordsOf_15 : decode cX9_wordsOf 15 = .ok (.iload_n 1, 1) := by decide +kernel
theorem dX9_wordsOf_16 : decode cX9_wordsOf 16 = .ok (.iload_n 3, 1) := by decide +kernel
theorem dX9_wordsOf_17 : decode cX9_wordsOf 17 = .ok (.invokevirtual 316, 3) := by decide +kernel
theorem dX9_wordsOf_20 : decode cX9_wordsOf 20 = .ok (.invokestatic 207, 3) := by decide +kernel
theorem dX9_wordsOf_23 : decode cX9_wordsOf 23 = .ok (.ifCond .eq 25, 3) := by decide +kernel
theorem dX9_wordsOf_26 : decode cX9_wordsOf 26 = .ok (.iload_n 3, 1) := by decide +kernel
theorem dX9_wordsOf_27 : decode cX9_wordsOf 27 = .ok (.ifCond .eq 17, 3) := by decide +kernel
theorem dX9_wordsOf_30 : decode cX9_wordsOf 30 = .ok (.aload_n 0, 1) := by decide +kernel
theorem dX9_wordsOf_31 : decode cX9_wordsOf 31 = .ok (.iload_n 1, 1) := by decide +kernel
theorem dX9_wordsOf_32 : decode cX9_wordsOf 32 = .ok (.iload_n 3, 1) := by decide +kernel
theorem dX9_wordsOf_33 : decode cX9_wordsOf 33 = .ok (.iconst 1, 1) := by decide +kernel
theorem dX9_wordsOf_34 : decode cX9_wordsOf 34 = .ok (.isub, 1) := by decide +kernel
theorem dX9_wordsOf_35 : decode cX9_wordsOf 35 = .ok (.invokevirtual 316, 3) := by decide +kernel
theorem dX9_wordsOf_38 : decode cX9_wordsOf 38 = .ok (.invokestatic 207, 3) := by decide +kernel
theorem dX9_wordsOf_41 : decode cX9_wordsOf 41 = .ok (.ifCond .ne 7, 3) := by decide +kernel
theorem dX9_wordsOf_44 : decode cX9_wordsOf 44 = .ok (.iconst 1, 1) := by decide +kernel
theorem dX9_wordsOf_45 : decode cX9_wordsOf 45 = .ok (.goto 4, 3) := by decide +kernel
theorem dX9_wordsOf_48 : decode cX9_wordsOf 48 = .ok (.iconst 0, 1) := by decide +kernel
theorem dX9_wordsOf_49 : decode cX9_wordsOf 49 = .ok (.iadd, 1) := by decide +kernel
theorem dX9_wordsOf_50 : decode cX9_wordsOf 50 = .ok (.istore_n 2, 1) := by decide +kernel
theorem dX9_wordsOf_51 : decode cX9_wordsOf 51 = .ok (.iinc 3 1, 3) := by decide +kernel
theorem dX9_wordsOf_54 : decode cX9_wordsOf 54 = .ok (.goto (-50), 3) := by decide +kernel
theorem dX9_wordsOf_57 : decode cX9_wordsOf 57 = .ok (.iload_n 2, 1) := by decide +kernel
theorem dX9_wordsOf_58 : decode cX9_wordsOf 58 = .ok (.ireturn, 1) := by decide +kernel
theorem dX9_would_0 : decode cX9_would 0 = .ok (.aload_n 0, 1) := by decide +kernel
theorem dX9_would_1 : decode cX9_would 1 = .ok (.invokevirtual 435, 3) := by decide +kernel
theorem dX9_would_4 : decode cX9_would 4 = .ok (.istore_n 2, 1) := by decide +kernel
theorem dX9_would_5 : decode cX9_would 5 = .ok (.aload_n 0, 1) := by decide +kernel
theorem dX9_would_6 : decode cX9_would 6 = .ok (.aload_n 0, 1) := by decide +kernel
theorem dX9_would_7 : decode cX9_would 7 = .ok (.iload_n 1, 1) := by decide +kernel
theorem dX9_would_8 : decode cX9_would 8 = .ok (.invokevirtual 293, 3) := by decide +kernel
theorem dX9_would_11 : decode cX9_would 11 = .ok (.ifCond .ne 7, 3) := by decide +kernel
theorem dX9_would_14 : decode cX9_would 14 = .ok (.iconst 1, 1) := by decide +kernel
theorem dX9_would_15 : decode cX9_would 15 = .ok (.goto 14, 3) := by decide +kernel
theorem dX9_would_18 : decode cX9_would 18 = .ok (.iload_n 2, 1) := by decide +kernel
theorem dX9_would_19 : decode cX9_would 19 = .ok (.bipush 60, 2) := by decide +kernel
theorem dX9_would_21 : decode cX9_would 21 = .ok (.if_icmp .le 7, 3) := by decide +kernel
theorem dX9_would_24 : decode cX9_would 24 = .ok (.iconst 2, 1) := by decide +kernel
theorem dX9_would_25 : decode cX9_would 25 = .ok (.goto 4, 3) := by decide +kernel
theorem dX9_would_28 : decode cX9_would 28 = .ok (.iconst 0, 1) := by decide +kernel
theorem dX9_would_29 : decode cX9_would 29 = .ok (.putfield 138, 3) := by decide +kernel
theorem dX9_would_32 : decode cX9_would 32 = .ok (.aload_n 0, 1) := by decide +kernel
theorem dX9_would_33 : decode cX9_would 33 = .ok (.getfield 138, 3) := by decide +kernel
theorem dX9_would_36 : decode cX9_would 36 = .ok (.ifCond .le 7, 3) := by decide +kernel
theorem dX9_would_39 : decode cX9_would 39 = .ok (.iconst 0, 1) := by decide +kernel
theorem dX9_would_40 : decode cX9_would 40 = .ok (.goto 9, 3) := by decide +kernel
theorem dX9_would_43 : decode cX9_would 43 = .ok (.aload_n 0, 1) := by decide +kernel
theorem dX9_would_44 : decode cX9_would 44 = .ok (.iload_n 1, 1) := by decide +kernel
theorem dX9_would_45 : decode cX9_would 45 = .ok (.iload_n 2, 1) := by decide +kernel
theorem dX9_would_46 : decode cX9_would 46 = .ok (.invokevirtual 287, 3) := by decide +kernel
theorem dX9_would_49 : decode cX9_would 49 = .ok (.ireturn, 1) := by decide +kernel
theorem dX9_wrong_0 : decode cX9_wrong 0 = .ok (.aload_n 0, 1) := by decide +kernel
theorem dX9_wrong_1 : decode cX9_wrong 1 = .ok (.getfield 26, 3) := by decide +kernel
theorem dX9_wrong_4 : decode cX9_wrong 4 = .ok (.iconst (-1), 1) := by decide +kernel
theorem dX9_wrong_5 : decode cX9_wrong 5 = .ok (.if_icmp .ne 8, 3) := by decide +kernel
theorem dX9_wrong_8 : decode cX9_wrong 8 = .ok (.aload_n 0, 1) := by decide +kernel
theorem dX9_wrong_9 : decode cX9_wrong 9 = .ok (.iload_n 1, 1) := by decide +kernel
theorem dX9_wrong_10 : decode cX9_wrong 10 = .ok (.putfield 26, 3) := by decide +kernel
theorem dX9_wrong_13 : decode cX9_wrong 13 = .ok (.return_, 1) := by decide +kernel
