theorem dX8_twice_30 : decode cX8_twice 30 = .ok (.invokevirtual 136, 3) := by decide +kernel
theorem dX8_twice_33 : decode cX8_twice 33 = .ok (.if_icmp .ge 47, 3) := by decide +kernel
theorem dX8_twice_80 : decode cX8_twice 80 = .ok (.iconst 1, 1) := by decide +kernel
theorem dX8_twice_81 : decode cX8_twice 81 = .ok (.ireturn, 1) := by decide +kernel
theorem dX8_undo_0 : decode cX8_undo 0 = .ok (.aload_n 0, 1) := by decide +kernel
theorem dX8_undo_1 : decode cX8_undo 1 = .ok (.getfield 123, 3) := by decide +kernel
theorem dX8_undo_4 : decode cX8_undo 4 = .ok (.iconst 1, 1) := by decide +kernel
theorem dX8_undo_5 : decode cX8_undo 5 = .ok (.if_icmp .lt 29, 3) := by decide +kernel
theorem dX8_undo_34 : decode cX8_undo 34 = .ok (.new 170, 3) := by decide +kernel
theorem dX8_undo_37 : decode cX8_undo 37 = .ok (.dup, 1) := by decide +kernel
theorem dX8_undo_38 : decode cX8_undo 38 = .ok (.ldc 172, 2) := by decide +kernel
theorem dX8_undo_40 : decode cX8_undo 40 = .ok (.invokespecial 174, 3) := by decide +kernel
theorem dX8_undo_43 : decode cX8_undo 43 = .ok (.athrow, 1) := by decide +kernel
theorem dX8_unlock_0 : decode cX8_unlock 0 = .ok (.aload_n 0, 1) := by decide +kernel
theorem dX8_unlock_1 : decode cX8_unlock 1 = .ok (.getfield 25, 3) := by decide +kernel
theorem dX8_unlock_4 : decode cX8_unlock 4 = .ok (.aload_n 0, 1) := by decide +kernel
theorem dX8_unlock_5 : decode cX8_unlock 5 = .ok (.getfield 21, 3) := by decide +kernel
theorem dX8_unlock_8 : decode cX8_unlock 8 = .ok (.invokevirtual 73, 3) := by decide +kernel
theorem dX8_unlock_11 : decode cX8_unlock 11 = .ok (.aload_n 0, 1) := by decide +kernel
theorem dX8_unlock_12 : decode cX8_unlock 12 = .ok (.aload_n 0, 1) := by decide +kernel
theorem dX8_unlock_13 : decode cX8_unlock 13 = .ok (.bipush 7, 2) := by decide +kernel
theorem dX8_unlock_15 : decode cX8_unlock 15 = .ok (.iconst 0, 1) := by decide +kernel
theorem dX8_unlock_16 : decode cX8_unlock 16 = .ok (.iconst 0, 1) := by decide +kernel
theorem dX8_unlock_17 : decode cX8_unlock 17 = .ok (.aconst_null, 1) := by decide +kernel
theorem dX8_unlock_18 : decode cX8_unlock 18 = .ok (.invokevirtual 103, 3) := by decide +kernel
theorem dX8_unlock_21 : decode cX8_unlock 21 = .ok (.invokevirtual 139, 3) := by decide +kernel
theorem dX8_unlock_24 : decode cX8_unlock 24 = .ok (.aload_n 0, 1) := by decide +kernel
theorem dX8_unlock_25 : decode cX8_unlock 25 = .ok (.getfield 38, 3) := by decide +kernel
theorem dX8_unlock_28 : decode cX8_unlock 28 = .ok (.invokevirtual 136, 3) := by decide +kernel
theorem dX8_unlock_31 : decode cX8_unlock 31 = .ok (.ireturn, 1) := by decide +kernel
theorem dX8_why_0 : decode cX8_why 0 = .ok (.aload_n 0, 1) := by decide +kernel
theorem dX8_why_1 : decode cX8_why 1 = .ok (.getfield 110, 3) := by decide +kernel
theorem dX8_why_4 : decode cX8_why 4 = .ok (.ireturn, 1) := by decide +kernel
theorem dX8_wipe_0 : decode cX8_wipe 0 = .ok (.aload_n 0, 1) := by decide +kernel
theorem dX8_wipe_1 : decode cX8_wipe 1 = .ok (.getfield 21, 3) := by decide +kernel
theorem dX8_wipe_4 : decode cX8_wipe 4 = .ok (.invokevirtual 167, 3) := by decide +kernel
theorem dX8_wipe_7 : decode cX8_wipe 7 = .ok (.istore_n 1, 1) := by decide +kernel
theorem dX8_wipe_8 : decode cX8_wipe 8 = .ok (.aload_n 0, 1) := by decide +kernel
theorem dX8_wipe_9 : decode cX8_wipe 9 = .ok (.getfield 25, 3) := by decide +kernel
theorem dX8_wipe_12 : decode cX8_wipe 12 = .ok (.aload_n 0, 1) := by decide +kernel
theorem dX8_wipe_13 : decode cX8_wipe 13 = .ok (.getfield 21, 3) := by decide +kernel
theorem dX8_wipe_16 : decode cX8_wipe 16 = .ok (.invokevirtual 73, 3) := by decide +kernel
theorem dX8_wipe_19 : decode cX8_wipe 19 = .ok (.aload_n 0, 1) := by decide +kernel
theorem dX8_wipe_20 : decode cX8_wipe 20 = .ok (.aload_n 0, 1) := by decide +kernel
theorem dX8_wipe_21 : decode cX8_wipe 21 = .ok (.bipush 11, 2) := by decide +kernel
theorem dX8_wipe_23 : decode cX8_wipe 23 = .ok (.iconst 0, 1) := by decide +kernel
theorem dX8_wipe_24 : decode cX8_wipe 24 = .ok (.iconst 0, 1) := by decide +kernel
theorem dX8_wipe_25 : decode cX8_wipe 25 = .ok (.aconst_null, 1) := by decide +kernel
theorem dX8_wipe_26 : decode cX8_wipe 26 = .ok (.invokevirtual 103, 3) := by decide +kernel
theorem dX8_wipe_29 : decode cX8_wipe 29 = .ok (.invokevirtual 139, 3) := by decide +kernel
theorem dX8_wipePieces_0 : decode cX8_wipePieces 0 = .ok (.aload_n 0, 1) := by decide +kernel
theorem dX8_wipePieces_1 : decode cX8_wipePieces 1 = .ok (.getfield 21, 3) := by decide +kernel
theorem dX8_wipePieces_4 : decode cX8_wipePieces 4 = .ok (.invokevirtual 167, 3) := by decide +kernel
theorem dX8_wipePieces_7 : decode cX8_wipePieces 7 = .ok (.ifCond .ne 5, 3) := by decide +kernel
theorem dX8_wipePieces_10 : decode cX8_wipePieces 10 = .ok (.iconst 4, 1) := by decide +kernel
theorem dX8_wipePieces_11 : decode cX8_wipePieces 11 = .ok (.ireturn, 1) := by decide +kernel
theorem dX8_would_0 : decode cX8_would 0 = .ok (.aload_n 0, 1) := by decide +kernel
theorem dX8_would_1 : decode cX8_would 1 = .ok (.invokevirtual 155, 3) := by decide +kernel
theorem dX8_would_4 : decode cX8_would 4 = .ok (.astore_n 2, 1) := by decide +kernel
theorem dX8_would_5 : decode cX8_would 5 = .ok (.aload_n 0, 1) := by decide +kernel
theorem dX8_would_6 : decode cX8_would 6 = .ok (.iload_n 1, 1) := by decide +kernel
theorem dX8_would_7 : decode cX8_would 7 = .ok (.invokevirtual 175, 3) := by decide +kernel
theorem dX9_acts_0 : decode cX9_acts 0 = .ok (.aload_n 0, 1) := by decide +kernel
theorem dX9_acts_1 : decode cX9_acts 1 = .ok (.iconst (-1), 1) := by decide +kernel
theorem dX9_acts_2 : decode cX9_acts 2 = .ok (.putfield 26, 3) := by decide +kernel
theorem dX9_acts_5 : decode cX9_acts 5 = .ok (.aload_n 0, 1) := by decide +kernel
theorem dX9_acts_6 : decode cX9_acts 6 = .ok (.aload_n 0, 1) := by decide +kernel
theorem dX9_acts_7 : decode cX9_acts 7 = .ok (.getfield 337, 3) := by decide +kernel
theorem dX9_acts_10 : decode cX9_acts 10 = .ok (.putfield 343, 3) := by decide +kernel
theorem dX9_acts_13 : decode cX9_acts 13 = .ok (.aload_n 0, 1) := by decide +kernel
theorem dX9_acts_14 : decode cX9_acts 14 = .ok (.iconst 0, 1) := by decide +kernel
theorem dX9_acts_15 : decode cX9_acts 15 = .ok (.putfield 337, 3) := by decide +kernel
theorem dX9_acts_18 : decode cX9_acts 18 = .ok (.aload_n 0, 1) := by decide +kernel
theorem dX9_acts_19 : decode cX9_acts 19 = .ok (.iconst 0, 1) := by decide +kernel
theorem dX9_acts_20 : decode cX9_acts 20 = .ok (.putfield 340, 3) := by decide +kernel
theorem dX9_acts_23 : decode cX9_acts 23 = .ok (.aload_n 0, 1) := by decide +kernel
theorem dX9_acts_24 : decode cX9_acts 24 = .ok (.invokevirtual 420, 3) := by decide +kernel
theorem dX9_acts_27 : decode cX9_acts 27 = .ok (.iconst 0, 1) := by decide +kernel
theorem dX9_acts_28 : decode cX9_acts 28 = .ok (.istore_n 1, 1) := by decide +kernel
theorem dX9_acts_29 : decode cX9_acts 29 = .ok (.iconst 0, 1) := by decide +kernel
theorem dX9_acts_30 : decode cX9_acts 30 = .ok (.istore_n 2, 1) := by decide +kernel
theorem dX9_acts_31 : decode cX9_acts 31 = .ok (.aload_n 0, 1) := by decide +kernel
theorem dX9_acts_32 : decode cX9_acts 32 = .ok (.invokevirtual 346, 3) := by decide +kernel
theorem dX9_acts_35 : decode cX9_acts 35 = .ok (.aload_n 0, 1) := by decide +kernel
theorem dX9_acts_36 : decode cX9_acts 36 = .ok (.getfield 343, 3) := by decide +kernel
theorem dX9_acts_39 : decode cX9_acts 39 = .ok (.if_icmp .ge 7, 3) := by decide +kernel
theorem dX9_acts_46 : decode cX9_acts 46 = .ok (.iconst 0, 1) := by decide +kernel
theorem dX9_acts_47 : decode cX9_acts 47 = .ok (.istore_n 3, 1) := by decide +kernel
theorem dX9_acts_48 : decode cX9_acts 48 = .ok (.iload_n 3, 1) := by decide +kernel
theorem dX9_acts_49 : decode cX9_acts 49 = .ok (.ifCond .eq 105, 3) := by decide +kernel
theorem dX9_acts_154 : decode cX9_acts 154 = .ok (.aload_n 0, 1) := by decide +kernel
theorem dX9_acts_155 : decode cX9_acts 155 = .ok (.aload_n 0, 1) := by decide +kernel
theorem dX9_acts_156 : decode cX9_acts 156 = .ok (.getfield 26, 3) := by decide +kernel
theorem dX9_acts_159 : decode cX9_acts 159 = .ok (.iconst (-1), 1) := by decide +kernel
theorem dX9_acts_160 : decode cX9_acts 160 = .ok (.if_icmp .ne 7, 3) := by decide +kernel
theorem dX9_acts_163 : decode cX9_acts 163 = .ok (.iconst 0, 1) := by decide +kernel
theorem dX9_acts_164 : decode cX9_acts 164 = .ok (.goto 4, 3) := by decide +kernel
theorem dX9_acts_168 : decode cX9_acts 168 = .ok (.putfield 138, 3) := by decide +kernel
theorem dX9_acts_171 : decode cX9_acts 171 = .ok (.aload_n 0, 1) := by decide +kernel
theorem dX9_acts_172 : decode cX9_acts 172 = .ok (.getfield 138, 3) := by decide +kernel
theorem dX9_acts_175 : decode cX9_acts 175 = .ok (.ifCond .ne 26, 3) := by decide +kernel
theorem dX9_acts_178 : decode cX9_acts 178 = .ok (.aload_n 0, 1) := by decide +kernel
theorem dX9_acts_179 : decode cX9_acts 179 = .ok (.iload_n 1, 1) := by decide +kernel
theorem dX9_acts_180 : decode cX9_acts 180 = .ok (.ifCond .le 7, 3) := by decide +kernel
theorem dX9_acts_187 : decode cX9_acts 187 = .ok (.aload_n 0, 1) := by decide +kernel
theorem dX9_acts_188 : decode cX9_acts 188 = .ok (.getfield 328, 3) := by decide +kernel
theorem dX9_acts_191 : decode cX9_acts 191 = .ok (.putfield 328, 3) := by decide +kernel
theorem dX9_acts_194 : decode cX9_acts 194 = .ok (.aload_n 0, 1) := by decide +kernel
theorem dX9_acts_195 : decode cX9_acts 195 = .ok (.iconst 0, 1) := by decide +kernel
theorem dX9_acts_196 : decode cX9_acts 196 = .ok (.putfield 325, 3) := by decide +kernel
theorem dX9_acts_199 : decode cX9_acts 199 = .ok (.iload_n 1, 1) := by decide +kernel
theorem dX9_acts_200 : decode cX9_acts 200 = .ok (.ireturn, 1) := by decide +kernel
theorem dX9_allWords_0 : decode cX9_allWords 0 = .ok (.iconst 0, 1) := by decide +kernel
theorem dX9_allWords_1 : decode cX9_allWords 1 = .ok (.istore_n 1, 1) := by decide +kernel
theorem dX9_allWords_2 : decode cX9_allWords 2 = .ok (.iconst 0, 1) := by decide +kernel
theorem dX9_allWords_3 : decode cX9_allWords 3 = .ok (.istore_n 2, 1) := by decide +kernel
theorem dX9_allWords_4 : decode cX9_allWords 4 = .ok (.iload_n 2, 1) := by decide +kernel
theorem dX9_allWords_5 : decode cX9_allWords 5 = .ok (.aload_n 0, 1) := by decide +kernel
theorem dX9_allWords_6 : decode cX9_allWords 6 = .ok (.getfield 204, 3) := by decide +kernel
theorem dX9_allWords_9 : decode cX9_allWords 9 = .ok (.if_icmp .ge 17, 3) := by decide +kernel
theorem dX9_allWords_26 : decode cX9_allWords 26 = .ok (.iload_n 1, 1) := by decide +kernel
theorem dX9_allWords_27 : decode cX9_allWords 27 = .ok (.ireturn, 1) := by decide +kernel
theorem dX9_at_0 : decode cX9_at 0 = .ok (.aload_n 0, 1) := by decide +kernel
theorem dX9_at_1 : decode cX9_at 1 = .ok (.iconst 0, 1) := by decide +kernel
theorem dX9_at_2 : decode cX9_at 2 = .ok (.putfield 138, 3) := by decide +kernel
theorem dX9_at_5 : decode cX9_at 5 = .ok (.iload_n 2, 1) := by decide +kernel
theorem dX9_at_6 : decode cX9_at 6 = .ok (.ifCond .ne 33, 3) := by decide +kernel
theorem dX9_at_9 : decode cX9_at 9 = .ok (.iload_n 1, 1) := by decide +kernel
theorem dX9_at_10 : decode cX9_at 10 = .ok (.iconst 0, 1) := by decide +kernel
theorem dX9_at_11 : decode cX9_at 11 = .ok (.aload_n 0, 1) := by decide +kernel
theorem dX9_at_12 : decode cX9_at 12 = .ok (.getfield 7, 3) := by decide +kernel
theorem dX9_at_15 : decode cX9_at 15 = .ok (.iconst 0, 1) := by decide +kernel
theorem dX9_at_16 : decode cX9_at 16 = .ok (.iaload, 1) := by decide +kernel
theorem dX9_at_17 : decode cX9_at 17 = .ok (.iconst 1, 1) := by decide +kernel
theorem dX9_at_18 : decode cX9_at 18 = .ok (.isub, 1) := by decide +kernel
theorem dX9_at_19 : decode cX9_at 19 = .ok (.invokestatic 141, 3) := by decide +kernel
theorem dX9_at_22 : decode cX9_at 22 = .ok (.ifCond .eq 15, 3) := by decide +kernel
theorem dX9_at_37 : decode cX9_at 37 = .ok (.iconst (-1), 1) := by decide +kernel
theorem dX9_at_38 : decode cX9_at 38 = .ok (.ireturn, 1) := by decide +kernel
theorem dX9_at_39 : decode cX9_at 39 = .ok (.aload_n 0, 1) := by decide +kernel
theorem dX9_at_40 : decode cX9_at 40 = .ok (.invokevirtual 441, 3) := by decide +kernel
theorem dX9_at_43 : decode cX9_at 43 = .ok (.istore_n 3, 1) := by decide +kernel
theorem dX9_at_44 : decode cX9_at 44 = .ok (.iload_n 1, 1) := by decide +kernel
theorem dX9_at_45 : decode cX9_at 45 = .ok (.iconst 0, 1) := by decide +kernel
theorem dX9_at_46 : decode cX9_at 46 = .ok (.iload_n 3, 1) := by decide +kernel
theorem dX9_at_47 : decode cX9_at 47 = .ok (.iconst 1, 1) := by decide +kernel
theorem dX9_at_48 : decode cX9_at 48 = .ok (.isub, 1) := by decide +kernel
theorem dX9_at_49 : decode cX9_at 49 = .ok (.invokestatic 141, 3) := by decide +kernel
theorem dX9_at_52 : decode cX9_at 52 = .ok (.ifCond .eq 12, 3) := by decide +kernel
theorem dX9_at_64 : decode cX9_at 64 = .ok (.iconst (-1), 1) := by decide +kernel
theorem dX9_at_65 : decode cX9_at 65 = .ok (.ireturn, 1) := by decide +kernel
theorem dX9_back_0 : decode cX9_back 0 = .ok (.aload_n 0, 1) := by decide +kernel
theorem dX9_back_1 : decode cX9_back 1 = .ok (.iconst 0, 1) := by decide +kernel
theorem dX9_back_2 : decode cX9_back 2 = .ok (.putfield 138, 3) := by decide +kernel
theorem dX9_back_5 : decode cX9_back 5 = .ok (.aload_n 0, 1) := by decide +kernel
theorem dX9_back_6 : decode cX9_back 6 = .ok (.getfield 468, 3) := by decide +kernel
theorem dX9_back_9 : decode cX9_back 9 = .ok (.ifCond .ne 5, 3) := by decide +kernel
theorem dX9_back_12 : decode cX9_back 12 = .ok (.iconst 0, 1) := by decide +kernel
theorem dX9_back_13 : decode cX9_back 13 = .ok (.ireturn, 1) := by decide +kernel
theorem dX9_builds_0 : decode cX9_builds 0 = .ok (.iconst 0, 1) := by decide +kernel
theorem dX9_builds_1 : decode cX9_builds 1 = .ok (.istore_n 1, 1) := by decide +kernel
theorem dX9_builds_2 : decode cX9_builds 2 = .ok (.iconst 0, 1) := by decide +kernel
theorem dX9_builds_3 : decode cX9_builds 3 = .ok (.istore_n 2, 1) := by decide +kernel
theorem dX9_builds_4 : decode cX9_builds 4 = .ok (.iconst 0, 1) := by decide +kernel
theorem dX9_builds_5 : decode cX9_builds 5 = .ok (.istore_n 3, 1) := by decide +kernel
theorem dX9_builds_6 : decode cX9_builds 6 = .ok (.iload_n 3, 1) := by decide +kernel
theorem dX9_builds_7 : decode cX9_builds 7 = .ok (.aload_n 0, 1) := by decide +kernel
theorem dX9_builds_8 : decode cX9_builds 8 = .ok (.getfield 204, 3) := by decide +kernel
theorem dX9_builds_11 : decode cX9_builds 11 = .ok (.if_icmp .ge 125, 3) := by decide +kernel
theorem dX9_builds_136 : decode cX9_builds 136 = .ok (.iload_n 2, 1) := by decide +kernel
theorem dX9_builds_137 : decode cX9_builds 137 = .ok (.aload_n 0, 1) := by decide +kernel
theorem dX9_builds_138 : decode cX9_builds 138 = .ok (.getfield 7, 3) := by decide +kernel
theorem dX9_builds_141 : decode cX9_builds 141 = .ok (.iconst 0, 1) := by decide +kernel
theorem dX9_builds_142 : decode cX9_builds 142 = .ok (.iaload, 1) := by decide +kernel
theorem dX9_builds_143 : decode cX9_builds 143 = .ok (.if_icmp .ge 27, 3) := by decide +kernel
theorem dX9_builds_170 : decode cX9_builds 170 = .ok (.iload_n 1, 1) := by decide +kernel
theorem dX9_builds_171 : decode cX9_builds 171 = .ok (.ireturn, 1) := by decide +kernel
theorem dX9_builtMany_0 : decode cX9_builtMany 0 = .ok (.aload_n 0, 1) := by decide +kernel
theorem dX9_builtMany_1 : decode cX9_builtMany 1 = .ok (.getfield 7, 3) := by decide +kernel
theorem dX9_builtMany_4 : decode cX9_builtMany 4 = .ok (.iconst 0, 1) := by decide +kernel
theorem dX9_builtMany_5 : decode cX9_builtMany 5 = .ok (.iaload, 1) := by decide +kernel
theorem dX9_builtMany_6 : decode cX9_builtMany 6 = .ok (.istore_n 1, 1) := by decide +kernel
theorem dX9_builtMany_7 : decode cX9_builtMany 7 = .ok (.iconst 0, 1) := by decide +kernel
theorem dX9_builtMany_8 : decode cX9_builtMany 8 = .ok (.istore_n 2, 1) := by decide +kernel
theorem dX9_builtMany_9 : decode cX9_builtMany 9 = .ok (.iload_n 2, 1) := by decide +kernel
theorem dX9_builtMany_10 : decode cX9_builtMany 10 = .ok (.aload_n 0, 1) := by decide +kernel
theorem dX9_builtMany_11 : decode cX9_builtMany 11 = .ok (.getfield 204, 3) := by decide +kernel
theorem dX9_builtMany_14 : decode cX9_builtMany 14 = .ok (.if_icmp .ge 31, 3) := by decide +kernel
theorem dX9_builtMany_45 : decode cX9_builtMany 45 = .ok (.iload_n 1, 1) := by decide +kernel
theorem dX9_builtMany_46 : decode cX9_builtMany 46 = .ok (.ireturn, 1) := by decide +kernel
theorem dX9_count_0 : decode cX9_count 0 = .ok (.aload_n 0, 1) := by decide +kernel
theorem dX9_count_1 : decode cX9_count 1 = .ok (.iconst 0, 1) := by decide +kernel
theorem dX9_count_2 : decode cX9_count 2 = .ok (.putfield 138, 3) := by decide +kernel
theorem dX9_count_5 : decode cX9_count 5 = .ok (.iload_n 1, 1) := by decide +kernel
theorem dX9_count_6 : decode cX9_count 6 = .ok (.tableswitch 164 0 14 #[74, 81, 88, 95, 100, 105, 110, 115, 122, 129, 136, 141, 146, 154, 159], 74) := by decide +kernel
theorem dX9_count_80 : decode cX9_count 80 = .ok (.aload_n 0, 1) := by decide +kernel
theorem dX9_count_81 : decode cX9_count 81 = .ok (.getfield 7, 3) := by decide +kernel
theorem dX9_count_84 : decode cX9_count 84 = .ok (.iconst 0, 1) := by decide +kernel
theorem dX9_count_85 : decode cX9_count 85 = .ok (.iaload, 1) := by decide +kernel
theorem dX9_count_86 : decode cX9_count 86 = .ok (.ireturn, 1) := by decide +kernel
theorem dX9_count_87 : decode cX9_count 87 = .ok (.aload_n 0, 1) := by decide +kernel
theorem dX9_count_88 : decode cX9_count 88 = .ok (.getfield 7, 3) := by decide +kernel
theorem dX9_count_91 : decode cX9_count 91 = .ok (.iconst 1, 1) := by decide +kernel
theorem dX9_count_92 : decode cX9_count 92 = .ok (.iaload, 1) := by decide +kernel
theorem dX9_count_93 : decode cX9_count 93 = .ok (.ireturn, 1) := by decide +kernel
theorem dX9_count_94 : decode cX9_count 94 = .ok (.aload_n 0, 1) := by decide +kernel
theorem dX9_count_95 : decode cX9_count 95 = .ok (.getfield 7, 3) := by decide +kernel
theorem dX9_count_98 : decode cX9_count 98 = .ok (.iconst 2, 1) := by decide +kernel
theorem dX9_count_99 : decode cX9_count 99 = .ok (.iaload, 1) := by decide +kernel
theorem dX9_count_100 : decode cX9_count 100 = .ok (.ireturn, 1) := by decide +kernel
theorem dX9_count_101 : decode cX9_count 101 = .ok (.aload_n 0, 1) := by decide +kernel
theorem dX9_count_102 : decode cX9_count 102 = .ok (.getfield 204, 3) := by decide +kernel
theorem dX9_count_105 : decode cX9_count 105 = .ok (.ireturn, 1) := by decide +kernel
theorem dX9_count_106 : decode cX9_count 106 = .ok (.aload_n 0, 1) := by decide +kernel
theorem dX9_count_107 : decode cX9_count 107 = .ok (.invokevirtual 319, 3) := by decide +kernel
theorem dX9_count_110 : decode cX9_count 110 = .ok (.ireturn, 1) := by decide +kernel
theorem dX9_count_111 : decode cX9_count 111 = .ok (.aload_n 0, 1) := by decide +kernel
theorem dX9_count_112 : decode cX9_count 112 = .ok (.invokevirtual 300, 3) := by decide +kernel
theorem dX9_count_115 : decode cX9_count 115 = .ok (.ireturn, 1) := by decide +kernel
theorem dX9_count_116 : decode cX9_count 116 = .ok (.aload_n 0, 1) := by decide +kernel
theorem dX9_count_117 : decode cX9_count 117 = .ok (.invokevirtual 472, 3) := by decide +kernel
theorem dX9_count_120 : decode cX9_count 120 = .ok (.ireturn, 1) := by decide +kernel
theorem dX9_count_121 : decode cX9_count 121 = .ok (.aload_n 0, 1) := by decide +kernel
theorem dX9_count_122 : decode cX9_count 122 = .ok (.getfield 7, 3) := by decide +kernel
theorem dX9_count_125 : decode cX9_count 125 = .ok (.iconst 3, 1) := by decide +kernel
theorem dX9_count_126 : decode cX9_count 126 = .ok (.iaload, 1) := by decide +kernel
theorem dX9_count_127 : decode cX9_count 127 = .ok (.ireturn, 1) := by decide +kernel
theorem dX9_count_128 : decode cX9_count 128 = .ok (.aload_n 0, 1) := by decide +kernel
theorem dX9_count_129 : decode cX9_count 129 = .ok (.getfield 7, 3) := by decide +kernel
theorem dX9_count_132 : decode cX9_count 132 = .ok (.iconst 4, 1) := by decide +kernel
theorem dX9_count_133 : decode cX9_count 133 = .ok (.iaload, 1) := by decide +kernel
theorem dX9_count_134 : decode cX9_count 134 = .ok (.ireturn, 1) := by decide +kernel
theorem dX9_count_135 : decode cX9_count 135 = .ok (.aload_n 0, 1) := by decide +kernel
theorem dX9_count_136 : decode cX9_count 136 = .ok (.getfield 7, 3) := by decide +kernel
theorem dX9_count_139 : decode cX9_count 139 = .ok (.iconst 5, 1) := by decide +kernel
theorem dX9_count_140 : decode cX9_count 140 = .ok (.iaload, 1) := by decide +kernel
theorem dX9_count_141 : decode cX9_count 141 = .ok (.ireturn, 1) := by decide +kernel
theorem dX9_count_142 : decode cX9_count 142 = .ok (.aload_n 0, 1) := by decide +kernel
theorem dX9_count_143 : decode cX9_count 143 = .ok (.invokevirtual 475, 3) := by decide +kernel
theorem dX9_count_146 : decode cX9_count 146 = .ok (.ireturn, 1) := by decide +kernel
theorem dX9_count_147 : decode cX9_count 147 = .ok (.aload_n 0, 1) := by decide +kernel
theorem dX9_count_148 : decode cX9_count 148 = .ok (.invokevirtual 478, 3) := by decide +kernel
theorem dX9_count_151 : decode cX9_count 151 = .ok (.ireturn, 1) := by decide +kernel
theorem dX9_count_152 : decode cX9_count 152 = .ok (.aload_n 0, 1) := by decide +kernel
theorem dX9_count_153 : decode cX9_count 153 = .ok (.getfield 7, 3) := by decide +kernel
theorem dX9_count_156 : decode cX9_count 156 = .ok (.bipush 42, 2) := by decide +kernel
theorem dX9_count_158 : decode cX9_count 158 = .ok (.iaload, 1) := by decide +kernel
theorem dX9_count_159 : decode cX9_count 159 = .ok (.ireturn, 1) := by decide +kernel
theorem dX9_count_160 : decode cX9_count 160 = .ok (.aload_n 0, 1) := by decide +kernel
theorem dX9_count_161 : decode cX9_count 161 = .ok (.invokevirtual 481, 3) := by decide +kernel
theorem dX9_count_164 : decode cX9_count 164 = .ok (.ireturn, 1) := by decide +kernel
theorem dX9_count_165 : decode cX9_count 165 = .ok (.aload_n 0, 1) := by decide +kernel
theorem dX9_count_166 : decode cX9_count 166 = .ok (.getfield 325, 3) := by decide +kernel
theorem dX9_count_169 : decode cX9_count 169 = .ok (.ireturn, 1) := by decide +kernel
theorem dX9_count_170 : decode cX9_count 170 = .ok (.iconst (-1), 1) := by decide +kernel
theorem dX9_count_171 : decode cX9_count 171 = .ok (.ireturn, 1) := by decide +kernel
theorem dX9_cuts_0 : decode cX9_cuts 0 = .ok (.aload_n 0, 1) := by decide +kernel
theorem dX9_cuts_1 : decode cX9_cuts 1 = .ok (.iconst 0, 1) := by decide +kernel
theorem dX9_cuts_2 : decode cX9_cuts 2 = .ok (.putfield 145, 3) := by decide +kernel
theorem dX9_cuts_5 : decode cX9_cuts 5 = .ok (.iload_n 1, 1) := by decide +kernel
theorem dX9_cuts_6 : decode cX9_cuts 6 = .ok (.ifCond .ne 18, 3) := by decide +kernel
theorem dX9_cuts_9 : decode cX9_cuts 9 = .ok (.aload_n 0, 1) := by decide +kernel
theorem dX9_cuts_10 : decode cX9_cuts 10 = .ok (.aload_n 2, 1) := by decide +kernel
theorem dX9_cuts_11 : decode cX9_cuts 11 = .ok (.iload_n 3, 1) := by decide +kernel
theorem dX9_cuts_12 : decode cX9_cuts 12 = .ok (.aload 4, 2) := by decide +kernel
theorem dX9_cuts_14 : decode cX9_cuts 14 = .ok (.aload 5, 2) := by decide +kernel
theorem dX9_cuts_16 : decode cX9_cuts 16 = .ok (.aload 6, 2) := by decide +kernel
theorem dX9_cuts_18 : decode cX9_cuts 18 = .ok (.invokevirtual 160, 3) := by decide +kernel
theorem dX9_cuts_21 : decode cX9_cuts 21 = .ok (.goto 55, 3) := by decide +kernel
theorem dX9_cuts_24 : decode cX9_cuts 24 = .ok (.iload_n 1, 1) := by decide +kernel
theorem dX9_cuts_25 : decode cX9_cuts 25 = .ok (.iconst 1, 1) := by decide +kernel
theorem dX9_cuts_26 : decode cX9_cuts 26 = .ok (.if_icmp .ne 18, 3) := by decide +kernel
theorem dX9_cuts_29 : decode cX9_cuts 29 = .ok (.aload_n 0, 1) := by decide +kernel
theorem dX9_cuts_30 : decode cX9_cuts 30 = .ok (.aload_n 2, 1) := by decide +kernel
theorem dX9_cuts_31 : decode cX9_cuts 31 = .ok (.iload_n 3, 1) := by decide +kernel
theorem dX9_cuts_32 : decode cX9_cuts 32 = .ok (.aload 4, 2) := by decide +kernel
theorem dX9_cuts_34 : decode cX9_cuts 34 = .ok (.aload 5, 2) := by decide +kernel
theorem dX9_cuts_36 : decode cX9_cuts 36 = .ok (.aload 6, 2) := by decide +kernel
theorem dX9_cuts_38 : decode cX9_cuts 38 = .ok (.invokevirtual 164, 3) := by decide +kernel
theorem dX9_cuts_41 : decode cX9_cuts 41 = .ok (.goto 35, 3) := by decide +kernel
theorem dX9_cuts_44 : decode cX9_cuts 44 = .ok (.iload_n 1, 1) := by decide +kernel
theorem dX9_cuts_45 : decode cX9_cuts 45 = .ok (.iconst 2, 1) := by decide +kernel
theorem dX9_cuts_46 : decode cX9_cuts 46 = .ok (.if_icmp .ne 18, 3) := by decide +kernel
theorem dX9_cuts_49 : decode cX9_cuts 49 = .ok (.aload_n 0, 1) := by decide +kernel
theorem dX9_cuts_50 : decode cX9_cuts 50 = .ok (.aload_n 2, 1) := by decide +kernel
theorem dX9_cuts_51 : decode cX9_cuts 51 = .ok (.iload_n 3, 1) := by decide +kernel
theorem dX9_cuts_52 : decode cX9_cuts 52 = .ok (.aload 4, 2) := by decide +kernel
theorem dX9_cuts_54 : decode cX9_cuts 54 = .ok (.aload 5, 2) := by decide +kernel
theorem dX9_cuts_56 : decode cX9_cuts 56 = .ok (.aload 6, 2) := by decide +kernel
theorem dX9_cuts_58 : decode cX9_cuts 58 = .ok (.invokevirtual 167, 3) := by decide +kernel
theorem dX9_cuts_61 : decode cX9_cuts 61 = .ok (.goto 15, 3) := by decide +kernel
theorem dX9_cuts_64 : decode cX9_cuts 64 = .ok (.aload_n 0, 1) := by decide +kernel
theorem dX9_cuts_65 : decode cX9_cuts 65 = .ok (.aload_n 2, 1) := by decide +kernel
theorem dX9_cuts_66 : decode cX9_cuts 66 = .ok (.iload_n 3, 1) := by decide +kernel
theorem dX9_cuts_67 : decode cX9_cuts 67 = .ok (.aload 4, 2) := by decide +kernel
theorem dX9_cuts_69 : decode cX9_cuts 69 = .ok (.aload 5, 2) := by decide +kernel
theorem dX9_cuts_71 : decode cX9_cuts 71 = .ok (.aload 6, 2) := by decide +kernel
theorem dX9_cuts_73 : decode cX9_cuts 73 = .ok (.invokevirtual 170, 3) := by decide +kernel
theorem dX9_cuts_76 : decode cX9_cuts 76 = .ok (.aload_n 0, 1) := by decide +kernel
theorem dX9_cuts_77 : decode cX9_cuts 77 = .ok (.getfield 145, 3) := by decide +kernel
theorem dX9_cuts_80 : decode cX9_cuts 80 = .ok (.ireturn, 1) := by decide +kernel
theorem dX9_cutsAll_0 : decode cX9_cutsAll 0 = .ok (.aload_n 0, 1) := by decide +kernel
theorem dX9_cutsAll_1 : decode cX9_cutsAll 1 = .ok (.iconst 0, 1) := by decide +kernel
theorem dX9_cutsAll_2 : decode cX9_cutsAll 2 = .ok (.putfield 204, 3) := by decide +kernel
theorem dX9_cutsAll_5 : decode cX9_cutsAll 5 = .ok (.aload_n 0, 1) := by decide +kernel
theorem dX9_cutsAll_6 : decode cX9_cutsAll 6 = .ok (.iconst 0, 1) := by decide +kernel
theorem dX9_cutsAll_7 : decode cX9_cutsAll 7 = .ok (.putfield 217, 3) := by decide +kernel
theorem dX9_cutsAll_10 : decode cX9_cutsAll 10 = .ok (.iconst 0, 1) := by decide +kernel
theorem dX9_cutsAll_11 : decode cX9_cutsAll 11 = .ok (.istore_n 1, 1) := by decide +kernel
theorem dX9_cutsAll_12 : decode cX9_cutsAll 12 = .ok (.iload_n 1, 1) := by decide +kernel
theorem dX9_cutsAll_13 : decode cX9_cutsAll 13 = .ok (.aload_n 0, 1) := by decide +kernel
theorem dX9_cutsAll_14 : decode cX9_cutsAll 14 = .ok (.getfield 220, 3) := by decide +kernel
theorem dX9_cutsAll_17 : decode cX9_cutsAll 17 = .ok (.if_icmp .ge 25, 3) := by decide +kernel
theorem dX9_cutsAll_42 : decode cX9_cutsAll 42 = .ok (.aload_n 0, 1) := by decide +kernel
theorem dX9_cutsAll_43 : decode cX9_cutsAll 43 = .ok (.aload_n 0, 1) := by decide +kernel
theorem dX9_cutsAll_44 : decode cX9_cutsAll 44 = .ok (.aload_n 0, 1) := by decide +kernel
theorem dX9_cutsAll_45 : decode cX9_cutsAll 45 = .ok (.getfield 7, 3) := by decide +kernel
theorem dX9_cutsAll_48 : decode cX9_cutsAll 48 = .ok (.iconst 1, 1) := by decide +kernel
theorem dX9_cutsAll_49 : decode cX9_cutsAll 49 = .ok (.iaload, 1) := by decide +kernel
theorem dX9_cutsAll_50 : decode cX9_cutsAll 50 = .ok (.aload_n 0, 1) := by decide +kernel
theorem dX9_cutsAll_51 : decode cX9_cutsAll 51 = .ok (.getfield 30, 3) := by decide +kernel
theorem dX9_cutsAll_54 : decode cX9_cutsAll 54 = .ok (.aload_n 0, 1) := by decide +kernel
theorem dX9_cutsAll_55 : decode cX9_cutsAll 55 = .ok (.getfield 220, 3) := by decide +kernel
theorem dX9_cutsAll_58 : decode cX9_cutsAll 58 = .ok (.aload_n 0, 1) := by decide +kernel
theorem dX9_cutsAll_59 : decode cX9_cutsAll 59 = .ok (.getfield 39, 3) := by decide +kernel
theorem dX9_cutsAll_62 : decode cX9_cutsAll 62 = .ok (.aload_n 0, 1) := by decide +kernel
theorem dX9_cutsAll_63 : decode cX9_cutsAll 63 = .ok (.getfield 42, 3) := by decide +kernel
theorem dX9_cutsAll_66 : decode cX9_cutsAll 66 = .ok (.aload_n 0, 1) := by decide +kernel
theorem dX9_cutsAll_67 : decode cX9_cutsAll 67 = .ok (.getfield 45, 3) := by decide +kernel
theorem dX9_cutsAll_70 : decode cX9_cutsAll 70 = .ok (.invokevirtual 223, 3) := by decide +kernel
theorem dX9_cutsAll_73 : decode cX9_cutsAll 73 = .ok (.putfield 227, 3) := by decide +kernel
theorem dX9_cutsAll_76 : decode cX9_cutsAll 76 = .ok (.iconst 0, 1) := by decide +kernel
theorem dX9_cutsAll_77 : decode cX9_cutsAll 77 = .ok (.istore_n 1, 1) := by decide +kernel
theorem dX9_cutsAll_78 : decode cX9_cutsAll 78 = .ok (.iload_n 1, 1) := by decide +kernel
theorem dX9_cutsAll_79 : decode cX9_cutsAll 79 = .ok (.aload_n 0, 1) := by decide +kernel
theorem dX9_cutsAll_80 : decode cX9_cutsAll 80 = .ok (.getfield 227, 3) := by decide +kernel
theorem dX9_cutsAll_83 : decode cX9_cutsAll 83 = .ok (.if_icmp .ge 256, 3) := by decide +kernel
theorem dX9_cutsAll_339 : decode cX9_cutsAll 339 = .ok (.return_, 1) := by decide +kernel
theorem dX9_cutsAnew_0 : decode cX9_cutsAnew 0 = .ok (.aload_n 0, 1) := by decide +kernel
theorem dX9_cutsAnew_1 : decode cX9_cutsAnew 1 = .ok (.invokevirtual 244, 3) := by decide +kernel
theorem dX9_cutsAnew_4 : decode cX9_cutsAnew 4 = .ok (.iconst 0, 1) := by decide +kernel
theorem dX9_cutsAnew_5 : decode cX9_cutsAnew 5 = .ok (.istore_n 1, 1) := by decide +kernel
theorem dX9_cutsAnew_6 : decode cX9_cutsAnew 6 = .ok (.iload_n 1, 1) := by decide +kernel
theorem dX9_cutsAnew_7 : decode cX9_cutsAnew 7 = .ok (.bipush 40, 2) := by decide +kernel
theorem dX9_cutsAnew_9 : decode cX9_cutsAnew 9 = .ok (.if_icmp .ge 23, 3) := by decide +kernel
theorem dX9_cutsAnew_12 : decode cX9_cutsAnew 12 = .ok (.aload_n 0, 1) := by decide +kernel
theorem dX9_cutsAnew_13 : decode cX9_cutsAnew 13 = .ok (.getfield 7, 3) := by decide +kernel
theorem dX9_cutsAnew_16 : decode cX9_cutsAnew 16 = .ok (.sipush 443, 3) := by decide +kernel
theorem dX9_cutsAnew_19 : decode cX9_cutsAnew 19 = .ok (.bipush 61, 2) := by decide +kernel
theorem dX9_cutsAnew_21 : decode cX9_cutsAnew 21 = .ok (.iload_n 1, 1) := by decide +kernel
theorem dX9_cutsAnew_22 : decode cX9_cutsAnew 22 = .ok (.imul, 1) := by decide +kernel
theorem dX9_cutsAnew_23 : decode cX9_cutsAnew 23 = .ok (.iadd, 1) := by decide +kernel
theorem dX9_cutsAnew_24 : decode cX9_cutsAnew 24 = .ok (.iconst (-1), 1) := by decide +kernel
theorem dX9_cutsAnew_25 : decode cX9_cutsAnew 25 = .ok (.iastore, 1) := by decide +kernel
theorem dX9_cutsAnew_26 : decode cX9_cutsAnew 26 = .ok (.iinc 1 1, 3) := by decide +kernel
theorem dX9_cutsAnew_29 : decode cX9_cutsAnew 29 = .ok (.goto (-23), 3) := by decide +kernel
theorem dX9_cutsAnew_32 : decode cX9_cutsAnew 32 = .ok (.return_, 1) := by decide +kernel
theorem dX9_cutsBuilt_0 : decode cX9_cutsBuilt 0 = .ok (.aload_n 0, 1) := by decide +kernel
theorem dX9_cutsBuilt_1 : decode cX9_cutsBuilt 1 = .ok (.invokevirtual 441, 3) := by decide +kernel
theorem dX9_cutsBuilt_4 : decode cX9_cutsBuilt 4 = .ok (.istore_n 1, 1) := by decide +kernel
theorem dX9_cutsBuilt_5 : decode cX9_cutsBuilt 5 = .ok (.aload_n 0, 1) := by decide +kernel
theorem dX9_cutsBuilt_6 : decode cX9_cutsBuilt 6 = .ok (.getfield 204, 3) := by decide +kernel
theorem dX9_cutsBuilt_9 : decode cX9_cutsBuilt 9 = .ok (.istore_n 2, 1) := by decide +kernel
theorem dX9_cutsBuilt_10 : decode cX9_cutsBuilt 10 = .ok (.iconst 0, 1) := by decide +kernel
theorem dX9_cutsBuilt_11 : decode cX9_cutsBuilt 11 = .ok (.istore_n 3, 1) := by decide +kernel
theorem dX9_cutsBuilt_12 : decode cX9_cutsBuilt 12 = .ok (.aload_n 0, 1) := by decide +kernel
theorem dX9_cutsBuilt_13 : decode cX9_cutsBuilt 13 = .ok (.iload_n 2, 1) := by decide +kernel
theorem dX9_cutsBuilt_14 : decode cX9_cutsBuilt 14 = .ok (.putfield 459, 3) := by decide +kernel
theorem dX9_cutsBuilt_17 : decode cX9_cutsBuilt 17 = .ok (.iconst 0, 1) := by decide +kernel
theorem dX9_cutsBuilt_18 : decode cX9_cutsBuilt 18 = .ok (.istore 4, 2) := by decide +kernel
theorem dX9_cutsBuilt_20 : decode cX9_cutsBuilt 20 = .ok (.iload 4, 2) := by decide +kernel
theorem dX9_cutsBuilt_22 : decode cX9_cutsBuilt 22 = .ok (.iload_n 2, 1) := by decide +kernel
theorem dX9_cutsBuilt_23 : decode cX9_cutsBuilt 23 = .ok (.if_icmp .ge 61, 3) := by decide +kernel
theorem dX9_cutsBuilt_84 : decode cX9_cutsBuilt 84 = .ok (.aload_n 0, 1) := by decide +kernel
theorem dX9_cutsBuilt_85 : decode cX9_cutsBuilt 85 = .ok (.getfield 126, 3) := by decide +kernel
theorem dX9_cutsBuilt_88 : decode cX9_cutsBuilt 88 = .ok (.iload_n 2, 1) := by decide +kernel
theorem dX9_cutsBuilt_89 : decode cX9_cutsBuilt 89 = .ok (.iload_n 3, 1) := by decide +kernel
theorem dX9_cutsBuilt_90 : decode cX9_cutsBuilt 90 = .ok (.iastore, 1) := by decide +kernel
theorem dX9_cutsBuilt_91 : decode cX9_cutsBuilt 91 = .ok (.aload_n 0, 1) := by decide +kernel
theorem dX9_cutsBuilt_92 : decode cX9_cutsBuilt 92 = .ok (.iload_n 1, 1) := by decide +kernel
theorem dX9_cutsBuilt_93 : decode cX9_cutsBuilt 93 = .ok (.putfield 220, 3) := by decide +kernel
theorem dX9_cutsBuilt_96 : decode cX9_cutsBuilt 96 = .ok (.iconst 0, 1) := by decide +kernel
theorem dX9_cutsBuilt_97 : decode cX9_cutsBuilt 97 = .ok (.istore 4, 2) := by decide +kernel
theorem dX9_cutsBuilt_99 : decode cX9_cutsBuilt 99 = .ok (.iload 4, 2) := by decide +kernel
theorem dX9_cutsBuilt_101 : decode cX9_cutsBuilt 101 = .ok (.iload_n 1, 1) := by decide +kernel
theorem dX9_cutsBuilt_102 : decode cX9_cutsBuilt 102 = .ok (.if_icmp .ge 23, 3) := by decide +kernel
theorem dX9_cutsBuilt_125 : decode cX9_cutsBuilt 125 = .ok (.aload_n 0, 1) := by decide +kernel
theorem dX9_cutsBuilt_126 : decode cX9_cutsBuilt 126 = .ok (.invokevirtual 241, 3) := by decide +kernel
theorem dX9_cutsBuilt_129 : decode cX9_cutsBuilt 129 = .ok (.return_, 1) := by decide +kernel
theorem dX9_cutsFile_0 : decode cX9_cutsFile 0 = .ok (.aload_n 0, 1) := by decide +kernel
theorem dX9_cutsFile_1 : decode cX9_cutsFile 1 = .ok (.aload_n 0, 1) := by decide +kernel
theorem dX9_cutsFile_2 : decode cX9_cutsFile 2 = .ok (.getfield 7, 3) := by decide +kernel
theorem dX9_cutsFile_5 : decode cX9_cutsFile 5 = .ok (.iconst 0, 1) := by decide +kernel
theorem dX9_cutsFile_6 : decode cX9_cutsFile 6 = .ok (.iaload, 1) := by decide +kernel
theorem dX9_cutsFile_7 : decode cX9_cutsFile 7 = .ok (.putfield 220, 3) := by decide +kernel
theorem dX9_cutsFile_10 : decode cX9_cutsFile 10 = .ok (.iconst 0, 1) := by decide +kernel
theorem dX9_cutsFile_11 : decode cX9_cutsFile 11 = .ok (.istore_n 1, 1) := by decide +kernel
theorem dX9_cutsFile_12 : decode cX9_cutsFile 12 = .ok (.iload_n 1, 1) := by decide +kernel
theorem dX9_cutsFile_13 : decode cX9_cutsFile 13 = .ok (.aload_n 0, 1) := by decide +kernel
theorem dX9_cutsFile_14 : decode cX9_cutsFile 14 = .ok (.getfield 220, 3) := by decide +kernel
