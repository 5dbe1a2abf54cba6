theorem dX8_undo_30 : decode cX8_undo 30 = .ok (.aaload, 1) := by decide +kernel
theorem dX8_undo_31 : decode cX8_undo 31 = .ok (.ifnonnull 13, 3) := by decide +kernel
theorem dX8_undo_34 : decode cX8_undo 34 = .ok (.new 170, 3) := by decide +kernel
theorem dX8_undo_37 : decode cX8_undo 37 = .ok (.dup, 1) := by decide +kernel
theorem dX8_undo_38 : decode cX8_undo 38 = .ok (.ldc 172, 2) := by decide +kernel
theorem dX8_undo_40 : decode cX8_undo 40 = .ok (.invokespecial 174, 3) := by decide +kernel
theorem dX8_undo_43 : decode cX8_undo 43 = .ok (.athrow, 1) := by decide +kernel
theorem dX8_undo_44 : decode cX8_undo 44 = .ok (.aload_n 0, 1) := by decide +kernel
theorem dX8_undo_45 : decode cX8_undo 45 = .ok (.dup, 1) := by decide +kernel
theorem dX8_undo_46 : decode cX8_undo 46 = .ok (.getfield 123, 3) := by decide +kernel
theorem dX8_undo_49 : decode cX8_undo 49 = .ok (.iconst 1, 1) := by decide +kernel
theorem dX8_undo_50 : decode cX8_undo 50 = .ok (.isub, 1) := by decide +kernel
theorem dX8_undo_51 : decode cX8_undo 51 = .ok (.putfield 123, 3) := by decide +kernel
theorem dX8_undo_54 : decode cX8_undo 54 = .ok (.aload_n 0, 1) := by decide +kernel
theorem dX8_undo_55 : decode cX8_undo 55 = .ok (.aload_n 0, 1) := by decide +kernel
theorem dX8_undo_56 : decode cX8_undo 56 = .ok (.getfield 31, 3) := by decide +kernel
theorem dX8_undo_59 : decode cX8_undo 59 = .ok (.aload_n 0, 1) := by decide +kernel
theorem dX8_undo_60 : decode cX8_undo 60 = .ok (.getfield 123, 3) := by decide +kernel
theorem dX8_undo_63 : decode cX8_undo 63 = .ok (.aaload, 1) := by decide +kernel
theorem dX8_undo_64 : decode cX8_undo 64 = .ok (.invokevirtual 113, 3) := by decide +kernel
theorem dX8_undo_67 : decode cX8_undo 67 = .ok (.aload_n 0, 1) := by decide +kernel
theorem dX8_undo_68 : decode cX8_undo 68 = .ok (.getfield 123, 3) := by decide +kernel
theorem dX8_undo_71 : decode cX8_undo 71 = .ok (.ireturn, 1) := by decide +kernel
theorem dX8_unlock_0 : decode cX8_unlock 0 = .ok (.aload_n 0, 1) := by decide +kernel
theorem dX8_unlock_1 : decode cX8_unlock 1 = .ok (.getfield 25, 3) := by decide +kernel
theorem dX8_unlock_4 : decode cX8_unlock 4 = .ok (.aload_n 0, 1) := by decide +kernel
theorem dX8_unlock_5 : decode cX8_unlock 5 = .ok (.getfield 21, 3) := by decide +kernel
theorem dX8_unlock_8 : decode cX8_unlock 8 = .ok (.invokevirtual 73, 3) := by decide +kernel
theorem dX8_unlock_11 : decode cX8_unlock 11 = .ok (.aload_n 0, 1) := by decide +kernel
theorem dX8_unlock_12 : decode cX8_unlock 12 = .ok (.aload_n 0, 1) := by decide +kernel
theorem dX8_unlock_13 : decode cX8_unlock 13 = .ok (.bipush 7, 2) := by decide +kernel
theorem dX8_unlock_15 : decode cX8_unlock 15 = .ok (.iconst 0, 1) := by decide +kernel
theorem dX8_unlock_16 : decode cX8_unlock 16 = .ok (.iconst 0, 1) := by decide +kernel
theorem dX8_unlock_17 : decode cX8_unlock 17 = .ok (.aconst_null, 1) := by decide +kernel
theorem dX8_unlock_18 : decode cX8_unlock 18 = .ok (.invokevirtual 103, 3) := by decide +kernel
theorem dX8_unlock_21 : decode cX8_unlock 21 = .ok (.invokevirtual 139, 3) := by decide +kernel
theorem dX8_unlock_24 : decode cX8_unlock 24 = .ok (.aload_n 0, 1) := by decide +kernel
theorem dX8_unlock_25 : decode cX8_unlock 25 = .ok (.getfield 38, 3) := by decide +kernel
theorem dX8_unlock_28 : decode cX8_unlock 28 = .ok (.invokevirtual 136, 3) := by decide +kernel
theorem dX8_unlock_31 : decode cX8_unlock 31 = .ok (.ireturn, 1) := by decide +kernel
theorem dX8_why_0 : decode cX8_why 0 = .ok (.aload_n 0, 1) := by decide +kernel
theorem dX8_why_1 : decode cX8_why 1 = .ok (.getfield 110, 3) := by decide +kernel
theorem dX8_why_4 : decode cX8_why 4 = .ok (.ireturn, 1) := by decide +kernel
theorem dX8_wipe_0 : decode cX8_wipe 0 = .ok (.aload_n 0, 1) := by decide +kernel
theorem dX8_wipe_1 : decode cX8_wipe 1 = .ok (.getfield 21, 3) := by decide +kernel
theorem dX8_wipe_4 : decode cX8_wipe 4 = .ok (.invokevirtual 167, 3) := by decide +kernel
theorem dX8_wipe_7 : decode cX8_wipe 7 = .ok (.istore_n 1, 1) := by decide +kernel
theorem dX8_wipe_8 : decode cX8_wipe 8 = .ok (.aload_n 0, 1) := by decide +kernel
theorem dX8_wipe_9 : decode cX8_wipe 9 = .ok (.getfield 25, 3) := by decide +kernel
theorem dX8_wipe_12 : decode cX8_wipe 12 = .ok (.aload_n 0, 1) := by decide +kernel
theorem dX8_wipe_13 : decode cX8_wipe 13 = .ok (.getfield 21, 3) := by decide +kernel
theorem dX8_wipe_16 : decode cX8_wipe 16 = .ok (.invokevirtual 73, 3) := by decide +kernel
theorem dX8_wipe_19 : decode cX8_wipe 19 = .ok (.aload_n 0, 1) := by decide +kernel
theorem dX8_wipe_20 : decode cX8_wipe 20 = .ok (.aload_n 0, 1) := by decide +kernel
theorem dX8_wipe_21 : decode cX8_wipe 21 = .ok (.bipush 11, 2) := by decide +kernel
theorem dX8_wipe_23 : decode cX8_wipe 23 = .ok (.iconst 0, 1) := by decide +kernel
theorem dX8_wipe_24 : decode cX8_wipe 24 = .ok (.iconst 0, 1) := by decide +kernel
theorem dX8_wipe_25 : decode cX8_wipe 25 = .ok (.aconst_null, 1) := by decide +kernel
theorem dX8_wipe_26 : decode cX8_wipe 26 = .ok (.invokevirtual 103, 3) := by decide +kernel
theorem dX8_wipe_29 : decode cX8_wipe 29 = .ok (.invokevirtual 139, 3) := by decide +kernel
theorem dX8_wipe_32 : decode cX8_wipe 32 = .ok (.iload_n 1, 1) := by decide +kernel
theorem dX8_wipe_33 : decode cX8_wipe 33 = .ok (.ireturn, 1) := by decide +kernel
theorem dX8_wipePieces_0 : decode cX8_wipePieces 0 = .ok (.aload_n 0, 1) := by decide +kernel
theorem dX8_wipePieces_1 : decode cX8_wipePieces 1 = .ok (.getfield 21, 3) := by decide +kernel
theorem dX8_wipePieces_4 : decode cX8_wipePieces 4 = .ok (.invokevirtual 167, 3) := by decide +kernel
theorem dX8_wipePieces_7 : decode cX8_wipePieces 7 = .ok (.ifCond .ne 5, 3) := by decide +kernel
theorem dX8_wipePieces_10 : decode cX8_wipePieces 10 = .ok (.iconst 4, 1) := by decide +kernel
theorem dX8_wipePieces_11 : decode cX8_wipePieces 11 = .ok (.ireturn, 1) := by decide +kernel
theorem dX8_wipePieces_12 : decode cX8_wipePieces 12 = .ok (.aload_n 0, 1) := by decide +kernel
theorem dX8_wipePieces_13 : decode cX8_wipePieces 13 = .ok (.getfield 21, 3) := by decide +kernel
theorem dX8_wipePieces_16 : decode cX8_wipePieces 16 = .ok (.invokevirtual 358, 3) := by decide +kernel
theorem dX8_wipePieces_19 : decode cX8_wipePieces 19 = .ok (.aload_n 0, 1) := by decide +kernel
theorem dX8_wipePieces_20 : decode cX8_wipePieces 20 = .ok (.getfield 48, 3) := by decide +kernel
theorem dX8_wipePieces_23 : decode cX8_wipePieces 23 = .ok (.aload_n 0, 1) := by decide +kernel
theorem dX8_wipePieces_24 : decode cX8_wipePieces 24 = .ok (.getfield 21, 3) := by decide +kernel
theorem dX8_wipePieces_27 : decode cX8_wipePieces 27 = .ok (.aload_n 0, 1) := by decide +kernel
theorem dX8_wipePieces_28 : decode cX8_wipePieces 28 = .ok (.getfield 38, 3) := by decide +kernel
theorem dX8_wipePieces_31 : decode cX8_wipePieces 31 = .ok (.invokevirtual 365, 3) := by decide +kernel
theorem dX8_wipePieces_34 : decode cX8_wipePieces 34 = .ok (.ifCond .eq 7, 3) := by decide +kernel
theorem dX8_wipePieces_37 : decode cX8_wipePieces 37 = .ok (.iconst 0, 1) := by decide +kernel
theorem dX8_wipePieces_38 : decode cX8_wipePieces 38 = .ok (.goto 4, 3) := by decide +kernel
theorem dX8_wipePieces_41 : decode cX8_wipePieces 41 = .ok (.iconst 3, 1) := by decide +kernel
theorem dX8_wipePieces_42 : decode cX8_wipePieces 42 = .ok (.ireturn, 1) := by decide +kernel
theorem dX8_would_0 : decode cX8_would 0 = .ok (.aload_n 0, 1) := by decide +kernel
theorem dX8_would_1 : decode cX8_would 1 = .ok (.invokevirtual 155, 3) := by decide +kernel
theorem dX8_would_4 : decode cX8_would 4 = .ok (.astore_n 2, 1) := by decide +kernel
theorem dX8_would_5 : decode cX8_would 5 = .ok (.aload_n 0, 1) := by decide +kernel
theorem dX8_would_6 : decode cX8_would 6 = .ok (.iload_n 1, 1) := by decide +kernel
theorem dX8_would_7 : decode cX8_would 7 = .ok (.invokevirtual 175, 3) := by decide +kernel
theorem dX8_would_10 : decode cX8_would 10 = .ok (.astore_n 3, 1) := by decide +kernel
theorem dX8_would_11 : decode cX8_would 11 = .ok (.aload_n 2, 1) := by decide +kernel
theorem dX8_would_12 : decode cX8_would 12 = .ok (.ifnonnull 13, 3) := by decide +kernel
theorem dX8_would_15 : decode cX8_would 15 = .ok (.new 116, 3) := by decide +kernel
theorem dX8_would_18 : decode cX8_would 18 = .ok (.dup, 1) := by decide +kernel
theorem dX8_would_19 : decode cX8_would 19 = .ok (.ldc 158, 2) := by decide +kernel
theorem dX8_would_21 : decode cX8_would 21 = .ok (.invokespecial 120, 3) := by decide +kernel
theorem dX8_would_24 : decode cX8_would 24 = .ok (.athrow, 1) := by decide +kernel
theorem dX8_would_25 : decode cX8_would 25 = .ok (.aload_n 0, 1) := by decide +kernel
theorem dX8_would_26 : decode cX8_would 26 = .ok (.getfield 48, 3) := by decide +kernel
theorem dX8_would_29 : decode cX8_would 29 = .ok (.aload_n 2, 1) := by decide +kernel
theorem dX8_would_30 : decode cX8_would 30 = .ok (.aload_n 3, 1) := by decide +kernel
theorem dX8_would_31 : decode cX8_would 31 = .ok (.aload_n 0, 1) := by decide +kernel
theorem dX8_would_32 : decode cX8_would 32 = .ok (.getfield 21, 3) := by decide +kernel
theorem dX8_would_35 : decode cX8_would 35 = .ok (.invokevirtual 247, 3) := by decide +kernel
theorem dX8_would_38 : decode cX8_would 38 = .ok (.ifCond .eq 16, 3) := by decide +kernel
theorem dX8_would_41 : decode cX8_would 41 = .ok (.aload_n 0, 1) := by decide +kernel
theorem dX8_would_42 : decode cX8_would 42 = .ok (.getfield 48, 3) := by decide +kernel
theorem dX8_would_45 : decode cX8_would 45 = .ok (.getfield 251, 3) := by decide +kernel
theorem dX8_would_48 : decode cX8_would 48 = .ok (.invokevirtual 63, 3) := by decide +kernel
theorem dX8_would_51 : decode cX8_would 51 = .ok (.goto 4, 3) := by decide +kernel
theorem dX8_would_54 : decode cX8_would 54 = .ok (.iconst (-1), 1) := by decide +kernel
theorem dX8_would_55 : decode cX8_would 55 = .ok (.ireturn, 1) := by decide +kernel
