theorem dX8_feed_45 : decode cX8_feed 45 = .ok (.aload_n 0, 1) := by decide +kernel
theorem dX8_feed_46 : decode cX8_feed 46 = .ok (.getfield 14, 3) := by decide +kernel
theorem dX8_feed_49 : decode cX8_feed 49 = .ok (.invokevirtual 63, 3) := by decide +kernel
theorem dX8_feed_52 : decode cX8_feed 52 = .ok (.ireturn, 1) := by decide +kernel
theorem dX8_file_0 : decode cX8_file 0 = .ok (.aload_n 0, 1) := by decide +kernel
theorem dX8_file_1 : decode cX8_file 1 = .ok (.getfield 21, 3) := by decide +kernel
theorem dX8_file_4 : decode cX8_file 4 = .ok (.aload_n 0, 1) := by decide +kernel
theorem dX8_file_5 : decode cX8_file 5 = .ok (.getfield 14, 3) := by decide +kernel
theorem dX8_file_8 : decode cX8_file 8 = .ok (.iconst 0, 1) := by decide +kernel
theorem dX8_file_9 : decode cX8_file 9 = .ok (.aload_n 0, 1) := by decide +kernel
theorem dX8_file_10 : decode cX8_file 10 = .ok (.getfield 14, 3) := by decide +kernel
theorem dX8_file_13 : decode cX8_file 13 = .ok (.invokevirtual 63, 3) := by decide +kernel
theorem dX8_file_16 : decode cX8_file 16 = .ok (.invokevirtual 126, 3) := by decide +kernel
theorem dX8_file_19 : decode cX8_file 19 = .ok (.putfield 130, 3) := by decide +kernel
theorem dX8_file_22 : decode cX8_file 22 = .ok (.aload_n 0, 1) := by decide +kernel
theorem dX8_file_23 : decode cX8_file 23 = .ok (.getfield 14, 3) := by decide +kernel
theorem dX8_file_26 : decode cX8_file 26 = .ok (.iconst 0, 1) := by decide +kernel
theorem dX8_file_27 : decode cX8_file 27 = .ok (.invokevirtual 70, 3) := by decide +kernel
theorem dX8_file_30 : decode cX8_file 30 = .ok (.aload_n 0, 1) := by decide +kernel
theorem dX8_file_31 : decode cX8_file 31 = .ok (.iconst 0, 1) := by decide +kernel
theorem dX8_file_32 : decode cX8_file 32 = .ok (.putfield 123, 3) := by decide +kernel
theorem dX8_file_35 : decode cX8_file 35 = .ok (.aload_n 0, 1) := by decide +kernel
theorem dX8_file_36 : decode cX8_file 36 = .ok (.invokevirtual 133, 3) := by decide +kernel
theorem dX8_file_39 : decode cX8_file 39 = .ok (.pop, 1) := by decide +kernel
theorem dX8_file_40 : decode cX8_file 40 = .ok (.aload_n 0, 1) := by decide +kernel
theorem dX8_file_41 : decode cX8_file 41 = .ok (.getfield 38, 3) := by decide +kernel
theorem dX8_file_44 : decode cX8_file 44 = .ok (.invokevirtual 136, 3) := by decide +kernel
theorem dX8_file_47 : decode cX8_file 47 = .ok (.ireturn, 1) := by decide +kernel
theorem dX8_finishCall_0 : decode cX8_finishCall 0 = .ok (.aload_n 0, 1) := by decide +kernel
theorem dX8_finishCall_1 : decode cX8_finishCall 1 = .ok (.iload_n 1, 1) := by decide +kernel
theorem dX8_finishCall_2 : decode cX8_finishCall 2 = .ok (.putfield 110, 3) := by decide +kernel
theorem dX8_finishCall_5 : decode cX8_finishCall 5 = .ok (.iload_n 1, 1) := by decide +kernel
theorem dX8_finishCall_6 : decode cX8_finishCall 6 = .ok (.iconst 3, 1) := by decide +kernel
theorem dX8_finishCall_7 : decode cX8_finishCall 7 = .ok (.if_icmp .ne 11, 3) := by decide +kernel
theorem dX8_finishCall_10 : decode cX8_finishCall 10 = .ok (.aload_n 0, 1) := by decide +kernel
theorem dX8_finishCall_11 : decode cX8_finishCall 11 = .ok (.aload_n 0, 1) := by decide +kernel
theorem dX8_finishCall_12 : decode cX8_finishCall 12 = .ok (.getfield 25, 3) := by decide +kernel
theorem dX8_finishCall_15 : decode cX8_finishCall 15 = .ok (.invokevirtual 113, 3) := by decide +kernel
theorem dX8_finishCall_18 : decode cX8_finishCall 18 = .ok (.iload_n 1, 1) := by decide +kernel
theorem dX8_finishCall_19 : decode cX8_finishCall 19 = .ok (.ifCond .eq 14, 3) := by decide +kernel
theorem dX8_finishCall_22 : decode cX8_finishCall 22 = .ok (.new 170, 3) := by decide +kernel
theorem dX8_finishCall_25 : decode cX8_finishCall 25 = .ok (.dup, 1) := by decide +kernel
theorem dX8_finishCall_26 : decode cX8_finishCall 26 = .ok (.ldc_w 326, 3) := by decide +kernel
theorem dX8_finishCall_29 : decode cX8_finishCall 29 = .ok (.invokespecial 174, 3) := by decide +kernel
theorem dX8_finishCall_32 : decode cX8_finishCall 32 = .ok (.athrow, 1) := by decide +kernel
theorem dX8_finishCall_33 : decode cX8_finishCall 33 = .ok (.aload_n 0, 1) := by decide +kernel
theorem dX8_finishCall_34 : decode cX8_finishCall 34 = .ok (.invokevirtual 328, 3) := by decide +kernel
theorem dX8_finishCall_37 : decode cX8_finishCall 37 = .ok (.return_, 1) := by decide +kernel
theorem dX8_forgetOldest_0 : decode cX8_forgetOldest 0 = .ok (.aload_n 0, 1) := by decide +kernel
theorem dX8_forgetOldest_1 : decode cX8_forgetOldest 1 = .ok (.getfield 31, 3) := by decide +kernel
theorem dX8_forgetOldest_4 : decode cX8_forgetOldest 4 = .ok (.arraylength, 1) := by decide +kernel
theorem dX8_forgetOldest_5 : decode cX8_forgetOldest 5 = .ok (.iconst 1, 1) := by decide +kernel
theorem dX8_forgetOldest_6 : decode cX8_forgetOldest 6 = .ok (.isub, 1) := by decide +kernel
theorem dX8_forgetOldest_7 : decode cX8_forgetOldest 7 = .ok (.istore_n 1, 1) := by decide +kernel
theorem dX8_forgetOldest_8 : decode cX8_forgetOldest 8 = .ok (.iload_n 1, 1) := by decide +kernel
theorem dX8_forgetOldest_9 : decode cX8_forgetOldest 9 = .ok (.ifCond .ge 4, 3) := by decide +kernel
theorem dX8_forgetOldest_12 : decode cX8_forgetOldest 12 = .ok (.return_, 1) := by decide +kernel
theorem dX8_forgetOldest_13 : decode cX8_forgetOldest 13 = .ok (.aload_n 0, 1) := by decide +kernel
theorem dX8_forgetOldest_14 : decode cX8_forgetOldest 14 = .ok (.getfield 31, 3) := by decide +kernel
theorem dX8_forgetOldest_17 : decode cX8_forgetOldest 17 = .ok (.iconst 0, 1) := by decide +kernel
theorem dX8_forgetOldest_18 : decode cX8_forgetOldest 18 = .ok (.aaload, 1) := by decide +kernel
theorem dX8_forgetOldest_19 : decode cX8_forgetOldest 19 = .ok (.astore_n 2, 1) := by decide +kernel
theorem dX8_forgetOldest_20 : decode cX8_forgetOldest 20 = .ok (.iconst 0, 1) := by decide +kernel
theorem dX8_forgetOldest_21 : decode cX8_forgetOldest 21 = .ok (.istore_n 3, 1) := by decide +kernel
theorem dX8_forgetOldest_22 : decode cX8_forgetOldest 22 = .ok (.iload_n 3, 1) := by decide +kernel
theorem dX8_forgetOldest_23 : decode cX8_forgetOldest 23 = .ok (.iload_n 1, 1) := by decide +kernel
theorem dX8_forgetOldest_24 : decode cX8_forgetOldest 24 = .ok (.if_icmp .ge 23, 3) := by decide +kernel
theorem dX8_forgetOldest_27 : decode cX8_forgetOldest 27 = .ok (.aload_n 0, 1) := by decide +kernel
theorem dX8_forgetOldest_28 : decode cX8_forgetOldest 28 = .ok (.getfield 31, 3) := by decide +kernel
theorem dX8_forgetOldest_31 : decode cX8_forgetOldest 31 = .ok (.iload_n 3, 1) := by decide +kernel
theorem dX8_forgetOldest_32 : decode cX8_forgetOldest 32 = .ok (.aload_n 0, 1) := by decide +kernel
theorem dX8_forgetOldest_33 : decode cX8_forgetOldest 33 = .ok (.getfield 31, 3) := by decide +kernel
theorem dX8_forgetOldest_36 : decode cX8_forgetOldest 36 = .ok (.iload_n 3, 1) := by decide +kernel
theorem dX8_forgetOldest_37 : decode cX8_forgetOldest 37 = .ok (.iconst 1, 1) := by decide +kernel
theorem dX8_forgetOldest_38 : decode cX8_forgetOldest 38 = .ok (.iadd, 1) := by decide +kernel
theorem dX8_forgetOldest_39 : decode cX8_forgetOldest 39 = .ok (.aaload, 1) := by decide +kernel
theorem dX8_forgetOldest_40 : decode cX8_forgetOldest 40 = .ok (.aastore, 1) := by decide +kernel
theorem dX8_forgetOldest_41 : decode cX8_forgetOldest 41 = .ok (.iinc 3 1, 3) := by decide +kernel
theorem dX8_forgetOldest_44 : decode cX8_forgetOldest 44 = .ok (.goto (-22), 3) := by decide +kernel
theorem dX8_forgetOldest_47 : decode cX8_forgetOldest 47 = .ok (.aload_n 0, 1) := by decide +kernel
theorem dX8_forgetOldest_48 : decode cX8_forgetOldest 48 = .ok (.getfield 31, 3) := by decide +kernel
theorem dX8_forgetOldest_51 : decode cX8_forgetOldest 51 = .ok (.iload_n 1, 1) := by decide +kernel
theorem dX8_forgetOldest_52 : decode cX8_forgetOldest 52 = .ok (.aload_n 2, 1) := by decide +kernel
theorem dX8_forgetOldest_53 : decode cX8_forgetOldest 53 = .ok (.aastore, 1) := by decide +kernel
theorem dX8_forgetOldest_54 : decode cX8_forgetOldest 54 = .ok (.aload_n 0, 1) := by decide +kernel
theorem dX8_forgetOldest_55 : decode cX8_forgetOldest 55 = .ok (.iload_n 1, 1) := by decide +kernel
theorem dX8_forgetOldest_56 : decode cX8_forgetOldest 56 = .ok (.putfield 123, 3) := by decide +kernel
theorem dX8_forgetOldest_59 : decode cX8_forgetOldest 59 = .ok (.return_, 1) := by decide +kernel
theorem dX8_found_0 : decode cX8_found 0 = .ok (.aload_n 0, 1) := by decide +kernel
theorem dX8_found_1 : decode cX8_found 1 = .ok (.invokevirtual 149, 3) := by decide +kernel
theorem dX8_found_4 : decode cX8_found 4 = .ok (.astore_n 1, 1) := by decide +kernel
theorem dX8_found_5 : decode cX8_found 5 = .ok (.aload_n 1, 1) := by decide +kernel
theorem dX8_found_6 : decode cX8_found 6 = .ok (.ifnonnull 13, 3) := by decide +kernel
theorem dX8_found_9 : decode cX8_found 9 = .ok (.new 116, 3) := by decide +kernel
theorem dX8_found_12 : decode cX8_found 12 = .ok (.dup, 1) := by decide +kernel
theorem dX8_found_13 : decode cX8_found 13 = .ok (.ldc 153, 2) := by decide +kernel
theorem dX8_found_15 : decode cX8_found 15 = .ok (.invokespecial 120, 3) := by decide +kernel
theorem dX8_found_18 : decode cX8_found 18 = .ok (.athrow, 1) := by decide +kernel
theorem dX8_found_19 : decode cX8_found 19 = .ok (.lconst 0, 1) := by decide +kernel
theorem dX8_found_20 : decode cX8_found 20 = .ok (.lstore_n 2, 1) := by decide +kernel
theorem dX8_found_21 : decode cX8_found 21 = .ok (.iconst 0, 1) := by decide +kernel
theorem dX8_found_22 : decode cX8_found 22 = .ok (.istore 4, 2) := by decide +kernel
theorem dX8_found_24 : decode cX8_found 24 = .ok (.iload 4, 2) := by decide +kernel
theorem dX8_found_26 : decode cX8_found 26 = .ok (.aload_n 0, 1) := by decide +kernel
theorem dX8_found_27 : decode cX8_found 27 = .ok (.getfield 38, 3) := by decide +kernel
theorem dX8_found_30 : decode cX8_found 30 = .ok (.invokevirtual 136, 3) := by decide +kernel
theorem dX8_found_33 : decode cX8_found 33 = .ok (.if_icmp .ge 26, 3) := by decide +kernel
theorem dX8_found_36 : decode cX8_found 36 = .ok (.aload_n 0, 1) := by decide +kernel
theorem dX8_found_37 : decode cX8_found 37 = .ok (.iload 4, 2) := by decide +kernel
theorem dX8_found_39 : decode cX8_found 39 = .ok (.aload_n 1, 1) := by decide +kernel
theorem dX8_found_40 : decode cX8_found 40 = .ok (.invokevirtual 254, 3) := by decide +kernel
theorem dX8_found_43 : decode cX8_found 43 = .ok (.ifCond .eq 10, 3) := by decide +kernel
theorem dX8_found_46 : decode cX8_found 46 = .ok (.lload_n 2, 1) := by decide +kernel
theorem dX8_found_47 : decode cX8_found 47 = .ok (.lconst 1, 1) := by decide +kernel
theorem dX8_found_48 : decode cX8_found 48 = .ok (.iload 4, 2) := by decide +kernel
theorem dX8_found_50 : decode cX8_found 50 = .ok (.lshl, 1) := by decide +kernel
theorem dX8_found_51 : decode cX8_found 51 = .ok (.lor, 1) := by decide +kernel
theorem dX8_found_52 : decode cX8_found 52 = .ok (.lstore_n 2, 1) := by decide +kernel
theorem dX8_found_53 : decode cX8_found 53 = .ok (.iinc 4 1, 3) := by decide +kernel
theorem dX8_found_56 : decode cX8_found 56 = .ok (.goto (-32), 3) := by decide +kernel
theorem dX8_found_59 : decode cX8_found 59 = .ok (.lload_n 2, 1) := by decide +kernel
theorem dX8_found_60 : decode cX8_found 60 = .ok (.lreturn, 1) := by decide +kernel
theorem dX8_free_0 : decode cX8_free 0 = .ok (.aload_n 0, 1) := by decide +kernel
theorem dX8_free_1 : decode cX8_free 1 = .ok (.getfield 25, 3) := by decide +kernel
theorem dX8_free_4 : decode cX8_free 4 = .ok (.aload_n 0, 1) := by decide +kernel
theorem dX8_free_5 : decode cX8_free 5 = .ok (.getfield 21, 3) := by decide +kernel
theorem dX8_free_8 : decode cX8_free 8 = .ok (.invokevirtual 73, 3) := by decide +kernel
theorem dX8_free_11 : decode cX8_free 11 = .ok (.aload_n 0, 1) := by decide +kernel
theorem dX8_free_12 : decode cX8_free 12 = .ok (.aload_n 0, 1) := by decide +kernel
theorem dX8_free_13 : decode cX8_free 13 = .ok (.bipush 8, 2) := by decide +kernel
theorem dX8_free_15 : decode cX8_free 15 = .ok (.iload_n 1, 1) := by decide +kernel
theorem dX8_free_16 : decode cX8_free 16 = .ok (.iconst 0, 1) := by decide +kernel
theorem dX8_free_17 : decode cX8_free 17 = .ok (.aconst_null, 1) := by decide +kernel
theorem dX8_free_18 : decode cX8_free 18 = .ok (.invokevirtual 103, 3) := by decide +kernel
theorem dX8_free_21 : decode cX8_free 21 = .ok (.invokevirtual 139, 3) := by decide +kernel
theorem dX8_free_24 : decode cX8_free 24 = .ok (.aload_n 0, 1) := by decide +kernel
theorem dX8_free_25 : decode cX8_free 25 = .ok (.getfield 48, 3) := by decide +kernel
theorem dX8_free_28 : decode cX8_free 28 = .ok (.getfield 160, 3) := by decide +kernel
theorem dX8_free_31 : decode cX8_free 31 = .ok (.invokevirtual 63, 3) := by decide +kernel
theorem dX8_free_34 : decode cX8_free 34 = .ok (.ireturn, 1) := by decide +kernel
theorem dX8_freePiece_0 : decode cX8_freePiece 0 = .ok (.aload_n 0, 1) := by decide +kernel
theorem dX8_freePiece_1 : decode cX8_freePiece 1 = .ok (.getfield 38, 3) := by decide +kernel
theorem dX8_freePiece_4 : decode cX8_freePiece 4 = .ok (.iload_n 1, 1) := by decide +kernel
theorem dX8_freePiece_5 : decode cX8_freePiece 5 = .ok (.invokevirtual 241, 3) := by decide +kernel
theorem dX8_freePiece_8 : decode cX8_freePiece 8 = .ok (.ifnonnull 5, 3) := by decide +kernel
theorem dX8_freePiece_11 : decode cX8_freePiece 11 = .ok (.iconst 1, 1) := by decide +kernel
theorem dX8_freePiece_12 : decode cX8_freePiece 12 = .ok (.ireturn, 1) := by decide +kernel
theorem dX8_freePiece_13 : decode cX8_freePiece 13 = .ok (.aload_n 0, 1) := by decide +kernel
theorem dX8_freePiece_14 : decode cX8_freePiece 14 = .ok (.getfield 21, 3) := by decide +kernel
theorem dX8_freePiece_17 : decode cX8_freePiece 17 = .ok (.iload_n 1, 1) := by decide +kernel
theorem dX8_freePiece_18 : decode cX8_freePiece 18 = .ok (.invokevirtual 194, 3) := by decide +kernel
theorem dX8_freePiece_21 : decode cX8_freePiece 21 = .ok (.ifnonnull 5, 3) := by decide +kernel
theorem dX8_freePiece_24 : decode cX8_freePiece 24 = .ok (.iconst 4, 1) := by decide +kernel
theorem dX8_freePiece_25 : decode cX8_freePiece 25 = .ok (.ireturn, 1) := by decide +kernel
theorem dX8_freePiece_26 : decode cX8_freePiece 26 = .ok (.aload_n 0, 1) := by decide +kernel
theorem dX8_freePiece_27 : decode cX8_freePiece 27 = .ok (.getfield 21, 3) := by decide +kernel
theorem dX8_freePiece_30 : decode cX8_freePiece 30 = .ok (.iload_n 1, 1) := by decide +kernel
theorem dX8_freePiece_31 : decode cX8_freePiece 31 = .ok (.aconst_null, 1) := by decide +kernel
theorem dX8_freePiece_32 : decode cX8_freePiece 32 = .ok (.invokevirtual 369, 3) := by decide +kernel
theorem dX8_freePiece_35 : decode cX8_freePiece 35 = .ok (.aload_n 0, 1) := by decide +kernel
theorem dX8_freePiece_36 : decode cX8_freePiece 36 = .ok (.getfield 48, 3) := by decide +kernel
theorem dX8_freePiece_39 : decode cX8_freePiece 39 = .ok (.aload_n 0, 1) := by decide +kernel
theorem dX8_freePiece_40 : decode cX8_freePiece 40 = .ok (.getfield 21, 3) := by decide +kernel
theorem dX8_freePiece_43 : decode cX8_freePiece 43 = .ok (.aload_n 0, 1) := by decide +kernel
theorem dX8_freePiece_44 : decode cX8_freePiece 44 = .ok (.getfield 38, 3) := by decide +kernel
theorem dX8_freePiece_47 : decode cX8_freePiece 47 = .ok (.invokevirtual 365, 3) := by decide +kernel
theorem dX8_freePiece_50 : decode cX8_freePiece 50 = .ok (.ifCond .eq 7, 3) := by decide +kernel
theorem dX8_freePiece_53 : decode cX8_freePiece 53 = .ok (.iconst 0, 1) := by decide +kernel
theorem dX8_freePiece_54 : decode cX8_freePiece 54 = .ok (.goto 4, 3) := by decide +kernel
theorem dX8_freePiece_57 : decode cX8_freePiece 57 = .ok (.iconst 3, 1) := by decide +kernel
theorem dX8_freePiece_58 : decode cX8_freePiece 58 = .ok (.ireturn, 1) := by decide +kernel
theorem dX8_hasWord_0 : decode cX8_hasWord 0 = .ok (.aload_n 0, 1) := by decide +kernel
theorem dX8_hasWord_1 : decode cX8_hasWord 1 = .ok (.getfield 38, 3) := by decide +kernel
theorem dX8_hasWord_4 : decode cX8_hasWord 4 = .ok (.iload_n 1, 1) := by decide +kernel
theorem dX8_hasWord_5 : decode cX8_hasWord 5 = .ok (.invokevirtual 241, 3) := by decide +kernel
theorem dX8_hasWord_8 : decode cX8_hasWord 8 = .ok (.astore_n 3, 1) := by decide +kernel
theorem dX8_hasWord_9 : decode cX8_hasWord 9 = .ok (.aload_n 3, 1) := by decide +kernel
theorem dX8_hasWord_10 : decode cX8_hasWord 10 = .ok (.ifnonnull 5, 3) := by decide +kernel
theorem dX8_hasWord_13 : decode cX8_hasWord 13 = .ok (.iconst 0, 1) := by decide +kernel
theorem dX8_hasWord_14 : decode cX8_hasWord 14 = .ok (.ireturn, 1) := by decide +kernel
theorem dX8_hasWord_15 : decode cX8_hasWord 15 = .ok (.aload_n 0, 1) := by decide +kernel
theorem dX8_hasWord_16 : decode cX8_hasWord 16 = .ok (.getfield 21, 3) := by decide +kernel
theorem dX8_hasWord_19 : decode cX8_hasWord 19 = .ok (.iload_n 1, 1) := by decide +kernel
theorem dX8_hasWord_20 : decode cX8_hasWord 20 = .ok (.invokevirtual 194, 3) := by decide +kernel
theorem dX8_hasWord_23 : decode cX8_hasWord 23 = .ok (.astore 4, 2) := by decide +kernel
theorem dX8_hasWord_25 : decode cX8_hasWord 25 = .ok (.aload 4, 2) := by decide +kernel
theorem dX8_hasWord_27 : decode cX8_hasWord 27 = .ok (.ifnonnull 25, 3) := by decide +kernel
theorem dX8_hasWord_30 : decode cX8_hasWord 30 = .ok (.aload_n 0, 1) := by decide +kernel
theorem dX8_hasWord_31 : decode cX8_hasWord 31 = .ok (.getfield 38, 3) := by decide +kernel
theorem dX8_hasWord_34 : decode cX8_hasWord 34 = .ok (.getfield 373, 3) := by decide +kernel
theorem dX8_hasWord_37 : decode cX8_hasWord 37 = .ok (.aload_n 3, 1) := by decide +kernel
theorem dX8_hasWord_38 : decode cX8_hasWord 38 = .ok (.getfield 224, 3) := by decide +kernel
theorem dX8_hasWord_41 : decode cX8_hasWord 41 = .ok (.aload_n 3, 1) := by decide +kernel
theorem dX8_hasWord_42 : decode cX8_hasWord 42 = .ok (.getfield 187, 3) := by decide +kernel
theorem dX8_hasWord_45 : decode cX8_hasWord 45 = .ok (.aload_n 2, 1) := by decide +kernel
theorem dX8_hasWord_46 : decode cX8_hasWord 46 = .ok (.invokevirtual 388, 3) := by decide +kernel
theorem dX8_hasWord_49 : decode cX8_hasWord 49 = .ok (.goto 15, 3) := by decide +kernel
theorem dX8_hasWord_52 : decode cX8_hasWord 52 = .ok (.aload 4, 2) := by decide +kernel
theorem dX8_hasWord_54 : decode cX8_hasWord 54 = .ok (.iconst 0, 1) := by decide +kernel
theorem dX8_hasWord_55 : decode cX8_hasWord 55 = .ok (.aload 4, 2) := by decide +kernel
theorem dX8_hasWord_57 : decode cX8_hasWord 57 = .ok (.invokevirtual 63, 3) := by decide +kernel
theorem dX8_hasWord_60 : decode cX8_hasWord 60 = .ok (.aload_n 2, 1) := by decide +kernel
theorem dX8_hasWord_61 : decode cX8_hasWord 61 = .ok (.invokevirtual 388, 3) := by decide +kernel
theorem dX8_hasWord_64 : decode cX8_hasWord 64 = .ok (.ireturn, 1) := by decide +kernel
theorem dX8_holder_0 : decode cX8_holder 0 = .ok (.iconst 0, 1) := by decide +kernel
theorem dX8_holder_1 : decode cX8_holder 1 = .ok (.istore_n 2, 1) := by decide +kernel
theorem dX8_holder_2 : decode cX8_holder 2 = .ok (.iload_n 2, 1) := by decide +kernel
theorem dX8_holder_3 : decode cX8_holder 3 = .ok (.aload_n 0, 1) := by decide +kernel
theorem dX8_holder_4 : decode cX8_holder 4 = .ok (.getfield 38, 3) := by decide +kernel
theorem dX8_holder_7 : decode cX8_holder 7 = .ok (.invokevirtual 136, 3) := by decide +kernel
theorem dX8_holder_10 : decode cX8_holder 10 = .ok (.if_icmp .ge 40, 3) := by decide +kernel
theorem dX8_holder_13 : decode cX8_holder 13 = .ok (.aload_n 0, 1) := by decide +kernel
theorem dX8_holder_14 : decode cX8_holder 14 = .ok (.getfield 38, 3) := by decide +kernel
theorem dX8_holder_17 : decode cX8_holder 17 = .ok (.iload_n 2, 1) := by decide +kernel
theorem dX8_holder_18 : decode cX8_holder 18 = .ok (.invokevirtual 241, 3) := by decide +kernel
theorem dX8_holder_21 : decode cX8_holder 21 = .ok (.astore_n 3, 1) := by decide +kernel
theorem dX8_holder_22 : decode cX8_holder 22 = .ok (.aload_n 3, 1) := by decide +kernel
theorem dX8_holder_23 : decode cX8_holder 23 = .ok (.ifnull 21, 3) := by decide +kernel
theorem dX8_holder_26 : decode cX8_holder 26 = .ok (.iload_n 1, 1) := by decide +kernel
theorem dX8_holder_27 : decode cX8_holder 27 = .ok (.aload_n 3, 1) := by decide +kernel
theorem dX8_holder_28 : decode cX8_holder 28 = .ok (.getfield 179, 3) := by decide +kernel
theorem dX8_holder_31 : decode cX8_holder 31 = .ok (.if_icmp .lt 13, 3) := by decide +kernel
theorem dX8_holder_34 : decode cX8_holder 34 = .ok (.iload_n 1, 1) := by decide +kernel
theorem dX8_holder_35 : decode cX8_holder 35 = .ok (.aload_n 3, 1) := by decide +kernel
theorem dX8_holder_36 : decode cX8_holder 36 = .ok (.getfield 184, 3) := by decide +kernel
theorem dX8_holder_39 : decode cX8_holder 39 = .ok (.if_icmp .ge 5, 3) := by decide +kernel
theorem dX8_holder_42 : decode cX8_holder 42 = .ok (.iload_n 2, 1) := by decide +kernel
theorem dX8_holder_43 : decode cX8_holder 43 = .ok (.ireturn, 1) := by decide +kernel
theorem dX8_holder_44 : decode cX8_holder 44 = .ok (.iinc 2 1, 3) := by decide +kernel
theorem dX8_holder_47 : decode cX8_holder 47 = .ok (.goto (-45), 3) := by decide +kernel
theorem dX8_holder_50 : decode cX8_holder 50 = .ok (.iconst (-1), 1) := by decide +kernel
theorem dX8_holder_51 : decode cX8_holder 51 = .ok (.ireturn, 1) := by decide +kernel
theorem dX8_image_0 : decode cX8_image 0 = .ok (.aload_n 0, 1) := by decide +kernel
theorem dX8_image_1 : decode cX8_image 1 = .ok (.getfield 28, 3) := by decide +kernel
theorem dX8_image_4 : decode cX8_image 4 = .ok (.aload_n 0, 1) := by decide +kernel
theorem dX8_image_5 : decode cX8_image 5 = .ok (.getfield 21, 3) := by decide +kernel
theorem dX8_image_8 : decode cX8_image 8 = .ok (.invokevirtual 73, 3) := by decide +kernel
theorem dX8_image_11 : decode cX8_image 11 = .ok (.aload_n 0, 1) := by decide +kernel
theorem dX8_image_12 : decode cX8_image 12 = .ok (.iconst 1, 1) := by decide +kernel
theorem dX8_image_13 : decode cX8_image 13 = .ok (.putfield 287, 3) := by decide +kernel
theorem dX8_image_16 : decode cX8_image 16 = .ok (.return_, 1) := by decide +kernel
theorem dX8_isLetter_0 : decode cX8_isLetter 0 = .ok (.iload_n 0, 1) := by decide +kernel
theorem dX8_isLetter_1 : decode cX8_isLetter 1 = .ok (.bipush 97, 2) := by decide +kernel
theorem dX8_isLetter_3 : decode cX8_isLetter 3 = .ok (.if_icmp .lt 9, 3) := by decide +kernel
theorem dX8_isLetter_6 : decode cX8_isLetter 6 = .ok (.iload_n 0, 1) := by decide +kernel
theorem dX8_isLetter_7 : decode cX8_isLetter 7 = .ok (.bipush 122, 2) := by decide +kernel
theorem dX8_isLetter_9 : decode cX8_isLetter 9 = .ok (.if_icmp .le 15, 3) := by decide +kernel
theorem dX8_isLetter_12 : decode cX8_isLetter 12 = .ok (.iload_n 0, 1) := by decide +kernel
theorem dX8_isLetter_13 : decode cX8_isLetter 13 = .ok (.bipush 65, 2) := by decide +kernel
theorem dX8_isLetter_15 : decode cX8_isLetter 15 = .ok (.if_icmp .lt 13, 3) := by decide +kernel
theorem dX8_isLetter_18 : decode cX8_isLetter 18 = .ok (.iload_n 0, 1) := by decide +kernel
theorem dX8_isLetter_19 : decode cX8_isLetter 19 = .ok (.bipush 90, 2) := by decide +kernel
theorem dX8_isLetter_21 : decode cX8_isLetter 21 = .ok (.if_icmp .gt 7, 3) := by decide +kernel
theorem dX8_isLetter_24 : decode cX8_isLetter 24 = .ok (.iconst 1, 1) := by decide +kernel
theorem dX8_isLetter_25 : decode cX8_isLetter 25 = .ok (.goto 4, 3) := by decide +kernel
theorem dX8_isLetter_28 : decode cX8_isLetter 28 = .ok (.iconst 0, 1) := by decide +kernel
theorem dX8_isLetter_29 : decode cX8_isLetter 29 = .ok (.ireturn, 1) := by decide +kernel
theorem dX8_isNow_0 : decode cX8_isNow 0 = .ok (.aload_n 0, 1) := by decide +kernel
theorem dX8_isNow_1 : decode cX8_isNow 1 = .ok (.getfield 21, 3) := by decide +kernel
theorem dX8_isNow_4 : decode cX8_isNow 4 = .ok (.iload_n 1, 1) := by decide +kernel
theorem dX8_isNow_5 : decode cX8_isNow 5 = .ok (.invokevirtual 194, 3) := by decide +kernel
theorem dX8_isNow_8 : decode cX8_isNow 8 = .ok (.astore 4, 2) := by decide +kernel
theorem dX8_isNow_10 : decode cX8_isNow 10 = .ok (.aload 4, 2) := by decide +kernel
theorem dX8_isNow_12 : decode cX8_isNow 12 = .ok (.ifnonnull 52, 3) := by decide +kernel
theorem dX8_isNow_15 : decode cX8_isNow 15 = .ok (.aload_n 2, 1) := by decide +kernel
theorem dX8_isNow_16 : decode cX8_isNow 16 = .ok (.getfield 187, 3) := by decide +kernel
theorem dX8_isNow_19 : decode cX8_isNow 19 = .ok (.aload_n 3, 1) := by decide +kernel
theorem dX8_isNow_20 : decode cX8_isNow 20 = .ok (.getfield 187, 3) := by decide +kernel
theorem dX8_isNow_23 : decode cX8_isNow 23 = .ok (.if_icmp .ne 39, 3) := by decide +kernel
theorem dX8_isNow_26 : decode cX8_isNow 26 = .ok (.aload_n 0, 1) := by decide +kernel
theorem dX8_isNow_27 : decode cX8_isNow 27 = .ok (.getfield 38, 3) := by decide +kernel
theorem dX8_isNow_30 : decode cX8_isNow 30 = .ok (.getfield 373, 3) := by decide +kernel
theorem dX8_isNow_33 : decode cX8_isNow 33 = .ok (.aload_n 2, 1) := by decide +kernel
theorem dX8_isNow_34 : decode cX8_isNow 34 = .ok (.getfield 224, 3) := by decide +kernel
theorem dX8_isNow_37 : decode cX8_isNow 37 = .ok (.aload_n 0, 1) := by decide +kernel
theorem dX8_isNow_38 : decode cX8_isNow 38 = .ok (.getfield 42, 3) := by decide +kernel
theorem dX8_isNow_41 : decode cX8_isNow 41 = .ok (.getfield 373, 3) := by decide +kernel
theorem dX8_isNow_44 : decode cX8_isNow 44 = .ok (.aload_n 3, 1) := by decide +kernel
theorem dX8_isNow_45 : decode cX8_isNow 45 = .ok (.getfield 224, 3) := by decide +kernel
theorem dX8_isNow_48 : decode cX8_isNow 48 = .ok (.aload_n 2, 1) := by decide +kernel
theorem dX8_isNow_49 : decode cX8_isNow 49 = .ok (.getfield 187, 3) := by decide +kernel
theorem dX8_isNow_52 : decode cX8_isNow 52 = .ok (.invokevirtual 382, 3) := by decide +kernel
theorem dX8_isNow_55 : decode cX8_isNow 55 = .ok (.ifCond .eq 7, 3) := by decide +kernel
theorem dX8_isNow_58 : decode cX8_isNow 58 = .ok (.iconst 1, 1) := by decide +kernel
theorem dX8_isNow_59 : decode cX8_isNow 59 = .ok (.goto 4, 3) := by decide +kernel
theorem dX8_isNow_62 : decode cX8_isNow 62 = .ok (.iconst 0, 1) := by decide +kernel
theorem dX8_isNow_63 : decode cX8_isNow 63 = .ok (.ireturn, 1) := by decide +kernel
theorem dX8_isNow_64 : decode cX8_isNow 64 = .ok (.aload 4, 2) := by decide +kernel
theorem dX8_isNow_66 : decode cX8_isNow 66 = .ok (.invokevirtual 63, 3) := by decide +kernel
theorem dX8_isNow_69 : decode cX8_isNow 69 = .ok (.aload_n 3, 1) := by decide +kernel
theorem dX8_isNow_70 : decode cX8_isNow 70 = .ok (.getfield 187, 3) := by decide +kernel
theorem dX8_isNow_73 : decode cX8_isNow 73 = .ok (.if_icmp .ne 32, 3) := by decide +kernel
theorem dX8_isNow_76 : decode cX8_isNow 76 = .ok (.aload 4, 2) := by decide +kernel
theorem dX8_isNow_78 : decode cX8_isNow 78 = .ok (.iconst 0, 1) := by decide +kernel
theorem dX8_isNow_79 : decode cX8_isNow 79 = .ok (.aload_n 0, 1) := by decide +kernel
theorem dX8_isNow_80 : decode cX8_isNow 80 = .ok (.getfield 42, 3) := by decide +kernel
theorem dX8_isNow_83 : decode cX8_isNow 83 = .ok (.getfield 373, 3) := by decide +kernel
theorem dX8_isNow_86 : decode cX8_isNow 86 = .ok (.aload_n 3, 1) := by decide +kernel
theorem dX8_isNow_87 : decode cX8_isNow 87 = .ok (.getfield 224, 3) := by decide +kernel
theorem dX8_isNow_90 : decode cX8_isNow 90 = .ok (.aload 4, 2) := by decide +kernel
theorem dX8_isNow_92 : decode cX8_isNow 92 = .ok (.invokevirtual 63, 3) := by decide +kernel
theorem dX8_isNow_95 : decode cX8_isNow 95 = .ok (.invokevirtual 382, 3) := by decide +kernel
theorem dX8_isNow_98 : decode cX8_isNow 98 = .ok (.ifCond .eq 7, 3) := by decide +kernel
theorem dX8_isNow_101 : decode cX8_isNow 101 = .ok (.iconst 1, 1) := by decide +kernel
theorem dX8_isNow_102 : decode cX8_isNow 102 = .ok (.goto 4, 3) := by decide +kernel
theorem dX8_isNow_105 : decode cX8_isNow 105 = .ok (.iconst 0, 1) := by decide +kernel
theorem dX8_isNow_106 : decode cX8_isNow 106 = .ok (.ireturn, 1) := by decide +kernel
theorem dX8_kept_0 : decode cX8_kept 0 = .ok (.aload_n 0, 1) := by decide +kernel
theorem dX8_kept_1 : decode cX8_kept 1 = .ok (.iload_n 1, 1) := by decide +kernel
theorem dX8_kept_2 : decode cX8_kept 2 = .ok (.invokevirtual 175, 3) := by decide +kernel
theorem dX8_kept_5 : decode cX8_kept 5 = .ok (.astore_n 2, 1) := by decide +kernel
theorem dX8_kept_6 : decode cX8_kept 6 = .ok (.aload_n 0, 1) := by decide +kernel
theorem dX8_kept_7 : decode cX8_kept 7 = .ok (.invokevirtual 276, 3) := by decide +kernel
theorem dX8_kept_10 : decode cX8_kept 10 = .ok (.iconst 0, 1) := by decide +kernel
theorem dX8_kept_11 : decode cX8_kept 11 = .ok (.istore_n 3, 1) := by decide +kernel
theorem dX8_kept_12 : decode cX8_kept 12 = .ok (.iload_n 3, 1) := by decide +kernel
theorem dX8_kept_13 : decode cX8_kept 13 = .ok (.aload_n 0, 1) := by decide +kernel
theorem dX8_kept_14 : decode cX8_kept 14 = .ok (.getfield 42, 3) := by decide +kernel
theorem dX8_kept_17 : decode cX8_kept 17 = .ok (.invokevirtual 136, 3) := by decide +kernel
theorem dX8_kept_20 : decode cX8_kept 20 = .ok (.if_icmp .ge 49, 3) := by decide +kernel
theorem dX8_kept_23 : decode cX8_kept 23 = .ok (.aload_n 0, 1) := by decide +kernel
theorem dX8_kept_24 : decode cX8_kept 24 = .ok (.getfield 42, 3) := by decide +kernel
theorem dX8_kept_27 : decode cX8_kept 27 = .ok (.iload_n 3, 1) := by decide +kernel
theorem dX8_kept_28 : decode cX8_kept 28 = .ok (.invokevirtual 241, 3) := by decide +kernel
theorem dX8_kept_31 : decode cX8_kept 31 = .ok (.astore 4, 2) := by decide +kernel
theorem dX8_kept_33 : decode cX8_kept 33 = .ok (.aload 4, 2) := by decide +kernel
theorem dX8_kept_35 : decode cX8_kept 35 = .ok (.ifnull 28, 3) := by decide +kernel
theorem dX8_kept_38 : decode cX8_kept 38 = .ok (.aload_n 2, 1) := by decide +kernel
theorem dX8_kept_39 : decode cX8_kept 39 = .ok (.aload 4, 2) := by decide +kernel
theorem dX8_kept_41 : decode cX8_kept 41 = .ok (.getfield 179, 3) := by decide +kernel
theorem dX8_kept_44 : decode cX8_kept 44 = .ok (.invokevirtual 279, 3) := by decide +kernel
theorem dX8_kept_47 : decode cX8_kept 47 = .ok (.ifCond .eq 16, 3) := by decide +kernel
theorem dX8_kept_50 : decode cX8_kept 50 = .ok (.aload_n 0, 1) := by decide +kernel
theorem dX8_kept_51 : decode cX8_kept 51 = .ok (.iload_n 1, 1) := by decide +kernel
theorem dX8_kept_52 : decode cX8_kept 52 = .ok (.aload_n 2, 1) := by decide +kernel
theorem dX8_kept_53 : decode cX8_kept 53 = .ok (.aload 4, 2) := by decide +kernel
theorem dX8_kept_55 : decode cX8_kept 55 = .ok (.invokevirtual 283, 3) := by decide +kernel
theorem dX8_kept_58 : decode cX8_kept 58 = .ok (.ifCond .eq 5, 3) := by decide +kernel
theorem dX8_kept_61 : decode cX8_kept 61 = .ok (.iconst 1, 1) := by decide +kernel
theorem dX8_kept_62 : decode cX8_kept 62 = .ok (.ireturn, 1) := by decide +kernel
theorem dX8_kept_63 : decode cX8_kept 63 = .ok (.iinc 3 1, 3) := by decide +kernel
theorem dX8_kept_66 : decode cX8_kept 66 = .ok (.goto (-54), 3) := by decide +kernel
theorem dX8_kept_69 : decode cX8_kept 69 = .ok (.iconst 0, 1) := by decide +kernel
theorem dX8_kept_70 : decode cX8_kept 70 = .ok (.ireturn, 1) := by decide +kernel
theorem dX8_key_0 : decode cX8_key 0 = .ok (.aload_n 0, 1) := by decide +kernel
theorem dX8_key_1 : decode cX8_key 1 = .ok (.iload_n 1, 1) := by decide +kernel
theorem dX8_key_2 : decode cX8_key 2 = .ok (.invokevirtual 175, 3) := by decide +kernel
theorem dX8_key_5 : decode cX8_key 5 = .ok (.astore_n 3, 1) := by decide +kernel
theorem dX8_key_6 : decode cX8_key 6 = .ok (.iload_n 2, 1) := by decide +kernel
theorem dX8_key_7 : decode cX8_key 7 = .ok (.ifCond .eq 18, 3) := by decide +kernel
theorem dX8_key_10 : decode cX8_key 10 = .ok (.iload_n 2, 1) := by decide +kernel
theorem dX8_key_11 : decode cX8_key 11 = .ok (.iconst 1, 1) := by decide +kernel
theorem dX8_key_12 : decode cX8_key 12 = .ok (.if_icmp .eq 13, 3) := by decide +kernel
theorem dX8_key_15 : decode cX8_key 15 = .ok (.new 142, 3) := by decide +kernel
theorem dX8_key_18 : decode cX8_key 18 = .ok (.dup, 1) := by decide +kernel
theorem dX8_key_19 : decode cX8_key 19 = .ok (.ldc 230, 2) := by decide +kernel
theorem dX8_key_21 : decode cX8_key 21 = .ok (.invokespecial 146, 3) := by decide +kernel
theorem dX8_key_24 : decode cX8_key 24 = .ok (.athrow, 1) := by decide +kernel
theorem dX8_key_25 : decode cX8_key 25 = .ok (.aload_n 0, 1) := by decide +kernel
theorem dX8_key_26 : decode cX8_key 26 = .ok (.getfield 21, 3) := by decide +kernel
theorem dX8_key_29 : decode cX8_key 29 = .ok (.getfield 232, 3) := by decide +kernel
theorem dX8_key_32 : decode cX8_key 32 = .ok (.ifCond .eq 5, 3) := by decide +kernel
theorem dX8_key_35 : decode cX8_key 35 = .ok (.iconst (-1), 1) := by decide +kernel
theorem dX8_key_36 : decode cX8_key 36 = .ok (.ireturn, 1) := by decide +kernel
theorem dX8_key_37 : decode cX8_key 37 = .ok (.iload_n 2, 1) := by decide +kernel
theorem dX8_key_38 : decode cX8_key 38 = .ok (.ifCond .ne 10, 3) := by decide +kernel
theorem dX8_key_41 : decode cX8_key 41 = .ok (.aload_n 3, 1) := by decide +kernel
theorem dX8_key_42 : decode cX8_key 42 = .ok (.getfield 235, 3) := by decide +kernel
theorem dX8_key_45 : decode cX8_key 45 = .ok (.goto 7, 3) := by decide +kernel
theorem dX8_key_48 : decode cX8_key 48 = .ok (.aload_n 3, 1) := by decide +kernel
theorem dX8_key_49 : decode cX8_key 49 = .ok (.getfield 238, 3) := by decide +kernel
theorem dX8_key_52 : decode cX8_key 52 = .ok (.ireturn, 1) := by decide +kernel
theorem dX8_kind_0 : decode cX8_kind 0 = .ok (.iload_n 1, 1) := by decide +kernel
theorem dX8_kind_1 : decode cX8_kind 1 = .ok (.iconst 3, 1) := by decide +kernel
theorem dX8_kind_2 : decode cX8_kind 2 = .ok (.if_icmp .gt 16, 3) := by decide +kernel
theorem dX8_kind_5 : decode cX8_kind 5 = .ok (.iload_n 1, 1) := by decide +kernel
theorem dX8_kind_6 : decode cX8_kind 6 = .ok (.iload_n 2, 1) := by decide +kernel
theorem dX8_kind_7 : decode cX8_kind 7 = .ok (.ifCond .eq 7, 3) := by decide +kernel
theorem dX8_kind_10 : decode cX8_kind 10 = .ok (.iconst (-1), 1) := by decide +kernel
theorem dX8_kind_11 : decode cX8_kind 11 = .ok (.goto 4, 3) := by decide +kernel
theorem dX8_kind_14 : decode cX8_kind 14 = .ok (.iconst 0, 1) := by decide +kernel
theorem dX8_kind_15 : decode cX8_kind 15 = .ok (.if_icmp .ge 13, 3) := by decide +kernel
theorem dX8_kind_18 : decode cX8_kind 18 = .ok (.new 116, 3) := by decide +kernel
theorem dX8_kind_21 : decode cX8_kind 21 = .ok (.dup, 1) := by decide +kernel
theorem dX8_kind_22 : decode cX8_kind 22 = .ok (.ldc 137, 2) := by decide +kernel
theorem dX8_kind_24 : decode cX8_kind 24 = .ok (.invokespecial 120, 3) := by decide +kernel
theorem dX8_kind_27 : decode cX8_kind 27 = .ok (.athrow, 1) := by decide +kernel
theorem dX8_kind_28 : decode cX8_kind 28 = .ok (.aload_n 0, 1) := by decide +kernel
theorem dX8_kind_29 : decode cX8_kind 29 = .ok (.getfield 25, 3) := by decide +kernel
theorem dX8_kind_32 : decode cX8_kind 32 = .ok (.aload_n 0, 1) := by decide +kernel
theorem dX8_kind_33 : decode cX8_kind 33 = .ok (.getfield 21, 3) := by decide +kernel
theorem dX8_kind_36 : decode cX8_kind 36 = .ok (.invokevirtual 73, 3) := by decide +kernel
theorem dX8_kind_39 : decode cX8_kind 39 = .ok (.aload_n 0, 1) := by decide +kernel
theorem dX8_kind_40 : decode cX8_kind 40 = .ok (.aload_n 0, 1) := by decide +kernel
theorem dX8_kind_41 : decode cX8_kind 41 = .ok (.iload_n 2, 1) := by decide +kernel
theorem dX8_kind_42 : decode cX8_kind 42 = .ok (.ifCond .eq 7, 3) := by decide +kernel
theorem dX8_kind_45 : decode cX8_kind 45 = .ok (.iconst 1, 1) := by decide +kernel
theorem dX8_kind_46 : decode cX8_kind 46 = .ok (.goto 4, 3) := by decide +kernel
theorem dX8_kind_49 : decode cX8_kind 49 = .ok (.iconst 0, 1) := by decide +kernel
theorem dX8_kind_50 : decode cX8_kind 50 = .ok (.iload_n 1, 1) := by decide +kernel
theorem dX8_kind_51 : decode cX8_kind 51 = .ok (.iconst 0, 1) := by decide +kernel
theorem dX8_kind_52 : decode cX8_kind 52 = .ok (.aconst_null, 1) := by decide +kernel
theorem dX8_kind_53 : decode cX8_kind 53 = .ok (.invokevirtual 103, 3) := by decide +kernel
theorem dX8_kind_56 : decode cX8_kind 56 = .ok (.invokevirtual 139, 3) := by decide +kernel
theorem dX8_kind_59 : decode cX8_kind 59 = .ok (.aload_n 0, 1) := by decide +kernel
theorem dX8_kind_60 : decode cX8_kind 60 = .ok (.getfield 38, 3) := by decide +kernel
theorem dX8_kind_63 : decode cX8_kind 63 = .ok (.invokevirtual 136, 3) := by decide +kernel
theorem dX8_kind_66 : decode cX8_kind 66 = .ok (.ireturn, 1) := by decide +kernel
theorem dX8_knownPair_0 : decode cX8_knownPair 0 = .ok (.aload_n 0, 1) := by decide +kernel
theorem dX8_knownPair_1 : decode cX8_knownPair 1 = .ok (.getfield 21, 3) := by decide +kernel
theorem dX8_knownPair_4 : decode cX8_knownPair 4 = .ok (.getfield 261, 3) := by decide +kernel
theorem dX8_knownPair_7 : decode cX8_knownPair 7 = .ok (.astore_n 2, 1) := by decide +kernel
theorem dX8_knownPair_8 : decode cX8_knownPair 8 = .ok (.iconst 0, 1) := by decide +kernel
theorem dX8_knownPair_9 : decode cX8_knownPair 9 = .ok (.istore_n 3, 1) := by decide +kernel
theorem dX8_knownPair_10 : decode cX8_knownPair 10 = .ok (.iload_n 3, 1) := by decide +kernel
theorem dX8_knownPair_11 : decode cX8_knownPair 11 = .ok (.aload_n 0, 1) := by decide +kernel
theorem dX8_knownPair_12 : decode cX8_knownPair 12 = .ok (.getfield 21, 3) := by decide +kernel
theorem dX8_knownPair_15 : decode cX8_knownPair 15 = .ok (.getfield 258, 3) := by decide +kernel
theorem dX8_knownPair_18 : decode cX8_knownPair 18 = .ok (.if_icmp .ge 60, 3) := by decide +kernel
theorem dX8_knownPair_21 : decode cX8_knownPair 21 = .ok (.aload_n 2, 1) := by decide +kernel
theorem dX8_knownPair_22 : decode cX8_knownPair 22 = .ok (.ifnull 56, 3) := by decide +kernel
theorem dX8_knownPair_25 : decode cX8_knownPair 25 = .ok (.aload_n 2, 1) := by decide +kernel
theorem dX8_knownPair_26 : decode cX8_knownPair 26 = .ok (.getfield 273, 3) := by decide +kernel
theorem dX8_knownPair_29 : decode cX8_knownPair 29 = .ok (.invokevirtual 63, 3) := by decide +kernel
theorem dX8_knownPair_32 : decode cX8_knownPair 32 = .ok (.aload_n 1, 1) := by decide +kernel
theorem dX8_knownPair_33 : decode cX8_knownPair 33 = .ok (.getfield 187, 3) := by decide +kernel
theorem dX8_knownPair_36 : decode cX8_knownPair 36 = .ok (.if_icmp .ne 31, 3) := by decide +kernel
theorem dX8_knownPair_39 : decode cX8_knownPair 39 = .ok (.aload_n 2, 1) := by decide +kernel
theorem dX8_knownPair_40 : decode cX8_knownPair 40 = .ok (.getfield 273, 3) := by decide +kernel
theorem dX8_knownPair_43 : decode cX8_knownPair 43 = .ok (.iconst 0, 1) := by decide +kernel
theorem dX8_knownPair_44 : decode cX8_knownPair 44 = .ok (.aload_n 0, 1) := by decide +kernel
theorem dX8_knownPair_45 : decode cX8_knownPair 45 = .ok (.getfield 38, 3) := by decide +kernel
theorem dX8_knownPair_48 : decode cX8_knownPair 48 = .ok (.getfield 373, 3) := by decide +kernel
theorem dX8_knownPair_51 : decode cX8_knownPair 51 = .ok (.aload_n 1, 1) := by decide +kernel
theorem dX8_knownPair_52 : decode cX8_knownPair 52 = .ok (.getfield 224, 3) := by decide +kernel
theorem dX8_knownPair_55 : decode cX8_knownPair 55 = .ok (.aload_n 1, 1) := by decide +kernel
theorem dX8_knownPair_56 : decode cX8_knownPair 56 = .ok (.getfield 187, 3) := by decide +kernel
theorem dX8_knownPair_59 : decode cX8_knownPair 59 = .ok (.invokevirtual 382, 3) := by decide +kernel
theorem dX8_knownPair_62 : decode cX8_knownPair 62 = .ok (.ifCond .eq 5, 3) := by decide +kernel
theorem dX8_knownPair_65 : decode cX8_knownPair 65 = .ok (.iload_n 3, 1) := by decide +kernel
theorem dX8_knownPair_66 : decode cX8_knownPair 66 = .ok (.ireturn, 1) := by decide +kernel
theorem dX8_knownPair_67 : decode cX8_knownPair 67 = .ok (.aload_n 2, 1) := by decide +kernel
theorem dX8_knownPair_68 : decode cX8_knownPair 68 = .ok (.getfield 265, 3) := by decide +kernel
theorem dX8_knownPair_71 : decode cX8_knownPair 71 = .ok (.astore_n 2, 1) := by decide +kernel
theorem dX8_knownPair_72 : decode cX8_knownPair 72 = .ok (.iinc 3 1, 3) := by decide +kernel
theorem dX8_knownPair_75 : decode cX8_knownPair 75 = .ok (.goto (-65), 3) := by decide +kernel
theorem dX8_knownPair_78 : decode cX8_knownPair 78 = .ok (.iconst (-1), 1) := by decide +kernel
theorem dX8_knownPair_79 : decode cX8_knownPair 79 = .ok (.ireturn, 1) := by decide +kernel
theorem dX8_like_0 : decode cX8_like 0 = .ok (.aload_n 0, 1) := by decide +kernel
theorem dX8_like_1 : decode cX8_like 1 = .ok (.iload_n 1, 1) := by decide +kernel
theorem dX8_like_2 : decode cX8_like 2 = .ok (.invokevirtual 175, 3) := by decide +kernel
theorem dX8_like_5 : decode cX8_like 5 = .ok (.pop, 1) := by decide +kernel
theorem dX8_like_6 : decode cX8_like 6 = .ok (.iconst 0, 1) := by decide +kernel
theorem dX8_like_7 : decode cX8_like 7 = .ok (.istore_n 3, 1) := by decide +kernel
theorem dX8_like_8 : decode cX8_like 8 = .ok (.iconst 0, 1) := by decide +kernel
theorem dX8_like_9 : decode cX8_like 9 = .ok (.istore 4, 2) := by decide +kernel
theorem dX8_like_11 : decode cX8_like 11 = .ok (.iload 4, 2) := by decide +kernel
theorem dX8_like_13 : decode cX8_like 13 = .ok (.aload_n 0, 1) := by decide +kernel
theorem dX8_like_14 : decode cX8_like 14 = .ok (.getfield 38, 3) := by decide +kernel
theorem dX8_like_17 : decode cX8_like 17 = .ok (.invokevirtual 136, 3) := by decide +kernel
theorem dX8_like_20 : decode cX8_like 20 = .ok (.if_icmp .ge 33, 3) := by decide +kernel
theorem dX8_like_23 : decode cX8_like 23 = .ok (.aload_n 0, 1) := by decide +kernel
theorem dX8_like_24 : decode cX8_like 24 = .ok (.getfield 38, 3) := by decide +kernel
theorem dX8_like_27 : decode cX8_like 27 = .ok (.iload_n 1, 1) := by decide +kernel
theorem dX8_like_28 : decode cX8_like 28 = .ok (.iload 4, 2) := by decide +kernel
theorem dX8_like_30 : decode cX8_like 30 = .ok (.invokevirtual 243, 3) := by decide +kernel
theorem dX8_like_33 : decode cX8_like 33 = .ok (.ifCond .eq 14, 3) := by decide +kernel
theorem dX8_like_36 : decode cX8_like 36 = .ok (.iload_n 3, 1) := by decide +kernel
theorem dX8_like_37 : decode cX8_like 37 = .ok (.iload_n 2, 1) := by decide +kernel
theorem dX8_like_38 : decode cX8_like 38 = .ok (.if_icmp .ne 6, 3) := by decide +kernel
theorem dX8_like_41 : decode cX8_like 41 = .ok (.iload 4, 2) := by decide +kernel
theorem dX8_like_43 : decode cX8_like 43 = .ok (.ireturn, 1) := by decide +kernel
theorem dX8_like_44 : decode cX8_like 44 = .ok (.iinc 3 1, 3) := by decide +kernel
theorem dX8_like_47 : decode cX8_like 47 = .ok (.iinc 4 1, 3) := by decide +kernel
theorem dX8_like_50 : decode cX8_like 50 = .ok (.goto (-39), 3) := by decide +kernel
theorem dX8_like_53 : decode cX8_like 53 = .ok (.iconst (-1), 1) := by decide +kernel
theorem dX8_like_54 : decode cX8_like 54 = .ok (.ireturn, 1) := by decide +kernel
theorem dX8_lock_0 : decode cX8_lock 0 = .ok (.aload_n 0, 1) := by decide +kernel
theorem dX8_lock_1 : decode cX8_lock 1 = .ok (.invokevirtual 149, 3) := by decide +kernel
theorem dX8_lock_4 : decode cX8_lock 4 = .ok (.astore_n 1, 1) := by decide +kernel
theorem dX8_lock_5 : decode cX8_lock 5 = .ok (.aload_n 1, 1) := by decide +kernel
theorem dX8_lock_6 : decode cX8_lock 6 = .ok (.ifnonnull 13, 3) := by decide +kernel
theorem dX8_lock_9 : decode cX8_lock 9 = .ok (.new 116, 3) := by decide +kernel
theorem dX8_lock_12 : decode cX8_lock 12 = .ok (.dup, 1) := by decide +kernel
theorem dX8_lock_13 : decode cX8_lock 13 = .ok (.ldc 153, 2) := by decide +kernel
theorem dX8_lock_15 : decode cX8_lock 15 = .ok (.invokespecial 120, 3) := by decide +kernel
theorem dX8_lock_18 : decode cX8_lock 18 = .ok (.athrow, 1) := by decide +kernel
theorem dX8_lock_19 : decode cX8_lock 19 = .ok (.aload_n 0, 1) := by decide +kernel
theorem dX8_lock_20 : decode cX8_lock 20 = .ok (.getfield 25, 3) := by decide +kernel
theorem dX8_lock_23 : decode cX8_lock 23 = .ok (.aload_n 0, 1) := by decide +kernel
theorem dX8_lock_24 : decode cX8_lock 24 = .ok (.getfield 21, 3) := by decide +kernel
theorem dX8_lock_27 : decode cX8_lock 27 = .ok (.invokevirtual 73, 3) := by decide +kernel
theorem dX8_lock_30 : decode cX8_lock 30 = .ok (.aload_n 0, 1) := by decide +kernel
theorem dX8_lock_31 : decode cX8_lock 31 = .ok (.aload_n 0, 1) := by decide +kernel
theorem dX8_lock_32 : decode cX8_lock 32 = .ok (.bipush 6, 2) := by decide +kernel
theorem dX8_lock_34 : decode cX8_lock 34 = .ok (.iconst 0, 1) := by decide +kernel
theorem dX8_lock_35 : decode cX8_lock 35 = .ok (.iconst 0, 1) := by decide +kernel
theorem dX8_lock_36 : decode cX8_lock 36 = .ok (.aload_n 1, 1) := by decide +kernel
theorem dX8_lock_37 : decode cX8_lock 37 = .ok (.invokevirtual 103, 3) := by decide +kernel
theorem dX8_lock_40 : decode cX8_lock 40 = .ok (.invokevirtual 139, 3) := by decide +kernel
theorem dX8_lock_43 : decode cX8_lock 43 = .ok (.aload_n 0, 1) := by decide +kernel
theorem dX8_lock_44 : decode cX8_lock 44 = .ok (.getfield 38, 3) := by decide +kernel
theorem dX8_lock_47 : decode cX8_lock 47 = .ok (.invokevirtual 136, 3) := by decide +kernel
theorem dX8_lock_50 : decode cX8_lock 50 = .ok (.ireturn, 1) := by decide +kernel
theorem dX8_memory_0 : decode cX8_memory 0 = .ok (.iload_n 1, 1) := by decide +kernel
theorem dX8_memory_1 : decode cX8_memory 1 = .ok (.ifCond .lt 14, 3) := by decide +kernel
theorem dX8_memory_4 : decode cX8_memory 4 = .ok (.iload_n 1, 1) := by decide +kernel
theorem dX8_memory_5 : decode cX8_memory 5 = .ok (.aload_n 0, 1) := by decide +kernel
theorem dX8_memory_6 : decode cX8_memory 6 = .ok (.getfield 21, 3) := by decide +kernel
theorem dX8_memory_9 : decode cX8_memory 9 = .ok (.getfield 258, 3) := by decide +kernel
theorem dX8_memory_12 : decode cX8_memory 12 = .ok (.if_icmp .lt 5, 3) := by decide +kernel
theorem dX8_memory_15 : decode cX8_memory 15 = .ok (.iconst (-1), 1) := by decide +kernel
theorem dX8_memory_16 : decode cX8_memory 16 = .ok (.ireturn, 1) := by decide +kernel
theorem dX8_memory_17 : decode cX8_memory 17 = .ok (.aload_n 0, 1) := by decide +kernel
theorem dX8_memory_18 : decode cX8_memory 18 = .ok (.getfield 21, 3) := by decide +kernel
theorem dX8_memory_21 : decode cX8_memory 21 = .ok (.getfield 261, 3) := by decide +kernel
theorem dX8_memory_24 : decode cX8_memory 24 = .ok (.astore 4, 2) := by decide +kernel
theorem dX8_memory_26 : decode cX8_memory 26 = .ok (.iconst 0, 1) := by decide +kernel
theorem dX8_memory_27 : decode cX8_memory 27 = .ok (.istore 5, 2) := by decide +kernel
theorem dX8_memory_29 : decode cX8_memory 29 = .ok (.iload 5, 2) := by decide +kernel
theorem dX8_memory_31 : decode cX8_memory 31 = .ok (.iload_n 1, 1) := by decide +kernel
theorem dX8_memory_32 : decode cX8_memory 32 = .ok (.if_icmp .ge 21, 3) := by decide +kernel
theorem dX8_memory_35 : decode cX8_memory 35 = .ok (.aload 4, 2) := by decide +kernel
theorem dX8_memory_37 : decode cX8_memory 37 = .ok (.ifnull 16, 3) := by decide +kernel
theorem dX8_memory_40 : decode cX8_memory 40 = .ok (.aload 4, 2) := by decide +kernel
theorem dX8_memory_42 : decode cX8_memory 42 = .ok (.getfield 265, 3) := by decide +kernel
theorem dX8_memory_45 : decode cX8_memory 45 = .ok (.astore 4, 2) := by decide +kernel
theorem dX8_memory_47 : decode cX8_memory 47 = .ok (.iinc 5 1, 3) := by decide +kernel
theorem dX8_memory_50 : decode cX8_memory 50 = .ok (.goto (-21), 3) := by decide +kernel
theorem dX8_memory_53 : decode cX8_memory 53 = .ok (.aload 4, 2) := by decide +kernel
theorem dX8_memory_55 : decode cX8_memory 55 = .ok (.ifnonnull 5, 3) := by decide +kernel
theorem dX8_memory_58 : decode cX8_memory 58 = .ok (.iconst (-1), 1) := by decide +kernel
theorem dX8_memory_59 : decode cX8_memory 59 = .ok (.ireturn, 1) := by decide +kernel
theorem dX8_memory_60 : decode cX8_memory 60 = .ok (.iload_n 2, 1) := by decide +kernel
theorem dX8_memory_61 : decode cX8_memory 61 = .ok (.ifCond .eq 15, 3) := by decide +kernel
theorem dX8_memory_64 : decode cX8_memory 64 = .ok (.aload 4, 2) := by decide +kernel
theorem dX8_memory_66 : decode cX8_memory 66 = .ok (.getfield 270, 3) := by decide +kernel
theorem dX8_memory_69 : decode cX8_memory 69 = .ok (.iload_n 3, 1) := by decide +kernel
theorem dX8_memory_70 : decode cX8_memory 70 = .ok (.invokevirtual 227, 3) := by decide +kernel
theorem dX8_memory_73 : decode cX8_memory 73 = .ok (.goto 12, 3) := by decide +kernel
theorem dX8_memory_76 : decode cX8_memory 76 = .ok (.aload 4, 2) := by decide +kernel
theorem dX8_memory_78 : decode cX8_memory 78 = .ok (.getfield 273, 3) := by decide +kernel
theorem dX8_memory_81 : decode cX8_memory 81 = .ok (.iload_n 3, 1) := by decide +kernel
theorem dX8_memory_82 : decode cX8_memory 82 = .ok (.invokevirtual 227, 3) := by decide +kernel
theorem dX8_memory_85 : decode cX8_memory 85 = .ok (.ireturn, 1) := by decide +kernel
theorem dX8_nowByte_0 : decode cX8_nowByte 0 = .ok (.aload_n 0, 1) := by decide +kernel
theorem dX8_nowByte_1 : decode cX8_nowByte 1 = .ok (.getfield 21, 3) := by decide +kernel
theorem dX8_nowByte_4 : decode cX8_nowByte 4 = .ok (.iload_n 1, 1) := by decide +kernel
theorem dX8_nowByte_5 : decode cX8_nowByte 5 = .ok (.invokevirtual 194, 3) := by decide +kernel
theorem dX8_nowByte_8 : decode cX8_nowByte 8 = .ok (.astore 4, 2) := by decide +kernel
theorem dX8_nowByte_10 : decode cX8_nowByte 10 = .ok (.aload 4, 2) := by decide +kernel
theorem dX8_nowByte_12 : decode cX8_nowByte 12 = .ok (.ifnonnull 15, 3) := by decide +kernel
theorem dX8_nowByte_15 : decode cX8_nowByte 15 = .ok (.aload_n 0, 1) := by decide +kernel
theorem dX8_nowByte_16 : decode cX8_nowByte 16 = .ok (.getfield 38, 3) := by decide +kernel
theorem dX8_nowByte_19 : decode cX8_nowByte 19 = .ok (.aload_n 2, 1) := by decide +kernel
theorem dX8_nowByte_20 : decode cX8_nowByte 20 = .ok (.iload_n 3, 1) := by decide +kernel
theorem dX8_nowByte_21 : decode cX8_nowByte 21 = .ok (.invokevirtual 217, 3) := by decide +kernel
theorem dX8_nowByte_24 : decode cX8_nowByte 24 = .ok (.goto 9, 3) := by decide +kernel
theorem dX8_nowByte_27 : decode cX8_nowByte 27 = .ok (.aload 4, 2) := by decide +kernel
theorem dX8_nowByte_29 : decode cX8_nowByte 29 = .ok (.iload_n 3, 1) := by decide +kernel
theorem dX8_nowByte_30 : decode cX8_nowByte 30 = .ok (.invokevirtual 227, 3) := by decide +kernel
theorem dX8_nowByte_33 : decode cX8_nowByte 33 = .ok (.ireturn, 1) := by decide +kernel
theorem dX8_nowSize_0 : decode cX8_nowSize 0 = .ok (.aload_n 0, 1) := by decide +kernel
theorem dX8_nowSize_1 : decode cX8_nowSize 1 = .ok (.getfield 21, 3) := by decide +kernel
theorem dX8_nowSize_4 : decode cX8_nowSize 4 = .ok (.iload_n 1, 1) := by decide +kernel
theorem dX8_nowSize_5 : decode cX8_nowSize 5 = .ok (.invokevirtual 194, 3) := by decide +kernel
theorem dX8_nowSize_8 : decode cX8_nowSize 8 = .ok (.astore_n 3, 1) := by decide +kernel
theorem dX8_nowSize_9 : decode cX8_nowSize 9 = .ok (.aload_n 3, 1) := by decide +kernel
theorem dX8_nowSize_10 : decode cX8_nowSize 10 = .ok (.ifnonnull 10, 3) := by decide +kernel
theorem dX8_nowSize_13 : decode cX8_nowSize 13 = .ok (.aload_n 2, 1) := by decide +kernel
theorem dX8_nowSize_14 : decode cX8_nowSize 14 = .ok (.getfield 187, 3) := by decide +kernel
theorem dX8_nowSize_17 : decode cX8_nowSize 17 = .ok (.goto 7, 3) := by decide +kernel
theorem dX8_nowSize_20 : decode cX8_nowSize 20 = .ok (.aload_n 3, 1) := by decide +kernel
theorem dX8_nowSize_21 : decode cX8_nowSize 21 = .ok (.invokevirtual 63, 3) := by decide +kernel
theorem dX8_nowSize_24 : decode cX8_nowSize 24 = .ok (.ireturn, 1) := by decide +kernel
theorem dX8_octet_0 : decode cX8_octet 0 = .ok (.aload_n 0, 1) := by decide +kernel
theorem dX8_octet_1 : decode cX8_octet 1 = .ok (.iload_n 1, 1) := by decide +kernel
theorem dX8_octet_2 : decode cX8_octet 2 = .ok (.invokevirtual 175, 3) := by decide +kernel
theorem dX8_octet_5 : decode cX8_octet 5 = .ok (.astore 4, 2) := by decide +kernel
theorem dX8_octet_7 : decode cX8_octet 7 = .ok (.iload_n 3, 1) := by decide +kernel
theorem dX8_octet_8 : decode cX8_octet 8 = .ok (.ifCond .eq 14, 3) := by decide +kernel
theorem dX8_octet_11 : decode cX8_octet 11 = .ok (.aload_n 0, 1) := by decide +kernel
theorem dX8_octet_12 : decode cX8_octet 12 = .ok (.iload_n 1, 1) := by decide +kernel
theorem dX8_octet_13 : decode cX8_octet 13 = .ok (.aload 4, 2) := by decide +kernel
theorem dX8_octet_15 : decode cX8_octet 15 = .ok (.iload_n 2, 1) := by decide +kernel
theorem dX8_octet_16 : decode cX8_octet 16 = .ok (.invokevirtual 213, 3) := by decide +kernel
theorem dX8_octet_19 : decode cX8_octet 19 = .ok (.goto 13, 3) := by decide +kernel
theorem dX8_octet_22 : decode cX8_octet 22 = .ok (.aload_n 0, 1) := by decide +kernel
theorem dX8_octet_23 : decode cX8_octet 23 = .ok (.getfield 38, 3) := by decide +kernel
theorem dX8_octet_26 : decode cX8_octet 26 = .ok (.aload 4, 2) := by decide +kernel
theorem dX8_octet_28 : decode cX8_octet 28 = .ok (.iload_n 2, 1) := by decide +kernel
theorem dX8_octet_29 : decode cX8_octet 29 = .ok (.invokevirtual 217, 3) := by decide +kernel
theorem dX8_octet_32 : decode cX8_octet 32 = .ok (.ireturn, 1) := by decide +kernel
theorem dX8_origin_0 : decode cX8_origin 0 = .ok (.aload_n 0, 1) := by decide +kernel
theorem dX8_origin_1 : decode cX8_origin 1 = .ok (.iload_n 1, 1) := by decide +kernel
theorem dX8_origin_2 : decode cX8_origin 2 = .ok (.invokevirtual 175, 3) := by decide +kernel
theorem dX8_origin_5 : decode cX8_origin 5 = .ok (.astore_n 3, 1) := by decide +kernel
theorem dX8_origin_6 : decode cX8_origin 6 = .ok (.iload_n 2, 1) := by decide +kernel
theorem dX8_origin_7 : decode cX8_origin 7 = .ok (.ifCond .lt 30, 3) := by decide +kernel
theorem dX8_origin_10 : decode cX8_origin 10 = .ok (.iload_n 2, 1) := by decide +kernel
