theorem dX8_feed_33 : decode cX8_feed 33 = .ok (.aload_n 0, 1) := by decide +kernel
theorem dX8_feed_34 : decode cX8_feed 34 = .ok (.iload 4, 2) := by decide +kernel
theorem dX8_feed_36 : decode cX8_feed 36 = .ok (.invokevirtual 67, 3) := by decide +kernel
theorem dX8_feed_39 : decode cX8_feed 39 = .ok (.aload_n 0, 1) := by decide +kernel
theorem dX8_feed_40 : decode cX8_feed 40 = .ok (.iload 5, 2) := by decide +kernel
theorem dX8_feed_42 : decode cX8_feed 42 = .ok (.invokevirtual 67, 3) := by decide +kernel
theorem dX8_feed_45 : decode cX8_feed 45 = .ok (.aload_n 0, 1) := by decide +kernel
theorem dX8_feed_46 : decode cX8_feed 46 = .ok (.getfield 14, 3) := by decide +kernel
theorem dX8_feed_49 : decode cX8_feed 49 = .ok (.invokevirtual 63, 3) := by decide +kernel
theorem dX8_feed_52 : decode cX8_feed 52 = .ok (.ireturn, 1) := by decide +kernel
theorem dX8_file_0 : decode cX8_file 0 = .ok (.aload_n 0, 1) := by decide +kernel
theorem dX8_file_1 : decode cX8_file 1 = .ok (.getfield 21, 3) := by decide +kernel
theorem dX8_file_4 : decode cX8_file 4 = .ok (.aload_n 0, 1) := by decide +kernel
theorem dX8_file_5 : decode cX8_file 5 = .ok (.getfield 14, 3) := by decide +kernel
theorem dX8_file_8 : decode cX8_file 8 = .ok (.iconst 0, 1) := by decide +kernel
theorem dX8_file_9 : decode cX8_file 9 = .ok (.aload_n 0, 1) := by decide +kernel
theorem dX8_file_10 : decode cX8_file 10 = .ok (.getfield 14, 3) := by decide +kernel
theorem dX8_file_13 : decode cX8_file 13 = .ok (.invokevirtual 63, 3) := by decide +kernel
theorem dX8_file_16 : decode cX8_file 16 = .ok (.invokevirtual 126, 3) := by decide +kernel
theorem dX8_file_19 : decode cX8_file 19 = .ok (.putfield 130, 3) := by decide +kernel
theorem dX8_file_22 : decode cX8_file 22 = .ok (.aload_n 0, 1) := by decide +kernel
theorem dX8_file_23 : decode cX8_file 23 = .ok (.getfield 14, 3) := by decide +kernel
theorem dX8_file_26 : decode cX8_file 26 = .ok (.iconst 0, 1) := by decide +kernel
theorem dX8_file_27 : decode cX8_file 27 = .ok (.invokevirtual 70, 3) := by decide +kernel
theorem dX8_file_30 : decode cX8_file 30 = .ok (.aload_n 0, 1) := by decide +kernel
theorem dX8_file_31 : decode cX8_file 31 = .ok (.iconst 0, 1) := by decide +kernel
theorem dX8_file_32 : decode cX8_file 32 = .ok (.putfield 123, 3) := by decide +kernel
theorem dX8_file_35 : decode cX8_file 35 = .ok (.aload_n 0, 1) := by decide +kernel
theorem dX8_file_36 : decode cX8_file 36 = .ok (.invokevirtual 133, 3) := by decide +kernel
theorem dX8_file_39 : decode cX8_file 39 = .ok (.pop, 1) := by decide +kernel
theorem dX8_file_40 : decode cX8_file 40 = .ok (.aload_n 0, 1) := by decide +kernel
theorem dX8_file_41 : decode cX8_file 41 = .ok (.getfield 38, 3) := by decide +kernel
theorem dX8_file_44 : decode cX8_file 44 = .ok (.invokevirtual 136, 3) := by decide +kernel
theorem dX8_file_47 : decode cX8_file 47 = .ok (.ireturn, 1) := by decide +kernel
theorem dX8_finishCall_0 : decode cX8_finishCall 0 = .ok (.aload_n 0, 1) := by decide +kernel
theorem dX8_finishCall_1 : decode cX8_finishCall 1 = .ok (.iload_n 1, 1) := by decide +kernel
theorem dX8_finishCall_2 : decode cX8_finishCall 2 = .ok (.putfield 110, 3) := by decide +kernel
theorem dX8_finishCall_5 : decode cX8_finishCall 5 = .ok (.iload_n 1, 1) := by decide +kernel
theorem dX8_finishCall_6 : decode cX8_finishCall 6 = .ok (.iconst 3, 1) := by decide +kernel
theorem dX8_finishCall_7 : decode cX8_finishCall 7 = .ok (.if_icmp .ne 11, 3) := by decide +kernel
theorem dX8_finishCall_18 : decode cX8_finishCall 18 = .ok (.iload_n 1, 1) := by decide +kernel
theorem dX8_finishCall_19 : decode cX8_finishCall 19 = .ok (.ifCond .eq 14, 3) := by decide +kernel
theorem dX8_finishCall_22 : decode cX8_finishCall 22 = .ok (.new 170, 3) := by decide +kernel
theorem dX8_finishCall_25 : decode cX8_finishCall 25 = .ok (.dup, 1) := by decide +kernel
theorem dX8_finishCall_26 : decode cX8_finishCall 26 = .ok (.ldc_w 326, 3) := by decide +kernel
theorem dX8_finishCall_29 : decode cX8_finishCall 29 = .ok (.invokespecial 174, 3) := by decide +kernel
theorem dX8_finishCall_32 : decode cX8_finishCall 32 = .ok (.athrow, 1) := by decide +kernel
theorem dX8_finishCall_33 : decode cX8_finishCall 33 = .ok (.aload_n 0, 1) := by decide +kernel
theorem dX8_finishCall_34 : decode cX8_finishCall 34 = .ok (.invokevirtual 328, 3) := by decide +kernel
theorem dX8_finishCall_37 : decode cX8_finishCall 37 = .ok (.return_, 1) := by decide +kernel
theorem dX8_found_0 : decode cX8_found 0 = .ok (.aload_n 0, 1) := by decide +kernel
theorem dX8_found_1 : decode cX8_found 1 = .ok (.invokevirtual 149, 3) := by decide +kernel
theorem dX8_found_4 : decode cX8_found 4 = .ok (.astore_n 1, 1) := by decide +kernel
theorem dX8_found_5 : decode cX8_found 5 = .ok (.aload_n 1, 1) := by decide +kernel
theorem dX8_found_6 : decode cX8_found 6 = .ok (.ifnonnull 13, 3) := by decide +kernel
theorem dX8_found_9 : decode cX8_found 9 = .ok (.new 116, 3) := by decide +kernel
theorem dX8_found_12 : decode cX8_found 12 = .ok (.dup, 1) := by decide +kernel
theorem dX8_found_13 : decode cX8_found 13 = .ok (.ldc 153, 2) := by decide +kernel
theorem dX8_found_15 : decode cX8_found 15 = .ok (.invokespecial 120, 3) := by decide +kernel
theorem dX8_found_18 : decode cX8_found 18 = .ok (.athrow, 1) := by decide +kernel
theorem dX8_free_0 : decode cX8_free 0 = .ok (.aload_n 0, 1) := by decide +kernel
theorem dX8_free_1 : decode cX8_free 1 = .ok (.getfield 25, 3) := by decide +kernel
theorem dX8_free_4 : decode cX8_free 4 = .ok (.aload_n 0, 1) := by decide +kernel
theorem dX8_free_5 : decode cX8_free 5 = .ok (.getfield 21, 3) := by decide +kernel
theorem dX8_free_8 : decode cX8_free 8 = .ok (.invokevirtual 73, 3) := by decide +kernel
theorem dX8_free_11 : decode cX8_free 11 = .ok (.aload_n 0, 1) := by decide +kernel
theorem dX8_free_12 : decode cX8_free 12 = .ok (.aload_n 0, 1) := by decide +kernel
theorem dX8_free_13 : decode cX8_free 13 = .ok (.bipush 8, 2) := by decide +kernel
theorem dX8_free_15 : decode cX8_free 15 = .ok (.iload_n 1, 1) := by decide +kernel
theorem dX8_free_16 : decode cX8_free 16 = .ok (.iconst 0, 1) := by decide +kernel
theorem dX8_free_17 : decode cX8_free 17 = .ok (.aconst_null, 1) := by decide +kernel
theorem dX8_free_18 : decode cX8_free 18 = .ok (.invokevirtual 103, 3) := by decide +kernel
theorem dX8_free_21 : decode cX8_free 21 = .ok (.invokevirtual 139, 3) := by decide +kernel
theorem dX8_freePiece_0 : decode cX8_freePiece 0 = .ok (.aload_n 0, 1) := by decide +kernel
theorem dX8_freePiece_1 : decode cX8_freePiece 1 = .ok (.getfield 38, 3) := by decide +kernel
theorem dX8_freePiece_4 : decode cX8_freePiece 4 = .ok (.iload_n 1, 1) := by decide +kernel
theorem dX8_freePiece_5 : decode cX8_freePiece 5 = .ok (.invokevirtual 241, 3) := by decide +kernel
theorem dX8_freePiece_8 : decode cX8_freePiece 8 = .ok (.ifnonnull 5, 3) := by decide +kernel
theorem dX8_freePiece_11 : decode cX8_freePiece 11 = .ok (.iconst 1, 1) := by decide +kernel
theorem dX8_freePiece_12 : decode cX8_freePiece 12 = .ok (.ireturn, 1) := by decide +kernel
theorem dX8_holder_0 : decode cX8_holder 0 = .ok (.iconst 0, 1) := by decide +kernel
theorem dX8_holder_1 : decode cX8_holder 1 = .ok (.istore_n 2, 1) := by decide +kernel
theorem dX8_holder_2 : decode cX8_holder 2 = .ok (.iload_n 2, 1) := by decide +kernel
theorem dX8_holder_3 : decode cX8_holder 3 = .ok (.aload_n 0, 1) := by decide +kernel
theorem dX8_holder_4 : decode cX8_holder 4 = .ok (.getfield 38, 3) := by decide +kernel
theorem dX8_holder_7 : decode cX8_holder 7 = .ok (.invokevirtual 136, 3) := by decide +kernel
theorem dX8_holder_10 : decode cX8_holder 10 = .ok (.if_icmp .ge 40, 3) := by decide +kernel
theorem dX8_holder_50 : decode cX8_holder 50 = .ok (.iconst (-1), 1) := by decide +kernel
theorem dX8_holder_51 : decode cX8_holder 51 = .ok (.ireturn, 1) := by decide +kernel
theorem dX8_image_0 : decode cX8_image 0 = .ok (.aload_n 0, 1) := by decide +kernel
theorem dX8_image_1 : decode cX8_image 1 = .ok (.getfield 28, 3) := by decide +kernel
theorem dX8_image_4 : decode cX8_image 4 = .ok (.aload_n 0, 1) := by decide +kernel
theorem dX8_image_5 : decode cX8_image 5 = .ok (.getfield 21, 3) := by decide +kernel
theorem dX8_image_8 : decode cX8_image 8 = .ok (.invokevirtual 73, 3) := by decide +kernel
theorem dX8_image_11 : decode cX8_image 11 = .ok (.aload_n 0, 1) := by decide +kernel
theorem dX8_image_12 : decode cX8_image 12 = .ok (.iconst 1, 1) := by decide +kernel
theorem dX8_image_13 : decode cX8_image 13 = .ok (.putfield 287, 3) := by decide +kernel
theorem dX8_image_16 : decode cX8_image 16 = .ok (.return_, 1) := by decide +kernel
theorem dX8_kept_0 : decode cX8_kept 0 = .ok (.aload_n 0, 1) := by decide +kernel
theorem dX8_kept_1 : decode cX8_kept 1 = .ok (.iload_n 1, 1) := by decide +kernel
theorem dX8_kept_2 : decode cX8_kept 2 = .ok (.invokevirtual 175, 3) := by decide +kernel
theorem dX8_key_0 : decode cX8_key 0 = .ok (.aload_n 0, 1) := by decide +kernel
theorem dX8_key_1 : decode cX8_key 1 = .ok (.iload_n 1, 1) := by decide +kernel
theorem dX8_key_2 : decode cX8_key 2 = .ok (.invokevirtual 175, 3) := by decide +kernel
theorem dX8_kind_0 : decode cX8_kind 0 = .ok (.iload_n 1, 1) := by decide +kernel
theorem dX8_kind_1 : decode cX8_kind 1 = .ok (.iconst 3, 1) := by decide +kernel
theorem dX8_kind_2 : decode cX8_kind 2 = .ok (.if_icmp .gt 16, 3) := by decide +kernel
theorem dX8_kind_5 : decode cX8_kind 5 = .ok (.iload_n 1, 1) := by decide +kernel
theorem dX8_kind_6 : decode cX8_kind 6 = .ok (.iload_n 2, 1) := by decide +kernel
theorem dX8_kind_7 : decode cX8_kind 7 = .ok (.ifCond .eq 7, 3) := by decide +kernel
theorem dX8_kind_10 : decode cX8_kind 10 = .ok (.iconst (-1), 1) := by decide +kernel
theorem dX8_kind_11 : decode cX8_kind 11 = .ok (.goto 4, 3) := by decide +kernel
theorem dX8_kind_14 : decode cX8_kind 14 = .ok (.iconst 0, 1) := by decide +kernel
theorem dX8_kind_15 : decode cX8_kind 15 = .ok (.if_icmp .ge 13, 3) := by decide +kernel
theorem dX8_kind_18 : decode cX8_kind 18 = .ok (.new 116, 3) := by decide +kernel
theorem dX8_kind_21 : decode cX8_kind 21 = .ok (.dup, 1) := by decide +kernel
theorem dX8_kind_22 : decode cX8_kind 22 = .ok (.ldc 137, 2) := by decide +kernel
theorem dX8_kind_24 : decode cX8_kind 24 = .ok (.invokespecial 120, 3) := by decide +kernel
theorem dX8_kind_27 : decode cX8_kind 27 = .ok (.athrow, 1) := by decide +kernel
theorem dX8_kind_28 : decode cX8_kind 28 = .ok (.aload_n 0, 1) := by decide +kernel
theorem dX8_kind_29 : decode cX8_kind 29 = .ok (.getfield 25, 3) := by decide +kernel
theorem dX8_kind_32 : decode cX8_kind 32 = .ok (.aload_n 0, 1) := by decide +kernel
theorem dX8_kind_33 : decode cX8_kind 33 = .ok (.getfield 21, 3) := by decide +kernel
theorem dX8_kind_36 : decode cX8_kind 36 = .ok (.invokevirtual 73, 3) := by decide +kernel
theorem dX8_kind_39 : decode cX8_kind 39 = .ok (.aload_n 0, 1) := by decide +kernel
theorem dX8_kind_40 : decode cX8_kind 40 = .ok (.aload_n 0, 1) := by decide +kernel
theorem dX8_kind_41 : decode cX8_kind 41 = .ok (.iload_n 2, 1) := by decide +kernel
theorem dX8_kind_42 : decode cX8_kind 42 = .ok (.ifCond .eq 7, 3) := by decide +kernel
theorem dX8_kind_45 : decode cX8_kind 45 = .ok (.iconst 1, 1) := by decide +kernel
theorem dX8_kind_46 : decode cX8_kind 46 = .ok (.goto 4, 3) := by decide +kernel
theorem dX8_kind_49 : decode cX8_kind 49 = .ok (.iconst 0, 1) := by decide +kernel
theorem dX8_kind_50 : decode cX8_kind 50 = .ok (.iload_n 1, 1) := by decide +kernel
theorem dX8_kind_51 : decode cX8_kind 51 = .ok (.iconst 0, 1) := by decide +kernel
theorem dX8_kind_52 : decode cX8_kind 52 = .ok (.aconst_null, 1) := by decide +kernel
theorem dX8_kind_53 : decode cX8_kind 53 = .ok (.invokevirtual 103, 3) := by decide +kernel
theorem dX8_kind_56 : decode cX8_kind 56 = .ok (.invokevirtual 139, 3) := by decide +kernel
theorem dX8_kind_59 : decode cX8_kind 59 = .ok (.aload_n 0, 1) := by decide +kernel
theorem dX8_kind_60 : decode cX8_kind 60 = .ok (.getfield 38, 3) := by decide +kernel
theorem dX8_kind_63 : decode cX8_kind 63 = .ok (.invokevirtual 136, 3) := by decide +kernel
theorem dX8_kind_66 : decode cX8_kind 66 = .ok (.ireturn, 1) := by decide +kernel
theorem dX8_like_0 : decode cX8_like 0 = .ok (.aload_n 0, 1) := by decide +kernel
theorem dX8_like_1 : decode cX8_like 1 = .ok (.iload_n 1, 1) := by decide +kernel
theorem dX8_like_2 : decode cX8_like 2 = .ok (.invokevirtual 175, 3) := by decide +kernel
theorem dX8_lock_0 : decode cX8_lock 0 = .ok (.aload_n 0, 1) := by decide +kernel
theorem dX8_lock_1 : decode cX8_lock 1 = .ok (.invokevirtual 149, 3) := by decide +kernel
theorem dX8_lock_4 : decode cX8_lock 4 = .ok (.astore_n 1, 1) := by decide +kernel
theorem dX8_lock_5 : decode cX8_lock 5 = .ok (.aload_n 1, 1) := by decide +kernel
theorem dX8_lock_6 : decode cX8_lock 6 = .ok (.ifnonnull 13, 3) := by decide +kernel
theorem dX8_lock_9 : decode cX8_lock 9 = .ok (.new 116, 3) := by decide +kernel
theorem dX8_lock_12 : decode cX8_lock 12 = .ok (.dup, 1) := by decide +kernel
theorem dX8_lock_13 : decode cX8_lock 13 = .ok (.ldc 153, 2) := by decide +kernel
theorem dX8_lock_15 : decode cX8_lock 15 = .ok (.invokespecial 120, 3) := by decide +kernel
theorem dX8_lock_18 : decode cX8_lock 18 = .ok (.athrow, 1) := by decide +kernel
theorem dX8_memory_0 : decode cX8_memory 0 = .ok (.iload_n 1, 1) := by decide +kernel
theorem dX8_memory_1 : decode cX8_memory 1 = .ok (.ifCond .lt 14, 3) := by decide +kernel
theorem dX8_memory_4 : decode cX8_memory 4 = .ok (.iload_n 1, 1) := by decide +kernel
theorem dX8_memory_5 : decode cX8_memory 5 = .ok (.aload_n 0, 1) := by decide +kernel
theorem dX8_memory_6 : decode cX8_memory 6 = .ok (.getfield 21, 3) := by decide +kernel
theorem dX8_memory_9 : decode cX8_memory 9 = .ok (.getfield 258, 3) := by decide +kernel
theorem dX8_memory_12 : decode cX8_memory 12 = .ok (.if_icmp .lt 5, 3) := by decide +kernel
theorem dX8_memory_15 : decode cX8_memory 15 = .ok (.iconst (-1), 1) := by decide +kernel
theorem dX8_memory_16 : decode cX8_memory 16 = .ok (.ireturn, 1) := by decide +kernel
theorem dX8_octet_0 : decode cX8_octet 0 = .ok (.aload_n 0, 1) := by decide +kernel
theorem dX8_octet_1 : decode cX8_octet 1 = .ok (.iload_n 1, 1) := by decide +kernel
theorem dX8_octet_2 : decode cX8_octet 2 = .ok (.invokevirtual 175, 3) := by decide +kernel
theorem dX8_origin_0 : decode cX8_origin 0 = .ok (.aload_n 0, 1) := by decide +kernel
theorem dX8_origin_1 : decode cX8_origin 1 = .ok (.iload_n 1, 1) := by decide +kernel
theorem dX8_origin_2 : decode cX8_origin 2 = .ok (.invokevirtual 175, 3) := by decide +kernel
theorem dX8_piece_0 : decode cX8_piece 0 = .ok (.aload_n 0, 1) := by decide +kernel
theorem dX8_piece_1 : decode cX8_piece 1 = .ok (.iload_n 1, 1) := by decide +kernel
theorem dX8_piece_2 : decode cX8_piece 2 = .ok (.invokevirtual 175, 3) := by decide +kernel
theorem dX8_pieceOrThrow_0 : decode cX8_pieceOrThrow 0 = .ok (.aload_n 0, 1) := by decide +kernel
theorem dX8_pieceOrThrow_1 : decode cX8_pieceOrThrow 1 = .ok (.getfield 38, 3) := by decide +kernel
theorem dX8_pieceOrThrow_4 : decode cX8_pieceOrThrow 4 = .ok (.iload_n 1, 1) := by decide +kernel
theorem dX8_pieceOrThrow_5 : decode cX8_pieceOrThrow 5 = .ok (.invokevirtual 241, 3) := by decide +kernel
theorem dX8_pieceOrThrow_8 : decode cX8_pieceOrThrow 8 = .ok (.astore_n 2, 1) := by decide +kernel
theorem dX8_pieceOrThrow_9 : decode cX8_pieceOrThrow 9 = .ok (.aload_n 2, 1) := by decide +kernel
theorem dX8_pieceOrThrow_10 : decode cX8_pieceOrThrow 10 = .ok (.ifnonnull 14, 3) := by decide +kernel
theorem dX8_pieceOrThrow_13 : decode cX8_pieceOrThrow 13 = .ok (.new 321, 3) := by decide +kernel
theorem dX8_pieceOrThrow_16 : decode cX8_pieceOrThrow 16 = .ok (.dup, 1) := by decide +kernel
theorem dX8_pieceOrThrow_17 : decode cX8_pieceOrThrow 17 = .ok (.ldc_w 323, 3) := by decide +kernel
theorem dX8_pieceOrThrow_20 : decode cX8_pieceOrThrow 20 = .ok (.invokespecial 325, 3) := by decide +kernel
theorem dX8_pieceOrThrow_23 : decode cX8_pieceOrThrow 23 = .ok (.athrow, 1) := by decide +kernel
theorem dX8_rememberAhead_0 : decode cX8_rememberAhead 0 = .ok (.aload_n 0, 1) := by decide +kernel
theorem dX8_rememberAhead_1 : decode cX8_rememberAhead 1 = .ok (.getfield 123, 3) := by decide +kernel
theorem dX8_rememberAhead_4 : decode cX8_rememberAhead 4 = .ok (.aload_n 0, 1) := by decide +kernel
theorem dX8_rememberAhead_5 : decode cX8_rememberAhead 5 = .ok (.getfield 31, 3) := by decide +kernel
theorem dX8_rememberAhead_8 : decode cX8_rememberAhead 8 = .ok (.arraylength, 1) := by decide +kernel
theorem dX8_rememberAhead_9 : decode cX8_rememberAhead 9 = .ok (.if_icmp .lt 7, 3) := by decide +kernel
theorem dX8_rememberAhead_16 : decode cX8_rememberAhead 16 = .ok (.aload_n 0, 1) := by decide +kernel
theorem dX8_rememberAhead_17 : decode cX8_rememberAhead 17 = .ok (.getfield 123, 3) := by decide +kernel
theorem dX8_rememberAhead_20 : decode cX8_rememberAhead 20 = .ok (.ifCond .lt 53, 3) := by decide +kernel
theorem dX8_rememberAhead_23 : decode cX8_rememberAhead 23 = .ok (.aload_n 0, 1) := by decide +kernel
theorem dX8_rememberAhead_24 : decode cX8_rememberAhead 24 = .ok (.getfield 123, 3) := by decide +kernel
theorem dX8_rememberAhead_27 : decode cX8_rememberAhead 27 = .ok (.aload_n 0, 1) := by decide +kernel
theorem dX8_rememberAhead_28 : decode cX8_rememberAhead 28 = .ok (.getfield 31, 3) := by decide +kernel
theorem dX8_rememberAhead_31 : decode cX8_rememberAhead 31 = .ok (.arraylength, 1) := by decide +kernel
theorem dX8_rememberAhead_32 : decode cX8_rememberAhead 32 = .ok (.if_icmp .ge 41, 3) := by decide +kernel
theorem dX8_rememberAhead_35 : decode cX8_rememberAhead 35 = .ok (.aload_n 0, 1) := by decide +kernel
theorem dX8_rememberAhead_36 : decode cX8_rememberAhead 36 = .ok (.getfield 31, 3) := by decide +kernel
theorem dX8_rememberAhead_39 : decode cX8_rememberAhead 39 = .ok (.aload_n 0, 1) := by decide +kernel
theorem dX8_rememberAhead_40 : decode cX8_rememberAhead 40 = .ok (.getfield 123, 3) := by decide +kernel
theorem dX8_rememberAhead_43 : decode cX8_rememberAhead 43 = .ok (.aaload, 1) := by decide +kernel
theorem dX8_rememberAhead_44 : decode cX8_rememberAhead 44 = .ok (.ifnull 29, 3) := by decide +kernel
theorem dX8_rememberAhead_47 : decode cX8_rememberAhead 47 = .ok (.aload_n 0, 1) := by decide +kernel
theorem dX8_rememberAhead_48 : decode cX8_rememberAhead 48 = .ok (.getfield 31, 3) := by decide +kernel
theorem dX8_rememberAhead_51 : decode cX8_rememberAhead 51 = .ok (.aload_n 0, 1) := by decide +kernel
theorem dX8_rememberAhead_52 : decode cX8_rememberAhead 52 = .ok (.getfield 123, 3) := by decide +kernel
theorem dX8_rememberAhead_55 : decode cX8_rememberAhead 55 = .ok (.aaload, 1) := by decide +kernel
theorem dX8_rememberAhead_56 : decode cX8_rememberAhead 56 = .ok (.aload_n 0, 1) := by decide +kernel
theorem dX8_rememberAhead_57 : decode cX8_rememberAhead 57 = .ok (.getfield 25, 3) := by decide +kernel
theorem dX8_rememberAhead_60 : decode cX8_rememberAhead 60 = .ok (.invokevirtual 73, 3) := by decide +kernel
theorem dX8_rememberAhead_63 : decode cX8_rememberAhead 63 = .ok (.aload_n 0, 1) := by decide +kernel
theorem dX8_rememberAhead_64 : decode cX8_rememberAhead 64 = .ok (.dup, 1) := by decide +kernel
theorem dX8_rememberAhead_65 : decode cX8_rememberAhead 65 = .ok (.getfield 123, 3) := by decide +kernel
theorem dX8_rememberAhead_68 : decode cX8_rememberAhead 68 = .ok (.iconst 1, 1) := by decide +kernel
theorem dX8_rememberAhead_69 : decode cX8_rememberAhead 69 = .ok (.iadd, 1) := by decide +kernel
theorem dX8_rememberAhead_70 : decode cX8_rememberAhead 70 = .ok (.putfield 123, 3) := by decide +kernel
theorem dX8_rememberAhead_73 : decode cX8_rememberAhead 73 = .ok (.return_, 1) := by decide +kernel
theorem dX8_rule_0 : decode cX8_rule 0 = .ok (.iload_n 1, 1) := by decide +kernel
theorem dX8_rule_1 : decode cX8_rule 1 = .ok (.ifCond .eq 18, 3) := by decide +kernel
theorem dX8_rule_4 : decode cX8_rule 4 = .ok (.iload_n 1, 1) := by decide +kernel
theorem dX8_rule_5 : decode cX8_rule 5 = .ok (.iconst 1, 1) := by decide +kernel
theorem dX8_rule_6 : decode cX8_rule 6 = .ok (.if_icmp .eq 13, 3) := by decide +kernel
theorem dX8_rule_9 : decode cX8_rule 9 = .ok (.new 142, 3) := by decide +kernel
theorem dX8_rule_12 : decode cX8_rule 12 = .ok (.dup, 1) := by decide +kernel
theorem dX8_rule_13 : decode cX8_rule 13 = .ok (.ldc 144, 2) := by decide +kernel
theorem dX8_rule_15 : decode cX8_rule 15 = .ok (.invokespecial 146, 3) := by decide +kernel
theorem dX8_rule_18 : decode cX8_rule 18 = .ok (.athrow, 1) := by decide +kernel
theorem dX8_rule_19 : decode cX8_rule 19 = .ok (.iload_n 1, 1) := by decide +kernel
theorem dX8_rule_20 : decode cX8_rule 20 = .ok (.ifCond .ne 15, 3) := by decide +kernel
theorem dX8_rule_23 : decode cX8_rule 23 = .ok (.iload_n 2, 1) := by decide +kernel
theorem dX8_rule_24 : decode cX8_rule 24 = .ok (.ifCond .lt 22, 3) := by decide +kernel
theorem dX8_rule_27 : decode cX8_rule 27 = .ok (.iload_n 2, 1) := by decide +kernel
theorem dX8_rule_28 : decode cX8_rule 28 = .ok (.iconst 1, 1) := by decide +kernel
theorem dX8_rule_29 : decode cX8_rule 29 = .ok (.if_icmp .le 27, 3) := by decide +kernel
theorem dX8_rule_32 : decode cX8_rule 32 = .ok (.goto 14, 3) := by decide +kernel
theorem dX8_rule_35 : decode cX8_rule 35 = .ok (.iload_n 2, 1) := by decide +kernel
theorem dX8_rule_36 : decode cX8_rule 36 = .ok (.iconst 1, 1) := by decide +kernel
theorem dX8_rule_37 : decode cX8_rule 37 = .ok (.if_icmp .lt 9, 3) := by decide +kernel
theorem dX8_rule_40 : decode cX8_rule 40 = .ok (.iload_n 2, 1) := by decide +kernel
theorem dX8_rule_41 : decode cX8_rule 41 = .ok (.bipush 40, 2) := by decide +kernel
theorem dX8_rule_43 : decode cX8_rule 43 = .ok (.if_icmp .le 13, 3) := by decide +kernel
theorem dX8_rule_46 : decode cX8_rule 46 = .ok (.new 116, 3) := by decide +kernel
theorem dX8_rule_49 : decode cX8_rule 49 = .ok (.dup, 1) := by decide +kernel
theorem dX8_rule_50 : decode cX8_rule 50 = .ok (.ldc 147, 2) := by decide +kernel
theorem dX8_rule_52 : decode cX8_rule 52 = .ok (.invokespecial 120, 3) := by decide +kernel
theorem dX8_rule_55 : decode cX8_rule 55 = .ok (.athrow, 1) := by decide +kernel
theorem dX8_rule_56 : decode cX8_rule 56 = .ok (.aload_n 0, 1) := by decide +kernel
theorem dX8_rule_57 : decode cX8_rule 57 = .ok (.getfield 25, 3) := by decide +kernel
theorem dX8_rule_60 : decode cX8_rule 60 = .ok (.aload_n 0, 1) := by decide +kernel
theorem dX8_rule_61 : decode cX8_rule 61 = .ok (.getfield 21, 3) := by decide +kernel
theorem dX8_rule_64 : decode cX8_rule 64 = .ok (.invokevirtual 73, 3) := by decide +kernel
theorem dX8_rule_67 : decode cX8_rule 67 = .ok (.iload_n 1, 1) := by decide +kernel
theorem dX8_rule_68 : decode cX8_rule 68 = .ok (.ifCond .ne 27, 3) := by decide +kernel
theorem dX8_rule_71 : decode cX8_rule 71 = .ok (.aload_n 0, 1) := by decide +kernel
theorem dX8_rule_72 : decode cX8_rule 72 = .ok (.aload_n 0, 1) := by decide +kernel
theorem dX8_rule_73 : decode cX8_rule 73 = .ok (.iload_n 2, 1) := by decide +kernel
theorem dX8_rule_74 : decode cX8_rule 74 = .ok (.iconst 1, 1) := by decide +kernel
theorem dX8_rule_75 : decode cX8_rule 75 = .ok (.if_icmp .ne 7, 3) := by decide +kernel
theorem dX8_rule_78 : decode cX8_rule 78 = .ok (.iconst 3, 1) := by decide +kernel
theorem dX8_rule_79 : decode cX8_rule 79 = .ok (.goto 4, 3) := by decide +kernel
theorem dX8_rule_82 : decode cX8_rule 82 = .ok (.iconst 4, 1) := by decide +kernel
theorem dX8_rule_83 : decode cX8_rule 83 = .ok (.iconst 0, 1) := by decide +kernel
theorem dX8_rule_84 : decode cX8_rule 84 = .ok (.iconst 0, 1) := by decide +kernel
theorem dX8_rule_85 : decode cX8_rule 85 = .ok (.aconst_null, 1) := by decide +kernel
theorem dX8_rule_86 : decode cX8_rule 86 = .ok (.invokevirtual 103, 3) := by decide +kernel
theorem dX8_rule_89 : decode cX8_rule 89 = .ok (.invokevirtual 139, 3) := by decide +kernel
theorem dX8_rule_92 : decode cX8_rule 92 = .ok (.goto 15, 3) := by decide +kernel
theorem dX8_rule_95 : decode cX8_rule 95 = .ok (.aload_n 0, 1) := by decide +kernel
theorem dX8_rule_96 : decode cX8_rule 96 = .ok (.aload_n 0, 1) := by decide +kernel
theorem dX8_rule_97 : decode cX8_rule 97 = .ok (.iconst 5, 1) := by decide +kernel
theorem dX8_rule_98 : decode cX8_rule 98 = .ok (.iload_n 2, 1) := by decide +kernel
theorem dX8_rule_99 : decode cX8_rule 99 = .ok (.iconst 0, 1) := by decide +kernel
theorem dX8_rule_100 : decode cX8_rule 100 = .ok (.aconst_null, 1) := by decide +kernel
theorem dX8_rule_101 : decode cX8_rule 101 = .ok (.invokevirtual 103, 3) := by decide +kernel
theorem dX8_rule_104 : decode cX8_rule 104 = .ok (.invokevirtual 139, 3) := by decide +kernel
theorem dX8_rule_107 : decode cX8_rule 107 = .ok (.aload_n 0, 1) := by decide +kernel
theorem dX8_rule_108 : decode cX8_rule 108 = .ok (.getfield 38, 3) := by decide +kernel
theorem dX8_rule_111 : decode cX8_rule 111 = .ok (.invokevirtual 136, 3) := by decide +kernel
theorem dX8_rule_114 : decode cX8_rule 114 = .ok (.ireturn, 1) := by decide +kernel
theorem dX8_spread_0 : decode cX8_spread 0 = .ok (.aload_n 0, 1) := by decide +kernel
theorem dX8_spread_1 : decode cX8_spread 1 = .ok (.getfield 25, 3) := by decide +kernel
theorem dX8_spread_4 : decode cX8_spread 4 = .ok (.aload_n 0, 1) := by decide +kernel
theorem dX8_spread_5 : decode cX8_spread 5 = .ok (.getfield 21, 3) := by decide +kernel
theorem dX8_spread_8 : decode cX8_spread 8 = .ok (.invokevirtual 73, 3) := by decide +kernel
theorem dX8_spread_11 : decode cX8_spread 11 = .ok (.aload_n 0, 1) := by decide +kernel
theorem dX8_spread_12 : decode cX8_spread 12 = .ok (.aload_n 0, 1) := by decide +kernel
theorem dX8_spread_13 : decode cX8_spread 13 = .ok (.bipush 9, 2) := by decide +kernel
theorem dX8_spread_15 : decode cX8_spread 15 = .ok (.iload_n 1, 1) := by decide +kernel
theorem dX8_spread_16 : decode cX8_spread 16 = .ok (.iconst 0, 1) := by decide +kernel
theorem dX8_spread_17 : decode cX8_spread 17 = .ok (.aconst_null, 1) := by decide +kernel
theorem dX8_spread_18 : decode cX8_spread 18 = .ok (.invokevirtual 103, 3) := by decide +kernel
theorem dX8_spread_21 : decode cX8_spread 21 = .ok (.invokevirtual 139, 3) := by decide +kernel
theorem dX8_spreadPiece_0 : decode cX8_spreadPiece 0 = .ok (.aload_n 0, 1) := by decide +kernel
theorem dX8_spreadPiece_1 : decode cX8_spreadPiece 1 = .ok (.getfield 38, 3) := by decide +kernel
theorem dX8_spreadPiece_4 : decode cX8_spreadPiece 4 = .ok (.iload_n 1, 1) := by decide +kernel
theorem dX8_spreadPiece_5 : decode cX8_spreadPiece 5 = .ok (.invokevirtual 241, 3) := by decide +kernel
theorem dX8_spreadPiece_8 : decode cX8_spreadPiece 8 = .ok (.ifnonnull 5, 3) := by decide +kernel
theorem dX8_spreadPiece_11 : decode cX8_spreadPiece 11 = .ok (.iconst 1, 1) := by decide +kernel
theorem dX8_spreadPiece_12 : decode cX8_spreadPiece 12 = .ok (.ireturn, 1) := by decide +kernel
theorem dX8_swap_0 : decode cX8_swap 0 = .ok (.aload_n 0, 1) := by decide +kernel
theorem dX8_swap_1 : decode cX8_swap 1 = .ok (.getfield 25, 3) := by decide +kernel
theorem dX8_swap_4 : decode cX8_swap 4 = .ok (.aload_n 0, 1) := by decide +kernel
theorem dX8_swap_5 : decode cX8_swap 5 = .ok (.getfield 21, 3) := by decide +kernel
theorem dX8_swap_8 : decode cX8_swap 8 = .ok (.invokevirtual 73, 3) := by decide +kernel
theorem dX8_swap_11 : decode cX8_swap 11 = .ok (.aload_n 0, 1) := by decide +kernel
theorem dX8_swap_12 : decode cX8_swap 12 = .ok (.aload_n 0, 1) := by decide +kernel
theorem dX8_swap_13 : decode cX8_swap 13 = .ok (.bipush 10, 2) := by decide +kernel
theorem dX8_swap_15 : decode cX8_swap 15 = .ok (.iload_n 1, 1) := by decide +kernel
theorem dX8_swap_16 : decode cX8_swap 16 = .ok (.iload_n 2, 1) := by decide +kernel
theorem dX8_swap_17 : decode cX8_swap 17 = .ok (.aconst_null, 1) := by decide +kernel
theorem dX8_swap_18 : decode cX8_swap 18 = .ok (.invokevirtual 103, 3) := by decide +kernel
theorem dX8_swap_21 : decode cX8_swap 21 = .ok (.invokevirtual 139, 3) := by decide +kernel
theorem dX8_swapPieces_0 : decode cX8_swapPieces 0 = .ok (.aload_n 0, 1) := by decide +kernel
theorem dX8_swapPieces_1 : decode cX8_swapPieces 1 = .ok (.getfield 38, 3) := by decide +kernel
theorem dX8_swapPieces_4 : decode cX8_swapPieces 4 = .ok (.iload_n 1, 1) := by decide +kernel
theorem dX8_swapPieces_5 : decode cX8_swapPieces 5 = .ok (.invokevirtual 241, 3) := by decide +kernel
theorem dX8_swapPieces_8 : decode cX8_swapPieces 8 = .ok (.astore_n 3, 1) := by decide +kernel
theorem dX8_swapPieces_9 : decode cX8_swapPieces 9 = .ok (.aload_n 0, 1) := by decide +kernel
theorem dX8_swapPieces_10 : decode cX8_swapPieces 10 = .ok (.getfield 38, 3) := by decide +kernel
theorem dX8_swapPieces_13 : decode cX8_swapPieces 13 = .ok (.iload_n 2, 1) := by decide +kernel
theorem dX8_swapPieces_14 : decode cX8_swapPieces 14 = .ok (.invokevirtual 241, 3) := by decide +kernel
theorem dX8_swapPieces_17 : decode cX8_swapPieces 17 = .ok (.astore 4, 2) := by decide +kernel
theorem dX8_swapPieces_19 : decode cX8_swapPieces 19 = .ok (.aload_n 3, 1) := by decide +kernel
theorem dX8_swapPieces_20 : decode cX8_swapPieces 20 = .ok (.ifnull 8, 3) := by decide +kernel
theorem dX8_swapPieces_28 : decode cX8_swapPieces 28 = .ok (.iconst 1, 1) := by decide +kernel
theorem dX8_swapPieces_29 : decode cX8_swapPieces 29 = .ok (.ireturn, 1) := by decide +kernel
theorem dX8_takeTold_0 : decode cX8_takeTold 0 = .ok (.aload_n 0, 1) := by decide +kernel
theorem dX8_takeTold_1 : decode cX8_takeTold 1 = .ok (.getfield 14, 3) := by decide +kernel
theorem dX8_takeTold_4 : decode cX8_takeTold 4 = .ok (.invokevirtual 63, 3) := by decide +kernel
theorem dX8_takeTold_7 : decode cX8_takeTold 7 = .ok (.bipush 60, 2) := by decide +kernel
theorem dX8_takeTold_9 : decode cX8_takeTold 9 = .ok (.if_icmp .le 7, 3) := by decide +kernel
theorem dX8_takeTold_16 : decode cX8_takeTold 16 = .ok (.aload_n 0, 1) := by decide +kernel
theorem dX8_takeTold_17 : decode cX8_takeTold 17 = .ok (.getfield 14, 3) := by decide +kernel
theorem dX8_takeTold_20 : decode cX8_takeTold 20 = .ok (.iconst 0, 1) := by decide +kernel
theorem dX8_takeTold_21 : decode cX8_takeTold 21 = .ok (.aload_n 0, 1) := by decide +kernel
theorem dX8_takeTold_22 : decode cX8_takeTold 22 = .ok (.getfield 14, 3) := by decide +kernel
theorem dX8_takeTold_25 : decode cX8_takeTold 25 = .ok (.invokevirtual 63, 3) := by decide +kernel
theorem dX8_takeTold_28 : decode cX8_takeTold 28 = .ok (.invokevirtual 126, 3) := by decide +kernel
theorem dX8_takeTold_31 : decode cX8_takeTold 31 = .ok (.astore_n 1, 1) := by decide +kernel
theorem dX8_takeTold_32 : decode cX8_takeTold 32 = .ok (.aload_n 0, 1) := by decide +kernel
theorem dX8_takeTold_33 : decode cX8_takeTold 33 = .ok (.getfield 14, 3) := by decide +kernel
theorem dX8_takeTold_36 : decode cX8_takeTold 36 = .ok (.iconst 0, 1) := by decide +kernel
theorem dX8_takeTold_37 : decode cX8_takeTold 37 = .ok (.invokevirtual 70, 3) := by decide +kernel
theorem dX8_takeTold_40 : decode cX8_takeTold 40 = .ok (.aload_n 1, 1) := by decide +kernel
theorem dX8_takeTold_41 : decode cX8_takeTold 41 = .ok (.areturn, 1) := by decide +kernel
theorem dX8_takeWord_0 : decode cX8_takeWord 0 = .ok (.aload_n 0, 1) := by decide +kernel
theorem dX8_takeWord_1 : decode cX8_takeWord 1 = .ok (.getfield 14, 3) := by decide +kernel
theorem dX8_takeWord_4 : decode cX8_takeWord 4 = .ok (.invokevirtual 317, 3) := by decide +kernel
theorem dX8_takeWord_7 : decode cX8_takeWord 7 = .ok (.ifCond .eq 21, 3) := by decide +kernel
theorem dX8_takeWord_28 : decode cX8_takeWord 28 = .ok (.aconst_null, 1) := by decide +kernel
theorem dX8_takeWord_29 : decode cX8_takeWord 29 = .ok (.astore_n 1, 1) := by decide +kernel
theorem dX8_takeWord_30 : decode cX8_takeWord 30 = .ok (.aload_n 0, 1) := by decide +kernel
theorem dX8_takeWord_31 : decode cX8_takeWord 31 = .ok (.getfield 14, 3) := by decide +kernel
theorem dX8_takeWord_34 : decode cX8_takeWord 34 = .ok (.iconst 0, 1) := by decide +kernel
theorem dX8_takeWord_35 : decode cX8_takeWord 35 = .ok (.invokevirtual 70, 3) := by decide +kernel
theorem dX8_takeWord_38 : decode cX8_takeWord 38 = .ok (.aload_n 1, 1) := by decide +kernel
theorem dX8_takeWord_39 : decode cX8_takeWord 39 = .ok (.areturn, 1) := by decide +kernel
theorem dX8_tell_0 : decode cX8_tell 0 = .ok (.aload_n 0, 1) := by decide +kernel
theorem dX8_tell_1 : decode cX8_tell 1 = .ok (.invokevirtual 155, 3) := by decide +kernel
theorem dX8_tell_4 : decode cX8_tell 4 = .ok (.astore_n 2, 1) := by decide +kernel
theorem dX8_tell_5 : decode cX8_tell 5 = .ok (.aload_n 2, 1) := by decide +kernel
theorem dX8_tell_6 : decode cX8_tell 6 = .ok (.ifnonnull 13, 3) := by decide +kernel
theorem dX8_tell_19 : decode cX8_tell 19 = .ok (.aload_n 0, 1) := by decide +kernel
theorem dX8_tell_20 : decode cX8_tell 20 = .ok (.getfield 25, 3) := by decide +kernel
theorem dX8_tell_23 : decode cX8_tell 23 = .ok (.aload_n 0, 1) := by decide +kernel
theorem dX8_tell_24 : decode cX8_tell 24 = .ok (.getfield 21, 3) := by decide +kernel
theorem dX8_tell_27 : decode cX8_tell 27 = .ok (.invokevirtual 73, 3) := by decide +kernel
theorem dX8_tell_30 : decode cX8_tell 30 = .ok (.aload_n 0, 1) := by decide +kernel
theorem dX8_tell_31 : decode cX8_tell 31 = .ok (.aload_n 0, 1) := by decide +kernel
theorem dX8_tell_32 : decode cX8_tell 32 = .ok (.bipush 12, 2) := by decide +kernel
theorem dX8_tell_34 : decode cX8_tell 34 = .ok (.iload_n 1, 1) := by decide +kernel
theorem dX8_tell_35 : decode cX8_tell 35 = .ok (.iconst 0, 1) := by decide +kernel
theorem dX8_tell_36 : decode cX8_tell 36 = .ok (.aload_n 2, 1) := by decide +kernel
theorem dX8_tell_37 : decode cX8_tell 37 = .ok (.invokevirtual 103, 3) := by decide +kernel
theorem dX8_tell_40 : decode cX8_tell 40 = .ok (.invokevirtual 139, 3) := by decide +kernel
theorem dX8_tellPiece_0 : decode cX8_tellPiece 0 = .ok (.aload_n 0, 1) := by decide +kernel
theorem dX8_tellPiece_1 : decode cX8_tellPiece 1 = .ok (.getfield 38, 3) := by decide +kernel
theorem dX8_tellPiece_4 : decode cX8_tellPiece 4 = .ok (.iload_n 1, 1) := by decide +kernel
theorem dX8_tellPiece_5 : decode cX8_tellPiece 5 = .ok (.invokevirtual 241, 3) := by decide +kernel
theorem dX8_tellPiece_8 : decode cX8_tellPiece 8 = .ok (.astore_n 3, 1) := by decide +kernel
theorem dX8_tellPiece_9 : decode cX8_tellPiece 9 = .ok (.aload_n 3, 1) := by decide +kernel
theorem dX8_tellPiece_10 : decode cX8_tellPiece 10 = .ok (.ifnull 7, 3) := by decide +kernel
theorem dX8_tellPiece_17 : decode cX8_tellPiece 17 = .ok (.iconst 1, 1) := by decide +kernel
theorem dX8_tellPiece_18 : decode cX8_tellPiece 18 = .ok (.ireturn, 1) := by decide +kernel
theorem dX8_twice_0 : decode cX8_twice 0 = .ok (.aload_n 0, 1) := by decide +kernel
theorem dX8_twice_1 : decode cX8_twice 1 = .ok (.invokevirtual 276, 3) := by decide +kernel
theorem dX8_twice_4 : decode cX8_twice 4 = .ok (.aload_n 0, 1) := by decide +kernel
theorem dX8_twice_5 : decode cX8_twice 5 = .ok (.getfield 42, 3) := by decide +kernel
theorem dX8_twice_8 : decode cX8_twice 8 = .ok (.invokevirtual 136, 3) := by decide +kernel
theorem dX8_twice_11 : decode cX8_twice 11 = .ok (.aload_n 0, 1) := by decide +kernel
theorem dX8_twice_12 : decode cX8_twice 12 = .ok (.getfield 38, 3) := by decide +kernel
theorem dX8_twice_15 : decode cX8_twice 15 = .ok (.invokevirtual 136, 3) := by decide +kernel
theorem dX8_twice_18 : decode cX8_twice 18 = .ok (.if_icmp .eq 5, 3) := by decide +kernel
theorem dX8_twice_23 : decode cX8_twice 23 = .ok (.iconst 0, 1) := by decide +kernel
theorem dX8_twice_24 : decode cX8_twice 24 = .ok (.istore_n 1, 1) := by decide +kernel
theorem dX8_twice_25 : decode cX8_twice 25 = .ok (.iload_n 1, 1) := by decide +kernel
theorem dX8_twice_26 : decode cX8_twice 26 = .ok (.aload_n 0, 1) := by decide +kernel
theorem dX8_twice_27 : decode cX8_twice 27 = .ok (.getfield 38, 3) := by decide +kernel
