theorem dX8_origin_11 : decode cX8_origin 11 = .ok (.aload_n 3, 1) := by decide +kernel
theorem dX8_origin_12 : decode cX8_origin 12 = .ok (.getfield 187, 3) := by decide +kernel
theorem dX8_origin_15 : decode cX8_origin 15 = .ok (.if_icmp .ge 22, 3) := by decide +kernel
theorem dX8_origin_18 : decode cX8_origin 18 = .ok (.aload_n 0, 1) := by decide +kernel
theorem dX8_origin_19 : decode cX8_origin 19 = .ok (.getfield 38, 3) := by decide +kernel
theorem dX8_origin_22 : decode cX8_origin 22 = .ok (.getfield 221, 3) := by decide +kernel
theorem dX8_origin_25 : decode cX8_origin 25 = .ok (.aload_n 3, 1) := by decide +kernel
theorem dX8_origin_26 : decode cX8_origin 26 = .ok (.getfield 224, 3) := by decide +kernel
theorem dX8_origin_29 : decode cX8_origin 29 = .ok (.iload_n 2, 1) := by decide +kernel
theorem dX8_origin_30 : decode cX8_origin 30 = .ok (.iadd, 1) := by decide +kernel
theorem dX8_origin_31 : decode cX8_origin 31 = .ok (.invokevirtual 227, 3) := by decide +kernel
theorem dX8_origin_34 : decode cX8_origin 34 = .ok (.goto 4, 3) := by decide +kernel
theorem dX8_origin_37 : decode cX8_origin 37 = .ok (.iconst (-1), 1) := by decide +kernel
theorem dX8_origin_38 : decode cX8_origin 38 = .ok (.ireturn, 1) := by decide +kernel
theorem dX8_piece_0 : decode cX8_piece 0 = .ok (.aload_n 0, 1) := by decide +kernel
theorem dX8_piece_1 : decode cX8_piece 1 = .ok (.iload_n 1, 1) := by decide +kernel
theorem dX8_piece_2 : decode cX8_piece 2 = .ok (.invokevirtual 175, 3) := by decide +kernel
theorem dX8_piece_5 : decode cX8_piece 5 = .ok (.astore_n 3, 1) := by decide +kernel
theorem dX8_piece_6 : decode cX8_piece 6 = .ok (.iload_n 2, 1) := by decide +kernel
theorem dX8_piece_7 : decode cX8_piece 7 = .ok (.tableswitch 124 0 9 #[53, 58, 63, 68, 75, 92, 101, 108, 114, 119], 53) := by decide +kernel
theorem dX8_piece_60 : decode cX8_piece 60 = .ok (.aload_n 3, 1) := by decide +kernel
theorem dX8_piece_61 : decode cX8_piece 61 = .ok (.getfield 179, 3) := by decide +kernel
theorem dX8_piece_64 : decode cX8_piece 64 = .ok (.ireturn, 1) := by decide +kernel
theorem dX8_piece_65 : decode cX8_piece 65 = .ok (.aload_n 3, 1) := by decide +kernel
theorem dX8_piece_66 : decode cX8_piece 66 = .ok (.getfield 184, 3) := by decide +kernel
theorem dX8_piece_69 : decode cX8_piece 69 = .ok (.ireturn, 1) := by decide +kernel
theorem dX8_piece_70 : decode cX8_piece 70 = .ok (.aload_n 3, 1) := by decide +kernel
theorem dX8_piece_71 : decode cX8_piece 71 = .ok (.getfield 187, 3) := by decide +kernel
theorem dX8_piece_74 : decode cX8_piece 74 = .ok (.ireturn, 1) := by decide +kernel
theorem dX8_piece_75 : decode cX8_piece 75 = .ok (.aload_n 0, 1) := by decide +kernel
theorem dX8_piece_76 : decode cX8_piece 76 = .ok (.iload_n 1, 1) := by decide +kernel
theorem dX8_piece_77 : decode cX8_piece 77 = .ok (.aload_n 3, 1) := by decide +kernel
theorem dX8_piece_78 : decode cX8_piece 78 = .ok (.invokevirtual 190, 3) := by decide +kernel
theorem dX8_piece_81 : decode cX8_piece 81 = .ok (.ireturn, 1) := by decide +kernel
theorem dX8_piece_82 : decode cX8_piece 82 = .ok (.aload_n 0, 1) := by decide +kernel
theorem dX8_piece_83 : decode cX8_piece 83 = .ok (.getfield 21, 3) := by decide +kernel
theorem dX8_piece_86 : decode cX8_piece 86 = .ok (.iload_n 1, 1) := by decide +kernel
theorem dX8_piece_87 : decode cX8_piece 87 = .ok (.invokevirtual 194, 3) := by decide +kernel
theorem dX8_piece_90 : decode cX8_piece 90 = .ok (.ifnonnull 7, 3) := by decide +kernel
theorem dX8_piece_93 : decode cX8_piece 93 = .ok (.iconst 0, 1) := by decide +kernel
theorem dX8_piece_94 : decode cX8_piece 94 = .ok (.goto 4, 3) := by decide +kernel
theorem dX8_piece_97 : decode cX8_piece 97 = .ok (.iconst 1, 1) := by decide +kernel
theorem dX8_piece_98 : decode cX8_piece 98 = .ok (.ireturn, 1) := by decide +kernel
theorem dX8_piece_99 : decode cX8_piece 99 = .ok (.aload_n 0, 1) := by decide +kernel
theorem dX8_piece_100 : decode cX8_piece 100 = .ok (.getfield 38, 3) := by decide +kernel
theorem dX8_piece_103 : decode cX8_piece 103 = .ok (.iload_n 1, 1) := by decide +kernel
theorem dX8_piece_104 : decode cX8_piece 104 = .ok (.invokevirtual 163, 3) := by decide +kernel
theorem dX8_piece_107 : decode cX8_piece 107 = .ok (.ireturn, 1) := by decide +kernel
theorem dX8_piece_108 : decode cX8_piece 108 = .ok (.aload_n 0, 1) := by decide +kernel
theorem dX8_piece_109 : decode cX8_piece 109 = .ok (.iload_n 1, 1) := by decide +kernel
theorem dX8_piece_110 : decode cX8_piece 110 = .ok (.aload_n 3, 1) := by decide +kernel
theorem dX8_piece_111 : decode cX8_piece 111 = .ok (.invokevirtual 198, 3) := by decide +kernel
theorem dX8_piece_114 : decode cX8_piece 114 = .ok (.ireturn, 1) := by decide +kernel
theorem dX8_piece_115 : decode cX8_piece 115 = .ok (.aload_n 0, 1) := by decide +kernel
theorem dX8_piece_116 : decode cX8_piece 116 = .ok (.aload_n 3, 1) := by decide +kernel
theorem dX8_piece_117 : decode cX8_piece 117 = .ok (.invokevirtual 201, 3) := by decide +kernel
theorem dX8_piece_120 : decode cX8_piece 120 = .ok (.ireturn, 1) := by decide +kernel
theorem dX8_piece_121 : decode cX8_piece 121 = .ok (.aload_n 3, 1) := by decide +kernel
theorem dX8_piece_122 : decode cX8_piece 122 = .ok (.getfield 205, 3) := by decide +kernel
theorem dX8_piece_125 : decode cX8_piece 125 = .ok (.ireturn, 1) := by decide +kernel
theorem dX8_piece_126 : decode cX8_piece 126 = .ok (.aload_n 3, 1) := by decide +kernel
theorem dX8_piece_127 : decode cX8_piece 127 = .ok (.getfield 208, 3) := by decide +kernel
theorem dX8_piece_130 : decode cX8_piece 130 = .ok (.ireturn, 1) := by decide +kernel
theorem dX8_piece_131 : decode cX8_piece 131 = .ok (.new 142, 3) := by decide +kernel
theorem dX8_piece_134 : decode cX8_piece 134 = .ok (.dup, 1) := by decide +kernel
theorem dX8_piece_135 : decode cX8_piece 135 = .ok (.ldc 211, 2) := by decide +kernel
theorem dX8_piece_137 : decode cX8_piece 137 = .ok (.invokespecial 146, 3) := by decide +kernel
theorem dX8_piece_140 : decode cX8_piece 140 = .ok (.athrow, 1) := by decide +kernel
theorem dX8_pieceOrThrow_0 : decode cX8_pieceOrThrow 0 = .ok (.aload_n 0, 1) := by decide +kernel
theorem dX8_pieceOrThrow_1 : decode cX8_pieceOrThrow 1 = .ok (.getfield 38, 3) := by decide +kernel
theorem dX8_pieceOrThrow_4 : decode cX8_pieceOrThrow 4 = .ok (.iload_n 1, 1) := by decide +kernel
theorem dX8_pieceOrThrow_5 : decode cX8_pieceOrThrow 5 = .ok (.invokevirtual 241, 3) := by decide +kernel
theorem dX8_pieceOrThrow_8 : decode cX8_pieceOrThrow 8 = .ok (.astore_n 2, 1) := by decide +kernel
theorem dX8_pieceOrThrow_9 : decode cX8_pieceOrThrow 9 = .ok (.aload_n 2, 1) := by decide +kernel
theorem dX8_pieceOrThrow_10 : decode cX8_pieceOrThrow 10 = .ok (.ifnonnull 14, 3) := by decide +kernel
theorem dX8_pieceOrThrow_13 : decode cX8_pieceOrThrow 13 = .ok (.new 321, 3) := by decide +kernel
theorem dX8_pieceOrThrow_16 : decode cX8_pieceOrThrow 16 = .ok (.dup, 1) := by decide +kernel
theorem dX8_pieceOrThrow_17 : decode cX8_pieceOrThrow 17 = .ok (.ldc_w 323, 3) := by decide +kernel
theorem dX8_pieceOrThrow_20 : decode cX8_pieceOrThrow 20 = .ok (.invokespecial 325, 3) := by decide +kernel
theorem dX8_pieceOrThrow_23 : decode cX8_pieceOrThrow 23 = .ok (.athrow, 1) := by decide +kernel
theorem dX8_pieceOrThrow_24 : decode cX8_pieceOrThrow 24 = .ok (.aload_n 2, 1) := by decide +kernel
theorem dX8_pieceOrThrow_25 : decode cX8_pieceOrThrow 25 = .ok (.areturn, 1) := by decide +kernel
theorem dX8_rememberAhead_0 : decode cX8_rememberAhead 0 = .ok (.aload_n 0, 1) := by decide +kernel
theorem dX8_rememberAhead_1 : decode cX8_rememberAhead 1 = .ok (.getfield 123, 3) := by decide +kernel
theorem dX8_rememberAhead_4 : decode cX8_rememberAhead 4 = .ok (.aload_n 0, 1) := by decide +kernel
theorem dX8_rememberAhead_5 : decode cX8_rememberAhead 5 = .ok (.getfield 31, 3) := by decide +kernel
theorem dX8_rememberAhead_8 : decode cX8_rememberAhead 8 = .ok (.arraylength, 1) := by decide +kernel
theorem dX8_rememberAhead_9 : decode cX8_rememberAhead 9 = .ok (.if_icmp .lt 7, 3) := by decide +kernel
theorem dX8_rememberAhead_12 : decode cX8_rememberAhead 12 = .ok (.aload_n 0, 1) := by decide +kernel
theorem dX8_rememberAhead_13 : decode cX8_rememberAhead 13 = .ok (.invokevirtual 331, 3) := by decide +kernel
theorem dX8_rememberAhead_16 : decode cX8_rememberAhead 16 = .ok (.aload_n 0, 1) := by decide +kernel
theorem dX8_rememberAhead_17 : decode cX8_rememberAhead 17 = .ok (.getfield 123, 3) := by decide +kernel
theorem dX8_rememberAhead_20 : decode cX8_rememberAhead 20 = .ok (.ifCond .lt 53, 3) := by decide +kernel
theorem dX8_rememberAhead_23 : decode cX8_rememberAhead 23 = .ok (.aload_n 0, 1) := by decide +kernel
theorem dX8_rememberAhead_24 : decode cX8_rememberAhead 24 = .ok (.getfield 123, 3) := by decide +kernel
theorem dX8_rememberAhead_27 : decode cX8_rememberAhead 27 = .ok (.aload_n 0, 1) := by decide +kernel
theorem dX8_rememberAhead_28 : decode cX8_rememberAhead 28 = .ok (.getfield 31, 3) := by decide +kernel
theorem dX8_rememberAhead_31 : decode cX8_rememberAhead 31 = .ok (.arraylength, 1) := by decide +kernel
theorem dX8_rememberAhead_32 : decode cX8_rememberAhead 32 = .ok (.if_icmp .ge 41, 3) := by decide +kernel
theorem dX8_rememberAhead_35 : decode cX8_rememberAhead 35 = .ok (.aload_n 0, 1) := by decide +kernel
theorem dX8_rememberAhead_36 : decode cX8_rememberAhead 36 = .ok (.getfield 31, 3) := by decide +kernel
theorem dX8_rememberAhead_39 : decode cX8_rememberAhead 39 = .ok (.aload_n 0, 1) := by decide +kernel
theorem dX8_rememberAhead_40 : decode cX8_rememberAhead 40 = .ok (.getfield 123, 3) := by decide +kernel
theorem dX8_rememberAhead_43 : decode cX8_rememberAhead 43 = .ok (.aaload, 1) := by decide +kernel
theorem dX8_rememberAhead_44 : decode cX8_rememberAhead 44 = .ok (.ifnull 29, 3) := by decide +kernel
theorem dX8_rememberAhead_47 : decode cX8_rememberAhead 47 = .ok (.aload_n 0, 1) := by decide +kernel
theorem dX8_rememberAhead_48 : decode cX8_rememberAhead 48 = .ok (.getfield 31, 3) := by decide +kernel
theorem dX8_rememberAhead_51 : decode cX8_rememberAhead 51 = .ok (.aload_n 0, 1) := by decide +kernel
theorem dX8_rememberAhead_52 : decode cX8_rememberAhead 52 = .ok (.getfield 123, 3) := by decide +kernel
theorem dX8_rememberAhead_55 : decode cX8_rememberAhead 55 = .ok (.aaload, 1) := by decide +kernel
theorem dX8_rememberAhead_56 : decode cX8_rememberAhead 56 = .ok (.aload_n 0, 1) := by decide +kernel
theorem dX8_rememberAhead_57 : decode cX8_rememberAhead 57 = .ok (.getfield 25, 3) := by decide +kernel
theorem dX8_rememberAhead_60 : decode cX8_rememberAhead 60 = .ok (.invokevirtual 73, 3) := by decide +kernel
theorem dX8_rememberAhead_63 : decode cX8_rememberAhead 63 = .ok (.aload_n 0, 1) := by decide +kernel
theorem dX8_rememberAhead_64 : decode cX8_rememberAhead 64 = .ok (.dup, 1) := by decide +kernel
theorem dX8_rememberAhead_65 : decode cX8_rememberAhead 65 = .ok (.getfield 123, 3) := by decide +kernel
theorem dX8_rememberAhead_68 : decode cX8_rememberAhead 68 = .ok (.iconst 1, 1) := by decide +kernel
theorem dX8_rememberAhead_69 : decode cX8_rememberAhead 69 = .ok (.iadd, 1) := by decide +kernel
theorem dX8_rememberAhead_70 : decode cX8_rememberAhead 70 = .ok (.putfield 123, 3) := by decide +kernel
theorem dX8_rememberAhead_73 : decode cX8_rememberAhead 73 = .ok (.return_, 1) := by decide +kernel
theorem dX8_restore_0 : decode cX8_restore 0 = .ok (.aload_n 0, 1) := by decide +kernel
theorem dX8_restore_1 : decode cX8_restore 1 = .ok (.iconst 0, 1) := by decide +kernel
theorem dX8_restore_2 : decode cX8_restore 2 = .ok (.putfield 334, 3) := by decide +kernel
theorem dX8_restore_5 : decode cX8_restore 5 = .ok (.aload_n 0, 1) := by decide +kernel
theorem dX8_restore_6 : decode cX8_restore 6 = .ok (.getfield 21, 3) := by decide +kernel
theorem dX8_restore_9 : decode cX8_restore 9 = .ok (.aload_n 1, 1) := by decide +kernel
theorem dX8_restore_10 : decode cX8_restore 10 = .ok (.invokevirtual 73, 3) := by decide +kernel
theorem dX8_restore_13 : decode cX8_restore 13 = .ok (.aload_n 0, 1) := by decide +kernel
theorem dX8_restore_14 : decode cX8_restore 14 = .ok (.getfield 38, 3) := by decide +kernel
theorem dX8_restore_17 : decode cX8_restore 17 = .ok (.aload_n 0, 1) := by decide +kernel
theorem dX8_restore_18 : decode cX8_restore 18 = .ok (.getfield 21, 3) := by decide +kernel
theorem dX8_restore_21 : decode cX8_restore 21 = .ok (.getfield 130, 3) := by decide +kernel
theorem dX8_restore_24 : decode cX8_restore 24 = .ok (.aload_n 0, 1) := by decide +kernel
theorem dX8_restore_25 : decode cX8_restore 25 = .ok (.getfield 21, 3) := by decide +kernel
theorem dX8_restore_28 : decode cX8_restore 28 = .ok (.invokevirtual 361, 3) := by decide +kernel
theorem dX8_restore_31 : decode cX8_restore 31 = .ok (.aload_n 0, 1) := by decide +kernel
theorem dX8_restore_32 : decode cX8_restore 32 = .ok (.getfield 48, 3) := by decide +kernel
theorem dX8_restore_35 : decode cX8_restore 35 = .ok (.aload_n 0, 1) := by decide +kernel
theorem dX8_restore_36 : decode cX8_restore 36 = .ok (.getfield 21, 3) := by decide +kernel
theorem dX8_restore_39 : decode cX8_restore 39 = .ok (.aload_n 0, 1) := by decide +kernel
theorem dX8_restore_40 : decode cX8_restore 40 = .ok (.getfield 38, 3) := by decide +kernel
theorem dX8_restore_43 : decode cX8_restore 43 = .ok (.invokevirtual 365, 3) := by decide +kernel
theorem dX8_restore_46 : decode cX8_restore 46 = .ok (.pop, 1) := by decide +kernel
theorem dX8_restore_47 : decode cX8_restore 47 = .ok (.return_, 1) := by decide +kernel
theorem dX8_rule_0 : decode cX8_rule 0 = .ok (.iload_n 1, 1) := by decide +kernel
theorem dX8_rule_1 : decode cX8_rule 1 = .ok (.ifCond .eq 18, 3) := by decide +kernel
theorem dX8_rule_4 : decode cX8_rule 4 = .ok (.iload_n 1, 1) := by decide +kernel
theorem dX8_rule_5 : decode cX8_rule 5 = .ok (.iconst 1, 1) := by decide +kernel
theorem dX8_rule_6 : decode cX8_rule 6 = .ok (.if_icmp .eq 13, 3) := by decide +kernel
theorem dX8_rule_9 : decode cX8_rule 9 = .ok (.new 142, 3) := by decide +kernel
theorem dX8_rule_12 : decode cX8_rule 12 = .ok (.dup, 1) := by decide +kernel
theorem dX8_rule_13 : decode cX8_rule 13 = .ok (.ldc 144, 2) := by decide +kernel
theorem dX8_rule_15 : decode cX8_rule 15 = .ok (.invokespecial 146, 3) := by decide +kernel
theorem dX8_rule_18 : decode cX8_rule 18 = .ok (.athrow, 1) := by decide +kernel
theorem dX8_rule_19 : decode cX8_rule 19 = .ok (.iload_n 1, 1) := by decide +kernel
theorem dX8_rule_20 : decode cX8_rule 20 = .ok (.ifCond .ne 15, 3) := by decide +kernel
theorem dX8_rule_23 : decode cX8_rule 23 = .ok (.iload_n 2, 1) := by decide +kernel
theorem dX8_rule_24 : decode cX8_rule 24 = .ok (.ifCond .lt 22, 3) := by decide +kernel
theorem dX8_rule_27 : decode cX8_rule 27 = .ok (.iload_n 2, 1) := by decide +kernel
theorem dX8_rule_28 : decode cX8_rule 28 = .ok (.iconst 1, 1) := by decide +kernel
theorem dX8_rule_29 : decode cX8_rule 29 = .ok (.if_icmp .le 27, 3) := by decide +kernel
theorem dX8_rule_32 : decode cX8_rule 32 = .ok (.goto 14, 3) := by decide +kernel
theorem dX8_rule_35 : decode cX8_rule 35 = .ok (.iload_n 2, 1) := by decide +kernel
theorem dX8_rule_36 : decode cX8_rule 36 = .ok (.iconst 1, 1) := by decide +kernel
theorem dX8_rule_37 : decode cX8_rule 37 = .ok (.if_icmp .lt 9, 3) := by decide +kernel
theorem dX8_rule_40 : decode cX8_rule 40 = .ok (.iload_n 2, 1) := by decide +kernel
theorem dX8_rule_41 : decode cX8_rule 41 = .ok (.bipush 40, 2) := by decide +kernel
theorem dX8_rule_43 : decode cX8_rule 43 = .ok (.if_icmp .le 13, 3) := by decide +kernel
theorem dX8_rule_46 : decode cX8_rule 46 = .ok (.new 116, 3) := by decide +kernel
theorem dX8_rule_49 : decode cX8_rule 49 = .ok (.dup, 1) := by decide +kernel
theorem dX8_rule_50 : decode cX8_rule 50 = .ok (.ldc 147, 2) := by decide +kernel
theorem dX8_rule_52 : decode cX8_rule 52 = .ok (.invokespecial 120, 3) := by decide +kernel
theorem dX8_rule_55 : decode cX8_rule 55 = .ok (.athrow, 1) := by decide +kernel
theorem dX8_rule_56 : decode cX8_rule 56 = .ok (.aload_n 0, 1) := by decide +kernel
theorem dX8_rule_57 : decode cX8_rule 57 = .ok (.getfield 25, 3) := by decide +kernel
theorem dX8_rule_60 : decode cX8_rule 60 = .ok (.aload_n 0, 1) := by decide +kernel
theorem dX8_rule_61 : decode cX8_rule 61 = .ok (.getfield 21, 3) := by decide +kernel
theorem dX8_rule_64 : decode cX8_rule 64 = .ok (.invokevirtual 73, 3) := by decide +kernel
theorem dX8_rule_67 : decode cX8_rule 67 = .ok (.iload_n 1, 1) := by decide +kernel
theorem dX8_rule_68 : decode cX8_rule 68 = .ok (.ifCond .ne 27, 3) := by decide +kernel
theorem dX8_rule_71 : decode cX8_rule 71 = .ok (.aload_n 0, 1) := by decide +kernel
theorem dX8_rule_72 : decode cX8_rule 72 = .ok (.aload_n 0, 1) := by decide +kernel
theorem dX8_rule_73 : decode cX8_rule 73 = .ok (.iload_n 2, 1) := by decide +kernel
theorem dX8_rule_74 : decode cX8_rule 74 = .ok (.iconst 1, 1) := by decide +kernel
theorem dX8_rule_75 : decode cX8_rule 75 = .ok (.if_icmp .ne 7, 3) := by decide +kernel
theorem dX8_rule_78 : decode cX8_rule 78 = .ok (.iconst 3, 1) := by decide +kernel
theorem dX8_rule_79 : decode cX8_rule 79 = .ok (.goto 4, 3) := by decide +kernel
theorem dX8_rule_82 : decode cX8_rule 82 = .ok (.iconst 4, 1) := by decide +kernel
theorem dX8_rule_83 : decode cX8_rule 83 = .ok (.iconst 0, 1) := by decide +kernel
theorem dX8_rule_84 : decode cX8_rule 84 = .ok (.iconst 0, 1) := by decide +kernel
theorem dX8_rule_85 : decode cX8_rule 85 = .ok (.aconst_null, 1) := by decide +kernel
theorem dX8_rule_86 : decode cX8_rule 86 = .ok (.invokevirtual 103, 3) := by decide +kernel
theorem dX8_rule_89 : decode cX8_rule 89 = .ok (.invokevirtual 139, 3) := by decide +kernel
theorem dX8_rule_92 : decode cX8_rule 92 = .ok (.goto 15, 3) := by decide +kernel
theorem dX8_rule_95 : decode cX8_rule 95 = .ok (.aload_n 0, 1) := by decide +kernel
theorem dX8_rule_96 : decode cX8_rule 96 = .ok (.aload_n 0, 1) := by decide +kernel
theorem dX8_rule_97 : decode cX8_rule 97 = .ok (.iconst 5, 1) := by decide +kernel
theorem dX8_rule_98 : decode cX8_rule 98 = .ok (.iload_n 2, 1) := by decide +kernel
theorem dX8_rule_99 : decode cX8_rule 99 = .ok (.iconst 0, 1) := by decide +kernel
theorem dX8_rule_100 : decode cX8_rule 100 = .ok (.aconst_null, 1) := by decide +kernel
theorem dX8_rule_101 : decode cX8_rule 101 = .ok (.invokevirtual 103, 3) := by decide +kernel
theorem dX8_rule_104 : decode cX8_rule 104 = .ok (.invokevirtual 139, 3) := by decide +kernel
theorem dX8_rule_107 : decode cX8_rule 107 = .ok (.aload_n 0, 1) := by decide +kernel
theorem dX8_rule_108 : decode cX8_rule 108 = .ok (.getfield 38, 3) := by decide +kernel
theorem dX8_rule_111 : decode cX8_rule 111 = .ok (.invokevirtual 136, 3) := by decide +kernel
theorem dX8_rule_114 : decode cX8_rule 114 = .ok (.ireturn, 1) := by decide +kernel
theorem dX8_smallLetter_0 : decode cX8_smallLetter 0 = .ok (.iload_n 0, 1) := by decide +kernel
theorem dX8_smallLetter_1 : decode cX8_smallLetter 1 = .ok (.bipush 65, 2) := by decide +kernel
theorem dX8_smallLetter_3 : decode cX8_smallLetter 3 = .ok (.if_icmp .lt 16, 3) := by decide +kernel
theorem dX8_smallLetter_6 : decode cX8_smallLetter 6 = .ok (.iload_n 0, 1) := by decide +kernel
theorem dX8_smallLetter_7 : decode cX8_smallLetter 7 = .ok (.bipush 90, 2) := by decide +kernel
theorem dX8_smallLetter_9 : decode cX8_smallLetter 9 = .ok (.if_icmp .gt 10, 3) := by decide +kernel
theorem dX8_smallLetter_12 : decode cX8_smallLetter 12 = .ok (.iload_n 0, 1) := by decide +kernel
theorem dX8_smallLetter_13 : decode cX8_smallLetter 13 = .ok (.bipush 32, 2) := by decide +kernel
theorem dX8_smallLetter_15 : decode cX8_smallLetter 15 = .ok (.iadd, 1) := by decide +kernel
theorem dX8_smallLetter_16 : decode cX8_smallLetter 16 = .ok (.goto 4, 3) := by decide +kernel
theorem dX8_smallLetter_19 : decode cX8_smallLetter 19 = .ok (.iload_n 0, 1) := by decide +kernel
theorem dX8_smallLetter_20 : decode cX8_smallLetter 20 = .ok (.ireturn, 1) := by decide +kernel
theorem dX8_spread_0 : decode cX8_spread 0 = .ok (.aload_n 0, 1) := by decide +kernel
theorem dX8_spread_1 : decode cX8_spread 1 = .ok (.getfield 25, 3) := by decide +kernel
theorem dX8_spread_4 : decode cX8_spread 4 = .ok (.aload_n 0, 1) := by decide +kernel
theorem dX8_spread_5 : decode cX8_spread 5 = .ok (.getfield 21, 3) := by decide +kernel
theorem dX8_spread_8 : decode cX8_spread 8 = .ok (.invokevirtual 73, 3) := by decide +kernel
theorem dX8_spread_11 : decode cX8_spread 11 = .ok (.aload_n 0, 1) := by decide +kernel
theorem dX8_spread_12 : decode cX8_spread 12 = .ok (.aload_n 0, 1) := by decide +kernel
theorem dX8_spread_13 : decode cX8_spread 13 = .ok (.bipush 9, 2) := by decide +kernel
theorem dX8_spread_15 : decode cX8_spread 15 = .ok (.iload_n 1, 1) := by decide +kernel
theorem dX8_spread_16 : decode cX8_spread 16 = .ok (.iconst 0, 1) := by decide +kernel
theorem dX8_spread_17 : decode cX8_spread 17 = .ok (.aconst_null, 1) := by decide +kernel
theorem dX8_spread_18 : decode cX8_spread 18 = .ok (.invokevirtual 103, 3) := by decide +kernel
theorem dX8_spread_21 : decode cX8_spread 21 = .ok (.invokevirtual 139, 3) := by decide +kernel
theorem dX8_spread_24 : decode cX8_spread 24 = .ok (.aload_n 0, 1) := by decide +kernel
theorem dX8_spread_25 : decode cX8_spread 25 = .ok (.getfield 38, 3) := by decide +kernel
theorem dX8_spread_28 : decode cX8_spread 28 = .ok (.iload_n 1, 1) := by decide +kernel
theorem dX8_spread_29 : decode cX8_spread 29 = .ok (.invokevirtual 163, 3) := by decide +kernel
theorem dX8_spread_32 : decode cX8_spread 32 = .ok (.iconst 1, 1) := by decide +kernel
theorem dX8_spread_33 : decode cX8_spread 33 = .ok (.isub, 1) := by decide +kernel
theorem dX8_spread_34 : decode cX8_spread 34 = .ok (.ireturn, 1) := by decide +kernel
theorem dX8_spreadPiece_0 : decode cX8_spreadPiece 0 = .ok (.aload_n 0, 1) := by decide +kernel
theorem dX8_spreadPiece_1 : decode cX8_spreadPiece 1 = .ok (.getfield 38, 3) := by decide +kernel
theorem dX8_spreadPiece_4 : decode cX8_spreadPiece 4 = .ok (.iload_n 1, 1) := by decide +kernel
theorem dX8_spreadPiece_5 : decode cX8_spreadPiece 5 = .ok (.invokevirtual 241, 3) := by decide +kernel
theorem dX8_spreadPiece_8 : decode cX8_spreadPiece 8 = .ok (.ifnonnull 5, 3) := by decide +kernel
theorem dX8_spreadPiece_11 : decode cX8_spreadPiece 11 = .ok (.iconst 1, 1) := by decide +kernel
theorem dX8_spreadPiece_12 : decode cX8_spreadPiece 12 = .ok (.ireturn, 1) := by decide +kernel
theorem dX8_spreadPiece_13 : decode cX8_spreadPiece 13 = .ok (.aload_n 0, 1) := by decide +kernel
theorem dX8_spreadPiece_14 : decode cX8_spreadPiece 14 = .ok (.getfield 21, 3) := by decide +kernel
theorem dX8_spreadPiece_17 : decode cX8_spreadPiece 17 = .ok (.iload_n 1, 1) := by decide +kernel
theorem dX8_spreadPiece_18 : decode cX8_spreadPiece 18 = .ok (.invokevirtual 194, 3) := by decide +kernel
theorem dX8_spreadPiece_21 : decode cX8_spreadPiece 21 = .ok (.astore_n 2, 1) := by decide +kernel
theorem dX8_spreadPiece_22 : decode cX8_spreadPiece 22 = .ok (.aload_n 2, 1) := by decide +kernel
theorem dX8_spreadPiece_23 : decode cX8_spreadPiece 23 = .ok (.ifnonnull 5, 3) := by decide +kernel
theorem dX8_spreadPiece_26 : decode cX8_spreadPiece 26 = .ok (.iconst 4, 1) := by decide +kernel
theorem dX8_spreadPiece_27 : decode cX8_spreadPiece 27 = .ok (.ireturn, 1) := by decide +kernel
theorem dX8_spreadPiece_28 : decode cX8_spreadPiece 28 = .ok (.iconst 0, 1) := by decide +kernel
theorem dX8_spreadPiece_29 : decode cX8_spreadPiece 29 = .ok (.istore_n 3, 1) := by decide +kernel
theorem dX8_spreadPiece_30 : decode cX8_spreadPiece 30 = .ok (.iload_n 3, 1) := by decide +kernel
theorem dX8_spreadPiece_31 : decode cX8_spreadPiece 31 = .ok (.aload_n 0, 1) := by decide +kernel
theorem dX8_spreadPiece_32 : decode cX8_spreadPiece 32 = .ok (.getfield 38, 3) := by decide +kernel
theorem dX8_spreadPiece_35 : decode cX8_spreadPiece 35 = .ok (.invokevirtual 136, 3) := by decide +kernel
theorem dX8_spreadPiece_38 : decode cX8_spreadPiece 38 = .ok (.if_icmp .ge 46, 3) := by decide +kernel
theorem dX8_spreadPiece_41 : decode cX8_spreadPiece 41 = .ok (.aload_n 0, 1) := by decide +kernel
theorem dX8_spreadPiece_42 : decode cX8_spreadPiece 42 = .ok (.getfield 38, 3) := by decide +kernel
theorem dX8_spreadPiece_45 : decode cX8_spreadPiece 45 = .ok (.iload_n 1, 1) := by decide +kernel
theorem dX8_spreadPiece_46 : decode cX8_spreadPiece 46 = .ok (.iload_n 3, 1) := by decide +kernel
theorem dX8_spreadPiece_47 : decode cX8_spreadPiece 47 = .ok (.invokevirtual 243, 3) := by decide +kernel
theorem dX8_spreadPiece_50 : decode cX8_spreadPiece 50 = .ok (.ifCond .eq 28, 3) := by decide +kernel
theorem dX8_spreadPiece_53 : decode cX8_spreadPiece 53 = .ok (.aload_n 0, 1) := by decide +kernel
theorem dX8_spreadPiece_54 : decode cX8_spreadPiece 54 = .ok (.getfield 48, 3) := by decide +kernel
theorem dX8_spreadPiece_57 : decode cX8_spreadPiece 57 = .ok (.aload_n 2, 1) := by decide +kernel
theorem dX8_spreadPiece_58 : decode cX8_spreadPiece 58 = .ok (.aload_n 0, 1) := by decide +kernel
theorem dX8_spreadPiece_59 : decode cX8_spreadPiece 59 = .ok (.getfield 38, 3) := by decide +kernel
theorem dX8_spreadPiece_62 : decode cX8_spreadPiece 62 = .ok (.iload_n 3, 1) := by decide +kernel
theorem dX8_spreadPiece_63 : decode cX8_spreadPiece 63 = .ok (.invokevirtual 241, 3) := by decide +kernel
theorem dX8_spreadPiece_66 : decode cX8_spreadPiece 66 = .ok (.aload_n 0, 1) := by decide +kernel
theorem dX8_spreadPiece_67 : decode cX8_spreadPiece 67 = .ok (.getfield 21, 3) := by decide +kernel
theorem dX8_spreadPiece_70 : decode cX8_spreadPiece 70 = .ok (.invokevirtual 247, 3) := by decide +kernel
theorem dX8_spreadPiece_73 : decode cX8_spreadPiece 73 = .ok (.ifCond .ne 5, 3) := by decide +kernel
theorem dX8_spreadPiece_76 : decode cX8_spreadPiece 76 = .ok (.iconst 2, 1) := by decide +kernel
theorem dX8_spreadPiece_77 : decode cX8_spreadPiece 77 = .ok (.ireturn, 1) := by decide +kernel
theorem dX8_spreadPiece_78 : decode cX8_spreadPiece 78 = .ok (.iinc 3 1, 3) := by decide +kernel
theorem dX8_spreadPiece_81 : decode cX8_spreadPiece 81 = .ok (.goto (-51), 3) := by decide +kernel
theorem dX8_spreadPiece_84 : decode cX8_spreadPiece 84 = .ok (.iconst 0, 1) := by decide +kernel
theorem dX8_spreadPiece_85 : decode cX8_spreadPiece 85 = .ok (.istore_n 3, 1) := by decide +kernel
theorem dX8_spreadPiece_86 : decode cX8_spreadPiece 86 = .ok (.iload_n 3, 1) := by decide +kernel
theorem dX8_spreadPiece_87 : decode cX8_spreadPiece 87 = .ok (.aload_n 0, 1) := by decide +kernel
theorem dX8_spreadPiece_88 : decode cX8_spreadPiece 88 = .ok (.getfield 38, 3) := by decide +kernel
theorem dX8_spreadPiece_91 : decode cX8_spreadPiece 91 = .ok (.invokevirtual 136, 3) := by decide +kernel
theorem dX8_spreadPiece_94 : decode cX8_spreadPiece 94 = .ok (.if_icmp .ge 30, 3) := by decide +kernel
theorem dX8_spreadPiece_97 : decode cX8_spreadPiece 97 = .ok (.aload_n 0, 1) := by decide +kernel
theorem dX8_spreadPiece_98 : decode cX8_spreadPiece 98 = .ok (.getfield 38, 3) := by decide +kernel
theorem dX8_spreadPiece_101 : decode cX8_spreadPiece 101 = .ok (.iload_n 1, 1) := by decide +kernel
theorem dX8_spreadPiece_102 : decode cX8_spreadPiece 102 = .ok (.iload_n 3, 1) := by decide +kernel
theorem dX8_spreadPiece_103 : decode cX8_spreadPiece 103 = .ok (.invokevirtual 243, 3) := by decide +kernel
theorem dX8_spreadPiece_106 : decode cX8_spreadPiece 106 = .ok (.ifCond .eq 12, 3) := by decide +kernel
theorem dX8_spreadPiece_109 : decode cX8_spreadPiece 109 = .ok (.aload_n 0, 1) := by decide +kernel
theorem dX8_spreadPiece_110 : decode cX8_spreadPiece 110 = .ok (.getfield 21, 3) := by decide +kernel
theorem dX8_spreadPiece_113 : decode cX8_spreadPiece 113 = .ok (.iload_n 3, 1) := by decide +kernel
theorem dX8_spreadPiece_114 : decode cX8_spreadPiece 114 = .ok (.aload_n 2, 1) := by decide +kernel
theorem dX8_spreadPiece_115 : decode cX8_spreadPiece 115 = .ok (.invokevirtual 369, 3) := by decide +kernel
theorem dX8_spreadPiece_118 : decode cX8_spreadPiece 118 = .ok (.iinc 3 1, 3) := by decide +kernel
theorem dX8_spreadPiece_121 : decode cX8_spreadPiece 121 = .ok (.goto (-35), 3) := by decide +kernel
theorem dX8_spreadPiece_124 : decode cX8_spreadPiece 124 = .ok (.aload_n 0, 1) := by decide +kernel
theorem dX8_spreadPiece_125 : decode cX8_spreadPiece 125 = .ok (.getfield 48, 3) := by decide +kernel
theorem dX8_spreadPiece_128 : decode cX8_spreadPiece 128 = .ok (.aload_n 0, 1) := by decide +kernel
theorem dX8_spreadPiece_129 : decode cX8_spreadPiece 129 = .ok (.getfield 21, 3) := by decide +kernel
theorem dX8_spreadPiece_132 : decode cX8_spreadPiece 132 = .ok (.aload_n 0, 1) := by decide +kernel
theorem dX8_spreadPiece_133 : decode cX8_spreadPiece 133 = .ok (.getfield 38, 3) := by decide +kernel
theorem dX8_spreadPiece_136 : decode cX8_spreadPiece 136 = .ok (.invokevirtual 365, 3) := by decide +kernel
theorem dX8_spreadPiece_139 : decode cX8_spreadPiece 139 = .ok (.ifCond .eq 7, 3) := by decide +kernel
theorem dX8_spreadPiece_142 : decode cX8_spreadPiece 142 = .ok (.iconst 0, 1) := by decide +kernel
theorem dX8_spreadPiece_143 : decode cX8_spreadPiece 143 = .ok (.goto 4, 3) := by decide +kernel
theorem dX8_spreadPiece_146 : decode cX8_spreadPiece 146 = .ok (.iconst 3, 1) := by decide +kernel
theorem dX8_spreadPiece_147 : decode cX8_spreadPiece 147 = .ok (.ireturn, 1) := by decide +kernel
theorem dX8_swap_0 : decode cX8_swap 0 = .ok (.aload_n 0, 1) := by decide +kernel
theorem dX8_swap_1 : decode cX8_swap 1 = .ok (.getfield 25, 3) := by decide +kernel
theorem dX8_swap_4 : decode cX8_swap 4 = .ok (.aload_n 0, 1) := by decide +kernel
theorem dX8_swap_5 : decode cX8_swap 5 = .ok (.getfield 21, 3) := by decide +kernel
theorem dX8_swap_8 : decode cX8_swap 8 = .ok (.invokevirtual 73, 3) := by decide +kernel
theorem dX8_swap_11 : decode cX8_swap 11 = .ok (.aload_n 0, 1) := by decide +kernel
theorem dX8_swap_12 : decode cX8_swap 12 = .ok (.aload_n 0, 1) := by decide +kernel
theorem dX8_swap_13 : decode cX8_swap 13 = .ok (.bipush 10, 2) := by decide +kernel
theorem dX8_swap_15 : decode cX8_swap 15 = .ok (.iload_n 1, 1) := by decide +kernel
theorem dX8_swap_16 : decode cX8_swap 16 = .ok (.iload_n 2, 1) := by decide +kernel
theorem dX8_swap_17 : decode cX8_swap 17 = .ok (.aconst_null, 1) := by decide +kernel
theorem dX8_swap_18 : decode cX8_swap 18 = .ok (.invokevirtual 103, 3) := by decide +kernel
theorem dX8_swap_21 : decode cX8_swap 21 = .ok (.invokevirtual 139, 3) := by decide +kernel
theorem dX8_swap_24 : decode cX8_swap 24 = .ok (.aload_n 0, 1) := by decide +kernel
theorem dX8_swap_25 : decode cX8_swap 25 = .ok (.getfield 48, 3) := by decide +kernel
theorem dX8_swap_28 : decode cX8_swap 28 = .ok (.getfield 160, 3) := by decide +kernel
theorem dX8_swap_31 : decode cX8_swap 31 = .ok (.invokevirtual 63, 3) := by decide +kernel
theorem dX8_swap_34 : decode cX8_swap 34 = .ok (.ireturn, 1) := by decide +kernel
theorem dX8_swapPieces_0 : decode cX8_swapPieces 0 = .ok (.aload_n 0, 1) := by decide +kernel
theorem dX8_swapPieces_1 : decode cX8_swapPieces 1 = .ok (.getfield 38, 3) := by decide +kernel
theorem dX8_swapPieces_4 : decode cX8_swapPieces 4 = .ok (.iload_n 1, 1) := by decide +kernel
theorem dX8_swapPieces_5 : decode cX8_swapPieces 5 = .ok (.invokevirtual 241, 3) := by decide +kernel
theorem dX8_swapPieces_8 : decode cX8_swapPieces 8 = .ok (.astore_n 3, 1) := by decide +kernel
theorem dX8_swapPieces_9 : decode cX8_swapPieces 9 = .ok (.aload_n 0, 1) := by decide +kernel
theorem dX8_swapPieces_10 : decode cX8_swapPieces 10 = .ok (.getfield 38, 3) := by decide +kernel
theorem dX8_swapPieces_13 : decode cX8_swapPieces 13 = .ok (.iload_n 2, 1) := by decide +kernel
theorem dX8_swapPieces_14 : decode cX8_swapPieces 14 = .ok (.invokevirtual 241, 3) := by decide +kernel
theorem dX8_swapPieces_17 : decode cX8_swapPieces 17 = .ok (.astore 4, 2) := by decide +kernel
theorem dX8_swapPieces_19 : decode cX8_swapPieces 19 = .ok (.aload_n 3, 1) := by decide +kernel
theorem dX8_swapPieces_20 : decode cX8_swapPieces 20 = .ok (.ifnull 8, 3) := by decide +kernel
theorem dX8_swapPieces_23 : decode cX8_swapPieces 23 = .ok (.aload 4, 2) := by decide +kernel
theorem dX8_swapPieces_25 : decode cX8_swapPieces 25 = .ok (.ifnonnull 5, 3) := by decide +kernel
theorem dX8_swapPieces_28 : decode cX8_swapPieces 28 = .ok (.iconst 1, 1) := by decide +kernel
theorem dX8_swapPieces_29 : decode cX8_swapPieces 29 = .ok (.ireturn, 1) := by decide +kernel
theorem dX8_swapPieces_30 : decode cX8_swapPieces 30 = .ok (.iload_n 1, 1) := by decide +kernel
theorem dX8_swapPieces_31 : decode cX8_swapPieces 31 = .ok (.iload_n 2, 1) := by decide +kernel
theorem dX8_swapPieces_32 : decode cX8_swapPieces 32 = .ok (.if_icmp .ne 5, 3) := by decide +kernel
theorem dX8_swapPieces_35 : decode cX8_swapPieces 35 = .ok (.iconst 5, 1) := by decide +kernel
theorem dX8_swapPieces_36 : decode cX8_swapPieces 36 = .ok (.ireturn, 1) := by decide +kernel
theorem dX8_swapPieces_37 : decode cX8_swapPieces 37 = .ok (.aload_n 0, 1) := by decide +kernel
theorem dX8_swapPieces_38 : decode cX8_swapPieces 38 = .ok (.iload_n 1, 1) := by decide +kernel
theorem dX8_swapPieces_39 : decode cX8_swapPieces 39 = .ok (.aload_n 3, 1) := by decide +kernel
theorem dX8_swapPieces_40 : decode cX8_swapPieces 40 = .ok (.invokevirtual 190, 3) := by decide +kernel
theorem dX8_swapPieces_43 : decode cX8_swapPieces 43 = .ok (.bipush 60, 2) := by decide +kernel
theorem dX8_swapPieces_45 : decode cX8_swapPieces 45 = .ok (.if_icmp .gt 15, 3) := by decide +kernel
theorem dX8_swapPieces_48 : decode cX8_swapPieces 48 = .ok (.aload_n 0, 1) := by decide +kernel
theorem dX8_swapPieces_49 : decode cX8_swapPieces 49 = .ok (.iload_n 2, 1) := by decide +kernel
theorem dX8_swapPieces_50 : decode cX8_swapPieces 50 = .ok (.aload 4, 2) := by decide +kernel
theorem dX8_swapPieces_52 : decode cX8_swapPieces 52 = .ok (.invokevirtual 190, 3) := by decide +kernel
theorem dX8_swapPieces_55 : decode cX8_swapPieces 55 = .ok (.bipush 60, 2) := by decide +kernel
theorem dX8_swapPieces_57 : decode cX8_swapPieces 57 = .ok (.if_icmp .le 6, 3) := by decide +kernel
theorem dX8_swapPieces_60 : decode cX8_swapPieces 60 = .ok (.bipush 8, 2) := by decide +kernel
theorem dX8_swapPieces_62 : decode cX8_swapPieces 62 = .ok (.ireturn, 1) := by decide +kernel
theorem dX8_swapPieces_63 : decode cX8_swapPieces 63 = .ok (.aload_n 0, 1) := by decide +kernel
theorem dX8_swapPieces_64 : decode cX8_swapPieces 64 = .ok (.iload_n 1, 1) := by decide +kernel
theorem dX8_swapPieces_65 : decode cX8_swapPieces 65 = .ok (.aload_n 3, 1) := by decide +kernel
theorem dX8_swapPieces_66 : decode cX8_swapPieces 66 = .ok (.invokevirtual 378, 3) := by decide +kernel
theorem dX8_swapPieces_69 : decode cX8_swapPieces 69 = .ok (.astore 5, 2) := by decide +kernel
theorem dX8_swapPieces_71 : decode cX8_swapPieces 71 = .ok (.aload_n 0, 1) := by decide +kernel
theorem dX8_swapPieces_72 : decode cX8_swapPieces 72 = .ok (.iload_n 2, 1) := by decide +kernel
theorem dX8_swapPieces_73 : decode cX8_swapPieces 73 = .ok (.aload 4, 2) := by decide +kernel
theorem dX8_swapPieces_75 : decode cX8_swapPieces 75 = .ok (.invokevirtual 378, 3) := by decide +kernel
theorem dX8_swapPieces_78 : decode cX8_swapPieces 78 = .ok (.astore 6, 2) := by decide +kernel
theorem dX8_swapPieces_80 : decode cX8_swapPieces 80 = .ok (.aload_n 0, 1) := by decide +kernel
theorem dX8_swapPieces_81 : decode cX8_swapPieces 81 = .ok (.getfield 48, 3) := by decide +kernel
theorem dX8_swapPieces_84 : decode cX8_swapPieces 84 = .ok (.aload 6, 2) := by decide +kernel
theorem dX8_swapPieces_86 : decode cX8_swapPieces 86 = .ok (.aload_n 3, 1) := by decide +kernel
theorem dX8_swapPieces_87 : decode cX8_swapPieces 87 = .ok (.aload_n 0, 1) := by decide +kernel
theorem dX8_swapPieces_88 : decode cX8_swapPieces 88 = .ok (.getfield 21, 3) := by decide +kernel
theorem dX8_swapPieces_91 : decode cX8_swapPieces 91 = .ok (.invokevirtual 247, 3) := by decide +kernel
theorem dX8_swapPieces_94 : decode cX8_swapPieces 94 = .ok (.ifCond .eq 21, 3) := by decide +kernel
theorem dX8_swapPieces_97 : decode cX8_swapPieces 97 = .ok (.aload_n 0, 1) := by decide +kernel
theorem dX8_swapPieces_98 : decode cX8_swapPieces 98 = .ok (.getfield 48, 3) := by decide +kernel
theorem dX8_swapPieces_101 : decode cX8_swapPieces 101 = .ok (.aload 5, 2) := by decide +kernel
theorem dX8_swapPieces_103 : decode cX8_swapPieces 103 = .ok (.aload 4, 2) := by decide +kernel
theorem dX8_swapPieces_105 : decode cX8_swapPieces 105 = .ok (.aload_n 0, 1) := by decide +kernel
theorem dX8_swapPieces_106 : decode cX8_swapPieces 106 = .ok (.getfield 21, 3) := by decide +kernel
theorem dX8_swapPieces_109 : decode cX8_swapPieces 109 = .ok (.invokevirtual 247, 3) := by decide +kernel
theorem dX8_swapPieces_112 : decode cX8_swapPieces 112 = .ok (.ifCond .ne 5, 3) := by decide +kernel
theorem dX8_swapPieces_115 : decode cX8_swapPieces 115 = .ok (.iconst 2, 1) := by decide +kernel
theorem dX8_swapPieces_116 : decode cX8_swapPieces 116 = .ok (.ireturn, 1) := by decide +kernel
theorem dX8_swapPieces_117 : decode cX8_swapPieces 117 = .ok (.aload_n 0, 1) := by decide +kernel
theorem dX8_swapPieces_118 : decode cX8_swapPieces 118 = .ok (.getfield 21, 3) := by decide +kernel
theorem dX8_swapPieces_121 : decode cX8_swapPieces 121 = .ok (.iload_n 1, 1) := by decide +kernel
theorem dX8_swapPieces_122 : decode cX8_swapPieces 122 = .ok (.aload 6, 2) := by decide +kernel
theorem dX8_swapPieces_124 : decode cX8_swapPieces 124 = .ok (.invokevirtual 369, 3) := by decide +kernel
theorem dX8_swapPieces_127 : decode cX8_swapPieces 127 = .ok (.aload_n 0, 1) := by decide +kernel
theorem dX8_swapPieces_128 : decode cX8_swapPieces 128 = .ok (.getfield 21, 3) := by decide +kernel
theorem dX8_swapPieces_131 : decode cX8_swapPieces 131 = .ok (.iload_n 2, 1) := by decide +kernel
theorem dX8_swapPieces_132 : decode cX8_swapPieces 132 = .ok (.aload 5, 2) := by decide +kernel
theorem dX8_swapPieces_134 : decode cX8_swapPieces 134 = .ok (.invokevirtual 369, 3) := by decide +kernel
theorem dX8_swapPieces_137 : decode cX8_swapPieces 137 = .ok (.aload_n 0, 1) := by decide +kernel
theorem dX8_swapPieces_138 : decode cX8_swapPieces 138 = .ok (.getfield 48, 3) := by decide +kernel
theorem dX8_swapPieces_141 : decode cX8_swapPieces 141 = .ok (.aload_n 0, 1) := by decide +kernel
theorem dX8_swapPieces_142 : decode cX8_swapPieces 142 = .ok (.getfield 21, 3) := by decide +kernel
theorem dX8_swapPieces_145 : decode cX8_swapPieces 145 = .ok (.aload_n 0, 1) := by decide +kernel
theorem dX8_swapPieces_146 : decode cX8_swapPieces 146 = .ok (.getfield 38, 3) := by decide +kernel
theorem dX8_swapPieces_149 : decode cX8_swapPieces 149 = .ok (.invokevirtual 365, 3) := by decide +kernel
theorem dX8_swapPieces_152 : decode cX8_swapPieces 152 = .ok (.ifCond .eq 7, 3) := by decide +kernel
theorem dX8_swapPieces_155 : decode cX8_swapPieces 155 = .ok (.iconst 0, 1) := by decide +kernel
theorem dX8_swapPieces_156 : decode cX8_swapPieces 156 = .ok (.goto 4, 3) := by decide +kernel
theorem dX8_swapPieces_159 : decode cX8_swapPieces 159 = .ok (.iconst 3, 1) := by decide +kernel
theorem dX8_swapPieces_160 : decode cX8_swapPieces 160 = .ok (.ireturn, 1) := by decide +kernel
theorem dX8_takeTold_0 : decode cX8_takeTold 0 = .ok (.aload_n 0, 1) := by decide +kernel
theorem dX8_takeTold_1 : decode cX8_takeTold 1 = .ok (.getfield 14, 3) := by decide +kernel
theorem dX8_takeTold_4 : decode cX8_takeTold 4 = .ok (.invokevirtual 63, 3) := by decide +kernel
theorem dX8_takeTold_7 : decode cX8_takeTold 7 = .ok (.bipush 60, 2) := by decide +kernel
theorem dX8_takeTold_9 : decode cX8_takeTold 9 = .ok (.if_icmp .le 7, 3) := by decide +kernel
theorem dX8_takeTold_12 : decode cX8_takeTold 12 = .ok (.aconst_null, 1) := by decide +kernel
theorem dX8_takeTold_13 : decode cX8_takeTold 13 = .ok (.goto 18, 3) := by decide +kernel
theorem dX8_takeTold_16 : decode cX8_takeTold 16 = .ok (.aload_n 0, 1) := by decide +kernel
theorem dX8_takeTold_17 : decode cX8_takeTold 17 = .ok (.getfield 14, 3) := by decide +kernel
theorem dX8_takeTold_20 : decode cX8_takeTold 20 = .ok (.iconst 0, 1) := by decide +kernel
theorem dX8_takeTold_21 : decode cX8_takeTold 21 = .ok (.aload_n 0, 1) := by decide +kernel
theorem dX8_takeTold_22 : decode cX8_takeTold 22 = .ok (.getfield 14, 3) := by decide +kernel
theorem dX8_takeTold_25 : decode cX8_takeTold 25 = .ok (.invokevirtual 63, 3) := by decide +kernel
theorem dX8_takeTold_28 : decode cX8_takeTold 28 = .ok (.invokevirtual 126, 3) := by decide +kernel
theorem dX8_takeTold_31 : decode cX8_takeTold 31 = .ok (.astore_n 1, 1) := by decide +kernel
theorem dX8_takeTold_32 : decode cX8_takeTold 32 = .ok (.aload_n 0, 1) := by decide +kernel
theorem dX8_takeTold_33 : decode cX8_takeTold 33 = .ok (.getfield 14, 3) := by decide +kernel
theorem dX8_takeTold_36 : decode cX8_takeTold 36 = .ok (.iconst 0, 1) := by decide +kernel
theorem dX8_takeTold_37 : decode cX8_takeTold 37 = .ok (.invokevirtual 70, 3) := by decide +kernel
theorem dX8_takeTold_40 : decode cX8_takeTold 40 = .ok (.aload_n 1, 1) := by decide +kernel
theorem dX8_takeTold_41 : decode cX8_takeTold 41 = .ok (.areturn, 1) := by decide +kernel
theorem dX8_takeWord_0 : decode cX8_takeWord 0 = .ok (.aload_n 0, 1) := by decide +kernel
theorem dX8_takeWord_1 : decode cX8_takeWord 1 = .ok (.getfield 14, 3) := by decide +kernel
theorem dX8_takeWord_4 : decode cX8_takeWord 4 = .ok (.invokevirtual 317, 3) := by decide +kernel
theorem dX8_takeWord_7 : decode cX8_takeWord 7 = .ok (.ifCond .eq 21, 3) := by decide +kernel
theorem dX8_takeWord_10 : decode cX8_takeWord 10 = .ok (.aload_n 0, 1) := by decide +kernel
theorem dX8_takeWord_11 : decode cX8_takeWord 11 = .ok (.getfield 14, 3) := by decide +kernel
theorem dX8_takeWord_14 : decode cX8_takeWord 14 = .ok (.iconst 0, 1) := by decide +kernel
theorem dX8_takeWord_15 : decode cX8_takeWord 15 = .ok (.aload_n 0, 1) := by decide +kernel
theorem dX8_takeWord_16 : decode cX8_takeWord 16 = .ok (.getfield 14, 3) := by decide +kernel
theorem dX8_takeWord_19 : decode cX8_takeWord 19 = .ok (.invokevirtual 63, 3) := by decide +kernel
theorem dX8_takeWord_22 : decode cX8_takeWord 22 = .ok (.invokevirtual 126, 3) := by decide +kernel
theorem dX8_takeWord_25 : decode cX8_takeWord 25 = .ok (.goto 4, 3) := by decide +kernel
theorem dX8_takeWord_28 : decode cX8_takeWord 28 = .ok (.aconst_null, 1) := by decide +kernel
theorem dX8_takeWord_29 : decode cX8_takeWord 29 = .ok (.astore_n 1, 1) := by decide +kernel
theorem dX8_takeWord_30 : decode cX8_takeWord 30 = .ok (.aload_n 0, 1) := by decide +kernel
theorem dX8_takeWord_31 : decode cX8_takeWord 31 = .ok (.getfield 14, 3) := by decide +kernel
theorem dX8_takeWord_34 : decode cX8_takeWord 34 = .ok (.iconst 0, 1) := by decide +kernel
theorem dX8_takeWord_35 : decode cX8_takeWord 35 = .ok (.invokevirtual 70, 3) := by decide +kernel
theorem dX8_takeWord_38 : decode cX8_takeWord 38 = .ok (.aload_n 1, 1) := by decide +kernel
theorem dX8_takeWord_39 : decode cX8_takeWord 39 = .ok (.areturn, 1) := by decide +kernel
theorem dX8_tell_0 : decode cX8_tell 0 = .ok (.aload_n 0, 1) := by decide +kernel
theorem dX8_tell_1 : decode cX8_tell 1 = .ok (.invokevirtual 155, 3) := by decide +kernel
theorem dX8_tell_4 : decode cX8_tell 4 = .ok (.astore_n 2, 1) := by decide +kernel
theorem dX8_tell_5 : decode cX8_tell 5 = .ok (.aload_n 2, 1) := by decide +kernel
theorem dX8_tell_6 : decode cX8_tell 6 = .ok (.ifnonnull 13, 3) := by decide +kernel
theorem dX8_tell_9 : decode cX8_tell 9 = .ok (.new 116, 3) := by decide +kernel
theorem dX8_tell_12 : decode cX8_tell 12 = .ok (.dup, 1) := by decide +kernel
theorem dX8_tell_13 : decode cX8_tell 13 = .ok (.ldc 158, 2) := by decide +kernel
theorem dX8_tell_15 : decode cX8_tell 15 = .ok (.invokespecial 120, 3) := by decide +kernel
theorem dX8_tell_18 : decode cX8_tell 18 = .ok (.athrow, 1) := by decide +kernel
theorem dX8_tell_19 : decode cX8_tell 19 = .ok (.aload_n 0, 1) := by decide +kernel
theorem dX8_tell_20 : decode cX8_tell 20 = .ok (.getfield 25, 3) := by decide +kernel
theorem dX8_tell_23 : decode cX8_tell 23 = .ok (.aload_n 0, 1) := by decide +kernel
theorem dX8_tell_24 : decode cX8_tell 24 = .ok (.getfield 21, 3) := by decide +kernel
theorem dX8_tell_27 : decode cX8_tell 27 = .ok (.invokevirtual 73, 3) := by decide +kernel
theorem dX8_tell_30 : decode cX8_tell 30 = .ok (.aload_n 0, 1) := by decide +kernel
theorem dX8_tell_31 : decode cX8_tell 31 = .ok (.aload_n 0, 1) := by decide +kernel
theorem dX8_tell_32 : decode cX8_tell 32 = .ok (.bipush 12, 2) := by decide +kernel
theorem dX8_tell_34 : decode cX8_tell 34 = .ok (.iload_n 1, 1) := by decide +kernel
theorem dX8_tell_35 : decode cX8_tell 35 = .ok (.iconst 0, 1) := by decide +kernel
theorem dX8_tell_36 : decode cX8_tell 36 = .ok (.aload_n 2, 1) := by decide +kernel
theorem dX8_tell_37 : decode cX8_tell 37 = .ok (.invokevirtual 103, 3) := by decide +kernel
theorem dX8_tell_40 : decode cX8_tell 40 = .ok (.invokevirtual 139, 3) := by decide +kernel
theorem dX8_tell_43 : decode cX8_tell 43 = .ok (.aload_n 0, 1) := by decide +kernel
theorem dX8_tell_44 : decode cX8_tell 44 = .ok (.getfield 48, 3) := by decide +kernel
theorem dX8_tell_47 : decode cX8_tell 47 = .ok (.getfield 160, 3) := by decide +kernel
theorem dX8_tell_50 : decode cX8_tell 50 = .ok (.invokevirtual 63, 3) := by decide +kernel
theorem dX8_tell_53 : decode cX8_tell 53 = .ok (.ireturn, 1) := by decide +kernel
theorem dX8_tellPiece_0 : decode cX8_tellPiece 0 = .ok (.aload_n 0, 1) := by decide +kernel
theorem dX8_tellPiece_1 : decode cX8_tellPiece 1 = .ok (.getfield 38, 3) := by decide +kernel
theorem dX8_tellPiece_4 : decode cX8_tellPiece 4 = .ok (.iload_n 1, 1) := by decide +kernel
theorem dX8_tellPiece_5 : decode cX8_tellPiece 5 = .ok (.invokevirtual 241, 3) := by decide +kernel
theorem dX8_tellPiece_8 : decode cX8_tellPiece 8 = .ok (.astore_n 3, 1) := by decide +kernel
theorem dX8_tellPiece_9 : decode cX8_tellPiece 9 = .ok (.aload_n 3, 1) := by decide +kernel
theorem dX8_tellPiece_10 : decode cX8_tellPiece 10 = .ok (.ifnull 7, 3) := by decide +kernel
theorem dX8_tellPiece_13 : decode cX8_tellPiece 13 = .ok (.aload_n 2, 1) := by decide +kernel
theorem dX8_tellPiece_14 : decode cX8_tellPiece 14 = .ok (.ifnonnull 5, 3) := by decide +kernel
theorem dX8_tellPiece_17 : decode cX8_tellPiece 17 = .ok (.iconst 1, 1) := by decide +kernel
theorem dX8_tellPiece_18 : decode cX8_tellPiece 18 = .ok (.ireturn, 1) := by decide +kernel
theorem dX8_tellPiece_19 : decode cX8_tellPiece 19 = .ok (.aload_n 0, 1) := by decide +kernel
theorem dX8_tellPiece_20 : decode cX8_tellPiece 20 = .ok (.getfield 48, 3) := by decide +kernel
theorem dX8_tellPiece_23 : decode cX8_tellPiece 23 = .ok (.aload_n 2, 1) := by decide +kernel
theorem dX8_tellPiece_24 : decode cX8_tellPiece 24 = .ok (.aload_n 3, 1) := by decide +kernel
theorem dX8_tellPiece_25 : decode cX8_tellPiece 25 = .ok (.aload_n 0, 1) := by decide +kernel
theorem dX8_tellPiece_26 : decode cX8_tellPiece 26 = .ok (.getfield 21, 3) := by decide +kernel
theorem dX8_tellPiece_29 : decode cX8_tellPiece 29 = .ok (.invokevirtual 247, 3) := by decide +kernel
theorem dX8_tellPiece_32 : decode cX8_tellPiece 32 = .ok (.ifCond .ne 5, 3) := by decide +kernel
theorem dX8_tellPiece_35 : decode cX8_tellPiece 35 = .ok (.iconst 2, 1) := by decide +kernel
theorem dX8_tellPiece_36 : decode cX8_tellPiece 36 = .ok (.ireturn, 1) := by decide +kernel
theorem dX8_tellPiece_37 : decode cX8_tellPiece 37 = .ok (.aload_n 0, 1) := by decide +kernel
theorem dX8_tellPiece_38 : decode cX8_tellPiece 38 = .ok (.getfield 21, 3) := by decide +kernel
theorem dX8_tellPiece_41 : decode cX8_tellPiece 41 = .ok (.iload_n 1, 1) := by decide +kernel
theorem dX8_tellPiece_42 : decode cX8_tellPiece 42 = .ok (.aload_n 2, 1) := by decide +kernel
theorem dX8_tellPiece_43 : decode cX8_tellPiece 43 = .ok (.invokevirtual 369, 3) := by decide +kernel
theorem dX8_tellPiece_46 : decode cX8_tellPiece 46 = .ok (.aload_n 0, 1) := by decide +kernel
theorem dX8_tellPiece_47 : decode cX8_tellPiece 47 = .ok (.getfield 48, 3) := by decide +kernel
theorem dX8_tellPiece_50 : decode cX8_tellPiece 50 = .ok (.aload_n 0, 1) := by decide +kernel
theorem dX8_tellPiece_51 : decode cX8_tellPiece 51 = .ok (.getfield 21, 3) := by decide +kernel
theorem dX8_tellPiece_54 : decode cX8_tellPiece 54 = .ok (.aload_n 0, 1) := by decide +kernel
theorem dX8_tellPiece_55 : decode cX8_tellPiece 55 = .ok (.getfield 38, 3) := by decide +kernel
theorem dX8_tellPiece_58 : decode cX8_tellPiece 58 = .ok (.invokevirtual 365, 3) := by decide +kernel
theorem dX8_tellPiece_61 : decode cX8_tellPiece 61 = .ok (.ifCond .ne 5, 3) := by decide +kernel
theorem dX8_tellPiece_64 : decode cX8_tellPiece 64 = .ok (.iconst 3, 1) := by decide +kernel
theorem dX8_tellPiece_65 : decode cX8_tellPiece 65 = .ok (.ireturn, 1) := by decide +kernel
theorem dX8_tellPiece_66 : decode cX8_tellPiece 66 = .ok (.aload_n 3, 1) := by decide +kernel
theorem dX8_tellPiece_67 : decode cX8_tellPiece 67 = .ok (.getfield 187, 3) := by decide +kernel
theorem dX8_tellPiece_70 : decode cX8_tellPiece 70 = .ok (.bipush 60, 2) := by decide +kernel
theorem dX8_tellPiece_72 : decode cX8_tellPiece 72 = .ok (.if_icmp .gt 29, 3) := by decide +kernel
theorem dX8_tellPiece_75 : decode cX8_tellPiece 75 = .ok (.aload_n 0, 1) := by decide +kernel
theorem dX8_tellPiece_76 : decode cX8_tellPiece 76 = .ok (.getfield 21, 3) := by decide +kernel
theorem dX8_tellPiece_79 : decode cX8_tellPiece 79 = .ok (.aload_n 0, 1) := by decide +kernel
theorem dX8_tellPiece_80 : decode cX8_tellPiece 80 = .ok (.getfield 38, 3) := by decide +kernel
theorem dX8_tellPiece_83 : decode cX8_tellPiece 83 = .ok (.getfield 373, 3) := by decide +kernel
theorem dX8_tellPiece_86 : decode cX8_tellPiece 86 = .ok (.aload_n 3, 1) := by decide +kernel
theorem dX8_tellPiece_87 : decode cX8_tellPiece 87 = .ok (.getfield 224, 3) := by decide +kernel
theorem dX8_tellPiece_90 : decode cX8_tellPiece 90 = .ok (.aload_n 3, 1) := by decide +kernel
theorem dX8_tellPiece_91 : decode cX8_tellPiece 91 = .ok (.getfield 187, 3) := by decide +kernel
theorem dX8_tellPiece_94 : decode cX8_tellPiece 94 = .ok (.invokevirtual 126, 3) := by decide +kernel
theorem dX8_tellPiece_97 : decode cX8_tellPiece 97 = .ok (.aload_n 2, 1) := by decide +kernel
theorem dX8_tellPiece_98 : decode cX8_tellPiece 98 = .ok (.invokevirtual 374, 3) := by decide +kernel
theorem dX8_tellPiece_101 : decode cX8_tellPiece 101 = .ok (.iconst 0, 1) := by decide +kernel
theorem dX8_tellPiece_102 : decode cX8_tellPiece 102 = .ok (.ireturn, 1) := by decide +kernel
theorem dX8_twice_0 : decode cX8_twice 0 = .ok (.aload_n 0, 1) := by decide +kernel
theorem dX8_twice_1 : decode cX8_twice 1 = .ok (.invokevirtual 276, 3) := by decide +kernel
theorem dX8_twice_4 : decode cX8_twice 4 = .ok (.aload_n 0, 1) := by decide +kernel
theorem dX8_twice_5 : decode cX8_twice 5 = .ok (.getfield 42, 3) := by decide +kernel
theorem dX8_twice_8 : decode cX8_twice 8 = .ok (.invokevirtual 136, 3) := by decide +kernel
theorem dX8_twice_11 : decode cX8_twice 11 = .ok (.aload_n 0, 1) := by decide +kernel
theorem dX8_twice_12 : decode cX8_twice 12 = .ok (.getfield 38, 3) := by decide +kernel
theorem dX8_twice_15 : decode cX8_twice 15 = .ok (.invokevirtual 136, 3) := by decide +kernel
theorem dX8_twice_18 : decode cX8_twice 18 = .ok (.if_icmp .eq 5, 3) := by decide +kernel
theorem dX8_twice_21 : decode cX8_twice 21 = .ok (.iconst 0, 1) := by decide +kernel
theorem dX8_twice_22 : decode cX8_twice 22 = .ok (.ireturn, 1) := by decide +kernel
theorem dX8_twice_23 : decode cX8_twice 23 = .ok (.iconst 0, 1) := by decide +kernel
theorem dX8_twice_24 : decode cX8_twice 24 = .ok (.istore_n 1, 1) := by decide +kernel
theorem dX8_twice_25 : decode cX8_twice 25 = .ok (.iload_n 1, 1) := by decide +kernel
theorem dX8_twice_26 : decode cX8_twice 26 = .ok (.aload_n 0, 1) := by decide +kernel
theorem dX8_twice_27 : decode cX8_twice 27 = .ok (.getfield 38, 3) := by decide +kernel
theorem dX8_twice_30 : decode cX8_twice 30 = .ok (.invokevirtual 136, 3) := by decide +kernel
theorem dX8_twice_33 : decode cX8_twice 33 = .ok (.if_icmp .ge 47, 3) := by decide +kernel
theorem dX8_twice_36 : decode cX8_twice 36 = .ok (.aload_n 0, 1) := by decide +kernel
theorem dX8_twice_37 : decode cX8_twice 37 = .ok (.getfield 38, 3) := by decide +kernel
theorem dX8_twice_40 : decode cX8_twice 40 = .ok (.iload_n 1, 1) := by decide +kernel
theorem dX8_twice_41 : decode cX8_twice 41 = .ok (.invokevirtual 241, 3) := by decide +kernel
theorem dX8_twice_44 : decode cX8_twice 44 = .ok (.astore_n 2, 1) := by decide +kernel
theorem dX8_twice_45 : decode cX8_twice 45 = .ok (.aload_n 0, 1) := by decide +kernel
theorem dX8_twice_46 : decode cX8_twice 46 = .ok (.getfield 42, 3) := by decide +kernel
theorem dX8_twice_49 : decode cX8_twice 49 = .ok (.iload_n 1, 1) := by decide +kernel
theorem dX8_twice_50 : decode cX8_twice 50 = .ok (.invokevirtual 241, 3) := by decide +kernel
theorem dX8_twice_53 : decode cX8_twice 53 = .ok (.astore_n 3, 1) := by decide +kernel
theorem dX8_twice_54 : decode cX8_twice 54 = .ok (.aload_n 2, 1) := by decide +kernel
theorem dX8_twice_55 : decode cX8_twice 55 = .ok (.ifnull 17, 3) := by decide +kernel
theorem dX8_twice_58 : decode cX8_twice 58 = .ok (.aload_n 3, 1) := by decide +kernel
theorem dX8_twice_59 : decode cX8_twice 59 = .ok (.ifnull 13, 3) := by decide +kernel
theorem dX8_twice_62 : decode cX8_twice 62 = .ok (.aload_n 0, 1) := by decide +kernel
theorem dX8_twice_63 : decode cX8_twice 63 = .ok (.iload_n 1, 1) := by decide +kernel
theorem dX8_twice_64 : decode cX8_twice 64 = .ok (.aload_n 2, 1) := by decide +kernel
theorem dX8_twice_65 : decode cX8_twice 65 = .ok (.aload_n 3, 1) := by decide +kernel
theorem dX8_twice_66 : decode cX8_twice 66 = .ok (.invokevirtual 283, 3) := by decide +kernel
theorem dX8_twice_69 : decode cX8_twice 69 = .ok (.ifCond .ne 5, 3) := by decide +kernel
theorem dX8_twice_72 : decode cX8_twice 72 = .ok (.iconst 0, 1) := by decide +kernel
theorem dX8_twice_73 : decode cX8_twice 73 = .ok (.ireturn, 1) := by decide +kernel
theorem dX8_twice_74 : decode cX8_twice 74 = .ok (.iinc 1 1, 3) := by decide +kernel
theorem dX8_twice_77 : decode cX8_twice 77 = .ok (.goto (-52), 3) := by decide +kernel
theorem dX8_twice_80 : decode cX8_twice 80 = .ok (.iconst 1, 1) := by decide +kernel
theorem dX8_twice_81 : decode cX8_twice 81 = .ok (.ireturn, 1) := by decide +kernel
theorem dX8_undo_0 : decode cX8_undo 0 = .ok (.aload_n 0, 1) := by decide +kernel
theorem dX8_undo_1 : decode cX8_undo 1 = .ok (.getfield 123, 3) := by decide +kernel
theorem dX8_undo_4 : decode cX8_undo 4 = .ok (.iconst 1, 1) := by decide +kernel
theorem dX8_undo_5 : decode cX8_undo 5 = .ok (.if_icmp .lt 29, 3) := by decide +kernel
theorem dX8_undo_8 : decode cX8_undo 8 = .ok (.aload_n 0, 1) := by decide +kernel
theorem dX8_undo_9 : decode cX8_undo 9 = .ok (.getfield 123, 3) := by decide +kernel
theorem dX8_undo_12 : decode cX8_undo 12 = .ok (.aload_n 0, 1) := by decide +kernel
theorem dX8_undo_13 : decode cX8_undo 13 = .ok (.getfield 31, 3) := by decide +kernel
theorem dX8_undo_16 : decode cX8_undo 16 = .ok (.arraylength, 1) := by decide +kernel
theorem dX8_undo_17 : decode cX8_undo 17 = .ok (.if_icmp .gt 17, 3) := by decide +kernel
theorem dX8_undo_20 : decode cX8_undo 20 = .ok (.aload_n 0, 1) := by decide +kernel
theorem dX8_undo_21 : decode cX8_undo 21 = .ok (.getfield 31, 3) := by decide +kernel
theorem dX8_undo_24 : decode cX8_undo 24 = .ok (.aload_n 0, 1) := by decide +kernel
theorem dX8_undo_25 : decode cX8_undo 25 = .ok (.getfield 123, 3) := by decide +kernel
theorem dX8_undo_28 : decode cX8_undo 28 = .ok (.iconst 1, 1) := by decide +kernel
theorem dX8_undo_29 : decode cX8_undo 29 = .ok (.isub, 1) := by decide +kernel
