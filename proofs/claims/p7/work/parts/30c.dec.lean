theorem dX4_readNumber_133 : decode cX4_readNumber 133 = .ok (.if_icmp .gt 23, 3) := by decide +kernel
theorem dX4_readNumber_136 : decode cX4_readNumber 136 = .ok (.aload_n 0, 1) := by decide +kernel
theorem dX4_readNumber_137 : decode cX4_readNumber 137 = .ok (.getfield 93, 3) := by decide +kernel
theorem dX4_readNumber_140 : decode cX4_readNumber 140 = .ok (.iload_n 1, 1) := by decide +kernel
theorem dX4_readNumber_141 : decode cX4_readNumber 141 = .ok (.if_icmp .lt 15, 3) := by decide +kernel
theorem dX4_readNumber_144 : decode cX4_readNumber 144 = .ok (.aload_n 0, 1) := by decide +kernel
theorem dX4_readNumber_145 : decode cX4_readNumber 145 = .ok (.getfield 93, 3) := by decide +kernel
theorem dX4_readNumber_148 : decode cX4_readNumber 148 = .ok (.iload_n 2, 1) := by decide +kernel
theorem dX4_readNumber_149 : decode cX4_readNumber 149 = .ok (.if_icmp .gt 7, 3) := by decide +kernel
theorem dX4_readNumber_152 : decode cX4_readNumber 152 = .ok (.iconst (-1), 1) := by decide +kernel
theorem dX4_readNumber_153 : decode cX4_readNumber 153 = .ok (.goto 4, 3) := by decide +kernel
theorem dX4_readNumber_156 : decode cX4_readNumber 156 = .ok (.iload_n 3, 1) := by decide +kernel
theorem dX4_readNumber_157 : decode cX4_readNumber 157 = .ok (.ireturn, 1) := by decide +kernel
theorem dX4_readSecond_0 : decode cX4_readSecond 0 = .ok (.aload_n 0, 1) := by decide +kernel
theorem dX4_readSecond_1 : decode cX4_readSecond 1 = .ok (.iconst 0, 1) := by decide +kernel
theorem dX4_readSecond_2 : decode cX4_readSecond 2 = .ok (.bipush 39, 2) := by decide +kernel
theorem dX4_readSecond_4 : decode cX4_readSecond 4 = .ok (.invokevirtual 90, 3) := by decide +kernel
theorem dX4_readSecond_7 : decode cX4_readSecond 7 = .ok (.istore_n 1, 1) := by decide +kernel
theorem dX4_readSecond_8 : decode cX4_readSecond 8 = .ok (.aload_n 0, 1) := by decide +kernel
theorem dX4_readSecond_9 : decode cX4_readSecond 9 = .ok (.aload_n 0, 1) := by decide +kernel
theorem dX4_readSecond_10 : decode cX4_readSecond 10 = .ok (.getfield 93, 3) := by decide +kernel
theorem dX4_readSecond_13 : decode cX4_readSecond 13 = .ok (.putfield 99, 3) := by decide +kernel
theorem dX4_readSecond_16 : decode cX4_readSecond 16 = .ok (.iload_n 1, 1) := by decide +kernel
theorem dX4_readSecond_17 : decode cX4_readSecond 17 = .ok (.ireturn, 1) := by decide +kernel
theorem dX4_readWord_0 : decode cX4_readWord 0 = .ok (.aload_n 0, 1) := by decide +kernel
theorem dX4_readWord_1 : decode cX4_readWord 1 = .ok (.getfield 14, 3) := by decide +kernel
theorem dX4_readWord_4 : decode cX4_readWord 4 = .ok (.aload_n 0, 1) := by decide +kernel
theorem dX4_readWord_5 : decode cX4_readWord 5 = .ok (.getfield 28, 3) := by decide +kernel
theorem dX4_readWord_8 : decode cX4_readWord 8 = .ok (.aload_n 0, 1) := by decide +kernel
theorem dX4_readWord_9 : decode cX4_readWord 9 = .ok (.getfield 14, 3) := by decide +kernel
theorem dX4_readWord_12 : decode cX4_readWord 12 = .ok (.invokevirtual 20, 3) := by decide +kernel
theorem dX4_readWord_15 : decode cX4_readWord 15 = .ok (.invokevirtual 24, 3) := by decide +kernel
theorem dX4_readWord_18 : decode cX4_readWord 18 = .ok (.istore_n 1, 1) := by decide +kernel
theorem dX4_readWord_19 : decode cX4_readWord 19 = .ok (.aload_n 0, 1) := by decide +kernel
theorem dX4_readWord_20 : decode cX4_readWord 20 = .ok (.iload_n 1, 1) := by decide +kernel
theorem dX4_readWord_21 : decode cX4_readWord 21 = .ok (.putfield 28, 3) := by decide +kernel
theorem dX4_readWord_24 : decode cX4_readWord 24 = .ok (.aload_n 0, 1) := by decide +kernel
theorem dX4_readWord_25 : decode cX4_readWord 25 = .ok (.aload_n 0, 1) := by decide +kernel
theorem dX4_readWord_26 : decode cX4_readWord 26 = .ok (.invokevirtual 40, 3) := by decide +kernel
theorem dX4_readWord_29 : decode cX4_readWord 29 = .ok (.putfield 28, 3) := by decide +kernel
theorem dX4_readWord_32 : decode cX4_readWord 32 = .ok (.aload_n 0, 1) := by decide +kernel
theorem dX4_readWord_33 : decode cX4_readWord 33 = .ok (.getfield 28, 3) := by decide +kernel
theorem dX4_readWord_36 : decode cX4_readWord 36 = .ok (.iload_n 1, 1) := by decide +kernel
theorem dX4_readWord_37 : decode cX4_readWord 37 = .ok (.isub, 1) := by decide +kernel
theorem dX4_readWord_38 : decode cX4_readWord 38 = .ok (.istore_n 2, 1) := by decide +kernel
theorem dX4_readWord_39 : decode cX4_readWord 39 = .ok (.iload_n 2, 1) := by decide +kernel
theorem dX4_readWord_40 : decode cX4_readWord 40 = .ok (.iconst 1, 1) := by decide +kernel
theorem dX4_readWord_41 : decode cX4_readWord 41 = .ok (.if_icmp .lt 9, 3) := by decide +kernel
theorem dX4_readWord_44 : decode cX4_readWord 44 = .ok (.iload_n 2, 1) := by decide +kernel
theorem dX4_readWord_45 : decode cX4_readWord 45 = .ok (.bipush 8, 2) := by decide +kernel
theorem dX4_readWord_47 : decode cX4_readWord 47 = .ok (.if_icmp .le 5, 3) := by decide +kernel
theorem dX4_readWord_50 : decode cX4_readWord 50 = .ok (.iload_n 1, 1) := by decide +kernel
theorem dX4_readWord_51 : decode cX4_readWord 51 = .ok (.ireturn, 1) := by decide +kernel
theorem dX4_readWord_52 : decode cX4_readWord 52 = .ok (.aload_n 0, 1) := by decide +kernel
theorem dX4_readWord_53 : decode cX4_readWord 53 = .ok (.aload_n 0, 1) := by decide +kernel
theorem dX4_readWord_54 : decode cX4_readWord 54 = .ok (.getfield 14, 3) := by decide +kernel
theorem dX4_readWord_57 : decode cX4_readWord 57 = .ok (.iload_n 1, 1) := by decide +kernel
theorem dX4_readWord_58 : decode cX4_readWord 58 = .ok (.iload_n 2, 1) := by decide +kernel
theorem dX4_readWord_59 : decode cX4_readWord 59 = .ok (.invokevirtual 102, 3) := by decide +kernel
theorem dX4_readWord_62 : decode cX4_readWord 62 = .ok (.putfield 106, 3) := by decide +kernel
theorem dX4_readWord_65 : decode cX4_readWord 65 = .ok (.iconst (-1), 1) := by decide +kernel
theorem dX4_readWord_66 : decode cX4_readWord 66 = .ok (.ireturn, 1) := by decide +kernel
theorem dX4_start_0 : decode cX4_start 0 = .ok (.aload_n 0, 1) := by decide +kernel
theorem dX4_start_1 : decode cX4_start 1 = .ok (.aload_n 1, 1) := by decide +kernel
theorem dX4_start_2 : decode cX4_start 2 = .ok (.putfield 14, 3) := by decide +kernel
theorem dX4_start_5 : decode cX4_start 5 = .ok (.aload_n 0, 1) := by decide +kernel
theorem dX4_start_6 : decode cX4_start 6 = .ok (.aload_n 0, 1) := by decide +kernel
theorem dX4_start_7 : decode cX4_start 7 = .ok (.getfield 14, 3) := by decide +kernel
theorem dX4_start_10 : decode cX4_start 10 = .ok (.iconst 0, 1) := by decide +kernel
theorem dX4_start_11 : decode cX4_start 11 = .ok (.aload_n 0, 1) := by decide +kernel
theorem dX4_start_12 : decode cX4_start 12 = .ok (.getfield 14, 3) := by decide +kernel
theorem dX4_start_15 : decode cX4_start 15 = .ok (.invokevirtual 20, 3) := by decide +kernel
theorem dX4_start_18 : decode cX4_start 18 = .ok (.invokevirtual 24, 3) := by decide +kernel
theorem dX4_start_21 : decode cX4_start 21 = .ok (.putfield 28, 3) := by decide +kernel
theorem dX4_start_24 : decode cX4_start 24 = .ok (.aload_n 0, 1) := by decide +kernel
theorem dX4_start_25 : decode cX4_start 25 = .ok (.aload_n 0, 1) := by decide +kernel
theorem dX4_start_26 : decode cX4_start 26 = .ok (.getfield 28, 3) := by decide +kernel
theorem dX4_start_29 : decode cX4_start 29 = .ok (.aload_n 0, 1) := by decide +kernel
theorem dX4_start_30 : decode cX4_start 30 = .ok (.getfield 14, 3) := by decide +kernel
theorem dX4_start_33 : decode cX4_start 33 = .ok (.invokevirtual 20, 3) := by decide +kernel
theorem dX4_start_36 : decode cX4_start 36 = .ok (.if_icmp .ge 7, 3) := by decide +kernel
theorem dX4_start_39 : decode cX4_start 39 = .ok (.iconst 1, 1) := by decide +kernel
theorem dX4_start_40 : decode cX4_start 40 = .ok (.goto 4, 3) := by decide +kernel
theorem dX4_start_43 : decode cX4_start 43 = .ok (.iconst 0, 1) := by decide +kernel
theorem dX4_start_44 : decode cX4_start 44 = .ok (.putfield 32, 3) := by decide +kernel
theorem dX4_start_47 : decode cX4_start 47 = .ok (.return_, 1) := by decide +kernel
theorem dX5_add_0 : decode cX5_add 0 = .ok (.aload_n 0, 1) := by decide +kernel
theorem dX5_add_1 : decode cX5_add 1 = .ok (.getfield 15, 3) := by decide +kernel
theorem dX5_add_4 : decode cX5_add 4 = .ok (.ifCond .lt 15, 3) := by decide +kernel
theorem dX5_add_7 : decode cX5_add 7 = .ok (.aload_n 0, 1) := by decide +kernel
theorem dX5_add_8 : decode cX5_add 8 = .ok (.getfield 15, 3) := by decide +kernel
theorem dX5_add_11 : decode cX5_add 11 = .ok (.aload_n 0, 1) := by decide +kernel
theorem dX5_add_12 : decode cX5_add 12 = .ok (.getfield 9, 3) := by decide +kernel
theorem dX5_add_15 : decode cX5_add 15 = .ok (.arraylength, 1) := by decide +kernel
theorem dX5_add_16 : decode cX5_add 16 = .ok (.if_icmp .lt 5, 3) := by decide +kernel
theorem dX5_add_19 : decode cX5_add 19 = .ok (.iconst 0, 1) := by decide +kernel
theorem dX5_add_20 : decode cX5_add 20 = .ok (.ireturn, 1) := by decide +kernel
theorem dX5_add_21 : decode cX5_add 21 = .ok (.aload_n 0, 1) := by decide +kernel
theorem dX5_add_22 : decode cX5_add 22 = .ok (.getfield 9, 3) := by decide +kernel
theorem dX5_add_25 : decode cX5_add 25 = .ok (.aload_n 0, 1) := by decide +kernel
theorem dX5_add_26 : decode cX5_add 26 = .ok (.getfield 15, 3) := by decide +kernel
theorem dX5_add_29 : decode cX5_add 29 = .ok (.iload_n 1, 1) := by decide +kernel
theorem dX5_add_30 : decode cX5_add 30 = .ok (.iastore, 1) := by decide +kernel
theorem dX5_add_31 : decode cX5_add 31 = .ok (.aload_n 0, 1) := by decide +kernel
theorem dX5_add_32 : decode cX5_add 32 = .ok (.dup, 1) := by decide +kernel
theorem dX5_add_33 : decode cX5_add 33 = .ok (.getfield 15, 3) := by decide +kernel
theorem dX5_add_36 : decode cX5_add 36 = .ok (.iconst 1, 1) := by decide +kernel
theorem dX5_add_37 : decode cX5_add 37 = .ok (.iadd, 1) := by decide +kernel
theorem dX5_add_38 : decode cX5_add 38 = .ok (.putfield 15, 3) := by decide +kernel
theorem dX5_add_41 : decode cX5_add 41 = .ok (.iconst 1, 1) := by decide +kernel
theorem dX5_add_42 : decode cX5_add 42 = .ok (.ireturn, 1) := by decide +kernel
theorem dX5_addPart_0 : decode cX5_addPart 0 = .ok (.iconst 1, 1) := by decide +kernel
theorem dX5_addPart_1 : decode cX5_addPart 1 = .ok (.istore 4, 2) := by decide +kernel
theorem dX5_addPart_3 : decode cX5_addPart 3 = .ok (.iload_n 2, 1) := by decide +kernel
theorem dX5_addPart_4 : decode cX5_addPart 4 = .ok (.istore 5, 2) := by decide +kernel
theorem dX5_addPart_6 : decode cX5_addPart 6 = .ok (.iload 5, 2) := by decide +kernel
theorem dX5_addPart_8 : decode cX5_addPart 8 = .ok (.iload_n 3, 1) := by decide +kernel
theorem dX5_addPart_9 : decode cX5_addPart 9 = .ok (.if_icmp .ge 26, 3) := by decide +kernel
theorem dX5_addPart_12 : decode cX5_addPart 12 = .ok (.iload 4, 2) := by decide +kernel
theorem dX5_addPart_14 : decode cX5_addPart 14 = .ok (.ifCond .eq 21, 3) := by decide +kernel
theorem dX5_addPart_17 : decode cX5_addPart 17 = .ok (.aload_n 0, 1) := by decide +kernel
theorem dX5_addPart_18 : decode cX5_addPart 18 = .ok (.aload_n 1, 1) := by decide +kernel
theorem dX5_addPart_19 : decode cX5_addPart 19 = .ok (.iload 5, 2) := by decide +kernel
theorem dX5_addPart_21 : decode cX5_addPart 21 = .ok (.invokevirtual 19, 3) := by decide +kernel
theorem dX5_addPart_24 : decode cX5_addPart 24 = .ok (.invokevirtual 23, 3) := by decide +kernel
theorem dX5_addPart_27 : decode cX5_addPart 27 = .ok (.istore 4, 2) := by decide +kernel
theorem dX5_addPart_29 : decode cX5_addPart 29 = .ok (.iinc 5 1, 3) := by decide +kernel
theorem dX5_addPart_32 : decode cX5_addPart 32 = .ok (.goto (-26), 3) := by decide +kernel
theorem dX5_addPart_35 : decode cX5_addPart 35 = .ok (.iload 4, 2) := by decide +kernel
theorem dX5_addPart_37 : decode cX5_addPart 37 = .ok (.ireturn, 1) := by decide +kernel
theorem dX5_behindBlanks_0 : decode cX5_behindBlanks 0 = .ok (.iload_n 1, 1) := by decide +kernel
theorem dX5_behindBlanks_1 : decode cX5_behindBlanks 1 = .ok (.istore_n 3, 1) := by decide +kernel
theorem dX5_behindBlanks_2 : decode cX5_behindBlanks 2 = .ok (.iload_n 3, 1) := by decide +kernel
theorem dX5_behindBlanks_3 : decode cX5_behindBlanks 3 = .ok (.ifCond .lt 36, 3) := by decide +kernel
theorem dX5_behindBlanks_6 : decode cX5_behindBlanks 6 = .ok (.iload_n 3, 1) := by decide +kernel
theorem dX5_behindBlanks_7 : decode cX5_behindBlanks 7 = .ok (.iload_n 2, 1) := by decide +kernel
theorem dX5_behindBlanks_8 : decode cX5_behindBlanks 8 = .ok (.if_icmp .ge 31, 3) := by decide +kernel
theorem dX5_behindBlanks_11 : decode cX5_behindBlanks 11 = .ok (.iload_n 3, 1) := by decide +kernel
theorem dX5_behindBlanks_12 : decode cX5_behindBlanks 12 = .ok (.aload_n 0, 1) := by decide +kernel
theorem dX5_behindBlanks_13 : decode cX5_behindBlanks 13 = .ok (.getfield 9, 3) := by decide +kernel
theorem dX5_behindBlanks_16 : decode cX5_behindBlanks 16 = .ok (.arraylength, 1) := by decide +kernel
theorem dX5_behindBlanks_17 : decode cX5_behindBlanks 17 = .ok (.if_icmp .ge 22, 3) := by decide +kernel
theorem dX5_behindBlanks_20 : decode cX5_behindBlanks 20 = .ok (.aload_n 0, 1) := by decide +kernel
theorem dX5_behindBlanks_21 : decode cX5_behindBlanks 21 = .ok (.getfield 9, 3) := by decide +kernel
theorem dX5_behindBlanks_24 : decode cX5_behindBlanks 24 = .ok (.iload_n 3, 1) := by decide +kernel
theorem dX5_behindBlanks_25 : decode cX5_behindBlanks 25 = .ok (.iaload, 1) := by decide +kernel
theorem dX5_behindBlanks_26 : decode cX5_behindBlanks 26 = .ok (.bipush 32, 2) := by decide +kernel
theorem dX5_behindBlanks_28 : decode cX5_behindBlanks 28 = .ok (.if_icmp .eq 5, 3) := by decide +kernel
theorem dX5_behindBlanks_31 : decode cX5_behindBlanks 31 = .ok (.iload_n 3, 1) := by decide +kernel
theorem dX5_behindBlanks_32 : decode cX5_behindBlanks 32 = .ok (.ireturn, 1) := by decide +kernel
theorem dX5_behindBlanks_33 : decode cX5_behindBlanks 33 = .ok (.iinc 3 1, 3) := by decide +kernel
theorem dX5_behindBlanks_36 : decode cX5_behindBlanks 36 = .ok (.goto (-34), 3) := by decide +kernel
theorem dX5_behindBlanks_39 : decode cX5_behindBlanks 39 = .ok (.iload_n 2, 1) := by decide +kernel
theorem dX5_behindBlanks_40 : decode cX5_behindBlanks 40 = .ok (.ireturn, 1) := by decide +kernel
theorem dX5_behindSpace_0 : decode cX5_behindSpace 0 = .ok (.iload_n 1, 1) := by decide +kernel
theorem dX5_behindSpace_1 : decode cX5_behindSpace 1 = .ok (.istore_n 3, 1) := by decide +kernel
theorem dX5_behindSpace_2 : decode cX5_behindSpace 2 = .ok (.iload_n 3, 1) := by decide +kernel
theorem dX5_behindSpace_3 : decode cX5_behindSpace 3 = .ok (.ifCond .lt 47, 3) := by decide +kernel
theorem dX5_behindSpace_6 : decode cX5_behindSpace 6 = .ok (.iload_n 3, 1) := by decide +kernel
theorem dX5_behindSpace_7 : decode cX5_behindSpace 7 = .ok (.iload_n 2, 1) := by decide +kernel
theorem dX5_behindSpace_8 : decode cX5_behindSpace 8 = .ok (.if_icmp .ge 42, 3) := by decide +kernel
theorem dX5_behindSpace_11 : decode cX5_behindSpace 11 = .ok (.iload_n 3, 1) := by decide +kernel
theorem dX5_behindSpace_12 : decode cX5_behindSpace 12 = .ok (.aload_n 0, 1) := by decide +kernel
theorem dX5_behindSpace_13 : decode cX5_behindSpace 13 = .ok (.getfield 9, 3) := by decide +kernel
theorem dX5_behindSpace_16 : decode cX5_behindSpace 16 = .ok (.arraylength, 1) := by decide +kernel
theorem dX5_behindSpace_17 : decode cX5_behindSpace 17 = .ok (.if_icmp .ge 33, 3) := by decide +kernel
theorem dX5_behindSpace_20 : decode cX5_behindSpace 20 = .ok (.aload_n 0, 1) := by decide +kernel
theorem dX5_behindSpace_21 : decode cX5_behindSpace 21 = .ok (.getfield 9, 3) := by decide +kernel
theorem dX5_behindSpace_24 : decode cX5_behindSpace 24 = .ok (.iload_n 3, 1) := by decide +kernel
theorem dX5_behindSpace_25 : decode cX5_behindSpace 25 = .ok (.iaload, 1) := by decide +kernel
theorem dX5_behindSpace_26 : decode cX5_behindSpace 26 = .ok (.bipush 32, 2) := by decide +kernel
theorem dX5_behindSpace_28 : decode cX5_behindSpace 28 = .ok (.if_icmp .eq 16, 3) := by decide +kernel
theorem dX5_behindSpace_31 : decode cX5_behindSpace 31 = .ok (.aload_n 0, 1) := by decide +kernel
theorem dX5_behindSpace_32 : decode cX5_behindSpace 32 = .ok (.getfield 9, 3) := by decide +kernel
theorem dX5_behindSpace_35 : decode cX5_behindSpace 35 = .ok (.iload_n 3, 1) := by decide +kernel
theorem dX5_behindSpace_36 : decode cX5_behindSpace 36 = .ok (.iaload, 1) := by decide +kernel
theorem dX5_behindSpace_37 : decode cX5_behindSpace 37 = .ok (.bipush 10, 2) := by decide +kernel
theorem dX5_behindSpace_39 : decode cX5_behindSpace 39 = .ok (.if_icmp .eq 5, 3) := by decide +kernel
theorem dX5_behindSpace_42 : decode cX5_behindSpace 42 = .ok (.iload_n 3, 1) := by decide +kernel
theorem dX5_behindSpace_43 : decode cX5_behindSpace 43 = .ok (.ireturn, 1) := by decide +kernel
theorem dX5_behindSpace_44 : decode cX5_behindSpace 44 = .ok (.iinc 3 1, 3) := by decide +kernel
theorem dX5_behindSpace_47 : decode cX5_behindSpace 47 = .ok (.goto (-45), 3) := by decide +kernel
theorem dX5_behindSpace_50 : decode cX5_behindSpace 50 = .ok (.iload_n 2, 1) := by decide +kernel
theorem dX5_behindSpace_51 : decode cX5_behindSpace 51 = .ok (.ireturn, 1) := by decide +kernel
theorem dX5_breaksCell_0 : decode cX5_breaksCell 0 = .ok (.iconst 0, 1) := by decide +kernel
theorem dX5_breaksCell_1 : decode cX5_breaksCell 1 = .ok (.istore_n 1, 1) := by decide +kernel
theorem dX5_breaksCell_2 : decode cX5_breaksCell 2 = .ok (.iload_n 1, 1) := by decide +kernel
theorem dX5_breaksCell_3 : decode cX5_breaksCell 3 = .ok (.aload_n 0, 1) := by decide +kernel
theorem dX5_breaksCell_4 : decode cX5_breaksCell 4 = .ok (.getfield 15, 3) := by decide +kernel
theorem dX5_breaksCell_7 : decode cX5_breaksCell 7 = .ok (.if_icmp .ge 53, 3) := by decide +kernel
theorem dX5_breaksCell_10 : decode cX5_breaksCell 10 = .ok (.iload_n 1, 1) := by decide +kernel
theorem dX5_breaksCell_11 : decode cX5_breaksCell 11 = .ok (.aload_n 0, 1) := by decide +kernel
theorem dX5_breaksCell_12 : decode cX5_breaksCell 12 = .ok (.getfield 9, 3) := by decide +kernel
theorem dX5_breaksCell_15 : decode cX5_breaksCell 15 = .ok (.arraylength, 1) := by decide +kernel
theorem dX5_breaksCell_16 : decode cX5_breaksCell 16 = .ok (.if_icmp .ge 44, 3) := by decide +kernel
theorem dX5_breaksCell_19 : decode cX5_breaksCell 19 = .ok (.aload_n 0, 1) := by decide +kernel
theorem dX5_breaksCell_20 : decode cX5_breaksCell 20 = .ok (.getfield 9, 3) := by decide +kernel
theorem dX5_breaksCell_23 : decode cX5_breaksCell 23 = .ok (.iload_n 1, 1) := by decide +kernel
theorem dX5_breaksCell_24 : decode cX5_breaksCell 24 = .ok (.iaload, 1) := by decide +kernel
theorem dX5_breaksCell_25 : decode cX5_breaksCell 25 = .ok (.bipush 44, 2) := by decide +kernel
theorem dX5_breaksCell_27 : decode cX5_breaksCell 27 = .ok (.if_icmp .eq 25, 3) := by decide +kernel
theorem dX5_breaksCell_30 : decode cX5_breaksCell 30 = .ok (.aload_n 0, 1) := by decide +kernel
theorem dX5_breaksCell_31 : decode cX5_breaksCell 31 = .ok (.getfield 9, 3) := by decide +kernel
theorem dX5_breaksCell_34 : decode cX5_breaksCell 34 = .ok (.iload_n 1, 1) := by decide +kernel
theorem dX5_breaksCell_35 : decode cX5_breaksCell 35 = .ok (.iaload, 1) := by decide +kernel
theorem dX5_breaksCell_36 : decode cX5_breaksCell 36 = .ok (.bipush 34, 2) := by decide +kernel
theorem dX5_breaksCell_38 : decode cX5_breaksCell 38 = .ok (.if_icmp .eq 14, 3) := by decide +kernel
theorem dX5_breaksCell_41 : decode cX5_breaksCell 41 = .ok (.aload_n 0, 1) := by decide +kernel
theorem dX5_breaksCell_42 : decode cX5_breaksCell 42 = .ok (.getfield 9, 3) := by decide +kernel
theorem dX5_breaksCell_45 : decode cX5_breaksCell 45 = .ok (.iload_n 1, 1) := by decide +kernel
theorem dX5_breaksCell_46 : decode cX5_breaksCell 46 = .ok (.iaload, 1) := by decide +kernel
theorem dX5_breaksCell_47 : decode cX5_breaksCell 47 = .ok (.bipush 10, 2) := by decide +kernel
theorem dX5_breaksCell_49 : decode cX5_breaksCell 49 = .ok (.if_icmp .ne 5, 3) := by decide +kernel
theorem dX5_breaksCell_52 : decode cX5_breaksCell 52 = .ok (.iconst 1, 1) := by decide +kernel
theorem dX5_breaksCell_53 : decode cX5_breaksCell 53 = .ok (.ireturn, 1) := by decide +kernel
theorem dX5_breaksCell_54 : decode cX5_breaksCell 54 = .ok (.iinc 1 1, 3) := by decide +kernel
theorem dX5_breaksCell_57 : decode cX5_breaksCell 57 = .ok (.goto (-55), 3) := by decide +kernel
theorem dX5_breaksCell_60 : decode cX5_breaksCell 60 = .ok (.iconst 0, 1) := by decide +kernel
theorem dX5_breaksCell_61 : decode cX5_breaksCell 61 = .ok (.ireturn, 1) := by decide +kernel
theorem dX5_cellEnd_0 : decode cX5_cellEnd 0 = .ok (.iload_n 1, 1) := by decide +kernel
theorem dX5_cellEnd_1 : decode cX5_cellEnd 1 = .ok (.istore_n 2, 1) := by decide +kernel
theorem dX5_cellEnd_2 : decode cX5_cellEnd 2 = .ok (.iload_n 2, 1) := by decide +kernel
theorem dX5_cellEnd_3 : decode cX5_cellEnd 3 = .ok (.ifCond .lt 50, 3) := by decide +kernel
theorem dX5_cellEnd_6 : decode cX5_cellEnd 6 = .ok (.iload_n 2, 1) := by decide +kernel
theorem dX5_cellEnd_7 : decode cX5_cellEnd 7 = .ok (.aload_n 0, 1) := by decide +kernel
theorem dX5_cellEnd_8 : decode cX5_cellEnd 8 = .ok (.getfield 15, 3) := by decide +kernel
theorem dX5_cellEnd_11 : decode cX5_cellEnd 11 = .ok (.if_icmp .ge 42, 3) := by decide +kernel
theorem dX5_cellEnd_14 : decode cX5_cellEnd 14 = .ok (.iload_n 2, 1) := by decide +kernel
theorem dX5_cellEnd_15 : decode cX5_cellEnd 15 = .ok (.aload_n 0, 1) := by decide +kernel
theorem dX5_cellEnd_16 : decode cX5_cellEnd 16 = .ok (.getfield 9, 3) := by decide +kernel
theorem dX5_cellEnd_19 : decode cX5_cellEnd 19 = .ok (.arraylength, 1) := by decide +kernel
theorem dX5_cellEnd_20 : decode cX5_cellEnd 20 = .ok (.if_icmp .ge 33, 3) := by decide +kernel
theorem dX5_cellEnd_23 : decode cX5_cellEnd 23 = .ok (.aload_n 0, 1) := by decide +kernel
theorem dX5_cellEnd_24 : decode cX5_cellEnd 24 = .ok (.getfield 9, 3) := by decide +kernel
theorem dX5_cellEnd_27 : decode cX5_cellEnd 27 = .ok (.iload_n 2, 1) := by decide +kernel
theorem dX5_cellEnd_28 : decode cX5_cellEnd 28 = .ok (.iaload, 1) := by decide +kernel
theorem dX5_cellEnd_29 : decode cX5_cellEnd 29 = .ok (.bipush 44, 2) := by decide +kernel
theorem dX5_cellEnd_31 : decode cX5_cellEnd 31 = .ok (.if_icmp .eq 14, 3) := by decide +kernel
theorem dX5_cellEnd_34 : decode cX5_cellEnd 34 = .ok (.aload_n 0, 1) := by decide +kernel
theorem dX5_cellEnd_35 : decode cX5_cellEnd 35 = .ok (.getfield 9, 3) := by decide +kernel
theorem dX5_cellEnd_38 : decode cX5_cellEnd 38 = .ok (.iload_n 2, 1) := by decide +kernel
theorem dX5_cellEnd_39 : decode cX5_cellEnd 39 = .ok (.iaload, 1) := by decide +kernel
theorem dX5_cellEnd_40 : decode cX5_cellEnd 40 = .ok (.bipush 10, 2) := by decide +kernel
theorem dX5_cellEnd_42 : decode cX5_cellEnd 42 = .ok (.if_icmp .ne 5, 3) := by decide +kernel
theorem dX5_cellEnd_45 : decode cX5_cellEnd 45 = .ok (.iload_n 2, 1) := by decide +kernel
theorem dX5_cellEnd_46 : decode cX5_cellEnd 46 = .ok (.ireturn, 1) := by decide +kernel
theorem dX5_cellEnd_47 : decode cX5_cellEnd 47 = .ok (.iinc 2 1, 3) := by decide +kernel
theorem dX5_cellEnd_50 : decode cX5_cellEnd 50 = .ok (.goto (-48), 3) := by decide +kernel
theorem dX5_cellEnd_53 : decode cX5_cellEnd 53 = .ok (.aload_n 0, 1) := by decide +kernel
theorem dX5_cellEnd_54 : decode cX5_cellEnd 54 = .ok (.getfield 15, 3) := by decide +kernel
theorem dX5_cellEnd_57 : decode cX5_cellEnd 57 = .ok (.ireturn, 1) := by decide +kernel
theorem dX5_cellQuoteEnd_0 : decode cX5_cellQuoteEnd 0 = .ok (.iconst 0, 1) := by decide +kernel
theorem dX5_cellQuoteEnd_1 : decode cX5_cellQuoteEnd 1 = .ok (.istore_n 2, 1) := by decide +kernel
theorem dX5_cellQuoteEnd_2 : decode cX5_cellQuoteEnd 2 = .ok (.iload_n 1, 1) := by decide +kernel
theorem dX5_cellQuoteEnd_3 : decode cX5_cellQuoteEnd 3 = .ok (.istore_n 3, 1) := by decide +kernel
theorem dX5_cellQuoteEnd_4 : decode cX5_cellQuoteEnd 4 = .ok (.iload_n 3, 1) := by decide +kernel
theorem dX5_cellQuoteEnd_5 : decode cX5_cellQuoteEnd 5 = .ok (.ifCond .lt 58, 3) := by decide +kernel
theorem dX5_cellQuoteEnd_8 : decode cX5_cellQuoteEnd 8 = .ok (.iload_n 3, 1) := by decide +kernel
theorem dX5_cellQuoteEnd_9 : decode cX5_cellQuoteEnd 9 = .ok (.aload_n 0, 1) := by decide +kernel
theorem dX5_cellQuoteEnd_10 : decode cX5_cellQuoteEnd 10 = .ok (.getfield 15, 3) := by decide +kernel
theorem dX5_cellQuoteEnd_13 : decode cX5_cellQuoteEnd 13 = .ok (.if_icmp .ge 50, 3) := by decide +kernel
theorem dX5_cellQuoteEnd_16 : decode cX5_cellQuoteEnd 16 = .ok (.iload_n 3, 1) := by decide +kernel
theorem dX5_cellQuoteEnd_17 : decode cX5_cellQuoteEnd 17 = .ok (.aload_n 0, 1) := by decide +kernel
theorem dX5_cellQuoteEnd_18 : decode cX5_cellQuoteEnd 18 = .ok (.getfield 9, 3) := by decide +kernel
theorem dX5_cellQuoteEnd_21 : decode cX5_cellQuoteEnd 21 = .ok (.arraylength, 1) := by decide +kernel
theorem dX5_cellQuoteEnd_22 : decode cX5_cellQuoteEnd 22 = .ok (.if_icmp .ge 41, 3) := by decide +kernel
theorem dX5_cellQuoteEnd_25 : decode cX5_cellQuoteEnd 25 = .ok (.aload_n 0, 1) := by decide +kernel
theorem dX5_cellQuoteEnd_26 : decode cX5_cellQuoteEnd 26 = .ok (.getfield 9, 3) := by decide +kernel
theorem dX5_cellQuoteEnd_29 : decode cX5_cellQuoteEnd 29 = .ok (.iload_n 3, 1) := by decide +kernel
theorem dX5_cellQuoteEnd_30 : decode cX5_cellQuoteEnd 30 = .ok (.iaload, 1) := by decide +kernel
theorem dX5_cellQuoteEnd_31 : decode cX5_cellQuoteEnd 31 = .ok (.bipush 34, 2) := by decide +kernel
theorem dX5_cellQuoteEnd_33 : decode cX5_cellQuoteEnd 33 = .ok (.if_icmp .ne 16, 3) := by decide +kernel
theorem dX5_cellQuoteEnd_36 : decode cX5_cellQuoteEnd 36 = .ok (.iload_n 2, 1) := by decide +kernel
theorem dX5_cellQuoteEnd_37 : decode cX5_cellQuoteEnd 37 = .ok (.ifCond .ne 7, 3) := by decide +kernel
theorem dX5_cellQuoteEnd_40 : decode cX5_cellQuoteEnd 40 = .ok (.iconst 1, 1) := by decide +kernel
theorem dX5_cellQuoteEnd_41 : decode cX5_cellQuoteEnd 41 = .ok (.goto 4, 3) := by decide +kernel
theorem dX5_cellQuoteEnd_44 : decode cX5_cellQuoteEnd 44 = .ok (.iconst 0, 1) := by decide +kernel
theorem dX5_cellQuoteEnd_45 : decode cX5_cellQuoteEnd 45 = .ok (.istore_n 2, 1) := by decide +kernel
theorem dX5_cellQuoteEnd_46 : decode cX5_cellQuoteEnd 46 = .ok (.goto 11, 3) := by decide +kernel
theorem dX5_cellQuoteEnd_49 : decode cX5_cellQuoteEnd 49 = .ok (.iload_n 2, 1) := by decide +kernel
theorem dX5_cellQuoteEnd_50 : decode cX5_cellQuoteEnd 50 = .ok (.ifCond .eq 7, 3) := by decide +kernel
theorem dX5_cellQuoteEnd_53 : decode cX5_cellQuoteEnd 53 = .ok (.iload_n 3, 1) := by decide +kernel
theorem dX5_cellQuoteEnd_54 : decode cX5_cellQuoteEnd 54 = .ok (.iconst 1, 1) := by decide +kernel
theorem dX5_cellQuoteEnd_55 : decode cX5_cellQuoteEnd 55 = .ok (.isub, 1) := by decide +kernel
theorem dX5_cellQuoteEnd_56 : decode cX5_cellQuoteEnd 56 = .ok (.ireturn, 1) := by decide +kernel
theorem dX5_cellQuoteEnd_57 : decode cX5_cellQuoteEnd 57 = .ok (.iinc 3 1, 3) := by decide +kernel
theorem dX5_cellQuoteEnd_60 : decode cX5_cellQuoteEnd 60 = .ok (.goto (-56), 3) := by decide +kernel
theorem dX5_cellQuoteEnd_63 : decode cX5_cellQuoteEnd 63 = .ok (.iload_n 2, 1) := by decide +kernel
theorem dX5_cellQuoteEnd_64 : decode cX5_cellQuoteEnd 64 = .ok (.ifCond .eq 12, 3) := by decide +kernel
theorem dX5_cellQuoteEnd_67 : decode cX5_cellQuoteEnd 67 = .ok (.aload_n 0, 1) := by decide +kernel
theorem dX5_cellQuoteEnd_68 : decode cX5_cellQuoteEnd 68 = .ok (.getfield 15, 3) := by decide +kernel
theorem dX5_cellQuoteEnd_71 : decode cX5_cellQuoteEnd 71 = .ok (.iconst 1, 1) := by decide +kernel
theorem dX5_cellQuoteEnd_72 : decode cX5_cellQuoteEnd 72 = .ok (.isub, 1) := by decide +kernel
theorem dX5_cellQuoteEnd_73 : decode cX5_cellQuoteEnd 73 = .ok (.goto 7, 3) := by decide +kernel
theorem dX5_cellQuoteEnd_76 : decode cX5_cellQuoteEnd 76 = .ok (.aload_n 0, 1) := by decide +kernel
theorem dX5_cellQuoteEnd_77 : decode cX5_cellQuoteEnd 77 = .ok (.getfield 15, 3) := by decide +kernel
theorem dX5_cellQuoteEnd_80 : decode cX5_cellQuoteEnd 80 = .ok (.ireturn, 1) := by decide +kernel
theorem dX5_countWords_0 : decode cX5_countWords 0 = .ok (.iconst 0, 1) := by decide +kernel
theorem dX5_countWords_1 : decode cX5_countWords 1 = .ok (.istore_n 3, 1) := by decide +kernel
theorem dX5_countWords_2 : decode cX5_countWords 2 = .ok (.iconst 0, 1) := by decide +kernel
theorem dX5_countWords_3 : decode cX5_countWords 3 = .ok (.istore 4, 2) := by decide +kernel
theorem dX5_countWords_5 : decode cX5_countWords 5 = .ok (.iload_n 1, 1) := by decide +kernel
theorem dX5_countWords_6 : decode cX5_countWords 6 = .ok (.istore 5, 2) := by decide +kernel
theorem dX5_countWords_8 : decode cX5_countWords 8 = .ok (.iload 5, 2) := by decide +kernel
theorem dX5_countWords_10 : decode cX5_countWords 10 = .ok (.iload_n 1, 1) := by decide +kernel
theorem dX5_countWords_11 : decode cX5_countWords 11 = .ok (.iload_n 2, 1) := by decide +kernel
theorem dX5_countWords_12 : decode cX5_countWords 12 = .ok (.iadd, 1) := by decide +kernel
theorem dX5_countWords_13 : decode cX5_countWords 13 = .ok (.if_icmp .ge 37, 3) := by decide +kernel
theorem dX5_countWords_16 : decode cX5_countWords 16 = .ok (.aload_n 0, 1) := by decide +kernel
theorem dX5_countWords_17 : decode cX5_countWords 17 = .ok (.iload 5, 2) := by decide +kernel
theorem dX5_countWords_19 : decode cX5_countWords 19 = .ok (.invokevirtual 19, 3) := by decide +kernel
theorem dX5_countWords_22 : decode cX5_countWords 22 = .ok (.invokestatic 34, 3) := by decide +kernel
theorem dX5_countWords_25 : decode cX5_countWords 25 = .ok (.istore 6, 2) := by decide +kernel
theorem dX5_countWords_27 : decode cX5_countWords 27 = .ok (.iload 6, 2) := by decide +kernel
theorem dX5_countWords_29 : decode cX5_countWords 29 = .ok (.ifCond .eq 11, 3) := by decide +kernel
theorem dX5_countWords_32 : decode cX5_countWords 32 = .ok (.iload 4, 2) := by decide +kernel
theorem dX5_countWords_34 : decode cX5_countWords 34 = .ok (.ifCond .ne 6, 3) := by decide +kernel
theorem dX5_countWords_37 : decode cX5_countWords 37 = .ok (.iinc 3 1, 3) := by decide +kernel
theorem dX5_countWords_40 : decode cX5_countWords 40 = .ok (.iload 6, 2) := by decide +kernel
theorem dX5_countWords_42 : decode cX5_countWords 42 = .ok (.istore 4, 2) := by decide +kernel
theorem dX5_countWords_44 : decode cX5_countWords 44 = .ok (.iinc 5 1, 3) := by decide +kernel
theorem dX5_countWords_47 : decode cX5_countWords 47 = .ok (.goto (-39), 3) := by decide +kernel
theorem dX5_countWords_50 : decode cX5_countWords 50 = .ok (.iload_n 3, 1) := by decide +kernel
theorem dX5_countWords_51 : decode cX5_countWords 51 = .ok (.ireturn, 1) := by decide +kernel
theorem dX5_cutTo_0 : decode cX5_cutTo 0 = .ok (.iload_n 1, 1) := by decide +kernel
theorem dX5_cutTo_1 : decode cX5_cutTo 1 = .ok (.ifCond .lt 16, 3) := by decide +kernel
theorem dX5_cutTo_4 : decode cX5_cutTo 4 = .ok (.iload_n 1, 1) := by decide +kernel
theorem dX5_cutTo_5 : decode cX5_cutTo 5 = .ok (.aload_n 0, 1) := by decide +kernel
theorem dX5_cutTo_6 : decode cX5_cutTo 6 = .ok (.getfield 15, 3) := by decide +kernel
theorem dX5_cutTo_9 : decode cX5_cutTo 9 = .ok (.if_icmp .ge 8, 3) := by decide +kernel
theorem dX5_cutTo_12 : decode cX5_cutTo 12 = .ok (.aload_n 0, 1) := by decide +kernel
theorem dX5_cutTo_13 : decode cX5_cutTo 13 = .ok (.iload_n 1, 1) := by decide +kernel
theorem dX5_cutTo_14 : decode cX5_cutTo 14 = .ok (.putfield 15, 3) := by decide +kernel
theorem dX5_cutTo_17 : decode cX5_cutTo 17 = .ok (.return_, 1) := by decide +kernel
theorem dX5_get_0 : decode cX5_get 0 = .ok (.iload_n 1, 1) := by decide +kernel
theorem dX5_get_1 : decode cX5_get 1 = .ok (.ifCond .lt 29, 3) := by decide +kernel
theorem dX5_get_4 : decode cX5_get 4 = .ok (.iload_n 1, 1) := by decide +kernel
theorem dX5_get_5 : decode cX5_get 5 = .ok (.aload_n 0, 1) := by decide +kernel
theorem dX5_get_6 : decode cX5_get 6 = .ok (.getfield 15, 3) := by decide +kernel
theorem dX5_get_9 : decode cX5_get 9 = .ok (.if_icmp .ge 21, 3) := by decide +kernel
theorem dX5_get_12 : decode cX5_get 12 = .ok (.iload_n 1, 1) := by decide +kernel
theorem dX5_get_13 : decode cX5_get 13 = .ok (.aload_n 0, 1) := by decide +kernel
theorem dX5_get_14 : decode cX5_get 14 = .ok (.getfield 9, 3) := by decide +kernel
theorem dX5_get_17 : decode cX5_get 17 = .ok (.arraylength, 1) := by decide +kernel
theorem dX5_get_18 : decode cX5_get 18 = .ok (.if_icmp .ge 12, 3) := by decide +kernel
theorem dX5_get_21 : decode cX5_get 21 = .ok (.aload_n 0, 1) := by decide +kernel
theorem dX5_get_22 : decode cX5_get 22 = .ok (.getfield 9, 3) := by decide +kernel
theorem dX5_get_25 : decode cX5_get 25 = .ok (.iload_n 1, 1) := by decide +kernel
theorem dX5_get_26 : decode cX5_get 26 = .ok (.iaload, 1) := by decide +kernel
theorem dX5_get_27 : decode cX5_get 27 = .ok (.goto 4, 3) := by decide +kernel
theorem dX5_get_30 : decode cX5_get 30 = .ok (.iconst (-1), 1) := by decide +kernel
theorem dX5_get_31 : decode cX5_get 31 = .ok (.ireturn, 1) := by decide +kernel
theorem dX5_hasLetter_0 : decode cX5_hasLetter 0 = .ok (.iload_n 1, 1) := by decide +kernel
theorem dX5_hasLetter_1 : decode cX5_hasLetter 1 = .ok (.istore_n 2, 1) := by decide +kernel
theorem dX5_hasLetter_2 : decode cX5_hasLetter 2 = .ok (.iload_n 2, 1) := by decide +kernel
theorem dX5_hasLetter_3 : decode cX5_hasLetter 3 = .ok (.aload_n 0, 1) := by decide +kernel
theorem dX5_hasLetter_4 : decode cX5_hasLetter 4 = .ok (.getfield 15, 3) := by decide +kernel
theorem dX5_hasLetter_7 : decode cX5_hasLetter 7 = .ok (.if_icmp .ge 22, 3) := by decide +kernel
theorem dX5_hasLetter_10 : decode cX5_hasLetter 10 = .ok (.aload_n 0, 1) := by decide +kernel
theorem dX5_hasLetter_11 : decode cX5_hasLetter 11 = .ok (.iload_n 2, 1) := by decide +kernel
theorem dX5_hasLetter_12 : decode cX5_hasLetter 12 = .ok (.invokevirtual 19, 3) := by decide +kernel
theorem dX5_hasLetter_15 : decode cX5_hasLetter 15 = .ok (.invokestatic 34, 3) := by decide +kernel
theorem dX5_hasLetter_18 : decode cX5_hasLetter 18 = .ok (.ifCond .eq 5, 3) := by decide +kernel
theorem dX5_hasLetter_21 : decode cX5_hasLetter 21 = .ok (.iconst 1, 1) := by decide +kernel
theorem dX5_hasLetter_22 : decode cX5_hasLetter 22 = .ok (.ireturn, 1) := by decide +kernel
theorem dX5_hasLetter_23 : decode cX5_hasLetter 23 = .ok (.iinc 2 1, 3) := by decide +kernel
theorem dX5_hasLetter_26 : decode cX5_hasLetter 26 = .ok (.goto (-24), 3) := by decide +kernel
theorem dX5_hasLetter_29 : decode cX5_hasLetter 29 = .ok (.iconst 0, 1) := by decide +kernel
theorem dX5_hasLetter_30 : decode cX5_hasLetter 30 = .ok (.ireturn, 1) := by decide +kernel
theorem dX5_hasSmall_0 : decode cX5_hasSmall 0 = .ok (.iconst 0, 1) := by decide +kernel
theorem dX5_hasSmall_1 : decode cX5_hasSmall 1 = .ok (.istore_n 3, 1) := by decide +kernel
theorem dX5_hasSmall_2 : decode cX5_hasSmall 2 = .ok (.iload_n 3, 1) := by decide +kernel
theorem dX5_hasSmall_3 : decode cX5_hasSmall 3 = .ok (.aload_n 2, 1) := by decide +kernel
theorem dX5_hasSmall_4 : decode cX5_hasSmall 4 = .ok (.invokevirtual 37, 3) := by decide +kernel
theorem dX5_hasSmall_7 : decode cX5_hasSmall 7 = .ok (.if_icmp .ge 29, 3) := by decide +kernel
theorem dX5_hasSmall_10 : decode cX5_hasSmall 10 = .ok (.aload_n 0, 1) := by decide +kernel
theorem dX5_hasSmall_11 : decode cX5_hasSmall 11 = .ok (.iload_n 1, 1) := by decide +kernel
theorem dX5_hasSmall_12 : decode cX5_hasSmall 12 = .ok (.iload_n 3, 1) := by decide +kernel
theorem dX5_hasSmall_13 : decode cX5_hasSmall 13 = .ok (.iadd, 1) := by decide +kernel
theorem dX5_hasSmall_14 : decode cX5_hasSmall 14 = .ok (.invokevirtual 19, 3) := by decide +kernel
theorem dX5_hasSmall_17 : decode cX5_hasSmall 17 = .ok (.invokestatic 44, 3) := by decide +kernel
theorem dX5_hasSmall_20 : decode cX5_hasSmall 20 = .ok (.aload_n 2, 1) := by decide +kernel
theorem dX5_hasSmall_21 : decode cX5_hasSmall 21 = .ok (.iload_n 3, 1) := by decide +kernel
theorem dX5_hasSmall_22 : decode cX5_hasSmall 22 = .ok (.invokevirtual 19, 3) := by decide +kernel
theorem dX5_hasSmall_25 : decode cX5_hasSmall 25 = .ok (.if_icmp .eq 5, 3) := by decide +kernel
theorem dX5_hasSmall_28 : decode cX5_hasSmall 28 = .ok (.iconst 0, 1) := by decide +kernel
theorem dX5_hasSmall_29 : decode cX5_hasSmall 29 = .ok (.ireturn, 1) := by decide +kernel
theorem dX5_hasSmall_30 : decode cX5_hasSmall 30 = .ok (.iinc 3 1, 3) := by decide +kernel
theorem dX5_hasSmall_33 : decode cX5_hasSmall 33 = .ok (.goto (-31), 3) := by decide +kernel
theorem dX5_hasSmall_36 : decode cX5_hasSmall 36 = .ok (.iconst 1, 1) := by decide +kernel
theorem dX5_hasSmall_37 : decode cX5_hasSmall 37 = .ok (.ireturn, 1) := by decide +kernel
theorem dX5_hasWord_0 : decode cX5_hasWord 0 = .ok (.iload_n 1, 1) := by decide +kernel
theorem dX5_hasWord_1 : decode cX5_hasWord 1 = .ok (.istore 4, 2) := by decide +kernel
theorem dX5_hasWord_3 : decode cX5_hasWord 3 = .ok (.iload 4, 2) := by decide +kernel
theorem dX5_hasWord_5 : decode cX5_hasWord 5 = .ok (.iload_n 1, 1) := by decide +kernel
theorem dX5_hasWord_6 : decode cX5_hasWord 6 = .ok (.iload_n 2, 1) := by decide +kernel
theorem dX5_hasWord_7 : decode cX5_hasWord 7 = .ok (.iadd, 1) := by decide +kernel
theorem dX5_hasWord_8 : decode cX5_hasWord 8 = .ok (.aload_n 3, 1) := by decide +kernel
theorem dX5_hasWord_9 : decode cX5_hasWord 9 = .ok (.invokevirtual 37, 3) := by decide +kernel
theorem dX5_hasWord_12 : decode cX5_hasWord 12 = .ok (.isub, 1) := by decide +kernel
theorem dX5_hasWord_13 : decode cX5_hasWord 13 = .ok (.if_icmp .gt 21, 3) := by decide +kernel
theorem dX5_hasWord_16 : decode cX5_hasWord 16 = .ok (.aload_n 0, 1) := by decide +kernel
theorem dX5_hasWord_17 : decode cX5_hasWord 17 = .ok (.iload 4, 2) := by decide +kernel
theorem dX5_hasWord_19 : decode cX5_hasWord 19 = .ok (.aload_n 3, 1) := by decide +kernel
theorem dX5_hasWord_20 : decode cX5_hasWord 20 = .ok (.invokevirtual 40, 3) := by decide +kernel
theorem dX5_hasWord_23 : decode cX5_hasWord 23 = .ok (.ifCond .eq 5, 3) := by decide +kernel
theorem dX5_hasWord_26 : decode cX5_hasWord 26 = .ok (.iconst 1, 1) := by decide +kernel
theorem dX5_hasWord_27 : decode cX5_hasWord 27 = .ok (.ireturn, 1) := by decide +kernel
theorem dX5_hasWord_28 : decode cX5_hasWord 28 = .ok (.iinc 4 1, 3) := by decide +kernel
theorem dX5_hasWord_31 : decode cX5_hasWord 31 = .ok (.goto (-28), 3) := by decide +kernel
theorem dX5_hasWord_34 : decode cX5_hasWord 34 = .ok (.iconst 0, 1) := by decide +kernel
theorem dX5_hasWord_35 : decode cX5_hasWord 35 = .ok (.ireturn, 1) := by decide +kernel
theorem dX5_init_0 : decode cX5_init 0 = .ok (.aload_n 0, 1) := by decide +kernel
theorem dX5_init_1 : decode cX5_init 1 = .ok (.invokespecial 3, 3) := by decide +kernel
theorem dX5_init_4 : decode cX5_init 4 = .ok (.aload_n 0, 1) := by decide +kernel
theorem dX5_init_5 : decode cX5_init 5 = .ok (.iload_n 1, 1) := by decide +kernel
theorem dX5_init_6 : decode cX5_init 6 = .ok (.ifCond .le 7, 3) := by decide +kernel
theorem dX5_init_9 : decode cX5_init 9 = .ok (.iload_n 1, 1) := by decide +kernel
theorem dX5_init_10 : decode cX5_init 10 = .ok (.goto 4, 3) := by decide +kernel
theorem dX5_init_13 : decode cX5_init 13 = .ok (.iconst 0, 1) := by decide +kernel
theorem dX5_init_14 : decode cX5_init 14 = .ok (.newarray .int, 2) := by decide +kernel
theorem dX5_init_16 : decode cX5_init 16 = .ok (.putfield 9, 3) := by decide +kernel
theorem dX5_init_19 : decode cX5_init 19 = .ok (.return_, 1) := by decide +kernel
theorem dX5_isSame_0 : decode cX5_isSame 0 = .ok (.iconst 0, 1) := by decide +kernel
theorem dX5_isSame_1 : decode cX5_isSame 1 = .ok (.istore 5, 2) := by decide +kernel
theorem dX5_isSame_3 : decode cX5_isSame 3 = .ok (.iload 5, 2) := by decide +kernel
theorem dX5_isSame_5 : decode cX5_isSame 5 = .ok (.iload 4, 2) := by decide +kernel
theorem dX5_isSame_7 : decode cX5_isSame 7 = .ok (.if_icmp .ge 30, 3) := by decide +kernel
theorem dX5_isSame_10 : decode cX5_isSame 10 = .ok (.aload_n 0, 1) := by decide +kernel
theorem dX5_isSame_11 : decode cX5_isSame 11 = .ok (.iload_n 1, 1) := by decide +kernel
theorem dX5_isSame_12 : decode cX5_isSame 12 = .ok (.iload 5, 2) := by decide +kernel
theorem dX5_isSame_14 : decode cX5_isSame 14 = .ok (.iadd, 1) := by decide +kernel
theorem dX5_isSame_15 : decode cX5_isSame 15 = .ok (.invokevirtual 19, 3) := by decide +kernel
theorem dX5_isSame_18 : decode cX5_isSame 18 = .ok (.aload_n 2, 1) := by decide +kernel
theorem dX5_isSame_19 : decode cX5_isSame 19 = .ok (.iload_n 3, 1) := by decide +kernel
theorem dX5_isSame_20 : decode cX5_isSame 20 = .ok (.iload 5, 2) := by decide +kernel
theorem dX5_isSame_22 : decode cX5_isSame 22 = .ok (.iadd, 1) := by decide +kernel
theorem dX5_isSame_23 : decode cX5_isSame 23 = .ok (.invokevirtual 19, 3) := by decide +kernel
theorem dX5_isSame_26 : decode cX5_isSame 26 = .ok (.if_icmp .eq 5, 3) := by decide +kernel
theorem dX5_isSame_29 : decode cX5_isSame 29 = .ok (.iconst 0, 1) := by decide +kernel
theorem dX5_isSame_30 : decode cX5_isSame 30 = .ok (.ireturn, 1) := by decide +kernel
theorem dX5_isSame_31 : decode cX5_isSame 31 = .ok (.iinc 5 1, 3) := by decide +kernel
theorem dX5_isSame_34 : decode cX5_isSame 34 = .ok (.goto (-31), 3) := by decide +kernel
theorem dX5_isSame_37 : decode cX5_isSame 37 = .ok (.iconst 1, 1) := by decide +kernel
theorem dX5_isSame_38 : decode cX5_isSame 38 = .ok (.ireturn, 1) := by decide +kernel
theorem dX5_isText_0 : decode cX5_isText 0 = .ok (.iload_n 2, 1) := by decide +kernel
theorem dX5_isText_1 : decode cX5_isText 1 = .ok (.aload_n 3, 1) := by decide +kernel
theorem dX5_isText_2 : decode cX5_isText 2 = .ok (.invokevirtual 47, 3) := by decide +kernel
theorem dX5_isText_5 : decode cX5_isText 5 = .ok (.if_icmp .eq 5, 3) := by decide +kernel
theorem dX5_isText_8 : decode cX5_isText 8 = .ok (.iconst 0, 1) := by decide +kernel
theorem dX5_isText_9 : decode cX5_isText 9 = .ok (.ireturn, 1) := by decide +kernel
theorem dX5_isText_10 : decode cX5_isText 10 = .ok (.iconst 0, 1) := by decide +kernel
theorem dX5_isText_11 : decode cX5_isText 11 = .ok (.istore 4, 2) := by decide +kernel
theorem dX5_isText_13 : decode cX5_isText 13 = .ok (.iload 4, 2) := by decide +kernel
theorem dX5_isText_15 : decode cX5_isText 15 = .ok (.iload_n 2, 1) := by decide +kernel
theorem dX5_isText_16 : decode cX5_isText 16 = .ok (.if_icmp .ge 37, 3) := by decide +kernel
theorem dX5_isText_19 : decode cX5_isText 19 = .ok (.iload 4, 2) := by decide +kernel
theorem dX5_isText_21 : decode cX5_isText 21 = .ok (.aload_n 3, 1) := by decide +kernel
theorem dX5_isText_22 : decode cX5_isText 22 = .ok (.invokevirtual 47, 3) := by decide +kernel
theorem dX5_isText_25 : decode cX5_isText 25 = .ok (.if_icmp .ge 28, 3) := by decide +kernel
theorem dX5_isText_28 : decode cX5_isText 28 = .ok (.aload_n 0, 1) := by decide +kernel
theorem dX5_isText_29 : decode cX5_isText 29 = .ok (.iload_n 1, 1) := by decide +kernel
theorem dX5_isText_30 : decode cX5_isText 30 = .ok (.iload 4, 2) := by decide +kernel
theorem dX5_isText_32 : decode cX5_isText 32 = .ok (.iadd, 1) := by decide +kernel
theorem dX5_isText_33 : decode cX5_isText 33 = .ok (.invokevirtual 19, 3) := by decide +kernel
theorem dX5_isText_36 : decode cX5_isText 36 = .ok (.aload_n 3, 1) := by decide +kernel
theorem dX5_isText_37 : decode cX5_isText 37 = .ok (.iload 4, 2) := by decide +kernel
theorem dX5_isText_39 : decode cX5_isText 39 = .ok (.invokevirtual 52, 3) := by decide +kernel
theorem dX5_isText_42 : decode cX5_isText 42 = .ok (.if_icmp .eq 5, 3) := by decide +kernel
theorem dX5_isText_45 : decode cX5_isText 45 = .ok (.iconst 0, 1) := by decide +kernel
theorem dX5_isText_46 : decode cX5_isText 46 = .ok (.ireturn, 1) := by decide +kernel
theorem dX5_isText_47 : decode cX5_isText 47 = .ok (.iinc 4 1, 3) := by decide +kernel
theorem dX5_isText_50 : decode cX5_isText 50 = .ok (.goto (-37), 3) := by decide +kernel
theorem dX5_isText_53 : decode cX5_isText 53 = .ok (.iconst 1, 1) := by decide +kernel
theorem dX5_isText_54 : decode cX5_isText 54 = .ok (.ireturn, 1) := by decide +kernel
theorem dX5_isWord_0 : decode cX5_isWord 0 = .ok (.iconst 0, 1) := by decide +kernel
theorem dX5_isWord_1 : decode cX5_isWord 1 = .ok (.istore_n 1, 1) := by decide +kernel
theorem dX5_isWord_2 : decode cX5_isWord 2 = .ok (.iload_n 1, 1) := by decide +kernel
theorem dX5_isWord_3 : decode cX5_isWord 3 = .ok (.aload_n 0, 1) := by decide +kernel
theorem dX5_isWord_4 : decode cX5_isWord 4 = .ok (.getfield 15, 3) := by decide +kernel
theorem dX5_isWord_7 : decode cX5_isWord 7 = .ok (.if_icmp .ge 31, 3) := by decide +kernel
theorem dX5_isWord_10 : decode cX5_isWord 10 = .ok (.aload_n 0, 1) := by decide +kernel
theorem dX5_isWord_11 : decode cX5_isWord 11 = .ok (.iload_n 1, 1) := by decide +kernel
theorem dX5_isWord_12 : decode cX5_isWord 12 = .ok (.invokevirtual 19, 3) := by decide +kernel
theorem dX5_isWord_15 : decode cX5_isWord 15 = .ok (.bipush 97, 2) := by decide +kernel
theorem dX5_isWord_17 : decode cX5_isWord 17 = .ok (.if_icmp .lt 13, 3) := by decide +kernel
theorem dX5_isWord_20 : decode cX5_isWord 20 = .ok (.aload_n 0, 1) := by decide +kernel
theorem dX5_isWord_21 : decode cX5_isWord 21 = .ok (.iload_n 1, 1) := by decide +kernel
theorem dX5_isWord_22 : decode cX5_isWord 22 = .ok (.invokevirtual 19, 3) := by decide +kernel
theorem dX5_isWord_25 : decode cX5_isWord 25 = .ok (.bipush 122, 2) := by decide +kernel
theorem dX5_isWord_27 : decode cX5_isWord 27 = .ok (.if_icmp .le 5, 3) := by decide +kernel
theorem dX5_isWord_30 : decode cX5_isWord 30 = .ok (.iconst 0, 1) := by decide +kernel
theorem dX5_isWord_31 : decode cX5_isWord 31 = .ok (.ireturn, 1) := by decide +kernel
theorem dX5_isWord_32 : decode cX5_isWord 32 = .ok (.iinc 1 1, 3) := by decide +kernel
theorem dX5_isWord_35 : decode cX5_isWord 35 = .ok (.goto (-33), 3) := by decide +kernel
theorem dX5_isWord_38 : decode cX5_isWord 38 = .ok (.aload_n 0, 1) := by decide +kernel
theorem dX5_isWord_39 : decode cX5_isWord 39 = .ok (.getfield 15, 3) := by decide +kernel
theorem dX5_isWord_42 : decode cX5_isWord 42 = .ok (.iconst 1, 1) := by decide +kernel
theorem dX5_isWord_43 : decode cX5_isWord 43 = .ok (.if_icmp .lt 16, 3) := by decide +kernel
theorem dX5_isWord_46 : decode cX5_isWord 46 = .ok (.aload_n 0, 1) := by decide +kernel
theorem dX5_isWord_47 : decode cX5_isWord 47 = .ok (.getfield 15, 3) := by decide +kernel
theorem dX5_isWord_50 : decode cX5_isWord 50 = .ok (.bipush 8, 2) := by decide +kernel
theorem dX5_isWord_52 : decode cX5_isWord 52 = .ok (.if_icmp .gt 7, 3) := by decide +kernel
theorem dX5_isWord_55 : decode cX5_isWord 55 = .ok (.iconst 1, 1) := by decide +kernel
theorem dX5_isWord_56 : decode cX5_isWord 56 = .ok (.goto 4, 3) := by decide +kernel
theorem dX5_isWord_59 : decode cX5_isWord 59 = .ok (.iconst 0, 1) := by decide +kernel
theorem dX5_isWord_60 : decode cX5_isWord 60 = .ok (.ireturn, 1) := by decide +kernel
theorem dX5_next_0 : decode cX5_next 0 = .ok (.iload_n 2, 1) := by decide +kernel
theorem dX5_next_1 : decode cX5_next 1 = .ok (.istore 4, 2) := by decide +kernel
theorem dX5_next_3 : decode cX5_next 3 = .ok (.iload 4, 2) := by decide +kernel
theorem dX5_next_5 : decode cX5_next 5 = .ok (.ifCond .lt 39, 3) := by decide +kernel
theorem dX5_next_8 : decode cX5_next 8 = .ok (.iload 4, 2) := by decide +kernel
theorem dX5_next_10 : decode cX5_next 10 = .ok (.iload_n 3, 1) := by decide +kernel
theorem dX5_next_11 : decode cX5_next 11 = .ok (.if_icmp .ge 33, 3) := by decide +kernel
theorem dX5_next_14 : decode cX5_next 14 = .ok (.iload 4, 2) := by decide +kernel
theorem dX5_next_16 : decode cX5_next 16 = .ok (.aload_n 0, 1) := by decide +kernel
theorem dX5_next_17 : decode cX5_next 17 = .ok (.getfield 9, 3) := by decide +kernel
theorem dX5_next_20 : decode cX5_next 20 = .ok (.arraylength, 1) := by decide +kernel
theorem dX5_next_21 : decode cX5_next 21 = .ok (.if_icmp .ge 23, 3) := by decide +kernel
theorem dX5_next_24 : decode cX5_next 24 = .ok (.aload_n 0, 1) := by decide +kernel
theorem dX5_next_25 : decode cX5_next 25 = .ok (.getfield 9, 3) := by decide +kernel
theorem dX5_next_28 : decode cX5_next 28 = .ok (.iload 4, 2) := by decide +kernel
theorem dX5_next_30 : decode cX5_next 30 = .ok (.iaload, 1) := by decide +kernel
theorem dX5_next_31 : decode cX5_next 31 = .ok (.iload_n 1, 1) := by decide +kernel
theorem dX5_next_32 : decode cX5_next 32 = .ok (.if_icmp .ne 6, 3) := by decide +kernel
theorem dX5_next_35 : decode cX5_next 35 = .ok (.iload 4, 2) := by decide +kernel
theorem dX5_next_37 : decode cX5_next 37 = .ok (.ireturn, 1) := by decide +kernel
theorem dX5_next_38 : decode cX5_next 38 = .ok (.iinc 4 1, 3) := by decide +kernel
theorem dX5_next_41 : decode cX5_next 41 = .ok (.goto (-38), 3) := by decide +kernel
theorem dX5_next_44 : decode cX5_next 44 = .ok (.iload_n 3, 1) := by decide +kernel
theorem dX5_next_45 : decode cX5_next 45 = .ok (.ireturn, 1) := by decide +kernel
theorem dX5_part_0 : decode cX5_part 0 = .ok (.new 10, 3) := by decide +kernel
theorem dX5_part_3 : decode cX5_part 3 = .ok (.dup, 1) := by decide +kernel
theorem dX5_part_4 : decode cX5_part 4 = .ok (.iload_n 2, 1) := by decide +kernel
theorem dX5_part_5 : decode cX5_part 5 = .ok (.invokespecial 27, 3) := by decide +kernel
theorem dX5_part_8 : decode cX5_part 8 = .ok (.astore_n 3, 1) := by decide +kernel
theorem dX5_part_9 : decode cX5_part 9 = .ok (.aload_n 3, 1) := by decide +kernel
theorem dX5_part_10 : decode cX5_part 10 = .ok (.aload_n 0, 1) := by decide +kernel
theorem dX5_part_11 : decode cX5_part 11 = .ok (.iload_n 1, 1) := by decide +kernel
theorem dX5_part_12 : decode cX5_part 12 = .ok (.iload_n 1, 1) := by decide +kernel
theorem dX5_part_13 : decode cX5_part 13 = .ok (.iload_n 2, 1) := by decide +kernel
theorem dX5_part_14 : decode cX5_part 14 = .ok (.iadd, 1) := by decide +kernel
theorem dX5_part_15 : decode cX5_part 15 = .ok (.invokevirtual 30, 3) := by decide +kernel
theorem dX5_part_18 : decode cX5_part 18 = .ok (.pop, 1) := by decide +kernel
theorem dX5_part_19 : decode cX5_part 19 = .ok (.aload_n 3, 1) := by decide +kernel
theorem dX5_part_20 : decode cX5_part 20 = .ok (.areturn, 1) := by decide +kernel
theorem dX5_quoteEnd_0 : decode cX5_quoteEnd 0 = .ok (.iconst 0, 1) := by decide +kernel
theorem dX5_quoteEnd_1 : decode cX5_quoteEnd 1 = .ok (.istore_n 2, 1) := by decide +kernel
theorem dX5_quoteEnd_2 : decode cX5_quoteEnd 2 = .ok (.iload_n 1, 1) := by decide +kernel
theorem dX5_quoteEnd_3 : decode cX5_quoteEnd 3 = .ok (.istore_n 3, 1) := by decide +kernel
theorem dX5_quoteEnd_4 : decode cX5_quoteEnd 4 = .ok (.iload_n 3, 1) := by decide +kernel
theorem dX5_quoteEnd_5 : decode cX5_quoteEnd 5 = .ok (.ifCond .lt 64, 3) := by decide +kernel
theorem dX5_quoteEnd_8 : decode cX5_quoteEnd 8 = .ok (.iload_n 3, 1) := by decide +kernel
theorem dX5_quoteEnd_9 : decode cX5_quoteEnd 9 = .ok (.aload_n 0, 1) := by decide +kernel
theorem dX5_quoteEnd_10 : decode cX5_quoteEnd 10 = .ok (.getfield 15, 3) := by decide +kernel
theorem dX5_quoteEnd_13 : decode cX5_quoteEnd 13 = .ok (.if_icmp .ge 56, 3) := by decide +kernel
theorem dX5_quoteEnd_16 : decode cX5_quoteEnd 16 = .ok (.iload_n 3, 1) := by decide +kernel
theorem dX5_quoteEnd_17 : decode cX5_quoteEnd 17 = .ok (.aload_n 0, 1) := by decide +kernel
theorem dX5_quoteEnd_18 : decode cX5_quoteEnd 18 = .ok (.getfield 9, 3) := by decide +kernel
theorem dX5_quoteEnd_21 : decode cX5_quoteEnd 21 = .ok (.arraylength, 1) := by decide +kernel
theorem dX5_quoteEnd_22 : decode cX5_quoteEnd 22 = .ok (.if_icmp .ge 47, 3) := by decide +kernel
theorem dX5_quoteEnd_25 : decode cX5_quoteEnd 25 = .ok (.aload_n 0, 1) := by decide +kernel
theorem dX5_quoteEnd_26 : decode cX5_quoteEnd 26 = .ok (.getfield 9, 3) := by decide +kernel
theorem dX5_quoteEnd_29 : decode cX5_quoteEnd 29 = .ok (.iload_n 3, 1) := by decide +kernel
theorem dX5_quoteEnd_30 : decode cX5_quoteEnd 30 = .ok (.iaload, 1) := by decide +kernel
theorem dX5_quoteEnd_31 : decode cX5_quoteEnd 31 = .ok (.bipush 34, 2) := by decide +kernel
theorem dX5_quoteEnd_33 : decode cX5_quoteEnd 33 = .ok (.if_icmp .ne 9, 3) := by decide +kernel
theorem dX5_quoteEnd_36 : decode cX5_quoteEnd 36 = .ok (.iload_n 2, 1) := by decide +kernel
theorem dX5_quoteEnd_37 : decode cX5_quoteEnd 37 = .ok (.ifCond .ne 5, 3) := by decide +kernel
theorem dX5_quoteEnd_40 : decode cX5_quoteEnd 40 = .ok (.iload_n 3, 1) := by decide +kernel
theorem dX5_quoteEnd_41 : decode cX5_quoteEnd 41 = .ok (.ireturn, 1) := by decide +kernel
theorem dX5_quoteEnd_42 : decode cX5_quoteEnd 42 = .ok (.aload_n 0, 1) := by decide +kernel
theorem dX5_quoteEnd_43 : decode cX5_quoteEnd 43 = .ok (.getfield 9, 3) := by decide +kernel
theorem dX5_quoteEnd_46 : decode cX5_quoteEnd 46 = .ok (.iload_n 3, 1) := by decide +kernel
theorem dX5_quoteEnd_47 : decode cX5_quoteEnd 47 = .ok (.iaload, 1) := by decide +kernel
theorem dX5_quoteEnd_48 : decode cX5_quoteEnd 48 = .ok (.bipush 92, 2) := by decide +kernel
theorem dX5_quoteEnd_50 : decode cX5_quoteEnd 50 = .ok (.if_icmp .ne 11, 3) := by decide +kernel
theorem dX5_quoteEnd_53 : decode cX5_quoteEnd 53 = .ok (.iload_n 2, 1) := by decide +kernel
theorem dX5_quoteEnd_54 : decode cX5_quoteEnd 54 = .ok (.ifCond .ne 7, 3) := by decide +kernel
theorem dX5_quoteEnd_57 : decode cX5_quoteEnd 57 = .ok (.iconst 1, 1) := by decide +kernel
theorem dX5_quoteEnd_58 : decode cX5_quoteEnd 58 = .ok (.goto 4, 3) := by decide +kernel
theorem dX5_quoteEnd_61 : decode cX5_quoteEnd 61 = .ok (.iconst 0, 1) := by decide +kernel
theorem dX5_quoteEnd_62 : decode cX5_quoteEnd 62 = .ok (.istore_n 2, 1) := by decide +kernel
theorem dX5_quoteEnd_63 : decode cX5_quoteEnd 63 = .ok (.iinc 3 1, 3) := by decide +kernel
theorem dX5_quoteEnd_66 : decode cX5_quoteEnd 66 = .ok (.goto (-62), 3) := by decide +kernel
theorem dX5_quoteEnd_69 : decode cX5_quoteEnd 69 = .ok (.aload_n 0, 1) := by decide +kernel
theorem dX5_quoteEnd_70 : decode cX5_quoteEnd 70 = .ok (.getfield 15, 3) := by decide +kernel
theorem dX5_quoteEnd_73 : decode cX5_quoteEnd 73 = .ok (.ireturn, 1) := by decide +kernel
theorem dX5_size_0 : decode cX5_size 0 = .ok (.aload_n 0, 1) := by decide +kernel
theorem dX5_size_1 : decode cX5_size 1 = .ok (.getfield 15, 3) := by decide +kernel
theorem dX5_size_4 : decode cX5_size 4 = .ok (.ireturn, 1) := by decide +kernel
theorem dX6_next_0 : decode cX6_next 0 = .ok (.iconst 0, 1) := by decide +kernel
theorem dX6_next_1 : decode cX6_next 1 = .ok (.istore_n 1, 1) := by decide +kernel
theorem dX6_next_2 : decode cX6_next 2 = .ok (.iload_n 1, 1) := by decide +kernel
theorem dX6_next_3 : decode cX6_next 3 = .ok (.sipush 600, 3) := by decide +kernel
theorem dX6_next_6 : decode cX6_next 6 = .ok (.if_icmp .gt 90, 3) := by decide +kernel
theorem dX6_next_9 : decode cX6_next 9 = .ok (.aload_n 0, 1) := by decide +kernel
theorem dX6_next_10 : decode cX6_next 10 = .ok (.getfield 24, 3) := by decide +kernel
theorem dX6_next_13 : decode cX6_next 13 = .ok (.aload_n 0, 1) := by decide +kernel
theorem dX6_next_14 : decode cX6_next 14 = .ok (.getfield 14, 3) := by decide +kernel
