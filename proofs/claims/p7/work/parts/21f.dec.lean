theorem dX9_memory_0 : decode cX9_memory 0 = .ok (.aload_n 0, 1) := by decide +kernel
theorem dX9_memory_1 : decode cX9_memory 1 = .ok (.iconst 0, 1) := by decide +kernel
theorem dX9_memory_2 : decode cX9_memory 2 = .ok (.putfield 138, 3) := by decide +kernel
theorem dX9_memory_5 : decode cX9_memory 5 = .ok (.iload_n 1, 1) := by decide +kernel
theorem dX9_memory_6 : decode cX9_memory 6 = .ok (.iconst 0, 1) := by decide +kernel
theorem dX9_memory_7 : decode cX9_memory 7 = .ok (.aload_n 0, 1) := by decide +kernel
theorem dX9_memory_8 : decode cX9_memory 8 = .ok (.getfield 7, 3) := by decide +kernel
theorem dX9_memory_11 : decode cX9_memory 11 = .ok (.bipush 42, 2) := by decide +kernel
theorem dX9_memory_13 : decode cX9_memory 13 = .ok (.iaload, 1) := by decide +kernel
theorem dX9_memory_14 : decode cX9_memory 14 = .ok (.iconst 1, 1) := by decide +kernel
theorem dX9_memory_15 : decode cX9_memory 15 = .ok (.isub, 1) := by decide +kernel
theorem dX9_memory_16 : decode cX9_memory 16 = .ok (.invokestatic 141, 3) := by decide +kernel
theorem dX9_memory_19 : decode cX9_memory 19 = .ok (.ifCond .ne 5, 3) := by decide +kernel
theorem dX9_memory_22 : decode cX9_memory 22 = .ok (.iconst (-1), 1) := by decide +kernel
theorem dX9_memory_23 : decode cX9_memory 23 = .ok (.ireturn, 1) := by decide +kernel
theorem dX9_memory_24 : decode cX9_memory 24 = .ok (.sipush 2883, 3) := by decide +kernel
theorem dX9_memory_27 : decode cX9_memory 27 = .ok (.bipush 122, 2) := by decide +kernel
theorem dX9_memory_29 : decode cX9_memory 29 = .ok (.iload_n 1, 1) := by decide +kernel
theorem dX9_memory_30 : decode cX9_memory 30 = .ok (.imul, 1) := by decide +kernel
theorem dX9_memory_31 : decode cX9_memory 31 = .ok (.iadd, 1) := by decide +kernel
theorem dX9_memory_32 : decode cX9_memory 32 = .ok (.iload_n 2, 1) := by decide +kernel
theorem dX9_memory_33 : decode cX9_memory 33 = .ok (.ifCond .eq 8, 3) := by decide +kernel
theorem dX9_memory_36 : decode cX9_memory 36 = .ok (.bipush 61, 2) := by decide +kernel
theorem dX9_memory_38 : decode cX9_memory 38 = .ok (.goto 4, 3) := by decide +kernel
theorem dX9_memory_41 : decode cX9_memory 41 = .ok (.iconst 0, 1) := by decide +kernel
theorem dX9_memory_42 : decode cX9_memory 42 = .ok (.iadd, 1) := by decide +kernel
theorem dX9_memory_43 : decode cX9_memory 43 = .ok (.istore 4, 2) := by decide +kernel
theorem dX9_memory_45 : decode cX9_memory 45 = .ok (.iload_n 3, 1) := by decide +kernel
theorem dX9_memory_46 : decode cX9_memory 46 = .ok (.iconst 0, 1) := by decide +kernel
theorem dX9_memory_47 : decode cX9_memory 47 = .ok (.aload_n 0, 1) := by decide +kernel
theorem dX9_memory_48 : decode cX9_memory 48 = .ok (.getfield 7, 3) := by decide +kernel
theorem dX9_memory_51 : decode cX9_memory 51 = .ok (.iload 4, 2) := by decide +kernel
theorem dX9_memory_53 : decode cX9_memory 53 = .ok (.iaload, 1) := by decide +kernel
theorem dX9_memory_54 : decode cX9_memory 54 = .ok (.iconst 1, 1) := by decide +kernel
theorem dX9_memory_55 : decode cX9_memory 55 = .ok (.isub, 1) := by decide +kernel
theorem dX9_memory_56 : decode cX9_memory 56 = .ok (.invokestatic 141, 3) := by decide +kernel
theorem dX9_memory_59 : decode cX9_memory 59 = .ok (.ifCond .eq 17, 3) := by decide +kernel
theorem dX9_memory_62 : decode cX9_memory 62 = .ok (.aload_n 0, 1) := by decide +kernel
theorem dX9_memory_63 : decode cX9_memory 63 = .ok (.getfield 7, 3) := by decide +kernel
theorem dX9_memory_66 : decode cX9_memory 66 = .ok (.iload 4, 2) := by decide +kernel
theorem dX9_memory_68 : decode cX9_memory 68 = .ok (.iconst 1, 1) := by decide +kernel
theorem dX9_memory_69 : decode cX9_memory 69 = .ok (.iadd, 1) := by decide +kernel
theorem dX9_memory_70 : decode cX9_memory 70 = .ok (.iload_n 3, 1) := by decide +kernel
theorem dX9_memory_71 : decode cX9_memory 71 = .ok (.iadd, 1) := by decide +kernel
theorem dX9_memory_72 : decode cX9_memory 72 = .ok (.iaload, 1) := by decide +kernel
theorem dX9_memory_73 : decode cX9_memory 73 = .ok (.goto 4, 3) := by decide +kernel
theorem dX9_memory_76 : decode cX9_memory 76 = .ok (.iconst (-1), 1) := by decide +kernel
theorem dX9_memory_77 : decode cX9_memory 77 = .ok (.ireturn, 1) := by decide +kernel
theorem dX9_nowByte_0 : decode cX9_nowByte 0 = .ok (.aload_n 0, 1) := by decide +kernel
theorem dX9_nowByte_1 : decode cX9_nowByte 1 = .ok (.iload_n 1, 1) := by decide +kernel
theorem dX9_nowByte_2 : decode cX9_nowByte 2 = .ok (.invokevirtual 247, 3) := by decide +kernel
theorem dX9_nowByte_5 : decode cX9_nowByte 5 = .ok (.iconst (-1), 1) := by decide +kernel
theorem dX9_nowByte_6 : decode cX9_nowByte 6 = .ok (.if_icmp .ne 19, 3) := by decide +kernel
theorem dX9_nowByte_9 : decode cX9_nowByte 9 = .ok (.aload_n 0, 1) := by decide +kernel
theorem dX9_nowByte_10 : decode cX9_nowByte 10 = .ok (.getfield 108, 3) := by decide +kernel
theorem dX9_nowByte_13 : decode cX9_nowByte 13 = .ok (.aload_n 0, 1) := by decide +kernel
theorem dX9_nowByte_14 : decode cX9_nowByte 14 = .ok (.getfield 102, 3) := by decide +kernel
theorem dX9_nowByte_17 : decode cX9_nowByte 17 = .ok (.iload_n 1, 1) := by decide +kernel
theorem dX9_nowByte_18 : decode cX9_nowByte 18 = .ok (.iaload, 1) := by decide +kernel
theorem dX9_nowByte_19 : decode cX9_nowByte 19 = .ok (.iload_n 2, 1) := by decide +kernel
theorem dX9_nowByte_20 : decode cX9_nowByte 20 = .ok (.iadd, 1) := by decide +kernel
theorem dX9_nowByte_21 : decode cX9_nowByte 21 = .ok (.iaload, 1) := by decide +kernel
theorem dX9_nowByte_22 : decode cX9_nowByte 22 = .ok (.goto 9, 3) := by decide +kernel
theorem dX9_nowByte_25 : decode cX9_nowByte 25 = .ok (.aload_n 0, 1) := by decide +kernel
theorem dX9_nowByte_26 : decode cX9_nowByte 26 = .ok (.iload_n 1, 1) := by decide +kernel
theorem dX9_nowByte_27 : decode cX9_nowByte 27 = .ok (.iload_n 2, 1) := by decide +kernel
theorem dX9_nowByte_28 : decode cX9_nowByte 28 = .ok (.invokevirtual 251, 3) := by decide +kernel
theorem dX9_nowByte_31 : decode cX9_nowByte 31 = .ok (.ireturn, 1) := by decide +kernel
theorem dX9_nowMany_0 : decode cX9_nowMany 0 = .ok (.aload_n 0, 1) := by decide +kernel
theorem dX9_nowMany_1 : decode cX9_nowMany 1 = .ok (.iload_n 1, 1) := by decide +kernel
theorem dX9_nowMany_2 : decode cX9_nowMany 2 = .ok (.invokevirtual 247, 3) := by decide +kernel
theorem dX9_nowMany_5 : decode cX9_nowMany 5 = .ok (.iconst (-1), 1) := by decide +kernel
theorem dX9_nowMany_6 : decode cX9_nowMany 6 = .ok (.if_icmp .ne 12, 3) := by decide +kernel
theorem dX9_nowMany_9 : decode cX9_nowMany 9 = .ok (.aload_n 0, 1) := by decide +kernel
theorem dX9_nowMany_10 : decode cX9_nowMany 10 = .ok (.getfield 105, 3) := by decide +kernel
theorem dX9_nowMany_13 : decode cX9_nowMany 13 = .ok (.iload_n 1, 1) := by decide +kernel
theorem dX9_nowMany_14 : decode cX9_nowMany 14 = .ok (.iaload, 1) := by decide +kernel
theorem dX9_nowMany_15 : decode cX9_nowMany 15 = .ok (.goto 8, 3) := by decide +kernel
theorem dX9_nowMany_18 : decode cX9_nowMany 18 = .ok (.aload_n 0, 1) := by decide +kernel
theorem dX9_nowMany_19 : decode cX9_nowMany 19 = .ok (.iload_n 1, 1) := by decide +kernel
theorem dX9_nowMany_20 : decode cX9_nowMany 20 = .ok (.invokevirtual 247, 3) := by decide +kernel
theorem dX9_nowMany_23 : decode cX9_nowMany 23 = .ok (.ireturn, 1) := by decide +kernel
theorem dX9_number_0 : decode cX9_number 0 = .ok (.aload_n 0, 1) := by decide +kernel
theorem dX9_number_1 : decode cX9_number 1 = .ok (.getfield 26, 3) := by decide +kernel
theorem dX9_number_4 : decode cX9_number 4 = .ok (.iconst (-1), 1) := by decide +kernel
theorem dX9_number_5 : decode cX9_number 5 = .ok (.if_icmp .eq 5, 3) := by decide +kernel
theorem dX9_number_8 : decode cX9_number 8 = .ok (.iconst 0, 1) := by decide +kernel
theorem dX9_number_9 : decode cX9_number 9 = .ok (.ireturn, 1) := by decide +kernel
theorem dX9_number_10 : decode cX9_number 10 = .ok (.aload_n 0, 1) := by decide +kernel
theorem dX9_number_11 : decode cX9_number 11 = .ok (.invokevirtual 346, 3) := by decide +kernel
theorem dX9_number_14 : decode cX9_number 14 = .ok (.istore_n 3, 1) := by decide +kernel
theorem dX9_number_15 : decode cX9_number 15 = .ok (.iconst 0, 1) := by decide +kernel
theorem dX9_number_16 : decode cX9_number 16 = .ok (.istore 4, 2) := by decide +kernel
theorem dX9_number_18 : decode cX9_number 18 = .ok (.aload_n 0, 1) := by decide +kernel
theorem dX9_number_19 : decode cX9_number 19 = .ok (.getfield 340, 3) := by decide +kernel
theorem dX9_number_22 : decode cX9_number 22 = .ok (.aload_n 0, 1) := by decide +kernel
theorem dX9_number_23 : decode cX9_number 23 = .ok (.getfield 343, 3) := by decide +kernel
theorem dX9_number_26 : decode cX9_number 26 = .ok (.if_icmp .ge 65, 3) := by decide +kernel
theorem dX9_number_29 : decode cX9_number 29 = .ok (.aload_n 0, 1) := by decide +kernel
theorem dX9_number_30 : decode cX9_number 30 = .ok (.getfield 23, 3) := by decide +kernel
theorem dX9_number_33 : decode cX9_number 33 = .ok (.aload_n 0, 1) := by decide +kernel
theorem dX9_number_34 : decode cX9_number 34 = .ok (.getfield 340, 3) := by decide +kernel
theorem dX9_number_37 : decode cX9_number 37 = .ok (.iaload, 1) := by decide +kernel
theorem dX9_number_38 : decode cX9_number 38 = .ok (.bipush 48, 2) := by decide +kernel
theorem dX9_number_40 : decode cX9_number 40 = .ok (.bipush 57, 2) := by decide +kernel
theorem dX9_number_42 : decode cX9_number 42 = .ok (.invokestatic 141, 3) := by decide +kernel
theorem dX9_number_45 : decode cX9_number 45 = .ok (.ifCond .eq 46, 3) := by decide +kernel
theorem dX9_number_48 : decode cX9_number 48 = .ok (.aload_n 0, 1) := by decide +kernel
theorem dX9_number_49 : decode cX9_number 49 = .ok (.getfield 340, 3) := by decide +kernel
theorem dX9_number_52 : decode cX9_number 52 = .ok (.iload_n 3, 1) := by decide +kernel
theorem dX9_number_53 : decode cX9_number 53 = .ok (.isub, 1) := by decide +kernel
theorem dX9_number_54 : decode cX9_number 54 = .ok (.iconst 2, 1) := by decide +kernel
theorem dX9_number_55 : decode cX9_number 55 = .ok (.if_icmp .gt 36, 3) := by decide +kernel
theorem dX9_number_58 : decode cX9_number 58 = .ok (.bipush 10, 2) := by decide +kernel
theorem dX9_number_60 : decode cX9_number 60 = .ok (.iload 4, 2) := by decide +kernel
theorem dX9_number_62 : decode cX9_number 62 = .ok (.imul, 1) := by decide +kernel
theorem dX9_number_63 : decode cX9_number 63 = .ok (.aload_n 0, 1) := by decide +kernel
theorem dX9_number_64 : decode cX9_number 64 = .ok (.getfield 23, 3) := by decide +kernel
theorem dX9_number_67 : decode cX9_number 67 = .ok (.aload_n 0, 1) := by decide +kernel
theorem dX9_number_68 : decode cX9_number 68 = .ok (.getfield 340, 3) := by decide +kernel
theorem dX9_number_71 : decode cX9_number 71 = .ok (.iaload, 1) := by decide +kernel
theorem dX9_number_72 : decode cX9_number 72 = .ok (.iadd, 1) := by decide +kernel
theorem dX9_number_73 : decode cX9_number 73 = .ok (.bipush 48, 2) := by decide +kernel
theorem dX9_number_75 : decode cX9_number 75 = .ok (.isub, 1) := by decide +kernel
theorem dX9_number_76 : decode cX9_number 76 = .ok (.istore 4, 2) := by decide +kernel
theorem dX9_number_78 : decode cX9_number 78 = .ok (.aload_n 0, 1) := by decide +kernel
theorem dX9_number_79 : decode cX9_number 79 = .ok (.dup, 1) := by decide +kernel
theorem dX9_number_80 : decode cX9_number 80 = .ok (.getfield 340, 3) := by decide +kernel
theorem dX9_number_83 : decode cX9_number 83 = .ok (.iconst 1, 1) := by decide +kernel
theorem dX9_number_84 : decode cX9_number 84 = .ok (.iadd, 1) := by decide +kernel
theorem dX9_number_85 : decode cX9_number 85 = .ok (.putfield 340, 3) := by decide +kernel
theorem dX9_number_88 : decode cX9_number 88 = .ok (.goto (-70), 3) := by decide +kernel
theorem dX9_number_91 : decode cX9_number 91 = .ok (.aload_n 0, 1) := by decide +kernel
theorem dX9_number_92 : decode cX9_number 92 = .ok (.getfield 340, 3) := by decide +kernel
theorem dX9_number_95 : decode cX9_number 95 = .ok (.iload_n 3, 1) := by decide +kernel
theorem dX9_number_96 : decode cX9_number 96 = .ok (.if_icmp .eq 25, 3) := by decide +kernel
theorem dX9_number_99 : decode cX9_number 99 = .ok (.aload_n 0, 1) := by decide +kernel
theorem dX9_number_100 : decode cX9_number 100 = .ok (.getfield 340, 3) := by decide +kernel
theorem dX9_number_103 : decode cX9_number 103 = .ok (.iload_n 3, 1) := by decide +kernel
theorem dX9_number_104 : decode cX9_number 104 = .ok (.isub, 1) := by decide +kernel
theorem dX9_number_105 : decode cX9_number 105 = .ok (.iconst 2, 1) := by decide +kernel
theorem dX9_number_106 : decode cX9_number 106 = .ok (.if_icmp .gt 15, 3) := by decide +kernel
theorem dX9_number_109 : decode cX9_number 109 = .ok (.iload 4, 2) := by decide +kernel
theorem dX9_number_111 : decode cX9_number 111 = .ok (.iload_n 1, 1) := by decide +kernel
theorem dX9_number_112 : decode cX9_number 112 = .ok (.if_icmp .lt 9, 3) := by decide +kernel
theorem dX9_number_115 : decode cX9_number 115 = .ok (.iload 4, 2) := by decide +kernel
theorem dX9_number_117 : decode cX9_number 117 = .ok (.iload_n 2, 1) := by decide +kernel
theorem dX9_number_118 : decode cX9_number 118 = .ok (.if_icmp .le 8, 3) := by decide +kernel
theorem dX9_number_121 : decode cX9_number 121 = .ok (.aload_n 0, 1) := by decide +kernel
theorem dX9_number_122 : decode cX9_number 122 = .ok (.iload_n 3, 1) := by decide +kernel
theorem dX9_number_123 : decode cX9_number 123 = .ok (.invokevirtual 352, 3) := by decide +kernel
theorem dX9_number_126 : decode cX9_number 126 = .ok (.iload 4, 2) := by decide +kernel
theorem dX9_number_128 : decode cX9_number 128 = .ok (.ireturn, 1) := by decide +kernel
theorem dX9_octet_0 : decode cX9_octet 0 = .ok (.aload_n 0, 1) := by decide +kernel
theorem dX9_octet_1 : decode cX9_octet 1 = .ok (.aload_n 0, 1) := by decide +kernel
theorem dX9_octet_2 : decode cX9_octet 2 = .ok (.iload_n 1, 1) := by decide +kernel
theorem dX9_octet_3 : decode cX9_octet 3 = .ok (.invokevirtual 293, 3) := by decide +kernel
theorem dX9_octet_6 : decode cX9_octet 6 = .ok (.ifCond .eq 7, 3) := by decide +kernel
theorem dX9_octet_9 : decode cX9_octet 9 = .ok (.iconst 0, 1) := by decide +kernel
theorem dX9_octet_10 : decode cX9_octet 10 = .ok (.goto 4, 3) := by decide +kernel
theorem dX9_octet_13 : decode cX9_octet 13 = .ok (.iconst 1, 1) := by decide +kernel
theorem dX9_octet_14 : decode cX9_octet 14 = .ok (.putfield 138, 3) := by decide +kernel
theorem dX9_octet_17 : decode cX9_octet 17 = .ok (.aload_n 0, 1) := by decide +kernel
theorem dX9_octet_18 : decode cX9_octet 18 = .ok (.getfield 138, 3) := by decide +kernel
theorem dX9_octet_21 : decode cX9_octet 21 = .ok (.ifCond .le 5, 3) := by decide +kernel
theorem dX9_octet_24 : decode cX9_octet 24 = .ok (.iconst 0, 1) := by decide +kernel
theorem dX9_octet_25 : decode cX9_octet 25 = .ok (.ireturn, 1) := by decide +kernel
theorem dX9_octet_26 : decode cX9_octet 26 = .ok (.iload_n 2, 1) := by decide +kernel
theorem dX9_octet_27 : decode cX9_octet 27 = .ok (.iconst 0, 1) := by decide +kernel
theorem dX9_octet_28 : decode cX9_octet 28 = .ok (.iload_n 3, 1) := by decide +kernel
theorem dX9_octet_29 : decode cX9_octet 29 = .ok (.ifCond .eq 11, 3) := by decide +kernel
theorem dX9_octet_32 : decode cX9_octet 32 = .ok (.aload_n 0, 1) := by decide +kernel
theorem dX9_octet_33 : decode cX9_octet 33 = .ok (.iload_n 1, 1) := by decide +kernel
theorem dX9_octet_34 : decode cX9_octet 34 = .ok (.invokevirtual 313, 3) := by decide +kernel
theorem dX9_octet_37 : decode cX9_octet 37 = .ok (.goto 9, 3) := by decide +kernel
theorem dX9_octet_40 : decode cX9_octet 40 = .ok (.aload_n 0, 1) := by decide +kernel
theorem dX9_octet_41 : decode cX9_octet 41 = .ok (.getfield 105, 3) := by decide +kernel
theorem dX9_octet_44 : decode cX9_octet 44 = .ok (.iload_n 1, 1) := by decide +kernel
theorem dX9_octet_45 : decode cX9_octet 45 = .ok (.iaload, 1) := by decide +kernel
theorem dX9_octet_46 : decode cX9_octet 46 = .ok (.iconst 1, 1) := by decide +kernel
theorem dX9_octet_47 : decode cX9_octet 47 = .ok (.isub, 1) := by decide +kernel
theorem dX9_octet_48 : decode cX9_octet 48 = .ok (.invokestatic 141, 3) := by decide +kernel
theorem dX9_octet_51 : decode cX9_octet 51 = .ok (.ifCond .ne 5, 3) := by decide +kernel
theorem dX9_octet_54 : decode cX9_octet 54 = .ok (.iconst (-1), 1) := by decide +kernel
theorem dX9_octet_55 : decode cX9_octet 55 = .ok (.ireturn, 1) := by decide +kernel
theorem dX9_octet_56 : decode cX9_octet 56 = .ok (.iload_n 3, 1) := by decide +kernel
theorem dX9_octet_57 : decode cX9_octet 57 = .ok (.ifCond .eq 12, 3) := by decide +kernel
theorem dX9_octet_60 : decode cX9_octet 60 = .ok (.aload_n 0, 1) := by decide +kernel
theorem dX9_octet_61 : decode cX9_octet 61 = .ok (.iload_n 1, 1) := by decide +kernel
theorem dX9_octet_62 : decode cX9_octet 62 = .ok (.iload_n 2, 1) := by decide +kernel
theorem dX9_octet_63 : decode cX9_octet 63 = .ok (.invokevirtual 316, 3) := by decide +kernel
theorem dX9_octet_66 : decode cX9_octet 66 = .ok (.goto 16, 3) := by decide +kernel
theorem dX9_octet_69 : decode cX9_octet 69 = .ok (.aload_n 0, 1) := by decide +kernel
theorem dX9_octet_70 : decode cX9_octet 70 = .ok (.getfield 108, 3) := by decide +kernel
theorem dX9_octet_73 : decode cX9_octet 73 = .ok (.aload_n 0, 1) := by decide +kernel
theorem dX9_octet_74 : decode cX9_octet 74 = .ok (.getfield 102, 3) := by decide +kernel
theorem dX9_octet_77 : decode cX9_octet 77 = .ok (.iload_n 1, 1) := by decide +kernel
theorem dX9_octet_78 : decode cX9_octet 78 = .ok (.iaload, 1) := by decide +kernel
theorem dX9_octet_79 : decode cX9_octet 79 = .ok (.iload_n 2, 1) := by decide +kernel
theorem dX9_octet_80 : decode cX9_octet 80 = .ok (.iadd, 1) := by decide +kernel
theorem dX9_octet_81 : decode cX9_octet 81 = .ok (.iaload, 1) := by decide +kernel
theorem dX9_octet_82 : decode cX9_octet 82 = .ok (.ireturn, 1) := by decide +kernel
theorem dX9_origin_0 : decode cX9_origin 0 = .ok (.aload_n 0, 1) := by decide +kernel
theorem dX9_origin_1 : decode cX9_origin 1 = .ok (.aload_n 0, 1) := by decide +kernel
theorem dX9_origin_2 : decode cX9_origin 2 = .ok (.iload_n 1, 1) := by decide +kernel
theorem dX9_origin_3 : decode cX9_origin 3 = .ok (.invokevirtual 293, 3) := by decide +kernel
theorem dX9_origin_6 : decode cX9_origin 6 = .ok (.ifCond .eq 7, 3) := by decide +kernel
theorem dX9_origin_9 : decode cX9_origin 9 = .ok (.iconst 0, 1) := by decide +kernel
theorem dX9_origin_10 : decode cX9_origin 10 = .ok (.goto 4, 3) := by decide +kernel
theorem dX9_origin_13 : decode cX9_origin 13 = .ok (.iconst 1, 1) := by decide +kernel
theorem dX9_origin_14 : decode cX9_origin 14 = .ok (.putfield 138, 3) := by decide +kernel
theorem dX9_origin_17 : decode cX9_origin 17 = .ok (.aload_n 0, 1) := by decide +kernel
theorem dX9_origin_18 : decode cX9_origin 18 = .ok (.getfield 138, 3) := by decide +kernel
theorem dX9_origin_21 : decode cX9_origin 21 = .ok (.ifCond .le 5, 3) := by decide +kernel
theorem dX9_origin_24 : decode cX9_origin 24 = .ok (.iconst 0, 1) := by decide +kernel
theorem dX9_origin_25 : decode cX9_origin 25 = .ok (.ireturn, 1) := by decide +kernel
theorem dX9_origin_26 : decode cX9_origin 26 = .ok (.iload_n 2, 1) := by decide +kernel
theorem dX9_origin_27 : decode cX9_origin 27 = .ok (.iconst 0, 1) := by decide +kernel
theorem dX9_origin_28 : decode cX9_origin 28 = .ok (.aload_n 0, 1) := by decide +kernel
theorem dX9_origin_29 : decode cX9_origin 29 = .ok (.getfield 105, 3) := by decide +kernel
theorem dX9_origin_32 : decode cX9_origin 32 = .ok (.iload_n 1, 1) := by decide +kernel
theorem dX9_origin_33 : decode cX9_origin 33 = .ok (.iaload, 1) := by decide +kernel
theorem dX9_origin_34 : decode cX9_origin 34 = .ok (.iconst 1, 1) := by decide +kernel
theorem dX9_origin_35 : decode cX9_origin 35 = .ok (.isub, 1) := by decide +kernel
theorem dX9_origin_36 : decode cX9_origin 36 = .ok (.invokestatic 141, 3) := by decide +kernel
theorem dX9_origin_39 : decode cX9_origin 39 = .ok (.ifCond .eq 19, 3) := by decide +kernel
theorem dX9_origin_42 : decode cX9_origin 42 = .ok (.aload_n 0, 1) := by decide +kernel
theorem dX9_origin_43 : decode cX9_origin 43 = .ok (.getfield 111, 3) := by decide +kernel
theorem dX9_origin_46 : decode cX9_origin 46 = .ok (.aload_n 0, 1) := by decide +kernel
theorem dX9_origin_47 : decode cX9_origin 47 = .ok (.getfield 102, 3) := by decide +kernel
theorem dX9_origin_50 : decode cX9_origin 50 = .ok (.iload_n 1, 1) := by decide +kernel
theorem dX9_origin_51 : decode cX9_origin 51 = .ok (.iaload, 1) := by decide +kernel
theorem dX9_origin_52 : decode cX9_origin 52 = .ok (.iload_n 2, 1) := by decide +kernel
theorem dX9_origin_53 : decode cX9_origin 53 = .ok (.iadd, 1) := by decide +kernel
theorem dX9_origin_54 : decode cX9_origin 54 = .ok (.iaload, 1) := by decide +kernel
theorem dX9_origin_55 : decode cX9_origin 55 = .ok (.goto 4, 3) := by decide +kernel
theorem dX9_origin_58 : decode cX9_origin 58 = .ok (.iconst (-1), 1) := by decide +kernel
theorem dX9_origin_59 : decode cX9_origin 59 = .ok (.ireturn, 1) := by decide +kernel
theorem dX9_piece_0 : decode cX9_piece 0 = .ok (.aload_n 0, 1) := by decide +kernel
theorem dX9_piece_1 : decode cX9_piece 1 = .ok (.aload_n 0, 1) := by decide +kernel
theorem dX9_piece_2 : decode cX9_piece 2 = .ok (.iload_n 1, 1) := by decide +kernel
theorem dX9_piece_3 : decode cX9_piece 3 = .ok (.invokevirtual 293, 3) := by decide +kernel
theorem dX9_piece_6 : decode cX9_piece 6 = .ok (.ifCond .ne 7, 3) := by decide +kernel
theorem dX9_piece_9 : decode cX9_piece 9 = .ok (.iconst 1, 1) := by decide +kernel
theorem dX9_piece_10 : decode cX9_piece 10 = .ok (.goto 18, 3) := by decide +kernel
theorem dX9_piece_13 : decode cX9_piece 13 = .ok (.iload_n 2, 1) := by decide +kernel
theorem dX9_piece_14 : decode cX9_piece 14 = .ok (.iconst 0, 1) := by decide +kernel
theorem dX9_piece_15 : decode cX9_piece 15 = .ok (.bipush 9, 2) := by decide +kernel
theorem dX9_piece_17 : decode cX9_piece 17 = .ok (.invokestatic 141, 3) := by decide +kernel
theorem dX9_piece_20 : decode cX9_piece 20 = .ok (.ifCond .ne 7, 3) := by decide +kernel
theorem dX9_piece_23 : decode cX9_piece 23 = .ok (.iconst 2, 1) := by decide +kernel
theorem dX9_piece_24 : decode cX9_piece 24 = .ok (.goto 4, 3) := by decide +kernel
theorem dX9_piece_27 : decode cX9_piece 27 = .ok (.iconst 0, 1) := by decide +kernel
theorem dX9_piece_28 : decode cX9_piece 28 = .ok (.putfield 138, 3) := by decide +kernel
theorem dX9_piece_31 : decode cX9_piece 31 = .ok (.aload_n 0, 1) := by decide +kernel
theorem dX9_piece_32 : decode cX9_piece 32 = .ok (.getfield 138, 3) := by decide +kernel
theorem dX9_piece_35 : decode cX9_piece 35 = .ok (.ifCond .le 5, 3) := by decide +kernel
theorem dX9_piece_38 : decode cX9_piece 38 = .ok (.iconst 0, 1) := by decide +kernel
theorem dX9_piece_39 : decode cX9_piece 39 = .ok (.ireturn, 1) := by decide +kernel
theorem dX9_piece_40 : decode cX9_piece 40 = .ok (.iload_n 2, 1) := by decide +kernel
theorem dX9_piece_41 : decode cX9_piece 41 = .ok (.tableswitch 117 0 8 #[51, 58, 65, 72, 78, 93, 99, 105, 111], 51) := by decide +kernel
theorem dX9_piece_92 : decode cX9_piece 92 = .ok (.aload_n 0, 1) := by decide +kernel
theorem dX9_piece_93 : decode cX9_piece 93 = .ok (.getfield 81, 3) := by decide +kernel
theorem dX9_piece_96 : decode cX9_piece 96 = .ok (.iload_n 1, 1) := by decide +kernel
theorem dX9_piece_97 : decode cX9_piece 97 = .ok (.iaload, 1) := by decide +kernel
theorem dX9_piece_98 : decode cX9_piece 98 = .ok (.ireturn, 1) := by decide +kernel
theorem dX9_piece_99 : decode cX9_piece 99 = .ok (.aload_n 0, 1) := by decide +kernel
theorem dX9_piece_100 : decode cX9_piece 100 = .ok (.getfield 84, 3) := by decide +kernel
theorem dX9_piece_103 : decode cX9_piece 103 = .ok (.iload_n 1, 1) := by decide +kernel
theorem dX9_piece_104 : decode cX9_piece 104 = .ok (.iaload, 1) := by decide +kernel
theorem dX9_piece_105 : decode cX9_piece 105 = .ok (.ireturn, 1) := by decide +kernel
theorem dX9_piece_106 : decode cX9_piece 106 = .ok (.aload_n 0, 1) := by decide +kernel
theorem dX9_piece_107 : decode cX9_piece 107 = .ok (.getfield 105, 3) := by decide +kernel
theorem dX9_piece_110 : decode cX9_piece 110 = .ok (.iload_n 1, 1) := by decide +kernel
theorem dX9_piece_111 : decode cX9_piece 111 = .ok (.iaload, 1) := by decide +kernel
theorem dX9_piece_112 : decode cX9_piece 112 = .ok (.ireturn, 1) := by decide +kernel
theorem dX9_piece_113 : decode cX9_piece 113 = .ok (.aload_n 0, 1) := by decide +kernel
theorem dX9_piece_114 : decode cX9_piece 114 = .ok (.iload_n 1, 1) := by decide +kernel
theorem dX9_piece_115 : decode cX9_piece 115 = .ok (.invokevirtual 313, 3) := by decide +kernel
theorem dX9_piece_118 : decode cX9_piece 118 = .ok (.ireturn, 1) := by decide +kernel
theorem dX9_piece_119 : decode cX9_piece 119 = .ok (.aload_n 0, 1) := by decide +kernel
theorem dX9_piece_120 : decode cX9_piece 120 = .ok (.iload_n 1, 1) := by decide +kernel
theorem dX9_piece_121 : decode cX9_piece 121 = .ok (.invokevirtual 247, 3) := by decide +kernel
theorem dX9_piece_124 : decode cX9_piece 124 = .ok (.iconst (-1), 1) := by decide +kernel
theorem dX9_piece_125 : decode cX9_piece 125 = .ok (.if_icmp .ne 7, 3) := by decide +kernel
theorem dX9_piece_128 : decode cX9_piece 128 = .ok (.iconst 0, 1) := by decide +kernel
theorem dX9_piece_129 : decode cX9_piece 129 = .ok (.goto 4, 3) := by decide +kernel
theorem dX9_piece_132 : decode cX9_piece 132 = .ok (.iconst 1, 1) := by decide +kernel
theorem dX9_piece_133 : decode cX9_piece 133 = .ok (.ireturn, 1) := by decide +kernel
theorem dX9_piece_134 : decode cX9_piece 134 = .ok (.aload_n 0, 1) := by decide +kernel
theorem dX9_piece_135 : decode cX9_piece 135 = .ok (.iload_n 1, 1) := by decide +kernel
theorem dX9_piece_136 : decode cX9_piece 136 = .ok (.invokevirtual 444, 3) := by decide +kernel
theorem dX9_piece_139 : decode cX9_piece 139 = .ok (.ireturn, 1) := by decide +kernel
theorem dX9_piece_140 : decode cX9_piece 140 = .ok (.aload_n 0, 1) := by decide +kernel
theorem dX9_piece_141 : decode cX9_piece 141 = .ok (.iload_n 1, 1) := by decide +kernel
theorem dX9_piece_142 : decode cX9_piece 142 = .ok (.invokevirtual 447, 3) := by decide +kernel
theorem dX9_piece_145 : decode cX9_piece 145 = .ok (.ireturn, 1) := by decide +kernel
theorem dX9_piece_146 : decode cX9_piece 146 = .ok (.aload_n 0, 1) := by decide +kernel
theorem dX9_piece_147 : decode cX9_piece 147 = .ok (.iload_n 1, 1) := by decide +kernel
theorem dX9_piece_148 : decode cX9_piece 148 = .ok (.invokevirtual 450, 3) := by decide +kernel
theorem dX9_piece_151 : decode cX9_piece 151 = .ok (.ireturn, 1) := by decide +kernel
theorem dX9_piece_152 : decode cX9_piece 152 = .ok (.aload_n 0, 1) := by decide +kernel
theorem dX9_piece_153 : decode cX9_piece 153 = .ok (.iload_n 1, 1) := by decide +kernel
theorem dX9_piece_154 : decode cX9_piece 154 = .ok (.invokevirtual 290, 3) := by decide +kernel
theorem dX9_piece_157 : decode cX9_piece 157 = .ok (.ireturn, 1) := by decide +kernel
theorem dX9_piece_158 : decode cX9_piece 158 = .ok (.aload_n 0, 1) := by decide +kernel
theorem dX9_piece_159 : decode cX9_piece 159 = .ok (.iload_n 1, 1) := by decide +kernel
theorem dX9_piece_160 : decode cX9_piece 160 = .ok (.invokevirtual 453, 3) := by decide +kernel
theorem dX9_piece_163 : decode cX9_piece 163 = .ok (.ireturn, 1) := by decide +kernel
theorem dX9_pieceText_0 : decode cX9_pieceText 0 = .ok (.aload_n 0, 1) := by decide +kernel
theorem dX9_pieceText_1 : decode cX9_pieceText 1 = .ok (.iconst 0, 1) := by decide +kernel
theorem dX9_pieceText_2 : decode cX9_pieceText 2 = .ok (.bipush 39, 2) := by decide +kernel
theorem dX9_pieceText_4 : decode cX9_pieceText 4 = .ok (.invokevirtual 358, 3) := by decide +kernel
theorem dX9_pieceText_7 : decode cX9_pieceText 7 = .ok (.istore_n 2, 1) := by decide +kernel
theorem dX9_pieceText_8 : decode cX9_pieceText 8 = .ok (.aload_n 0, 1) := by decide +kernel
theorem dX9_pieceText_9 : decode cX9_pieceText 9 = .ok (.getfield 26, 3) := by decide +kernel
theorem dX9_pieceText_12 : decode cX9_pieceText 12 = .ok (.iconst (-1), 1) := by decide +kernel
theorem dX9_pieceText_13 : decode cX9_pieceText 13 = .ok (.if_icmp .eq 5, 3) := by decide +kernel
theorem dX9_pieceText_16 : decode cX9_pieceText 16 = .ok (.iconst 0, 1) := by decide +kernel
theorem dX9_pieceText_17 : decode cX9_pieceText 17 = .ok (.ireturn, 1) := by decide +kernel
theorem dX9_pieceText_18 : decode cX9_pieceText 18 = .ok (.iload_n 1, 1) := by decide +kernel
theorem dX9_pieceText_19 : decode cX9_pieceText 19 = .ok (.ifCond .eq 11, 3) := by decide +kernel
theorem dX9_pieceText_22 : decode cX9_pieceText 22 = .ok (.aload_n 0, 1) := by decide +kernel
theorem dX9_pieceText_23 : decode cX9_pieceText 23 = .ok (.iload_n 2, 1) := by decide +kernel
theorem dX9_pieceText_24 : decode cX9_pieceText 24 = .ok (.invokevirtual 367, 3) := by decide +kernel
theorem dX9_pieceText_27 : decode cX9_pieceText 27 = .ok (.goto 8, 3) := by decide +kernel
theorem dX9_pieceText_30 : decode cX9_pieceText 30 = .ok (.aload_n 0, 1) := by decide +kernel
theorem dX9_pieceText_31 : decode cX9_pieceText 31 = .ok (.iload_n 2, 1) := by decide +kernel
theorem dX9_pieceText_32 : decode cX9_pieceText 32 = .ok (.invokevirtual 370, 3) := by decide +kernel
theorem dX9_pieceText_35 : decode cX9_pieceText 35 = .ok (.ireturn, 1) := by decide +kernel
theorem dX9_plain_0 : decode cX9_plain 0 = .ok (.aload_n 1, 1) := by decide +kernel
theorem dX9_plain_1 : decode cX9_plain 1 = .ok (.aload_n 0, 1) := by decide +kernel
theorem dX9_plain_2 : decode cX9_plain 2 = .ok (.getfield 254, 3) := by decide +kernel
theorem dX9_plain_5 : decode cX9_plain 5 = .ok (.iload_n 2, 1) := by decide +kernel
theorem dX9_plain_6 : decode cX9_plain 6 = .ok (.iastore, 1) := by decide +kernel
theorem dX9_plain_7 : decode cX9_plain 7 = .ok (.aload_n 0, 1) := by decide +kernel
theorem dX9_plain_8 : decode cX9_plain 8 = .ok (.dup, 1) := by decide +kernel
theorem dX9_plain_9 : decode cX9_plain 9 = .ok (.getfield 254, 3) := by decide +kernel
theorem dX9_plain_12 : decode cX9_plain 12 = .ok (.iconst 1, 1) := by decide +kernel
theorem dX9_plain_13 : decode cX9_plain 13 = .ok (.iadd, 1) := by decide +kernel
theorem dX9_plain_14 : decode cX9_plain 14 = .ok (.putfield 254, 3) := by decide +kernel
theorem dX9_plain_17 : decode cX9_plain 17 = .ok (.return_, 1) := by decide +kernel
theorem dX9_puts_0 : decode cX9_puts 0 = .ok (.aload_n 1, 1) := by decide +kernel
theorem dX9_puts_1 : decode cX9_puts 1 = .ok (.aload_n 0, 1) := by decide +kernel
theorem dX9_puts_2 : decode cX9_puts 2 = .ok (.getfield 254, 3) := by decide +kernel
theorem dX9_puts_5 : decode cX9_puts 5 = .ok (.iload_n 2, 1) := by decide +kernel
theorem dX9_puts_6 : decode cX9_puts 6 = .ok (.iastore, 1) := by decide +kernel
theorem dX9_puts_7 : decode cX9_puts 7 = .ok (.aload_n 1, 1) := by decide +kernel
theorem dX9_puts_8 : decode cX9_puts 8 = .ok (.aload_n 0, 1) := by decide +kernel
theorem dX9_puts_9 : decode cX9_puts 9 = .ok (.getfield 254, 3) := by decide +kernel
theorem dX9_puts_12 : decode cX9_puts 12 = .ok (.iconst 1, 1) := by decide +kernel
theorem dX9_puts_13 : decode cX9_puts 13 = .ok (.iadd, 1) := by decide +kernel
theorem dX9_puts_14 : decode cX9_puts 14 = .ok (.iload_n 3, 1) := by decide +kernel
theorem dX9_puts_15 : decode cX9_puts 15 = .ok (.iastore, 1) := by decide +kernel
theorem dX9_puts_16 : decode cX9_puts 16 = .ok (.aload_n 0, 1) := by decide +kernel
theorem dX9_puts_17 : decode cX9_puts 17 = .ok (.dup, 1) := by decide +kernel
theorem dX9_puts_18 : decode cX9_puts 18 = .ok (.getfield 254, 3) := by decide +kernel
theorem dX9_puts_21 : decode cX9_puts 21 = .ok (.iconst 2, 1) := by decide +kernel
theorem dX9_puts_22 : decode cX9_puts 22 = .ok (.iadd, 1) := by decide +kernel
theorem dX9_puts_23 : decode cX9_puts 23 = .ok (.putfield 254, 3) := by decide +kernel
theorem dX9_puts_26 : decode cX9_puts 26 = .ok (.return_, 1) := by decide +kernel
theorem dX9_putsAside_0 : decode cX9_putsAside 0 = .ok (.iconst 0, 1) := by decide +kernel
theorem dX9_putsAside_1 : decode cX9_putsAside 1 = .ok (.istore_n 1, 1) := by decide +kernel
theorem dX9_putsAside_2 : decode cX9_putsAside 2 = .ok (.iload_n 1, 1) := by decide +kernel
theorem dX9_putsAside_3 : decode cX9_putsAside 3 = .ok (.sipush 4347, 3) := by decide +kernel
theorem dX9_putsAside_6 : decode cX9_putsAside 6 = .ok (.if_icmp .ge 21, 3) := by decide +kernel
theorem dX9_putsAside_9 : decode cX9_putsAside 9 = .ok (.aload_n 0, 1) := by decide +kernel
theorem dX9_putsAside_10 : decode cX9_putsAside 10 = .ok (.getfield 13, 3) := by decide +kernel
theorem dX9_putsAside_13 : decode cX9_putsAside 13 = .ok (.iload_n 1, 1) := by decide +kernel
theorem dX9_putsAside_14 : decode cX9_putsAside 14 = .ok (.aload_n 0, 1) := by decide +kernel
theorem dX9_putsAside_15 : decode cX9_putsAside 15 = .ok (.getfield 7, 3) := by decide +kernel
theorem dX9_putsAside_18 : decode cX9_putsAside 18 = .ok (.iload_n 1, 1) := by decide +kernel
theorem dX9_putsAside_19 : decode cX9_putsAside 19 = .ok (.iaload, 1) := by decide +kernel
theorem dX9_putsAside_20 : decode cX9_putsAside 20 = .ok (.iastore, 1) := by decide +kernel
theorem dX9_putsAside_21 : decode cX9_putsAside 21 = .ok (.iinc 1 1, 3) := by decide +kernel
theorem dX9_putsAside_24 : decode cX9_putsAside 24 = .ok (.goto (-22), 3) := by decide +kernel
theorem dX9_putsAside_27 : decode cX9_putsAside 27 = .ok (.return_, 1) := by decide +kernel
theorem dX9_putsBack_0 : decode cX9_putsBack 0 = .ok (.iconst 0, 1) := by decide +kernel
theorem dX9_putsBack_1 : decode cX9_putsBack 1 = .ok (.istore_n 1, 1) := by decide +kernel
theorem dX9_putsBack_2 : decode cX9_putsBack 2 = .ok (.iload_n 1, 1) := by decide +kernel
theorem dX9_putsBack_3 : decode cX9_putsBack 3 = .ok (.sipush 4347, 3) := by decide +kernel
theorem dX9_putsBack_6 : decode cX9_putsBack 6 = .ok (.if_icmp .ge 21, 3) := by decide +kernel
theorem dX9_putsBack_9 : decode cX9_putsBack 9 = .ok (.aload_n 0, 1) := by decide +kernel
theorem dX9_putsBack_10 : decode cX9_putsBack 10 = .ok (.getfield 7, 3) := by decide +kernel
theorem dX9_putsBack_13 : decode cX9_putsBack 13 = .ok (.iload_n 1, 1) := by decide +kernel
theorem dX9_putsBack_14 : decode cX9_putsBack 14 = .ok (.aload_n 0, 1) := by decide +kernel
theorem dX9_putsBack_15 : decode cX9_putsBack 15 = .ok (.getfield 13, 3) := by decide +kernel
theorem dX9_putsBack_18 : decode cX9_putsBack 18 = .ok (.iload_n 1, 1) := by decide +kernel
theorem dX9_putsBack_19 : decode cX9_putsBack 19 = .ok (.iaload, 1) := by decide +kernel
theorem dX9_putsBack_20 : decode cX9_putsBack 20 = .ok (.iastore, 1) := by decide +kernel
theorem dX9_putsBack_21 : decode cX9_putsBack 21 = .ok (.iinc 1 1, 3) := by decide +kernel
theorem dX9_putsBack_24 : decode cX9_putsBack 24 = .ok (.goto (-22), 3) := by decide +kernel
theorem dX9_putsBack_27 : decode cX9_putsBack 27 = .ok (.aload_n 0, 1) := by decide +kernel
theorem dX9_putsBack_28 : decode cX9_putsBack 28 = .ok (.invokevirtual 244, 3) := by decide +kernel
theorem dX9_putsBack_31 : decode cX9_putsBack 31 = .ok (.return_, 1) := by decide +kernel
theorem dX9_remembers_0 : decode cX9_remembers 0 = .ok (.aload_n 0, 1) := by decide +kernel
theorem dX9_remembers_1 : decode cX9_remembers 1 = .ok (.getfield 325, 3) := by decide +kernel
theorem dX9_remembers_4 : decode cX9_remembers 4 = .ok (.bipush 8, 2) := by decide +kernel
theorem dX9_remembers_6 : decode cX9_remembers 6 = .ok (.if_icmp .ne 44, 3) := by decide +kernel
theorem dX9_remembers_9 : decode cX9_remembers 9 = .ok (.iconst 0, 1) := by decide +kernel
theorem dX9_remembers_10 : decode cX9_remembers 10 = .ok (.istore_n 1, 1) := by decide +kernel
theorem dX9_remembers_11 : decode cX9_remembers 11 = .ok (.iload_n 1, 1) := by decide +kernel
theorem dX9_remembers_12 : decode cX9_remembers 12 = .ok (.sipush 30429, 3) := by decide +kernel
theorem dX9_remembers_15 : decode cX9_remembers 15 = .ok (.if_icmp .ge 25, 3) := by decide +kernel
theorem dX9_remembers_18 : decode cX9_remembers 18 = .ok (.aload_n 0, 1) := by decide +kernel
theorem dX9_remembers_19 : decode cX9_remembers 19 = .ok (.getfield 20, 3) := by decide +kernel
theorem dX9_remembers_22 : decode cX9_remembers 22 = .ok (.iload_n 1, 1) := by decide +kernel
theorem dX9_remembers_23 : decode cX9_remembers 23 = .ok (.aload_n 0, 1) := by decide +kernel
theorem dX9_remembers_24 : decode cX9_remembers 24 = .ok (.getfield 20, 3) := by decide +kernel
theorem dX9_remembers_27 : decode cX9_remembers 27 = .ok (.iload_n 1, 1) := by decide +kernel
theorem dX9_remembers_28 : decode cX9_remembers 28 = .ok (.sipush 4347, 3) := by decide +kernel
theorem dX9_remembers_31 : decode cX9_remembers 31 = .ok (.iadd, 1) := by decide +kernel
theorem dX9_remembers_32 : decode cX9_remembers 32 = .ok (.iaload, 1) := by decide +kernel
theorem dX9_remembers_33 : decode cX9_remembers 33 = .ok (.iastore, 1) := by decide +kernel
theorem dX9_remembers_34 : decode cX9_remembers 34 = .ok (.iinc 1 1, 3) := by decide +kernel
theorem dX9_remembers_37 : decode cX9_remembers 37 = .ok (.goto (-26), 3) := by decide +kernel
theorem dX9_remembers_40 : decode cX9_remembers 40 = .ok (.aload_n 0, 1) := by decide +kernel
theorem dX9_remembers_41 : decode cX9_remembers 41 = .ok (.dup, 1) := by decide +kernel
theorem dX9_remembers_42 : decode cX9_remembers 42 = .ok (.getfield 325, 3) := by decide +kernel
theorem dX9_remembers_45 : decode cX9_remembers 45 = .ok (.iconst 1, 1) := by decide +kernel
theorem dX9_remembers_46 : decode cX9_remembers 46 = .ok (.isub, 1) := by decide +kernel
theorem dX9_remembers_47 : decode cX9_remembers 47 = .ok (.putfield 325, 3) := by decide +kernel
theorem dX9_remembers_50 : decode cX9_remembers 50 = .ok (.iconst 0, 1) := by decide +kernel
theorem dX9_remembers_51 : decode cX9_remembers 51 = .ok (.istore_n 1, 1) := by decide +kernel
theorem dX9_remembers_52 : decode cX9_remembers 52 = .ok (.iload_n 1, 1) := by decide +kernel
theorem dX9_remembers_53 : decode cX9_remembers 53 = .ok (.sipush 4347, 3) := by decide +kernel
theorem dX9_remembers_56 : decode cX9_remembers 56 = .ok (.if_icmp .ge 30, 3) := by decide +kernel
theorem dX9_remembers_59 : decode cX9_remembers 59 = .ok (.aload_n 0, 1) := by decide +kernel
theorem dX9_remembers_60 : decode cX9_remembers 60 = .ok (.getfield 20, 3) := by decide +kernel
theorem dX9_remembers_63 : decode cX9_remembers 63 = .ok (.sipush 4347, 3) := by decide +kernel
theorem dX9_remembers_66 : decode cX9_remembers 66 = .ok (.aload_n 0, 1) := by decide +kernel
theorem dX9_remembers_67 : decode cX9_remembers 67 = .ok (.getfield 325, 3) := by decide +kernel
theorem dX9_remembers_70 : decode cX9_remembers 70 = .ok (.imul, 1) := by decide +kernel
theorem dX9_remembers_71 : decode cX9_remembers 71 = .ok (.iload_n 1, 1) := by decide +kernel
theorem dX9_remembers_72 : decode cX9_remembers 72 = .ok (.iadd, 1) := by decide +kernel
theorem dX9_remembers_73 : decode cX9_remembers 73 = .ok (.aload_n 0, 1) := by decide +kernel
theorem dX9_remembers_74 : decode cX9_remembers 74 = .ok (.getfield 13, 3) := by decide +kernel
theorem dX9_remembers_77 : decode cX9_remembers 77 = .ok (.iload_n 1, 1) := by decide +kernel
theorem dX9_remembers_78 : decode cX9_remembers 78 = .ok (.iaload, 1) := by decide +kernel
theorem dX9_remembers_79 : decode cX9_remembers 79 = .ok (.iastore, 1) := by decide +kernel
theorem dX9_remembers_80 : decode cX9_remembers 80 = .ok (.iinc 1 1, 3) := by decide +kernel
theorem dX9_remembers_83 : decode cX9_remembers 83 = .ok (.goto (-31), 3) := by decide +kernel
theorem dX9_remembers_86 : decode cX9_remembers 86 = .ok (.aload_n 0, 1) := by decide +kernel
theorem dX9_remembers_87 : decode cX9_remembers 87 = .ok (.dup, 1) := by decide +kernel
theorem dX9_remembers_88 : decode cX9_remembers 88 = .ok (.getfield 325, 3) := by decide +kernel
theorem dX9_remembers_91 : decode cX9_remembers 91 = .ok (.iconst 1, 1) := by decide +kernel
theorem dX9_remembers_92 : decode cX9_remembers 92 = .ok (.iadd, 1) := by decide +kernel
theorem dX9_remembers_93 : decode cX9_remembers 93 = .ok (.putfield 325, 3) := by decide +kernel
theorem dX9_remembers_96 : decode cX9_remembers 96 = .ok (.return_, 1) := by decide +kernel
theorem dX9_remembersPair_0 : decode cX9_remembersPair 0 = .ok (.aload_n 0, 1) := by decide +kernel
theorem dX9_remembersPair_1 : decode cX9_remembersPair 1 = .ok (.getfield 105, 3) := by decide +kernel
theorem dX9_remembersPair_4 : decode cX9_remembersPair 4 = .ok (.iload_n 1, 1) := by decide +kernel
theorem dX9_remembersPair_5 : decode cX9_remembersPair 5 = .ok (.iaload, 1) := by decide +kernel
theorem dX9_remembersPair_6 : decode cX9_remembersPair 6 = .ok (.bipush 60, 2) := by decide +kernel
theorem dX9_remembersPair_8 : decode cX9_remembersPair 8 = .ok (.if_icmp .le 4, 3) := by decide +kernel
theorem dX9_remembersPair_11 : decode cX9_remembersPair 11 = .ok (.return_, 1) := by decide +kernel
theorem dX9_remembersPair_12 : decode cX9_remembersPair 12 = .ok (.sipush 4346, 3) := by decide +kernel
theorem dX9_remembersPair_15 : decode cX9_remembersPair 15 = .ok (.istore_n 3, 1) := by decide +kernel
theorem dX9_remembersPair_16 : decode cX9_remembersPair 16 = .ok (.iload_n 3, 1) := by decide +kernel
theorem dX9_remembersPair_17 : decode cX9_remembersPair 17 = .ok (.sipush 3005, 3) := by decide +kernel
theorem dX9_remembersPair_20 : decode cX9_remembersPair 20 = .ok (.if_icmp .lt 24, 3) := by decide +kernel
theorem dX9_remembersPair_23 : decode cX9_remembersPair 23 = .ok (.aload_n 0, 1) := by decide +kernel
theorem dX9_remembersPair_24 : decode cX9_remembersPair 24 = .ok (.getfield 7, 3) := by decide +kernel
theorem dX9_remembersPair_27 : decode cX9_remembersPair 27 = .ok (.iload_n 3, 1) := by decide +kernel
theorem dX9_remembersPair_28 : decode cX9_remembersPair 28 = .ok (.aload_n 0, 1) := by decide +kernel
theorem dX9_remembersPair_29 : decode cX9_remembersPair 29 = .ok (.getfield 7, 3) := by decide +kernel
theorem dX9_remembersPair_32 : decode cX9_remembersPair 32 = .ok (.iload_n 3, 1) := by decide +kernel
theorem dX9_remembersPair_33 : decode cX9_remembersPair 33 = .ok (.bipush 122, 2) := by decide +kernel
theorem dX9_remembersPair_35 : decode cX9_remembersPair 35 = .ok (.isub, 1) := by decide +kernel
theorem dX9_remembersPair_36 : decode cX9_remembersPair 36 = .ok (.iaload, 1) := by decide +kernel
theorem dX9_remembersPair_37 : decode cX9_remembersPair 37 = .ok (.iastore, 1) := by decide +kernel
theorem dX9_remembersPair_38 : decode cX9_remembersPair 38 = .ok (.iinc 3 (-1), 3) := by decide +kernel
theorem dX9_remembersPair_41 : decode cX9_remembersPair 41 = .ok (.goto (-25), 3) := by decide +kernel
theorem dX9_remembersPair_44 : decode cX9_remembersPair 44 = .ok (.aload_n 0, 1) := by decide +kernel
theorem dX9_remembersPair_45 : decode cX9_remembersPair 45 = .ok (.getfield 7, 3) := by decide +kernel
theorem dX9_remembersPair_48 : decode cX9_remembersPair 48 = .ok (.sipush 2883, 3) := by decide +kernel
theorem dX9_remembersPair_51 : decode cX9_remembersPair 51 = .ok (.aload_n 0, 1) := by decide +kernel
theorem dX9_remembersPair_52 : decode cX9_remembersPair 52 = .ok (.getfield 105, 3) := by decide +kernel
theorem dX9_remembersPair_55 : decode cX9_remembersPair 55 = .ok (.iload_n 1, 1) := by decide +kernel
theorem dX9_remembersPair_56 : decode cX9_remembersPair 56 = .ok (.iaload, 1) := by decide +kernel
theorem dX9_remembersPair_57 : decode cX9_remembersPair 57 = .ok (.iastore, 1) := by decide +kernel
theorem dX9_remembersPair_58 : decode cX9_remembersPair 58 = .ok (.iconst 0, 1) := by decide +kernel
theorem dX9_remembersPair_59 : decode cX9_remembersPair 59 = .ok (.istore_n 3, 1) := by decide +kernel
theorem dX9_remembersPair_60 : decode cX9_remembersPair 60 = .ok (.iload_n 3, 1) := by decide +kernel
theorem dX9_remembersPair_61 : decode cX9_remembersPair 61 = .ok (.aload_n 0, 1) := by decide +kernel
theorem dX9_remembersPair_62 : decode cX9_remembersPair 62 = .ok (.getfield 105, 3) := by decide +kernel
theorem dX9_remembersPair_65 : decode cX9_remembersPair 65 = .ok (.iload_n 1, 1) := by decide +kernel
theorem dX9_remembersPair_66 : decode cX9_remembersPair 66 = .ok (.iaload, 1) := by decide +kernel
theorem dX9_remembersPair_67 : decode cX9_remembersPair 67 = .ok (.if_icmp .ge 32, 3) := by decide +kernel
theorem dX9_remembersPair_70 : decode cX9_remembersPair 70 = .ok (.aload_n 0, 1) := by decide +kernel
theorem dX9_remembersPair_71 : decode cX9_remembersPair 71 = .ok (.getfield 7, 3) := by decide +kernel
theorem dX9_remembersPair_74 : decode cX9_remembersPair 74 = .ok (.sipush 2884, 3) := by decide +kernel
theorem dX9_remembersPair_77 : decode cX9_remembersPair 77 = .ok (.iload_n 3, 1) := by decide +kernel
theorem dX9_remembersPair_78 : decode cX9_remembersPair 78 = .ok (.iadd, 1) := by decide +kernel
theorem dX9_remembersPair_79 : decode cX9_remembersPair 79 = .ok (.aload_n 0, 1) := by decide +kernel
theorem dX9_remembersPair_80 : decode cX9_remembersPair 80 = .ok (.getfield 108, 3) := by decide +kernel
theorem dX9_remembersPair_83 : decode cX9_remembersPair 83 = .ok (.aload_n 0, 1) := by decide +kernel
theorem dX9_remembersPair_84 : decode cX9_remembersPair 84 = .ok (.getfield 102, 3) := by decide +kernel
theorem dX9_remembersPair_87 : decode cX9_remembersPair 87 = .ok (.iload_n 1, 1) := by decide +kernel
theorem dX9_remembersPair_88 : decode cX9_remembersPair 88 = .ok (.iaload, 1) := by decide +kernel
theorem dX9_remembersPair_89 : decode cX9_remembersPair 89 = .ok (.iload_n 3, 1) := by decide +kernel
theorem dX9_remembersPair_90 : decode cX9_remembersPair 90 = .ok (.iadd, 1) := by decide +kernel
theorem dX9_remembersPair_91 : decode cX9_remembersPair 91 = .ok (.iaload, 1) := by decide +kernel
theorem dX9_remembersPair_92 : decode cX9_remembersPair 92 = .ok (.iastore, 1) := by decide +kernel
theorem dX9_remembersPair_93 : decode cX9_remembersPair 93 = .ok (.iinc 3 1, 3) := by decide +kernel
theorem dX9_remembersPair_96 : decode cX9_remembersPair 96 = .ok (.goto (-36), 3) := by decide +kernel
theorem dX9_remembersPair_99 : decode cX9_remembersPair 99 = .ok (.aload_n 0, 1) := by decide +kernel
theorem dX9_remembersPair_100 : decode cX9_remembersPair 100 = .ok (.getfield 7, 3) := by decide +kernel
theorem dX9_remembersPair_103 : decode cX9_remembersPair 103 = .ok (.sipush 2944, 3) := by decide +kernel
theorem dX9_remembersPair_106 : decode cX9_remembersPair 106 = .ok (.iload_n 2, 1) := by decide +kernel
theorem dX9_remembersPair_107 : decode cX9_remembersPair 107 = .ok (.iastore, 1) := by decide +kernel
theorem dX9_remembersPair_108 : decode cX9_remembersPair 108 = .ok (.iconst 0, 1) := by decide +kernel
theorem dX9_remembersPair_109 : decode cX9_remembersPair 109 = .ok (.istore_n 3, 1) := by decide +kernel
theorem dX9_remembersPair_110 : decode cX9_remembersPair 110 = .ok (.iload_n 3, 1) := by decide +kernel
theorem dX9_remembersPair_111 : decode cX9_remembersPair 111 = .ok (.iload_n 2, 1) := by decide +kernel
theorem dX9_remembersPair_112 : decode cX9_remembersPair 112 = .ok (.if_icmp .ge 25, 3) := by decide +kernel
theorem dX9_remembersPair_115 : decode cX9_remembersPair 115 = .ok (.aload_n 0, 1) := by decide +kernel
theorem dX9_remembersPair_116 : decode cX9_remembersPair 116 = .ok (.getfield 7, 3) := by decide +kernel
theorem dX9_remembersPair_119 : decode cX9_remembersPair 119 = .ok (.sipush 2945, 3) := by decide +kernel
theorem dX9_remembersPair_122 : decode cX9_remembersPair 122 = .ok (.iload_n 3, 1) := by decide +kernel
theorem dX9_remembersPair_123 : decode cX9_remembersPair 123 = .ok (.iadd, 1) := by decide +kernel
theorem dX9_remembersPair_124 : decode cX9_remembersPair 124 = .ok (.aload_n 0, 1) := by decide +kernel
theorem dX9_remembersPair_125 : decode cX9_remembersPair 125 = .ok (.getfield 132, 3) := by decide +kernel
theorem dX9_remembersPair_128 : decode cX9_remembersPair 128 = .ok (.iload_n 3, 1) := by decide +kernel
theorem dX9_remembersPair_129 : decode cX9_remembersPair 129 = .ok (.iaload, 1) := by decide +kernel
theorem dX9_remembersPair_130 : decode cX9_remembersPair 130 = .ok (.iastore, 1) := by decide +kernel
theorem dX9_remembersPair_131 : decode cX9_remembersPair 131 = .ok (.iinc 3 1, 3) := by decide +kernel
theorem dX9_remembersPair_134 : decode cX9_remembersPair 134 = .ok (.goto (-24), 3) := by decide +kernel
theorem dX9_remembersPair_137 : decode cX9_remembersPair 137 = .ok (.aload_n 0, 1) := by decide +kernel
theorem dX9_remembersPair_138 : decode cX9_remembersPair 138 = .ok (.getfield 7, 3) := by decide +kernel
theorem dX9_remembersPair_141 : decode cX9_remembersPair 141 = .ok (.bipush 42, 2) := by decide +kernel
theorem dX9_remembersPair_143 : decode cX9_remembersPair 143 = .ok (.iaload, 1) := by decide +kernel
theorem dX9_remembersPair_144 : decode cX9_remembersPair 144 = .ok (.bipush 12, 2) := by decide +kernel
theorem dX9_remembersPair_146 : decode cX9_remembersPair 146 = .ok (.if_icmp .ge 14, 3) := by decide +kernel
theorem dX9_remembersPair_149 : decode cX9_remembersPair 149 = .ok (.aload_n 0, 1) := by decide +kernel
theorem dX9_remembersPair_150 : decode cX9_remembersPair 150 = .ok (.getfield 7, 3) := by decide +kernel
theorem dX9_remembersPair_153 : decode cX9_remembersPair 153 = .ok (.bipush 42, 2) := by decide +kernel
theorem dX9_remembersPair_155 : decode cX9_remembersPair 155 = .ok (.dup2, 1) := by decide +kernel
theorem dX9_remembersPair_156 : decode cX9_remembersPair 156 = .ok (.iaload, 1) := by decide +kernel
theorem dX9_remembersPair_157 : decode cX9_remembersPair 157 = .ok (.iconst 1, 1) := by decide +kernel
theorem dX9_remembersPair_158 : decode cX9_remembersPair 158 = .ok (.iadd, 1) := by decide +kernel
theorem dX9_remembersPair_159 : decode cX9_remembersPair 159 = .ok (.iastore, 1) := by decide +kernel
theorem dX9_remembersPair_160 : decode cX9_remembersPair 160 = .ok (.return_, 1) := by decide +kernel
theorem dX9_rule_0 : decode cX9_rule 0 = .ok (.aload_n 0, 1) := by decide +kernel
theorem dX9_rule_1 : decode cX9_rule 1 = .ok (.iload_n 1, 1) := by decide +kernel
theorem dX9_rule_2 : decode cX9_rule 2 = .ok (.iconst 0, 1) := by decide +kernel
theorem dX9_rule_3 : decode cX9_rule 3 = .ok (.iconst 1, 1) := by decide +kernel
theorem dX9_rule_4 : decode cX9_rule 4 = .ok (.invokestatic 141, 3) := by decide +kernel
theorem dX9_rule_7 : decode cX9_rule 7 = .ok (.ifCond .ne 7, 3) := by decide +kernel
theorem dX9_rule_10 : decode cX9_rule 10 = .ok (.iconst 1, 1) := by decide +kernel
theorem dX9_rule_11 : decode cX9_rule 11 = .ok (.goto 26, 3) := by decide +kernel
theorem dX9_rule_14 : decode cX9_rule 14 = .ok (.iload_n 2, 1) := by decide +kernel
theorem dX9_rule_15 : decode cX9_rule 15 = .ok (.iload_n 1, 1) := by decide +kernel
theorem dX9_rule_16 : decode cX9_rule 16 = .ok (.iload_n 1, 1) := by decide +kernel
theorem dX9_rule_17 : decode cX9_rule 17 = .ok (.ifCond .ne 7, 3) := by decide +kernel
theorem dX9_rule_20 : decode cX9_rule 20 = .ok (.iconst 1, 1) := by decide +kernel
theorem dX9_rule_21 : decode cX9_rule 21 = .ok (.goto 5, 3) := by decide +kernel
theorem dX9_rule_24 : decode cX9_rule 24 = .ok (.bipush 40, 2) := by decide +kernel
theorem dX9_rule_26 : decode cX9_rule 26 = .ok (.invokestatic 141, 3) := by decide +kernel
theorem dX9_rule_29 : decode cX9_rule 29 = .ok (.ifCond .ne 7, 3) := by decide +kernel
theorem dX9_rule_32 : decode cX9_rule 32 = .ok (.iconst 2, 1) := by decide +kernel
theorem dX9_rule_33 : decode cX9_rule 33 = .ok (.goto 4, 3) := by decide +kernel
theorem dX9_rule_36 : decode cX9_rule 36 = .ok (.iconst 0, 1) := by decide +kernel
theorem dX9_rule_37 : decode cX9_rule 37 = .ok (.putfield 138, 3) := by decide +kernel
theorem dX9_rule_40 : decode cX9_rule 40 = .ok (.aload_n 0, 1) := by decide +kernel
theorem dX9_rule_41 : decode cX9_rule 41 = .ok (.getfield 138, 3) := by decide +kernel
theorem dX9_rule_44 : decode cX9_rule 44 = .ok (.ifCond .le 5, 3) := by decide +kernel
theorem dX9_rule_47 : decode cX9_rule 47 = .ok (.iconst 0, 1) := by decide +kernel
theorem dX9_rule_48 : decode cX9_rule 48 = .ok (.ireturn, 1) := by decide +kernel
theorem dX9_rule_49 : decode cX9_rule 49 = .ok (.aload_n 0, 1) := by decide +kernel
theorem dX9_rule_50 : decode cX9_rule 50 = .ok (.invokevirtual 420, 3) := by decide +kernel
theorem dX9_rule_53 : decode cX9_rule 53 = .ok (.aload_n 0, 1) := by decide +kernel
theorem dX9_rule_54 : decode cX9_rule 54 = .ok (.aload_n 0, 1) := by decide +kernel
theorem dX9_rule_55 : decode cX9_rule 55 = .ok (.iload_n 1, 1) := by decide +kernel
theorem dX9_rule_56 : decode cX9_rule 56 = .ok (.ifCond .ne 7, 3) := by decide +kernel
theorem dX9_rule_59 : decode cX9_rule 59 = .ok (.iconst 3, 1) := by decide +kernel
theorem dX9_rule_60 : decode cX9_rule 60 = .ok (.goto 4, 3) := by decide +kernel
theorem dX9_rule_63 : decode cX9_rule 63 = .ok (.iconst 4, 1) := by decide +kernel
theorem dX9_rule_64 : decode cX9_rule 64 = .ok (.iload_n 2, 1) := by decide +kernel
theorem dX9_rule_65 : decode cX9_rule 65 = .ok (.invokevirtual 361, 3) := by decide +kernel
theorem dX9_rule_68 : decode cX9_rule 68 = .ok (.iconst 0, 1) := by decide +kernel
theorem dX9_rule_69 : decode cX9_rule 69 = .ok (.invokevirtual 429, 3) := by decide +kernel
theorem dX9_rule_72 : decode cX9_rule 72 = .ok (.ifCond .eq 10, 3) := by decide +kernel
theorem dX9_rule_75 : decode cX9_rule 75 = .ok (.aload_n 0, 1) := by decide +kernel
theorem dX9_rule_76 : decode cX9_rule 76 = .ok (.getfield 204, 3) := by decide +kernel
theorem dX9_rule_79 : decode cX9_rule 79 = .ok (.goto 4, 3) := by decide +kernel
theorem dX9_rule_82 : decode cX9_rule 82 = .ok (.iconst 0, 1) := by decide +kernel
theorem dX9_rule_83 : decode cX9_rule 83 = .ok (.ireturn, 1) := by decide +kernel
theorem dX9_ruleText_0 : decode cX9_ruleText 0 = .ok (.aload_n 0, 1) := by decide +kernel
theorem dX9_ruleText_1 : decode cX9_ruleText 1 = .ok (.iload_n 2, 1) := by decide +kernel
theorem dX9_ruleText_2 : decode cX9_ruleText 2 = .ok (.iload_n 3, 1) := by decide +kernel
theorem dX9_ruleText_3 : decode cX9_ruleText 3 = .ok (.invokevirtual 358, 3) := by decide +kernel
theorem dX9_ruleText_6 : decode cX9_ruleText 6 = .ok (.istore 4, 2) := by decide +kernel
theorem dX9_ruleText_8 : decode cX9_ruleText 8 = .ok (.aload_n 0, 1) := by decide +kernel
theorem dX9_ruleText_9 : decode cX9_ruleText 9 = .ok (.getfield 26, 3) := by decide +kernel
theorem dX9_ruleText_12 : decode cX9_ruleText 12 = .ok (.iconst (-1), 1) := by decide +kernel
theorem dX9_ruleText_13 : decode cX9_ruleText 13 = .ok (.if_icmp .ne 13, 3) := by decide +kernel
theorem dX9_ruleText_16 : decode cX9_ruleText 16 = .ok (.aload_n 0, 1) := by decide +kernel
theorem dX9_ruleText_17 : decode cX9_ruleText 17 = .ok (.iload_n 1, 1) := by decide +kernel
theorem dX9_ruleText_18 : decode cX9_ruleText 18 = .ok (.iload 4, 2) := by decide +kernel
