/-! part 21f.dec -/
section
theorem dX9_memory_0 : decode cX9_memory 0 = .ok (.aload_n 0, 1) := by decide +kernel
theorem dX9_memory_1 : decode cX9_memory 1 = .ok (.iconst 0, 1) := by decide +kernel
theorem dX9_memory_2 : decode cX9_memory 2 = .ok (.putfield 138, 3) := by decide +kernel
theorem dX9_memory_5 : decode cX9_memory 5 = .ok (.iload_n 1, 1) := by decide +kernel
theorem dX9_memory_6 : decode cX9_memory 6 = .ok (.iconst 0, 1) := by decide +kernel
theorem dX9_memory_7 : decode cX9_memory 7 = .ok (.aload_n 0, 1) := by decide +kernel
theorem dX9_memory_8 : decode cX9_memory 8 = .ok (.getfield 7, 3) := by decide +kernel
theorem dX9_memory_11 : decode cX9_memory 11 = .ok (.bipush 42, 2) := by decide +kernel
theorem dX9_memory_13 : decode cX9_memory 13 = .ok (.iaload, 1) := by decide +kernel
theorem dX9_memory_14 : decode cX9_memory 14 = .ok (.iconst 1, 1) := by decide +kernel
theorem dX9_memory_15 : decode cX9_memory 15 = .ok (.isub, 1) := by decide +kernel
theorem dX9_memory_16 : decode cX9_memory 16 = .ok (.invokestatic 141, 3) := by decide +kernel
theorem dX9_memory_19 : decode cX9_memory 19 = .ok (.ifCond .ne 5, 3) := by decide +kernel
theorem dX9_memory_22 : decode cX9_memory 22 = .ok (.iconst (-1), 1) := by decide +kernel
theorem dX9_memory_23 : decode cX9_memory 23 = .ok (.ireturn, 1) := by decide +kernel
theorem dX9_memory_24 : decode cX9_memory 24 = .ok (.sipush 2883, 3) := by decide +kernel
theorem dX9_memory_27 : decode cX9_memory 27 = .ok (.bipush 122, 2) := by decide +kernel
theorem dX9_memory_29 : decode cX9_memory 29 = .ok (.iload_n 1, 1) := by decide +kernel
theorem dX9_memory_30 : decode cX9_memory 30 = .ok (.imul, 1) := by decide +kernel
theorem dX9_memory_31 : decode cX9_memory 31 = .ok (.iadd, 1) := by decide +kernel
theorem dX9_memory_32 : decode cX9_memory 32 = .ok (.iload_n 2, 1) := by decide +kernel
theorem dX9_memory_33 : decode cX9_memory 33 = .ok (.ifCond .eq 8, 3) := by decide +kernel
theorem dX9_memory_36 : decode cX9_memory 36 = .ok (.bipush 61, 2) := by decide +kernel
theorem dX9_memory_38 : decode cX9_memory 38 = .ok (.goto 4, 3) := by decide +kernel
theorem dX9_memory_41 : decode cX9_memory 41 = .ok (.iconst 0, 1) := by decide +kernel
theorem dX9_memory_42 : decode cX9_memory 42 = .ok (.iadd, 1) := by decide +kernel
theorem dX9_memory_43 : decode cX9_memory 43 = .ok (.istore 4, 2) := by decide +kernel
theorem dX9_memory_45 : decode cX9_memory 45 = .ok (.iload_n 3, 1) := by decide +kernel
theorem dX9_memory_46 : decode cX9_memory 46 = .ok (.iconst 0, 1) := by decide +kernel
theorem dX9_memory_47 : decode cX9_memory 47 = .ok (.aload_n 0, 1) := by decide +kernel
theorem dX9_memory_48 : decode cX9_memory 48 = .ok (.getfield 7, 3) := by decide +kernel
theorem dX9_memory_51 : decode cX9_memory 51 = .ok (.iload 4, 2) := by decide +kernel
theorem dX9_memory_53 : decode cX9_memory 53 = .ok (.iaload, 1) := by decide +kernel
theorem dX9_memory_54 : decode cX9_memory 54 = .ok (.iconst 1, 1) := by decide +kernel
theorem dX9_memory_55 : decode cX9_memory 55 = .ok (.isub, 1) := by decide +kernel
theorem dX9_memory_56 : decode cX9_memory 56 = .ok (.invokestatic 141, 3) := by decide +kernel
theorem dX9_memory_59 : decode cX9_memory 59 = .ok (.ifCond .eq 17, 3) := by decide +kernel
theorem dX9_memory_62 : decode cX9_memory 62 = .ok (.aload_n 0, 1) := by decide +kernel
theorem dX9_memory_63 : decode cX9_memory 63 = .ok (.getfield 7, 3) := by decide +kernel
theorem dX9_memory_66 : decode cX9_memory 66 = .ok (.iload 4, 2) := by decide +kernel
theorem dX9_memory_68 : decode cX9_memory 68 = .ok (.iconst 1, 1) := by decide +kernel
theorem dX9_memory_69 : decode cX9_memory 69 = .ok (.iadd, 1) := by decide +kernel
theorem dX9_memory_70 : decode cX9_memory 70 = .ok (.iload_n 3, 1) := by decide +kernel
theorem dX9_memory_71 : decode cX9_memory 71 = .ok (.iadd, 1) := by decide +kernel
theorem dX9_memory_72 : decode cX9_memory 72 = .ok (.iaload, 1) := by decide +kernel
theorem dX9_memory_73 : decode cX9_memory 73 = .ok (.goto 4, 3) := by decide +kernel
theorem dX9_memory_76 : decode cX9_memory 76 = .ok (.iconst (-1), 1) := by decide +kernel
theorem dX9_memory_77 : decode cX9_memory 77 = .ok (.ireturn, 1) := by decide +kernel
theorem dX9_nowByte_0 : decode cX9_nowByte 0 = .ok (.aload_n 0, 1) := by decide +kernel
theorem dX9_nowByte_1 : decode cX9_nowByte 1 = .ok (.iload_n 1, 1) := by decide +kernel
theorem dX9_nowByte_2 : decode cX9_nowByte 2 = .ok (.invokevirtual 247, 3) := by decide +kernel
theorem dX9_nowByte_5 : decode cX9_nowByte 5 = .ok (.iconst (-1), 1) := by decide +kernel
theorem dX9_nowByte_6 : decode cX9_nowByte 6 = .ok (.if_icmp .ne 19, 3) := by decide +kernel
theorem dX9_nowByte_9 : decode cX9_nowByte 9 = .ok (.aload_n 0, 1) := by decide +kernel
theorem dX9_nowByte_10 : decode cX9_nowByte 10 = .ok (.getfield 108, 3) := by decide +kernel
theorem dX9_nowByte_13 : decode cX9_nowByte 13 = .ok (.aload_n 0, 1) := by decide +kernel
theorem dX9_nowByte_14 : decode cX9_nowByte 14 = .ok (.getfield 102, 3) := by decide +kernel
theorem dX9_nowByte_17 : decode cX9_nowByte 17 = .ok (.iload_n 1, 1) := by decide +kernel
theorem dX9_nowByte_18 : decode cX9_nowByte 18 = .ok (.iaload, 1) := by decide +kernel
theorem dX9_nowByte_19 : decode cX9_nowByte 19 = .ok (.iload_n 2, 1) := by decide +kernel
theorem dX9_nowByte_20 : decode cX9_nowByte 20 = .ok (.iadd, 1) := by decide +kernel
theorem dX9_nowByte_21 : decode cX9_nowByte 21 = .ok (.iaload, 1) := by decide +kernel
theorem dX9_nowByte_22 : decode cX9_nowByte 22 = .ok (.goto 9, 3) := by decide +kernel
theorem dX9_nowByte_25 : decode cX9_nowByte 25 = .ok (.aload_n 0, 1) := by decide +kernel
theorem dX9_nowByte_26 : decode cX9_nowByte 26 = .ok (.iload_n 1, 1) := by decide +kernel
theorem dX9_nowByte_27 : decode cX9_nowByte 27 = .ok (.iload_n 2, 1) := by decide +kernel
theorem dX9_nowByte_28 : decode cX9_nowByte 28 = .ok (.invokevirtual 251, 3) := by decide +kernel
theorem dX9_nowByte_31 : decode cX9_nowByte 31 = .ok (.ireturn, 1) := by decide +kernel
theorem dX9_nowMany_0 : decode cX9_nowMany 0 = .ok (.aload_n 0, 1) := by decide +kernel
theorem dX9_nowMany_1 : decode cX9_nowMany 1 = .ok (.iload_n 1, 1) := by decide +kernel
theorem dX9_nowMany_2 : decode cX9_nowMany 2 = .ok (.invokevirtual 247, 3) := by decide +kernel
theorem dX9_nowMany_5 : decode cX9_nowMany 5 = .ok (.iconst (-1), 1) := by decide +kernel
theorem dX9_nowMany_6 : decode cX9_nowMany 6 = .ok (.if_icmp .ne 12, 3) := by decide +kernel
theorem dX9_nowMany_9 : decode cX9_nowMany 9 = .ok (.aload_n 0, 1) := by decide +kernel
theorem dX9_nowMany_10 : decode cX9_nowMany 10 = .ok (.getfield 105, 3) := by decide +kernel
theorem dX9_nowMany_13 : decode cX9_nowMany 13 = .ok (.iload_n 1, 1) := by decide +kernel
theorem dX9_nowMany_14 : decode cX9_nowMany 14 = .ok (.iaload, 1) := by decide +kernel
theorem dX9_nowMany_15 : decode cX9_nowMany 15 = .ok (.goto 8, 3) := by decide +kernel
theorem dX9_nowMany_18 : decode cX9_nowMany 18 = .ok (.aload_n 0, 1) := by decide +kernel
theorem dX9_nowMany_19 : decode cX9_nowMany 19 = .ok (.iload_n 1, 1) := by decide +kernel
theorem dX9_nowMany_20 : decode cX9_nowMany 20 = .ok (.invokevirtual 247, 3) := by decide +kernel
theorem dX9_nowMany_23 : decode cX9_nowMany 23 = .ok (.ireturn, 1) := by decide +kernel
theorem dX9_number_0 : decode cX9_number 0 = .ok (.aload_n 0, 1) := by decide +kernel
theorem dX9_number_1 : decode cX9_number 1 = .ok (.getfield 26, 3) := by decide +kernel
theorem dX9_number_4 : decode cX9_number 4 = .ok (.iconst (-1), 1) := by decide +kernel
theorem dX9_number_5 : decode cX9_number 5 = .ok (.if_icmp .eq 5, 3) := by decide +kernel
theorem dX9_number_8 : decode cX9_number 8 = .ok (.iconst 0, 1) := by decide +kernel
theorem dX9_number_9 : decode cX9_number 9 = .ok (.ireturn, 1) := by decide +kernel
theorem dX9_number_10 : decode cX9_number 10 = .ok (.aload_n 0, 1) := by decide +kernel
theorem dX9_number_11 : decode cX9_number 11 = .ok (.invokevirtual 346, 3) := by decide +kernel
theorem dX9_number_14 : decode cX9_number 14 = .ok (.istore_n 3, 1) := by decide +kernel
theorem dX9_number_15 : decode cX9_number 15 = .ok (.iconst 0, 1) := by decide +kernel
theorem dX9_number_16 : decode cX9_number 16 = .ok (.istore 4, 2) := by decide +kernel
theorem dX9_number_18 : decode cX9_number 18 = .ok (.aload_n 0, 1) := by decide +kernel
theorem dX9_number_19 : decode cX9_number 19 = .ok (.getfield 340, 3) := by decide +kernel
theorem dX9_number_22 : decode cX9_number 22 = .ok (.aload_n 0, 1) := by decide +kernel
theorem dX9_number_23 : decode cX9_number 23 = .ok (.getfield 343, 3) := by decide +kernel
theorem dX9_number_26 : decode cX9_number 26 = .ok (.if_icmp .ge 65, 3) := by decide +kernel
theorem dX9_number_29 : decode cX9_number 29 = .ok (.aload_n 0, 1) := by decide +kernel
theorem dX9_number_30 : decode cX9_number 30 = .ok (.getfield 23, 3) := by decide +kernel
theorem dX9_number_33 : decode cX9_number 33 = .ok (.aload_n 0, 1) := by decide +kernel
theorem dX9_number_34 : decode cX9_number 34 = .ok (.getfield 340, 3) := by decide +kernel
theorem dX9_number_37 : decode cX9_number 37 = .ok (.iaload, 1) := by decide +kernel
theorem dX9_number_38 : decode cX9_number 38 = .ok (.bipush 48, 2) := by decide +kernel
theorem dX9_number_40 : decode cX9_number 40 = .ok (.bipush 57, 2) := by decide +kernel
theorem dX9_number_42 : decode cX9_number 42 = .ok (.invokestatic 141, 3) := by decide +kernel
theorem dX9_number_45 : decode cX9_number 45 = .ok (.ifCond .eq 46, 3) := by decide +kernel
theorem dX9_number_48 : decode cX9_number 48 = .ok (.aload_n 0, 1) := by decide +kernel
theorem dX9_number_49 : decode cX9_number 49 = .ok (.getfield 340, 3) := by decide +kernel
theorem dX9_number_52 : decode cX9_number 52 = .ok (.iload_n 3, 1) := by decide +kernel
theorem dX9_number_53 : decode cX9_number 53 = .ok (.isub, 1) := by decide +kernel
theorem dX9_number_54 : decode cX9_number 54 = .ok (.iconst 2, 1) := by decide +kernel
theorem dX9_number_55 : decode cX9_number 55 = .ok (.if_icmp .gt 36, 3) := by decide +kernel
theorem dX9_number_58 : decode cX9_number 58 = .ok (.bipush 10, 2) := by decide +kernel
theorem dX9_number_60 : decode cX9_number 60 = .ok (.iload 4, 2) := by decide +kernel
theorem dX9_number_62 : decode cX9_number 62 = .ok (.imul, 1) := by decide +kernel
theorem dX9_number_63 : decode cX9_number 63 = .ok (.aload_n 0, 1) := by decide +kernel
theorem dX9_number_64 : decode cX9_number 64 = .ok (.getfield 23, 3) := by decide +kernel
theorem dX9_number_67 : decode cX9_number 67 = .ok (.aload_n 0, 1) := by decide +kernel
theorem dX9_number_68 : decode cX9_number 68 = .ok (.getfield 340, 3) := by decide +kernel
theorem dX9_number_71 : decode cX9_number 71 = .ok (.iaload, 1) := by decide +kernel
theorem dX9_number_72 : decode cX9_number 72 = .ok (.iadd, 1) := by decide +kernel
theorem dX9_number_73 : decode cX9_number 73 = .ok (.bipush 48, 2) := by decide +kernel
theorem dX9_number_75 : decode cX9_number 75 = .ok (.isub, 1) := by decide +kernel
theorem dX9_number_76 : decode cX9_number 76 = .ok (.istore 4, 2) := by decide +kernel
theorem dX9_number_78 : decode cX9_number 78 = .ok (.aload_n 0, 1) := by decide +kernel
theorem dX9_number_79 : decode cX9_number 79 = .ok (.dup, 1) := by decide +kernel
theorem dX9_number_80 : decode cX9_number 80 = .ok (.getfield 340, 3) := by decide +kernel
theorem dX9_number_83 : decode cX9_number 83 = .ok (.iconst 1, 1) := by decide +kernel
theorem dX9_number_84 : decode cX9_number 84 = .ok (.iadd, 1) := by decide +kernel
theorem dX9_number_85 : decode cX9_number 85 = .ok (.putfield 340, 3) := by decide +kernel
theorem dX9_number_88 : decode cX9_number 88 = .ok (.goto (-70), 3) := by decide +kernel
theorem dX9_number_91 : decode cX9_number 91 = .ok (.aload_n 0, 1) := by decide +kernel
theorem dX9_number_92 : decode cX9_number 92 = .ok (.getfield 340, 3) := by decide +kernel
theorem dX9_number_95 : decode cX9_number 95 = .ok (.iload_n 3, 1) := by decide +kernel
theorem dX9_number_96 : decode cX9_number 96 = .ok (.if_icmp .eq 25, 3) := by decide +kernel
theorem dX9_number_99 : decode cX9_number 99 = .ok (.aload_n 0, 1) := by decide +kernel
theorem dX9_number_100 : decode cX9_number 100 = .ok (.getfield 340, 3) := by decide +kernel
theorem dX9_number_103 : decode cX9_number 103 = .ok (.iload_n 3, 1) := by decide +kernel
theorem dX9_number_104 : decode cX9_number 104 = .ok (.isub, 1) := by decide +kernel
theorem dX9_number_105 : decode cX9_number 105 = .ok (.iconst 2, 1) := by decide +kernel
theorem dX9_number_106 : decode cX9_number 106 = .ok (.if_icmp .gt 15, 3) := by decide +kernel
theorem dX9_number_109 : decode cX9_number 109 = .ok (.iload 4, 2) := by decide +kernel
theorem dX9_number_111 : decode cX9_number 111 = .ok (.iload_n 1, 1) := by decide +kernel
theorem dX9_number_112 : decode cX9_number 112 = .ok (.if_icmp .lt 9, 3) := by decide +kernel
theorem dX9_number_115 : decode cX9_number 115 = .ok (.iload 4, 2) := by decide +kernel
theorem dX9_number_117 : decode cX9_number 117 = .ok (.iload_n 2, 1) := by decide +kernel
theorem dX9_number_118 : decode cX9_number 118 = .ok (.if_icmp .le 8, 3) := by decide +kernel
theorem dX9_number_121 : decode cX9_number 121 = .ok (.aload_n 0, 1) := by decide +kernel
theorem dX9_number_122 : decode cX9_number 122 = .ok (.iload_n 3, 1) := by decide +kernel
theorem dX9_number_123 : decode cX9_number 123 = .ok (.invokevirtual 352, 3) := by decide +kernel
theorem dX9_number_126 : decode cX9_number 126 = .ok (.iload 4, 2) := by decide +kernel
theorem dX9_number_128 : decode cX9_number 128 = .ok (.ireturn, 1) := by decide +kernel
theorem dX9_octet_0 : decode cX9_octet 0 = .ok (.aload_n 0, 1) := by decide +kernel
theorem dX9_octet_1 : decode cX9_octet 1 = .ok (.aload_n 0, 1) := by decide +kernel
theorem dX9_octet_2 : decode cX9_octet 2 = .ok (.iload_n 1, 1) := by decide +kernel
theorem dX9_octet_3 : decode cX9_octet 3 = .ok (.invokevirtual 293, 3) := by decide +kernel
theorem dX9_octet_6 : decode cX9_octet 6 = .ok (.ifCond .eq 7, 3) := by decide +kernel
theorem dX9_octet_9 : decode cX9_octet 9 = .ok (.iconst 0, 1) := by decide +kernel
theorem dX9_octet_10 : decode cX9_octet 10 = .ok (.goto 4, 3) := by decide +kernel
theorem dX9_octet_13 : decode cX9_octet 13 = .ok (.iconst 1, 1) := by decide +kernel
theorem dX9_octet_14 : decode cX9_octet 14 = .ok (.putfield 138, 3) := by decide +kernel
theorem dX9_octet_17 : decode cX9_octet 17 = .ok (.aload_n 0, 1) := by decide +kernel
theorem dX9_octet_18 : decode cX9_octet 18 = .ok (.getfield 138, 3) := by decide +kernel
theorem dX9_octet_21 : decode cX9_octet 21 = .ok (.ifCond .le 5, 3) := by decide +kernel
theorem dX9_octet_24 : decode cX9_octet 24 = .ok (.iconst 0, 1) := by decide +kernel
theorem dX9_octet_25 : decode cX9_octet 25 = .ok (.ireturn, 1) := by decide +kernel
theorem dX9_octet_26 : decode cX9_octet 26 = .ok (.iload_n 2, 1) := by decide +kernel
theorem dX9_octet_27 : decode cX9_octet 27 = .ok (.iconst 0, 1) := by decide +kernel
theorem dX9_octet_28 : decode cX9_octet 28 = .ok (.iload_n 3, 1) := by decide +kernel
theorem dX9_octet_29 : decode cX9_octet 29 = .ok (.ifCond .eq 11, 3) := by decide +kernel
theorem dX9_octet_32 : decode cX9_octet 32 = .ok (.aload_n 0, 1) := by decide +kernel
theorem dX9_octet_33 : decode cX9_octet 33 = .ok (.iload_n 1, 1) := by decide +kernel
theorem dX9_octet_34 : decode cX9_octet 34 = .ok (.invokevirtual 313, 3) := by decide +kernel
theorem dX9_octet_37 : decode cX9_octet 37 = .ok (.goto 9, 3) := by decide +kernel
theorem dX9_octet_40 : decode cX9_octet 40 = .ok (.aload_n 0, 1) := by decide +kernel
theorem dX9_octet_41 : decode cX9_octet 41 = .ok (.getfield 105, 3) := by decide +kernel
theorem dX9_octet_44 : decode cX9_octet 44 = .ok (.iload_n 1, 1) := by decide +kernel
theorem dX9_octet_45 : decode cX9_octet 45 = .ok (.iaload, 1) := by decide +kernel
theorem dX9_octet_46 : decode cX9_octet 46 = .ok (.iconst 1, 1) := by decide +kernel
theorem dX9_octet_47 : decode cX9_octet 47 = .ok (.isub, 1) := by decide +kernel
theorem dX9_octet_48 : decode cX9_octet 48 = .ok (.invokestatic 141, 3) := by decide +kernel
theorem dX9_octet_51 : decode cX9_octet 51 = .ok (.ifCond .ne 5, 3) := by decide +kernel
theorem dX9_octet_54 : decode cX9_octet 54 = .ok (.iconst (-1), 1) := by decide +kernel
theorem dX9_octet_55 : decode cX9_octet 55 = .ok (.ireturn, 1) := by decide +kernel
theorem dX9_octet_56 : decode cX9_octet 56 = .ok (.iload_n 3, 1) := by decide +kernel
theorem dX9_octet_57 : decode cX9_octet 57 = .ok (.ifCond .eq 12, 3) := by decide +kernel
theorem dX9_octet_60 : decode cX9_octet 60 = .ok (.aload_n 0, 1) := by decide +kernel
theorem dX9_octet_61 : decode cX9_octet 61 = .ok (.iload_n 1, 1) := by decide +kernel
theorem dX9_octet_62 : decode cX9_octet 62 = .ok (.iload_n 2, 1) := by decide +kernel
theorem dX9_octet_63 : decode cX9_octet 63 = .ok (.invokevirtual 316, 3) := by decide +kernel
theorem dX9_octet_66 : decode cX9_octet 66 = .ok (.goto 16, 3) := by decide +kernel
theorem dX9_octet_69 : decode cX9_octet 69 = .ok (.aload_n 0, 1) := by decide +kernel
theorem dX9_octet_70 : decode cX9_octet 70 = .ok (.getfield 108, 3) := by decide +kernel
theorem dX9_octet_73 : decode cX9_octet 73 = .ok (.aload_n 0, 1) := by decide +kernel
theorem dX9_octet_74 : decode cX9_octet 74 = .ok (.getfield 102, 3) := by decide +kernel
theorem dX9_octet_77 : decode cX9_octet 77 = .ok (.iload_n 1, 1) := by decide +kernel
theorem dX9_octet_78 : decode cX9_octet 78 = .ok (.iaload, 1) := by decide +kernel
theorem dX9_octet_79 : decode cX9_octet 79 = .ok (.iload_n 2, 1) := by decide +kernel
theorem dX9_octet_80 : decode cX9_octet 80 = .ok (.iadd, 1) := by decide +kernel
theorem dX9_octet_81 : decode cX9_octet 81 = .ok (.iaload, 1) := by decide +kernel
theorem dX9_octet_82 : decode cX9_octet 82 = .ok (.ireturn, 1) := by decide +kernel
theorem dX9_origin_0 : decode cX9_origin 0 = .ok (.aload_n 0, 1) := by decide +kernel
theorem dX9_origin_1 : decode cX9_origin 1 = .ok (.aload_n 0, 1) := by decide +kernel
theorem dX9_origin_2 : decode cX9_origin 2 = .ok (.iload_n 1, 1) := by decide +kernel
theorem dX9_origin_3 : decode cX9_origin 3 = .ok (.invokevirtual 293, 3) := by decide +kernel
theorem dX9_origin_6 : decode cX9_origin 6 = .ok (.ifCond .eq 7, 3) := by decide +kernel
theorem dX9_origin_9 : decode cX9_origin 9 = .ok (.iconst 0, 1) := by decide +kernel
theorem dX9_origin_10 : decode cX9_origin 10 = .ok (.goto 4, 3) := by decide +kernel
theorem dX9_origin_13 : decode cX9_origin 13 = .ok (.iconst 1, 1) := by decide +kernel
theorem dX9_origin_14 : decode cX9_origin 14 = .ok (.putfield 138, 3) := by decide +kernel
theorem dX9_origin_17 : decode cX9_origin 17 = .ok (.aload_n 0, 1) := by decide +kernel
theorem dX9_origin_18 : decode cX9_origin 18 = .ok (.getfield 138, 3) := by decide +kernel
theorem dX9_origin_21 : decode cX9_origin 21 = .ok (.ifCond .le 5, 3) := by decide +kernel
theorem dX9_origin_24 : decode cX9_origin 24 = .ok (.iconst 0, 1) := by decide +kernel
theorem dX9_origin_25 : decode cX9_origin 25 = .ok (.ireturn, 1) := by decide +kernel
theorem dX9_origin_26 : decode cX9_origin 26 = .ok (.iload_n 2, 1) := by decide +kernel
theorem dX9_origin_27 : decode cX9_origin 27 = .ok (.iconst 0, 1) := by decide +kernel
theorem dX9_origin_28 : decode cX9_origin 28 = .ok (.aload_n 0, 1) := by decide +kernel
theorem dX9_origin_29 : decode cX9_origin 29 = .ok (.getfield 105, 3) := by decide +kernel
theorem dX9_origin_32 : decode cX9_origin 32 = .ok (.iload_n 1, 1) := by decide +kernel
theorem dX9_origin_33 : decode cX9_origin 33 = .ok (.iaload, 1) := by decide +kernel
theorem dX9_origin_34 : decode cX9_origin 34 = .ok (.iconst 1, 1) := by decide +kernel
theorem dX9_origin_35 : decode cX9_origin 35 = .ok (.isub, 1) := by decide +kernel
theorem dX9_origin_36 : decode cX9_origin 36 = .ok (.invokestatic 141, 3) := by decide +kernel
theorem dX9_origin_39 : decode cX9_origin 39 = .ok (.ifCond .eq 19, 3) := by decide +kernel
theorem dX9_origin_42 : decode cX9_origin 42 = .ok (.aload_n 0, 1) := by decide +kernel
theorem dX9_origin_43 : decode cX9_origin 43 = .ok (.getfield 111, 3) := by decide +kernel
theorem dX9_origin_46 : decode cX9_origin 46 = .ok (.aload_n 0, 1) := by decide +kernel
theorem dX9_origin_47 : decode cX9_origin 47 = .ok (.getfield 102, 3) := by decide +kernel
theorem dX9_origin_50 : decode cX9_origin 50 = .ok (.iload_n 1, 1) := by decide +kernel
theorem dX9_origin_51 : decode cX9_origin 51 = .ok (.iaload, 1) := by decide +kernel
theorem dX9_origin_52 : decode cX9_origin 52 = .ok (.iload_n 2, 1) := by decide +kernel
theorem dX9_origin_53 : decode cX9_origin 53 = .ok (.iadd, 1) := by decide +kernel
theorem dX9_origin_54 : decode cX9_origin 54 = .ok (.iaload, 1) := by decide +kernel
theorem dX9_origin_55 : decode cX9_origin 55 = .ok (.goto 4, 3) := by decide +kernel
theorem dX9_origin_58 : decode cX9_origin 58 = .ok (.iconst (-1), 1) := by decide +kernel
theorem dX9_origin_59 : decode cX9_origin 59 = .ok (.ireturn, 1) := by decide +kernel
theorem dX9_piece_0 : decode cX9_piece 0 = .ok (.aload_n 0, 1) := by decide +kernel
theorem dX9_piece_1 : decode cX9_piece 1 = .ok (.aload_n 0, 1) := by decide +kernel
theorem dX9_piece_2 : decode cX9_piece 2 = .ok (.iload_n 1, 1) := by decide +kernel
theorem dX9_piece_3 : decode cX9_piece 3 = .ok (.invokevirtual 293, 3) := by decide +kernel
theorem dX9_piece_6 : decode cX9_piece 6 = .ok (.ifCond .ne 7, 3) := by decide +kernel
theorem dX9_piece_9 : decode cX9_piece 9 = .ok (.iconst 1, 1) := by decide +kernel
theorem dX9_piece_10 : decode cX9_piece 10 = .ok (.goto 18, 3) := by decide +kernel
theorem dX9_piece_13 : decode cX9_piece 13 = .ok (.iload_n 2, 1) := by decide +kernel
theorem dX9_piece_14 : decode cX9_piece 14 = .ok (.iconst 0, 1) := by decide +kernel
theorem dX9_piece_15 : decode cX9_piece 15 = .ok (.bipush 9, 2) := by decide +kernel
theorem dX9_piece_17 : decode cX9_piece 17 = .ok (.invokestatic 141, 3) := by decide +kernel
theorem dX9_piece_20 : decode cX9_piece 20 = .ok (.ifCond .ne 7, 3) := by decide +kernel
theorem dX9_piece_23 : decode cX9_piece 23 = .ok (.iconst 2, 1) := by decide +kernel
theorem dX9_piece_24 : decode cX9_piece 24 = .ok (.goto 4, 3) := by decide +kernel
theorem dX9_piece_27 : decode cX9_piece 27 = .ok (.iconst 0, 1) := by decide +kernel
theorem dX9_piece_28 : decode cX9_piece 28 = .ok (.putfield 138, 3) := by decide +kernel
theorem dX9_piece_31 : decode cX9_piece 31 = .ok (.aload_n 0, 1) := by decide +kernel
theorem dX9_piece_32 : decode cX9_piece 32 = .ok (.getfield 138, 3) := by decide +kernel
theorem dX9_piece_35 : decode cX9_piece 35 = .ok (.ifCond .le 5, 3) := by decide +kernel
theorem dX9_piece_38 : decode cX9_piece 38 = .ok (.iconst 0, 1) := by decide +kernel
theorem dX9_piece_39 : decode cX9_piece 39 = .ok (.ireturn, 1) := by decide +kernel
theorem dX9_piece_40 : decode cX9_piece 40 = .ok (.iload_n 2, 1) := by decide +kernel
theorem dX9_piece_41 : decode cX9_piece 41 = .ok (.tableswitch 117 0 8 #[51, 58, 65, 72, 78, 93, 99, 105, 111], 51) := by decide +kernel
theorem dX9_piece_92 : decode cX9_piece 92 = .ok (.aload_n 0, 1) := by decide +kernel
theorem dX9_piece_93 : decode cX9_piece 93 = .ok (.getfield 81, 3) := by decide +kernel
theorem dX9_piece_96 : decode cX9_piece 96 = .ok (.iload_n 1, 1) := by decide +kernel
theorem dX9_piece_97 : decode cX9_piece 97 = .ok (.iaload, 1) := by decide +kernel
theorem dX9_piece_98 : decode cX9_piece 98 = .ok (.ireturn, 1) := by decide +kernel
theorem dX9_piece_99 : decode cX9_piece 99 = .ok (.aload_n 0, 1) := by decide +kernel
theorem dX9_piece_100 : decode cX9_piece 100 = .ok (.getfield 84, 3) := by decide +kernel
theorem dX9_piece_103 : decode cX9_piece 103 = .ok (.iload_n 1, 1) := by decide +kernel
theorem dX9_piece_104 : decode cX9_piece 104 = .ok (.iaload, 1) := by decide +kernel
theorem dX9_piece_105 : decode cX9_piece 105 = .ok (.ireturn, 1) := by decide +kernel
theorem dX9_piece_106 : decode cX9_piece 106 = .ok (.aload_n 0, 1) := by decide +kernel
theorem dX9_piece_107 : decode cX9_piece 107 = .ok (.getfield 105, 3) := by decide +kernel
theorem dX9_piece_110 : decode cX9_piece 110 = .ok (.iload_n 1, 1) := by decide +kernel
theorem dX9_piece_111 : decode cX9_piece 111 = .ok (.iaload, 1) := by decide +kernel
theorem dX9_piece_112 : decode cX9_piece 112 = .ok (.ireturn, 1) := by decide +kernel
theorem dX9_piece_113 : decode cX9_piece 113 = .ok (.aload_n 0, 1) := by decide +kernel
theorem dX9_piece_114 : decode cX9_piece 114 = .ok (.iload_n 1, 1) := by decide +kernel
theorem dX9_piece_115 : decode cX9_piece 115 = .ok (.invokevirtual 313, 3) := by decide +kernel
theorem dX9_piece_118 : decode cX9_piece 118 = .ok (.ireturn, 1) := by decide +kernel
theorem dX9_piece_119 : decode cX9_piece 119 = .ok (.aload_n 0, 1) := by decide +kernel
theorem dX9_piece_120 : decode cX9_piece 120 = .ok (.iload_n 1, 1) := by decide +kernel
theorem dX9_piece_121 : decode cX9_piece 121 = .ok (.invokevirtual 247, 3) := by decide +kernel
theorem dX9_piece_124 : decode cX9_piece 124 = .ok (.iconst (-1), 1) := by decide +kernel
theorem dX9_piece_125 : decode cX9_piece 125 = .ok (.if_icmp .ne 7, 3) := by decide +kernel
theorem dX9_piece_128 : decode cX9_piece 128 = .ok (.iconst 0, 1) := by decide +kernel
theorem dX9_piece_129 : decode cX9_piece 129 = .ok (.goto 4, 3) := by decide +kernel
theorem dX9_piece_132 : decode cX9_piece 132 = .ok (.iconst 1, 1) := by decide +kernel
theorem dX9_piece_133 : decode cX9_piece 133 = .ok (.ireturn, 1) := by decide +kernel
theorem dX9_piece_134 : decode cX9_piece 134 = .ok (.aload_n 0, 1) := by decide +kernel
theorem dX9_piece_135 : decode cX9_piece 135 = .ok (.iload_n 1, 1) := by decide +kernel
theorem dX9_piece_136 : decode cX9_piece 136 = .ok (.invokevirtual 444, 3) := by decide +kernel
theorem dX9_piece_139 : decode cX9_piece 139 = .ok (.ireturn, 1) := by decide +kernel
theorem dX9_piece_140 : decode cX9_piece 140 = .ok (.aload_n 0, 1) := by decide +kernel
theorem dX9_piece_141 : decode cX9_piece 141 = .ok (.iload_n 1, 1) := by decide +kernel
theorem dX9_piece_142 : decode cX9_piece 142 = .ok (.invokevirtual 447, 3) := by decide +kernel
theorem dX9_piece_145 : decode cX9_piece 145 = .ok (.ireturn, 1) := by decide +kernel
theorem dX9_piece_146 : decode cX9_piece 146 = .ok (.aload_n 0, 1) := by decide +kernel
theorem dX9_piece_147 : decode cX9_piece 147 = .ok (.iload_n 1, 1) := by decide +kernel
theorem dX9_piece_148 : decode cX9_piece 148 = .ok (.invokevirtual 450, 3) := by decide +kernel
theorem dX9_piece_151 : decode cX9_piece 151 = .ok (.ireturn, 1) := by decide +kernel
theorem dX9_piece_152 : decode cX9_piece 152 = .ok (.aload_n 0, 1) := by decide +kernel
theorem dX9_piece_153 : decode cX9_piece 153 = .ok (.iload_n 1, 1) := by decide +kernel
theorem dX9_piece_154 : decode cX9_piece 154 = .ok (.invokevirtual 290, 3) := by decide +kernel
theorem dX9_piece_157 : decode cX9_piece 157 = .ok (.ireturn, 1) := by decide +kernel
theorem dX9_piece_158 : decode cX9_piece 158 = .ok (.aload_n 0, 1) := by decide +kernel
theorem dX9_piece_159 : decode cX9_piece 159 = .ok (.iload_n 1, 1) := by decide +kernel
theorem dX9_piece_160 : decode cX9_piece 160 = .ok (.invokevirtual 453, 3) := by decide +kernel
theorem dX9_piece_163 : decode cX9_piece 163 = .ok (.ireturn, 1) := by decide +kernel
theorem dX9_pieceText_0 : decode cX9_pieceText 0 = .ok (.aload_n 0, 1) := by decide +kernel
theorem dX9_pieceText_1 : decode cX9_pieceText 1 = .ok (.iconst 0, 1) := by decide +kernel
theorem dX9_pieceText_2 : decode cX9_pieceText 2 = .ok (.bipush 39, 2) := by decide +kernel
theorem dX9_pieceText_4 : decode cX9_pieceText 4 = .ok (.invokevirtual 358, 3) := by decide +kernel
theorem dX9_pieceText_7 : decode cX9_pieceText 7 = .ok (.istore_n 2, 1) := by decide +kernel
theorem dX9_pieceText_8 : decode cX9_pieceText 8 = .ok (.aload_n 0, 1) := by decide +kernel
theorem dX9_pieceText_9 : decode cX9_pieceText 9 = .ok (.getfield 26, 3) := by decide +kernel
theorem dX9_pieceText_12 : decode cX9_pieceText 12 = .ok (.iconst (-1), 1) := by decide +kernel
theorem dX9_pieceText_13 : decode cX9_pieceText 13 = .ok (.if_icmp .eq 5, 3) := by decide +kernel
theorem dX9_pieceText_16 : decode cX9_pieceText 16 = .ok (.iconst 0, 1) := by decide +kernel
theorem dX9_pieceText_17 : decode cX9_pieceText 17 = .ok (.ireturn, 1) := by decide +kernel
theorem dX9_pieceText_18 : decode cX9_pieceText 18 = .ok (.iload_n 1, 1) := by decide +kernel
theorem dX9_pieceText_19 : decode cX9_pieceText 19 = .ok (.ifCond .eq 11, 3) := by decide +kernel
theorem dX9_pieceText_22 : decode cX9_pieceText 22 = .ok (.aload_n 0, 1) := by decide +kernel
theorem dX9_pieceText_23 : decode cX9_pieceText 23 = .ok (.iload_n 2, 1) := by decide +kernel
theorem dX9_pieceText_24 : decode cX9_pieceText 24 = .ok (.invokevirtual 367, 3) := by decide +kernel
theorem dX9_pieceText_27 : decode cX9_pieceText 27 = .ok (.goto 8, 3) := by decide +kernel
theorem dX9_pieceText_30 : decode cX9_pieceText 30 = .ok (.aload_n 0, 1) := by decide +kernel
theorem dX9_pieceText_31 : decode cX9_pieceText 31 = .ok (.iload_n 2, 1) := by decide +kernel
theorem dX9_pieceText_32 : decode cX9_pieceText 32 = .ok (.invokevirtual 370, 3) := by decide +kernel
theorem dX9_pieceText_35 : decode cX9_pieceText 35 = .ok (.ireturn, 1) := by decide +kernel
theorem dX9_plain_0 : decode cX9_plain 0 = .ok (.aload_n 1, 1) := by decide +kernel
theorem dX9_plain_1 : decode cX9_plain 1 = .ok (.aload_n 0, 1) := by decide +kernel
theorem dX9_plain_2 : decode cX9_plain 2 = .ok (.getfield 254, 3) := by decide +kernel
theorem dX9_plain_5 : decode cX9_plain 5 = .ok (.iload_n 2, 1) := by decide +kernel
theorem dX9_plain_6 : decode cX9_plain 6 = .ok (.iastore, 1) := by decide +kernel
theorem dX9_plain_7 : decode cX9_plain 7 = .ok (.aload_n 0, 1) := by decide +kernel
theorem dX9_plain_8 : decode cX9_plain 8 = .ok (.dup, 1) := by decide +kernel
theorem dX9_plain_9 : decode cX9_plain 9 = .ok (.getfield 254, 3) := by decide +kernel
theorem dX9_plain_12 : decode cX9_plain 12 = .ok (.iconst 1, 1) := by decide +kernel
theorem dX9_plain_13 : decode cX9_plain 13 = .ok (.iadd, 1) := by decide +kernel
theorem dX9_plain_14 : decode cX9_plain 14 = .ok (.putfield 254, 3) := by decide +kernel
theorem dX9_plain_17 : decode cX9_plain 17 = .ok (.return_, 1) := by decide +kernel
theorem dX9_puts_0 : decode cX9_puts 0 = .ok (.aload_n 1, 1) := by decide +kernel
theorem dX9_puts_1 : decode cX9_puts 1 = .ok (.aload_n 0, 1) := by decide +kernel
theorem dX9_puts_2 : decode cX9_puts 2 = .ok (.getfield 254, 3) := by decide +kernel
theorem dX9_puts_5 : decode cX9_puts 5 = .ok (.iload_n 2, 1) := by decide +kernel
theorem dX9_puts_6 : decode cX9_puts 6 = .ok (.iastore, 1) := by decide +kernel
theorem dX9_puts_7 : decode cX9_puts 7 = .ok (.aload_n 1, 1) := by decide +kernel
theorem dX9_puts_8 : decode cX9_puts 8 = .ok (.aload_n 0, 1) := by decide +kernel
theorem dX9_puts_9 : decode cX9_puts 9 = .ok (.getfield 254, 3) := by decide +kernel
theorem dX9_puts_12 : decode cX9_puts 12 = .ok (.iconst 1, 1) := by decide +kernel
theorem dX9_puts_13 : decode cX9_puts 13 = .ok (.iadd, 1) := by decide +kernel
theorem dX9_puts_14 : decode cX9_puts 14 = .ok (.iload_n 3, 1) := by decide +kernel
theorem dX9_puts_15 : decode cX9_puts 15 = .ok (.iastore, 1) := by decide +kernel
theorem dX9_puts_16 : decode cX9_puts 16 = .ok (.aload_n 0, 1) := by decide +kernel
theorem dX9_puts_17 : decode cX9_puts 17 = .ok (.dup, 1) := by decide +kernel
theorem dX9_puts_18 : decode cX9_puts 18 = .ok (.getfield 254, 3) := by decide +kernel
theorem dX9_puts_21 : decode cX9_puts 21 = .ok (.iconst 2, 1) := by decide +kernel
theorem dX9_puts_22 : decode cX9_puts 22 = .ok (.iadd, 1) := by decide +kernel
theorem dX9_puts_23 : decode cX9_puts 23 = .ok (.putfield 254, 3) := by decide +kernel
theorem dX9_puts_26 : decode cX9_puts 26 = .ok (.return_, 1) := by decide +kernel
theorem dX9_putsAside_0 : decode cX9_putsAside 0 = .ok (.iconst 0, 1) := by decide +kernel
theorem dX9_putsAside_1 : decode cX9_putsAside 1 = .ok (.istore_n 1, 1) := by decide +kernel
theorem dX9_putsAside_2 : decode cX9_putsAside 2 = .ok (.iload_n 1, 1) := by decide +kernel
theorem dX9_putsAside_3 : decode cX9_putsAside 3 = .ok (.sipush 4347, 3) := by decide +kernel
theorem dX9_putsAside_6 : decode cX9_putsAside 6 = .ok (.if_icmp .ge 21, 3) := by decide +kernel
theorem dX9_putsAside_9 : decode cX9_putsAside 9 = .ok (.aload_n 0, 1) := by decide +kernel
theorem dX9_putsAside_10 : decode cX9_putsAside 10 = .ok (.getfield 13, 3) := by decide +kernel
theorem dX9_putsAside_13 : decode cX9_putsAside 13 = .ok (.iload_n 1, 1) := by decide +kernel
theorem dX9_putsAside_14 : decode cX9_putsAside 14 = .ok (.aload_n 0, 1) := by decide +kernel
theorem dX9_putsAside_15 : decode cX9_putsAside 15 = .ok (.getfield 7, 3) := by decide +kernel
theorem dX9_putsAside_18 : decode cX9_putsAside 18 = .ok (.iload_n 1, 1) := by decide +kernel
theorem dX9_putsAside_19 : decode cX9_putsAside 19 = .ok (.iaload, 1) := by decide +kernel
theorem dX9_putsAside_20 : decode cX9_putsAside 20 = .ok (.iastore, 1) := by decide +kernel
theorem dX9_putsAside_21 : decode cX9_putsAside 21 = .ok (.iinc 1 1, 3) := by decide +kernel
theorem dX9_putsAside_24 : decode cX9_putsAside 24 = .ok (.goto (-22), 3) := by decide +kernel
theorem dX9_putsAside_27 : decode cX9_putsAside 27 = .ok (.return_, 1) := by decide +kernel
theorem dX9_putsBack_0 : decode cX9_putsBack 0 = .ok (.iconst 0, 1) := by decide +kernel
theorem dX9_putsBack_1 : decode cX9_putsBack 1 = .ok (.istore_n 1, 1) := by decide +kernel
theorem dX9_putsBack_2 : decode cX9_putsBack 2 = .ok (.iload_n 1, 1) := by decide +kernel
theorem dX9_putsBack_3 : decode cX9_putsBack 3 = .ok (.sipush 4347, 3) := by decide +kernel
theorem dX9_putsBack_6 : decode cX9_putsBack 6 = .ok (.if_icmp .ge 21, 3) := by decide +kernel
theorem dX9_putsBack_9 : decode cX9_putsBack 9 = .ok (.aload_n 0, 1) := by decide +kernel
theorem dX9_putsBack_10 : decode cX9_putsBack 10 = .ok (.getfield 7, 3) := by decide +kernel
theorem dX9_putsBack_13 : decode cX9_putsBack 13 = .ok (.iload_n 1, 1) := by decide +kernel
theorem dX9_putsBack_14 : decode cX9_putsBack 14 = .ok (.aload_n 0, 1) := by decide +kernel
theorem dX9_putsBack_15 : decode cX9_putsBack 15 = .ok (.getfield 13, 3) := by decide +kernel
theorem dX9_putsBack_18 : decode cX9_putsBack 18 = .ok (.iload_n 1, 1) := by decide +kernel
theorem dX9_putsBack_19 : decode cX9_putsBack 19 = .ok (.iaload, 1) := by decide +kernel
theorem dX9_putsBack_20 : decode cX9_putsBack 20 = .ok (.iastore, 1) := by decide +kernel
theorem dX9_putsBack_21 : decode cX9_putsBack 21 = .ok (.iinc 1 1, 3) := by decide +kernel
theorem dX9_putsBack_24 : decode cX9_putsBack 24 = .ok (.goto (-22), 3) := by decide +kernel
theorem dX9_putsBack_27 : decode cX9_putsBack 27 = .ok (.aload_n 0, 1) := by decide +kernel
theorem dX9_putsBack_28 : decode cX9_putsBack 28 = .ok (.invokevirtual 244, 3) := by decide +kernel
theorem dX9_putsBack_31 : decode cX9_putsBack 31 = .ok (.return_, 1) := by decide +kernel
theorem dX9_remembers_0 : decode cX9_remembers 0 = .ok (.aload_n 0, 1) := by decide +kernel
theorem dX9_remembers_1 : decode cX9_remembers 1 = .ok (.getfield 325, 3) := by decide +kernel
theorem dX9_remembers_4 : decode cX9_remembers 4 = .ok (.bipush 8, 2) := by decide +kernel
theorem dX9_remembers_6 : decode cX9_remembers 6 = .ok (.if_icmp .ne 44, 3) := by decide +kernel
theorem dX9_remembers_9 : decode cX9_remembers 9 = .ok (.iconst 0, 1) := by decide +kernel
theorem dX9_remembers_10 : decode cX9_remembers 10 = .ok (.istore_n 1, 1) := by decide +kernel
theorem dX9_remembers_11 : decode cX9_remembers 11 = .ok (.iload_n 1, 1) := by decide +kernel
theorem dX9_remembers_12 : decode cX9_remembers 12 = .ok (.sipush 30429, 3) := by decide +kernel
theorem dX9_remembers_15 : decode cX9_remembers 15 = .ok (.if_icmp .ge 25, 3) := by decide +kernel
theorem dX9_remembers_18 : decode cX9_remembers 18 = .ok (.aload_n 0, 1) := by decide +kernel
theorem dX9_remembers_19 : decode cX9_remembers 19 = .ok (.getfield 20, 3) := by decide +kernel
theorem dX9_remembers_22 : decode cX9_remembers 22 = .ok (.iload_n 1, 1) := by decide +kernel
theorem dX9_remembers_23 : decode cX9_remembers 23 = .ok (.aload_n 0, 1) := by decide +kernel
theorem dX9_remembers_24 : decode cX9_remembers 24 = .ok (.getfield 20, 3) := by decide +kernel
theorem dX9_remembers_27 : decode cX9_remembers 27 = .ok (.iload_n 1, 1) := by decide +kernel
theorem dX9_remembers_28 : decode cX9_remembers 28 = .ok (.sipush 4347, 3) := by decide +kernel
theorem dX9_remembers_31 : decode cX9_remembers 31 = .ok (.iadd, 1) := by decide +kernel
theorem dX9_remembers_32 : decode cX9_remembers 32 = .ok (.iaload, 1) := by decide +kernel
theorem dX9_remembers_33 : decode cX9_remembers 33 = .ok (.iastore, 1) := by decide +kernel
theorem dX9_remembers_34 : decode cX9_remembers 34 = .ok (.iinc 1 1, 3) := by decide +kernel
theorem dX9_remembers_37 : decode cX9_remembers 37 = .ok (.goto (-26), 3) := by decide +kernel
theorem dX9_remembers_40 : decode cX9_remembers 40 = .ok (.aload_n 0, 1) := by decide +kernel
theorem dX9_remembers_41 : decode cX9_remembers 41 = .ok (.dup, 1) := by decide +kernel
theorem dX9_remembers_42 : decode cX9_remembers 42 = .ok (.getfield 325, 3) := by decide +kernel
theorem dX9_remembers_45 : decode cX9_remembers 45 = .ok (.iconst 1, 1) := by decide +kernel
theorem dX9_remembers_46 : decode cX9_remembers 46 = .ok (.isub, 1) := by decide +kernel
theorem dX9_remembers_47 : decode cX9_remembers 47 = .ok (.putfield 325, 3) := by decide +kernel
theorem dX9_remembers_50 : decode cX9_remembers 50 = .ok (.iconst 0, 1) := by decide +kernel
theorem dX9_remembers_51 : decode cX9_remembers 51 = .ok (.istore_n 1, 1) := by decide +kernel
theorem dX9_remembers_52 : decode cX9_remembers 52 = .ok (.iload_n 1, 1) := by decide +kernel
theorem dX9_remembers_53 : decode cX9_remembers 53 = .ok (.sipush 4347, 3) := by decide +kernel
theorem dX9_remembers_56 : decode cX9_remembers 56 = .ok (.if_icmp .ge 30, 3) := by decide +kernel
theorem dX9_remembers_59 : decode cX9_remembers 59 = .ok (.aload_n 0, 1) := by decide +kernel
theorem dX9_remembers_60 : decode cX9_remembers 60 = .ok (.getfield 20, 3) := by decide +kernel
theorem dX9_remembers_63 : decode cX9_remembers 63 = .ok (.sipush 4347, 3) := by decide +kernel
theorem dX9_remembers_66 : decode cX9_remembers 66 = .ok (.aload_n 0, 1) := by decide +kernel
theorem dX9_remembers_67 : decode cX9_remembers 67 = .ok (.getfield 325, 3) := by decide +kernel
theorem dX9_remembers_70 : decode cX9_remembers 70 = .ok (.imul, 1) := by decide +kernel
theorem dX9_remembers_71 : decode cX9_remembers 71 = .ok (.iload_n 1, 1) := by decide +kernel
theorem dX9_remembers_72 : decode cX9_remembers 72 = .ok (.iadd, 1) := by decide +kernel
theorem dX9_remembers_73 : decode cX9_remembers 73 = .ok (.aload_n 0, 1) := by decide +kernel
theorem dX9_remembers_74 : decode cX9_remembers 74 = .ok (.getfield 13, 3) := by decide +kernel
theorem dX9_remembers_77 : decode cX9_remembers 77 = .ok (.iload_n 1, 1) := by decide +kernel
theorem dX9_remembers_78 : decode cX9_remembers 78 = .ok (.iaload, 1) := by decide +kernel
theorem dX9_remembers_79 : decode cX9_remembers 79 = .ok (.iastore, 1) := by decide +kernel
theorem dX9_remembers_80 : decode cX9_remembers 80 = .ok (.iinc 1 1, 3) := by decide +kernel
theorem dX9_remembers_83 : decode cX9_remembers 83 = .ok (.goto (-31), 3) := by decide +kernel
theorem dX9_remembers_86 : decode cX9_remembers 86 = .ok (.aload_n 0, 1) := by decide +kernel
theorem dX9_remembers_87 : decode cX9_remembers 87 = .ok (.dup, 1) := by decide +kernel
theorem dX9_remembers_88 : decode cX9_remembers 88 = .ok (.getfield 325, 3) := by decide +kernel
theorem dX9_remembers_91 : decode cX9_remembers 91 = .ok (.iconst 1, 1) := by decide +kernel
theorem dX9_remembers_92 : decode cX9_remembers 92 = .ok (.iadd, 1) := by decide +kernel
theorem dX9_remembers_93 : decode cX9_remembers 93 = .ok (.putfield 325, 3) := by decide +kernel
theorem dX9_remembers_96 : decode cX9_remembers 96 = .ok (.return_, 1) := by decide +kernel
theorem dX9_remembersPair_0 : decode cX9_remembersPair 0 = .ok (.aload_n 0, 1) := by decide +kernel
theorem dX9_remembersPair_1 : decode cX9_remembersPair 1 = .ok (.getfield 105, 3) := by decide +kernel
theorem dX9_remembersPair_4 : decode cX9_remembersPair 4 = .ok (.iload_n 1, 1) := by decide +kernel
theorem dX9_remembersPair_5 : decode cX9_remembersPair 5 = .ok (.iaload, 1) := by decide +kernel
theorem dX9_remembersPair_6 : decode cX9_remembersPair 6 = .ok (.bipush 60, 2) := by decide +kernel
theorem dX9_remembersPair_8 : decode cX9_remembersPair 8 = .ok (.if_icmp .le 4, 3) := by decide +kernel
theorem dX9_remembersPair_11 : decode cX9_remembersPair 11 = .ok (.return_, 1) := by decide +kernel
theorem dX9_remembersPair_12 : decode cX9_remembersPair 12 = .ok (.sipush 4346, 3) := by decide +kernel
theorem dX9_remembersPair_15 : decode cX9_remembersPair 15 = .ok (.istore_n 3, 1) := by decide +kernel
theorem dX9_remembersPair_16 : decode cX9_remembersPair 16 = .ok (.iload_n 3, 1) := by decide +kernel
theorem dX9_remembersPair_17 : decode cX9_remembersPair 17 = .ok (.sipush 3005, 3) := by decide +kernel
theorem dX9_remembersPair_20 : decode cX9_remembersPair 20 = .ok (.if_icmp .lt 24, 3) := by decide +kernel
theorem dX9_remembersPair_23 : decode cX9_remembersPair 23 = .ok (.aload_n 0, 1) := by decide +kernel
theorem dX9_remembersPair_24 : decode cX9_remembersPair 24 = .ok (.getfield 7, 3) := by decide +kernel
theorem dX9_remembersPair_27 : decode cX9_remembersPair 27 = .ok (.iload_n 3, 1) := by decide +kernel
theorem dX9_remembersPair_28 : decode cX9_remembersPair 28 = .ok (.aload_n 0, 1) := by decide +kernel
theorem dX9_remembersPair_29 : decode cX9_remembersPair 29 = .ok (.getfield 7, 3) := by decide +kernel
theorem dX9_remembersPair_32 : decode cX9_remembersPair 32 = .ok (.iload_n 3, 1) := by decide +kernel
theorem dX9_remembersPair_33 : decode cX9_remembersPair 33 = .ok (.bipush 122, 2) := by decide +kernel
theorem dX9_remembersPair_35 : decode cX9_remembersPair 35 = .ok (.isub, 1) := by decide +kernel
theorem dX9_remembersPair_36 : decode cX9_remembersPair 36 = .ok (.iaload, 1) := by decide +kernel
theorem dX9_remembersPair_37 : decode cX9_remembersPair 37 = .ok (.iastore, 1) := by decide +kernel
theorem dX9_remembersPair_38 : decode cX9_remembersPair 38 = .ok (.iinc 3 (-1), 3) := by decide +kernel
theorem dX9_remembersPair_41 : decode cX9_remembersPair 41 = .ok (.goto (-25), 3) := by decide +kernel
theorem dX9_remembersPair_44 : decode cX9_remembersPair 44 = .ok (.aload_n 0, 1) := by decide +kernel
theorem dX9_remembersPair_45 : decode cX9_remembersPair 45 = .ok (.getfield 7, 3) := by decide +kernel
theorem dX9_remembersPair_48 : decode cX9_remembersPair 48 = .ok (.sipush 2883, 3) := by decide +kernel
theorem dX9_remembersPair_51 : decode cX9_remembersPair 51 = .ok (.aload_n 0, 1) := by decide +kernel
theorem dX9_remembersPair_52 : decode cX9_remembersPair 52 = .ok (.getfield 105, 3) := by decide +kernel
theorem dX9_remembersPair_55 : decode cX9_remembersPair 55 = .ok (.iload_n 1, 1) := by decide +kernel
theorem dX9_remembersPair_56 : decode cX9_remembersPair 56 = .ok (.iaload, 1) := by decide +kernel
theorem dX9_remembersPair_57 : decode cX9_remembersPair 57 = .ok (.iastore, 1) := by decide +kernel
theorem dX9_remembersPair_58 : decode cX9_remembersPair 58 = .ok (.iconst 0, 1) := by decide +kernel
theorem dX9_remembersPair_59 : decode cX9_remembersPair 59 = .ok (.istore_n 3, 1) := by decide +kernel
theorem dX9_remembersPair_60 : decode cX9_remembersPair 60 = .ok (.iload_n 3, 1) := by decide +kernel
theorem dX9_remembersPair_61 : decode cX9_remembersPair 61 = .ok (.aload_n 0, 1) := by decide +kernel
theorem dX9_remembersPair_62 : decode cX9_remembersPair 62 = .ok (.getfield 105, 3) := by decide +kernel
theorem dX9_remembersPair_65 : decode cX9_remembersPair 65 = .ok (.iload_n 1, 1) := by decide +kernel
theorem dX9_remembersPair_66 : decode cX9_remembersPair 66 = .ok (.iaload, 1) := by decide +kernel
theorem dX9_remembersPair_67 : decode cX9_remembersPair 67 = .ok (.if_icmp .ge 32, 3) := by decide +kernel
theorem dX9_remembersPair_70 : decode cX9_remembersPair 70 = .ok (.aload_n 0, 1) := by decide +kernel
theorem dX9_remembersPair_71 : decode cX9_remembersPair 71 = .ok (.getfield 7, 3) := by decide +kernel
theorem dX9_remembersPair_74 : decode cX9_remembersPair 74 = .ok (.sipush 2884, 3) := by decide +kernel
theorem dX9_remembersPair_77 : decode cX9_remembersPair 77 = .ok (.iload_n 3, 1) := by decide +kernel
theorem dX9_remembersPair_78 : decode cX9_remembersPair 78 = .ok (.iadd, 1) := by decide +kernel
theorem dX9_remembersPair_79 : decode cX9_remembersPair 79 = .ok (.aload_n 0, 1) := by decide +kernel
theorem dX9_remembersPair_80 : decode cX9_remembersPair 80 = .ok (.getfield 108, 3) := by decide +kernel
theorem dX9_remembersPair_83 : decode cX9_remembersPair 83 = .ok (.aload_n 0, 1) := by decide +kernel
theorem dX9_remembersPair_84 : decode cX9_remembersPair 84 = .ok (.getfield 102, 3) := by decide +kernel
theorem dX9_remembersPair_87 : decode cX9_remembersPair 87 = .ok (.iload_n 1, 1) := by decide +kernel
theorem dX9_remembersPair_88 : decode cX9_remembersPair 88 = .ok (.iaload, 1) := by decide +kernel
theorem dX9_remembersPair_89 : decode cX9_remembersPair 89 = .ok (.iload_n 3, 1) := by decide +kernel
theorem dX9_remembersPair_90 : decode cX9_remembersPair 90 = .ok (.iadd, 1) := by decide +kernel
theorem dX9_remembersPair_91 : decode cX9_remembersPair 91 = .ok (.iaload, 1) := by decide +kernel
theorem dX9_remembersPair_92 : decode cX9_remembersPair 92 = .ok (.iastore, 1) := by decide +kernel
theorem dX9_remembersPair_93 : decode cX9_remembersPair 93 = .ok (.iinc 3 1, 3) := by decide +kernel
theorem dX9_remembersPair_96 : decode cX9_remembersPair 96 = .ok (.goto (-36), 3) := by decide +kernel
theorem dX9_remembersPair_99 : decode cX9_remembersPair 99 = .ok (.aload_n 0, 1) := by decide +kernel
theorem dX9_remembersPair_100 : decode cX9_remembersPair 100 = .ok (.getfield 7, 3) := by decide +kernel
theorem dX9_remembersPair_103 : decode cX9_remembersPair 103 = .ok (.sipush 2944, 3) := by decide +kernel
theorem dX9_remembersPair_106 : decode cX9_remembersPair 106 = .ok (.iload_n 2, 1) := by decide +kernel
theorem dX9_remembersPair_107 : decode cX9_remembersPair 107 = .ok (.iastore, 1) := by decide +kernel
theorem dX9_remembersPair_108 : decode cX9_remembersPair 108 = .ok (.iconst 0, 1) := by decide +kernel
theorem dX9_remembersPair_109 : decode cX9_remembersPair 109 = .ok (.istore_n 3, 1) := by decide +kernel
theorem dX9_remembersPair_110 : decode cX9_remembersPair 110 = .ok (.iload_n 3, 1) := by decide +kernel
theorem dX9_remembersPair_111 : decode cX9_remembersPair 111 = .ok (.iload_n 2, 1) := by decide +kernel
theorem dX9_remembersPair_112 : decode cX9_remembersPair 112 = .ok (.if_icmp .ge 25, 3) := by decide +kernel
theorem dX9_remembersPair_115 : decode cX9_remembersPair 115 = .ok (.aload_n 0, 1) := by decide +kernel
theorem dX9_remembersPair_116 : decode cX9_remembersPair 116 = .ok (.getfield 7, 3) := by decide +kernel
theorem dX9_remembersPair_119 : decode cX9_remembersPair 119 = .ok (.sipush 2945, 3) := by decide +kernel
theorem dX9_remembersPair_122 : decode cX9_remembersPair 122 = .ok (.iload_n 3, 1) := by decide +kernel
theorem dX9_remembersPair_123 : decode cX9_remembersPair 123 = .ok (.iadd, 1) := by decide +kernel
theorem dX9_remembersPair_124 : decode cX9_remembersPair 124 = .ok (.aload_n 0, 1) := by decide +kernel
theorem dX9_remembersPair_125 : decode cX9_remembersPair 125 = .ok (.getfield 132, 3) := by decide +kernel
theorem dX9_remembersPair_128 : decode cX9_remembersPair 128 = .ok (.iload_n 3, 1) := by decide +kernel
theorem dX9_remembersPair_129 : decode cX9_remembersPair 129 = .ok (.iaload, 1) := by decide +kernel
theorem dX9_remembersPair_130 : decode cX9_remembersPair 130 = .ok (.iastore, 1) := by decide +kernel
theorem dX9_remembersPair_131 : decode cX9_remembersPair 131 = .ok (.iinc 3 1, 3) := by decide +kernel
theorem dX9_remembersPair_134 : decode cX9_remembersPair 134 = .ok (.goto (-24), 3) := by decide +kernel
theorem dX9_remembersPair_137 : decode cX9_remembersPair 137 = .ok (.aload_n 0, 1) := by decide +kernel
theorem dX9_remembersPair_138 : decode cX9_remembersPair 138 = .ok (.getfield 7, 3) := by decide +kernel
theorem dX9_remembersPair_141 : decode cX9_remembersPair 141 = .ok (.bipush 42, 2) := by decide +kernel
theorem dX9_remembersPair_143 : decode cX9_remembersPair 143 = .ok (.iaload, 1) := by decide +kernel
theorem dX9_remembersPair_144 : decode cX9_remembersPair 144 = .ok (.bipush 12, 2) := by decide +kernel
theorem dX9_remembersPair_146 : decode cX9_remembersPair 146 = .ok (.if_icmp .ge 14, 3) := by decide +kernel
theorem dX9_remembersPair_149 : decode cX9_remembersPair 149 = .ok (.aload_n 0, 1) := by decide +kernel
theorem dX9_remembersPair_150 : decode cX9_remembersPair 150 = .ok (.getfield 7, 3) := by decide +kernel
theorem dX9_remembersPair_153 : decode cX9_remembersPair 153 = .ok (.bipush 42, 2) := by decide +kernel
theorem dX9_remembersPair_155 : decode cX9_remembersPair 155 = .ok (.dup2, 1) := by decide +kernel
theorem dX9_remembersPair_156 : decode cX9_remembersPair 156 = .ok (.iaload, 1) := by decide +kernel
theorem dX9_remembersPair_157 : decode cX9_remembersPair 157 = .ok (.iconst 1, 1) := by decide +kernel
theorem dX9_remembersPair_158 : decode cX9_remembersPair 158 = .ok (.iadd, 1) := by decide +kernel
theorem dX9_remembersPair_159 : decode cX9_remembersPair 159 = .ok (.iastore, 1) := by decide +kernel
theorem dX9_remembersPair_160 : decode cX9_remembersPair 160 = .ok (.return_, 1) := by decide +kernel
theorem dX9_rule_0 : decode cX9_rule 0 = .ok (.aload_n 0, 1) := by decide +kernel
theorem dX9_rule_1 : decode cX9_rule 1 = .ok (.iload_n 1, 1) := by decide +kernel
theorem dX9_rule_2 : decode cX9_rule 2 = .ok (.iconst 0, 1) := by decide +kernel
theorem dX9_rule_3 : decode cX9_rule 3 = .ok (.iconst 1, 1) := by decide +kernel
theorem dX9_rule_4 : decode cX9_rule 4 = .ok (.invokestatic 141, 3) := by decide +kernel
theorem dX9_rule_7 : decode cX9_rule 7 = .ok (.ifCond .ne 7, 3) := by decide +kernel
theorem dX9_rule_10 : decode cX9_rule 10 = .ok (.iconst 1, 1) := by decide +kernel
theorem dX9_rule_11 : decode cX9_rule 11 = .ok (.goto 26, 3) := by decide +kernel
theorem dX9_rule_14 : decode cX9_rule 14 = .ok (.iload_n 2, 1) := by decide +kernel
theorem dX9_rule_15 : decode cX9_rule 15 = .ok (.iload_n 1, 1) := by decide +kernel
theorem dX9_rule_16 : decode cX9_rule 16 = .ok (.iload_n 1, 1) := by decide +kernel
theorem dX9_rule_17 : decode cX9_rule 17 = .ok (.ifCond .ne 7, 3) := by decide +kernel
theorem dX9_rule_20 : decode cX9_rule 20 = .ok (.iconst 1, 1) := by decide +kernel
theorem dX9_rule_21 : decode cX9_rule 21 = .ok (.goto 5, 3) := by decide +kernel
theorem dX9_rule_24 : decode cX9_rule 24 = .ok (.bipush 40, 2) := by decide +kernel
theorem dX9_rule_26 : decode cX9_rule 26 = .ok (.invokestatic 141, 3) := by decide +kernel
theorem dX9_rule_29 : decode cX9_rule 29 = .ok (.ifCond .ne 7, 3) := by decide +kernel
theorem dX9_rule_32 : decode cX9_rule 32 = .ok (.iconst 2, 1) := by decide +kernel
theorem dX9_rule_33 : decode cX9_rule 33 = .ok (.goto 4, 3) := by decide +kernel
theorem dX9_rule_36 : decode cX9_rule 36 = .ok (.iconst 0, 1) := by decide +kernel
theorem dX9_rule_37 : decode cX9_rule 37 = .ok (.putfield 138, 3) := by decide +kernel
theorem dX9_rule_40 : decode cX9_rule 40 = .ok (.aload_n 0, 1) := by decide +kernel
theorem dX9_rule_41 : decode cX9_rule 41 = .ok (.getfield 138, 3) := by decide +kernel
theorem dX9_rule_44 : decode cX9_rule 44 = .ok (.ifCond .le 5, 3) := by decide +kernel
theorem dX9_rule_47 : decode cX9_rule 47 = .ok (.iconst 0, 1) := by decide +kernel
theorem dX9_rule_48 : decode cX9_rule 48 = .ok (.ireturn, 1) := by decide +kernel
theorem dX9_rule_49 : decode cX9_rule 49 = .ok (.aload_n 0, 1) := by decide +kernel
theorem dX9_rule_50 : decode cX9_rule 50 = .ok (.invokevirtual 420, 3) := by decide +kernel
theorem dX9_rule_53 : decode cX9_rule 53 = .ok (.aload_n 0, 1) := by decide +kernel
theorem dX9_rule_54 : decode cX9_rule 54 = .ok (.aload_n 0, 1) := by decide +kernel
theorem dX9_rule_55 : decode cX9_rule 55 = .ok (.iload_n 1, 1) := by decide +kernel
theorem dX9_rule_56 : decode cX9_rule 56 = .ok (.ifCond .ne 7, 3) := by decide +kernel
theorem dX9_rule_59 : decode cX9_rule 59 = .ok (.iconst 3, 1) := by decide +kernel
theorem dX9_rule_60 : decode cX9_rule 60 = .ok (.goto 4, 3) := by decide +kernel
theorem dX9_rule_63 : decode cX9_rule 63 = .ok (.iconst 4, 1) := by decide +kernel
theorem dX9_rule_64 : decode cX9_rule 64 = .ok (.iload_n 2, 1) := by decide +kernel
theorem dX9_rule_65 : decode cX9_rule 65 = .ok (.invokevirtual 361, 3) := by decide +kernel
theorem dX9_rule_68 : decode cX9_rule 68 = .ok (.iconst 0, 1) := by decide +kernel
theorem dX9_rule_69 : decode cX9_rule 69 = .ok (.invokevirtual 429, 3) := by decide +kernel
theorem dX9_rule_72 : decode cX9_rule 72 = .ok (.ifCond .eq 10, 3) := by decide +kernel
theorem dX9_rule_75 : decode cX9_rule 75 = .ok (.aload_n 0, 1) := by decide +kernel
theorem dX9_rule_76 : decode cX9_rule 76 = .ok (.getfield 204, 3) := by decide +kernel
theorem dX9_rule_79 : decode cX9_rule 79 = .ok (.goto 4, 3) := by decide +kernel
theorem dX9_rule_82 : decode cX9_rule 82 = .ok (.iconst 0, 1) := by decide +kernel
theorem dX9_rule_83 : decode cX9_rule 83 = .ok (.ireturn, 1) := by decide +kernel
theorem dX9_ruleText_0 : decode cX9_ruleText 0 = .ok (.aload_n 0, 1) := by decide +kernel
theorem dX9_ruleText_1 : decode cX9_ruleText 1 = .ok (.iload_n 2, 1) := by decide +kernel
theorem dX9_ruleText_2 : decode cX9_ruleText 2 = .ok (.iload_n 3, 1) := by decide +kernel
theorem dX9_ruleText_3 : decode cX9_ruleText 3 = .ok (.invokevirtual 358, 3) := by decide +kernel
theorem dX9_ruleText_6 : decode cX9_ruleText 6 = .ok (.istore 4, 2) := by decide +kernel
theorem dX9_ruleText_8 : decode cX9_ruleText 8 = .ok (.aload_n 0, 1) := by decide +kernel
theorem dX9_ruleText_9 : decode cX9_ruleText 9 = .ok (.getfield 26, 3) := by decide +kernel
theorem dX9_ruleText_12 : decode cX9_ruleText 12 = .ok (.iconst (-1), 1) := by decide +kernel
theorem dX9_ruleText_13 : decode cX9_ruleText 13 = .ok (.if_icmp .ne 13, 3) := by decide +kernel
theorem dX9_ruleText_16 : decode cX9_ruleText 16 = .ok (.aload_n 0, 1) := by decide +kernel
theorem dX9_ruleText_17 : decode cX9_ruleText 17 = .ok (.iload_n 1, 1) := by decide +kernel
theorem dX9_ruleText_18 : decode cX9_ruleText 18 = .ok (.iload 4, 2) := by decide +kernel
end
/-! part 21g.dec -/
section
theorem dX9_ruleText_20 : decode cX9_ruleText 20 = .ok (.invokevirtual 361, 3) := by decide +kernel
theorem dX9_ruleText_23 : decode cX9_ruleText 23 = .ok (.goto 4, 3) := by decide +kernel
theorem dX9_ruleText_26 : decode cX9_ruleText 26 = .ok (.iconst 0, 1) := by decide +kernel
theorem dX9_ruleText_27 : decode cX9_ruleText 27 = .ok (.ireturn, 1) := by decide +kernel
theorem dX9_rules_0 : decode cX9_rules 0 = .ok (.aload_n 0, 1) := by decide +kernel
theorem dX9_rules_1 : decode cX9_rules 1 = .ok (.getfield 7, 3) := by decide +kernel
theorem dX9_rules_4 : decode cX9_rules 4 = .ok (.iload_n 1, 1) := by decide +kernel
theorem dX9_rules_5 : decode cX9_rules 5 = .ok (.iload_n 2, 1) := by decide +kernel
theorem dX9_rules_6 : decode cX9_rules 6 = .ok (.iastore, 1) := by decide +kernel
theorem dX9_rules_7 : decode cX9_rules 7 = .ok (.aload_n 0, 1) := by decide +kernel
theorem dX9_rules_8 : decode cX9_rules 8 = .ok (.invokevirtual 322, 3) := by decide +kernel
theorem dX9_rules_11 : decode cX9_rules 11 = .ok (.iconst 0, 1) := by decide +kernel
theorem dX9_rules_12 : decode cX9_rules 12 = .ok (.ireturn, 1) := by decide +kernel
theorem dX9_skeleton_0 : decode cX9_skeleton 0 = .ok (.aload_n 0, 1) := by decide +kernel
theorem dX9_skeleton_1 : decode cX9_skeleton 1 = .ok (.getfield 7, 3) := by decide +kernel
theorem dX9_skeleton_4 : decode cX9_skeleton 4 = .ok (.iconst 0, 1) := by decide +kernel
theorem dX9_skeleton_5 : decode cX9_skeleton 5 = .ok (.iaload, 1) := by decide +kernel
theorem dX9_skeleton_6 : decode cX9_skeleton 6 = .ok (.istore_n 1, 1) := by decide +kernel
theorem dX9_skeleton_7 : decode cX9_skeleton 7 = .ok (.iconst 0, 1) := by decide +kernel
theorem dX9_skeleton_8 : decode cX9_skeleton 8 = .ok (.istore_n 2, 1) := by decide +kernel
theorem dX9_skeleton_9 : decode cX9_skeleton 9 = .ok (.iload_n 2, 1) := by decide +kernel
theorem dX9_skeleton_10 : decode cX9_skeleton 10 = .ok (.aload_n 0, 1) := by decide +kernel
theorem dX9_skeleton_11 : decode cX9_skeleton 11 = .ok (.getfield 204, 3) := by decide +kernel
theorem dX9_skeleton_14 : decode cX9_skeleton 14 = .ok (.if_icmp .ge 25, 3) := by decide +kernel
theorem dX9_skeleton_17 : decode cX9_skeleton 17 = .ok (.iload_n 1, 1) := by decide +kernel
theorem dX9_skeleton_18 : decode cX9_skeleton 18 = .ok (.aload_n 0, 1) := by decide +kernel
theorem dX9_skeleton_19 : decode cX9_skeleton 19 = .ok (.getfield 84, 3) := by decide +kernel
theorem dX9_skeleton_22 : decode cX9_skeleton 22 = .ok (.iload_n 2, 1) := by decide +kernel
theorem dX9_skeleton_23 : decode cX9_skeleton 23 = .ok (.iaload, 1) := by decide +kernel
theorem dX9_skeleton_24 : decode cX9_skeleton 24 = .ok (.aload_n 0, 1) := by decide +kernel
theorem dX9_skeleton_25 : decode cX9_skeleton 25 = .ok (.getfield 81, 3) := by decide +kernel
theorem dX9_skeleton_28 : decode cX9_skeleton 28 = .ok (.iload_n 2, 1) := by decide +kernel
theorem dX9_skeleton_29 : decode cX9_skeleton 29 = .ok (.iaload, 1) := by decide +kernel
theorem dX9_skeleton_30 : decode cX9_skeleton 30 = .ok (.isub, 1) := by decide +kernel
theorem dX9_skeleton_31 : decode cX9_skeleton 31 = .ok (.isub, 1) := by decide +kernel
theorem dX9_skeleton_32 : decode cX9_skeleton 32 = .ok (.istore_n 1, 1) := by decide +kernel
theorem dX9_skeleton_33 : decode cX9_skeleton 33 = .ok (.iinc 2 1, 3) := by decide +kernel
theorem dX9_skeleton_36 : decode cX9_skeleton 36 = .ok (.goto (-27), 3) := by decide +kernel
theorem dX9_skeleton_39 : decode cX9_skeleton 39 = .ok (.iload_n 1, 1) := by decide +kernel
theorem dX9_skeleton_40 : decode cX9_skeleton 40 = .ok (.ireturn, 1) := by decide +kernel
theorem dX9_spread_0 : decode cX9_spread 0 = .ok (.aload_n 0, 1) := by decide +kernel
theorem dX9_spread_1 : decode cX9_spread 1 = .ok (.invokevirtual 420, 3) := by decide +kernel
theorem dX9_spread_4 : decode cX9_spread 4 = .ok (.aload_n 0, 1) := by decide +kernel
theorem dX9_spread_5 : decode cX9_spread 5 = .ok (.aload_n 0, 1) := by decide +kernel
theorem dX9_spread_6 : decode cX9_spread 6 = .ok (.iload_n 1, 1) := by decide +kernel
theorem dX9_spread_7 : decode cX9_spread 7 = .ok (.invokevirtual 370, 3) := by decide +kernel
theorem dX9_spread_10 : decode cX9_spread 10 = .ok (.iconst 1, 1) := by decide +kernel
theorem dX9_spread_11 : decode cX9_spread 11 = .ok (.invokevirtual 429, 3) := by decide +kernel
theorem dX9_spread_14 : decode cX9_spread 14 = .ok (.ifCond .eq 10, 3) := by decide +kernel
theorem dX9_spread_17 : decode cX9_spread 17 = .ok (.aload_n 0, 1) := by decide +kernel
theorem dX9_spread_18 : decode cX9_spread 18 = .ok (.getfield 306, 3) := by decide +kernel
theorem dX9_spread_21 : decode cX9_spread 21 = .ok (.goto 4, 3) := by decide +kernel
theorem dX9_spread_24 : decode cX9_spread 24 = .ok (.iconst 0, 1) := by decide +kernel
theorem dX9_spread_25 : decode cX9_spread 25 = .ok (.ireturn, 1) := by decide +kernel
theorem dX9_spread0_0 : decode cX9_spread0 0 = .ok (.aload_n 0, 1) := by decide +kernel
theorem dX9_spread0_1 : decode cX9_spread0 1 = .ok (.iconst 0, 1) := by decide +kernel
theorem dX9_spread0_2 : decode cX9_spread0 2 = .ok (.putfield 306, 3) := by decide +kernel
theorem dX9_spread0_5 : decode cX9_spread0 5 = .ok (.aload_n 0, 1) := by decide +kernel
theorem dX9_spread0_6 : decode cX9_spread0 6 = .ok (.iload_n 1, 1) := by decide +kernel
theorem dX9_spread0_7 : decode cX9_spread0 7 = .ok (.invokevirtual 293, 3) := by decide +kernel
theorem dX9_spread0_10 : decode cX9_spread0 10 = .ok (.ifCond .ne 5, 3) := by decide +kernel
theorem dX9_spread0_13 : decode cX9_spread0 13 = .ok (.iconst 1, 1) := by decide +kernel
theorem dX9_spread0_14 : decode cX9_spread0 14 = .ok (.ireturn, 1) := by decide +kernel
theorem dX9_spread0_15 : decode cX9_spread0 15 = .ok (.aload_n 0, 1) := by decide +kernel
theorem dX9_spread0_16 : decode cX9_spread0 16 = .ok (.iload_n 1, 1) := by decide +kernel
theorem dX9_spread0_17 : decode cX9_spread0 17 = .ok (.invokevirtual 247, 3) := by decide +kernel
theorem dX9_spread0_20 : decode cX9_spread0 20 = .ok (.iconst (-1), 1) := by decide +kernel
theorem dX9_spread0_21 : decode cX9_spread0 21 = .ok (.if_icmp .ne 5, 3) := by decide +kernel
theorem dX9_spread0_24 : decode cX9_spread0 24 = .ok (.iconst 4, 1) := by decide +kernel
theorem dX9_spread0_25 : decode cX9_spread0 25 = .ok (.ireturn, 1) := by decide +kernel
theorem dX9_spread0_26 : decode cX9_spread0 26 = .ok (.aload_n 0, 1) := by decide +kernel
theorem dX9_spread0_27 : decode cX9_spread0 27 = .ok (.iload_n 1, 1) := by decide +kernel
theorem dX9_spread0_28 : decode cX9_spread0 28 = .ok (.invokevirtual 247, 3) := by decide +kernel
theorem dX9_spread0_31 : decode cX9_spread0 31 = .ok (.istore_n 2, 1) := by decide +kernel
theorem dX9_spread0_32 : decode cX9_spread0 32 = .ok (.aload_n 0, 1) := by decide +kernel
theorem dX9_spread0_33 : decode cX9_spread0 33 = .ok (.iload_n 1, 1) := by decide +kernel
theorem dX9_spread0_34 : decode cX9_spread0 34 = .ok (.invokevirtual 283, 3) := by decide +kernel
theorem dX9_spread0_37 : decode cX9_spread0 37 = .ok (.iconst 0, 1) := by decide +kernel
theorem dX9_spread0_38 : decode cX9_spread0 38 = .ok (.istore_n 3, 1) := by decide +kernel
theorem dX9_spread0_39 : decode cX9_spread0 39 = .ok (.iload_n 3, 1) := by decide +kernel
theorem dX9_spread0_40 : decode cX9_spread0 40 = .ok (.aload_n 0, 1) := by decide +kernel
theorem dX9_spread0_41 : decode cX9_spread0 41 = .ok (.getfield 204, 3) := by decide +kernel
theorem dX9_spread0_44 : decode cX9_spread0 44 = .ok (.if_icmp .ge 54, 3) := by decide +kernel
theorem dX9_spread0_47 : decode cX9_spread0 47 = .ok (.aload_n 0, 1) := by decide +kernel
theorem dX9_spread0_48 : decode cX9_spread0 48 = .ok (.iload_n 1, 1) := by decide +kernel
theorem dX9_spread0_49 : decode cX9_spread0 49 = .ok (.iload_n 3, 1) := by decide +kernel
theorem dX9_spread0_50 : decode cX9_spread0 50 = .ok (.invokevirtual 309, 3) := by decide +kernel
theorem dX9_spread0_53 : decode cX9_spread0 53 = .ok (.ifCond .eq 39, 3) := by decide +kernel
theorem dX9_spread0_56 : decode cX9_spread0 56 = .ok (.iload_n 3, 1) := by decide +kernel
theorem dX9_spread0_57 : decode cX9_spread0 57 = .ok (.iload_n 1, 1) := by decide +kernel
theorem dX9_spread0_58 : decode cX9_spread0 58 = .ok (.if_icmp .ne 6, 3) := by decide +kernel
theorem dX9_spread0_61 : decode cX9_spread0 61 = .ok (.goto 31, 3) := by decide +kernel
theorem dX9_spread0_64 : decode cX9_spread0 64 = .ok (.aload_n 0, 1) := by decide +kernel
theorem dX9_spread0_65 : decode cX9_spread0 65 = .ok (.iload_n 3, 1) := by decide +kernel
theorem dX9_spread0_66 : decode cX9_spread0 66 = .ok (.iload_n 2, 1) := by decide +kernel
theorem dX9_spread0_67 : decode cX9_spread0 67 = .ok (.invokevirtual 287, 3) := by decide +kernel
theorem dX9_spread0_70 : decode cX9_spread0 70 = .ok (.iconst (-1), 1) := by decide +kernel
theorem dX9_spread0_71 : decode cX9_spread0 71 = .ok (.if_icmp .ne 5, 3) := by decide +kernel
theorem dX9_spread0_74 : decode cX9_spread0 74 = .ok (.iconst 2, 1) := by decide +kernel
theorem dX9_spread0_75 : decode cX9_spread0 75 = .ok (.ireturn, 1) := by decide +kernel
theorem dX9_spread0_76 : decode cX9_spread0 76 = .ok (.aload_n 0, 1) := by decide +kernel
theorem dX9_spread0_77 : decode cX9_spread0 77 = .ok (.iload_n 3, 1) := by decide +kernel
theorem dX9_spread0_78 : decode cX9_spread0 78 = .ok (.iload_n 2, 1) := by decide +kernel
theorem dX9_spread0_79 : decode cX9_spread0 79 = .ok (.invokevirtual 296, 3) := by decide +kernel
theorem dX9_spread0_82 : decode cX9_spread0 82 = .ok (.aload_n 0, 1) := by decide +kernel
theorem dX9_spread0_83 : decode cX9_spread0 83 = .ok (.dup, 1) := by decide +kernel
theorem dX9_spread0_84 : decode cX9_spread0 84 = .ok (.getfield 306, 3) := by decide +kernel
theorem dX9_spread0_87 : decode cX9_spread0 87 = .ok (.iconst 1, 1) := by decide +kernel
theorem dX9_spread0_88 : decode cX9_spread0 88 = .ok (.iadd, 1) := by decide +kernel
theorem dX9_spread0_89 : decode cX9_spread0 89 = .ok (.putfield 306, 3) := by decide +kernel
theorem dX9_spread0_92 : decode cX9_spread0 92 = .ok (.iinc 3 1, 3) := by decide +kernel
theorem dX9_spread0_95 : decode cX9_spread0 95 = .ok (.goto (-56), 3) := by decide +kernel
theorem dX9_spread0_98 : decode cX9_spread0 98 = .ok (.aload_n 0, 1) := by decide +kernel
theorem dX9_spread0_99 : decode cX9_spread0 99 = .ok (.invokevirtual 300, 3) := by decide +kernel
theorem dX9_spread0_102 : decode cX9_spread0 102 = .ok (.sipush 600, 3) := by decide +kernel
theorem dX9_spread0_105 : decode cX9_spread0 105 = .ok (.if_icmp .le 7, 3) := by decide +kernel
theorem dX9_spread0_108 : decode cX9_spread0 108 = .ok (.iconst 3, 1) := by decide +kernel
theorem dX9_spread0_109 : decode cX9_spread0 109 = .ok (.goto 4, 3) := by decide +kernel
theorem dX9_spread0_112 : decode cX9_spread0 112 = .ok (.iconst 0, 1) := by decide +kernel
theorem dX9_spread0_113 : decode cX9_spread0 113 = .ok (.ireturn, 1) := by decide +kernel
theorem dX9_stands_0 : decode cX9_stands 0 = .ok (.iload_n 2, 1) := by decide +kernel
theorem dX9_stands_1 : decode cX9_stands 1 = .ok (.iload_n 1, 1) := by decide +kernel
theorem dX9_stands_2 : decode cX9_stands 2 = .ok (.isub, 1) := by decide +kernel
theorem dX9_stands_3 : decode cX9_stands 3 = .ok (.aload_n 3, 1) := by decide +kernel
theorem dX9_stands_4 : decode cX9_stands 4 = .ok (.invokevirtual 173, 3) := by decide +kernel
theorem dX9_stands_7 : decode cX9_stands 7 = .ok (.if_icmp .ge 5, 3) := by decide +kernel
theorem dX9_stands_10 : decode cX9_stands 10 = .ok (.iconst 0, 1) := by decide +kernel
theorem dX9_stands_11 : decode cX9_stands 11 = .ok (.ireturn, 1) := by decide +kernel
theorem dX9_stands_12 : decode cX9_stands 12 = .ok (.iconst 0, 1) := by decide +kernel
theorem dX9_stands_13 : decode cX9_stands 13 = .ok (.istore 4, 2) := by decide +kernel
theorem dX9_stands_15 : decode cX9_stands 15 = .ok (.iload 4, 2) := by decide +kernel
theorem dX9_stands_17 : decode cX9_stands 17 = .ok (.aload_n 3, 1) := by decide +kernel
theorem dX9_stands_18 : decode cX9_stands 18 = .ok (.invokevirtual 173, 3) := by decide +kernel
theorem dX9_stands_21 : decode cX9_stands 21 = .ok (.if_icmp .ge 26, 3) := by decide +kernel
theorem dX9_stands_24 : decode cX9_stands 24 = .ok (.aload_n 0, 1) := by decide +kernel
theorem dX9_stands_25 : decode cX9_stands 25 = .ok (.iload_n 1, 1) := by decide +kernel
theorem dX9_stands_26 : decode cX9_stands 26 = .ok (.iload 4, 2) := by decide +kernel
theorem dX9_stands_28 : decode cX9_stands 28 = .ok (.iadd, 1) := by decide +kernel
theorem dX9_stands_29 : decode cX9_stands 29 = .ok (.iaload, 1) := by decide +kernel
theorem dX9_stands_30 : decode cX9_stands 30 = .ok (.aload_n 3, 1) := by decide +kernel
theorem dX9_stands_31 : decode cX9_stands 31 = .ok (.iload 4, 2) := by decide +kernel
theorem dX9_stands_33 : decode cX9_stands 33 = .ok (.invokevirtual 179, 3) := by decide +kernel
theorem dX9_stands_36 : decode cX9_stands 36 = .ok (.if_icmp .eq 5, 3) := by decide +kernel
theorem dX9_stands_39 : decode cX9_stands 39 = .ok (.iconst 0, 1) := by decide +kernel
theorem dX9_stands_40 : decode cX9_stands 40 = .ok (.ireturn, 1) := by decide +kernel
theorem dX9_stands_41 : decode cX9_stands 41 = .ok (.iinc 4 1, 3) := by decide +kernel
theorem dX9_stands_44 : decode cX9_stands 44 = .ok (.goto (-29), 3) := by decide +kernel
theorem dX9_stands_47 : decode cX9_stands 47 = .ok (.iconst 1, 1) := by decide +kernel
theorem dX9_stands_48 : decode cX9_stands 48 = .ok (.ireturn, 1) := by decide +kernel
theorem dX9_swap_0 : decode cX9_swap 0 = .ok (.aload_n 0, 1) := by decide +kernel
theorem dX9_swap_1 : decode cX9_swap 1 = .ok (.invokevirtual 420, 3) := by decide +kernel
theorem dX9_swap_4 : decode cX9_swap 4 = .ok (.aload_n 0, 1) := by decide +kernel
theorem dX9_swap_5 : decode cX9_swap 5 = .ok (.aload_n 0, 1) := by decide +kernel
theorem dX9_swap_6 : decode cX9_swap 6 = .ok (.iload_n 1, 1) := by decide +kernel
theorem dX9_swap_7 : decode cX9_swap 7 = .ok (.iload_n 2, 1) := by decide +kernel
theorem dX9_swap_8 : decode cX9_swap 8 = .ok (.invokevirtual 364, 3) := by decide +kernel
theorem dX9_swap_11 : decode cX9_swap 11 = .ok (.iconst 1, 1) := by decide +kernel
theorem dX9_swap_12 : decode cX9_swap 12 = .ok (.invokevirtual 429, 3) := by decide +kernel
theorem dX9_swap_15 : decode cX9_swap 15 = .ok (.ifCond .eq 10, 3) := by decide +kernel
theorem dX9_swap_18 : decode cX9_swap 18 = .ok (.aload_n 0, 1) := by decide +kernel
theorem dX9_swap_19 : decode cX9_swap 19 = .ok (.invokevirtual 300, 3) := by decide +kernel
theorem dX9_swap_22 : decode cX9_swap 22 = .ok (.goto 4, 3) := by decide +kernel
theorem dX9_swap_25 : decode cX9_swap 25 = .ok (.iconst 0, 1) := by decide +kernel
theorem dX9_swap_26 : decode cX9_swap 26 = .ok (.ireturn, 1) := by decide +kernel
theorem dX9_swap0_0 : decode cX9_swap0 0 = .ok (.aload_n 0, 1) := by decide +kernel
theorem dX9_swap0_1 : decode cX9_swap0 1 = .ok (.iload_n 1, 1) := by decide +kernel
theorem dX9_swap0_2 : decode cX9_swap0 2 = .ok (.invokevirtual 293, 3) := by decide +kernel
theorem dX9_swap0_5 : decode cX9_swap0 5 = .ok (.ifCond .eq 11, 3) := by decide +kernel
theorem dX9_swap0_8 : decode cX9_swap0 8 = .ok (.aload_n 0, 1) := by decide +kernel
theorem dX9_swap0_9 : decode cX9_swap0 9 = .ok (.iload_n 2, 1) := by decide +kernel
theorem dX9_swap0_10 : decode cX9_swap0 10 = .ok (.invokevirtual 293, 3) := by decide +kernel
theorem dX9_swap0_13 : decode cX9_swap0 13 = .ok (.ifCond .ne 5, 3) := by decide +kernel
theorem dX9_swap0_16 : decode cX9_swap0 16 = .ok (.iconst 1, 1) := by decide +kernel
theorem dX9_swap0_17 : decode cX9_swap0 17 = .ok (.ireturn, 1) := by decide +kernel
theorem dX9_swap0_18 : decode cX9_swap0 18 = .ok (.iload_n 1, 1) := by decide +kernel
theorem dX9_swap0_19 : decode cX9_swap0 19 = .ok (.iload_n 2, 1) := by decide +kernel
theorem dX9_swap0_20 : decode cX9_swap0 20 = .ok (.if_icmp .ne 5, 3) := by decide +kernel
theorem dX9_swap0_23 : decode cX9_swap0 23 = .ok (.iconst 5, 1) := by decide +kernel
theorem dX9_swap0_24 : decode cX9_swap0 24 = .ok (.ireturn, 1) := by decide +kernel
theorem dX9_swap0_25 : decode cX9_swap0 25 = .ok (.aload_n 0, 1) := by decide +kernel
theorem dX9_swap0_26 : decode cX9_swap0 26 = .ok (.iload_n 1, 1) := by decide +kernel
theorem dX9_swap0_27 : decode cX9_swap0 27 = .ok (.invokevirtual 313, 3) := by decide +kernel
theorem dX9_swap0_30 : decode cX9_swap0 30 = .ok (.istore_n 3, 1) := by decide +kernel
theorem dX9_swap0_31 : decode cX9_swap0 31 = .ok (.aload_n 0, 1) := by decide +kernel
theorem dX9_swap0_32 : decode cX9_swap0 32 = .ok (.iload_n 2, 1) := by decide +kernel
theorem dX9_swap0_33 : decode cX9_swap0 33 = .ok (.invokevirtual 313, 3) := by decide +kernel
theorem dX9_swap0_36 : decode cX9_swap0 36 = .ok (.istore 4, 2) := by decide +kernel
theorem dX9_swap0_38 : decode cX9_swap0 38 = .ok (.iload_n 3, 1) := by decide +kernel
theorem dX9_swap0_39 : decode cX9_swap0 39 = .ok (.bipush 60, 2) := by decide +kernel
theorem dX9_swap0_41 : decode cX9_swap0 41 = .ok (.if_icmp .gt 10, 3) := by decide +kernel
theorem dX9_swap0_44 : decode cX9_swap0 44 = .ok (.iload 4, 2) := by decide +kernel
theorem dX9_swap0_46 : decode cX9_swap0 46 = .ok (.bipush 60, 2) := by decide +kernel
theorem dX9_swap0_48 : decode cX9_swap0 48 = .ok (.if_icmp .le 6, 3) := by decide +kernel
theorem dX9_swap0_51 : decode cX9_swap0 51 = .ok (.bipush 8, 2) := by decide +kernel
theorem dX9_swap0_53 : decode cX9_swap0 53 = .ok (.ireturn, 1) := by decide +kernel
theorem dX9_swap0_54 : decode cX9_swap0 54 = .ok (.iconst 0, 1) := by decide +kernel
theorem dX9_swap0_55 : decode cX9_swap0 55 = .ok (.istore 5, 2) := by decide +kernel
theorem dX9_swap0_57 : decode cX9_swap0 57 = .ok (.iload 5, 2) := by decide +kernel
theorem dX9_swap0_59 : decode cX9_swap0 59 = .ok (.iload_n 3, 1) := by decide +kernel
theorem dX9_swap0_60 : decode cX9_swap0 60 = .ok (.if_icmp .ge 23, 3) := by decide +kernel
theorem dX9_swap0_63 : decode cX9_swap0 63 = .ok (.aload_n 0, 1) := by decide +kernel
theorem dX9_swap0_64 : decode cX9_swap0 64 = .ok (.getfield 135, 3) := by decide +kernel
theorem dX9_swap0_67 : decode cX9_swap0 67 = .ok (.iload 5, 2) := by decide +kernel
theorem dX9_swap0_69 : decode cX9_swap0 69 = .ok (.aload_n 0, 1) := by decide +kernel
theorem dX9_swap0_70 : decode cX9_swap0 70 = .ok (.iload_n 1, 1) := by decide +kernel
theorem dX9_swap0_71 : decode cX9_swap0 71 = .ok (.iload 5, 2) := by decide +kernel
theorem dX9_swap0_73 : decode cX9_swap0 73 = .ok (.invokevirtual 316, 3) := by decide +kernel
theorem dX9_swap0_76 : decode cX9_swap0 76 = .ok (.iastore, 1) := by decide +kernel
theorem dX9_swap0_77 : decode cX9_swap0 77 = .ok (.iinc 5 1, 3) := by decide +kernel
theorem dX9_swap0_80 : decode cX9_swap0 80 = .ok (.goto (-23), 3) := by decide +kernel
theorem dX9_swap0_83 : decode cX9_swap0 83 = .ok (.iconst 0, 1) := by decide +kernel
theorem dX9_swap0_84 : decode cX9_swap0 84 = .ok (.istore 5, 2) := by decide +kernel
theorem dX9_swap0_86 : decode cX9_swap0 86 = .ok (.iload 5, 2) := by decide +kernel
theorem dX9_swap0_88 : decode cX9_swap0 88 = .ok (.iload 4, 2) := by decide +kernel
theorem dX9_swap0_90 : decode cX9_swap0 90 = .ok (.if_icmp .ge 23, 3) := by decide +kernel
theorem dX9_swap0_93 : decode cX9_swap0 93 = .ok (.aload_n 0, 1) := by decide +kernel
theorem dX9_swap0_94 : decode cX9_swap0 94 = .ok (.getfield 132, 3) := by decide +kernel
theorem dX9_swap0_97 : decode cX9_swap0 97 = .ok (.iload 5, 2) := by decide +kernel
theorem dX9_swap0_99 : decode cX9_swap0 99 = .ok (.aload_n 0, 1) := by decide +kernel
theorem dX9_swap0_100 : decode cX9_swap0 100 = .ok (.iload_n 2, 1) := by decide +kernel
theorem dX9_swap0_101 : decode cX9_swap0 101 = .ok (.iload 5, 2) := by decide +kernel
theorem dX9_swap0_103 : decode cX9_swap0 103 = .ok (.invokevirtual 316, 3) := by decide +kernel
theorem dX9_swap0_106 : decode cX9_swap0 106 = .ok (.iastore, 1) := by decide +kernel
theorem dX9_swap0_107 : decode cX9_swap0 107 = .ok (.iinc 5 1, 3) := by decide +kernel
theorem dX9_swap0_110 : decode cX9_swap0 110 = .ok (.goto (-24), 3) := by decide +kernel
theorem dX9_swap0_113 : decode cX9_swap0 113 = .ok (.aload_n 0, 1) := by decide +kernel
theorem dX9_swap0_114 : decode cX9_swap0 114 = .ok (.iload_n 1, 1) := by decide +kernel
theorem dX9_swap0_115 : decode cX9_swap0 115 = .ok (.iload 4, 2) := by decide +kernel
theorem dX9_swap0_117 : decode cX9_swap0 117 = .ok (.invokevirtual 287, 3) := by decide +kernel
theorem dX9_swap0_120 : decode cX9_swap0 120 = .ok (.iconst (-1), 1) := by decide +kernel
theorem dX9_swap0_121 : decode cX9_swap0 121 = .ok (.if_icmp .ne 5, 3) := by decide +kernel
theorem dX9_swap0_124 : decode cX9_swap0 124 = .ok (.iconst 2, 1) := by decide +kernel
theorem dX9_swap0_125 : decode cX9_swap0 125 = .ok (.ireturn, 1) := by decide +kernel
theorem dX9_swap0_126 : decode cX9_swap0 126 = .ok (.aload_n 0, 1) := by decide +kernel
theorem dX9_swap0_127 : decode cX9_swap0 127 = .ok (.iload_n 1, 1) := by decide +kernel
theorem dX9_swap0_128 : decode cX9_swap0 128 = .ok (.iload 4, 2) := by decide +kernel
theorem dX9_swap0_130 : decode cX9_swap0 130 = .ok (.invokevirtual 296, 3) := by decide +kernel
theorem dX9_swap0_133 : decode cX9_swap0 133 = .ok (.iconst 0, 1) := by decide +kernel
theorem dX9_swap0_134 : decode cX9_swap0 134 = .ok (.istore 5, 2) := by decide +kernel
theorem dX9_swap0_136 : decode cX9_swap0 136 = .ok (.iload 5, 2) := by decide +kernel
theorem dX9_swap0_138 : decode cX9_swap0 138 = .ok (.iload_n 3, 1) := by decide +kernel
theorem dX9_swap0_139 : decode cX9_swap0 139 = .ok (.if_icmp .ge 23, 3) := by decide +kernel
theorem dX9_swap0_142 : decode cX9_swap0 142 = .ok (.aload_n 0, 1) := by decide +kernel
theorem dX9_swap0_143 : decode cX9_swap0 143 = .ok (.getfield 132, 3) := by decide +kernel
theorem dX9_swap0_146 : decode cX9_swap0 146 = .ok (.iload 5, 2) := by decide +kernel
theorem dX9_swap0_148 : decode cX9_swap0 148 = .ok (.aload_n 0, 1) := by decide +kernel
theorem dX9_swap0_149 : decode cX9_swap0 149 = .ok (.getfield 135, 3) := by decide +kernel
theorem dX9_swap0_152 : decode cX9_swap0 152 = .ok (.iload 5, 2) := by decide +kernel
theorem dX9_swap0_154 : decode cX9_swap0 154 = .ok (.iaload, 1) := by decide +kernel
theorem dX9_swap0_155 : decode cX9_swap0 155 = .ok (.iastore, 1) := by decide +kernel
theorem dX9_swap0_156 : decode cX9_swap0 156 = .ok (.iinc 5 1, 3) := by decide +kernel
theorem dX9_swap0_159 : decode cX9_swap0 159 = .ok (.goto (-23), 3) := by decide +kernel
theorem dX9_swap0_162 : decode cX9_swap0 162 = .ok (.aload_n 0, 1) := by decide +kernel
theorem dX9_swap0_163 : decode cX9_swap0 163 = .ok (.iload_n 2, 1) := by decide +kernel
theorem dX9_swap0_164 : decode cX9_swap0 164 = .ok (.iload_n 3, 1) := by decide +kernel
theorem dX9_swap0_165 : decode cX9_swap0 165 = .ok (.invokevirtual 287, 3) := by decide +kernel
theorem dX9_swap0_168 : decode cX9_swap0 168 = .ok (.iconst (-1), 1) := by decide +kernel
theorem dX9_swap0_169 : decode cX9_swap0 169 = .ok (.if_icmp .ne 5, 3) := by decide +kernel
theorem dX9_swap0_172 : decode cX9_swap0 172 = .ok (.iconst 2, 1) := by decide +kernel
theorem dX9_swap0_173 : decode cX9_swap0 173 = .ok (.ireturn, 1) := by decide +kernel
theorem dX9_swap0_174 : decode cX9_swap0 174 = .ok (.aload_n 0, 1) := by decide +kernel
theorem dX9_swap0_175 : decode cX9_swap0 175 = .ok (.iload_n 2, 1) := by decide +kernel
theorem dX9_swap0_176 : decode cX9_swap0 176 = .ok (.iload_n 3, 1) := by decide +kernel
theorem dX9_swap0_177 : decode cX9_swap0 177 = .ok (.invokevirtual 296, 3) := by decide +kernel
theorem dX9_swap0_180 : decode cX9_swap0 180 = .ok (.aload_n 0, 1) := by decide +kernel
theorem dX9_swap0_181 : decode cX9_swap0 181 = .ok (.invokevirtual 300, 3) := by decide +kernel
theorem dX9_swap0_184 : decode cX9_swap0 184 = .ok (.sipush 600, 3) := by decide +kernel
theorem dX9_swap0_187 : decode cX9_swap0 187 = .ok (.if_icmp .le 7, 3) := by decide +kernel
theorem dX9_swap0_190 : decode cX9_swap0 190 = .ok (.iconst 3, 1) := by decide +kernel
theorem dX9_swap0_191 : decode cX9_swap0 191 = .ok (.goto 4, 3) := by decide +kernel
theorem dX9_swap0_194 : decode cX9_swap0 194 = .ok (.iconst 0, 1) := by decide +kernel
theorem dX9_swap0_195 : decode cX9_swap0 195 = .ok (.ireturn, 1) := by decide +kernel
theorem dX9_swapText_0 : decode cX9_swapText 0 = .ok (.aload_n 0, 1) := by decide +kernel
theorem dX9_swapText_1 : decode cX9_swapText 1 = .ok (.iconst 0, 1) := by decide +kernel
theorem dX9_swapText_2 : decode cX9_swapText 2 = .ok (.bipush 39, 2) := by decide +kernel
theorem dX9_swapText_4 : decode cX9_swapText 4 = .ok (.invokevirtual 358, 3) := by decide +kernel
theorem dX9_swapText_7 : decode cX9_swapText 7 = .ok (.istore_n 1, 1) := by decide +kernel
theorem dX9_swapText_8 : decode cX9_swapText 8 = .ok (.aload_n 0, 1) := by decide +kernel
theorem dX9_swapText_9 : decode cX9_swapText 9 = .ok (.iconst 0, 1) := by decide +kernel
theorem dX9_swapText_10 : decode cX9_swapText 10 = .ok (.bipush 39, 2) := by decide +kernel
theorem dX9_swapText_12 : decode cX9_swapText 12 = .ok (.invokevirtual 358, 3) := by decide +kernel
theorem dX9_swapText_15 : decode cX9_swapText 15 = .ok (.istore_n 2, 1) := by decide +kernel
theorem dX9_swapText_16 : decode cX9_swapText 16 = .ok (.aload_n 0, 1) := by decide +kernel
theorem dX9_swapText_17 : decode cX9_swapText 17 = .ok (.getfield 26, 3) := by decide +kernel
theorem dX9_swapText_20 : decode cX9_swapText 20 = .ok (.iconst (-1), 1) := by decide +kernel
theorem dX9_swapText_21 : decode cX9_swapText 21 = .ok (.if_icmp .ne 12, 3) := by decide +kernel
theorem dX9_swapText_24 : decode cX9_swapText 24 = .ok (.aload_n 0, 1) := by decide +kernel
theorem dX9_swapText_25 : decode cX9_swapText 25 = .ok (.iload_n 1, 1) := by decide +kernel
theorem dX9_swapText_26 : decode cX9_swapText 26 = .ok (.iload_n 2, 1) := by decide +kernel
theorem dX9_swapText_27 : decode cX9_swapText 27 = .ok (.invokevirtual 364, 3) := by decide +kernel
theorem dX9_swapText_30 : decode cX9_swapText 30 = .ok (.goto 4, 3) := by decide +kernel
theorem dX9_swapText_33 : decode cX9_swapText 33 = .ok (.iconst 0, 1) := by decide +kernel
theorem dX9_swapText_34 : decode cX9_swapText 34 = .ok (.ireturn, 1) := by decide +kernel
theorem dX9_takes_0 : decode cX9_takes 0 = .ok (.aload_n 0, 1) := by decide +kernel
theorem dX9_takes_1 : decode cX9_takes 1 = .ok (.iload_n 1, 1) := by decide +kernel
theorem dX9_takes_2 : decode cX9_takes 2 = .ok (.invokevirtual 210, 3) := by decide +kernel
theorem dX9_takes_5 : decode cX9_takes 5 = .ok (.ifCond .ne 13, 3) := by decide +kernel
theorem dX9_takes_8 : decode cX9_takes 8 = .ok (.aload_n 0, 1) := by decide +kernel
theorem dX9_takes_9 : decode cX9_takes 9 = .ok (.aload_n 2, 1) := by decide +kernel
theorem dX9_takes_10 : decode cX9_takes 10 = .ok (.iload 5, 2) := by decide +kernel
theorem dX9_takes_12 : decode cX9_takes 12 = .ok (.invokevirtual 213, 3) := by decide +kernel
theorem dX9_takes_15 : decode cX9_takes 15 = .ok (.ifCond .ne 4, 3) := by decide +kernel
theorem dX9_takes_18 : decode cX9_takes 18 = .ok (.return_, 1) := by decide +kernel
theorem dX9_takes_19 : decode cX9_takes 19 = .ok (.aload_n 0, 1) := by decide +kernel
theorem dX9_takes_20 : decode cX9_takes 20 = .ok (.getfield 204, 3) := by decide +kernel
theorem dX9_takes_23 : decode cX9_takes 23 = .ok (.istore 8, 2) := by decide +kernel
theorem dX9_takes_25 : decode cX9_takes 25 = .ok (.aload_n 0, 1) := by decide +kernel
theorem dX9_takes_26 : decode cX9_takes 26 = .ok (.getfield 81, 3) := by decide +kernel
theorem dX9_takes_29 : decode cX9_takes 29 = .ok (.iload 8, 2) := by decide +kernel
theorem dX9_takes_31 : decode cX9_takes 31 = .ok (.aload_n 3, 1) := by decide +kernel
theorem dX9_takes_32 : decode cX9_takes 32 = .ok (.iconst 0, 1) := by decide +kernel
theorem dX9_takes_33 : decode cX9_takes 33 = .ok (.iaload, 1) := by decide +kernel
theorem dX9_takes_34 : decode cX9_takes 34 = .ok (.iastore, 1) := by decide +kernel
theorem dX9_takes_35 : decode cX9_takes 35 = .ok (.aload_n 0, 1) := by decide +kernel
theorem dX9_takes_36 : decode cX9_takes 36 = .ok (.getfield 84, 3) := by decide +kernel
theorem dX9_takes_39 : decode cX9_takes 39 = .ok (.iload 8, 2) := by decide +kernel
theorem dX9_takes_41 : decode cX9_takes 41 = .ok (.aload 4, 2) := by decide +kernel
theorem dX9_takes_43 : decode cX9_takes 43 = .ok (.iload 5, 2) := by decide +kernel
theorem dX9_takes_45 : decode cX9_takes 45 = .ok (.iconst 1, 1) := by decide +kernel
theorem dX9_takes_46 : decode cX9_takes 46 = .ok (.isub, 1) := by decide +kernel
theorem dX9_takes_47 : decode cX9_takes 47 = .ok (.iaload, 1) := by decide +kernel
theorem dX9_takes_48 : decode cX9_takes 48 = .ok (.iastore, 1) := by decide +kernel
theorem dX9_takes_49 : decode cX9_takes 49 = .ok (.aload_n 0, 1) := by decide +kernel
theorem dX9_takes_50 : decode cX9_takes 50 = .ok (.getfield 87, 3) := by decide +kernel
theorem dX9_takes_53 : decode cX9_takes 53 = .ok (.iload 8, 2) := by decide +kernel
theorem dX9_takes_55 : decode cX9_takes 55 = .ok (.aload_n 0, 1) := by decide +kernel
theorem dX9_takes_56 : decode cX9_takes 56 = .ok (.getfield 45, 3) := by decide +kernel
theorem dX9_takes_59 : decode cX9_takes 59 = .ok (.iload_n 1, 1) := by decide +kernel
theorem dX9_takes_60 : decode cX9_takes 60 = .ok (.iaload, 1) := by decide +kernel
theorem dX9_takes_61 : decode cX9_takes 61 = .ok (.iastore, 1) := by decide +kernel
theorem dX9_takes_62 : decode cX9_takes 62 = .ok (.aload_n 0, 1) := by decide +kernel
theorem dX9_takes_63 : decode cX9_takes 63 = .ok (.getfield 90, 3) := by decide +kernel
theorem dX9_takes_66 : decode cX9_takes 66 = .ok (.iload 8, 2) := by decide +kernel
theorem dX9_takes_68 : decode cX9_takes 68 = .ok (.iload 7, 2) := by decide +kernel
theorem dX9_takes_70 : decode cX9_takes 70 = .ok (.iastore, 1) := by decide +kernel
theorem dX9_takes_71 : decode cX9_takes 71 = .ok (.aload_n 0, 1) := by decide +kernel
theorem dX9_takes_72 : decode cX9_takes 72 = .ok (.getfield 93, 3) := by decide +kernel
theorem dX9_takes_75 : decode cX9_takes 75 = .ok (.iload 8, 2) := by decide +kernel
theorem dX9_takes_77 : decode cX9_takes 77 = .ok (.iload 6, 2) := by decide +kernel
theorem dX9_takes_79 : decode cX9_takes 79 = .ok (.ifCond .eq 7, 3) := by decide +kernel
theorem dX9_takes_82 : decode cX9_takes 82 = .ok (.iconst 1, 1) := by decide +kernel
theorem dX9_takes_83 : decode cX9_takes 83 = .ok (.goto 4, 3) := by decide +kernel
theorem dX9_takes_86 : decode cX9_takes 86 = .ok (.iconst 0, 1) := by decide +kernel
theorem dX9_takes_87 : decode cX9_takes 87 = .ok (.iastore, 1) := by decide +kernel
theorem dX9_takes_88 : decode cX9_takes 88 = .ok (.aload_n 0, 1) := by decide +kernel
theorem dX9_takes_89 : decode cX9_takes 89 = .ok (.getfield 96, 3) := by decide +kernel
theorem dX9_takes_92 : decode cX9_takes 92 = .ok (.iload 8, 2) := by decide +kernel
theorem dX9_takes_94 : decode cX9_takes 94 = .ok (.aload_n 0, 1) := by decide +kernel
theorem dX9_takes_95 : decode cX9_takes 95 = .ok (.getfield 48, 3) := by decide +kernel
theorem dX9_takes_98 : decode cX9_takes 98 = .ok (.iload_n 1, 1) := by decide +kernel
theorem dX9_takes_99 : decode cX9_takes 99 = .ok (.iaload, 1) := by decide +kernel
theorem dX9_takes_100 : decode cX9_takes 100 = .ok (.iastore, 1) := by decide +kernel
theorem dX9_takes_101 : decode cX9_takes 101 = .ok (.aload_n 0, 1) := by decide +kernel
theorem dX9_takes_102 : decode cX9_takes 102 = .ok (.getfield 99, 3) := by decide +kernel
theorem dX9_takes_105 : decode cX9_takes 105 = .ok (.iload 8, 2) := by decide +kernel
theorem dX9_takes_107 : decode cX9_takes 107 = .ok (.aload_n 0, 1) := by decide +kernel
theorem dX9_takes_108 : decode cX9_takes 108 = .ok (.getfield 51, 3) := by decide +kernel
theorem dX9_takes_111 : decode cX9_takes 111 = .ok (.iload_n 1, 1) := by decide +kernel
theorem dX9_takes_112 : decode cX9_takes 112 = .ok (.iaload, 1) := by decide +kernel
theorem dX9_takes_113 : decode cX9_takes 113 = .ok (.iastore, 1) := by decide +kernel
theorem dX9_takes_114 : decode cX9_takes 114 = .ok (.aload_n 0, 1) := by decide +kernel
theorem dX9_takes_115 : decode cX9_takes 115 = .ok (.getfield 102, 3) := by decide +kernel
theorem dX9_takes_118 : decode cX9_takes 118 = .ok (.iload 8, 2) := by decide +kernel
theorem dX9_takes_120 : decode cX9_takes 120 = .ok (.aload_n 0, 1) := by decide +kernel
theorem dX9_takes_121 : decode cX9_takes 121 = .ok (.getfield 217, 3) := by decide +kernel
theorem dX9_takes_124 : decode cX9_takes 124 = .ok (.iastore, 1) := by decide +kernel
theorem dX9_takes_125 : decode cX9_takes 125 = .ok (.aload_n 0, 1) := by decide +kernel
theorem dX9_takes_126 : decode cX9_takes 126 = .ok (.getfield 105, 3) := by decide +kernel
theorem dX9_takes_129 : decode cX9_takes 129 = .ok (.iload 8, 2) := by decide +kernel
theorem dX9_takes_131 : decode cX9_takes 131 = .ok (.iload 5, 2) := by decide +kernel
theorem dX9_takes_133 : decode cX9_takes 133 = .ok (.iastore, 1) := by decide +kernel
theorem dX9_takes_134 : decode cX9_takes 134 = .ok (.iconst 0, 1) := by decide +kernel
theorem dX9_takes_135 : decode cX9_takes 135 = .ok (.istore 9, 2) := by decide +kernel
theorem dX9_takes_137 : decode cX9_takes 137 = .ok (.iload 9, 2) := by decide +kernel
theorem dX9_takes_139 : decode cX9_takes 139 = .ok (.iload 5, 2) := by decide +kernel
theorem dX9_takes_141 : decode cX9_takes 141 = .ok (.if_icmp .ge 45, 3) := by decide +kernel
theorem dX9_takes_144 : decode cX9_takes 144 = .ok (.aload_n 0, 1) := by decide +kernel
theorem dX9_takes_145 : decode cX9_takes 145 = .ok (.getfield 108, 3) := by decide +kernel
theorem dX9_takes_148 : decode cX9_takes 148 = .ok (.aload_n 0, 1) := by decide +kernel
theorem dX9_takes_149 : decode cX9_takes 149 = .ok (.getfield 217, 3) := by decide +kernel
theorem dX9_takes_152 : decode cX9_takes 152 = .ok (.aload_n 2, 1) := by decide +kernel
theorem dX9_takes_153 : decode cX9_takes 153 = .ok (.iload 9, 2) := by decide +kernel
theorem dX9_takes_155 : decode cX9_takes 155 = .ok (.iaload, 1) := by decide +kernel
theorem dX9_takes_156 : decode cX9_takes 156 = .ok (.iastore, 1) := by decide +kernel
theorem dX9_takes_157 : decode cX9_takes 157 = .ok (.aload_n 0, 1) := by decide +kernel
theorem dX9_takes_158 : decode cX9_takes 158 = .ok (.getfield 111, 3) := by decide +kernel
theorem dX9_takes_161 : decode cX9_takes 161 = .ok (.aload_n 0, 1) := by decide +kernel
theorem dX9_takes_162 : decode cX9_takes 162 = .ok (.getfield 217, 3) := by decide +kernel
theorem dX9_takes_165 : decode cX9_takes 165 = .ok (.aload_n 3, 1) := by decide +kernel
theorem dX9_takes_166 : decode cX9_takes 166 = .ok (.iload 9, 2) := by decide +kernel
theorem dX9_takes_168 : decode cX9_takes 168 = .ok (.iaload, 1) := by decide +kernel
theorem dX9_takes_169 : decode cX9_takes 169 = .ok (.iastore, 1) := by decide +kernel
theorem dX9_takes_170 : decode cX9_takes 170 = .ok (.aload_n 0, 1) := by decide +kernel
theorem dX9_takes_171 : decode cX9_takes 171 = .ok (.dup, 1) := by decide +kernel
theorem dX9_takes_172 : decode cX9_takes 172 = .ok (.getfield 217, 3) := by decide +kernel
theorem dX9_takes_175 : decode cX9_takes 175 = .ok (.iconst 1, 1) := by decide +kernel
theorem dX9_takes_176 : decode cX9_takes 176 = .ok (.iadd, 1) := by decide +kernel
theorem dX9_takes_177 : decode cX9_takes 177 = .ok (.putfield 217, 3) := by decide +kernel
theorem dX9_takes_180 : decode cX9_takes 180 = .ok (.iinc 9 1, 3) := by decide +kernel
theorem dX9_takes_183 : decode cX9_takes 183 = .ok (.goto (-46), 3) := by decide +kernel
theorem dX9_takes_186 : decode cX9_takes 186 = .ok (.aload_n 0, 1) := by decide +kernel
theorem dX9_takes_187 : decode cX9_takes 187 = .ok (.dup, 1) := by decide +kernel
theorem dX9_takes_188 : decode cX9_takes 188 = .ok (.getfield 204, 3) := by decide +kernel
theorem dX9_takes_191 : decode cX9_takes 191 = .ok (.iconst 1, 1) := by decide +kernel
theorem dX9_takes_192 : decode cX9_takes 192 = .ok (.iadd, 1) := by decide +kernel
theorem dX9_takes_193 : decode cX9_takes 193 = .ok (.putfield 204, 3) := by decide +kernel
theorem dX9_takes_196 : decode cX9_takes 196 = .ok (.return_, 1) := by decide +kernel
theorem dX9_tell_0 : decode cX9_tell 0 = .ok (.aload_n 0, 1) := by decide +kernel
theorem dX9_tell_1 : decode cX9_tell 1 = .ok (.invokevirtual 435, 3) := by decide +kernel
theorem dX9_tell_4 : decode cX9_tell 4 = .ok (.istore_n 2, 1) := by decide +kernel
theorem dX9_tell_5 : decode cX9_tell 5 = .ok (.aload_n 0, 1) := by decide +kernel
theorem dX9_tell_6 : decode cX9_tell 6 = .ok (.iload_n 2, 1) := by decide +kernel
theorem dX9_tell_7 : decode cX9_tell 7 = .ok (.bipush 60, 2) := by decide +kernel
theorem dX9_tell_9 : decode cX9_tell 9 = .ok (.if_icmp .le 7, 3) := by decide +kernel
theorem dX9_tell_12 : decode cX9_tell 12 = .ok (.iconst 1, 1) := by decide +kernel
theorem dX9_tell_13 : decode cX9_tell 13 = .ok (.goto 4, 3) := by decide +kernel
theorem dX9_tell_16 : decode cX9_tell 16 = .ok (.iconst 0, 1) := by decide +kernel
theorem dX9_tell_17 : decode cX9_tell 17 = .ok (.putfield 138, 3) := by decide +kernel
theorem dX9_tell_20 : decode cX9_tell 20 = .ok (.aload_n 0, 1) := by decide +kernel
theorem dX9_tell_21 : decode cX9_tell 21 = .ok (.getfield 138, 3) := by decide +kernel
theorem dX9_tell_24 : decode cX9_tell 24 = .ok (.ifCond .le 5, 3) := by decide +kernel
theorem dX9_tell_27 : decode cX9_tell 27 = .ok (.iconst 0, 1) := by decide +kernel
theorem dX9_tell_28 : decode cX9_tell 28 = .ok (.ireturn, 1) := by decide +kernel
theorem dX9_tell_29 : decode cX9_tell 29 = .ok (.aload_n 0, 1) := by decide +kernel
theorem dX9_tell_30 : decode cX9_tell 30 = .ok (.invokevirtual 420, 3) := by decide +kernel
theorem dX9_tell_33 : decode cX9_tell 33 = .ok (.aload_n 0, 1) := by decide +kernel
theorem dX9_tell_34 : decode cX9_tell 34 = .ok (.aload_n 0, 1) := by decide +kernel
theorem dX9_tell_35 : decode cX9_tell 35 = .ok (.iload_n 1, 1) := by decide +kernel
theorem dX9_tell_36 : decode cX9_tell 36 = .ok (.iload_n 2, 1) := by decide +kernel
theorem dX9_tell_37 : decode cX9_tell 37 = .ok (.invokevirtual 438, 3) := by decide +kernel
theorem dX9_tell_40 : decode cX9_tell 40 = .ok (.iconst 2, 1) := by decide +kernel
theorem dX9_tell_41 : decode cX9_tell 41 = .ok (.invokevirtual 429, 3) := by decide +kernel
theorem dX9_tell_44 : decode cX9_tell 44 = .ok (.ifCond .eq 10, 3) := by decide +kernel
theorem dX9_tell_47 : decode cX9_tell 47 = .ok (.aload_n 0, 1) := by decide +kernel
theorem dX9_tell_48 : decode cX9_tell 48 = .ok (.invokevirtual 300, 3) := by decide +kernel
theorem dX9_tell_51 : decode cX9_tell 51 = .ok (.goto 4, 3) := by decide +kernel
theorem dX9_tell_54 : decode cX9_tell 54 = .ok (.iconst 0, 1) := by decide +kernel
theorem dX9_tell_55 : decode cX9_tell 55 = .ok (.ireturn, 1) := by decide +kernel
theorem dX9_tell0_0 : decode cX9_tell0 0 = .ok (.aload_n 0, 1) := by decide +kernel
theorem dX9_tell0_1 : decode cX9_tell0 1 = .ok (.iload_n 1, 1) := by decide +kernel
theorem dX9_tell0_2 : decode cX9_tell0 2 = .ok (.invokevirtual 293, 3) := by decide +kernel
theorem dX9_tell0_5 : decode cX9_tell0 5 = .ok (.ifCond .ne 5, 3) := by decide +kernel
theorem dX9_tell0_8 : decode cX9_tell0 8 = .ok (.iconst 1, 1) := by decide +kernel
theorem dX9_tell0_9 : decode cX9_tell0 9 = .ok (.ireturn, 1) := by decide +kernel
theorem dX9_tell0_10 : decode cX9_tell0 10 = .ok (.aload_n 0, 1) := by decide +kernel
theorem dX9_tell0_11 : decode cX9_tell0 11 = .ok (.iload_n 1, 1) := by decide +kernel
theorem dX9_tell0_12 : decode cX9_tell0 12 = .ok (.iload_n 2, 1) := by decide +kernel
theorem dX9_tell0_13 : decode cX9_tell0 13 = .ok (.invokevirtual 287, 3) := by decide +kernel
theorem dX9_tell0_16 : decode cX9_tell0 16 = .ok (.iconst (-1), 1) := by decide +kernel
theorem dX9_tell0_17 : decode cX9_tell0 17 = .ok (.if_icmp .ne 5, 3) := by decide +kernel
theorem dX9_tell0_20 : decode cX9_tell0 20 = .ok (.iconst 2, 1) := by decide +kernel
theorem dX9_tell0_21 : decode cX9_tell0 21 = .ok (.ireturn, 1) := by decide +kernel
theorem dX9_tell0_22 : decode cX9_tell0 22 = .ok (.aload_n 0, 1) := by decide +kernel
theorem dX9_tell0_23 : decode cX9_tell0 23 = .ok (.iload_n 1, 1) := by decide +kernel
theorem dX9_tell0_24 : decode cX9_tell0 24 = .ok (.iload_n 2, 1) := by decide +kernel
theorem dX9_tell0_25 : decode cX9_tell0 25 = .ok (.invokevirtual 296, 3) := by decide +kernel
theorem dX9_tell0_28 : decode cX9_tell0 28 = .ok (.aload_n 0, 1) := by decide +kernel
theorem dX9_tell0_29 : decode cX9_tell0 29 = .ok (.invokevirtual 300, 3) := by decide +kernel
theorem dX9_tell0_32 : decode cX9_tell0 32 = .ok (.sipush 600, 3) := by decide +kernel
theorem dX9_tell0_35 : decode cX9_tell0 35 = .ok (.if_icmp .le 5, 3) := by decide +kernel
theorem dX9_tell0_38 : decode cX9_tell0 38 = .ok (.iconst 3, 1) := by decide +kernel
theorem dX9_tell0_39 : decode cX9_tell0 39 = .ok (.ireturn, 1) := by decide +kernel
theorem dX9_tell0_40 : decode cX9_tell0 40 = .ok (.aload_n 0, 1) := by decide +kernel
theorem dX9_tell0_41 : decode cX9_tell0 41 = .ok (.iload_n 1, 1) := by decide +kernel
theorem dX9_tell0_42 : decode cX9_tell0 42 = .ok (.invokevirtual 283, 3) := by decide +kernel
theorem dX9_tell0_45 : decode cX9_tell0 45 = .ok (.aload_n 0, 1) := by decide +kernel
theorem dX9_tell0_46 : decode cX9_tell0 46 = .ok (.iload_n 1, 1) := by decide +kernel
theorem dX9_tell0_47 : decode cX9_tell0 47 = .ok (.iload_n 2, 1) := by decide +kernel
theorem dX9_tell0_48 : decode cX9_tell0 48 = .ok (.invokevirtual 303, 3) := by decide +kernel
theorem dX9_tell0_51 : decode cX9_tell0 51 = .ok (.iconst 0, 1) := by decide +kernel
theorem dX9_tell0_52 : decode cX9_tell0 52 = .ok (.ireturn, 1) := by decide +kernel
theorem dX9_tells_0 : decode cX9_tells 0 = .ok (.aload_n 0, 1) := by decide +kernel
theorem dX9_tells_1 : decode cX9_tells 1 = .ok (.getfield 7, 3) := by decide +kernel
theorem dX9_tells_4 : decode cX9_tells 4 = .ok (.sipush 443, 3) := by decide +kernel
theorem dX9_tells_7 : decode cX9_tells 7 = .ok (.bipush 61, 2) := by decide +kernel
theorem dX9_tells_9 : decode cX9_tells 9 = .ok (.iload_n 1, 1) := by decide +kernel
theorem dX9_tells_10 : decode cX9_tells 10 = .ok (.imul, 1) := by decide +kernel
theorem dX9_tells_11 : decode cX9_tells 11 = .ok (.iadd, 1) := by decide +kernel
theorem dX9_tells_12 : decode cX9_tells 12 = .ok (.iload_n 2, 1) := by decide +kernel
theorem dX9_tells_13 : decode cX9_tells 13 = .ok (.iastore, 1) := by decide +kernel
theorem dX9_tells_14 : decode cX9_tells 14 = .ok (.iconst 0, 1) := by decide +kernel
theorem dX9_tells_15 : decode cX9_tells 15 = .ok (.istore_n 3, 1) := by decide +kernel
theorem dX9_tells_16 : decode cX9_tells 16 = .ok (.iload_n 3, 1) := by decide +kernel
theorem dX9_tells_17 : decode cX9_tells 17 = .ok (.iload_n 2, 1) := by decide +kernel
theorem dX9_tells_18 : decode cX9_tells 18 = .ok (.if_icmp .ge 32, 3) := by decide +kernel
theorem dX9_tells_21 : decode cX9_tells 21 = .ok (.aload_n 0, 1) := by decide +kernel
theorem dX9_tells_22 : decode cX9_tells 22 = .ok (.getfield 7, 3) := by decide +kernel
theorem dX9_tells_25 : decode cX9_tells 25 = .ok (.sipush 443, 3) := by decide +kernel
theorem dX9_tells_28 : decode cX9_tells 28 = .ok (.bipush 61, 2) := by decide +kernel
theorem dX9_tells_30 : decode cX9_tells 30 = .ok (.iload_n 1, 1) := by decide +kernel
theorem dX9_tells_31 : decode cX9_tells 31 = .ok (.imul, 1) := by decide +kernel
theorem dX9_tells_32 : decode cX9_tells 32 = .ok (.iadd, 1) := by decide +kernel
theorem dX9_tells_33 : decode cX9_tells 33 = .ok (.iconst 1, 1) := by decide +kernel
theorem dX9_tells_34 : decode cX9_tells 34 = .ok (.iadd, 1) := by decide +kernel
theorem dX9_tells_35 : decode cX9_tells 35 = .ok (.iload_n 3, 1) := by decide +kernel
theorem dX9_tells_36 : decode cX9_tells 36 = .ok (.iadd, 1) := by decide +kernel
theorem dX9_tells_37 : decode cX9_tells 37 = .ok (.aload_n 0, 1) := by decide +kernel
theorem dX9_tells_38 : decode cX9_tells 38 = .ok (.getfield 132, 3) := by decide +kernel
theorem dX9_tells_41 : decode cX9_tells 41 = .ok (.iload_n 3, 1) := by decide +kernel
theorem dX9_tells_42 : decode cX9_tells 42 = .ok (.iaload, 1) := by decide +kernel
theorem dX9_tells_43 : decode cX9_tells 43 = .ok (.iastore, 1) := by decide +kernel
theorem dX9_tells_44 : decode cX9_tells 44 = .ok (.iinc 3 1, 3) := by decide +kernel
theorem dX9_tells_47 : decode cX9_tells 47 = .ok (.goto (-31), 3) := by decide +kernel
theorem dX9_tells_50 : decode cX9_tells 50 = .ok (.return_, 1) := by decide +kernel
theorem dX9_thrown_0 : decode cX9_thrown 0 = .ok (.aload_n 0, 1) := by decide +kernel
theorem dX9_thrown_1 : decode cX9_thrown 1 = .ok (.getfield 138, 3) := by decide +kernel
theorem dX9_thrown_4 : decode cX9_thrown 4 = .ok (.ireturn, 1) := by decide +kernel
theorem dX9_toldAt_0 : decode cX9_toldAt 0 = .ok (.aload_n 0, 1) := by decide +kernel
theorem dX9_toldAt_1 : decode cX9_toldAt 1 = .ok (.getfield 7, 3) := by decide +kernel
theorem dX9_toldAt_4 : decode cX9_toldAt 4 = .ok (.sipush 443, 3) := by decide +kernel
theorem dX9_toldAt_7 : decode cX9_toldAt 7 = .ok (.bipush 61, 2) := by decide +kernel
theorem dX9_toldAt_9 : decode cX9_toldAt 9 = .ok (.iload_n 1, 1) := by decide +kernel
theorem dX9_toldAt_10 : decode cX9_toldAt 10 = .ok (.imul, 1) := by decide +kernel
theorem dX9_toldAt_11 : decode cX9_toldAt 11 = .ok (.iadd, 1) := by decide +kernel
theorem dX9_toldAt_12 : decode cX9_toldAt 12 = .ok (.iconst 1, 1) := by decide +kernel
theorem dX9_toldAt_13 : decode cX9_toldAt 13 = .ok (.iadd, 1) := by decide +kernel
theorem dX9_toldAt_14 : decode cX9_toldAt 14 = .ok (.iload_n 2, 1) := by decide +kernel
theorem dX9_toldAt_15 : decode cX9_toldAt 15 = .ok (.iadd, 1) := by decide +kernel
theorem dX9_toldAt_16 : decode cX9_toldAt 16 = .ok (.iaload, 1) := by decide +kernel
theorem dX9_toldAt_17 : decode cX9_toldAt 17 = .ok (.ireturn, 1) := by decide +kernel
theorem dX9_toldMany_0 : decode cX9_toldMany 0 = .ok (.iconst 0, 1) := by decide +kernel
theorem dX9_toldMany_1 : decode cX9_toldMany 1 = .ok (.istore_n 1, 1) := by decide +kernel
theorem dX9_toldMany_2 : decode cX9_toldMany 2 = .ok (.iconst 0, 1) := by decide +kernel
theorem dX9_toldMany_3 : decode cX9_toldMany 3 = .ok (.istore_n 2, 1) := by decide +kernel
theorem dX9_toldMany_4 : decode cX9_toldMany 4 = .ok (.iload_n 2, 1) := by decide +kernel
theorem dX9_toldMany_5 : decode cX9_toldMany 5 = .ok (.aload_n 0, 1) := by decide +kernel
theorem dX9_toldMany_6 : decode cX9_toldMany 6 = .ok (.getfield 204, 3) := by decide +kernel
theorem dX9_toldMany_9 : decode cX9_toldMany 9 = .ok (.if_icmp .ge 26, 3) := by decide +kernel
theorem dX9_toldMany_12 : decode cX9_toldMany 12 = .ok (.iload_n 1, 1) := by decide +kernel
theorem dX9_toldMany_13 : decode cX9_toldMany 13 = .ok (.aload_n 0, 1) := by decide +kernel
theorem dX9_toldMany_14 : decode cX9_toldMany 14 = .ok (.iload_n 2, 1) := by decide +kernel
theorem dX9_toldMany_15 : decode cX9_toldMany 15 = .ok (.invokevirtual 247, 3) := by decide +kernel
theorem dX9_toldMany_18 : decode cX9_toldMany 18 = .ok (.iconst (-1), 1) := by decide +kernel
theorem dX9_toldMany_19 : decode cX9_toldMany 19 = .ok (.if_icmp .ne 7, 3) := by decide +kernel
theorem dX9_toldMany_22 : decode cX9_toldMany 22 = .ok (.iconst 0, 1) := by decide +kernel
theorem dX9_toldMany_23 : decode cX9_toldMany 23 = .ok (.goto 4, 3) := by decide +kernel
theorem dX9_toldMany_26 : decode cX9_toldMany 26 = .ok (.iconst 1, 1) := by decide +kernel
theorem dX9_toldMany_27 : decode cX9_toldMany 27 = .ok (.iadd, 1) := by decide +kernel
theorem dX9_toldMany_28 : decode cX9_toldMany 28 = .ok (.istore_n 1, 1) := by decide +kernel
theorem dX9_toldMany_29 : decode cX9_toldMany 29 = .ok (.iinc 2 1, 3) := by decide +kernel
theorem dX9_toldMany_32 : decode cX9_toldMany 32 = .ok (.goto (-28), 3) := by decide +kernel
theorem dX9_toldMany_35 : decode cX9_toldMany 35 = .ok (.iload_n 1, 1) := by decide +kernel
theorem dX9_toldMany_36 : decode cX9_toldMany 36 = .ok (.ireturn, 1) := by decide +kernel
theorem dX9_toldOf_0 : decode cX9_toldOf 0 = .ok (.aload_n 0, 1) := by decide +kernel
theorem dX9_toldOf_1 : decode cX9_toldOf 1 = .ok (.getfield 7, 3) := by decide +kernel
theorem dX9_toldOf_4 : decode cX9_toldOf 4 = .ok (.sipush 443, 3) := by decide +kernel
theorem dX9_toldOf_7 : decode cX9_toldOf 7 = .ok (.bipush 61, 2) := by decide +kernel
theorem dX9_toldOf_9 : decode cX9_toldOf 9 = .ok (.iload_n 1, 1) := by decide +kernel
theorem dX9_toldOf_10 : decode cX9_toldOf 10 = .ok (.imul, 1) := by decide +kernel
theorem dX9_toldOf_11 : decode cX9_toldOf 11 = .ok (.iadd, 1) := by decide +kernel
theorem dX9_toldOf_12 : decode cX9_toldOf 12 = .ok (.iaload, 1) := by decide +kernel
theorem dX9_toldOf_13 : decode cX9_toldOf 13 = .ok (.ireturn, 1) := by decide +kernel
theorem dX9_took_0 : decode cX9_took 0 = .ok (.aload_n 0, 1) := by decide +kernel
theorem dX9_took_1 : decode cX9_took 1 = .ok (.getfield 337, 3) := by decide +kernel
theorem dX9_took_4 : decode cX9_took 4 = .ok (.istore_n 1, 1) := by decide +kernel
theorem dX9_took_5 : decode cX9_took 5 = .ok (.aload_n 0, 1) := by decide +kernel
theorem dX9_took_6 : decode cX9_took 6 = .ok (.iconst 0, 1) := by decide +kernel
theorem dX9_took_7 : decode cX9_took 7 = .ok (.putfield 337, 3) := by decide +kernel
theorem dX9_took_10 : decode cX9_took 10 = .ok (.iload_n 1, 1) := by decide +kernel
theorem dX9_took_11 : decode cX9_took 11 = .ok (.ireturn, 1) := by decide +kernel
theorem dX9_tookTold_0 : decode cX9_tookTold 0 = .ok (.aload_n 0, 1) := by decide +kernel
theorem dX9_tookTold_1 : decode cX9_tookTold 1 = .ok (.invokevirtual 426, 3) := by decide +kernel
theorem dX9_tookTold_4 : decode cX9_tookTold 4 = .ok (.istore_n 1, 1) := by decide +kernel
theorem dX9_tookTold_5 : decode cX9_tookTold 5 = .ok (.iconst 0, 1) := by decide +kernel
theorem dX9_tookTold_6 : decode cX9_tookTold 6 = .ok (.istore_n 2, 1) := by decide +kernel
theorem dX9_tookTold_7 : decode cX9_tookTold 7 = .ok (.iload_n 2, 1) := by decide +kernel
theorem dX9_tookTold_8 : decode cX9_tookTold 8 = .ok (.iload_n 1, 1) := by decide +kernel
theorem dX9_tookTold_9 : decode cX9_tookTold 9 = .ok (.if_icmp .ge 27, 3) := by decide +kernel
theorem dX9_tookTold_12 : decode cX9_tookTold 12 = .ok (.iload_n 1, 1) := by decide +kernel
theorem dX9_tookTold_13 : decode cX9_tookTold 13 = .ok (.bipush 60, 2) := by decide +kernel
theorem dX9_tookTold_15 : decode cX9_tookTold 15 = .ok (.if_icmp .gt 21, 3) := by decide +kernel
theorem dX9_tookTold_18 : decode cX9_tookTold 18 = .ok (.aload_n 0, 1) := by decide +kernel
theorem dX9_tookTold_19 : decode cX9_tookTold 19 = .ok (.getfield 132, 3) := by decide +kernel
theorem dX9_tookTold_22 : decode cX9_tookTold 22 = .ok (.iload_n 2, 1) := by decide +kernel
theorem dX9_tookTold_23 : decode cX9_tookTold 23 = .ok (.aload_n 0, 1) := by decide +kernel
theorem dX9_tookTold_24 : decode cX9_tookTold 24 = .ok (.getfield 23, 3) := by decide +kernel
theorem dX9_tookTold_27 : decode cX9_tookTold 27 = .ok (.iload_n 2, 1) := by decide +kernel
theorem dX9_tookTold_28 : decode cX9_tookTold 28 = .ok (.iaload, 1) := by decide +kernel
theorem dX9_tookTold_29 : decode cX9_tookTold 29 = .ok (.iastore, 1) := by decide +kernel
theorem dX9_tookTold_30 : decode cX9_tookTold 30 = .ok (.iinc 2 1, 3) := by decide +kernel
theorem dX9_tookTold_33 : decode cX9_tookTold 33 = .ok (.goto (-26), 3) := by decide +kernel
theorem dX9_tookTold_36 : decode cX9_tookTold 36 = .ok (.iload_n 1, 1) := by decide +kernel
theorem dX9_tookTold_37 : decode cX9_tookTold 37 = .ok (.ireturn, 1) := by decide +kernel
theorem dX9_twice_0 : decode cX9_twice 0 = .ok (.aload_n 0, 1) := by decide +kernel
theorem dX9_twice_1 : decode cX9_twice 1 = .ok (.iconst 0, 1) := by decide +kernel
theorem dX9_twice_2 : decode cX9_twice 2 = .ok (.putfield 138, 3) := by decide +kernel
theorem dX9_twice_5 : decode cX9_twice 5 = .ok (.aload_n 0, 1) := by decide +kernel
theorem dX9_twice_6 : decode cX9_twice 6 = .ok (.invokevirtual 462, 3) := by decide +kernel
theorem dX9_twice_9 : decode cX9_twice 9 = .ok (.aload_n 0, 1) := by decide +kernel
theorem dX9_twice_10 : decode cX9_twice 10 = .ok (.getfield 204, 3) := by decide +kernel
theorem dX9_twice_13 : decode cX9_twice 13 = .ok (.aload_n 0, 1) := by decide +kernel
theorem dX9_twice_14 : decode cX9_twice 14 = .ok (.getfield 459, 3) := by decide +kernel
theorem dX9_twice_17 : decode cX9_twice 17 = .ok (.if_icmp .ne 7, 3) := by decide +kernel
theorem dX9_twice_20 : decode cX9_twice 20 = .ok (.iconst 1, 1) := by decide +kernel
theorem dX9_twice_21 : decode cX9_twice 21 = .ok (.goto 4, 3) := by decide +kernel
theorem dX9_twice_24 : decode cX9_twice 24 = .ok (.iconst 0, 1) := by decide +kernel
theorem dX9_twice_25 : decode cX9_twice 25 = .ok (.istore_n 1, 1) := by decide +kernel
theorem dX9_twice_26 : decode cX9_twice 26 = .ok (.iconst 0, 1) := by decide +kernel
theorem dX9_twice_27 : decode cX9_twice 27 = .ok (.istore_n 2, 1) := by decide +kernel
theorem dX9_twice_28 : decode cX9_twice 28 = .ok (.iload_n 2, 1) := by decide +kernel
end
/-! part 21h.dec -/
section
theorem dX9_twice_29 : decode cX9_twice 29 = .ok (.aload_n 0, 1) := by decide +kernel
theorem dX9_twice_30 : decode cX9_twice 30 = .ok (.getfield 459, 3) := by decide +kernel
theorem dX9_twice_33 : decode cX9_twice 33 = .ok (.if_icmp .ge 20, 3) := by decide +kernel
theorem dX9_twice_36 : decode cX9_twice 36 = .ok (.iload_n 1, 1) := by decide +kernel
theorem dX9_twice_37 : decode cX9_twice 37 = .ok (.ifCond .eq 16, 3) := by decide +kernel
theorem dX9_twice_40 : decode cX9_twice 40 = .ok (.aload_n 0, 1) := by decide +kernel
theorem dX9_twice_41 : decode cX9_twice 41 = .ok (.iload_n 2, 1) := by decide +kernel
theorem dX9_twice_42 : decode cX9_twice 42 = .ok (.iload_n 2, 1) := by decide +kernel
theorem dX9_twice_43 : decode cX9_twice 43 = .ok (.invokevirtual 465, 3) := by decide +kernel
theorem dX9_twice_46 : decode cX9_twice 46 = .ok (.istore_n 1, 1) := by decide +kernel
theorem dX9_twice_47 : decode cX9_twice 47 = .ok (.iinc 2 1, 3) := by decide +kernel
theorem dX9_twice_50 : decode cX9_twice 50 = .ok (.goto (-22), 3) := by decide +kernel
theorem dX9_twice_53 : decode cX9_twice 53 = .ok (.aload_n 0, 1) := by decide +kernel
theorem dX9_twice_54 : decode cX9_twice 54 = .ok (.invokevirtual 244, 3) := by decide +kernel
theorem dX9_twice_57 : decode cX9_twice 57 = .ok (.iload_n 1, 1) := by decide +kernel
theorem dX9_twice_58 : decode cX9_twice 58 = .ok (.ireturn, 1) := by decide +kernel
theorem dX9_undo_0 : decode cX9_undo 0 = .ok (.aload_n 0, 1) := by decide +kernel
theorem dX9_undo_1 : decode cX9_undo 1 = .ok (.aload_n 0, 1) := by decide +kernel
theorem dX9_undo_2 : decode cX9_undo 2 = .ok (.getfield 325, 3) := by decide +kernel
theorem dX9_undo_5 : decode cX9_undo 5 = .ok (.ifCond .ne 7, 3) := by decide +kernel
theorem dX9_undo_8 : decode cX9_undo 8 = .ok (.iconst 1, 1) := by decide +kernel
theorem dX9_undo_9 : decode cX9_undo 9 = .ok (.goto 4, 3) := by decide +kernel
theorem dX9_undo_12 : decode cX9_undo 12 = .ok (.iconst 0, 1) := by decide +kernel
theorem dX9_undo_13 : decode cX9_undo 13 = .ok (.putfield 138, 3) := by decide +kernel
theorem dX9_undo_16 : decode cX9_undo 16 = .ok (.aload_n 0, 1) := by decide +kernel
theorem dX9_undo_17 : decode cX9_undo 17 = .ok (.getfield 138, 3) := by decide +kernel
theorem dX9_undo_20 : decode cX9_undo 20 = .ok (.ifCond .le 5, 3) := by decide +kernel
theorem dX9_undo_23 : decode cX9_undo 23 = .ok (.iconst 0, 1) := by decide +kernel
theorem dX9_undo_24 : decode cX9_undo 24 = .ok (.ireturn, 1) := by decide +kernel
theorem dX9_undo_25 : decode cX9_undo 25 = .ok (.aload_n 0, 1) := by decide +kernel
theorem dX9_undo_26 : decode cX9_undo 26 = .ok (.dup, 1) := by decide +kernel
theorem dX9_undo_27 : decode cX9_undo 27 = .ok (.getfield 325, 3) := by decide +kernel
theorem dX9_undo_30 : decode cX9_undo 30 = .ok (.iconst 1, 1) := by decide +kernel
theorem dX9_undo_31 : decode cX9_undo 31 = .ok (.isub, 1) := by decide +kernel
theorem dX9_undo_32 : decode cX9_undo 32 = .ok (.putfield 325, 3) := by decide +kernel
theorem dX9_undo_35 : decode cX9_undo 35 = .ok (.iconst 0, 1) := by decide +kernel
theorem dX9_undo_36 : decode cX9_undo 36 = .ok (.istore_n 1, 1) := by decide +kernel
theorem dX9_undo_37 : decode cX9_undo 37 = .ok (.iload_n 1, 1) := by decide +kernel
theorem dX9_undo_38 : decode cX9_undo 38 = .ok (.sipush 4347, 3) := by decide +kernel
theorem dX9_undo_41 : decode cX9_undo 41 = .ok (.if_icmp .ge 30, 3) := by decide +kernel
theorem dX9_undo_44 : decode cX9_undo 44 = .ok (.aload_n 0, 1) := by decide +kernel
theorem dX9_undo_45 : decode cX9_undo 45 = .ok (.getfield 7, 3) := by decide +kernel
theorem dX9_undo_48 : decode cX9_undo 48 = .ok (.iload_n 1, 1) := by decide +kernel
theorem dX9_undo_49 : decode cX9_undo 49 = .ok (.aload_n 0, 1) := by decide +kernel
theorem dX9_undo_50 : decode cX9_undo 50 = .ok (.getfield 20, 3) := by decide +kernel
theorem dX9_undo_53 : decode cX9_undo 53 = .ok (.sipush 4347, 3) := by decide +kernel
theorem dX9_undo_56 : decode cX9_undo 56 = .ok (.aload_n 0, 1) := by decide +kernel
theorem dX9_undo_57 : decode cX9_undo 57 = .ok (.getfield 325, 3) := by decide +kernel
theorem dX9_undo_60 : decode cX9_undo 60 = .ok (.imul, 1) := by decide +kernel
theorem dX9_undo_61 : decode cX9_undo 61 = .ok (.iload_n 1, 1) := by decide +kernel
theorem dX9_undo_62 : decode cX9_undo 62 = .ok (.iadd, 1) := by decide +kernel
theorem dX9_undo_63 : decode cX9_undo 63 = .ok (.iaload, 1) := by decide +kernel
theorem dX9_undo_64 : decode cX9_undo 64 = .ok (.iastore, 1) := by decide +kernel
theorem dX9_undo_65 : decode cX9_undo 65 = .ok (.iinc 1 1, 3) := by decide +kernel
theorem dX9_undo_68 : decode cX9_undo 68 = .ok (.goto (-31), 3) := by decide +kernel
theorem dX9_undo_71 : decode cX9_undo 71 = .ok (.aload_n 0, 1) := by decide +kernel
theorem dX9_undo_72 : decode cX9_undo 72 = .ok (.invokevirtual 244, 3) := by decide +kernel
theorem dX9_undo_75 : decode cX9_undo 75 = .ok (.aload_n 0, 1) := by decide +kernel
theorem dX9_undo_76 : decode cX9_undo 76 = .ok (.getfield 325, 3) := by decide +kernel
theorem dX9_undo_79 : decode cX9_undo 79 = .ok (.ireturn, 1) := by decide +kernel
theorem dX9_undoes_0 : decode cX9_undoes 0 = .ok (.iconst 0, 1) := by decide +kernel
theorem dX9_undoes_1 : decode cX9_undoes 1 = .ok (.istore 11, 2) := by decide +kernel
theorem dX9_undoes_3 : decode cX9_undoes 3 = .ok (.iload 6, 2) := by decide +kernel
theorem dX9_undoes_5 : decode cX9_undoes 5 = .ok (.istore 12, 2) := by decide +kernel
theorem dX9_undoes_7 : decode cX9_undoes 7 = .ok (.iload 12, 2) := by decide +kernel
theorem dX9_undoes_9 : decode cX9_undoes 9 = .ok (.iload 7, 2) := by decide +kernel
theorem dX9_undoes_11 : decode cX9_undoes 11 = .ok (.if_icmp .ge 63, 3) := by decide +kernel
theorem dX9_undoes_14 : decode cX9_undoes 14 = .ok (.aload_n 0, 1) := by decide +kernel
theorem dX9_undoes_15 : decode cX9_undoes 15 = .ok (.iload_n 1, 1) := by decide +kernel
theorem dX9_undoes_16 : decode cX9_undoes 16 = .ok (.iload_n 2, 1) := by decide +kernel
theorem dX9_undoes_17 : decode cX9_undoes 17 = .ok (.aload_n 3, 1) := by decide +kernel
theorem dX9_undoes_18 : decode cX9_undoes 18 = .ok (.iload 12, 2) := by decide +kernel
theorem dX9_undoes_20 : decode cX9_undoes 20 = .ok (.iload 7, 2) := by decide +kernel
theorem dX9_undoes_22 : decode cX9_undoes 22 = .ok (.invokevirtual 200, 3) := by decide +kernel
theorem dX9_undoes_25 : decode cX9_undoes 25 = .ok (.istore 13, 2) := by decide +kernel
theorem dX9_undoes_27 : decode cX9_undoes 27 = .ok (.aload 8, 2) := by decide +kernel
theorem dX9_undoes_29 : decode cX9_undoes 29 = .ok (.iload 11, 2) := by decide +kernel
theorem dX9_undoes_31 : decode cX9_undoes 31 = .ok (.aload_n 0, 1) := by decide +kernel
theorem dX9_undoes_32 : decode cX9_undoes 32 = .ok (.getfield 183, 3) := by decide +kernel
theorem dX9_undoes_35 : decode cX9_undoes 35 = .ok (.iastore, 1) := by decide +kernel
theorem dX9_undoes_36 : decode cX9_undoes 36 = .ok (.aload 9, 2) := by decide +kernel
theorem dX9_undoes_38 : decode cX9_undoes 38 = .ok (.iload 11, 2) := by decide +kernel
theorem dX9_undoes_40 : decode cX9_undoes 40 = .ok (.aload 4, 2) := by decide +kernel
theorem dX9_undoes_42 : decode cX9_undoes 42 = .ok (.iload 12, 2) := by decide +kernel
theorem dX9_undoes_44 : decode cX9_undoes 44 = .ok (.iaload, 1) := by decide +kernel
theorem dX9_undoes_45 : decode cX9_undoes 45 = .ok (.iastore, 1) := by decide +kernel
theorem dX9_undoes_46 : decode cX9_undoes 46 = .ok (.aload 10, 2) := by decide +kernel
theorem dX9_undoes_48 : decode cX9_undoes 48 = .ok (.iload 11, 2) := by decide +kernel
theorem dX9_undoes_50 : decode cX9_undoes 50 = .ok (.aload 5, 2) := by decide +kernel
theorem dX9_undoes_52 : decode cX9_undoes 52 = .ok (.iload 12, 2) := by decide +kernel
theorem dX9_undoes_54 : decode cX9_undoes 54 = .ok (.iload 13, 2) := by decide +kernel
theorem dX9_undoes_56 : decode cX9_undoes 56 = .ok (.iadd, 1) := by decide +kernel
theorem dX9_undoes_57 : decode cX9_undoes 57 = .ok (.iconst 1, 1) := by decide +kernel
theorem dX9_undoes_58 : decode cX9_undoes 58 = .ok (.isub, 1) := by decide +kernel
theorem dX9_undoes_59 : decode cX9_undoes 59 = .ok (.iaload, 1) := by decide +kernel
theorem dX9_undoes_60 : decode cX9_undoes 60 = .ok (.iastore, 1) := by decide +kernel
theorem dX9_undoes_61 : decode cX9_undoes 61 = .ok (.iinc 11 1, 3) := by decide +kernel
theorem dX9_undoes_64 : decode cX9_undoes 64 = .ok (.iload 12, 2) := by decide +kernel
theorem dX9_undoes_66 : decode cX9_undoes 66 = .ok (.iload 13, 2) := by decide +kernel
theorem dX9_undoes_68 : decode cX9_undoes 68 = .ok (.iadd, 1) := by decide +kernel
theorem dX9_undoes_69 : decode cX9_undoes 69 = .ok (.istore 12, 2) := by decide +kernel
theorem dX9_undoes_71 : decode cX9_undoes 71 = .ok (.goto (-64), 3) := by decide +kernel
theorem dX9_undoes_74 : decode cX9_undoes 74 = .ok (.iload 11, 2) := by decide +kernel
theorem dX9_undoes_76 : decode cX9_undoes 76 = .ok (.ireturn, 1) := by decide +kernel
theorem dX9_unlikeTexts_0 : decode cX9_unlikeTexts 0 = .ok (.iconst 0, 1) := by decide +kernel
theorem dX9_unlikeTexts_1 : decode cX9_unlikeTexts 1 = .ok (.istore_n 1, 1) := by decide +kernel
theorem dX9_unlikeTexts_2 : decode cX9_unlikeTexts 2 = .ok (.iconst 0, 1) := by decide +kernel
theorem dX9_unlikeTexts_3 : decode cX9_unlikeTexts 3 = .ok (.istore_n 2, 1) := by decide +kernel
theorem dX9_unlikeTexts_4 : decode cX9_unlikeTexts 4 = .ok (.iload_n 2, 1) := by decide +kernel
theorem dX9_unlikeTexts_5 : decode cX9_unlikeTexts 5 = .ok (.aload_n 0, 1) := by decide +kernel
theorem dX9_unlikeTexts_6 : decode cX9_unlikeTexts 6 = .ok (.getfield 204, 3) := by decide +kernel
theorem dX9_unlikeTexts_9 : decode cX9_unlikeTexts 9 = .ok (.if_icmp .ge 58, 3) := by decide +kernel
theorem dX9_unlikeTexts_12 : decode cX9_unlikeTexts 12 = .ok (.iconst 1, 1) := by decide +kernel
theorem dX9_unlikeTexts_13 : decode cX9_unlikeTexts 13 = .ok (.istore_n 3, 1) := by decide +kernel
theorem dX9_unlikeTexts_14 : decode cX9_unlikeTexts 14 = .ok (.iconst 0, 1) := by decide +kernel
theorem dX9_unlikeTexts_15 : decode cX9_unlikeTexts 15 = .ok (.istore 4, 2) := by decide +kernel
theorem dX9_unlikeTexts_17 : decode cX9_unlikeTexts 17 = .ok (.iload 4, 2) := by decide +kernel
theorem dX9_unlikeTexts_19 : decode cX9_unlikeTexts 19 = .ok (.iload_n 2, 1) := by decide +kernel
theorem dX9_unlikeTexts_20 : decode cX9_unlikeTexts 20 = .ok (.if_icmp .ge 29, 3) := by decide +kernel
theorem dX9_unlikeTexts_23 : decode cX9_unlikeTexts 23 = .ok (.iload_n 3, 1) := by decide +kernel
theorem dX9_unlikeTexts_24 : decode cX9_unlikeTexts 24 = .ok (.ifCond .eq 17, 3) := by decide +kernel
theorem dX9_unlikeTexts_27 : decode cX9_unlikeTexts 27 = .ok (.aload_n 0, 1) := by decide +kernel
theorem dX9_unlikeTexts_28 : decode cX9_unlikeTexts 28 = .ok (.iload_n 2, 1) := by decide +kernel
theorem dX9_unlikeTexts_29 : decode cX9_unlikeTexts 29 = .ok (.iload 4, 2) := by decide +kernel
theorem dX9_unlikeTexts_31 : decode cX9_unlikeTexts 31 = .ok (.invokevirtual 309, 3) := by decide +kernel
theorem dX9_unlikeTexts_34 : decode cX9_unlikeTexts 34 = .ok (.ifCond .ne 7, 3) := by decide +kernel
theorem dX9_unlikeTexts_37 : decode cX9_unlikeTexts 37 = .ok (.iconst 1, 1) := by decide +kernel
theorem dX9_unlikeTexts_38 : decode cX9_unlikeTexts 38 = .ok (.goto 4, 3) := by decide +kernel
theorem dX9_unlikeTexts_41 : decode cX9_unlikeTexts 41 = .ok (.iconst 0, 1) := by decide +kernel
theorem dX9_unlikeTexts_42 : decode cX9_unlikeTexts 42 = .ok (.istore_n 3, 1) := by decide +kernel
theorem dX9_unlikeTexts_43 : decode cX9_unlikeTexts 43 = .ok (.iinc 4 1, 3) := by decide +kernel
theorem dX9_unlikeTexts_46 : decode cX9_unlikeTexts 46 = .ok (.goto (-29), 3) := by decide +kernel
theorem dX9_unlikeTexts_49 : decode cX9_unlikeTexts 49 = .ok (.iload_n 1, 1) := by decide +kernel
theorem dX9_unlikeTexts_50 : decode cX9_unlikeTexts 50 = .ok (.iload_n 3, 1) := by decide +kernel
theorem dX9_unlikeTexts_51 : decode cX9_unlikeTexts 51 = .ok (.ifCond .eq 7, 3) := by decide +kernel
theorem dX9_unlikeTexts_54 : decode cX9_unlikeTexts 54 = .ok (.iconst 1, 1) := by decide +kernel
theorem dX9_unlikeTexts_55 : decode cX9_unlikeTexts 55 = .ok (.goto 4, 3) := by decide +kernel
theorem dX9_unlikeTexts_58 : decode cX9_unlikeTexts 58 = .ok (.iconst 0, 1) := by decide +kernel
theorem dX9_unlikeTexts_59 : decode cX9_unlikeTexts 59 = .ok (.iadd, 1) := by decide +kernel
theorem dX9_unlikeTexts_60 : decode cX9_unlikeTexts 60 = .ok (.istore_n 1, 1) := by decide +kernel
theorem dX9_unlikeTexts_61 : decode cX9_unlikeTexts 61 = .ok (.iinc 2 1, 3) := by decide +kernel
theorem dX9_unlikeTexts_64 : decode cX9_unlikeTexts 64 = .ok (.goto (-60), 3) := by decide +kernel
theorem dX9_unlikeTexts_67 : decode cX9_unlikeTexts 67 = .ok (.iload_n 1, 1) := by decide +kernel
theorem dX9_unlikeTexts_68 : decode cX9_unlikeTexts 68 = .ok (.ireturn, 1) := by decide +kernel
theorem dX9_unlock_0 : decode cX9_unlock 0 = .ok (.aload_n 0, 1) := by decide +kernel
theorem dX9_unlock_1 : decode cX9_unlock 1 = .ok (.invokevirtual 420, 3) := by decide +kernel
theorem dX9_unlock_4 : decode cX9_unlock 4 = .ok (.aload_n 0, 1) := by decide +kernel
theorem dX9_unlock_5 : decode cX9_unlock 5 = .ok (.aload_n 0, 1) := by decide +kernel
theorem dX9_unlock_6 : decode cX9_unlock 6 = .ok (.invokevirtual 399, 3) := by decide +kernel
theorem dX9_unlock_9 : decode cX9_unlock 9 = .ok (.iconst 0, 1) := by decide +kernel
theorem dX9_unlock_10 : decode cX9_unlock 10 = .ok (.invokevirtual 429, 3) := by decide +kernel
theorem dX9_unlock_13 : decode cX9_unlock 13 = .ok (.ifCond .eq 10, 3) := by decide +kernel
theorem dX9_unlock_16 : decode cX9_unlock 16 = .ok (.aload_n 0, 1) := by decide +kernel
theorem dX9_unlock_17 : decode cX9_unlock 17 = .ok (.getfield 204, 3) := by decide +kernel
theorem dX9_unlock_20 : decode cX9_unlock 20 = .ok (.goto 4, 3) := by decide +kernel
theorem dX9_unlock_23 : decode cX9_unlock 23 = .ok (.iconst 0, 1) := by decide +kernel
theorem dX9_unlock_24 : decode cX9_unlock 24 = .ok (.ireturn, 1) := by decide +kernel
theorem dX9_unlocks_0 : decode cX9_unlocks 0 = .ok (.aload_n 0, 1) := by decide +kernel
theorem dX9_unlocks_1 : decode cX9_unlocks 1 = .ok (.getfield 7, 3) := by decide +kernel
theorem dX9_unlocks_4 : decode cX9_unlocks 4 = .ok (.iconst 5, 1) := by decide +kernel
theorem dX9_unlocks_5 : decode cX9_unlocks 5 = .ok (.iconst 0, 1) := by decide +kernel
theorem dX9_unlocks_6 : decode cX9_unlocks 6 = .ok (.iastore, 1) := by decide +kernel
theorem dX9_unlocks_7 : decode cX9_unlocks 7 = .ok (.aload_n 0, 1) := by decide +kernel
theorem dX9_unlocks_8 : decode cX9_unlocks 8 = .ok (.invokevirtual 322, 3) := by decide +kernel
theorem dX9_unlocks_11 : decode cX9_unlocks 11 = .ok (.iconst 0, 1) := by decide +kernel
theorem dX9_unlocks_12 : decode cX9_unlocks 12 = .ok (.ireturn, 1) := by decide +kernel
theorem dX9_why_0 : decode cX9_why 0 = .ok (.aload_n 0, 1) := by decide +kernel
theorem dX9_why_1 : decode cX9_why 1 = .ok (.iconst 0, 1) := by decide +kernel
theorem dX9_why_2 : decode cX9_why 2 = .ok (.putfield 138, 3) := by decide +kernel
theorem dX9_why_5 : decode cX9_why 5 = .ok (.aload_n 0, 1) := by decide +kernel
theorem dX9_why_6 : decode cX9_why 6 = .ok (.getfield 328, 3) := by decide +kernel
theorem dX9_why_9 : decode cX9_why 9 = .ok (.ireturn, 1) := by decide +kernel
theorem dX9_wipe_0 : decode cX9_wipe 0 = .ok (.aload_n 0, 1) := by decide +kernel
theorem dX9_wipe_1 : decode cX9_wipe 1 = .ok (.invokevirtual 420, 3) := by decide +kernel
theorem dX9_wipe_4 : decode cX9_wipe 4 = .ok (.aload_n 0, 1) := by decide +kernel
theorem dX9_wipe_5 : decode cX9_wipe 5 = .ok (.invokevirtual 319, 3) := by decide +kernel
theorem dX9_wipe_8 : decode cX9_wipe 8 = .ok (.istore_n 1, 1) := by decide +kernel
theorem dX9_wipe_9 : decode cX9_wipe 9 = .ok (.aload_n 0, 1) := by decide +kernel
theorem dX9_wipe_10 : decode cX9_wipe 10 = .ok (.aload_n 0, 1) := by decide +kernel
theorem dX9_wipe_11 : decode cX9_wipe 11 = .ok (.invokevirtual 417, 3) := by decide +kernel
theorem dX9_wipe_14 : decode cX9_wipe 14 = .ok (.iconst 1, 1) := by decide +kernel
theorem dX9_wipe_15 : decode cX9_wipe 15 = .ok (.invokevirtual 429, 3) := by decide +kernel
theorem dX9_wipe_18 : decode cX9_wipe 18 = .ok (.ifCond .eq 7, 3) := by decide +kernel
theorem dX9_wipe_21 : decode cX9_wipe 21 = .ok (.iload_n 1, 1) := by decide +kernel
theorem dX9_wipe_22 : decode cX9_wipe 22 = .ok (.goto 4, 3) := by decide +kernel
theorem dX9_wipe_25 : decode cX9_wipe 25 = .ok (.iconst 0, 1) := by decide +kernel
theorem dX9_wipe_26 : decode cX9_wipe 26 = .ok (.ireturn, 1) := by decide +kernel
theorem dX9_wipe0_0 : decode cX9_wipe0 0 = .ok (.aload_n 0, 1) := by decide +kernel
theorem dX9_wipe0_1 : decode cX9_wipe0 1 = .ok (.invokevirtual 319, 3) := by decide +kernel
theorem dX9_wipe0_4 : decode cX9_wipe0 4 = .ok (.ifCond .ne 5, 3) := by decide +kernel
theorem dX9_wipe0_7 : decode cX9_wipe0 7 = .ok (.iconst 4, 1) := by decide +kernel
theorem dX9_wipe0_8 : decode cX9_wipe0 8 = .ok (.ireturn, 1) := by decide +kernel
theorem dX9_wipe0_9 : decode cX9_wipe0 9 = .ok (.iconst 0, 1) := by decide +kernel
theorem dX9_wipe0_10 : decode cX9_wipe0 10 = .ok (.istore_n 1, 1) := by decide +kernel
theorem dX9_wipe0_11 : decode cX9_wipe0 11 = .ok (.iload_n 1, 1) := by decide +kernel
theorem dX9_wipe0_12 : decode cX9_wipe0 12 = .ok (.bipush 40, 2) := by decide +kernel
theorem dX9_wipe0_14 : decode cX9_wipe0 14 = .ok (.if_icmp .ge 23, 3) := by decide +kernel
theorem dX9_wipe0_17 : decode cX9_wipe0 17 = .ok (.aload_n 0, 1) := by decide +kernel
theorem dX9_wipe0_18 : decode cX9_wipe0 18 = .ok (.getfield 7, 3) := by decide +kernel
theorem dX9_wipe0_21 : decode cX9_wipe0 21 = .ok (.sipush 443, 3) := by decide +kernel
theorem dX9_wipe0_24 : decode cX9_wipe0 24 = .ok (.bipush 61, 2) := by decide +kernel
theorem dX9_wipe0_26 : decode cX9_wipe0 26 = .ok (.iload_n 1, 1) := by decide +kernel
theorem dX9_wipe0_27 : decode cX9_wipe0 27 = .ok (.imul, 1) := by decide +kernel
theorem dX9_wipe0_28 : decode cX9_wipe0 28 = .ok (.iadd, 1) := by decide +kernel
theorem dX9_wipe0_29 : decode cX9_wipe0 29 = .ok (.iconst (-1), 1) := by decide +kernel
theorem dX9_wipe0_30 : decode cX9_wipe0 30 = .ok (.iastore, 1) := by decide +kernel
theorem dX9_wipe0_31 : decode cX9_wipe0 31 = .ok (.iinc 1 1, 3) := by decide +kernel
theorem dX9_wipe0_34 : decode cX9_wipe0 34 = .ok (.goto (-23), 3) := by decide +kernel
theorem dX9_wipe0_37 : decode cX9_wipe0 37 = .ok (.iconst 0, 1) := by decide +kernel
theorem dX9_wipe0_38 : decode cX9_wipe0 38 = .ok (.ireturn, 1) := by decide +kernel
theorem dX9_word_0 : decode cX9_word 0 = .ok (.iconst 0, 1) := by decide +kernel
theorem dX9_word_1 : decode cX9_word 1 = .ok (.istore_n 3, 1) := by decide +kernel
theorem dX9_word_2 : decode cX9_word 2 = .ok (.iload_n 3, 1) := by decide +kernel
theorem dX9_word_3 : decode cX9_word 3 = .ok (.aload_n 2, 1) := by decide +kernel
theorem dX9_word_4 : decode cX9_word 4 = .ok (.invokevirtual 173, 3) := by decide +kernel
theorem dX9_word_7 : decode cX9_word 7 = .ok (.if_icmp .ge 22, 3) := by decide +kernel
theorem dX9_word_10 : decode cX9_word 10 = .ok (.aload_n 1, 1) := by decide +kernel
theorem dX9_word_11 : decode cX9_word 11 = .ok (.aload_n 0, 1) := by decide +kernel
theorem dX9_word_12 : decode cX9_word 12 = .ok (.getfield 254, 3) := by decide +kernel
theorem dX9_word_15 : decode cX9_word 15 = .ok (.iload_n 3, 1) := by decide +kernel
theorem dX9_word_16 : decode cX9_word 16 = .ok (.iadd, 1) := by decide +kernel
theorem dX9_word_17 : decode cX9_word 17 = .ok (.aload_n 2, 1) := by decide +kernel
theorem dX9_word_18 : decode cX9_word 18 = .ok (.iload_n 3, 1) := by decide +kernel
theorem dX9_word_19 : decode cX9_word 19 = .ok (.invokevirtual 179, 3) := by decide +kernel
theorem dX9_word_22 : decode cX9_word 22 = .ok (.iastore, 1) := by decide +kernel
theorem dX9_word_23 : decode cX9_word 23 = .ok (.iinc 3 1, 3) := by decide +kernel
theorem dX9_word_26 : decode cX9_word 26 = .ok (.goto (-24), 3) := by decide +kernel
theorem dX9_word_29 : decode cX9_word 29 = .ok (.aload_n 0, 1) := by decide +kernel
theorem dX9_word_30 : decode cX9_word 30 = .ok (.dup, 1) := by decide +kernel
theorem dX9_word_31 : decode cX9_word 31 = .ok (.getfield 254, 3) := by decide +kernel
theorem dX9_word_34 : decode cX9_word 34 = .ok (.aload_n 2, 1) := by decide +kernel
theorem dX9_word_35 : decode cX9_word 35 = .ok (.invokevirtual 173, 3) := by decide +kernel
theorem dX9_word_38 : decode cX9_word 38 = .ok (.iadd, 1) := by decide +kernel
theorem dX9_word_39 : decode cX9_word 39 = .ok (.putfield 254, 3) := by decide +kernel
theorem dX9_word_42 : decode cX9_word 42 = .ok (.return_, 1) := by decide +kernel
theorem dX9_wordEnd_0 : decode cX9_wordEnd 0 = .ok (.aload_n 0, 1) := by decide +kernel
theorem dX9_wordEnd_1 : decode cX9_wordEnd 1 = .ok (.invokevirtual 346, 3) := by decide +kernel
theorem dX9_wordEnd_4 : decode cX9_wordEnd 4 = .ok (.istore_n 1, 1) := by decide +kernel
theorem dX9_wordEnd_5 : decode cX9_wordEnd 5 = .ok (.iload_n 1, 1) := by decide +kernel
theorem dX9_wordEnd_6 : decode cX9_wordEnd 6 = .ok (.aload_n 0, 1) := by decide +kernel
theorem dX9_wordEnd_7 : decode cX9_wordEnd 7 = .ok (.getfield 343, 3) := by decide +kernel
theorem dX9_wordEnd_10 : decode cX9_wordEnd 10 = .ok (.if_icmp .ge 25, 3) := by decide +kernel
theorem dX9_wordEnd_13 : decode cX9_wordEnd 13 = .ok (.aload_n 0, 1) := by decide +kernel
theorem dX9_wordEnd_14 : decode cX9_wordEnd 14 = .ok (.getfield 23, 3) := by decide +kernel
theorem dX9_wordEnd_17 : decode cX9_wordEnd 17 = .ok (.iload_n 1, 1) := by decide +kernel
theorem dX9_wordEnd_18 : decode cX9_wordEnd 18 = .ok (.iaload, 1) := by decide +kernel
theorem dX9_wordEnd_19 : decode cX9_wordEnd 19 = .ok (.bipush 97, 2) := by decide +kernel
theorem dX9_wordEnd_21 : decode cX9_wordEnd 21 = .ok (.bipush 122, 2) := by decide +kernel
theorem dX9_wordEnd_23 : decode cX9_wordEnd 23 = .ok (.invokestatic 141, 3) := by decide +kernel
theorem dX9_wordEnd_26 : decode cX9_wordEnd 26 = .ok (.ifCond .eq 9, 3) := by decide +kernel
theorem dX9_wordEnd_29 : decode cX9_wordEnd 29 = .ok (.iinc 1 1, 3) := by decide +kernel
theorem dX9_wordEnd_32 : decode cX9_wordEnd 32 = .ok (.goto (-27), 3) := by decide +kernel
theorem dX9_wordEnd_35 : decode cX9_wordEnd 35 = .ok (.iload_n 1, 1) := by decide +kernel
theorem dX9_wordEnd_36 : decode cX9_wordEnd 36 = .ok (.ireturn, 1) := by decide +kernel
theorem dX9_wordsOf_0 : decode cX9_wordsOf 0 = .ok (.iconst 0, 1) := by decide +kernel
theorem dX9_wordsOf_1 : decode cX9_wordsOf 1 = .ok (.istore_n 2, 1) := by decide +kernel
theorem dX9_wordsOf_2 : decode cX9_wordsOf 2 = .ok (.iconst 0, 1) := by decide +kernel
theorem dX9_wordsOf_3 : decode cX9_wordsOf 3 = .ok (.istore_n 3, 1) := by decide +kernel
theorem dX9_wordsOf_4 : decode cX9_wordsOf 4 = .ok (.iload_n 3, 1) := by decide +kernel
theorem dX9_wordsOf_5 : decode cX9_wordsOf 5 = .ok (.aload_n 0, 1) := by decide +kernel
theorem dX9_wordsOf_6 : decode cX9_wordsOf 6 = .ok (.iload_n 1, 1) := by decide +kernel
theorem dX9_wordsOf_7 : decode cX9_wordsOf 7 = .ok (.invokevirtual 313, 3) := by decide +kernel
theorem dX9_wordsOf_10 : decode cX9_wordsOf 10 = .ok (.if_icmp .ge 47, 3) := by decide +kernel
theorem dX9_wordsOf_13 : decode cX9_wordsOf 13 = .ok (.iload_n 2, 1) := by decide +kernel
theorem dX9_wordsOf_14 : decode cX9_wordsOf 14 = .ok (.aload_n 0, 1) := by decide +kernel
theorem dX9_wordsOf_15 : decode cX9_wordsOf 15 = .ok (.iload_n 1, 1) := by decide +kernel
theorem dX9_wordsOf_16 : decode cX9_wordsOf 16 = .ok (.iload_n 3, 1) := by decide +kernel
theorem dX9_wordsOf_17 : decode cX9_wordsOf 17 = .ok (.invokevirtual 316, 3) := by decide +kernel
theorem dX9_wordsOf_20 : decode cX9_wordsOf 20 = .ok (.invokestatic 207, 3) := by decide +kernel
theorem dX9_wordsOf_23 : decode cX9_wordsOf 23 = .ok (.ifCond .eq 25, 3) := by decide +kernel
theorem dX9_wordsOf_26 : decode cX9_wordsOf 26 = .ok (.iload_n 3, 1) := by decide +kernel
theorem dX9_wordsOf_27 : decode cX9_wordsOf 27 = .ok (.ifCond .eq 17, 3) := by decide +kernel
theorem dX9_wordsOf_30 : decode cX9_wordsOf 30 = .ok (.aload_n 0, 1) := by decide +kernel
theorem dX9_wordsOf_31 : decode cX9_wordsOf 31 = .ok (.iload_n 1, 1) := by decide +kernel
theorem dX9_wordsOf_32 : decode cX9_wordsOf 32 = .ok (.iload_n 3, 1) := by decide +kernel
theorem dX9_wordsOf_33 : decode cX9_wordsOf 33 = .ok (.iconst 1, 1) := by decide +kernel
theorem dX9_wordsOf_34 : decode cX9_wordsOf 34 = .ok (.isub, 1) := by decide +kernel
theorem dX9_wordsOf_35 : decode cX9_wordsOf 35 = .ok (.invokevirtual 316, 3) := by decide +kernel
theorem dX9_wordsOf_38 : decode cX9_wordsOf 38 = .ok (.invokestatic 207, 3) := by decide +kernel
theorem dX9_wordsOf_41 : decode cX9_wordsOf 41 = .ok (.ifCond .ne 7, 3) := by decide +kernel
theorem dX9_wordsOf_44 : decode cX9_wordsOf 44 = .ok (.iconst 1, 1) := by decide +kernel
theorem dX9_wordsOf_45 : decode cX9_wordsOf 45 = .ok (.goto 4, 3) := by decide +kernel
theorem dX9_wordsOf_48 : decode cX9_wordsOf 48 = .ok (.iconst 0, 1) := by decide +kernel
theorem dX9_wordsOf_49 : decode cX9_wordsOf 49 = .ok (.iadd, 1) := by decide +kernel
theorem dX9_wordsOf_50 : decode cX9_wordsOf 50 = .ok (.istore_n 2, 1) := by decide +kernel
theorem dX9_wordsOf_51 : decode cX9_wordsOf 51 = .ok (.iinc 3 1, 3) := by decide +kernel
theorem dX9_wordsOf_54 : decode cX9_wordsOf 54 = .ok (.goto (-50), 3) := by decide +kernel
theorem dX9_wordsOf_57 : decode cX9_wordsOf 57 = .ok (.iload_n 2, 1) := by decide +kernel
theorem dX9_wordsOf_58 : decode cX9_wordsOf 58 = .ok (.ireturn, 1) := by decide +kernel
theorem dX9_would_0 : decode cX9_would 0 = .ok (.aload_n 0, 1) := by decide +kernel
theorem dX9_would_1 : decode cX9_would 1 = .ok (.invokevirtual 435, 3) := by decide +kernel
theorem dX9_would_4 : decode cX9_would 4 = .ok (.istore_n 2, 1) := by decide +kernel
theorem dX9_would_5 : decode cX9_would 5 = .ok (.aload_n 0, 1) := by decide +kernel
theorem dX9_would_6 : decode cX9_would 6 = .ok (.aload_n 0, 1) := by decide +kernel
theorem dX9_would_7 : decode cX9_would 7 = .ok (.iload_n 1, 1) := by decide +kernel
theorem dX9_would_8 : decode cX9_would 8 = .ok (.invokevirtual 293, 3) := by decide +kernel
theorem dX9_would_11 : decode cX9_would 11 = .ok (.ifCond .ne 7, 3) := by decide +kernel
theorem dX9_would_14 : decode cX9_would 14 = .ok (.iconst 1, 1) := by decide +kernel
theorem dX9_would_15 : decode cX9_would 15 = .ok (.goto 14, 3) := by decide +kernel
theorem dX9_would_18 : decode cX9_would 18 = .ok (.iload_n 2, 1) := by decide +kernel
theorem dX9_would_19 : decode cX9_would 19 = .ok (.bipush 60, 2) := by decide +kernel
theorem dX9_would_21 : decode cX9_would 21 = .ok (.if_icmp .le 7, 3) := by decide +kernel
theorem dX9_would_24 : decode cX9_would 24 = .ok (.iconst 2, 1) := by decide +kernel
theorem dX9_would_25 : decode cX9_would 25 = .ok (.goto 4, 3) := by decide +kernel
theorem dX9_would_28 : decode cX9_would 28 = .ok (.iconst 0, 1) := by decide +kernel
theorem dX9_would_29 : decode cX9_would 29 = .ok (.putfield 138, 3) := by decide +kernel
theorem dX9_would_32 : decode cX9_would 32 = .ok (.aload_n 0, 1) := by decide +kernel
theorem dX9_would_33 : decode cX9_would 33 = .ok (.getfield 138, 3) := by decide +kernel
theorem dX9_would_36 : decode cX9_would 36 = .ok (.ifCond .le 7, 3) := by decide +kernel
theorem dX9_would_39 : decode cX9_would 39 = .ok (.iconst 0, 1) := by decide +kernel
theorem dX9_would_40 : decode cX9_would 40 = .ok (.goto 9, 3) := by decide +kernel
theorem dX9_would_43 : decode cX9_would 43 = .ok (.aload_n 0, 1) := by decide +kernel
theorem dX9_would_44 : decode cX9_would 44 = .ok (.iload_n 1, 1) := by decide +kernel
theorem dX9_would_45 : decode cX9_would 45 = .ok (.iload_n 2, 1) := by decide +kernel
theorem dX9_would_46 : decode cX9_would 46 = .ok (.invokevirtual 287, 3) := by decide +kernel
theorem dX9_would_49 : decode cX9_would 49 = .ok (.ireturn, 1) := by decide +kernel
theorem dX9_wrong_0 : decode cX9_wrong 0 = .ok (.aload_n 0, 1) := by decide +kernel
theorem dX9_wrong_1 : decode cX9_wrong 1 = .ok (.getfield 26, 3) := by decide +kernel
theorem dX9_wrong_4 : decode cX9_wrong 4 = .ok (.iconst (-1), 1) := by decide +kernel
theorem dX9_wrong_5 : decode cX9_wrong 5 = .ok (.if_icmp .ne 8, 3) := by decide +kernel
theorem dX9_wrong_8 : decode cX9_wrong 8 = .ok (.aload_n 0, 1) := by decide +kernel
theorem dX9_wrong_9 : decode cX9_wrong 9 = .ok (.iload_n 1, 1) := by decide +kernel
theorem dX9_wrong_10 : decode cX9_wrong 10 = .ok (.putfield 26, 3) := by decide +kernel
theorem dX9_wrong_13 : decode cX9_wrong 13 = .ok (.return_, 1) := by decide +kernel
end
/-! part 22aa.ref -/
section
def mX9_thrown (σ : RS9) : Option (Int32 × RS9) := some ((σ.1 0), σ)
set_option maxHeartbeats 1000000 in
theorem rmX9_thrown {X : GX} {l : Launch} {f : AH} {n : Nat} {r : Int32 × RS9} {σ : RS9} (h : mX9_thrown σ = some r) : AM X l yX9_thrown cX9_thrown 1 (some .int) 0 0 0 [.ref 181] (rHm f σ) n (QMi f n r) := by
  have h : some ((σ.1 0), σ) = some r := h
  refine AM.of (by decide +kernel) rfl (Nat.le_of_ble_eq_true rfl) (fun p e s m args below meth c C _ => ?_)
  refine aw_nl [some (.ref 181)] rfl ?_
  refine aw_ald_n C dX9_thrown_0 rfl ?_
  refine aw_get C (v := .int (σ.1 0)) gf_X9_138 (hm_M f σ) rfl dX9_thrown_1 ?_
  cases h
  exact aw_iret C rfl rfl dX9_thrown_4 (Nat.le_refl _) (Nat.le_refl _) ⟨rfl, rfl, rfl⟩
def mX9_feed_b76 (rec23 : Int32 → Int32 → Int32 → Int32 → Int32 → Int32 → RS9 → Option (Int32 × RS9)) (v1 : Int32) (v2 : Int32) (v3 : Int32) (v4 : Int32) (v5 : Int32) (v6 : Int32) (s0 : Int32) (σ : RS9) : Option (Int32 × RS9) := rCk (rIn (σ.1 9) (rLen 8)) (rec23 v1 v2 v3 v4 v5 (v6 + (1 : Int32)) (rSf (rSa σ 8 (σ.1 9) ((s0.toUInt32 >>> (((24 : Int32) - ((8 : Int32) * (v6 - v6 / (4 : Int32) * (4 : Int32)))).toUInt32 &&& Int32.toUInt32 31)).toInt32 &&& (255 : Int32))) 9 ((σ.1 9) + (1 : Int32))))
set_option maxHeartbeats 1000000 in
theorem rmX9_feed_b76 {X : GX} {p : Program} {l : Launch} {e : Env} {s : State} {m : MethodId} {args : Array Value} {below : List Frame} {meth : Method} {c : Code} {f : AH} {n : Nat} {r : Int32 × RS9} {rec23 : Int32 → Int32 → Int32 → Int32 → Int32 → Int32 → RS9 → Option (Int32 × RS9)} {v1 : Int32} {v2 : Int32} {v3 : Int32} {v4 : Int32} {v5 : Int32} {v6 : Int32} {s0 : Int32} {σ : RS9} (C : CC X p l (RM 0 0 0) s m args meth c RX9 cX9_feed 8 (some .int)) (Hr23 : ∀ (v1 : Int32) (v2 : Int32) (v3 : Int32) (v4 : Int32) (v5 : Int32) (v6 : Int32) (σ : RS9), rec23 v1 v2 v3 v4 v5 v6 σ = some r → AW X p l e (RM 0 0 0) s m args below meth c 8 (ZM X below args s 0 0 (QMi f n r)) (rHm f σ) n 0 0 23 [some (.ref 181), some (.int v1), some (.int v2), some (.int v3), some (.int v4), some (.int v5), some (.int v6), none] []) (h : mX9_feed_b76 rec23 v1 v2 v3 v4 v5 v6 s0 σ = some r) : AW X p l e (RM 0 0 0) s m args below meth c 8 (ZM X below args s 0 0 (QMi f n r)) (rHm f σ) n 0 0 76 [some (.ref 181), some (.int v1), some (.int v2), some (.int v3), some (.int v4), some (.int v5), some (.int v6), none] [.int s0] := by
  have h : rCk (rIn (σ.1 9) (rLen 8)) (rec23 v1 v2 v3 v4 v5 (v6 + (1 : Int32)) (rSf (rSa σ 8 (σ.1 9) ((s0.toUInt32 >>> (((24 : Int32) - ((8 : Int32) * (v6 - v6 / (4 : Int32) * (4 : Int32)))).toUInt32 &&& Int32.toUInt32 31)).toInt32 &&& (255 : Int32))) 9 ((σ.1 9) + (1 : Int32)))) = some r := h
  refine aw_istore C dX9_feed_76 (by decide) rfl ?_
  refine aw_nl [some (.ref 181), some (.int v1), some (.int v2), some (.int v3), some (.int v4), some (.int v5), some (.int v6), some (.int s0)] rfl ?_
  refine aw_ald_n C dX9_feed_78 rfl ?_
  refine aw_get C (v := .ref (rAid 8)) gf_X9_23 (hm_M f σ) rfl dX9_feed_79 ?_
  refine aw_ald_n C dX9_feed_82 rfl ?_
  refine aw_get C (v := .int (σ.1 9)) gf_X9_337 (hm_M f σ) rfl dX9_feed_83 ?_
  refine aw_iload C dX9_feed_86 rfl ?_
  refine aw_bipush C 24 dX9_feed_88 kb_24 ?_
  refine aw_bipush C 8 dX9_feed_90 kb_8 ?_
  refine aw_iload C dX9_feed_92 rfl ?_
  refine aw_iconst C 4 dX9_feed_94 ki_4 ?_
  refine aw_irem C dX9_feed_95 (by decide) ?_
  refine aw_imul C dX9_feed_96 ?_
  refine aw_isub C dX9_feed_97 ?_
  refine aw_iushr C dX9_feed_98 ?_
  refine aw_sipush C 255 dX9_feed_99 ks_255 ?_
  refine aw_iand C dX9_feed_102 ?_
  obtain ⟨hb1, h⟩ := ck_some h
  refine am_iast C rfl (inb_vp hb1) dX9_feed_103 ?_
  refine aw_ald_n C dX9_feed_104 rfl ?_
  refine aw_dup C dX9_feed_105 rfl ?_
  refine aw_get C (v := .int (σ.1 9)) gf_X9_337 (hm_M f (rSa σ 8 (σ.1 9) ((s0.toUInt32 >>> (((24 : Int32) - ((8 : Int32) * (v6 - v6 / (4 : Int32) * (4 : Int32)))).toUInt32 &&& Int32.toUInt32 31)).toInt32 &&& (255 : Int32)))) rfl dX9_feed_106 ?_
  refine aw_iconst C 1 dX9_feed_109 ki_1 ?_
  refine aw_iadd C dX9_feed_110 ?_
  refine am_put C gf_X9_337 nf9_9 rfl rfl dX9_feed_111 ?_
  refine aw_iinc C (v6 + (1 : Int32)) dX9_feed_114 rfl (by rw [ki_1]) (by decide) rfl ?_
  refine aw_nl [some (.ref 181), some (.int v1), some (.int v2), some (.int v3), some (.int v4), some (.int v5), some (.int (v6 + (1 : Int32))), some (.int s0)] rfl ?_
  refine aw_goto C 23 dX9_feed_117 (by decide) ?_
  refine aw_fl [some (.ref 181), some (.int v1), some (.int v2), some (.int v3), some (.int v4), some (.int v5), some (.int (v6 + (1 : Int32))), none] ⟨rfl, ⟨rfl, ⟨rfl, ⟨rfl, ⟨rfl, ⟨rfl, ⟨rfl, trivial⟩⟩⟩⟩⟩⟩⟩ ?_
  exact Hr23 v1 v2 v3 v4 v5 (v6 + (1 : Int32)) (rSf (rSa σ 8 (σ.1 9) ((s0.toUInt32 >>> (((24 : Int32) - ((8 : Int32) * (v6 - v6 / (4 : Int32) * (4 : Int32)))).toUInt32 &&& Int32.toUInt32 31)).toInt32 &&& (255 : Int32))) 9 ((σ.1 9) + (1 : Int32))) h
def mX9_feed_l23 : Nat → Int32 → Int32 → Int32 → Int32 → Int32 → Int32 → RS9 → Option (Int32 × RS9)
  | 0, _, _, _, _, _, _, _ => none
  | d + 1, v1, v2, v3, v4, v5, v6, σ => (if (20 : Int32) ≤ v6 then some ((σ.1 9), σ) else (if (4 : Int32) ≤ v6 then (if (8 : Int32) ≤ v6 then (if (12 : Int32) ≤ v6 then (if (16 : Int32) ≤ v6 then mX9_feed_b76 (fun v1 v2 v3 v4 v5 v6 σ => mX9_feed_l23 d v1 v2 v3 v4 v5 v6 σ) v1 v2 v3 v4 v5 v6 v5 σ else mX9_feed_b76 (fun v1 v2 v3 v4 v5 v6 σ => mX9_feed_l23 d v1 v2 v3 v4 v5 v6 σ) v1 v2 v3 v4 v5 v6 v4 σ) else mX9_feed_b76 (fun v1 v2 v3 v4 v5 v6 σ => mX9_feed_l23 d v1 v2 v3 v4 v5 v6 σ) v1 v2 v3 v4 v5 v6 v3 σ) else mX9_feed_b76 (fun v1 v2 v3 v4 v5 v6 σ => mX9_feed_l23 d v1 v2 v3 v4 v5 v6 σ) v1 v2 v3 v4 v5 v6 v2 σ) else mX9_feed_b76 (fun v1 v2 v3 v4 v5 v6 σ => mX9_feed_l23 d v1 v2 v3 v4 v5 v6 σ) v1 v2 v3 v4 v5 v6 v1 σ))
set_option maxHeartbeats 1000000 in
theorem rmX9_feed_l23 {X : GX} {p : Program} {l : Launch} {e : Env} {s : State} {m : MethodId} {args : Array Value} {below : List Frame} {meth : Method} {c : Code} {f : AH} {n : Nat} {r : Int32 × RS9} (C : CC X p l (RM 0 0 0) s m args meth c RX9 cX9_feed 8 (some .int)) : ∀ (d : Nat) (v1 : Int32) (v2 : Int32) (v3 : Int32) (v4 : Int32) (v5 : Int32) (v6 : Int32) (σ : RS9) (_ : mX9_feed_l23 d v1 v2 v3 v4 v5 v6 σ = some r), AW X p l e (RM 0 0 0) s m args below meth c 8 (ZM X below args s 0 0 (QMi f n r)) (rHm f σ) n 0 0 23 [some (.ref 181), some (.int v1), some (.int v2), some (.int v3), some (.int v4), some (.int v5), some (.int v6), none] [] := by
  intro d
  induction d with
  | zero =>
    intro v1 v2 v3 v4 v5 v6 σ h
    exact nomatch (show (none : Option (Int32 × RS9)) = some r from h)
  | succ d ih =>
    intro v1 v2 v3 v4 v5 v6 σ h
    have h : (if (20 : Int32) ≤ v6 then some ((σ.1 9), σ) else (if (4 : Int32) ≤ v6 then (if (8 : Int32) ≤ v6 then (if (12 : Int32) ≤ v6 then (if (16 : Int32) ≤ v6 then mX9_feed_b76 (fun v1 v2 v3 v4 v5 v6 σ => mX9_feed_l23 d v1 v2 v3 v4 v5 v6 σ) v1 v2 v3 v4 v5 v6 v5 σ else mX9_feed_b76 (fun v1 v2 v3 v4 v5 v6 σ => mX9_feed_l23 d v1 v2 v3 v4 v5 v6 σ) v1 v2 v3 v4 v5 v6 v4 σ) else mX9_feed_b76 (fun v1 v2 v3 v4 v5 v6 σ => mX9_feed_l23 d v1 v2 v3 v4 v5 v6 σ) v1 v2 v3 v4 v5 v6 v3 σ) else mX9_feed_b76 (fun v1 v2 v3 v4 v5 v6 σ => mX9_feed_l23 d v1 v2 v3 v4 v5 v6 σ) v1 v2 v3 v4 v5 v6 v2 σ) else mX9_feed_b76 (fun v1 v2 v3 v4 v5 v6 σ => mX9_feed_l23 d v1 v2 v3 v4 v5 v6 σ) v1 v2 v3 v4 v5 v6 v1 σ)) = some r := h
    refine aw_iload C dX9_feed_23 rfl ?_
    refine aw_bipush C 20 dX9_feed_25 kb_20 ?_
    refine aw_icmp_ge C 120 dX9_feed_27 (by decide) (fun q => ?_) (fun q => ?_)
    · rw [if_pos q] at h
      refine aw_ald_n C dX9_feed_120 rfl ?_
      refine aw_get C (v := .int (σ.1 9)) gf_X9_337 (hm_M f σ) rfl dX9_feed_121 ?_
      cases h
      exact aw_iret C rfl rfl dX9_feed_124 (Nat.le_refl _) (Nat.le_refl _) ⟨rfl, rfl, rfl⟩
    · rw [if_neg q] at h
      refine aw_iload C dX9_feed_30 rfl ?_
      refine aw_iconst C 4 dX9_feed_32 ki_4 ?_
      refine aw_icmp_ge C 40 dX9_feed_33 (by decide) (fun q => ?_) (fun q => ?_)
      · rw [if_pos q] at h
        refine aw_iload C dX9_feed_40 rfl ?_
        refine aw_bipush C 8 dX9_feed_42 kb_8 ?_
        refine aw_icmp_ge C 51 dX9_feed_44 (by decide) (fun q => ?_) (fun q => ?_)
        · rw [if_pos q] at h
          refine aw_iload C dX9_feed_51 rfl ?_
          refine aw_bipush C 12 dX9_feed_53 kb_12 ?_
          refine aw_icmp_ge C 62 dX9_feed_55 (by decide) (fun q => ?_) (fun q => ?_)
          · rw [if_pos q] at h
            refine aw_iload C dX9_feed_62 rfl ?_
            refine aw_bipush C 16 dX9_feed_64 kb_16 ?_
            refine aw_icmp_ge C 74 dX9_feed_66 (by decide) (fun q => ?_) (fun q => ?_)
            · rw [if_pos q] at h
              refine aw_iload C dX9_feed_74 rfl ?_
              refine aw_fl [some (.ref 181), some (.int v1), some (.int v2), some (.int v3), some (.int v4), some (.int v5), some (.int v6), none] ⟨rfl, ⟨rfl, ⟨rfl, ⟨rfl, ⟨rfl, ⟨rfl, ⟨rfl, trivial⟩⟩⟩⟩⟩⟩⟩ ?_
              exact rmX9_feed_b76 C (fun v1 v2 v3 v4 v5 v6 σ h => ih v1 v2 v3 v4 v5 v6 σ h) h
            · rw [if_neg q] at h
              refine aw_iload C dX9_feed_69 rfl ?_
              refine aw_goto C 76 dX9_feed_71 (by decide) ?_
              refine aw_fl [some (.ref 181), some (.int v1), some (.int v2), some (.int v3), some (.int v4), some (.int v5), some (.int v6), none] ⟨rfl, ⟨rfl, ⟨rfl, ⟨rfl, ⟨rfl, ⟨rfl, ⟨rfl, trivial⟩⟩⟩⟩⟩⟩⟩ ?_
              exact rmX9_feed_b76 C (fun v1 v2 v3 v4 v5 v6 σ h => ih v1 v2 v3 v4 v5 v6 σ h) h
          · rw [if_neg q] at h
            refine aw_iload_n C dX9_feed_58 rfl ?_
            refine aw_goto C 76 dX9_feed_59 (by decide) ?_
            refine aw_fl [some (.ref 181), some (.int v1), some (.int v2), some (.int v3), some (.int v4), some (.int v5), some (.int v6), none] ⟨rfl, ⟨rfl, ⟨rfl, ⟨rfl, ⟨rfl, ⟨rfl, ⟨rfl, trivial⟩⟩⟩⟩⟩⟩⟩ ?_
            exact rmX9_feed_b76 C (fun v1 v2 v3 v4 v5 v6 σ h => ih v1 v2 v3 v4 v5 v6 σ h) h
        · rw [if_neg q] at h
          refine aw_iload_n C dX9_feed_47 rfl ?_
          refine aw_goto C 76 dX9_feed_48 (by decide) ?_
          refine aw_fl [some (.ref 181), some (.int v1), some (.int v2), some (.int v3), some (.int v4), some (.int v5), some (.int v6), none] ⟨rfl, ⟨rfl, ⟨rfl, ⟨rfl, ⟨rfl, ⟨rfl, ⟨rfl, trivial⟩⟩⟩⟩⟩⟩⟩ ?_
          exact rmX9_feed_b76 C (fun v1 v2 v3 v4 v5 v6 σ h => ih v1 v2 v3 v4 v5 v6 σ h) h
      · rw [if_neg q] at h
        refine aw_iload_n C dX9_feed_36 rfl ?_
        refine aw_goto C 76 dX9_feed_37 (by decide) ?_
        refine aw_fl [some (.ref 181), some (.int v1), some (.int v2), some (.int v3), some (.int v4), some (.int v5), some (.int v6), none] ⟨rfl, ⟨rfl, ⟨rfl, ⟨rfl, ⟨rfl, ⟨rfl, ⟨rfl, trivial⟩⟩⟩⟩⟩⟩⟩ ?_
        exact rmX9_feed_b76 C (fun v1 v2 v3 v4 v5 v6 σ h => ih v1 v2 v3 v4 v5 v6 σ h) h
def mX9_feed (v1 : Int32) (v2 : Int32) (v3 : Int32) (v4 : Int32) (v5 : Int32) (σ : RS9) : Option (Int32 × RS9) := (if ((σ.1 9) + (20 : Int32)) ≤ (400 : Int32) then mX9_feed_l23 rFU v1 v2 v3 v4 v5 (0 : Int32) (rSf σ 0 (0 : Int32)) else some ((-1 : Int32), (rSf σ 0 (0 : Int32))))
set_option maxHeartbeats 1000000 in
theorem rmX9_feed {X : GX} {l : Launch} {f : AH} {n : Nat} {r : Int32 × RS9} {v1 : Int32} {v2 : Int32} {v3 : Int32} {v4 : Int32} {v5 : Int32} {σ : RS9} (h : mX9_feed v1 v2 v3 v4 v5 σ = some r) : AM X l yX9_feed cX9_feed 8 (some .int) 0 0 0 [.ref 181, .int v1, .int v2, .int v3, .int v4, .int v5] (rHm f σ) n (QMi f n r) := by
  have h : (if ((σ.1 9) + (20 : Int32)) ≤ (400 : Int32) then mX9_feed_l23 rFU v1 v2 v3 v4 v5 (0 : Int32) (rSf σ 0 (0 : Int32)) else some ((-1 : Int32), (rSf σ 0 (0 : Int32)))) = some r := h
  refine AM.of (by decide +kernel) rfl (Nat.le_of_ble_eq_true rfl) (fun p e s m args below meth c C _ => ?_)
  refine aw_nl [some (.ref 181), some (.int v1), some (.int v2), some (.int v3), some (.int v4), some (.int v5), none, none] rfl ?_
  refine aw_ald_n C dX9_feed_0 rfl ?_
  refine aw_iconst C 0 dX9_feed_1 ki_0 ?_
  refine am_put C gf_X9_138 nf9_0 rfl rfl dX9_feed_2 ?_
  refine aw_ald_n C dX9_feed_5 rfl ?_
  refine aw_get C (v := .int (σ.1 9)) gf_X9_337 (hm_M f (rSf σ 0 (0 : Int32))) rfl dX9_feed_6 ?_
  refine aw_bipush C 20 dX9_feed_9 kb_20 ?_
  refine aw_iadd C dX9_feed_11 ?_
  refine aw_sipush C 400 dX9_feed_12 ks_400 ?_
  refine aw_icmp_le C 20 dX9_feed_15 (by decide) (fun q => ?_) (fun q => ?_)
  · rw [if_pos q] at h
    refine aw_iconst C 0 dX9_feed_20 ki_0 ?_
    refine aw_istore C dX9_feed_21 (by decide) rfl ?_
    refine aw_nl [some (.ref 181), some (.int v1), some (.int v2), some (.int v3), some (.int v4), some (.int v5), some (.int (0 : Int32)), none] rfl ?_
    refine aw_fl [some (.ref 181), some (.int v1), some (.int v2), some (.int v3), some (.int v4), some (.int v5), some (.int (0 : Int32)), none] ⟨rfl, ⟨rfl, ⟨rfl, ⟨rfl, ⟨rfl, ⟨rfl, ⟨rfl, trivial⟩⟩⟩⟩⟩⟩⟩ ?_
    exact rmX9_feed_l23 C rFU v1 v2 v3 v4 v5 (0 : Int32) (rSf σ 0 (0 : Int32)) h
  · rw [if_neg q] at h
    refine aw_iconst C (-1) dX9_feed_18 ki_m1 ?_
    cases h
    exact aw_iret C rfl rfl dX9_feed_19 (Nat.le_refl _) (Nat.le_refl _) ⟨rfl, rfl, rfl⟩
def mX9_isIn_b15 (s0 : Int32) (σ : RS9) : Option (Int32 × RS9) := rCk (rNb s0) (some (s0, σ))
set_option maxHeartbeats 1000000 in
theorem rmX9_isIn_b15 {X : GX} {p : Program} {l : Launch} {e : Env} {s : State} {m : MethodId} {args : Array Value} {below : List Frame} {meth : Method} {c : Code} {f : AH} {n : Nat} {r : Int32 × RS9} {s0 : Int32} {σ : RS9} (C : CC X p l (RM 0 0 0) s m args meth c RX9 cX9_isIn 3 (some .boolean)) (h : mX9_isIn_b15 s0 σ = some r) : AW X p l e (RM 0 0 0) s m args below meth c 3 (ZM X below args s 0 0 (QMi f n r)) (rHm f σ) n 0 0 15 [none, none, none] [.int s0] := by
  have h : rCk (rNb s0) (some (s0, σ)) = some r := h
  obtain ⟨hb1, h⟩ := ck_some h
  cases h
  exact aw_iret C rfl (nb_nar hb1) dX9_isIn_15 (Nat.le_refl _) (Nat.le_refl _) ⟨rfl, rfl, rfl⟩
def mX9_isIn_b14 (σ : RS9) : Option (Int32 × RS9) := mX9_isIn_b15 (0 : Int32) σ
set_option maxHeartbeats 1000000 in
theorem rmX9_isIn_b14 {X : GX} {p : Program} {l : Launch} {e : Env} {s : State} {m : MethodId} {args : Array Value} {below : List Frame} {meth : Method} {c : Code} {f : AH} {n : Nat} {r : Int32 × RS9} {σ : RS9} (C : CC X p l (RM 0 0 0) s m args meth c RX9 cX9_isIn 3 (some .boolean)) (h : mX9_isIn_b14 σ = some r) : AW X p l e (RM 0 0 0) s m args below meth c 3 (ZM X below args s 0 0 (QMi f n r)) (rHm f σ) n 0 0 14 [none, none, none] [] := by
  have h : mX9_isIn_b15 (0 : Int32) σ = some r := h
  refine aw_iconst C 0 dX9_isIn_14 ki_0 ?_
  refine aw_fl [none, none, none] trivial ?_
  exact rmX9_isIn_b15 C h
def mX9_isIn (v0 : Int32) (v1 : Int32) (v2 : Int32) (σ : RS9) : Option (Int32 × RS9) := (if v0 < v1 then mX9_isIn_b14 σ else (if v2 < v0 then mX9_isIn_b14 σ else mX9_isIn_b15 (1 : Int32) σ))
set_option maxHeartbeats 1000000 in
theorem rmX9_isIn {X : GX} {l : Launch} {f : AH} {n : Nat} {r : Int32 × RS9} {v0 : Int32} {v1 : Int32} {v2 : Int32} {σ : RS9} (h : mX9_isIn v0 v1 v2 σ = some r) : AM X l yX9_isIn cX9_isIn 3 (some .boolean) 0 0 0 [.int v0, .int v1, .int v2] (rHm f σ) n (QMi f n r) := by
  have h : (if v0 < v1 then mX9_isIn_b14 σ else (if v2 < v0 then mX9_isIn_b14 σ else mX9_isIn_b15 (1 : Int32) σ)) = some r := h
  refine AM.of (by decide +kernel) rfl (Nat.le_of_ble_eq_true rfl) (fun p e s m args below meth c C _ => ?_)
  refine aw_nl [some (.int v0), some (.int v1), some (.int v2)] rfl ?_
  refine aw_iload_n C dX9_isIn_0 rfl ?_
  refine aw_iload_n C dX9_isIn_1 rfl ?_
  refine aw_icmp_lt C 14 dX9_isIn_2 (by decide) (fun q => ?_) (fun q => ?_)
  · rw [if_pos q] at h
    refine aw_fl [none, none, none] trivial ?_
    exact rmX9_isIn_b14 C h
  · rw [if_neg q] at h
    refine aw_iload_n C dX9_isIn_5 rfl ?_
    refine aw_iload_n C dX9_isIn_6 rfl ?_
    refine aw_icmp_gt C 14 dX9_isIn_7 (by decide) (fun q => ?_) (fun q => ?_)
    · rw [if_pos q] at h
      refine aw_fl [none, none, none] trivial ?_
      exact rmX9_isIn_b14 C h
    · rw [if_neg q] at h
      refine aw_iconst C 1 dX9_isIn_10 ki_1 ?_
      refine aw_goto C 15 dX9_isIn_11 (by decide) ?_
      refine aw_fl [none, none, none] trivial ?_
      exact rmX9_isIn_b15 C h
def mX9_end (v1 : Int32) (σ : RS9) : Option (Int32 × RS9) := ((mX9_isIn v1 (0 : Int32) (σ.1 9) (rSf σ 0 (0 : Int32))).bind fun r1 => (if r1.1 = (0 : Int32) then rCk (rNb (0 : Int32)) (some ((0 : Int32), r1.2)) else rCk (rNb (1 : Int32)) (some ((1 : Int32), (rSf r1.2 9 v1)))))
set_option maxHeartbeats 1000000 in
theorem rmX9_end {X : GX} {l : Launch} {f : AH} {n : Nat} {r : Int32 × RS9} {v1 : Int32} {σ : RS9} (h : mX9_end v1 σ = some r) : AM X l yX9_end cX9_end 2 (some .boolean) 1 0 0 [.ref 181, .int v1] (rHm f σ) n (QMi f n r) := by
  have h : ((mX9_isIn v1 (0 : Int32) (σ.1 9) (rSf σ 0 (0 : Int32))).bind fun r1 => (if r1.1 = (0 : Int32) then rCk (rNb (0 : Int32)) (some ((0 : Int32), r1.2)) else rCk (rNb (1 : Int32)) (some ((1 : Int32), (rSf r1.2 9 v1))))) = some r := h
  refine AM.of (by decide +kernel) rfl (Nat.le_of_ble_eq_true rfl) (fun p e s m args below meth c C _ => ?_)
  refine aw_nl [some (.ref 181), some (.int v1)] rfl ?_
  refine aw_ald_n C dX9_end_0 rfl ?_
  refine aw_iconst C 0 dX9_end_1 ki_0 ?_
  refine am_put C gf_X9_138 nf9_0 rfl rfl dX9_end_2 ?_
  refine aw_iload_n C dX9_end_5 rfl ?_
  refine aw_iconst C 0 dX9_end_6 ki_0 ?_
  refine aw_ald_n C dX9_end_7 rfl ?_
  refine aw_get C (v := .int (σ.1 9)) gf_X9_337 (hm_M f (rSf σ 0 (0 : Int32))) rfl dX9_end_8 ?_
  obtain ⟨r1, h1, h⟩ := Option.bind_eq_some_iff.mp h
  refine aw_callS C [.int v1, .int (0 : Int32), .int (σ.1 9)] ms_X9_141 (rmX9_isIn h1) rfl dX9_end_11 (Nat.le_of_ble_eq_true rfl) (Nat.le_of_ble_eq_true rfl) rfl (Nat.le_of_ble_eq_true rfl) (Nat.le_of_ble_eq_true rfl) (Nat.le_of_ble_eq_true rfl) (fun v9 f9 n9 hh => ?_)
  obtain ⟨rfl, rfl, rfl⟩ := hh
  refine aw_if_ne C 19 dX9_end_14 (by decide) (fun q => ?_) (fun q => ?_)
  · rw [if_neg q] at h
    refine aw_ald_n C dX9_end_19 rfl ?_
    refine aw_iload_n C dX9_end_20 rfl ?_
    refine am_put C gf_X9_337 nf9_9 rfl rfl dX9_end_21 ?_
    refine aw_iconst C 1 dX9_end_24 ki_1 ?_
    obtain ⟨hb2, h⟩ := ck_some h
    cases h
    exact aw_iret C rfl (nb_nar hb2) dX9_end_25 (Nat.le_refl _) (Nat.le_refl _) ⟨rfl, rfl, rfl⟩
  · rw [if_pos q] at h
    refine aw_iconst C 0 dX9_end_17 ki_0 ?_
    obtain ⟨hb3, h⟩ := ck_some h
    cases h
    exact aw_iret C rfl (nb_nar hb3) dX9_end_18 (Nat.le_refl _) (Nat.le_refl _) ⟨rfl, rfl, rfl⟩
def mX9_putsAside_l2 : Nat → Int32 → RS9 → Option (Int32 × RS9)
  | 0, _, _ => none
  | d + 1, v1, σ => (if (4347 : Int32) ≤ v1 then some ((0 : Int32), σ) else rCk (rIn v1 (rLen 1)) (rCk (rIn v1 (rLen 2)) (mX9_putsAside_l2 d (v1 + (1 : Int32)) (rSa σ 2 v1 (rGa σ 1 v1)))))
set_option maxHeartbeats 1000000 in
theorem rmX9_putsAside_l2 {X : GX} {p : Program} {l : Launch} {e : Env} {s : State} {m : MethodId} {args : Array Value} {below : List Frame} {meth : Method} {c : Code} {f : AH} {n : Nat} {r : Int32 × RS9} (C : CC X p l (RM 0 0 0) s m args meth c RX9 cX9_putsAside 2 none) : ∀ (d : Nat) (v1 : Int32) (σ : RS9) (_ : mX9_putsAside_l2 d v1 σ = some r), AW X p l e (RM 0 0 0) s m args below meth c 2 (ZM X below args s 0 0 (QMv f n r)) (rHm f σ) n 0 0 2 [some (.ref 181), some (.int v1)] [] := by
  intro d
  induction d with
  | zero =>
    intro v1 σ h
    exact nomatch (show (none : Option (Int32 × RS9)) = some r from h)
  | succ d ih =>
    intro v1 σ h
    have h : (if (4347 : Int32) ≤ v1 then some ((0 : Int32), σ) else rCk (rIn v1 (rLen 1)) (rCk (rIn v1 (rLen 2)) (mX9_putsAside_l2 d (v1 + (1 : Int32)) (rSa σ 2 v1 (rGa σ 1 v1))))) = some r := h
    refine aw_iload_n C dX9_putsAside_2 rfl ?_
    refine aw_sipush C 4347 dX9_putsAside_3 ks_4347 ?_
    refine aw_icmp_ge C 27 dX9_putsAside_6 (by decide) (fun q => ?_) (fun q => ?_)
    · rw [if_pos q] at h
      cases h
      exact aw_vret C rfl dX9_putsAside_27 (Nat.le_refl _) (Nat.le_refl _) ⟨rfl, rfl, rfl⟩
    · rw [if_neg q] at h
      refine aw_ald_n C dX9_putsAside_9 rfl ?_
      refine aw_get C (v := .ref (rAid 2)) gf_X9_13 (hm_M f σ) rfl dX9_putsAside_10 ?_
      refine aw_iload_n C dX9_putsAside_13 rfl ?_
      refine aw_ald_n C dX9_putsAside_14 rfl ?_
      refine aw_get C (v := .ref (rAid 1)) gf_X9_7 (hm_M f σ) rfl dX9_putsAside_15 ?_
      refine aw_iload_n C dX9_putsAside_18 rfl ?_
      obtain ⟨hb1, h⟩ := ck_some h
      refine am_iald C (rGa σ 1 v1) rfl (inb_vp hb1) rfl dX9_putsAside_19 ?_
      obtain ⟨hb2, h⟩ := ck_some h
      refine am_iast C rfl (inb_vp hb2) dX9_putsAside_20 ?_
      refine aw_iinc C (v1 + (1 : Int32)) dX9_putsAside_21 rfl (by rw [ki_1]) (by decide) rfl ?_
      refine aw_nl [some (.ref 181), some (.int (v1 + (1 : Int32)))] rfl ?_
      refine aw_goto C 2 dX9_putsAside_24 (by decide) ?_
      refine aw_fl [some (.ref 181), some (.int (v1 + (1 : Int32)))] ⟨rfl, ⟨rfl, trivial⟩⟩ ?_
      exact ih (v1 + (1 : Int32)) (rSa σ 2 v1 (rGa σ 1 v1)) h
def mX9_putsAside (σ : RS9) : Option (Int32 × RS9) := mX9_putsAside_l2 rFU (0 : Int32) σ
set_option maxHeartbeats 1000000 in
theorem rmX9_putsAside {X : GX} {l : Launch} {f : AH} {n : Nat} {r : Int32 × RS9} {σ : RS9} (h : mX9_putsAside σ = some r) : AM X l yX9_putsAside cX9_putsAside 2 none 0 0 0 [.ref 181] (rHm f σ) n (QMv f n r) := by
  have h : mX9_putsAside_l2 rFU (0 : Int32) σ = some r := h
  refine AM.of (by decide +kernel) rfl (Nat.le_of_ble_eq_true rfl) (fun p e s m args below meth c C _ => ?_)
  refine aw_nl [some (.ref 181), none] rfl ?_
  refine aw_iconst C 0 dX9_putsAside_0 ki_0 ?_
  refine aw_istore_n C dX9_putsAside_1 (by decide) rfl ?_
  refine aw_nl [some (.ref 181), some (.int (0 : Int32))] rfl ?_
  refine aw_fl [some (.ref 181), some (.int (0 : Int32))] ⟨rfl, ⟨rfl, trivial⟩⟩ ?_
  exact rmX9_putsAside_l2 C rFU (0 : Int32) σ h
def mX9_here_b38 (σ : RS9) : Option (Int32 × RS9) := some ((σ.1 11), σ)
set_option maxHeartbeats 1000000 in
theorem rmX9_here_b38 {X : GX} {p : Program} {l : Launch} {e : Env} {s : State} {m : MethodId} {args : Array Value} {below : List Frame} {meth : Method} {c : Code} {f : AH} {n : Nat} {r : Int32 × RS9} {σ : RS9} (C : CC X p l (RM 0 0 0) s m args meth c RX9 cX9_here 1 (some .int)) (h : mX9_here_b38 σ = some r) : AW X p l e (RM 0 0 0) s m args below meth c 1 (ZM X below args s 0 0 (QMi f n r)) (rHm f σ) n 0 0 38 [some (.ref 181)] [] := by
  have h : some ((σ.1 11), σ) = some r := h
  refine aw_ald_n C dX9_here_38 rfl ?_
  refine aw_get C (v := .int (σ.1 11)) gf_X9_340 (hm_M f σ) rfl dX9_here_39 ?_
  cases h
  exact aw_iret C rfl rfl dX9_here_42 (Nat.le_refl _) (Nat.le_refl _) ⟨rfl, rfl, rfl⟩
def mX9_here_l0 : Nat → RS9 → Option (Int32 × RS9)
  | 0, _ => none
  | d + 1, σ => (if (σ.1 10) ≤ (σ.1 11) then mX9_here_b38 σ else rCk (rIn (σ.1 11) (rLen 8)) ((if (rGa σ 8 (σ.1 11)) = (32 : Int32) then mX9_here_l0 d (rSf σ 11 ((σ.1 11) + (1 : Int32))) else mX9_here_b38 σ)))
set_option maxHeartbeats 1000000 in
theorem rmX9_here_l0 {X : GX} {p : Program} {l : Launch} {e : Env} {s : State} {m : MethodId} {args : Array Value} {below : List Frame} {meth : Method} {c : Code} {f : AH} {n : Nat} {r : Int32 × RS9} (C : CC X p l (RM 0 0 0) s m args meth c RX9 cX9_here 1 (some .int)) : ∀ (d : Nat) (σ : RS9) (_ : mX9_here_l0 d σ = some r), AW X p l e (RM 0 0 0) s m args below meth c 1 (ZM X below args s 0 0 (QMi f n r)) (rHm f σ) n 0 0 0 [some (.ref 181)] [] := by
  intro d
  induction d with
  | zero =>
    intro σ h
    exact nomatch (show (none : Option (Int32 × RS9)) = some r from h)
  | succ d ih =>
    intro σ h
    have h : (if (σ.1 10) ≤ (σ.1 11) then mX9_here_b38 σ else rCk (rIn (σ.1 11) (rLen 8)) ((if (rGa σ 8 (σ.1 11)) = (32 : Int32) then mX9_here_l0 d (rSf σ 11 ((σ.1 11) + (1 : Int32))) else mX9_here_b38 σ))) = some r := h
    refine aw_ald_n C dX9_here_0 rfl ?_
    refine aw_get C (v := .int (σ.1 11)) gf_X9_340 (hm_M f σ) rfl dX9_here_1 ?_
    refine aw_ald_n C dX9_here_4 rfl ?_
    refine aw_get C (v := .int (σ.1 10)) gf_X9_343 (hm_M f σ) rfl dX9_here_5 ?_
    refine aw_icmp_ge C 38 dX9_here_8 (by decide) (fun q => ?_) (fun q => ?_)
    · rw [if_pos q] at h
      refine aw_fl [some (.ref 181)] ⟨rfl, trivial⟩ ?_
      exact rmX9_here_b38 C h
    · rw [if_neg q] at h
      refine aw_ald_n C dX9_here_11 rfl ?_
      refine aw_get C (v := .ref (rAid 8)) gf_X9_23 (hm_M f σ) rfl dX9_here_12 ?_
      refine aw_ald_n C dX9_here_15 rfl ?_
      refine aw_get C (v := .int (σ.1 11)) gf_X9_340 (hm_M f σ) rfl dX9_here_16 ?_
      obtain ⟨hb1, h⟩ := ck_some h
      refine am_iald C (rGa σ 8 (σ.1 11)) rfl (inb_vp hb1) rfl dX9_here_19 ?_
      refine aw_bipush C 32 dX9_here_20 kb_32 ?_
      refine aw_icmp_ne C 38 dX9_here_22 (by decide) (fun q => ?_) (fun q => ?_)
      · rw [if_neg q] at h
        refine aw_fl [some (.ref 181)] ⟨rfl, trivial⟩ ?_
        exact rmX9_here_b38 C h
      · rw [if_pos q] at h
        refine aw_ald_n C dX9_here_25 rfl ?_
        refine aw_dup C dX9_here_26 rfl ?_
        refine aw_get C (v := .int (σ.1 11)) gf_X9_340 (hm_M f σ) rfl dX9_here_27 ?_
        refine aw_iconst C 1 dX9_here_30 ki_1 ?_
        refine aw_iadd C dX9_here_31 ?_
        refine am_put C gf_X9_340 nf9_11 rfl rfl dX9_here_32 ?_
        refine aw_goto C 0 dX9_here_35 (by decide) ?_
        refine aw_fl [some (.ref 181)] ⟨rfl, trivial⟩ ?_
        exact ih (rSf σ 11 ((σ.1 11) + (1 : Int32))) h
def mX9_here (σ : RS9) : Option (Int32 × RS9) := mX9_here_l0 rFU σ
set_option maxHeartbeats 1000000 in
theorem rmX9_here {X : GX} {l : Launch} {f : AH} {n : Nat} {r : Int32 × RS9} {σ : RS9} (h : mX9_here σ = some r) : AM X l yX9_here cX9_here 1 (some .int) 0 0 0 [.ref 181] (rHm f σ) n (QMi f n r) := by
  have h : mX9_here_l0 rFU σ = some r := h
  refine AM.of (by decide +kernel) rfl (Nat.le_of_ble_eq_true rfl) (fun p e s m args below meth c C _ => ?_)
  refine aw_nl [some (.ref 181)] rfl ?_
  refine aw_fl [some (.ref 181)] ⟨rfl, trivial⟩ ?_
  exact rmX9_here_l0 C rFU σ h
def mX9_wrong_b13 (σ : RS9) : Option (Int32 × RS9) := some ((0 : Int32), σ)
set_option maxHeartbeats 1000000 in
theorem rmX9_wrong_b13 {X : GX} {p : Program} {l : Launch} {e : Env} {s : State} {m : MethodId} {args : Array Value} {below : List Frame} {meth : Method} {c : Code} {f : AH} {n : Nat} {r : Int32 × RS9} {σ : RS9} (C : CC X p l (RM 0 0 0) s m args meth c RX9 cX9_wrong 2 none) (h : mX9_wrong_b13 σ = some r) : AW X p l e (RM 0 0 0) s m args below meth c 2 (ZM X below args s 0 0 (QMv f n r)) (rHm f σ) n 0 0 13 [none, none] [] := by
  have h : some ((0 : Int32), σ) = some r := h
  cases h
  exact aw_vret C rfl dX9_wrong_13 (Nat.le_refl _) (Nat.le_refl _) ⟨rfl, rfl, rfl⟩
def mX9_wrong (v1 : Int32) (σ : RS9) : Option (Int32 × RS9) := (if (σ.1 12) = (-1 : Int32) then mX9_wrong_b13 (rSf σ 12 v1) else mX9_wrong_b13 σ)
set_option maxHeartbeats 1000000 in
theorem rmX9_wrong {X : GX} {l : Launch} {f : AH} {n : Nat} {r : Int32 × RS9} {v1 : Int32} {σ : RS9} (h : mX9_wrong v1 σ = some r) : AM X l yX9_wrong cX9_wrong 2 none 0 0 0 [.ref 181, .int v1] (rHm f σ) n (QMv f n r) := by
  have h : (if (σ.1 12) = (-1 : Int32) then mX9_wrong_b13 (rSf σ 12 v1) else mX9_wrong_b13 σ) = some r := h
  refine AM.of (by decide +kernel) rfl (Nat.le_of_ble_eq_true rfl) (fun p e s m args below meth c C _ => ?_)
  refine aw_nl [some (.ref 181), some (.int v1)] rfl ?_
  refine aw_ald_n C dX9_wrong_0 rfl ?_
  refine aw_get C (v := .int (σ.1 12)) gf_X9_26 (hm_M f σ) rfl dX9_wrong_1 ?_
  refine aw_iconst C (-1) dX9_wrong_4 ki_m1 ?_
  refine aw_icmp_ne C 13 dX9_wrong_5 (by decide) (fun q => ?_) (fun q => ?_)
  · rw [if_neg q] at h
    refine aw_fl [none, none] trivial ?_
    exact rmX9_wrong_b13 C h
  · rw [if_pos q] at h
    refine aw_ald_n C dX9_wrong_8 rfl ?_
    refine aw_iload_n C dX9_wrong_9 rfl ?_
    refine am_put C gf_X9_26 nf9_12 rfl rfl dX9_wrong_10 ?_
    refine aw_fl [none, none] trivial ?_
    exact rmX9_wrong_b13 C h
def mX9_wordEnd_b35 (v1 : Int32) (σ : RS9) : Option (Int32 × RS9) := some (v1, σ)
set_option maxHeartbeats 1000000 in
theorem rmX9_wordEnd_b35 {X : GX} {p : Program} {l : Launch} {e : Env} {s : State} {m : MethodId} {args : Array Value} {below : List Frame} {meth : Method} {c : Code} {f : AH} {n : Nat} {r : Int32 × RS9} {v1 : Int32} {σ : RS9} (C : CC X p l (RM 1 0 0) s m args meth c RX9 cX9_wordEnd 2 (some .int)) (h : mX9_wordEnd_b35 v1 σ = some r) : AW X p l e (RM 1 0 0) s m args below meth c 2 (ZM X below args s 0 0 (QMi f n r)) (rHm f σ) n 0 0 35 [none, some (.int v1)] [] := by
  have h : some (v1, σ) = some r := h
  refine aw_iload_n C dX9_wordEnd_35 rfl ?_
  cases h
  exact aw_iret C rfl rfl dX9_wordEnd_36 (Nat.le_refl _) (Nat.le_refl _) ⟨rfl, rfl, rfl⟩
def mX9_wordEnd_l5 : Nat → Int32 → RS9 → Option (Int32 × RS9)
  | 0, _, _ => none
  | d + 1, v1, σ => (if (σ.1 10) ≤ v1 then mX9_wordEnd_b35 v1 σ else rCk (rIn v1 (rLen 8)) (((mX9_isIn (rGa σ 8 v1) (97 : Int32) (122 : Int32) σ).bind fun r2 => (if r2.1 = (0 : Int32) then mX9_wordEnd_b35 v1 r2.2 else mX9_wordEnd_l5 d (v1 + (1 : Int32)) r2.2))))
set_option maxHeartbeats 1000000 in
theorem rmX9_wordEnd_l5 {X : GX} {p : Program} {l : Launch} {e : Env} {s : State} {m : MethodId} {args : Array Value} {below : List Frame} {meth : Method} {c : Code} {f : AH} {n : Nat} {r : Int32 × RS9} (C : CC X p l (RM 1 0 0) s m args meth c RX9 cX9_wordEnd 2 (some .int)) : ∀ (d : Nat) (v1 : Int32) (σ : RS9) (_ : mX9_wordEnd_l5 d v1 σ = some r), AW X p l e (RM 1 0 0) s m args below meth c 2 (ZM X below args s 0 0 (QMi f n r)) (rHm f σ) n 0 0 5 [some (.ref 181), some (.int v1)] [] := by
  intro d
  induction d with
  | zero =>
    intro v1 σ h
    exact nomatch (show (none : Option (Int32 × RS9)) = some r from h)
  | succ d ih =>
    intro v1 σ h
    have h : (if (σ.1 10) ≤ v1 then mX9_wordEnd_b35 v1 σ else rCk (rIn v1 (rLen 8)) (((mX9_isIn (rGa σ 8 v1) (97 : Int32) (122 : Int32) σ).bind fun r2 => (if r2.1 = (0 : Int32) then mX9_wordEnd_b35 v1 r2.2 else mX9_wordEnd_l5 d (v1 + (1 : Int32)) r2.2)))) = some r := h
    refine aw_iload_n C dX9_wordEnd_5 rfl ?_
    refine aw_ald_n C dX9_wordEnd_6 rfl ?_
    refine aw_get C (v := .int (σ.1 10)) gf_X9_343 (hm_M f σ) rfl dX9_wordEnd_7 ?_
    refine aw_icmp_ge C 35 dX9_wordEnd_10 (by decide) (fun q => ?_) (fun q => ?_)
    · rw [if_pos q] at h
      refine aw_fl [none, some (.int v1)] ⟨rfl, trivial⟩ ?_
      exact rmX9_wordEnd_b35 C h
    · rw [if_neg q] at h
      refine aw_ald_n C dX9_wordEnd_13 rfl ?_
      refine aw_get C (v := .ref (rAid 8)) gf_X9_23 (hm_M f σ) rfl dX9_wordEnd_14 ?_
      refine aw_iload_n C dX9_wordEnd_17 rfl ?_
      obtain ⟨hb1, h⟩ := ck_some h
      refine am_iald C (rGa σ 8 v1) rfl (inb_vp hb1) rfl dX9_wordEnd_18 ?_
      refine aw_bipush C 97 dX9_wordEnd_19 kb_97 ?_
      refine aw_bipush C 122 dX9_wordEnd_21 kb_122 ?_
      obtain ⟨r2, h2, h⟩ := Option.bind_eq_some_iff.mp h
      refine aw_callS C [.int (rGa σ 8 v1), .int (97 : Int32), .int (122 : Int32)] ms_X9_141 (rmX9_isIn h2) rfl dX9_wordEnd_23 (Nat.le_of_ble_eq_true rfl) (Nat.le_of_ble_eq_true rfl) rfl (Nat.le_of_ble_eq_true rfl) (Nat.le_of_ble_eq_true rfl) (Nat.le_of_ble_eq_true rfl) (fun v9 f9 n9 hh => ?_)
      obtain ⟨rfl, rfl, rfl⟩ := hh
      refine aw_if_eq C 35 dX9_wordEnd_26 (by decide) (fun q => ?_) (fun q => ?_)
      · rw [if_pos q] at h
        refine aw_fl [none, some (.int v1)] ⟨rfl, trivial⟩ ?_
        exact rmX9_wordEnd_b35 C h
      · rw [if_neg q] at h
        refine aw_iinc C (v1 + (1 : Int32)) dX9_wordEnd_29 rfl (by rw [ki_1]) (by decide) rfl ?_
        refine aw_nl [some (.ref 181), some (.int (v1 + (1 : Int32)))] rfl ?_
        refine aw_goto C 5 dX9_wordEnd_32 (by decide) ?_
        refine aw_fl [some (.ref 181), some (.int (v1 + (1 : Int32)))] ⟨rfl, ⟨rfl, trivial⟩⟩ ?_
        exact ih (v1 + (1 : Int32)) r2.2 h
def mX9_wordEnd (σ : RS9) : Option (Int32 × RS9) := ((mX9_here σ).bind fun r1 => mX9_wordEnd_l5 rFU r1.1 r1.2)
set_option maxHeartbeats 1000000 in
theorem rmX9_wordEnd {X : GX} {l : Launch} {f : AH} {n : Nat} {r : Int32 × RS9} {σ : RS9} (h : mX9_wordEnd σ = some r) : AM X l yX9_wordEnd cX9_wordEnd 2 (some .int) 1 0 0 [.ref 181] (rHm f σ) n (QMi f n r) := by
  have h : ((mX9_here σ).bind fun r1 => mX9_wordEnd_l5 rFU r1.1 r1.2) = some r := h
  refine AM.of (by decide +kernel) rfl (Nat.le_of_ble_eq_true rfl) (fun p e s m args below meth c C _ => ?_)
  refine aw_nl [some (.ref 181), none] rfl ?_
  refine aw_ald_n C dX9_wordEnd_0 rfl ?_
  obtain ⟨r1, h1, h⟩ := Option.bind_eq_some_iff.mp h
  refine aw_callV C (ci := 9) (b := 181) [] mv_X9_346 rfl rfl (hm_M f σ) (rmX9_here h1) rfl dX9_wordEnd_1 (Nat.le_of_ble_eq_true rfl) (Nat.le_of_ble_eq_true rfl) rfl (Nat.le_of_ble_eq_true rfl) (Nat.le_of_ble_eq_true rfl) (Nat.le_of_ble_eq_true rfl) (fun v9 f9 n9 hh => ?_)
  obtain ⟨rfl, rfl, rfl⟩ := hh
  refine aw_istore_n C dX9_wordEnd_4 (by decide) rfl ?_
  refine aw_nl [some (.ref 181), some (.int r1.1)] rfl ?_
  refine aw_fl [some (.ref 181), some (.int r1.1)] ⟨rfl, ⟨rfl, trivial⟩⟩ ?_
  exact rmX9_wordEnd_l5 C rFU r1.1 r1.2 h
def mX9_number_b126 (v4 : Int32) (σ : RS9) : Option (Int32 × RS9) := some (v4, σ)
set_option maxHeartbeats 1000000 in
theorem rmX9_number_b126 {X : GX} {p : Program} {l : Launch} {e : Env} {s : State} {m : MethodId} {args : Array Value} {below : List Frame} {meth : Method} {c : Code} {f : AH} {n : Nat} {r : Int32 × RS9} {v4 : Int32} {σ : RS9} (C : CC X p l (RM 1 0 0) s m args meth c RX9 cX9_number 5 (some .int)) (h : mX9_number_b126 v4 σ = some r) : AW X p l e (RM 1 0 0) s m args below meth c 5 (ZM X below args s 0 0 (QMi f n r)) (rHm f σ) n 0 0 126 [none, none, none, none, some (.int v4)] [] := by
  have h : some (v4, σ) = some r := h
  refine aw_iload C dX9_number_126 rfl ?_
  cases h
  exact aw_iret C rfl rfl dX9_number_128 (Nat.le_refl _) (Nat.le_refl _) ⟨rfl, rfl, rfl⟩
def mX9_number_b121 (v3 : Int32) (v4 : Int32) (σ : RS9) : Option (Int32 × RS9) := ((mX9_wrong v3 σ).bind fun r1 => mX9_number_b126 v4 r1.2)
set_option maxHeartbeats 1000000 in
theorem rmX9_number_b121 {X : GX} {p : Program} {l : Launch} {e : Env} {s : State} {m : MethodId} {args : Array Value} {below : List Frame} {meth : Method} {c : Code} {f : AH} {n : Nat} {r : Int32 × RS9} {v3 : Int32} {v4 : Int32} {σ : RS9} (C : CC X p l (RM 1 0 0) s m args meth c RX9 cX9_number 5 (some .int)) (h : mX9_number_b121 v3 v4 σ = some r) : AW X p l e (RM 1 0 0) s m args below meth c 5 (ZM X below args s 0 0 (QMi f n r)) (rHm f σ) n 0 0 121 [some (.ref 181), none, none, some (.int v3), some (.int v4)] [] := by
  have h : ((mX9_wrong v3 σ).bind fun r1 => mX9_number_b126 v4 r1.2) = some r := h
  refine aw_ald_n C dX9_number_121 rfl ?_
  refine aw_iload_n C dX9_number_122 rfl ?_
  obtain ⟨r1, h1, h⟩ := Option.bind_eq_some_iff.mp h
  refine aw_callV C (ci := 9) (b := 181) [.int v3] mv_X9_352 rfl rfl (hm_M f σ) (rmX9_wrong h1) rfl dX9_number_123 (Nat.le_of_ble_eq_true rfl) (Nat.le_of_ble_eq_true rfl) rfl (Nat.le_of_ble_eq_true rfl) (Nat.le_of_ble_eq_true rfl) (Nat.le_of_ble_eq_true rfl) (fun v9 f9 n9 hh => ?_)
  obtain ⟨rfl, rfl, rfl⟩ := hh
  refine aw_fl [none, none, none, none, some (.int v4)] ⟨rfl, trivial⟩ ?_
  exact rmX9_number_b126 C h
def mX9_number_b91 (v1 : Int32) (v2 : Int32) (v3 : Int32) (v4 : Int32) (σ : RS9) : Option (Int32 × RS9) := (if (σ.1 11) = v3 then mX9_number_b121 v3 v4 σ else (if (2 : Int32) < ((σ.1 11) - v3) then mX9_number_b121 v3 v4 σ else (if v4 < v1 then mX9_number_b121 v3 v4 σ else (if v4 ≤ v2 then mX9_number_b126 v4 σ else mX9_number_b121 v3 v4 σ))))
set_option maxHeartbeats 1000000 in
theorem rmX9_number_b91 {X : GX} {p : Program} {l : Launch} {e : Env} {s : State} {m : MethodId} {args : Array Value} {below : List Frame} {meth : Method} {c : Code} {f : AH} {n : Nat} {r : Int32 × RS9} {v1 : Int32} {v2 : Int32} {v3 : Int32} {v4 : Int32} {σ : RS9} (C : CC X p l (RM 1 0 0) s m args meth c RX9 cX9_number 5 (some .int)) (h : mX9_number_b91 v1 v2 v3 v4 σ = some r) : AW X p l e (RM 1 0 0) s m args below meth c 5 (ZM X below args s 0 0 (QMi f n r)) (rHm f σ) n 0 0 91 [some (.ref 181), some (.int v1), some (.int v2), some (.int v3), some (.int v4)] [] := by
  have h : (if (σ.1 11) = v3 then mX9_number_b121 v3 v4 σ else (if (2 : Int32) < ((σ.1 11) - v3) then mX9_number_b121 v3 v4 σ else (if v4 < v1 then mX9_number_b121 v3 v4 σ else (if v4 ≤ v2 then mX9_number_b126 v4 σ else mX9_number_b121 v3 v4 σ)))) = some r := h
  refine aw_ald_n C dX9_number_91 rfl ?_
  refine aw_get C (v := .int (σ.1 11)) gf_X9_340 (hm_M f σ) rfl dX9_number_92 ?_
  refine aw_iload_n C dX9_number_95 rfl ?_
  refine aw_icmp_eq C 121 dX9_number_96 (by decide) (fun q => ?_) (fun q => ?_)
  · rw [if_pos q] at h
    refine aw_fl [some (.ref 181), none, none, some (.int v3), some (.int v4)] ⟨rfl, ⟨rfl, ⟨rfl, trivial⟩⟩⟩ ?_
    exact rmX9_number_b121 C h
  · rw [if_neg q] at h
    refine aw_ald_n C dX9_number_99 rfl ?_
    refine aw_get C (v := .int (σ.1 11)) gf_X9_340 (hm_M f σ) rfl dX9_number_100 ?_
    refine aw_iload_n C dX9_number_103 rfl ?_
    refine aw_isub C dX9_number_104 ?_
    refine aw_iconst C 2 dX9_number_105 ki_2 ?_
    refine aw_icmp_gt C 121 dX9_number_106 (by decide) (fun q => ?_) (fun q => ?_)
    · rw [if_pos q] at h
      refine aw_fl [some (.ref 181), none, none, some (.int v3), some (.int v4)] ⟨rfl, ⟨rfl, ⟨rfl, trivial⟩⟩⟩ ?_
      exact rmX9_number_b121 C h
    · rw [if_neg q] at h
      refine aw_iload C dX9_number_109 rfl ?_
      refine aw_iload_n C dX9_number_111 rfl ?_
      refine aw_icmp_lt C 121 dX9_number_112 (by decide) (fun q => ?_) (fun q => ?_)
      · rw [if_pos q] at h
        refine aw_fl [some (.ref 181), none, none, some (.int v3), some (.int v4)] ⟨rfl, ⟨rfl, ⟨rfl, trivial⟩⟩⟩ ?_
        exact rmX9_number_b121 C h
      · rw [if_neg q] at h
        refine aw_iload C dX9_number_115 rfl ?_
        refine aw_iload_n C dX9_number_117 rfl ?_
        refine aw_icmp_le C 126 dX9_number_118 (by decide) (fun q => ?_) (fun q => ?_)
        · rw [if_pos q] at h
          refine aw_fl [none, none, none, none, some (.int v4)] ⟨rfl, trivial⟩ ?_
          exact rmX9_number_b126 C h
        · rw [if_neg q] at h
          refine aw_fl [some (.ref 181), none, none, some (.int v3), some (.int v4)] ⟨rfl, ⟨rfl, ⟨rfl, trivial⟩⟩⟩ ?_
          exact rmX9_number_b121 C h
def mX9_number_l18 : Nat → Int32 → Int32 → Int32 → Int32 → RS9 → Option (Int32 × RS9)
  | 0, _, _, _, _, _ => none
  | d + 1, v1, v2, v3, v4, σ => (if (σ.1 10) ≤ (σ.1 11) then mX9_number_b91 v1 v2 v3 v4 σ else rCk (rIn (σ.1 11) (rLen 8)) (((mX9_isIn (rGa σ 8 (σ.1 11)) (48 : Int32) (57 : Int32) σ).bind fun r2 => (if r2.1 = (0 : Int32) then mX9_number_b91 v1 v2 v3 v4 r2.2 else (if (2 : Int32) < ((r2.2.1 11) - v3) then mX9_number_b91 v1 v2 v3 v4 r2.2 else rCk (rIn (r2.2.1 11) (rLen 8)) (mX9_number_l18 d v1 v2 v3 ((((10 : Int32) * v4) + (rGa r2.2 8 (r2.2.1 11))) - (48 : Int32)) (rSf r2.2 11 ((r2.2.1 11) + (1 : Int32)))))))))
set_option maxHeartbeats 1000000 in
theorem rmX9_number_l18 {X : GX} {p : Program} {l : Launch} {e : Env} {s : State} {m : MethodId} {args : Array Value} {below : List Frame} {meth : Method} {c : Code} {f : AH} {n : Nat} {r : Int32 × RS9} (C : CC X p l (RM 1 0 0) s m args meth c RX9 cX9_number 5 (some .int)) : ∀ (d : Nat) (v1 : Int32) (v2 : Int32) (v3 : Int32) (v4 : Int32) (σ : RS9) (_ : mX9_number_l18 d v1 v2 v3 v4 σ = some r), AW X p l e (RM 1 0 0) s m args below meth c 5 (ZM X below args s 0 0 (QMi f n r)) (rHm f σ) n 0 0 18 [some (.ref 181), some (.int v1), some (.int v2), some (.int v3), some (.int v4)] [] := by
  intro d
  induction d with
  | zero =>
    intro v1 v2 v3 v4 σ h
    exact nomatch (show (none : Option (Int32 × RS9)) = some r from h)
  | succ d ih =>
    intro v1 v2 v3 v4 σ h
    have h : (if (σ.1 10) ≤ (σ.1 11) then mX9_number_b91 v1 v2 v3 v4 σ else rCk (rIn (σ.1 11) (rLen 8)) (((mX9_isIn (rGa σ 8 (σ.1 11)) (48 : Int32) (57 : Int32) σ).bind fun r2 => (if r2.1 = (0 : Int32) then mX9_number_b91 v1 v2 v3 v4 r2.2 else (if (2 : Int32) < ((r2.2.1 11) - v3) then mX9_number_b91 v1 v2 v3 v4 r2.2 else rCk (rIn (r2.2.1 11) (rLen 8)) (mX9_number_l18 d v1 v2 v3 ((((10 : Int32) * v4) + (rGa r2.2 8 (r2.2.1 11))) - (48 : Int32)) (rSf r2.2 11 ((r2.2.1 11) + (1 : Int32))))))))) = some r := h
    refine aw_ald_n C dX9_number_18 rfl ?_
    refine aw_get C (v := .int (σ.1 11)) gf_X9_340 (hm_M f σ) rfl dX9_number_19 ?_
    refine aw_ald_n C dX9_number_22 rfl ?_
    refine aw_get C (v := .int (σ.1 10)) gf_X9_343 (hm_M f σ) rfl dX9_number_23 ?_
    refine aw_icmp_ge C 91 dX9_number_26 (by decide) (fun q => ?_) (fun q => ?_)
    · rw [if_pos q] at h
      refine aw_fl [some (.ref 181), some (.int v1), some (.int v2), some (.int v3), some (.int v4)] ⟨rfl, ⟨rfl, ⟨rfl, ⟨rfl, ⟨rfl, trivial⟩⟩⟩⟩⟩ ?_
      exact rmX9_number_b91 C h
    · rw [if_neg q] at h
      refine aw_ald_n C dX9_number_29 rfl ?_
      refine aw_get C (v := .ref (rAid 8)) gf_X9_23 (hm_M f σ) rfl dX9_number_30 ?_
      refine aw_ald_n C dX9_number_33 rfl ?_
      refine aw_get C (v := .int (σ.1 11)) gf_X9_340 (hm_M f σ) rfl dX9_number_34 ?_
      obtain ⟨hb1, h⟩ := ck_some h
      refine am_iald C (rGa σ 8 (σ.1 11)) rfl (inb_vp hb1) rfl dX9_number_37 ?_
      refine aw_bipush C 48 dX9_number_38 kb_48 ?_
      refine aw_bipush C 57 dX9_number_40 kb_57 ?_
      obtain ⟨r2, h2, h⟩ := Option.bind_eq_some_iff.mp h
      refine aw_callS C [.int (rGa σ 8 (σ.1 11)), .int (48 : Int32), .int (57 : Int32)] ms_X9_141 (rmX9_isIn h2) rfl dX9_number_42 (Nat.le_of_ble_eq_true rfl) (Nat.le_of_ble_eq_true rfl) rfl (Nat.le_of_ble_eq_true rfl) (Nat.le_of_ble_eq_true rfl) (Nat.le_of_ble_eq_true rfl) (fun v9 f9 n9 hh => ?_)
      obtain ⟨rfl, rfl, rfl⟩ := hh
      refine aw_if_eq C 91 dX9_number_45 (by decide) (fun q => ?_) (fun q => ?_)
      · rw [if_pos q] at h
        refine aw_fl [some (.ref 181), some (.int v1), some (.int v2), some (.int v3), some (.int v4)] ⟨rfl, ⟨rfl, ⟨rfl, ⟨rfl, ⟨rfl, trivial⟩⟩⟩⟩⟩ ?_
        exact rmX9_number_b91 C h
      · rw [if_neg q] at h
        refine aw_ald_n C dX9_number_48 rfl ?_
        refine aw_get C (v := .int (r2.2.1 11)) gf_X9_340 (hm_M f r2.2) rfl dX9_number_49 ?_
        refine aw_iload_n C dX9_number_52 rfl ?_
        refine aw_isub C dX9_number_53 ?_
        refine aw_iconst C 2 dX9_number_54 ki_2 ?_
        refine aw_icmp_gt C 91 dX9_number_55 (by decide) (fun q => ?_) (fun q => ?_)
        · rw [if_pos q] at h
          refine aw_fl [some (.ref 181), some (.int v1), some (.int v2), some (.int v3), some (.int v4)] ⟨rfl, ⟨rfl, ⟨rfl, ⟨rfl, ⟨rfl, trivial⟩⟩⟩⟩⟩ ?_
          exact rmX9_number_b91 C h
        · rw [if_neg q] at h
          refine aw_bipush C 10 dX9_number_58 kb_10 ?_
          refine aw_iload C dX9_number_60 rfl ?_
          refine aw_imul C dX9_number_62 ?_
          refine aw_ald_n C dX9_number_63 rfl ?_
          refine aw_get C (v := .ref (rAid 8)) gf_X9_23 (hm_M f r2.2) rfl dX9_number_64 ?_
          refine aw_ald_n C dX9_number_67 rfl ?_
          refine aw_get C (v := .int (r2.2.1 11)) gf_X9_340 (hm_M f r2.2) rfl dX9_number_68 ?_
          obtain ⟨hb3, h⟩ := ck_some h
          refine am_iald C (rGa r2.2 8 (r2.2.1 11)) rfl (inb_vp hb3) rfl dX9_number_71 ?_
          refine aw_iadd C dX9_number_72 ?_
          refine aw_bipush C 48 dX9_number_73 kb_48 ?_
          refine aw_isub C dX9_number_75 ?_
          refine aw_istore C dX9_number_76 (by decide) rfl ?_
          refine aw_nl [some (.ref 181), some (.int v1), some (.int v2), some (.int v3), some (.int ((((10 : Int32) * v4) + (rGa r2.2 8 (r2.2.1 11))) - (48 : Int32)))] rfl ?_
          refine aw_ald_n C dX9_number_78 rfl ?_
          refine aw_dup C dX9_number_79 rfl ?_
          refine aw_get C (v := .int (r2.2.1 11)) gf_X9_340 (hm_M f r2.2) rfl dX9_number_80 ?_
          refine aw_iconst C 1 dX9_number_83 ki_1 ?_
          refine aw_iadd C dX9_number_84 ?_
          refine am_put C gf_X9_340 nf9_11 rfl rfl dX9_number_85 ?_
          refine aw_goto C 18 dX9_number_88 (by decide) ?_
          refine aw_fl [some (.ref 181), some (.int v1), some (.int v2), some (.int v3), some (.int ((((10 : Int32) * v4) + (rGa r2.2 8 (r2.2.1 11))) - (48 : Int32)))] ⟨rfl, ⟨rfl, ⟨rfl, ⟨rfl, ⟨rfl, trivial⟩⟩⟩⟩⟩ ?_
          exact ih v1 v2 v3 ((((10 : Int32) * v4) + (rGa r2.2 8 (r2.2.1 11))) - (48 : Int32)) (rSf r2.2 11 ((r2.2.1 11) + (1 : Int32))) h
def mX9_number (v1 : Int32) (v2 : Int32) (σ : RS9) : Option (Int32 × RS9) := (if (σ.1 12) = (-1 : Int32) then ((mX9_here σ).bind fun r1 => mX9_number_l18 rFU v1 v2 r1.1 (0 : Int32) r1.2) else some ((0 : Int32), σ))
set_option maxHeartbeats 1000000 in
theorem rmX9_number {X : GX} {l : Launch} {f : AH} {n : Nat} {r : Int32 × RS9} {v1 : Int32} {v2 : Int32} {σ : RS9} (h : mX9_number v1 v2 σ = some r) : AM X l yX9_number cX9_number 5 (some .int) 1 0 0 [.ref 181, .int v1, .int v2] (rHm f σ) n (QMi f n r) := by
  have h : (if (σ.1 12) = (-1 : Int32) then ((mX9_here σ).bind fun r1 => mX9_number_l18 rFU v1 v2 r1.1 (0 : Int32) r1.2) else some ((0 : Int32), σ)) = some r := h
  refine AM.of (by decide +kernel) rfl (Nat.le_of_ble_eq_true rfl) (fun p e s m args below meth c C _ => ?_)
  refine aw_nl [some (.ref 181), some (.int v1), some (.int v2), none, none] rfl ?_
  refine aw_ald_n C dX9_number_0 rfl ?_
  refine aw_get C (v := .int (σ.1 12)) gf_X9_26 (hm_M f σ) rfl dX9_number_1 ?_
  refine aw_iconst C (-1) dX9_number_4 ki_m1 ?_
  refine aw_icmp_eq C 10 dX9_number_5 (by decide) (fun q => ?_) (fun q => ?_)
  · rw [if_pos q] at h
    refine aw_ald_n C dX9_number_10 rfl ?_
    obtain ⟨r1, h1, h⟩ := Option.bind_eq_some_iff.mp h
    refine aw_callV C (ci := 9) (b := 181) [] mv_X9_346 rfl rfl (hm_M f σ) (rmX9_here h1) rfl dX9_number_11 (Nat.le_of_ble_eq_true rfl) (Nat.le_of_ble_eq_true rfl) rfl (Nat.le_of_ble_eq_true rfl) (Nat.le_of_ble_eq_true rfl) (Nat.le_of_ble_eq_true rfl) (fun v9 f9 n9 hh => ?_)
    obtain ⟨rfl, rfl, rfl⟩ := hh
    refine aw_istore_n C dX9_number_14 (by decide) rfl ?_
    refine aw_nl [some (.ref 181), some (.int v1), some (.int v2), some (.int r1.1), none] rfl ?_
    refine aw_iconst C 0 dX9_number_15 ki_0 ?_
    refine aw_istore C dX9_number_16 (by decide) rfl ?_
    refine aw_nl [some (.ref 181), some (.int v1), some (.int v2), some (.int r1.1), some (.int (0 : Int32))] rfl ?_
    refine aw_fl [some (.ref 181), some (.int v1), some (.int v2), some (.int r1.1), some (.int (0 : Int32))] ⟨rfl, ⟨rfl, ⟨rfl, ⟨rfl, ⟨rfl, trivial⟩⟩⟩⟩⟩ ?_
    exact rmX9_number_l18 C rFU v1 v2 r1.1 (0 : Int32) r1.2 h
  · rw [if_neg q] at h
    refine aw_iconst C 0 dX9_number_8 ki_0 ?_
    cases h
    exact aw_iret C rfl rfl dX9_number_9 (Nat.le_refl _) (Nat.le_refl _) ⟨rfl, rfl, rfl⟩
def mX9_endOf_b32 (v5 : Int32) (σ : RS9) : Option (Int32 × RS9) := some (v5, σ)
set_option maxHeartbeats 1000000 in
theorem rmX9_endOf_b32 {X : GX} {p : Program} {l : Launch} {e : Env} {s : State} {m : MethodId} {args : Array Value} {below : List Frame} {meth : Method} {c : Code} {f : AH} {n : Nat} {r : Int32 × RS9} {v5 : Int32} {σ : RS9} (C : CC X p l (RM 0 0 0) s m args meth c RX9 cX9_endOf 6 (some .int)) (h : mX9_endOf_b32 v5 σ = some r) : AW X p l e (RM 0 0 0) s m args below meth c 6 (ZM X below args s 0 0 (QMi f n r)) (rHm f σ) n 0 0 32 [none, none, none, none, none, some (.int v5)] [] := by
  have h : some (v5, σ) = some r := h
  refine aw_iload C dX9_endOf_32 rfl ?_
  cases h
  exact aw_iret C rfl rfl dX9_endOf_34 (Nat.le_refl _) (Nat.le_refl _) ⟨rfl, rfl, rfl⟩
def mX9_endOf_l3 : Nat → Nat → Int32 → Int32 → Int32 → Int32 → RS9 → Option (Int32 × RS9)
  | 0, _, _, _, _, _, _ => none
  | d + 1, v0, v1, v3, v4, v5, σ => (if v1 ≤ v5 then mX9_endOf_b32 v5 σ else rCk (rIn v5 (rLen v0)) ((if (rGa σ v0 v5) = v3 then mX9_endOf_b32 v5 σ else rCk (rIn v5 (rLen v0)) ((if (rGa σ v0 v5) = v4 then mX9_endOf_b32 v5 σ else mX9_endOf_l3 d v0 v1 v3 v4 (v5 + (1 : Int32)) σ)))))
set_option maxHeartbeats 1000000 in
theorem rmX9_endOf_l3 {X : GX} {p : Program} {l : Launch} {e : Env} {s : State} {m : MethodId} {args : Array Value} {below : List Frame} {meth : Method} {c : Code} {f : AH} {n : Nat} {r : Int32 × RS9} (C : CC X p l (RM 0 0 0) s m args meth c RX9 cX9_endOf 6 (some .int)) : ∀ (d : Nat) (v0 : Nat) (v1 : Int32) (v3 : Int32) (v4 : Int32) (v5 : Int32) (σ : RS9) (_ : rIsA v0 = true) (_ : mX9_endOf_l3 d v0 v1 v3 v4 v5 σ = some r), AW X p l e (RM 0 0 0) s m args below meth c 6 (ZM X below args s 0 0 (QMi f n r)) (rHm f σ) n 0 0 3 [some (.ref (rAid v0)), some (.int v1), none, some (.int v3), some (.int v4), some (.int v5)] [] := by
  intro d
  induction d with
  | zero =>
    intro v0 v1 v3 v4 v5 σ ia0 h
    exact nomatch (show (none : Option (Int32 × RS9)) = some r from h)
  | succ d ih =>
    intro v0 v1 v3 v4 v5 σ ia0 h
    have h : (if v1 ≤ v5 then mX9_endOf_b32 v5 σ else rCk (rIn v5 (rLen v0)) ((if (rGa σ v0 v5) = v3 then mX9_endOf_b32 v5 σ else rCk (rIn v5 (rLen v0)) ((if (rGa σ v0 v5) = v4 then mX9_endOf_b32 v5 σ else mX9_endOf_l3 d v0 v1 v3 v4 (v5 + (1 : Int32)) σ))))) = some r := h
    refine aw_iload C dX9_endOf_3 rfl ?_
    refine aw_iload_n C dX9_endOf_5 rfl ?_
    refine aw_icmp_ge C 32 dX9_endOf_6 (by decide) (fun q => ?_) (fun q => ?_)
    · rw [if_pos q] at h
      refine aw_fl [none, none, none, none, none, some (.int v5)] ⟨rfl, trivial⟩ ?_
      exact rmX9_endOf_b32 C h
    · rw [if_neg q] at h
      refine aw_ald_n C dX9_endOf_9 rfl ?_
      refine aw_iload C dX9_endOf_10 rfl ?_
      obtain ⟨hb1, h⟩ := ck_some h
      refine am_iald C (rGa σ v0 v5) ia0 (inb_vp hb1) rfl dX9_endOf_12 ?_
      refine aw_iload_n C dX9_endOf_13 rfl ?_
      refine aw_icmp_eq C 32 dX9_endOf_14 (by decide) (fun q => ?_) (fun q => ?_)
      · rw [if_pos q] at h
        refine aw_fl [none, none, none, none, none, some (.int v5)] ⟨rfl, trivial⟩ ?_
        exact rmX9_endOf_b32 C h
      · rw [if_neg q] at h
        refine aw_ald_n C dX9_endOf_17 rfl ?_
        refine aw_iload C dX9_endOf_18 rfl ?_
        obtain ⟨hb2, h⟩ := ck_some h
        refine am_iald C (rGa σ v0 v5) ia0 (inb_vp hb2) rfl dX9_endOf_20 ?_
        refine aw_iload C dX9_endOf_21 rfl ?_
        refine aw_icmp_eq C 32 dX9_endOf_23 (by decide) (fun q => ?_) (fun q => ?_)
        · rw [if_pos q] at h
          refine aw_fl [none, none, none, none, none, some (.int v5)] ⟨rfl, trivial⟩ ?_
          exact rmX9_endOf_b32 C h
        · rw [if_neg q] at h
          refine aw_iinc C (v5 + (1 : Int32)) dX9_endOf_26 rfl (by rw [ki_1]) (by decide) rfl ?_
          refine aw_nl [some (.ref (rAid v0)), some (.int v1), none, some (.int v3), some (.int v4), some (.int (v5 + (1 : Int32)))] rfl ?_
          refine aw_goto C 3 dX9_endOf_29 (by decide) ?_
          refine aw_fl [some (.ref (rAid v0)), some (.int v1), none, some (.int v3), some (.int v4), some (.int (v5 + (1 : Int32)))] ⟨rfl, ⟨rfl, ⟨rfl, ⟨rfl, ⟨rfl, trivial⟩⟩⟩⟩⟩ ?_
          exact ih v0 v1 v3 v4 (v5 + (1 : Int32)) σ ia0 h
def mX9_endOf (v0 : Nat) (v1 : Int32) (v2 : Int32) (v3 : Int32) (v4 : Int32) (σ : RS9) : Option (Int32 × RS9) := mX9_endOf_l3 rFU v0 v1 v3 v4 v2 σ
set_option maxHeartbeats 1000000 in
theorem rmX9_endOf {X : GX} {l : Launch} {f : AH} {n : Nat} {r : Int32 × RS9} {v0 : Nat} {v1 : Int32} {v2 : Int32} {v3 : Int32} {v4 : Int32} {σ : RS9} (ia0 : rIsA v0 = true) (h : mX9_endOf v0 v1 v2 v3 v4 σ = some r) : AM X l yX9_endOf cX9_endOf 6 (some .int) 0 0 0 [.ref (rAid v0), .int v1, .int v2, .int v3, .int v4] (rHm f σ) n (QMi f n r) := by
  have h : mX9_endOf_l3 rFU v0 v1 v3 v4 v2 σ = some r := h
  refine AM.of (by decide +kernel) rfl (Nat.le_of_ble_eq_true rfl) (fun p e s m args below meth c C _ => ?_)
  refine aw_nl [some (.ref (rAid v0)), some (.int v1), some (.int v2), some (.int v3), some (.int v4), none] rfl ?_
  refine aw_iload_n C dX9_endOf_0 rfl ?_
  refine aw_istore C dX9_endOf_1 (by decide) rfl ?_
  refine aw_nl [some (.ref (rAid v0)), some (.int v1), some (.int v2), some (.int v3), some (.int v4), some (.int v2)] rfl ?_
  refine aw_fl [some (.ref (rAid v0)), some (.int v1), none, some (.int v3), some (.int v4), some (.int v2)] ⟨rfl, ⟨rfl, ⟨rfl, ⟨rfl, ⟨rfl, trivial⟩⟩⟩⟩⟩ ?_
  exact rmX9_endOf_l3 C rFU v0 v1 v3 v4 v2 σ ia0 h
def mX9_finds_b39 (s0 : Nat) (s1 : Int32) (s2 : Int32) (σ : RS9) : Option (Int32 × RS9) := rCk (rIn s1 (rLen s0)) (some ((0 : Int32), (rSf (rSa σ s0 s1 s2) 54 ((σ.1 54) + (1 : Int32)))))
set_option maxHeartbeats 1000000 in
theorem rmX9_finds_b39 {X : GX} {p : Program} {l : Launch} {e : Env} {s : State} {m : MethodId} {args : Array Value} {below : List Frame} {meth : Method} {c : Code} {f : AH} {n : Nat} {r : Int32 × RS9} {s0 : Nat} {s1 : Int32} {s2 : Int32} {σ : RS9} (C : CC X p l (RM 0 0 0) s m args meth c RX9 cX9_finds 7 none) (ias0 : rIsA s0 = true) (h : mX9_finds_b39 s0 s1 s2 σ = some r) : AW X p l e (RM 0 0 0) s m args below meth c 7 (ZM X below args s 0 0 (QMv f n r)) (rHm f σ) n 0 0 39 [some (.ref 181), none, none, none, none, none, none] [.int s2, .int s1, .ref (rAid s0)] := by
  have h : rCk (rIn s1 (rLen s0)) (some ((0 : Int32), (rSf (rSa σ s0 s1 s2) 54 ((σ.1 54) + (1 : Int32))))) = some r := h
  obtain ⟨hb1, h⟩ := ck_some h
  refine am_iast C ias0 (inb_vp hb1) dX9_finds_39 ?_
  refine aw_ald_n C dX9_finds_40 rfl ?_
  refine aw_dup C dX9_finds_41 rfl ?_
  refine aw_get C (v := .int (σ.1 54)) gf_X9_145 (hm_M f (rSa σ s0 s1 s2)) rfl dX9_finds_42 ?_
  refine aw_iconst C 1 dX9_finds_45 ki_1 ?_
  refine aw_iadd C dX9_finds_46 ?_
  refine am_put C gf_X9_145 nf9_54 rfl rfl dX9_finds_47 ?_
  cases h
  exact aw_vret C rfl dX9_finds_50 (Nat.le_refl _) (Nat.le_refl _) ⟨rfl, rfl, rfl⟩
def mX9_finds (v1 : Nat) (v2 : Nat) (v3 : Nat) (v4 : Int32) (v5 : Int32) (v6 : Int32) (σ : RS9) : Option (Int32 × RS9) := (if v4 < v5 then rCk (rIn (σ.1 54) (rLen v1)) (rCk (rIn (σ.1 54) (rLen v2)) ((if v6 = (0 : Int32) then mX9_finds_b39 v3 (σ.1 54) (0 : Int32) (rSa (rSa σ v1 (σ.1 54) v4) v2 (σ.1 54) v5) else mX9_finds_b39 v3 (σ.1 54) (1 : Int32) (rSa (rSa σ v1 (σ.1 54) v4) v2 (σ.1 54) v5)))) else some ((0 : Int32), σ))
set_option maxHeartbeats 1000000 in
theorem rmX9_finds {X : GX} {l : Launch} {f : AH} {n : Nat} {r : Int32 × RS9} {v1 : Nat} {v2 : Nat} {v3 : Nat} {v4 : Int32} {v5 : Int32} {v6 : Int32} {σ : RS9} (ia1 : rIsA v1 = true) (ia2 : rIsA v2 = true) (ia3 : rIsA v3 = true) (h : mX9_finds v1 v2 v3 v4 v5 v6 σ = some r) : AM X l yX9_finds cX9_finds 7 none 0 0 0 [.ref 181, .ref (rAid v1), .ref (rAid v2), .ref (rAid v3), .int v4, .int v5, .int v6] (rHm f σ) n (QMv f n r) := by
  have h : (if v4 < v5 then rCk (rIn (σ.1 54) (rLen v1)) (rCk (rIn (σ.1 54) (rLen v2)) ((if v6 = (0 : Int32) then mX9_finds_b39 v3 (σ.1 54) (0 : Int32) (rSa (rSa σ v1 (σ.1 54) v4) v2 (σ.1 54) v5) else mX9_finds_b39 v3 (σ.1 54) (1 : Int32) (rSa (rSa σ v1 (σ.1 54) v4) v2 (σ.1 54) v5)))) else some ((0 : Int32), σ)) = some r := h
  refine AM.of (by decide +kernel) rfl (Nat.le_of_ble_eq_true rfl) (fun p e s m args below meth c C _ => ?_)
  refine aw_nl [some (.ref 181), some (.ref (rAid v1)), some (.ref (rAid v2)), some (.ref (rAid v3)), some (.int v4), some (.int v5), some (.int v6)] rfl ?_
  refine aw_iload C dX9_finds_0 rfl ?_
  refine aw_iload C dX9_finds_2 rfl ?_
  refine aw_icmp_lt C 8 dX9_finds_4 (by decide) (fun q => ?_) (fun q => ?_)
  · rw [if_pos q] at h
    refine aw_ald_n C dX9_finds_8 rfl ?_
    refine aw_ald_n C dX9_finds_9 rfl ?_
    refine aw_get C (v := .int (σ.1 54)) gf_X9_145 (hm_M f σ) rfl dX9_finds_10 ?_
    refine aw_iload C dX9_finds_13 rfl ?_
    obtain ⟨hb1, h⟩ := ck_some h
    refine am_iast C ia1 (inb_vp hb1) dX9_finds_15 ?_
    refine aw_ald_n C dX9_finds_16 rfl ?_
    refine aw_ald_n C dX9_finds_17 rfl ?_
    refine aw_get C (v := .int (σ.1 54)) gf_X9_145 (hm_M f (rSa σ v1 (σ.1 54) v4)) rfl dX9_finds_18 ?_
    refine aw_iload C dX9_finds_21 rfl ?_
    obtain ⟨hb2, h⟩ := ck_some h
    refine am_iast C ia2 (inb_vp hb2) dX9_finds_23 ?_
    refine aw_ald_n C dX9_finds_24 rfl ?_
    refine aw_ald_n C dX9_finds_25 rfl ?_
    refine aw_get C (v := .int (σ.1 54)) gf_X9_145 (hm_M f (rSa (rSa σ v1 (σ.1 54) v4) v2 (σ.1 54) v5)) rfl dX9_finds_26 ?_
    refine aw_iload C dX9_finds_29 rfl ?_
    refine aw_if_eq C 38 dX9_finds_31 (by decide) (fun q => ?_) (fun q => ?_)
    · rw [if_pos q] at h
      refine aw_iconst C 0 dX9_finds_38 ki_0 ?_
      refine aw_fl [some (.ref 181), none, none, none, none, none, none] ⟨rfl, trivial⟩ ?_
      exact rmX9_finds_b39 C ia3 h
    · rw [if_neg q] at h
      refine aw_iconst C 1 dX9_finds_34 ki_1 ?_
      refine aw_goto C 39 dX9_finds_35 (by decide) ?_
      refine aw_fl [some (.ref 181), none, none, none, none, none, none] ⟨rfl, trivial⟩ ?_
      exact rmX9_finds_b39 C ia3 h
  · rw [if_neg q] at h
    cases h
    exact aw_vret C rfl dX9_finds_7 (Nat.le_refl _) (Nat.le_refl _) ⟨rfl, rfl, rfl⟩
end
/-! part 22ab.ref -/
section
def mX9_cutsLines_b199 (rec3 : Nat → Int32 → Nat → Nat → Nat → Int32 → RS9 → Option (Int32 × RS9)) (v1 : Nat) (v2 : Int32) (v3 : Nat) (v4 : Nat) (v5 : Nat) (v7 : Int32) (σ : RS9) : Option (Int32 × RS9) := rec3 v1 v2 v3 v4 v5 (v7 + (1 : Int32)) σ
set_option maxHeartbeats 1000000 in
theorem rmX9_cutsLines_b199 {X : GX} {p : Program} {l : Launch} {e : Env} {s : State} {m : MethodId} {args : Array Value} {below : List Frame} {meth : Method} {c : Code} {f : AH} {n : Nat} {r : Int32 × RS9} {rec3 : Nat → Int32 → Nat → Nat → Nat → Int32 → RS9 → Option (Int32 × RS9)} {v1 : Nat} {v2 : Int32} {v3 : Nat} {v4 : Nat} {v5 : Nat} {v7 : Int32} {σ : RS9} (C : CC X p l (RM 1 0 0) s m args meth c RX9 cX9_cutsLines 13 none) (Hr3 : ∀ (v1 : Nat) (v2 : Int32) (v3 : Nat) (v4 : Nat) (v5 : Nat) (v6 : Int32) (σ : RS9), rIsA v1 = true → rIsA v3 = true → rIsA v4 = true → rIsA v5 = true → rec3 v1 v2 v3 v4 v5 v6 σ = some r → AW X p l e (RM 1 0 0) s m args below meth c 13 (ZM X below args s 0 0 (QMv f n r)) (rHm f σ) n 0 0 3 [some (.ref 181), some (.ref (rAid v1)), some (.int v2), some (.ref (rAid v3)), some (.ref (rAid v4)), some (.ref (rAid v5)), some (.int v6), none, none, none, none, none, none] []) (ia1 : rIsA v1 = true) (ia3 : rIsA v3 = true) (ia4 : rIsA v4 = true) (ia5 : rIsA v5 = true) (h : mX9_cutsLines_b199 rec3 v1 v2 v3 v4 v5 v7 σ = some r) : AW X p l e (RM 1 0 0) s m args below meth c 13 (ZM X below args s 0 0 (QMv f n r)) (rHm f σ) n 0 0 199 [some (.ref 181), some (.ref (rAid v1)), some (.int v2), some (.ref (rAid v3)), some (.ref (rAid v4)), some (.ref (rAid v5)), none, some (.int v7), none, none, none, none, none] [] := by
  have h : rec3 v1 v2 v3 v4 v5 (v7 + (1 : Int32)) σ = some r := h
  refine aw_iload C dX9_cutsLines_199 rfl ?_
  refine aw_iconst C 1 dX9_cutsLines_201 ki_1 ?_
  refine aw_iadd C dX9_cutsLines_202 ?_
  refine aw_istore C dX9_cutsLines_203 (by decide) rfl ?_
  refine aw_nl [some (.ref 181), some (.ref (rAid v1)), some (.int v2), some (.ref (rAid v3)), some (.ref (rAid v4)), some (.ref (rAid v5)), some (.int (v7 + (1 : Int32))), some (.int v7), none, none, none, none, none] rfl ?_
  refine aw_goto C 3 dX9_cutsLines_205 (by decide) ?_
  refine aw_fl [some (.ref 181), some (.ref (rAid v1)), some (.int v2), some (.ref (rAid v3)), some (.ref (rAid v4)), some (.ref (rAid v5)), some (.int (v7 + (1 : Int32))), none, none, none, none, none, none] ⟨rfl, ⟨rfl, ⟨rfl, ⟨rfl, ⟨rfl, ⟨rfl, ⟨rfl, trivial⟩⟩⟩⟩⟩⟩⟩ ?_
  exact Hr3 v1 v2 v3 v4 v5 (v7 + (1 : Int32)) σ ia1 ia3 ia4 ia5 h
def mX9_cutsLines_b161 (rec3 : Nat → Int32 → Nat → Nat → Nat → Int32 → RS9 → Option (Int32 × RS9)) (v1 : Nat) (v2 : Int32) (v3 : Nat) (v4 : Nat) (v5 : Nat) (v7 : Int32) (v8 : Int32) (v11 : Int32) (v12 : Int32) (σ : RS9) : Option (Int32 × RS9) := (if (σ.1 54) ≤ v11 then mX9_cutsLines_b199 rec3 v1 v2 v3 v4 v5 v7 σ else (if v3 = 17 then rCk (rIn v11 (rLen 20)) (rCk (rIn v11 (rLen 21)) (mX9_cutsLines_b199 rec3 v1 v2 v3 v4 v5 v7 (rSa (rSa σ 20 v11 v8) 21 v11 (v12 - v8)))) else mX9_cutsLines_b199 rec3 v1 v2 v3 v4 v5 v7 σ))
set_option maxHeartbeats 1000000 in
theorem rmX9_cutsLines_b161 {X : GX} {p : Program} {l : Launch} {e : Env} {s : State} {m : MethodId} {args : Array Value} {below : List Frame} {meth : Method} {c : Code} {f : AH} {n : Nat} {r : Int32 × RS9} {rec3 : Nat → Int32 → Nat → Nat → Nat → Int32 → RS9 → Option (Int32 × RS9)} {v1 : Nat} {v2 : Int32} {v3 : Nat} {v4 : Nat} {v5 : Nat} {v7 : Int32} {v8 : Int32} {v11 : Int32} {v12 : Int32} {σ : RS9} (C : CC X p l (RM 1 0 0) s m args meth c RX9 cX9_cutsLines 13 none) (Hr3 : ∀ (v1 : Nat) (v2 : Int32) (v3 : Nat) (v4 : Nat) (v5 : Nat) (v6 : Int32) (σ : RS9), rIsA v1 = true → rIsA v3 = true → rIsA v4 = true → rIsA v5 = true → rec3 v1 v2 v3 v4 v5 v6 σ = some r → AW X p l e (RM 1 0 0) s m args below meth c 13 (ZM X below args s 0 0 (QMv f n r)) (rHm f σ) n 0 0 3 [some (.ref 181), some (.ref (rAid v1)), some (.int v2), some (.ref (rAid v3)), some (.ref (rAid v4)), some (.ref (rAid v5)), some (.int v6), none, none, none, none, none, none] []) (ia1 : rIsA v1 = true) (ia3 : rIsA v3 = true) (ia4 : rIsA v4 = true) (ia5 : rIsA v5 = true) (h : mX9_cutsLines_b161 rec3 v1 v2 v3 v4 v5 v7 v8 v11 v12 σ = some r) : AW X p l e (RM 1 0 0) s m args below meth c 13 (ZM X below args s 0 0 (QMv f n r)) (rHm f σ) n 0 0 161 [some (.ref 181), some (.ref (rAid v1)), some (.int v2), some (.ref (rAid v3)), some (.ref (rAid v4)), some (.ref (rAid v5)), none, some (.int v7), some (.int v8), none, none, some (.int v11), some (.int v12)] [] := by
  have h : (if (σ.1 54) ≤ v11 then mX9_cutsLines_b199 rec3 v1 v2 v3 v4 v5 v7 σ else (if v3 = 17 then rCk (rIn v11 (rLen 20)) (rCk (rIn v11 (rLen 21)) (mX9_cutsLines_b199 rec3 v1 v2 v3 v4 v5 v7 (rSa (rSa σ 20 v11 v8) 21 v11 (v12 - v8)))) else mX9_cutsLines_b199 rec3 v1 v2 v3 v4 v5 v7 σ)) = some r := h
  refine aw_ald_n C dX9_cutsLines_161 rfl ?_
  refine aw_get C (v := .int (σ.1 54)) gf_X9_145 (hm_M f σ) rfl dX9_cutsLines_162 ?_
  refine aw_iload C dX9_cutsLines_165 rfl ?_
  refine aw_icmp_le C 199 dX9_cutsLines_167 (by decide) (fun q => ?_) (fun q => ?_)
  · rw [if_pos q] at h
    refine aw_fl [some (.ref 181), some (.ref (rAid v1)), some (.int v2), some (.ref (rAid v3)), some (.ref (rAid v4)), some (.ref (rAid v5)), none, some (.int v7), none, none, none, none, none] ⟨rfl, ⟨rfl, ⟨rfl, ⟨rfl, ⟨rfl, ⟨rfl, ⟨rfl, trivial⟩⟩⟩⟩⟩⟩⟩ ?_
    exact rmX9_cutsLines_b199 C Hr3 ia1 ia3 ia4 ia5 h
  · rw [if_neg q] at h
    refine aw_ald_n C dX9_cutsLines_170 rfl ?_
    refine aw_ald_n C dX9_cutsLines_171 rfl ?_
    refine aw_get C (v := .ref (rAid 17)) gf_X9_39 (hm_M f σ) rfl dX9_cutsLines_172 ?_
    refine aw_acmp_ne C 199 dX9_cutsLines_175 (by decide) ia3 rfl (fun q => ?_) (fun q => ?_)
    · rw [if_neg q] at h
      refine aw_fl [some (.ref 181), some (.ref (rAid v1)), some (.int v2), some (.ref (rAid v3)), some (.ref (rAid v4)), some (.ref (rAid v5)), none, some (.int v7), none, none, none, none, none] ⟨rfl, ⟨rfl, ⟨rfl, ⟨rfl, ⟨rfl, ⟨rfl, ⟨rfl, trivial⟩⟩⟩⟩⟩⟩⟩ ?_
      exact rmX9_cutsLines_b199 C Hr3 ia1 ia3 ia4 ia5 h
    · rw [if_pos q] at h
      refine aw_ald_n C dX9_cutsLines_178 rfl ?_
      refine aw_get C (v := .ref (rAid 20)) gf_X9_48 (hm_M f σ) rfl dX9_cutsLines_179 ?_
      refine aw_iload C dX9_cutsLines_182 rfl ?_
      refine aw_iload C dX9_cutsLines_184 rfl ?_
      obtain ⟨hb1, h⟩ := ck_some h
      refine am_iast C rfl (inb_vp hb1) dX9_cutsLines_186 ?_
      refine aw_ald_n C dX9_cutsLines_187 rfl ?_
      refine aw_get C (v := .ref (rAid 21)) gf_X9_51 (hm_M f (rSa σ 20 v11 v8)) rfl dX9_cutsLines_188 ?_
      refine aw_iload C dX9_cutsLines_191 rfl ?_
      refine aw_iload C dX9_cutsLines_193 rfl ?_
      refine aw_iload C dX9_cutsLines_195 rfl ?_
      refine aw_isub C dX9_cutsLines_197 ?_
      obtain ⟨hb2, h⟩ := ck_some h
      refine am_iast C rfl (inb_vp hb2) dX9_cutsLines_198 ?_
      refine aw_fl [some (.ref 181), some (.ref (rAid v1)), some (.int v2), some (.ref (rAid v3)), some (.ref (rAid v4)), some (.ref (rAid v5)), none, some (.int v7), none, none, none, none, none] ⟨rfl, ⟨rfl, ⟨rfl, ⟨rfl, ⟨rfl, ⟨rfl, ⟨rfl, trivial⟩⟩⟩⟩⟩⟩⟩ ?_
      exact rmX9_cutsLines_b199 C Hr3 ia1 ia3 ia4 ia5 h
def mX9_cutsLines_l137 (rec3 : Nat → Int32 → Nat → Nat → Nat → Int32 → RS9 → Option (Int32 × RS9)) : Nat → Nat → Int32 → Nat → Nat → Nat → Int32 → Int32 → Int32 → Int32 → RS9 → Option (Int32 × RS9)
  | 0, _, _, _, _, _, _, _, _, _, _ => none
  | d + 1, v1, v2, v3, v4, v5, v7, v8, v11, v12, σ => (if v12 ≤ v8 then mX9_cutsLines_b161 rec3 v1 v2 v3 v4 v5 v7 v8 v11 v12 σ else rCk (rIn (v12 - (1 : Int32)) (rLen v1)) ((if (rGa σ v1 (v12 - (1 : Int32))) = (32 : Int32) then mX9_cutsLines_l137 rec3 d v1 v2 v3 v4 v5 v7 v8 v11 (v12 + (-1 : Int32)) σ else mX9_cutsLines_b161 rec3 v1 v2 v3 v4 v5 v7 v8 v11 v12 σ)))
set_option maxHeartbeats 1000000 in
theorem rmX9_cutsLines_l137 {X : GX} {p : Program} {l : Launch} {e : Env} {s : State} {m : MethodId} {args : Array Value} {below : List Frame} {meth : Method} {c : Code} {f : AH} {n : Nat} {r : Int32 × RS9} {rec3 : Nat → Int32 → Nat → Nat → Nat → Int32 → RS9 → Option (Int32 × RS9)} (C : CC X p l (RM 1 0 0) s m args meth c RX9 cX9_cutsLines 13 none) (Hr3 : ∀ (v1 : Nat) (v2 : Int32) (v3 : Nat) (v4 : Nat) (v5 : Nat) (v6 : Int32) (σ : RS9), rIsA v1 = true → rIsA v3 = true → rIsA v4 = true → rIsA v5 = true → rec3 v1 v2 v3 v4 v5 v6 σ = some r → AW X p l e (RM 1 0 0) s m args below meth c 13 (ZM X below args s 0 0 (QMv f n r)) (rHm f σ) n 0 0 3 [some (.ref 181), some (.ref (rAid v1)), some (.int v2), some (.ref (rAid v3)), some (.ref (rAid v4)), some (.ref (rAid v5)), some (.int v6), none, none, none, none, none, none] []) : ∀ (d : Nat) (v1 : Nat) (v2 : Int32) (v3 : Nat) (v4 : Nat) (v5 : Nat) (v7 : Int32) (v8 : Int32) (v11 : Int32) (v12 : Int32) (σ : RS9) (_ : rIsA v1 = true) (_ : rIsA v3 = true) (_ : rIsA v4 = true) (_ : rIsA v5 = true) (_ : mX9_cutsLines_l137 rec3 d v1 v2 v3 v4 v5 v7 v8 v11 v12 σ = some r), AW X p l e (RM 1 0 0) s m args below meth c 13 (ZM X below args s 0 0 (QMv f n r)) (rHm f σ) n 0 0 137 [some (.ref 181), some (.ref (rAid v1)), some (.int v2), some (.ref (rAid v3)), some (.ref (rAid v4)), some (.ref (rAid v5)), none, some (.int v7), some (.int v8), none, none, some (.int v11), some (.int v12)] [] := by
  intro d
  induction d with
  | zero =>
    intro v1 v2 v3 v4 v5 v7 v8 v11 v12 σ ia1 ia3 ia4 ia5 h
    exact nomatch (show (none : Option (Int32 × RS9)) = some r from h)
  | succ d ih =>
    intro v1 v2 v3 v4 v5 v7 v8 v11 v12 σ ia1 ia3 ia4 ia5 h
    have h : (if v12 ≤ v8 then mX9_cutsLines_b161 rec3 v1 v2 v3 v4 v5 v7 v8 v11 v12 σ else rCk (rIn (v12 - (1 : Int32)) (rLen v1)) ((if (rGa σ v1 (v12 - (1 : Int32))) = (32 : Int32) then mX9_cutsLines_l137 rec3 d v1 v2 v3 v4 v5 v7 v8 v11 (v12 + (-1 : Int32)) σ else mX9_cutsLines_b161 rec3 v1 v2 v3 v4 v5 v7 v8 v11 v12 σ))) = some r := h
    refine aw_iload C dX9_cutsLines_137 rfl ?_
    refine aw_iload C dX9_cutsLines_139 rfl ?_
    refine aw_icmp_le C 161 dX9_cutsLines_141 (by decide) (fun q => ?_) (fun q => ?_)
    · rw [if_pos q] at h
      refine aw_fl [some (.ref 181), some (.ref (rAid v1)), some (.int v2), some (.ref (rAid v3)), some (.ref (rAid v4)), some (.ref (rAid v5)), none, some (.int v7), some (.int v8), none, none, some (.int v11), some (.int v12)] ⟨rfl, ⟨rfl, ⟨rfl, ⟨rfl, ⟨rfl, ⟨rfl, ⟨rfl, ⟨rfl, ⟨rfl, ⟨rfl, trivial⟩⟩⟩⟩⟩⟩⟩⟩⟩⟩ ?_
      exact rmX9_cutsLines_b161 C Hr3 ia1 ia3 ia4 ia5 h
    · rw [if_neg q] at h
      refine aw_ald_n C dX9_cutsLines_144 rfl ?_
      refine aw_iload C dX9_cutsLines_145 rfl ?_
      refine aw_iconst C 1 dX9_cutsLines_147 ki_1 ?_
      refine aw_isub C dX9_cutsLines_148 ?_
      obtain ⟨hb1, h⟩ := ck_some h
      refine am_iald C (rGa σ v1 (v12 - (1 : Int32))) ia1 (inb_vp hb1) rfl dX9_cutsLines_149 ?_
      refine aw_bipush C 32 dX9_cutsLines_150 kb_32 ?_
      refine aw_icmp_ne C 161 dX9_cutsLines_152 (by decide) (fun q => ?_) (fun q => ?_)
      · rw [if_neg q] at h
        refine aw_fl [some (.ref 181), some (.ref (rAid v1)), some (.int v2), some (.ref (rAid v3)), some (.ref (rAid v4)), some (.ref (rAid v5)), none, some (.int v7), some (.int v8), none, none, some (.int v11), some (.int v12)] ⟨rfl, ⟨rfl, ⟨rfl, ⟨rfl, ⟨rfl, ⟨rfl, ⟨rfl, ⟨rfl, ⟨rfl, ⟨rfl, trivial⟩⟩⟩⟩⟩⟩⟩⟩⟩⟩ ?_
        exact rmX9_cutsLines_b161 C Hr3 ia1 ia3 ia4 ia5 h
      · rw [if_pos q] at h
        refine aw_iinc C (v12 + (-1 : Int32)) dX9_cutsLines_155 rfl (by rw [ki_m1]) (by decide) rfl ?_
        refine aw_nl [some (.ref 181), some (.ref (rAid v1)), some (.int v2), some (.ref (rAid v3)), some (.ref (rAid v4)), some (.ref (rAid v5)), none, some (.int v7), some (.int v8), none, none, some (.int v11), some (.int (v12 + (-1 : Int32)))] rfl ?_
        refine aw_goto C 137 dX9_cutsLines_158 (by decide) ?_
        refine aw_fl [some (.ref 181), some (.ref (rAid v1)), some (.int v2), some (.ref (rAid v3)), some (.ref (rAid v4)), some (.ref (rAid v5)), none, some (.int v7), some (.int v8), none, none, some (.int v11), some (.int (v12 + (-1 : Int32)))] ⟨rfl, ⟨rfl, ⟨rfl, ⟨rfl, ⟨rfl, ⟨rfl, ⟨rfl, ⟨rfl, ⟨rfl, ⟨rfl, trivial⟩⟩⟩⟩⟩⟩⟩⟩⟩⟩ ?_
        exact ih v1 v2 v3 v4 v5 v7 v8 v11 (v12 + (-1 : Int32)) σ ia1 ia3 ia4 ia5 h
def mX9_cutsLines_b113 (rec3 : Nat → Int32 → Nat → Nat → Nat → Int32 → RS9 → Option (Int32 × RS9)) (v1 : Nat) (v2 : Int32) (v3 : Nat) (v4 : Nat) (v5 : Nat) (v7 : Int32) (v8 : Int32) (v9 : Int32) (v10 : Int32) (σ : RS9) : Option (Int32 × RS9) := ((mX9_finds v3 v4 v5 v10 v7 (0 : Int32) σ).bind fun r1 => mX9_cutsLines_l137 rec3 rFU v1 v2 v3 v4 v5 v7 v8 (σ.1 54) v9 r1.2)
set_option maxHeartbeats 1000000 in
theorem rmX9_cutsLines_b113 {X : GX} {p : Program} {l : Launch} {e : Env} {s : State} {m : MethodId} {args : Array Value} {below : List Frame} {meth : Method} {c : Code} {f : AH} {n : Nat} {r : Int32 × RS9} {rec3 : Nat → Int32 → Nat → Nat → Nat → Int32 → RS9 → Option (Int32 × RS9)} {v1 : Nat} {v2 : Int32} {v3 : Nat} {v4 : Nat} {v5 : Nat} {v7 : Int32} {v8 : Int32} {v9 : Int32} {v10 : Int32} {σ : RS9} (C : CC X p l (RM 1 0 0) s m args meth c RX9 cX9_cutsLines 13 none) (Hr3 : ∀ (v1 : Nat) (v2 : Int32) (v3 : Nat) (v4 : Nat) (v5 : Nat) (v6 : Int32) (σ : RS9), rIsA v1 = true → rIsA v3 = true → rIsA v4 = true → rIsA v5 = true → rec3 v1 v2 v3 v4 v5 v6 σ = some r → AW X p l e (RM 1 0 0) s m args below meth c 13 (ZM X below args s 0 0 (QMv f n r)) (rHm f σ) n 0 0 3 [some (.ref 181), some (.ref (rAid v1)), some (.int v2), some (.ref (rAid v3)), some (.ref (rAid v4)), some (.ref (rAid v5)), some (.int v6), none, none, none, none, none, none] []) (ia1 : rIsA v1 = true) (ia3 : rIsA v3 = true) (ia4 : rIsA v4 = true) (ia5 : rIsA v5 = true) (h : mX9_cutsLines_b113 rec3 v1 v2 v3 v4 v5 v7 v8 v9 v10 σ = some r) : AW X p l e (RM 1 0 0) s m args below meth c 13 (ZM X below args s 0 0 (QMv f n r)) (rHm f σ) n 0 0 113 [some (.ref 181), some (.ref (rAid v1)), some (.int v2), some (.ref (rAid v3)), some (.ref (rAid v4)), some (.ref (rAid v5)), none, some (.int v7), some (.int v8), some (.int v9), some (.int v10), none, none] [] := by
  have h : ((mX9_finds v3 v4 v5 v10 v7 (0 : Int32) σ).bind fun r1 => mX9_cutsLines_l137 rec3 rFU v1 v2 v3 v4 v5 v7 v8 (σ.1 54) v9 r1.2) = some r := h
  refine aw_ald_n C dX9_cutsLines_113 rfl ?_
  refine aw_get C (v := .int (σ.1 54)) gf_X9_145 (hm_M f σ) rfl dX9_cutsLines_114 ?_
  refine aw_istore C dX9_cutsLines_117 (by decide) rfl ?_
  refine aw_nl [some (.ref 181), some (.ref (rAid v1)), some (.int v2), some (.ref (rAid v3)), some (.ref (rAid v4)), some (.ref (rAid v5)), none, some (.int v7), some (.int v8), some (.int v9), some (.int v10), some (.int (σ.1 54)), none] rfl ?_
  refine aw_ald_n C dX9_cutsLines_119 rfl ?_
  refine aw_ald_n C dX9_cutsLines_120 rfl ?_
  refine aw_ald C dX9_cutsLines_121 rfl ?_
  refine aw_ald C dX9_cutsLines_123 rfl ?_
  refine aw_iload C dX9_cutsLines_125 rfl ?_
  refine aw_iload C dX9_cutsLines_127 rfl ?_
  refine aw_iconst C 0 dX9_cutsLines_129 ki_0 ?_
  obtain ⟨r1, h1, h⟩ := Option.bind_eq_some_iff.mp h
  refine aw_callV C (ci := 9) (b := 181) [.ref (rAid v3), .ref (rAid v4), .ref (rAid v5), .int v10, .int v7, .int (0 : Int32)] mv_X9_152 rfl rfl (hm_M f σ) (rmX9_finds ia3 ia4 ia5 h1) rfl dX9_cutsLines_130 (Nat.le_of_ble_eq_true rfl) (Nat.le_of_ble_eq_true rfl) rfl (Nat.le_of_ble_eq_true rfl) (Nat.le_of_ble_eq_true rfl) (Nat.le_of_ble_eq_true rfl) (fun v9 f9 n9 hh => ?_)
  obtain ⟨rfl, rfl, rfl⟩ := hh
  refine aw_iload C dX9_cutsLines_133 rfl ?_
  refine aw_istore C dX9_cutsLines_135 (by decide) rfl ?_
  refine aw_nl [some (.ref 181), some (.ref (rAid v1)), some (.int v2), some (.ref (rAid v3)), some (.ref (rAid v4)), some (.ref (rAid v5)), none, some (.int v7), some (.int v8), some (.int v9), some (.int v10), some (.int (σ.1 54)), some (.int v9)] rfl ?_
  refine aw_fl [some (.ref 181), some (.ref (rAid v1)), some (.int v2), some (.ref (rAid v3)), some (.ref (rAid v4)), some (.ref (rAid v5)), none, some (.int v7), some (.int v8), none, none, some (.int (σ.1 54)), some (.int v9)] ⟨rfl, ⟨rfl, ⟨rfl, ⟨rfl, ⟨rfl, ⟨rfl, ⟨rfl, ⟨rfl, ⟨rfl, ⟨rfl, trivial⟩⟩⟩⟩⟩⟩⟩⟩⟩⟩ ?_
  exact rmX9_cutsLines_l137 C Hr3 rFU v1 v2 v3 v4 v5 v7 v8 (σ.1 54) v9 r1.2 ia1 ia3 ia4 ia5 h
def mX9_cutsLines_l91 (rec3 : Nat → Int32 → Nat → Nat → Nat → Int32 → RS9 → Option (Int32 × RS9)) : Nat → Nat → Int32 → Nat → Nat → Nat → Int32 → Int32 → Int32 → Int32 → RS9 → Option (Int32 × RS9)
  | 0, _, _, _, _, _, _, _, _, _, _ => none
  | d + 1, v1, v2, v3, v4, v5, v7, v8, v9, v10, σ => (if v7 ≤ v10 then mX9_cutsLines_b113 rec3 v1 v2 v3 v4 v5 v7 v8 v9 v10 σ else rCk (rIn v10 (rLen v1)) ((if (rGa σ v1 v10) = (32 : Int32) then mX9_cutsLines_l91 rec3 d v1 v2 v3 v4 v5 v7 v8 v9 (v10 + (1 : Int32)) σ else mX9_cutsLines_b113 rec3 v1 v2 v3 v4 v5 v7 v8 v9 v10 σ)))
set_option maxHeartbeats 1000000 in
theorem rmX9_cutsLines_l91 {X : GX} {p : Program} {l : Launch} {e : Env} {s : State} {m : MethodId} {args : Array Value} {below : List Frame} {meth : Method} {c : Code} {f : AH} {n : Nat} {r : Int32 × RS9} {rec3 : Nat → Int32 → Nat → Nat → Nat → Int32 → RS9 → Option (Int32 × RS9)} (C : CC X p l (RM 1 0 0) s m args meth c RX9 cX9_cutsLines 13 none) (Hr3 : ∀ (v1 : Nat) (v2 : Int32) (v3 : Nat) (v4 : Nat) (v5 : Nat) (v6 : Int32) (σ : RS9), rIsA v1 = true → rIsA v3 = true → rIsA v4 = true → rIsA v5 = true → rec3 v1 v2 v3 v4 v5 v6 σ = some r → AW X p l e (RM 1 0 0) s m args below meth c 13 (ZM X below args s 0 0 (QMv f n r)) (rHm f σ) n 0 0 3 [some (.ref 181), some (.ref (rAid v1)), some (.int v2), some (.ref (rAid v3)), some (.ref (rAid v4)), some (.ref (rAid v5)), some (.int v6), none, none, none, none, none, none] []) : ∀ (d : Nat) (v1 : Nat) (v2 : Int32) (v3 : Nat) (v4 : Nat) (v5 : Nat) (v7 : Int32) (v8 : Int32) (v9 : Int32) (v10 : Int32) (σ : RS9) (_ : rIsA v1 = true) (_ : rIsA v3 = true) (_ : rIsA v4 = true) (_ : rIsA v5 = true) (_ : mX9_cutsLines_l91 rec3 d v1 v2 v3 v4 v5 v7 v8 v9 v10 σ = some r), AW X p l e (RM 1 0 0) s m args below meth c 13 (ZM X below args s 0 0 (QMv f n r)) (rHm f σ) n 0 0 91 [some (.ref 181), some (.ref (rAid v1)), some (.int v2), some (.ref (rAid v3)), some (.ref (rAid v4)), some (.ref (rAid v5)), none, some (.int v7), some (.int v8), some (.int v9), some (.int v10), none, none] [] := by
  intro d
  induction d with
  | zero =>
    intro v1 v2 v3 v4 v5 v7 v8 v9 v10 σ ia1 ia3 ia4 ia5 h
    exact nomatch (show (none : Option (Int32 × RS9)) = some r from h)
  | succ d ih =>
    intro v1 v2 v3 v4 v5 v7 v8 v9 v10 σ ia1 ia3 ia4 ia5 h
    have h : (if v7 ≤ v10 then mX9_cutsLines_b113 rec3 v1 v2 v3 v4 v5 v7 v8 v9 v10 σ else rCk (rIn v10 (rLen v1)) ((if (rGa σ v1 v10) = (32 : Int32) then mX9_cutsLines_l91 rec3 d v1 v2 v3 v4 v5 v7 v8 v9 (v10 + (1 : Int32)) σ else mX9_cutsLines_b113 rec3 v1 v2 v3 v4 v5 v7 v8 v9 v10 σ))) = some r := h
    refine aw_iload C dX9_cutsLines_91 rfl ?_
    refine aw_iload C dX9_cutsLines_93 rfl ?_
    refine aw_icmp_ge C 113 dX9_cutsLines_95 (by decide) (fun q => ?_) (fun q => ?_)
    · rw [if_pos q] at h
      refine aw_fl [some (.ref 181), some (.ref (rAid v1)), some (.int v2), some (.ref (rAid v3)), some (.ref (rAid v4)), some (.ref (rAid v5)), none, some (.int v7), some (.int v8), some (.int v9), some (.int v10), none, none] ⟨rfl, ⟨rfl, ⟨rfl, ⟨rfl, ⟨rfl, ⟨rfl, ⟨rfl, ⟨rfl, ⟨rfl, ⟨rfl, trivial⟩⟩⟩⟩⟩⟩⟩⟩⟩⟩ ?_
      exact rmX9_cutsLines_b113 C Hr3 ia1 ia3 ia4 ia5 h
    · rw [if_neg q] at h
      refine aw_ald_n C dX9_cutsLines_98 rfl ?_
      refine aw_iload C dX9_cutsLines_99 rfl ?_
      obtain ⟨hb1, h⟩ := ck_some h
      refine am_iald C (rGa σ v1 v10) ia1 (inb_vp hb1) rfl dX9_cutsLines_101 ?_
      refine aw_bipush C 32 dX9_cutsLines_102 kb_32 ?_
      refine aw_icmp_ne C 113 dX9_cutsLines_104 (by decide) (fun q => ?_) (fun q => ?_)
      · rw [if_neg q] at h
        refine aw_fl [some (.ref 181), some (.ref (rAid v1)), some (.int v2), some (.ref (rAid v3)), some (.ref (rAid v4)), some (.ref (rAid v5)), none, some (.int v7), some (.int v8), some (.int v9), some (.int v10), none, none] ⟨rfl, ⟨rfl, ⟨rfl, ⟨rfl, ⟨rfl, ⟨rfl, ⟨rfl, ⟨rfl, ⟨rfl, ⟨rfl, trivial⟩⟩⟩⟩⟩⟩⟩⟩⟩⟩ ?_
        exact rmX9_cutsLines_b113 C Hr3 ia1 ia3 ia4 ia5 h
      · rw [if_pos q] at h
        refine aw_iinc C (v10 + (1 : Int32)) dX9_cutsLines_107 rfl (by rw [ki_1]) (by decide) rfl ?_
        refine aw_nl [some (.ref 181), some (.ref (rAid v1)), some (.int v2), some (.ref (rAid v3)), some (.ref (rAid v4)), some (.ref (rAid v5)), none, some (.int v7), some (.int v8), some (.int v9), some (.int (v10 + (1 : Int32))), none, none] rfl ?_
        refine aw_goto C 91 dX9_cutsLines_110 (by decide) ?_
        refine aw_fl [some (.ref 181), some (.ref (rAid v1)), some (.int v2), some (.ref (rAid v3)), some (.ref (rAid v4)), some (.ref (rAid v5)), none, some (.int v7), some (.int v8), some (.int v9), some (.int (v10 + (1 : Int32))), none, none] ⟨rfl, ⟨rfl, ⟨rfl, ⟨rfl, ⟨rfl, ⟨rfl, ⟨rfl, ⟨rfl, ⟨rfl, ⟨rfl, trivial⟩⟩⟩⟩⟩⟩⟩⟩⟩⟩ ?_
        exact ih v1 v2 v3 v4 v5 v7 v8 v9 (v10 + (1 : Int32)) σ ia1 ia3 ia4 ia5 h
def mX9_cutsLines_b48 (rec3 : Nat → Int32 → Nat → Nat → Nat → Int32 → RS9 → Option (Int32 × RS9)) (v1 : Nat) (v2 : Int32) (v3 : Nat) (v4 : Nat) (v5 : Nat) (v6 : Int32) (v7 : Int32) (v8 : Int32) (σ : RS9) : Option (Int32 × RS9) := ((mX9_endOf v1 v7 v6 (61 : Int32) (61 : Int32) σ).bind fun r1 => (if v7 ≤ v8 then mX9_cutsLines_b199 rec3 v1 v2 v3 v4 v5 v7 r1.2 else rCk (rIn v8 (rLen v1)) ((if (rGa r1.2 v1 v8) = (35 : Int32) then mX9_cutsLines_b199 rec3 v1 v2 v3 v4 v5 v7 r1.2 else (if v7 ≤ r1.1 then mX9_cutsLines_b199 rec3 v1 v2 v3 v4 v5 v7 r1.2 else mX9_cutsLines_l91 rec3 rFU v1 v2 v3 v4 v5 v7 v8 r1.1 (r1.1 + (1 : Int32)) r1.2)))))
set_option maxHeartbeats 1000000 in
theorem rmX9_cutsLines_b48 {X : GX} {p : Program} {l : Launch} {e : Env} {s : State} {m : MethodId} {args : Array Value} {below : List Frame} {meth : Method} {c : Code} {f : AH} {n : Nat} {r : Int32 × RS9} {rec3 : Nat → Int32 → Nat → Nat → Nat → Int32 → RS9 → Option (Int32 × RS9)} {v1 : Nat} {v2 : Int32} {v3 : Nat} {v4 : Nat} {v5 : Nat} {v6 : Int32} {v7 : Int32} {v8 : Int32} {σ : RS9} (C : CC X p l (RM 1 0 0) s m args meth c RX9 cX9_cutsLines 13 none) (Hr3 : ∀ (v1 : Nat) (v2 : Int32) (v3 : Nat) (v4 : Nat) (v5 : Nat) (v6 : Int32) (σ : RS9), rIsA v1 = true → rIsA v3 = true → rIsA v4 = true → rIsA v5 = true → rec3 v1 v2 v3 v4 v5 v6 σ = some r → AW X p l e (RM 1 0 0) s m args below meth c 13 (ZM X below args s 0 0 (QMv f n r)) (rHm f σ) n 0 0 3 [some (.ref 181), some (.ref (rAid v1)), some (.int v2), some (.ref (rAid v3)), some (.ref (rAid v4)), some (.ref (rAid v5)), some (.int v6), none, none, none, none, none, none] []) (ia1 : rIsA v1 = true) (ia3 : rIsA v3 = true) (ia4 : rIsA v4 = true) (ia5 : rIsA v5 = true) (h : mX9_cutsLines_b48 rec3 v1 v2 v3 v4 v5 v6 v7 v8 σ = some r) : AW X p l e (RM 1 0 0) s m args below meth c 13 (ZM X below args s 0 0 (QMv f n r)) (rHm f σ) n 0 0 48 [some (.ref 181), some (.ref (rAid v1)), some (.int v2), some (.ref (rAid v3)), some (.ref (rAid v4)), some (.ref (rAid v5)), some (.int v6), some (.int v7), some (.int v8), none, none, none, none] [] := by
  have h : ((mX9_endOf v1 v7 v6 (61 : Int32) (61 : Int32) σ).bind fun r1 => (if v7 ≤ v8 then mX9_cutsLines_b199 rec3 v1 v2 v3 v4 v5 v7 r1.2 else rCk (rIn v8 (rLen v1)) ((if (rGa r1.2 v1 v8) = (35 : Int32) then mX9_cutsLines_b199 rec3 v1 v2 v3 v4 v5 v7 r1.2 else (if v7 ≤ r1.1 then mX9_cutsLines_b199 rec3 v1 v2 v3 v4 v5 v7 r1.2 else mX9_cutsLines_l91 rec3 rFU v1 v2 v3 v4 v5 v7 v8 r1.1 (r1.1 + (1 : Int32)) r1.2))))) = some r := h
  refine aw_ald_n C dX9_cutsLines_48 rfl ?_
  refine aw_iload C dX9_cutsLines_49 rfl ?_
  refine aw_iload C dX9_cutsLines_51 rfl ?_
  refine aw_bipush C 61 dX9_cutsLines_53 kb_61 ?_
  refine aw_bipush C 61 dX9_cutsLines_55 kb_61 ?_
  obtain ⟨r1, h1, h⟩ := Option.bind_eq_some_iff.mp h
  refine aw_callS C [.ref (rAid v1), .int v7, .int v6, .int (61 : Int32), .int (61 : Int32)] ms_X9_148 (rmX9_endOf ia1 h1) rfl dX9_cutsLines_57 (Nat.le_of_ble_eq_true rfl) (Nat.le_of_ble_eq_true rfl) rfl (Nat.le_of_ble_eq_true rfl) (Nat.le_of_ble_eq_true rfl) (Nat.le_of_ble_eq_true rfl) (fun v9 f9 n9 hh => ?_)
  obtain ⟨rfl, rfl, rfl⟩ := hh
  refine aw_istore C dX9_cutsLines_60 (by decide) rfl ?_
  refine aw_nl [some (.ref 181), some (.ref (rAid v1)), some (.int v2), some (.ref (rAid v3)), some (.ref (rAid v4)), some (.ref (rAid v5)), some (.int v6), some (.int v7), some (.int v8), some (.int r1.1), none, none, none] rfl ?_
  refine aw_iload C dX9_cutsLines_62 rfl ?_
  refine aw_iload C dX9_cutsLines_64 rfl ?_
  refine aw_icmp_ge C 199 dX9_cutsLines_66 (by decide) (fun q => ?_) (fun q => ?_)
  · rw [if_pos q] at h
    refine aw_fl [some (.ref 181), some (.ref (rAid v1)), some (.int v2), some (.ref (rAid v3)), some (.ref (rAid v4)), some (.ref (rAid v5)), none, some (.int v7), none, none, none, none, none] ⟨rfl, ⟨rfl, ⟨rfl, ⟨rfl, ⟨rfl, ⟨rfl, ⟨rfl, trivial⟩⟩⟩⟩⟩⟩⟩ ?_
    exact rmX9_cutsLines_b199 C Hr3 ia1 ia3 ia4 ia5 h
  · rw [if_neg q] at h
    refine aw_ald_n C dX9_cutsLines_69 rfl ?_
    refine aw_iload C dX9_cutsLines_70 rfl ?_
    obtain ⟨hb2, h⟩ := ck_some h
    refine am_iald C (rGa r1.2 v1 v8) ia1 (inb_vp hb2) rfl dX9_cutsLines_72 ?_
    refine aw_bipush C 35 dX9_cutsLines_73 kb_35 ?_
    refine aw_icmp_eq C 199 dX9_cutsLines_75 (by decide) (fun q => ?_) (fun q => ?_)
    · rw [if_pos q] at h
      refine aw_fl [some (.ref 181), some (.ref (rAid v1)), some (.int v2), some (.ref (rAid v3)), some (.ref (rAid v4)), some (.ref (rAid v5)), none, some (.int v7), none, none, none, none, none] ⟨rfl, ⟨rfl, ⟨rfl, ⟨rfl, ⟨rfl, ⟨rfl, ⟨rfl, trivial⟩⟩⟩⟩⟩⟩⟩ ?_
      exact rmX9_cutsLines_b199 C Hr3 ia1 ia3 ia4 ia5 h
    · rw [if_neg q] at h
      refine aw_iload C dX9_cutsLines_78 rfl ?_
      refine aw_iload C dX9_cutsLines_80 rfl ?_
      refine aw_icmp_ge C 199 dX9_cutsLines_82 (by decide) (fun q => ?_) (fun q => ?_)
      · rw [if_pos q] at h
        refine aw_fl [some (.ref 181), some (.ref (rAid v1)), some (.int v2), some (.ref (rAid v3)), some (.ref (rAid v4)), some (.ref (rAid v5)), none, some (.int v7), none, none, none, none, none] ⟨rfl, ⟨rfl, ⟨rfl, ⟨rfl, ⟨rfl, ⟨rfl, ⟨rfl, trivial⟩⟩⟩⟩⟩⟩⟩ ?_
        exact rmX9_cutsLines_b199 C Hr3 ia1 ia3 ia4 ia5 h
      · rw [if_neg q] at h
        refine aw_iload C dX9_cutsLines_85 rfl ?_
        refine aw_iconst C 1 dX9_cutsLines_87 ki_1 ?_
        refine aw_iadd C dX9_cutsLines_88 ?_
        refine aw_istore C dX9_cutsLines_89 (by decide) rfl ?_
        refine aw_nl [some (.ref 181), some (.ref (rAid v1)), some (.int v2), some (.ref (rAid v3)), some (.ref (rAid v4)), some (.ref (rAid v5)), some (.int v6), some (.int v7), some (.int v8), some (.int r1.1), some (.int (r1.1 + (1 : Int32))), none, none] rfl ?_
        refine aw_fl [some (.ref 181), some (.ref (rAid v1)), some (.int v2), some (.ref (rAid v3)), some (.ref (rAid v4)), some (.ref (rAid v5)), none, some (.int v7), some (.int v8), some (.int r1.1), some (.int (r1.1 + (1 : Int32))), none, none] ⟨rfl, ⟨rfl, ⟨rfl, ⟨rfl, ⟨rfl, ⟨rfl, ⟨rfl, ⟨rfl, ⟨rfl, ⟨rfl, trivial⟩⟩⟩⟩⟩⟩⟩⟩⟩⟩ ?_
        exact rmX9_cutsLines_l91 C Hr3 rFU v1 v2 v3 v4 v5 v7 v8 r1.1 (r1.1 + (1 : Int32)) r1.2 ia1 ia3 ia4 ia5 h
def mX9_cutsLines_l26 (rec3 : Nat → Int32 → Nat → Nat → Nat → Int32 → RS9 → Option (Int32 × RS9)) : Nat → Nat → Int32 → Nat → Nat → Nat → Int32 → Int32 → Int32 → RS9 → Option (Int32 × RS9)
  | 0, _, _, _, _, _, _, _, _, _ => none
  | d + 1, v1, v2, v3, v4, v5, v6, v7, v8, σ => (if v7 ≤ v8 then mX9_cutsLines_b48 rec3 v1 v2 v3 v4 v5 v6 v7 v8 σ else rCk (rIn v8 (rLen v1)) ((if (rGa σ v1 v8) = (32 : Int32) then mX9_cutsLines_l26 rec3 d v1 v2 v3 v4 v5 v6 v7 (v8 + (1 : Int32)) σ else mX9_cutsLines_b48 rec3 v1 v2 v3 v4 v5 v6 v7 v8 σ)))
set_option maxHeartbeats 1000000 in
theorem rmX9_cutsLines_l26 {X : GX} {p : Program} {l : Launch} {e : Env} {s : State} {m : MethodId} {args : Array Value} {below : List Frame} {meth : Method} {c : Code} {f : AH} {n : Nat} {r : Int32 × RS9} {rec3 : Nat → Int32 → Nat → Nat → Nat → Int32 → RS9 → Option (Int32 × RS9)} (C : CC X p l (RM 1 0 0) s m args meth c RX9 cX9_cutsLines 13 none) (Hr3 : ∀ (v1 : Nat) (v2 : Int32) (v3 : Nat) (v4 : Nat) (v5 : Nat) (v6 : Int32) (σ : RS9), rIsA v1 = true → rIsA v3 = true → rIsA v4 = true → rIsA v5 = true → rec3 v1 v2 v3 v4 v5 v6 σ = some r → AW X p l e (RM 1 0 0) s m args below meth c 13 (ZM X below args s 0 0 (QMv f n r)) (rHm f σ) n 0 0 3 [some (.ref 181), some (.ref (rAid v1)), some (.int v2), some (.ref (rAid v3)), some (.ref (rAid v4)), some (.ref (rAid v5)), some (.int v6), none, none, none, none, none, none] []) : ∀ (d : Nat) (v1 : Nat) (v2 : Int32) (v3 : Nat) (v4 : Nat) (v5 : Nat) (v6 : Int32) (v7 : Int32) (v8 : Int32) (σ : RS9) (_ : rIsA v1 = true) (_ : rIsA v3 = true) (_ : rIsA v4 = true) (_ : rIsA v5 = true) (_ : mX9_cutsLines_l26 rec3 d v1 v2 v3 v4 v5 v6 v7 v8 σ = some r), AW X p l e (RM 1 0 0) s m args below meth c 13 (ZM X below args s 0 0 (QMv f n r)) (rHm f σ) n 0 0 26 [some (.ref 181), some (.ref (rAid v1)), some (.int v2), some (.ref (rAid v3)), some (.ref (rAid v4)), some (.ref (rAid v5)), some (.int v6), some (.int v7), some (.int v8), none, none, none, none] [] := by
  intro d
  induction d with
  | zero =>
    intro v1 v2 v3 v4 v5 v6 v7 v8 σ ia1 ia3 ia4 ia5 h
    exact nomatch (show (none : Option (Int32 × RS9)) = some r from h)
  | succ d ih =>
    intro v1 v2 v3 v4 v5 v6 v7 v8 σ ia1 ia3 ia4 ia5 h
    have h : (if v7 ≤ v8 then mX9_cutsLines_b48 rec3 v1 v2 v3 v4 v5 v6 v7 v8 σ else rCk (rIn v8 (rLen v1)) ((if (rGa σ v1 v8) = (32 : Int32) then mX9_cutsLines_l26 rec3 d v1 v2 v3 v4 v5 v6 v7 (v8 + (1 : Int32)) σ else mX9_cutsLines_b48 rec3 v1 v2 v3 v4 v5 v6 v7 v8 σ))) = some r := h
    refine aw_iload C dX9_cutsLines_26 rfl ?_
    refine aw_iload C dX9_cutsLines_28 rfl ?_
    refine aw_icmp_ge C 48 dX9_cutsLines_30 (by decide) (fun q => ?_) (fun q => ?_)
    · rw [if_pos q] at h
      refine aw_fl [some (.ref 181), some (.ref (rAid v1)), some (.int v2), some (.ref (rAid v3)), some (.ref (rAid v4)), some (.ref (rAid v5)), some (.int v6), some (.int v7), some (.int v8), none, none, none, none] ⟨rfl, ⟨rfl, ⟨rfl, ⟨rfl, ⟨rfl, ⟨rfl, ⟨rfl, ⟨rfl, ⟨rfl, trivial⟩⟩⟩⟩⟩⟩⟩⟩⟩ ?_
      exact rmX9_cutsLines_b48 C Hr3 ia1 ia3 ia4 ia5 h
    · rw [if_neg q] at h
      refine aw_ald_n C dX9_cutsLines_33 rfl ?_
      refine aw_iload C dX9_cutsLines_34 rfl ?_
      obtain ⟨hb1, h⟩ := ck_some h
      refine am_iald C (rGa σ v1 v8) ia1 (inb_vp hb1) rfl dX9_cutsLines_36 ?_
      refine aw_bipush C 32 dX9_cutsLines_37 kb_32 ?_
      refine aw_icmp_ne C 48 dX9_cutsLines_39 (by decide) (fun q => ?_) (fun q => ?_)
      · rw [if_neg q] at h
        refine aw_fl [some (.ref 181), some (.ref (rAid v1)), some (.int v2), some (.ref (rAid v3)), some (.ref (rAid v4)), some (.ref (rAid v5)), some (.int v6), some (.int v7), some (.int v8), none, none, none, none] ⟨rfl, ⟨rfl, ⟨rfl, ⟨rfl, ⟨rfl, ⟨rfl, ⟨rfl, ⟨rfl, ⟨rfl, trivial⟩⟩⟩⟩⟩⟩⟩⟩⟩ ?_
        exact rmX9_cutsLines_b48 C Hr3 ia1 ia3 ia4 ia5 h
      · rw [if_pos q] at h
        refine aw_iinc C (v8 + (1 : Int32)) dX9_cutsLines_42 rfl (by rw [ki_1]) (by decide) rfl ?_
        refine aw_nl [some (.ref 181), some (.ref (rAid v1)), some (.int v2), some (.ref (rAid v3)), some (.ref (rAid v4)), some (.ref (rAid v5)), some (.int v6), some (.int v7), some (.int (v8 + (1 : Int32))), none, none, none, none] rfl ?_
        refine aw_goto C 26 dX9_cutsLines_45 (by decide) ?_
        refine aw_fl [some (.ref 181), some (.ref (rAid v1)), some (.int v2), some (.ref (rAid v3)), some (.ref (rAid v4)), some (.ref (rAid v5)), some (.int v6), some (.int v7), some (.int (v8 + (1 : Int32))), none, none, none, none] ⟨rfl, ⟨rfl, ⟨rfl, ⟨rfl, ⟨rfl, ⟨rfl, ⟨rfl, ⟨rfl, ⟨rfl, trivial⟩⟩⟩⟩⟩⟩⟩⟩⟩ ?_
        exact ih v1 v2 v3 v4 v5 v6 v7 (v8 + (1 : Int32)) σ ia1 ia3 ia4 ia5 h
def mX9_cutsLines_l3 : Nat → Nat → Int32 → Nat → Nat → Nat → Int32 → RS9 → Option (Int32 × RS9)
  | 0, _, _, _, _, _, _, _ => none
  | d + 1, v1, v2, v3, v4, v5, v6, σ => (if v2 ≤ v6 then some ((0 : Int32), σ) else ((mX9_endOf v1 v2 v6 (10 : Int32) (10 : Int32) σ).bind fun r1 => mX9_cutsLines_l26 (fun v1 v2 v3 v4 v5 v6 σ => mX9_cutsLines_l3 d v1 v2 v3 v4 v5 v6 σ) rFU v1 v2 v3 v4 v5 v6 r1.1 v6 r1.2))
set_option maxHeartbeats 1000000 in
theorem rmX9_cutsLines_l3 {X : GX} {p : Program} {l : Launch} {e : Env} {s : State} {m : MethodId} {args : Array Value} {below : List Frame} {meth : Method} {c : Code} {f : AH} {n : Nat} {r : Int32 × RS9} (C : CC X p l (RM 1 0 0) s m args meth c RX9 cX9_cutsLines 13 none) : ∀ (d : Nat) (v1 : Nat) (v2 : Int32) (v3 : Nat) (v4 : Nat) (v5 : Nat) (v6 : Int32) (σ : RS9) (_ : rIsA v1 = true) (_ : rIsA v3 = true) (_ : rIsA v4 = true) (_ : rIsA v5 = true) (_ : mX9_cutsLines_l3 d v1 v2 v3 v4 v5 v6 σ = some r), AW X p l e (RM 1 0 0) s m args below meth c 13 (ZM X below args s 0 0 (QMv f n r)) (rHm f σ) n 0 0 3 [some (.ref 181), some (.ref (rAid v1)), some (.int v2), some (.ref (rAid v3)), some (.ref (rAid v4)), some (.ref (rAid v5)), some (.int v6), none, none, none, none, none, none] [] := by
  intro d
  induction d with
  | zero =>
    intro v1 v2 v3 v4 v5 v6 σ ia1 ia3 ia4 ia5 h
    exact nomatch (show (none : Option (Int32 × RS9)) = some r from h)
  | succ d ih =>
    intro v1 v2 v3 v4 v5 v6 σ ia1 ia3 ia4 ia5 h
    have h : (if v2 ≤ v6 then some ((0 : Int32), σ) else ((mX9_endOf v1 v2 v6 (10 : Int32) (10 : Int32) σ).bind fun r1 => mX9_cutsLines_l26 (fun v1 v2 v3 v4 v5 v6 σ => mX9_cutsLines_l3 d v1 v2 v3 v4 v5 v6 σ) rFU v1 v2 v3 v4 v5 v6 r1.1 v6 r1.2)) = some r := h
    refine aw_iload C dX9_cutsLines_3 rfl ?_
    refine aw_iload_n C dX9_cutsLines_5 rfl ?_
    refine aw_icmp_ge C 208 dX9_cutsLines_6 (by decide) (fun q => ?_) (fun q => ?_)
    · rw [if_pos q] at h
      cases h
      exact aw_vret C rfl dX9_cutsLines_208 (Nat.le_refl _) (Nat.le_refl _) ⟨rfl, rfl, rfl⟩
    · rw [if_neg q] at h
      refine aw_ald_n C dX9_cutsLines_9 rfl ?_
      refine aw_iload_n C dX9_cutsLines_10 rfl ?_
      refine aw_iload C dX9_cutsLines_11 rfl ?_
      refine aw_bipush C 10 dX9_cutsLines_13 kb_10 ?_
      refine aw_bipush C 10 dX9_cutsLines_15 kb_10 ?_
      obtain ⟨r1, h1, h⟩ := Option.bind_eq_some_iff.mp h
      refine aw_callS C [.ref (rAid v1), .int v2, .int v6, .int (10 : Int32), .int (10 : Int32)] ms_X9_148 (rmX9_endOf ia1 h1) rfl dX9_cutsLines_17 (Nat.le_of_ble_eq_true rfl) (Nat.le_of_ble_eq_true rfl) rfl (Nat.le_of_ble_eq_true rfl) (Nat.le_of_ble_eq_true rfl) (Nat.le_of_ble_eq_true rfl) (fun v9 f9 n9 hh => ?_)
      obtain ⟨rfl, rfl, rfl⟩ := hh
      refine aw_istore C dX9_cutsLines_20 (by decide) rfl ?_
      refine aw_nl [some (.ref 181), some (.ref (rAid v1)), some (.int v2), some (.ref (rAid v3)), some (.ref (rAid v4)), some (.ref (rAid v5)), some (.int v6), some (.int r1.1), none, none, none, none, none] rfl ?_
      refine aw_iload C dX9_cutsLines_22 rfl ?_
      refine aw_istore C dX9_cutsLines_24 (by decide) rfl ?_
      refine aw_nl [some (.ref 181), some (.ref (rAid v1)), some (.int v2), some (.ref (rAid v3)), some (.ref (rAid v4)), some (.ref (rAid v5)), some (.int v6), some (.int r1.1), some (.int v6), none, none, none, none] rfl ?_
      refine aw_fl [some (.ref 181), some (.ref (rAid v1)), some (.int v2), some (.ref (rAid v3)), some (.ref (rAid v4)), some (.ref (rAid v5)), some (.int v6), some (.int r1.1), some (.int v6), none, none, none, none] ⟨rfl, ⟨rfl, ⟨rfl, ⟨rfl, ⟨rfl, ⟨rfl, ⟨rfl, ⟨rfl, ⟨rfl, trivial⟩⟩⟩⟩⟩⟩⟩⟩⟩ ?_
      exact rmX9_cutsLines_l26 C (fun v1 v2 v3 v4 v5 v6 σ ia1 ia3 ia4 ia5 h => ih v1 v2 v3 v4 v5 v6 σ ia1 ia3 ia4 ia5 h) rFU v1 v2 v3 v4 v5 v6 r1.1 v6 r1.2 ia1 ia3 ia4 ia5 h
def mX9_cutsLines (v1 : Nat) (v2 : Int32) (v3 : Nat) (v4 : Nat) (v5 : Nat) (σ : RS9) : Option (Int32 × RS9) := mX9_cutsLines_l3 rFU v1 v2 v3 v4 v5 (0 : Int32) σ
set_option maxHeartbeats 1000000 in
theorem rmX9_cutsLines {X : GX} {l : Launch} {f : AH} {n : Nat} {r : Int32 × RS9} {v1 : Nat} {v2 : Int32} {v3 : Nat} {v4 : Nat} {v5 : Nat} {σ : RS9} (ia1 : rIsA v1 = true) (ia3 : rIsA v3 = true) (ia4 : rIsA v4 = true) (ia5 : rIsA v5 = true) (h : mX9_cutsLines v1 v2 v3 v4 v5 σ = some r) : AM X l yX9_cutsLines cX9_cutsLines 13 none 1 0 0 [.ref 181, .ref (rAid v1), .int v2, .ref (rAid v3), .ref (rAid v4), .ref (rAid v5)] (rHm f σ) n (QMv f n r) := by
  have h : mX9_cutsLines_l3 rFU v1 v2 v3 v4 v5 (0 : Int32) σ = some r := h
  refine AM.of (by decide +kernel) rfl (Nat.le_of_ble_eq_true rfl) (fun p e s m args below meth c C _ => ?_)
  refine aw_nl [some (.ref 181), some (.ref (rAid v1)), some (.int v2), some (.ref (rAid v3)), some (.ref (rAid v4)), some (.ref (rAid v5)), none, none, none, none, none, none, none] rfl ?_
  refine aw_iconst C 0 dX9_cutsLines_0 ki_0 ?_
  refine aw_istore C dX9_cutsLines_1 (by decide) rfl ?_
  refine aw_nl [some (.ref 181), some (.ref (rAid v1)), some (.int v2), some (.ref (rAid v3)), some (.ref (rAid v4)), some (.ref (rAid v5)), some (.int (0 : Int32)), none, none, none, none, none, none] rfl ?_
  refine aw_fl [some (.ref 181), some (.ref (rAid v1)), some (.int v2), some (.ref (rAid v3)), some (.ref (rAid v4)), some (.ref (rAid v5)), some (.int (0 : Int32)), none, none, none, none, none, none] ⟨rfl, ⟨rfl, ⟨rfl, ⟨rfl, ⟨rfl, ⟨rfl, ⟨rfl, trivial⟩⟩⟩⟩⟩⟩⟩ ?_
  exact rmX9_cutsLines_l3 C rFU v1 v2 v3 v4 v5 (0 : Int32) σ ia1 ia3 ia4 ia5 h
end
