theorem dX9_builtMany_20 : decode cX9_builtMany 20 = .ok (.invokevirtual 290, 3) := by decide +kernel
theorem dX9_builtMany_23 : decode cX9_builtMany 23 = .ok (.aload_n 0, 1) := by decide +kernel
theorem dX9_builtMany_24 : decode cX9_builtMany 24 = .ok (.getfield 84, 3) := by decide +kernel
theorem dX9_builtMany_27 : decode cX9_builtMany 27 = .ok (.iload_n 2, 1) := by decide +kernel
theorem dX9_builtMany_28 : decode cX9_builtMany 28 = .ok (.iaload, 1) := by decide +kernel
theorem dX9_builtMany_29 : decode cX9_builtMany 29 = .ok (.aload_n 0, 1) := by decide +kernel
theorem dX9_builtMany_30 : decode cX9_builtMany 30 = .ok (.getfield 81, 3) := by decide +kernel
theorem dX9_builtMany_33 : decode cX9_builtMany 33 = .ok (.iload_n 2, 1) := by decide +kernel
theorem dX9_builtMany_34 : decode cX9_builtMany 34 = .ok (.iaload, 1) := by decide +kernel
theorem dX9_builtMany_35 : decode cX9_builtMany 35 = .ok (.isub, 1) := by decide +kernel
theorem dX9_builtMany_36 : decode cX9_builtMany 36 = .ok (.isub, 1) := by decide +kernel
theorem dX9_builtMany_37 : decode cX9_builtMany 37 = .ok (.iadd, 1) := by decide +kernel
theorem dX9_builtMany_38 : decode cX9_builtMany 38 = .ok (.istore_n 1, 1) := by decide +kernel
theorem dX9_builtMany_39 : decode cX9_builtMany 39 = .ok (.iinc 2 1, 3) := by decide +kernel
theorem dX9_builtMany_42 : decode cX9_builtMany 42 = .ok (.goto (-33), 3) := by decide +kernel
theorem dX9_builtMany_45 : decode cX9_builtMany 45 = .ok (.iload_n 1, 1) := by decide +kernel
theorem dX9_builtMany_46 : decode cX9_builtMany 46 = .ok (.ireturn, 1) := by decide +kernel
theorem dX9_builtOf_0 : decode cX9_builtOf 0 = .ok (.aload_n 0, 1) := by decide +kernel
theorem dX9_builtOf_1 : decode cX9_builtOf 1 = .ok (.iload_n 1, 1) := by decide +kernel
theorem dX9_builtOf_2 : decode cX9_builtOf 2 = .ok (.invokevirtual 247, 3) := by decide +kernel
theorem dX9_builtOf_5 : decode cX9_builtOf 5 = .ok (.iconst (-1), 1) := by decide +kernel
theorem dX9_builtOf_6 : decode cX9_builtOf 6 = .ok (.if_icmp .ne 17, 3) := by decide +kernel
theorem dX9_builtOf_9 : decode cX9_builtOf 9 = .ok (.aload_n 0, 1) := by decide +kernel
theorem dX9_builtOf_10 : decode cX9_builtOf 10 = .ok (.getfield 84, 3) := by decide +kernel
theorem dX9_builtOf_13 : decode cX9_builtOf 13 = .ok (.iload_n 1, 1) := by decide +kernel
theorem dX9_builtOf_14 : decode cX9_builtOf 14 = .ok (.iaload, 1) := by decide +kernel
theorem dX9_builtOf_15 : decode cX9_builtOf 15 = .ok (.aload_n 0, 1) := by decide +kernel
theorem dX9_builtOf_16 : decode cX9_builtOf 16 = .ok (.getfield 81, 3) := by decide +kernel
theorem dX9_builtOf_19 : decode cX9_builtOf 19 = .ok (.iload_n 1, 1) := by decide +kernel
theorem dX9_builtOf_20 : decode cX9_builtOf 20 = .ok (.iaload, 1) := by decide +kernel
theorem dX9_builtOf_21 : decode cX9_builtOf 21 = .ok (.isub, 1) := by decide +kernel
theorem dX9_builtOf_22 : decode cX9_builtOf 22 = .ok (.ireturn, 1) := by decide +kernel
theorem dX9_builtOf_23 : decode cX9_builtOf 23 = .ok (.aload_n 0, 1) := by decide +kernel
theorem dX9_builtOf_24 : decode cX9_builtOf 24 = .ok (.iload_n 1, 1) := by decide +kernel
theorem dX9_builtOf_25 : decode cX9_builtOf 25 = .ok (.invokevirtual 283, 3) := by decide +kernel
theorem dX9_builtOf_28 : decode cX9_builtOf 28 = .ok (.aload_n 0, 1) := by decide +kernel
theorem dX9_builtOf_29 : decode cX9_builtOf 29 = .ok (.iload_n 1, 1) := by decide +kernel
theorem dX9_builtOf_30 : decode cX9_builtOf 30 = .ok (.aload_n 0, 1) := by decide +kernel
theorem dX9_builtOf_31 : decode cX9_builtOf 31 = .ok (.iload_n 1, 1) := by decide +kernel
theorem dX9_builtOf_32 : decode cX9_builtOf 32 = .ok (.invokevirtual 247, 3) := by decide +kernel
theorem dX9_builtOf_35 : decode cX9_builtOf 35 = .ok (.invokevirtual 287, 3) := by decide +kernel
theorem dX9_builtOf_38 : decode cX9_builtOf 38 = .ok (.ireturn, 1) := by decide +kernel
theorem dX9_count_0 : decode cX9_count 0 = .ok (.aload_n 0, 1) := by decide +kernel
theorem dX9_count_1 : decode cX9_count 1 = .ok (.iconst 0, 1) := by decide +kernel
theorem dX9_count_2 : decode cX9_count 2 = .ok (.putfield 138, 3) := by decide +kernel
theorem dX9_count_5 : decode cX9_count 5 = .ok (.iload_n 1, 1) := by decide +kernel
theorem dX9_count_6 : decode cX9_count 6 = .ok (.tableswitch 164 0 14 #[74, 81, 88, 95, 100, 105, 110, 115, 122, 129, 136, 141, 146, 154, 159], 74) := by decide +kernel
theorem dX9_count_80 : decode cX9_count 80 = .ok (.aload_n 0, 1) := by decide +kernel
theorem dX9_count_81 : decode cX9_count 81 = .ok (.getfield 7, 3) := by decide +kernel
theorem dX9_count_84 : decode cX9_count 84 = .ok (.iconst 0, 1) := by decide +kernel
theorem dX9_count_85 : decode cX9_count 85 = .ok (.iaload, 1) := by decide +kernel
theorem dX9_count_86 : decode cX9_count 86 = .ok (.ireturn, 1) := by decide +kernel
theorem dX9_count_87 : decode cX9_count 87 = .ok (.aload_n 0, 1) := by decide +kernel
theorem dX9_count_88 : decode cX9_count 88 = .ok (.getfield 7, 3) := by decide +kernel
theorem dX9_count_91 : decode cX9_count 91 = .ok (.iconst 1, 1) := by decide +kernel
theorem dX9_count_92 : decode cX9_count 92 = .ok (.iaload, 1) := by decide +kernel
theorem dX9_count_93 : decode cX9_count 93 = .ok (.ireturn, 1) := by decide +kernel
theorem dX9_count_94 : decode cX9_count 94 = .ok (.aload_n 0, 1) := by decide +kernel
theorem dX9_count_95 : decode cX9_count 95 = .ok (.getfield 7, 3) := by decide +kernel
theorem dX9_count_98 : decode cX9_count 98 = .ok (.iconst 2, 1) := by decide +kernel
theorem dX9_count_99 : decode cX9_count 99 = .ok (.iaload, 1) := by decide +kernel
theorem dX9_count_100 : decode cX9_count 100 = .ok (.ireturn, 1) := by decide +kernel
theorem dX9_count_101 : decode cX9_count 101 = .ok (.aload_n 0, 1) := by decide +kernel
theorem dX9_count_102 : decode cX9_count 102 = .ok (.getfield 204, 3) := by decide +kernel
theorem dX9_count_105 : decode cX9_count 105 = .ok (.ireturn, 1) := by decide +kernel
theorem dX9_count_106 : decode cX9_count 106 = .ok (.aload_n 0, 1) := by decide +kernel
theorem dX9_count_107 : decode cX9_count 107 = .ok (.invokevirtual 319, 3) := by decide +kernel
theorem dX9_count_110 : decode cX9_count 110 = .ok (.ireturn, 1) := by decide +kernel
theorem dX9_count_111 : decode cX9_count 111 = .ok (.aload_n 0, 1) := by decide +kernel
theorem dX9_count_112 : decode cX9_count 112 = .ok (.invokevirtual 300, 3) := by decide +kernel
theorem dX9_count_115 : decode cX9_count 115 = .ok (.ireturn, 1) := by decide +kernel
theorem dX9_count_116 : decode cX9_count 116 = .ok (.aload_n 0, 1) := by decide +kernel
theorem dX9_count_117 : decode cX9_count 117 = .ok (.invokevirtual 472, 3) := by decide +kernel
theorem dX9_count_120 : decode cX9_count 120 = .ok (.ireturn, 1) := by decide +kernel
theorem dX9_count_121 : decode cX9_count 121 = .ok (.aload_n 0, 1) := by decide +kernel
theorem dX9_count_122 : decode cX9_count 122 = .ok (.getfield 7, 3) := by decide +kernel
theorem dX9_count_125 : decode cX9_count 125 = .ok (.iconst 3, 1) := by decide +kernel
theorem dX9_count_126 : decode cX9_count 126 = .ok (.iaload, 1) := by decide +kernel
theorem dX9_count_127 : decode cX9_count 127 = .ok (.ireturn, 1) := by decide +kernel
theorem dX9_count_128 : decode cX9_count 128 = .ok (.aload_n 0, 1) := by decide +kernel
theorem dX9_count_129 : decode cX9_count 129 = .ok (.getfield 7, 3) := by decide +kernel
theorem dX9_count_132 : decode cX9_count 132 = .ok (.iconst 4, 1) := by decide +kernel
theorem dX9_count_133 : decode cX9_count 133 = .ok (.iaload, 1) := by decide +kernel
theorem dX9_count_134 : decode cX9_count 134 = .ok (.ireturn, 1) := by decide +kernel
theorem dX9_count_135 : decode cX9_count 135 = .ok (.aload_n 0, 1) := by decide +kernel
theorem dX9_count_136 : decode cX9_count 136 = .ok (.getfield 7, 3) := by decide +kernel
theorem dX9_count_139 : decode cX9_count 139 = .ok (.iconst 5, 1) := by decide +kernel
theorem dX9_count_140 : decode cX9_count 140 = .ok (.iaload, 1) := by decide +kernel
theorem dX9_count_141 : decode cX9_count 141 = .ok (.ireturn, 1) := by decide +kernel
theorem dX9_count_142 : decode cX9_count 142 = .ok (.aload_n 0, 1) := by decide +kernel
theorem dX9_count_143 : decode cX9_count 143 = .ok (.invokevirtual 475, 3) := by decide +kernel
theorem dX9_count_146 : decode cX9_count 146 = .ok (.ireturn, 1) := by decide +kernel
theorem dX9_count_147 : decode cX9_count 147 = .ok (.aload_n 0, 1) := by decide +kernel
theorem dX9_count_148 : decode cX9_count 148 = .ok (.invokevirtual 478, 3) := by decide +kernel
theorem dX9_count_151 : decode cX9_count 151 = .ok (.ireturn, 1) := by decide +kernel
theorem dX9_count_152 : decode cX9_count 152 = .ok (.aload_n 0, 1) := by decide +kernel
theorem dX9_count_153 : decode cX9_count 153 = .ok (.getfield 7, 3) := by decide +kernel
theorem dX9_count_156 : decode cX9_count 156 = .ok (.bipush 42, 2) := by decide +kernel
theorem dX9_count_158 : decode cX9_count 158 = .ok (.iaload, 1) := by decide +kernel
theorem dX9_count_159 : decode cX9_count 159 = .ok (.ireturn, 1) := by decide +kernel
theorem dX9_count_160 : decode cX9_count 160 = .ok (.aload_n 0, 1) := by decide +kernel
theorem dX9_count_161 : decode cX9_count 161 = .ok (.invokevirtual 481, 3) := by decide +kernel
theorem dX9_count_164 : decode cX9_count 164 = .ok (.ireturn, 1) := by decide +kernel
theorem dX9_count_165 : decode cX9_count 165 = .ok (.aload_n 0, 1) := by decide +kernel
theorem dX9_count_166 : decode cX9_count 166 = .ok (.getfield 325, 3) := by decide +kernel
theorem dX9_count_169 : decode cX9_count 169 = .ok (.ireturn, 1) := by decide +kernel
theorem dX9_count_170 : decode cX9_count 170 = .ok (.iconst (-1), 1) := by decide +kernel
theorem dX9_count_171 : decode cX9_count 171 = .ok (.ireturn, 1) := by decide +kernel
theorem dX9_cuts_0 : decode cX9_cuts 0 = .ok (.aload_n 0, 1) := by decide +kernel
theorem dX9_cuts_1 : decode cX9_cuts 1 = .ok (.iconst 0, 1) := by decide +kernel
theorem dX9_cuts_2 : decode cX9_cuts 2 = .ok (.putfield 145, 3) := by decide +kernel
theorem dX9_cuts_5 : decode cX9_cuts 5 = .ok (.iload_n 1, 1) := by decide +kernel
theorem dX9_cuts_6 : decode cX9_cuts 6 = .ok (.ifCond .ne 18, 3) := by decide +kernel
theorem dX9_cuts_9 : decode cX9_cuts 9 = .ok (.aload_n 0, 1) := by decide +kernel
theorem dX9_cuts_10 : decode cX9_cuts 10 = .ok (.aload_n 2, 1) := by decide +kernel
theorem dX9_cuts_11 : decode cX9_cuts 11 = .ok (.iload_n 3, 1) := by decide +kernel
theorem dX9_cuts_12 : decode cX9_cuts 12 = .ok (.aload 4, 2) := by decide +kernel
theorem dX9_cuts_14 : decode cX9_cuts 14 = .ok (.aload 5, 2) := by decide +kernel
theorem dX9_cuts_16 : decode cX9_cuts 16 = .ok (.aload 6, 2) := by decide +kernel
theorem dX9_cuts_18 : decode cX9_cuts 18 = .ok (.invokevirtual 160, 3) := by decide +kernel
theorem dX9_cuts_21 : decode cX9_cuts 21 = .ok (.goto 55, 3) := by decide +kernel
theorem dX9_cuts_24 : decode cX9_cuts 24 = .ok (.iload_n 1, 1) := by decide +kernel
theorem dX9_cuts_25 : decode cX9_cuts 25 = .ok (.iconst 1, 1) := by decide +kernel
theorem dX9_cuts_26 : decode cX9_cuts 26 = .ok (.if_icmp .ne 18, 3) := by decide +kernel
theorem dX9_cuts_29 : decode cX9_cuts 29 = .ok (.aload_n 0, 1) := by decide +kernel
theorem dX9_cuts_30 : decode cX9_cuts 30 = .ok (.aload_n 2, 1) := by decide +kernel
theorem dX9_cuts_31 : decode cX9_cuts 31 = .ok (.iload_n 3, 1) := by decide +kernel
theorem dX9_cuts_32 : decode cX9_cuts 32 = .ok (.aload 4, 2) := by decide +kernel
theorem dX9_cuts_34 : decode cX9_cuts 34 = .ok (.aload 5, 2) := by decide +kernel
theorem dX9_cuts_36 : decode cX9_cuts 36 = .ok (.aload 6, 2) := by decide +kernel
theorem dX9_cuts_38 : decode cX9_cuts 38 = .ok (.invokevirtual 164, 3) := by decide +kernel
theorem dX9_cuts_41 : decode cX9_cuts 41 = .ok (.goto 35, 3) := by decide +kernel
theorem dX9_cuts_44 : decode cX9_cuts 44 = .ok (.iload_n 1, 1) := by decide +kernel
theorem dX9_cuts_45 : decode cX9_cuts 45 = .ok (.iconst 2, 1) := by decide +kernel
theorem dX9_cuts_46 : decode cX9_cuts 46 = .ok (.if_icmp .ne 18, 3) := by decide +kernel
theorem dX9_cuts_49 : decode cX9_cuts 49 = .ok (.aload_n 0, 1) := by decide +kernel
theorem dX9_cuts_50 : decode cX9_cuts 50 = .ok (.aload_n 2, 1) := by decide +kernel
theorem dX9_cuts_51 : decode cX9_cuts 51 = .ok (.iload_n 3, 1) := by decide +kernel
theorem dX9_cuts_52 : decode cX9_cuts 52 = .ok (.aload 4, 2) := by decide +kernel
theorem dX9_cuts_54 : decode cX9_cuts 54 = .ok (.aload 5, 2) := by decide +kernel
theorem dX9_cuts_56 : decode cX9_cuts 56 = .ok (.aload 6, 2) := by decide +kernel
theorem dX9_cuts_58 : decode cX9_cuts 58 = .ok (.invokevirtual 167, 3) := by decide +kernel
theorem dX9_cuts_61 : decode cX9_cuts 61 = .ok (.goto 15, 3) := by decide +kernel
theorem dX9_cuts_64 : decode cX9_cuts 64 = .ok (.aload_n 0, 1) := by decide +kernel
theorem dX9_cuts_65 : decode cX9_cuts 65 = .ok (.aload_n 2, 1) := by decide +kernel
theorem dX9_cuts_66 : decode cX9_cuts 66 = .ok (.iload_n 3, 1) := by decide +kernel
theorem dX9_cuts_67 : decode cX9_cuts 67 = .ok (.aload 4, 2) := by decide +kernel
theorem dX9_cuts_69 : decode cX9_cuts 69 = .ok (.aload 5, 2) := by decide +kernel
theorem dX9_cuts_71 : decode cX9_cuts 71 = .ok (.aload 6, 2) := by decide +kernel
theorem dX9_cuts_73 : decode cX9_cuts 73 = .ok (.invokevirtual 170, 3) := by decide +kernel
theorem dX9_cuts_76 : decode cX9_cuts 76 = .ok (.aload_n 0, 1) := by decide +kernel
theorem dX9_cuts_77 : decode cX9_cuts 77 = .ok (.getfield 145, 3) := by decide +kernel
theorem dX9_cuts_80 : decode cX9_cuts 80 = .ok (.ireturn, 1) := by decide +kernel
theorem dX9_cutsAll_0 : decode cX9_cutsAll 0 = .ok (.aload_n 0, 1) := by decide +kernel
theorem dX9_cutsAll_1 : decode cX9_cutsAll 1 = .ok (.iconst 0, 1) := by decide +kernel
theorem dX9_cutsAll_2 : decode cX9_cutsAll 2 = .ok (.putfield 204, 3) := by decide +kernel
theorem dX9_cutsAll_5 : decode cX9_cutsAll 5 = .ok (.aload_n 0, 1) := by decide +kernel
theorem dX9_cutsAll_6 : decode cX9_cutsAll 6 = .ok (.iconst 0, 1) := by decide +kernel
theorem dX9_cutsAll_7 : decode cX9_cutsAll 7 = .ok (.putfield 217, 3) := by decide +kernel
theorem dX9_cutsAll_10 : decode cX9_cutsAll 10 = .ok (.iconst 0, 1) := by decide +kernel
theorem dX9_cutsAll_11 : decode cX9_cutsAll 11 = .ok (.istore_n 1, 1) := by decide +kernel
theorem dX9_cutsAll_12 : decode cX9_cutsAll 12 = .ok (.iload_n 1, 1) := by decide +kernel
theorem dX9_cutsAll_13 : decode cX9_cutsAll 13 = .ok (.aload_n 0, 1) := by decide +kernel
theorem dX9_cutsAll_14 : decode cX9_cutsAll 14 = .ok (.getfield 220, 3) := by decide +kernel
theorem dX9_cutsAll_17 : decode cX9_cutsAll 17 = .ok (.if_icmp .ge 25, 3) := by decide +kernel
theorem dX9_cutsAll_20 : decode cX9_cutsAll 20 = .ok (.aload_n 0, 1) := by decide +kernel
theorem dX9_cutsAll_21 : decode cX9_cutsAll 21 = .ok (.getfield 33, 3) := by decide +kernel
theorem dX9_cutsAll_24 : decode cX9_cutsAll 24 = .ok (.iload_n 1, 1) := by decide +kernel
theorem dX9_cutsAll_25 : decode cX9_cutsAll 25 = .ok (.iload_n 1, 1) := by decide +kernel
theorem dX9_cutsAll_26 : decode cX9_cutsAll 26 = .ok (.iastore, 1) := by decide +kernel
theorem dX9_cutsAll_27 : decode cX9_cutsAll 27 = .ok (.aload_n 0, 1) := by decide +kernel
theorem dX9_cutsAll_28 : decode cX9_cutsAll 28 = .ok (.getfield 36, 3) := by decide +kernel
theorem dX9_cutsAll_31 : decode cX9_cutsAll 31 = .ok (.iload_n 1, 1) := by decide +kernel
theorem dX9_cutsAll_32 : decode cX9_cutsAll 32 = .ok (.iload_n 1, 1) := by decide +kernel
theorem dX9_cutsAll_33 : decode cX9_cutsAll 33 = .ok (.iconst 1, 1) := by decide +kernel
theorem dX9_cutsAll_34 : decode cX9_cutsAll 34 = .ok (.iadd, 1) := by decide +kernel
theorem dX9_cutsAll_35 : decode cX9_cutsAll 35 = .ok (.iastore, 1) := by decide +kernel
theorem dX9_cutsAll_36 : decode cX9_cutsAll 36 = .ok (.iinc 1 1, 3) := by decide +kernel
theorem dX9_cutsAll_39 : decode cX9_cutsAll 39 = .ok (.goto (-27), 3) := by decide +kernel
theorem dX9_cutsAll_42 : decode cX9_cutsAll 42 = .ok (.aload_n 0, 1) := by decide +kernel
theorem dX9_cutsAll_43 : decode cX9_cutsAll 43 = .ok (.aload_n 0, 1) := by decide +kernel
theorem dX9_cutsAll_44 : decode cX9_cutsAll 44 = .ok (.aload_n 0, 1) := by decide +kernel
theorem dX9_cutsAll_45 : decode cX9_cutsAll 45 = .ok (.getfield 7, 3) := by decide +kernel
theorem dX9_cutsAll_48 : decode cX9_cutsAll 48 = .ok (.iconst 1, 1) := by decide +kernel
theorem dX9_cutsAll_49 : decode cX9_cutsAll 49 = .ok (.iaload, 1) := by decide +kernel
theorem dX9_cutsAll_50 : decode cX9_cutsAll 50 = .ok (.aload_n 0, 1) := by decide +kernel
theorem dX9_cutsAll_51 : decode cX9_cutsAll 51 = .ok (.getfield 30, 3) := by decide +kernel
theorem dX9_cutsAll_54 : decode cX9_cutsAll 54 = .ok (.aload_n 0, 1) := by decide +kernel
theorem dX9_cutsAll_55 : decode cX9_cutsAll 55 = .ok (.getfield 220, 3) := by decide +kernel
theorem dX9_cutsAll_58 : decode cX9_cutsAll 58 = .ok (.aload_n 0, 1) := by decide +kernel
theorem dX9_cutsAll_59 : decode cX9_cutsAll 59 = .ok (.getfield 39, 3) := by decide +kernel
theorem dX9_cutsAll_62 : decode cX9_cutsAll 62 = .ok (.aload_n 0, 1) := by decide +kernel
theorem dX9_cutsAll_63 : decode cX9_cutsAll 63 = .ok (.getfield 42, 3) := by decide +kernel
theorem dX9_cutsAll_66 : decode cX9_cutsAll 66 = .ok (.aload_n 0, 1) := by decide +kernel
theorem dX9_cutsAll_67 : decode cX9_cutsAll 67 = .ok (.getfield 45, 3) := by decide +kernel
theorem dX9_cutsAll_70 : decode cX9_cutsAll 70 = .ok (.invokevirtual 223, 3) := by decide +kernel
theorem dX9_cutsAll_73 : decode cX9_cutsAll 73 = .ok (.putfield 227, 3) := by decide +kernel
theorem dX9_cutsAll_76 : decode cX9_cutsAll 76 = .ok (.iconst 0, 1) := by decide +kernel
theorem dX9_cutsAll_77 : decode cX9_cutsAll 77 = .ok (.istore_n 1, 1) := by decide +kernel
theorem dX9_cutsAll_78 : decode cX9_cutsAll 78 = .ok (.iload_n 1, 1) := by decide +kernel
theorem dX9_cutsAll_79 : decode cX9_cutsAll 79 = .ok (.aload_n 0, 1) := by decide +kernel
theorem dX9_cutsAll_80 : decode cX9_cutsAll 80 = .ok (.getfield 227, 3) := by decide +kernel
theorem dX9_cutsAll_83 : decode cX9_cutsAll 83 = .ok (.if_icmp .ge 256, 3) := by decide +kernel
theorem dX9_cutsAll_86 : decode cX9_cutsAll 86 = .ok (.aload_n 0, 1) := by decide +kernel
theorem dX9_cutsAll_87 : decode cX9_cutsAll 87 = .ok (.aload_n 0, 1) := by decide +kernel
theorem dX9_cutsAll_88 : decode cX9_cutsAll 88 = .ok (.aload_n 0, 1) := by decide +kernel
theorem dX9_cutsAll_89 : decode cX9_cutsAll 89 = .ok (.getfield 7, 3) := by decide +kernel
theorem dX9_cutsAll_92 : decode cX9_cutsAll 92 = .ok (.iconst 1, 1) := by decide +kernel
theorem dX9_cutsAll_93 : decode cX9_cutsAll 93 = .ok (.iaload, 1) := by decide +kernel
theorem dX9_cutsAll_94 : decode cX9_cutsAll 94 = .ok (.aload_n 0, 1) := by decide +kernel
theorem dX9_cutsAll_95 : decode cX9_cutsAll 95 = .ok (.getfield 45, 3) := by decide +kernel
theorem dX9_cutsAll_98 : decode cX9_cutsAll 98 = .ok (.iload_n 1, 1) := by decide +kernel
theorem dX9_cutsAll_99 : decode cX9_cutsAll 99 = .ok (.iaload, 1) := by decide +kernel
theorem dX9_cutsAll_100 : decode cX9_cutsAll 100 = .ok (.iconst 1, 1) := by decide +kernel
theorem dX9_cutsAll_101 : decode cX9_cutsAll 101 = .ok (.if_icmp .ne 7, 3) := by decide +kernel
theorem dX9_cutsAll_104 : decode cX9_cutsAll 104 = .ok (.iconst 1, 1) := by decide +kernel
theorem dX9_cutsAll_105 : decode cX9_cutsAll 105 = .ok (.goto 4, 3) := by decide +kernel
theorem dX9_cutsAll_108 : decode cX9_cutsAll 108 = .ok (.iconst 0, 1) := by decide +kernel
theorem dX9_cutsAll_109 : decode cX9_cutsAll 109 = .ok (.aload_n 0, 1) := by decide +kernel
theorem dX9_cutsAll_110 : decode cX9_cutsAll 110 = .ok (.getfield 30, 3) := by decide +kernel
theorem dX9_cutsAll_113 : decode cX9_cutsAll 113 = .ok (.aload_n 0, 1) := by decide +kernel
theorem dX9_cutsAll_114 : decode cX9_cutsAll 114 = .ok (.getfield 33, 3) := by decide +kernel
theorem dX9_cutsAll_117 : decode cX9_cutsAll 117 = .ok (.aload_n 0, 1) := by decide +kernel
theorem dX9_cutsAll_118 : decode cX9_cutsAll 118 = .ok (.getfield 36, 3) := by decide +kernel
theorem dX9_cutsAll_121 : decode cX9_cutsAll 121 = .ok (.aload_n 0, 1) := by decide +kernel
theorem dX9_cutsAll_122 : decode cX9_cutsAll 122 = .ok (.getfield 39, 3) := by decide +kernel
theorem dX9_cutsAll_125 : decode cX9_cutsAll 125 = .ok (.iload_n 1, 1) := by decide +kernel
theorem dX9_cutsAll_126 : decode cX9_cutsAll 126 = .ok (.iaload, 1) := by decide +kernel
theorem dX9_cutsAll_127 : decode cX9_cutsAll 127 = .ok (.aload_n 0, 1) := by decide +kernel
theorem dX9_cutsAll_128 : decode cX9_cutsAll 128 = .ok (.getfield 42, 3) := by decide +kernel
theorem dX9_cutsAll_131 : decode cX9_cutsAll 131 = .ok (.iload_n 1, 1) := by decide +kernel
theorem dX9_cutsAll_132 : decode cX9_cutsAll 132 = .ok (.iaload, 1) := by decide +kernel
theorem dX9_cutsAll_133 : decode cX9_cutsAll 133 = .ok (.aload_n 0, 1) := by decide +kernel
theorem dX9_cutsAll_134 : decode cX9_cutsAll 134 = .ok (.getfield 54, 3) := by decide +kernel
theorem dX9_cutsAll_137 : decode cX9_cutsAll 137 = .ok (.aload_n 0, 1) := by decide +kernel
theorem dX9_cutsAll_138 : decode cX9_cutsAll 138 = .ok (.getfield 57, 3) := by decide +kernel
theorem dX9_cutsAll_141 : decode cX9_cutsAll 141 = .ok (.aload_n 0, 1) := by decide +kernel
theorem dX9_cutsAll_142 : decode cX9_cutsAll 142 = .ok (.getfield 60, 3) := by decide +kernel
theorem dX9_cutsAll_145 : decode cX9_cutsAll 145 = .ok (.invokevirtual 230, 3) := by decide +kernel
theorem dX9_cutsAll_148 : decode cX9_cutsAll 148 = .ok (.putfield 234, 3) := by decide +kernel
theorem dX9_cutsAll_151 : decode cX9_cutsAll 151 = .ok (.aload_n 0, 1) := by decide +kernel
theorem dX9_cutsAll_152 : decode cX9_cutsAll 152 = .ok (.getfield 7, 3) := by decide +kernel
theorem dX9_cutsAll_155 : decode cX9_cutsAll 155 = .ok (.iconst 2, 1) := by decide +kernel
theorem dX9_cutsAll_156 : decode cX9_cutsAll 156 = .ok (.iaload, 1) := by decide +kernel
theorem dX9_cutsAll_157 : decode cX9_cutsAll 157 = .ok (.iconst (-1), 1) := by decide +kernel
theorem dX9_cutsAll_158 : decode cX9_cutsAll 158 = .ok (.if_icmp .ne 29, 3) := by decide +kernel
theorem dX9_cutsAll_161 : decode cX9_cutsAll 161 = .ok (.aload_n 0, 1) := by decide +kernel
theorem dX9_cutsAll_162 : decode cX9_cutsAll 162 = .ok (.iload_n 1, 1) := by decide +kernel
theorem dX9_cutsAll_163 : decode cX9_cutsAll 163 = .ok (.aload_n 0, 1) := by decide +kernel
theorem dX9_cutsAll_164 : decode cX9_cutsAll 164 = .ok (.getfield 54, 3) := by decide +kernel
theorem dX9_cutsAll_167 : decode cX9_cutsAll 167 = .ok (.aload_n 0, 1) := by decide +kernel
theorem dX9_cutsAll_168 : decode cX9_cutsAll 168 = .ok (.getfield 57, 3) := by decide +kernel
theorem dX9_cutsAll_171 : decode cX9_cutsAll 171 = .ok (.aload_n 0, 1) := by decide +kernel
theorem dX9_cutsAll_172 : decode cX9_cutsAll 172 = .ok (.getfield 60, 3) := by decide +kernel
theorem dX9_cutsAll_175 : decode cX9_cutsAll 175 = .ok (.aload_n 0, 1) := by decide +kernel
theorem dX9_cutsAll_176 : decode cX9_cutsAll 176 = .ok (.getfield 234, 3) := by decide +kernel
theorem dX9_cutsAll_179 : decode cX9_cutsAll 179 = .ok (.iconst 1, 1) := by decide +kernel
theorem dX9_cutsAll_180 : decode cX9_cutsAll 180 = .ok (.iconst 0, 1) := by decide +kernel
theorem dX9_cutsAll_181 : decode cX9_cutsAll 181 = .ok (.invokevirtual 237, 3) := by decide +kernel
theorem dX9_cutsAll_184 : decode cX9_cutsAll 184 = .ok (.goto 149, 3) := by decide +kernel
theorem dX9_cutsAll_187 : decode cX9_cutsAll 187 = .ok (.aload_n 0, 1) := by decide +kernel
theorem dX9_cutsAll_188 : decode cX9_cutsAll 188 = .ok (.aload_n 0, 1) := by decide +kernel
theorem dX9_cutsAll_189 : decode cX9_cutsAll 189 = .ok (.getfield 7, 3) := by decide +kernel
theorem dX9_cutsAll_192 : decode cX9_cutsAll 192 = .ok (.iconst 2, 1) := by decide +kernel
theorem dX9_cutsAll_193 : decode cX9_cutsAll 193 = .ok (.iaload, 1) := by decide +kernel
theorem dX9_cutsAll_194 : decode cX9_cutsAll 194 = .ok (.aload_n 0, 1) := by decide +kernel
theorem dX9_cutsAll_195 : decode cX9_cutsAll 195 = .ok (.getfield 54, 3) := by decide +kernel
theorem dX9_cutsAll_198 : decode cX9_cutsAll 198 = .ok (.aload_n 0, 1) := by decide +kernel
theorem dX9_cutsAll_199 : decode cX9_cutsAll 199 = .ok (.getfield 234, 3) := by decide +kernel
theorem dX9_cutsAll_202 : decode cX9_cutsAll 202 = .ok (.aload_n 0, 1) := by decide +kernel
theorem dX9_cutsAll_203 : decode cX9_cutsAll 203 = .ok (.getfield 63, 3) := by decide +kernel
theorem dX9_cutsAll_206 : decode cX9_cutsAll 206 = .ok (.aload_n 0, 1) := by decide +kernel
theorem dX9_cutsAll_207 : decode cX9_cutsAll 207 = .ok (.getfield 66, 3) := by decide +kernel
theorem dX9_cutsAll_210 : decode cX9_cutsAll 210 = .ok (.aload_n 0, 1) := by decide +kernel
theorem dX9_cutsAll_211 : decode cX9_cutsAll 211 = .ok (.getfield 69, 3) := by decide +kernel
theorem dX9_cutsAll_214 : decode cX9_cutsAll 214 = .ok (.invokevirtual 223, 3) := by decide +kernel
theorem dX9_cutsAll_217 : decode cX9_cutsAll 217 = .ok (.istore_n 2, 1) := by decide +kernel
theorem dX9_cutsAll_218 : decode cX9_cutsAll 218 = .ok (.iconst 0, 1) := by decide +kernel
theorem dX9_cutsAll_219 : decode cX9_cutsAll 219 = .ok (.istore_n 3, 1) := by decide +kernel
theorem dX9_cutsAll_220 : decode cX9_cutsAll 220 = .ok (.iload_n 3, 1) := by decide +kernel
theorem dX9_cutsAll_221 : decode cX9_cutsAll 221 = .ok (.iload_n 2, 1) := by decide +kernel
theorem dX9_cutsAll_222 : decode cX9_cutsAll 222 = .ok (.if_icmp .ge 111, 3) := by decide +kernel
theorem dX9_cutsAll_225 : decode cX9_cutsAll 225 = .ok (.aload_n 0, 1) := by decide +kernel
theorem dX9_cutsAll_226 : decode cX9_cutsAll 226 = .ok (.aload_n 0, 1) := by decide +kernel
theorem dX9_cutsAll_227 : decode cX9_cutsAll 227 = .ok (.getfield 7, 3) := by decide +kernel
theorem dX9_cutsAll_230 : decode cX9_cutsAll 230 = .ok (.iconst 2, 1) := by decide +kernel
theorem dX9_cutsAll_231 : decode cX9_cutsAll 231 = .ok (.iaload, 1) := by decide +kernel
theorem dX9_cutsAll_232 : decode cX9_cutsAll 232 = .ok (.aload_n 0, 1) := by decide +kernel
theorem dX9_cutsAll_233 : decode cX9_cutsAll 233 = .ok (.getfield 69, 3) := by decide +kernel
theorem dX9_cutsAll_236 : decode cX9_cutsAll 236 = .ok (.iload_n 3, 1) := by decide +kernel
theorem dX9_cutsAll_237 : decode cX9_cutsAll 237 = .ok (.iaload, 1) := by decide +kernel
theorem dX9_cutsAll_238 : decode cX9_cutsAll 238 = .ok (.iconst 1, 1) := by decide +kernel
theorem dX9_cutsAll_239 : decode cX9_cutsAll 239 = .ok (.if_icmp .ne 7, 3) := by decide +kernel
theorem dX9_cutsAll_242 : decode cX9_cutsAll 242 = .ok (.iconst 1, 1) := by decide +kernel
theorem dX9_cutsAll_243 : decode cX9_cutsAll 243 = .ok (.goto 4, 3) := by decide +kernel
theorem dX9_cutsAll_246 : decode cX9_cutsAll 246 = .ok (.iconst 0, 1) := by decide +kernel
theorem dX9_cutsAll_247 : decode cX9_cutsAll 247 = .ok (.aload_n 0, 1) := by decide +kernel
theorem dX9_cutsAll_248 : decode cX9_cutsAll 248 = .ok (.getfield 54, 3) := by decide +kernel
theorem dX9_cutsAll_251 : decode cX9_cutsAll 251 = .ok (.aload_n 0, 1) := by decide +kernel
theorem dX9_cutsAll_252 : decode cX9_cutsAll 252 = .ok (.getfield 57, 3) := by decide +kernel
theorem dX9_cutsAll_255 : decode cX9_cutsAll 255 = .ok (.aload_n 0, 1) := by decide +kernel
theorem dX9_cutsAll_256 : decode cX9_cutsAll 256 = .ok (.getfield 60, 3) := by decide +kernel
theorem dX9_cutsAll_259 : decode cX9_cutsAll 259 = .ok (.aload_n 0, 1) := by decide +kernel
theorem dX9_cutsAll_260 : decode cX9_cutsAll 260 = .ok (.getfield 63, 3) := by decide +kernel
theorem dX9_cutsAll_263 : decode cX9_cutsAll 263 = .ok (.iload_n 3, 1) := by decide +kernel
theorem dX9_cutsAll_264 : decode cX9_cutsAll 264 = .ok (.iaload, 1) := by decide +kernel
theorem dX9_cutsAll_265 : decode cX9_cutsAll 265 = .ok (.aload_n 0, 1) := by decide +kernel
theorem dX9_cutsAll_266 : decode cX9_cutsAll 266 = .ok (.getfield 66, 3) := by decide +kernel
theorem dX9_cutsAll_269 : decode cX9_cutsAll 269 = .ok (.iload_n 3, 1) := by decide +kernel
theorem dX9_cutsAll_270 : decode cX9_cutsAll 270 = .ok (.iaload, 1) := by decide +kernel
theorem dX9_cutsAll_271 : decode cX9_cutsAll 271 = .ok (.aload_n 0, 1) := by decide +kernel
theorem dX9_cutsAll_272 : decode cX9_cutsAll 272 = .ok (.getfield 72, 3) := by decide +kernel
theorem dX9_cutsAll_275 : decode cX9_cutsAll 275 = .ok (.aload_n 0, 1) := by decide +kernel
theorem dX9_cutsAll_276 : decode cX9_cutsAll 276 = .ok (.getfield 75, 3) := by decide +kernel
theorem dX9_cutsAll_279 : decode cX9_cutsAll 279 = .ok (.aload_n 0, 1) := by decide +kernel
theorem dX9_cutsAll_280 : decode cX9_cutsAll 280 = .ok (.getfield 78, 3) := by decide +kernel
theorem dX9_cutsAll_283 : decode cX9_cutsAll 283 = .ok (.invokevirtual 230, 3) := by decide +kernel
theorem dX9_cutsAll_286 : decode cX9_cutsAll 286 = .ok (.istore 4, 2) := by decide +kernel
theorem dX9_cutsAll_288 : decode cX9_cutsAll 288 = .ok (.aload_n 0, 1) := by decide +kernel
theorem dX9_cutsAll_289 : decode cX9_cutsAll 289 = .ok (.iload_n 1, 1) := by decide +kernel
theorem dX9_cutsAll_290 : decode cX9_cutsAll 290 = .ok (.aload_n 0, 1) := by decide +kernel
theorem dX9_cutsAll_291 : decode cX9_cutsAll 291 = .ok (.getfield 72, 3) := by decide +kernel
theorem dX9_cutsAll_294 : decode cX9_cutsAll 294 = .ok (.aload_n 0, 1) := by decide +kernel
theorem dX9_cutsAll_295 : decode cX9_cutsAll 295 = .ok (.getfield 75, 3) := by decide +kernel
theorem dX9_cutsAll_298 : decode cX9_cutsAll 298 = .ok (.aload_n 0, 1) := by decide +kernel
theorem dX9_cutsAll_299 : decode cX9_cutsAll 299 = .ok (.getfield 78, 3) := by decide +kernel
theorem dX9_cutsAll_302 : decode cX9_cutsAll 302 = .ok (.iload 4, 2) := by decide +kernel
theorem dX9_cutsAll_304 : decode cX9_cutsAll 304 = .ok (.aload_n 0, 1) := by decide +kernel
theorem dX9_cutsAll_305 : decode cX9_cutsAll 305 = .ok (.getfield 63, 3) := by decide +kernel
theorem dX9_cutsAll_308 : decode cX9_cutsAll 308 = .ok (.iload_n 3, 1) := by decide +kernel
theorem dX9_cutsAll_309 : decode cX9_cutsAll 309 = .ok (.iaload, 1) := by decide +kernel
theorem dX9_cutsAll_310 : decode cX9_cutsAll 310 = .ok (.ifCond .ne 7, 3) := by decide +kernel
theorem dX9_cutsAll_313 : decode cX9_cutsAll 313 = .ok (.iconst 1, 1) := by decide +kernel
theorem dX9_cutsAll_314 : decode cX9_cutsAll 314 = .ok (.goto 4, 3) := by decide +kernel
theorem dX9_cutsAll_317 : decode cX9_cutsAll 317 = .ok (.iconst 0, 1) := by decide +kernel
theorem dX9_cutsAll_318 : decode cX9_cutsAll 318 = .ok (.aload_n 0, 1) := by decide +kernel
theorem dX9_cutsAll_319 : decode cX9_cutsAll 319 = .ok (.getfield 69, 3) := by decide +kernel
theorem dX9_cutsAll_322 : decode cX9_cutsAll 322 = .ok (.iload_n 3, 1) := by decide +kernel
theorem dX9_cutsAll_323 : decode cX9_cutsAll 323 = .ok (.iaload, 1) := by decide +kernel
theorem dX9_cutsAll_324 : decode cX9_cutsAll 324 = .ok (.invokevirtual 237, 3) := by decide +kernel
theorem dX9_cutsAll_327 : decode cX9_cutsAll 327 = .ok (.iinc 3 1, 3) := by decide +kernel
theorem dX9_cutsAll_330 : decode cX9_cutsAll 330 = .ok (.goto (-110), 3) := by decide +kernel
theorem dX9_cutsAll_333 : decode cX9_cutsAll 333 = .ok (.iinc 1 1, 3) := by decide +kernel
theorem dX9_cutsAll_336 : decode cX9_cutsAll 336 = .ok (.goto (-258), 3) := by decide +kernel
theorem dX9_cutsAll_339 : decode cX9_cutsAll 339 = .ok (.return_, 1) := by decide +kernel
theorem dX9_cutsAnew_0 : decode cX9_cutsAnew 0 = .ok (.aload_n 0, 1) := by decide +kernel
theorem dX9_cutsAnew_1 : decode cX9_cutsAnew 1 = .ok (.invokevirtual 244, 3) := by decide +kernel
theorem dX9_cutsAnew_4 : decode cX9_cutsAnew 4 = .ok (.iconst 0, 1) := by decide +kernel
theorem dX9_cutsAnew_5 : decode cX9_cutsAnew 5 = .ok (.istore_n 1, 1) := by decide +kernel
theorem dX9_cutsAnew_6 : decode cX9_cutsAnew 6 = .ok (.iload_n 1, 1) := by decide +kernel
theorem dX9_cutsAnew_7 : decode cX9_cutsAnew 7 = .ok (.bipush 40, 2) := by decide +kernel
theorem dX9_cutsAnew_9 : decode cX9_cutsAnew 9 = .ok (.if_icmp .ge 23, 3) := by decide +kernel
theorem dX9_cutsAnew_12 : decode cX9_cutsAnew 12 = .ok (.aload_n 0, 1) := by decide +kernel
theorem dX9_cutsAnew_13 : decode cX9_cutsAnew 13 = .ok (.getfield 7, 3) := by decide +kernel
theorem dX9_cutsAnew_16 : decode cX9_cutsAnew 16 = .ok (.sipush 443, 3) := by decide +kernel
theorem dX9_cutsAnew_19 : decode cX9_cutsAnew 19 = .ok (.bipush 61, 2) := by decide +kernel
theorem dX9_cutsAnew_21 : decode cX9_cutsAnew 21 = .ok (.iload_n 1, 1) := by decide +kernel
theorem dX9_cutsAnew_22 : decode cX9_cutsAnew 22 = .ok (.imul, 1) := by decide +kernel
theorem dX9_cutsAnew_23 : decode cX9_cutsAnew 23 = .ok (.iadd, 1) := by decide +kernel
theorem dX9_cutsAnew_24 : decode cX9_cutsAnew 24 = .ok (.iconst (-1), 1) := by decide +kernel
theorem dX9_cutsAnew_25 : decode cX9_cutsAnew 25 = .ok (.iastore, 1) := by decide +kernel
theorem dX9_cutsAnew_26 : decode cX9_cutsAnew 26 = .ok (.iinc 1 1, 3) := by decide +kernel
theorem dX9_cutsAnew_29 : decode cX9_cutsAnew 29 = .ok (.goto (-23), 3) := by decide +kernel
theorem dX9_cutsAnew_32 : decode cX9_cutsAnew 32 = .ok (.return_, 1) := by decide +kernel
theorem dX9_cutsBuilt_0 : decode cX9_cutsBuilt 0 = .ok (.aload_n 0, 1) := by decide +kernel
theorem dX9_cutsBuilt_1 : decode cX9_cutsBuilt 1 = .ok (.invokevirtual 441, 3) := by decide +kernel
theorem dX9_cutsBuilt_4 : decode cX9_cutsBuilt 4 = .ok (.istore_n 1, 1) := by decide +kernel
theorem dX9_cutsBuilt_5 : decode cX9_cutsBuilt 5 = .ok (.aload_n 0, 1) := by decide +kernel
theorem dX9_cutsBuilt_6 : decode cX9_cutsBuilt 6 = .ok (.getfield 204, 3) := by decide +kernel
theorem dX9_cutsBuilt_9 : decode cX9_cutsBuilt 9 = .ok (.istore_n 2, 1) := by decide +kernel
theorem dX9_cutsBuilt_10 : decode cX9_cutsBuilt 10 = .ok (.iconst 0, 1) := by decide +kernel
theorem dX9_cutsBuilt_11 : decode cX9_cutsBuilt 11 = .ok (.istore_n 3, 1) := by decide +kernel
theorem dX9_cutsBuilt_12 : decode cX9_cutsBuilt 12 = .ok (.aload_n 0, 1) := by decide +kernel
theorem dX9_cutsBuilt_13 : decode cX9_cutsBuilt 13 = .ok (.iload_n 2, 1) := by decide +kernel
theorem dX9_cutsBuilt_14 : decode cX9_cutsBuilt 14 = .ok (.putfield 459, 3) := by decide +kernel
theorem dX9_cutsBuilt_17 : decode cX9_cutsBuilt 17 = .ok (.iconst 0, 1) := by decide +kernel
theorem dX9_cutsBuilt_18 : decode cX9_cutsBuilt 18 = .ok (.istore 4, 2) := by decide +kernel
theorem dX9_cutsBuilt_20 : decode cX9_cutsBuilt 20 = .ok (.iload 4, 2) := by decide +kernel
theorem dX9_cutsBuilt_22 : decode cX9_cutsBuilt 22 = .ok (.iload_n 2, 1) := by decide +kernel
theorem dX9_cutsBuilt_23 : decode cX9_cutsBuilt 23 = .ok (.if_icmp .ge 61, 3) := by decide +kernel
theorem dX9_cutsBuilt_26 : decode cX9_cutsBuilt 26 = .ok (.aload_n 0, 1) := by decide +kernel
theorem dX9_cutsBuilt_27 : decode cX9_cutsBuilt 27 = .ok (.getfield 126, 3) := by decide +kernel
theorem dX9_cutsBuilt_30 : decode cX9_cutsBuilt 30 = .ok (.iload 4, 2) := by decide +kernel
theorem dX9_cutsBuilt_32 : decode cX9_cutsBuilt 32 = .ok (.iload_n 3, 1) := by decide +kernel
theorem dX9_cutsBuilt_33 : decode cX9_cutsBuilt 33 = .ok (.iastore, 1) := by decide +kernel
theorem dX9_cutsBuilt_34 : decode cX9_cutsBuilt 34 = .ok (.iconst 0, 1) := by decide +kernel
theorem dX9_cutsBuilt_35 : decode cX9_cutsBuilt 35 = .ok (.istore 5, 2) := by decide +kernel
theorem dX9_cutsBuilt_37 : decode cX9_cutsBuilt 37 = .ok (.iload 5, 2) := by decide +kernel
theorem dX9_cutsBuilt_39 : decode cX9_cutsBuilt 39 = .ok (.aload_n 0, 1) := by decide +kernel
theorem dX9_cutsBuilt_40 : decode cX9_cutsBuilt 40 = .ok (.iload 4, 2) := by decide +kernel
theorem dX9_cutsBuilt_42 : decode cX9_cutsBuilt 42 = .ok (.invokevirtual 313, 3) := by decide +kernel
theorem dX9_cutsBuilt_45 : decode cX9_cutsBuilt 45 = .ok (.if_icmp .ge 33, 3) := by decide +kernel
theorem dX9_cutsBuilt_48 : decode cX9_cutsBuilt 48 = .ok (.iload_n 3, 1) := by decide +kernel
theorem dX9_cutsBuilt_49 : decode cX9_cutsBuilt 49 = .ok (.sipush 700, 3) := by decide +kernel
theorem dX9_cutsBuilt_52 : decode cX9_cutsBuilt 52 = .ok (.if_icmp .ge 26, 3) := by decide +kernel
theorem dX9_cutsBuilt_55 : decode cX9_cutsBuilt 55 = .ok (.aload_n 0, 1) := by decide +kernel
theorem dX9_cutsBuilt_56 : decode cX9_cutsBuilt 56 = .ok (.getfield 123, 3) := by decide +kernel
theorem dX9_cutsBuilt_59 : decode cX9_cutsBuilt 59 = .ok (.iload_n 3, 1) := by decide +kernel
theorem dX9_cutsBuilt_60 : decode cX9_cutsBuilt 60 = .ok (.aload_n 0, 1) := by decide +kernel
theorem dX9_cutsBuilt_61 : decode cX9_cutsBuilt 61 = .ok (.iload 4, 2) := by decide +kernel
theorem dX9_cutsBuilt_63 : decode cX9_cutsBuilt 63 = .ok (.iload 5, 2) := by decide +kernel
theorem dX9_cutsBuilt_65 : decode cX9_cutsBuilt 65 = .ok (.invokevirtual 316, 3) := by decide +kernel
theorem dX9_cutsBuilt_68 : decode cX9_cutsBuilt 68 = .ok (.iastore, 1) := by decide +kernel
theorem dX9_cutsBuilt_69 : decode cX9_cutsBuilt 69 = .ok (.iinc 3 1, 3) := by decide +kernel
theorem dX9_cutsBuilt_72 : decode cX9_cutsBuilt 72 = .ok (.iinc 5 1, 3) := by decide +kernel
theorem dX9_cutsBuilt_75 : decode cX9_cutsBuilt 75 = .ok (.goto (-38), 3) := by decide +kernel
theorem dX9_cutsBuilt_78 : decode cX9_cutsBuilt 78 = .ok (.iinc 4 1, 3) := by decide +kernel
theorem dX9_cutsBuilt_81 : decode cX9_cutsBuilt 81 = .ok (.goto (-61), 3) := by decide +kernel
theorem dX9_cutsBuilt_84 : decode cX9_cutsBuilt 84 = .ok (.aload_n 0, 1) := by decide +kernel
theorem dX9_cutsBuilt_85 : decode cX9_cutsBuilt 85 = .ok (.getfield 126, 3) := by decide +kernel
theorem dX9_cutsBuilt_88 : decode cX9_cutsBuilt 88 = .ok (.iload_n 2, 1) := by decide +kernel
theorem dX9_cutsBuilt_89 : decode cX9_cutsBuilt 89 = .ok (.iload_n 3, 1) := by decide +kernel
theorem dX9_cutsBuilt_90 : decode cX9_cutsBuilt 90 = .ok (.iastore, 1) := by decide +kernel
theorem dX9_cutsBuilt_91 : decode cX9_cutsBuilt 91 = .ok (.aload_n 0, 1) := by decide +kernel
theorem dX9_cutsBuilt_92 : decode cX9_cutsBuilt 92 = .ok (.iload_n 1, 1) := by decide +kernel
theorem dX9_cutsBuilt_93 : decode cX9_cutsBuilt 93 = .ok (.putfield 220, 3) := by decide +kernel
theorem dX9_cutsBuilt_96 : decode cX9_cutsBuilt 96 = .ok (.iconst 0, 1) := by decide +kernel
theorem dX9_cutsBuilt_97 : decode cX9_cutsBuilt 97 = .ok (.istore 4, 2) := by decide +kernel
theorem dX9_cutsBuilt_99 : decode cX9_cutsBuilt 99 = .ok (.iload 4, 2) := by decide +kernel
theorem dX9_cutsBuilt_101 : decode cX9_cutsBuilt 101 = .ok (.iload_n 1, 1) := by decide +kernel
theorem dX9_cutsBuilt_102 : decode cX9_cutsBuilt 102 = .ok (.if_icmp .ge 23, 3) := by decide +kernel
theorem dX9_cutsBuilt_105 : decode cX9_cutsBuilt 105 = .ok (.aload_n 0, 1) := by decide +kernel
theorem dX9_cutsBuilt_106 : decode cX9_cutsBuilt 106 = .ok (.getfield 30, 3) := by decide +kernel
theorem dX9_cutsBuilt_109 : decode cX9_cutsBuilt 109 = .ok (.iload 4, 2) := by decide +kernel
theorem dX9_cutsBuilt_111 : decode cX9_cutsBuilt 111 = .ok (.aload_n 0, 1) := by decide +kernel
theorem dX9_cutsBuilt_112 : decode cX9_cutsBuilt 112 = .ok (.getfield 120, 3) := by decide +kernel
theorem dX9_cutsBuilt_115 : decode cX9_cutsBuilt 115 = .ok (.iload 4, 2) := by decide +kernel
theorem dX9_cutsBuilt_117 : decode cX9_cutsBuilt 117 = .ok (.iaload, 1) := by decide +kernel
theorem dX9_cutsBuilt_118 : decode cX9_cutsBuilt 118 = .ok (.iastore, 1) := by decide +kernel
theorem dX9_cutsBuilt_119 : decode cX9_cutsBuilt 119 = .ok (.iinc 4 1, 3) := by decide +kernel
theorem dX9_cutsBuilt_122 : decode cX9_cutsBuilt 122 = .ok (.goto (-23), 3) := by decide +kernel
theorem dX9_cutsBuilt_125 : decode cX9_cutsBuilt 125 = .ok (.aload_n 0, 1) := by decide +kernel
theorem dX9_cutsBuilt_126 : decode cX9_cutsBuilt 126 = .ok (.invokevirtual 241, 3) := by decide +kernel
theorem dX9_cutsBuilt_129 : decode cX9_cutsBuilt 129 = .ok (.return_, 1) := by decide +kernel
theorem dX9_cutsFile_0 : decode cX9_cutsFile 0 = .ok (.aload_n 0, 1) := by decide +kernel
theorem dX9_cutsFile_1 : decode cX9_cutsFile 1 = .ok (.aload_n 0, 1) := by decide +kernel
theorem dX9_cutsFile_2 : decode cX9_cutsFile 2 = .ok (.getfield 7, 3) := by decide +kernel
theorem dX9_cutsFile_5 : decode cX9_cutsFile 5 = .ok (.iconst 0, 1) := by decide +kernel
theorem dX9_cutsFile_6 : decode cX9_cutsFile 6 = .ok (.iaload, 1) := by decide +kernel
theorem dX9_cutsFile_7 : decode cX9_cutsFile 7 = .ok (.putfield 220, 3) := by decide +kernel
theorem dX9_cutsFile_10 : decode cX9_cutsFile 10 = .ok (.iconst 0, 1) := by decide +kernel
theorem dX9_cutsFile_11 : decode cX9_cutsFile 11 = .ok (.istore_n 1, 1) := by decide +kernel
theorem dX9_cutsFile_12 : decode cX9_cutsFile 12 = .ok (.iload_n 1, 1) := by decide +kernel
theorem dX9_cutsFile_13 : decode cX9_cutsFile 13 = .ok (.aload_n 0, 1) := by decide +kernel
theorem dX9_cutsFile_14 : decode cX9_cutsFile 14 = .ok (.getfield 220, 3) := by decide +kernel
theorem dX9_cutsFile_17 : decode cX9_cutsFile 17 = .ok (.if_icmp .ge 24, 3) := by decide +kernel
theorem dX9_cutsFile_20 : decode cX9_cutsFile 20 = .ok (.aload_n 0, 1) := by decide +kernel
theorem dX9_cutsFile_21 : decode cX9_cutsFile 21 = .ok (.getfield 30, 3) := by decide +kernel
theorem dX9_cutsFile_24 : decode cX9_cutsFile 24 = .ok (.iload_n 1, 1) := by decide +kernel
theorem dX9_cutsFile_25 : decode cX9_cutsFile 25 = .ok (.aload_n 0, 1) := by decide +kernel
theorem dX9_cutsFile_26 : decode cX9_cutsFile 26 = .ok (.getfield 7, 3) := by decide +kernel
theorem dX9_cutsFile_29 : decode cX9_cutsFile 29 = .ok (.bipush 43, 2) := by decide +kernel
theorem dX9_cutsFile_31 : decode cX9_cutsFile 31 = .ok (.iload_n 1, 1) := by decide +kernel
theorem dX9_cutsFile_32 : decode cX9_cutsFile 32 = .ok (.iadd, 1) := by decide +kernel
theorem dX9_cutsFile_33 : decode cX9_cutsFile 33 = .ok (.iaload, 1) := by decide +kernel
theorem dX9_cutsFile_34 : decode cX9_cutsFile 34 = .ok (.iastore, 1) := by decide +kernel
theorem dX9_cutsFile_35 : decode cX9_cutsFile 35 = .ok (.iinc 1 1, 3) := by decide +kernel
theorem dX9_cutsFile_38 : decode cX9_cutsFile 38 = .ok (.goto (-26), 3) := by decide +kernel
theorem dX9_cutsFile_41 : decode cX9_cutsFile 41 = .ok (.aload_n 0, 1) := by decide +kernel
theorem dX9_cutsFile_42 : decode cX9_cutsFile 42 = .ok (.invokevirtual 241, 3) := by decide +kernel
theorem dX9_cutsFile_45 : decode cX9_cutsFile 45 = .ok (.return_, 1) := by decide +kernel
theorem dX9_cutsLines_0 : decode cX9_cutsLines 0 = .ok (.iconst 0, 1) := by decide +kernel
theorem dX9_cutsLines_1 : decode cX9_cutsLines 1 = .ok (.istore 6, 2) := by decide +kernel
theorem dX9_cutsLines_3 : decode cX9_cutsLines 3 = .ok (.iload 6, 2) := by decide +kernel
theorem dX9_cutsLines_5 : decode cX9_cutsLines 5 = .ok (.iload_n 2, 1) := by decide +kernel
theorem dX9_cutsLines_6 : decode cX9_cutsLines 6 = .ok (.if_icmp .ge 202, 3) := by decide +kernel
theorem dX9_cutsLines_9 : decode cX9_cutsLines 9 = .ok (.aload_n 1, 1) := by decide +kernel
theorem dX9_cutsLines_10 : decode cX9_cutsLines 10 = .ok (.iload_n 2, 1) := by decide +kernel
theorem dX9_cutsLines_11 : decode cX9_cutsLines 11 = .ok (.iload 6, 2) := by decide +kernel
theorem dX9_cutsLines_13 : decode cX9_cutsLines 13 = .ok (.bipush 10, 2) := by decide +kernel
theorem dX9_cutsLines_15 : decode cX9_cutsLines 15 = .ok (.bipush 10, 2) := by decide +kernel
theorem dX9_cutsLines_17 : decode cX9_cutsLines 17 = .ok (.invokestatic 148, 3) := by decide +kernel
theorem dX9_cutsLines_20 : decode cX9_cutsLines 20 = .ok (.istore 7, 2) := by decide +kernel
theorem dX9_cutsLines_22 : decode cX9_cutsLines 22 = .ok (.iload 6, 2) := by decide +kernel
theorem dX9_cutsLines_24 : decode cX9_cutsLines 24 = .ok (.istore 8, 2) := by decide +kernel
theorem dX9_cutsLines_26 : decode cX9_cutsLines 26 = .ok (.iload 8, 2) := by decide +kernel
theorem dX9_cutsLines_28 : decode cX9_cutsLines 28 = .ok (.iload 7, 2) := by decide +kernel
theorem dX9_cutsLines_30 : decode cX9_cutsLines 30 = .ok (.if_icmp .ge 18, 3) := by decide +kernel
theorem dX9_cutsLines_33 : decode cX9_cutsLines 33 = .ok (.aload_n 1, 1) := by decide +kernel
theorem dX9_cutsLines_34 : decode cX9_cutsLines 34 = .ok (.iload 8, 2) := by decide +kernel
theorem dX9_cutsLines_36 : decode cX9_cutsLines 36 = .ok (.iaload, 1) := by decide +kernel
theorem dX9_cutsLines_37 : decode cX9_cutsLines 37 = .ok (.bipush 32, 2) := by decide +kernel
theorem dX9_cutsLines_39 : decode cX9_cutsLines 39 = .ok (.if_icmp .ne 9, 3) := by decide +kernel
theorem dX9_cutsLines_42 : decode cX9_cutsLines 42 = .ok (.iinc 8 1, 3) := by decide +kernel
theorem dX9_cutsLines_45 : decode cX9_cutsLines 45 = .ok (.goto (-19), 3) := by decide +kernel
theorem dX9_cutsLines_48 : decode cX9_cutsLines 48 = .ok (.aload_n 1, 1) := by decide +kernel
theorem dX9_cutsLines_49 : decode cX9_cutsLines 49 = .ok (.iload 7, 2) := by decide +kernel
theorem dX9_cutsLines_51 : decode cX9_cutsLines 51 = .ok (.iload 6, 2) := by decide +kernel
theorem dX9_cutsLines_53 : decode cX9_cutsLines 53 = .ok (.bipush 61, 2) := by decide +kernel
theorem dX9_cutsLines_55 : decode cX9_cutsLines 55 = .ok (.bipush 61, 2) := by decide +kernel
theorem dX9_cutsLines_57 : decode cX9_cutsLines 57 = .ok (.invokestatic 148, 3) := by decide +kernel
theorem dX9_cutsLines_60 : decode cX9_cutsLines 60 = .ok (.istore 9, 2) := by decide +kernel
theorem dX9_cutsLines_62 : decode cX9_cutsLines 62 = .ok (.iload 8, 2) := by decide +kernel
theorem dX9_cutsLines_64 : decode cX9_cutsLines 64 = .ok (.iload 7, 2) := by decide +kernel
theorem dX9_cutsLines_66 : decode cX9_cutsLines 66 = .ok (.if_icmp .ge 133, 3) := by decide +kernel
theorem dX9_cutsLines_69 : decode cX9_cutsLines 69 = .ok (.aload_n 1, 1) := by decide +kernel
theorem dX9_cutsLines_70 : decode cX9_cutsLines 70 = .ok (.iload 8, 2) := by decide +kernel
theorem dX9_cutsLines_72 : decode cX9_cutsLines 72 = .ok (.iaload, 1) := by decide +kernel
theorem dX9_cutsLines_73 : decode cX9_cutsLines 73 = .ok (.bipush 35, 2) := by decide +kernel
theorem dX9_cutsLines_75 : decode cX9_cutsLines 75 = .ok (.if_icmp .eq 124, 3) := by decide +kernel
theorem dX9_cutsLines_78 : decode cX9_cutsLines 78 = .ok (.iload 9, 2) := by decide +kernel
theorem dX9_cutsLines_80 : decode cX9_cutsLines 80 = .ok (.iload 7, 2) := by decide +kernel
theorem dX9_cutsLines_82 : decode cX9_cutsLines 82 = .ok (.if_icmp .ge 117, 3) := by decide +kernel
theorem dX9_cutsLines_85 : decode cX9_cutsLines 85 = .ok (.iload 9, 2) := by decide +kernel
theorem dX9_cutsLines_87 : decode cX9_cutsLines 87 = .ok (.iconst 1, 1) := by decide +kernel
theorem dX9_cutsLines_88 : decode cX9_cutsLines 88 = .ok (.iadd, 1) := by decide +kernel
theorem dX9_cutsLines_89 : decode cX9_cutsLines 89 = .ok (.istore 10, 2) := by decide +kernel
theorem dX9_cutsLines_91 : decode cX9_cutsLines 91 = .ok (.iload 10, 2) := by decide +kernel
theorem dX9_cutsLines_93 : decode cX9_cutsLines 93 = .ok (.iload 7, 2) := by decide +kernel
theorem dX9_cutsLines_95 : decode cX9_cutsLines 95 = .ok (.if_icmp .ge 18, 3) := by decide +kernel
theorem dX9_cutsLines_98 : decode cX9_cutsLines 98 = .ok (.aload_n 1, 1) := by decide +kernel
theorem dX9_cutsLines_99 : decode cX9_cutsLines 99 = .ok (.iload 10, 2) := by decide +kernel
theorem dX9_cutsLines_101 : decode cX9_cutsLines 101 = .ok (.iaload, 1) := by decide +kernel
theorem dX9_cutsLines_102 : decode cX9_cutsLines 102 = .ok (.bipush 32, 2) := by decide +kernel
theorem dX9_cutsLines_104 : decode cX9_cutsLines 104 = .ok (.if_icmp .ne 9, 3) := by decide +kernel
theorem dX9_cutsLines_107 : decode cX9_cutsLines 107 = .ok (.iinc 10 1, 3) := by decide +kernel
theorem dX9_cutsLines_110 : decode cX9_cutsLines 110 = .ok (.goto (-19), 3) := by decide +kernel
theorem dX9_cutsLines_113 : decode cX9_cutsLines 113 = .ok (.aload_n 0, 1) := by decide +kernel
theorem dX9_cutsLines_114 : decode cX9_cutsLines 114 = .ok (.getfield 145, 3) := by decide +kernel
theorem dX9_cutsLines_117 : decode cX9_cutsLines 117 = .ok (.istore 11, 2) := by decide +kernel
theorem dX9_cutsLines_119 : decode cX9_cutsLines 119 = .ok (.aload_n 0, 1) := by decide +kernel
theorem dX9_cutsLines_120 : decode cX9_cutsLines 120 = .ok (.aload_n 3, 1) := by decide +kernel
theorem dX9_cutsLines_121 : decode cX9_cutsLines 121 = .ok (.aload 4, 2) := by decide +kernel
theorem dX9_cutsLines_123 : decode cX9_cutsLines 123 = .ok (.aload 5, 2) := by decide +kernel
theorem dX9_cutsLines_125 : decode cX9_cutsLines 125 = .ok (.iload 10, 2) := by decide +kernel
theorem dX9_cutsLines_127 : decode cX9_cutsLines 127 = .ok (.iload 7, 2) := by decide +kernel
theorem dX9_cutsLines_129 : decode cX9_cutsLines 129 = .ok (.iconst 0, 1) := by decide +kernel
theorem dX9_cutsLines_130 : decode cX9_cutsLines 130 = .ok (.invokevirtual 152, 3) := by decide +kernel
theorem dX9_cutsLines_133 : decode cX9_cutsLines 133 = .ok (.iload 9, 2) := by decide +kernel
theorem dX9_cutsLines_135 : decode cX9_cutsLines 135 = .ok (.istore 12, 2) := by decide +kernel
theorem dX9_cutsLines_137 : decode cX9_cutsLines 137 = .ok (.iload 12, 2) := by decide +kernel
theorem dX9_cutsLines_139 : decode cX9_cutsLines 139 = .ok (.iload 8, 2) := by decide +kernel
theorem dX9_cutsLines_141 : decode cX9_cutsLines 141 = .ok (.if_icmp .le 20, 3) := by decide +kernel
theorem dX9_cutsLines_144 : decode cX9_cutsLines 144 = .ok (.aload_n 1, 1) := by decide +kernel
theorem dX9_cutsLines_145 : decode cX9_cutsLines 145 = .ok (.iload 12, 2) := by decide +kernel
theorem dX9_cutsLines_147 : decode cX9_cutsLines 147 = .ok (.iconst 1, 1) := by decide +kernel
theorem dX9_cutsLines_148 : decode cX9_cutsLines 148 = .ok (.isub, 1) := by decide +kernel
theorem dX9_cutsLines_149 : decode cX9_cutsLines 149 = .ok (.iaload, 1) := by decide +kernel
theorem dX9_cutsLines_150 : decode cX9_cutsLines 150 = .ok (.bipush 32, 2) := by decide +kernel
theorem dX9_cutsLines_152 : decode cX9_cutsLines 152 = .ok (.if_icmp .ne 9, 3) := by decide +kernel
theorem dX9_cutsLines_155 : decode cX9_cutsLines 155 = .ok (.iinc 12 (-1), 3) := by decide +kernel
theorem dX9_cutsLines_158 : decode cX9_cutsLines 158 = .ok (.goto (-21), 3) := by decide +kernel
theorem dX9_cutsLines_161 : decode cX9_cutsLines 161 = .ok (.aload_n 0, 1) := by decide +kernel
theorem dX9_cutsLines_162 : decode cX9_cutsLines 162 = .ok (.getfield 145, 3) := by decide +kernel
theorem dX9_cutsLines_165 : decode cX9_cutsLines 165 = .ok (.iload 11, 2) := by decide +kernel
theorem dX9_cutsLines_167 : decode cX9_cutsLines 167 = .ok (.if_icmp .le 32, 3) := by decide +kernel
theorem dX9_cutsLines_170 : decode cX9_cutsLines 170 = .ok (.aload_n 3, 1) := by decide +kernel
theorem dX9_cutsLines_171 : decode cX9_cutsLines 171 = .ok (.aload_n 0, 1) := by decide +kernel
theorem dX9_cutsLines_172 : decode cX9_cutsLines 172 = .ok (.getfield 39, 3) := by decide +kernel
theorem dX9_cutsLines_175 : decode cX9_cutsLines 175 = .ok (.if_acmp .ne 24, 3) := by decide +kernel
theorem dX9_cutsLines_178 : decode cX9_cutsLines 178 = .ok (.aload_n 0, 1) := by decide +kernel
theorem dX9_cutsLines_179 : decode cX9_cutsLines 179 = .ok (.getfield 48, 3) := by decide +kernel
theorem dX9_cutsLines_182 : decode cX9_cutsLines 182 = .ok (.iload 11, 2) := by decide +kernel
theorem dX9_cutsLines_184 : decode cX9_cutsLines 184 = .ok (.iload 8, 2) := by decide +kernel
theorem dX9_cutsLines_186 : decode cX9_cutsLines 186 = .ok (.iastore, 1) := by decide +kernel
theorem dX9_cutsLines_187 : decode cX9_cutsLines 187 = .ok (.aload_n 0, 1) := by decide +kernel
theorem dX9_cutsLines_188 : decode cX9_cutsLines 188 = .ok (.getfield 51, 3) := by decide +kernel
theorem dX9_cutsLines_191 : decode cX9_cutsLines 191 = .ok (.iload 11, 2) := by decide +kernel
theorem dX9_cutsLines_193 : decode cX9_cutsLines 193 = .ok (.iload 12, 2) := by decide +kernel
theorem dX9_cutsLines_195 : decode cX9_cutsLines 195 = .ok (.iload 8, 2) := by decide +kernel
theorem dX9_cutsLines_197 : decode cX9_cutsLines 197 = .ok (.isub, 1) := by decide +kernel
theorem dX9_cutsLines_198 : decode cX9_cutsLines 198 = .ok (.iastore, 1) := by decide +kernel
theorem dX9_cutsLines_199 : decode cX9_cutsLines 199 = .ok (.iload 7, 2) := by decide +kernel
theorem dX9_cutsLines_201 : decode cX9_cutsLines 201 = .ok (.iconst 1, 1) := by decide +kernel
theorem dX9_cutsLines_202 : decode cX9_cutsLines 202 = .ok (.iadd, 1) := by decide +kernel
theorem dX9_cutsLines_203 : decode cX9_cutsLines 203 = .ok (.istore 6, 2) := by decide +kernel
theorem dX9_cutsLines_205 : decode cX9_cutsLines 205 = .ok (.goto (-202), 3) := by decide +kernel
theorem dX9_cutsLines_208 : decode cX9_cutsLines 208 = .ok (.return_, 1) := by decide +kernel
theorem dX9_cutsMarkup_0 : decode cX9_cutsMarkup 0 = .ok (.iconst 0, 1) := by decide +kernel
theorem dX9_cutsMarkup_1 : decode cX9_cutsMarkup 1 = .ok (.istore 6, 2) := by decide +kernel
theorem dX9_cutsMarkup_3 : decode cX9_cutsMarkup 3 = .ok (.iload 6, 2) := by decide +kernel
theorem dX9_cutsMarkup_5 : decode cX9_cutsMarkup 5 = .ok (.iload_n 2, 1) := by decide +kernel
theorem dX9_cutsMarkup_6 : decode cX9_cutsMarkup 6 = .ok (.if_icmp .ge 104, 3) := by decide +kernel
theorem dX9_cutsMarkup_9 : decode cX9_cutsMarkup 9 = .ok (.aload_n 1, 1) := by decide +kernel
theorem dX9_cutsMarkup_10 : decode cX9_cutsMarkup 10 = .ok (.iload_n 2, 1) := by decide +kernel
theorem dX9_cutsMarkup_11 : decode cX9_cutsMarkup 11 = .ok (.iload 6, 2) := by decide +kernel
theorem dX9_cutsMarkup_13 : decode cX9_cutsMarkup 13 = .ok (.bipush 60, 2) := by decide +kernel
theorem dX9_cutsMarkup_15 : decode cX9_cutsMarkup 15 = .ok (.bipush 60, 2) := by decide +kernel
theorem dX9_cutsMarkup_17 : decode cX9_cutsMarkup 17 = .ok (.invokestatic 148, 3) := by decide +kernel
theorem dX9_cutsMarkup_20 : decode cX9_cutsMarkup 20 = .ok (.istore 7, 2) := by decide +kernel
theorem dX9_cutsMarkup_22 : decode cX9_cutsMarkup 22 = .ok (.iload 6, 2) := by decide +kernel
theorem dX9_cutsMarkup_24 : decode cX9_cutsMarkup 24 = .ok (.istore 8, 2) := by decide +kernel
theorem dX9_cutsMarkup_26 : decode cX9_cutsMarkup 26 = .ok (.iload 7, 2) := by decide +kernel
theorem dX9_cutsMarkup_28 : decode cX9_cutsMarkup 28 = .ok (.istore 9, 2) := by decide +kernel
theorem dX9_cutsMarkup_30 : decode cX9_cutsMarkup 30 = .ok (.iload 8, 2) := by decide +kernel
theorem dX9_cutsMarkup_32 : decode cX9_cutsMarkup 32 = .ok (.iload 9, 2) := by decide +kernel
theorem dX9_cutsMarkup_34 : decode cX9_cutsMarkup 34 = .ok (.if_icmp .ge 19, 3) := by decide +kernel
theorem dX9_cutsMarkup_37 : decode cX9_cutsMarkup 37 = .ok (.aload_n 1, 1) := by decide +kernel
theorem dX9_cutsMarkup_38 : decode cX9_cutsMarkup 38 = .ok (.iload 8, 2) := by decide +kernel
theorem dX9_cutsMarkup_40 : decode cX9_cutsMarkup 40 = .ok (.iaload, 1) := by decide +kernel
theorem dX9_cutsMarkup_41 : decode cX9_cutsMarkup 41 = .ok (.invokestatic 156, 3) := by decide +kernel
theorem dX9_cutsMarkup_44 : decode cX9_cutsMarkup 44 = .ok (.ifCond .eq 9, 3) := by decide +kernel
theorem dX9_cutsMarkup_47 : decode cX9_cutsMarkup 47 = .ok (.iinc 8 1, 3) := by decide +kernel
theorem dX9_cutsMarkup_50 : decode cX9_cutsMarkup 50 = .ok (.goto (-20), 3) := by decide +kernel
theorem dX9_cutsMarkup_53 : decode cX9_cutsMarkup 53 = .ok (.iload 9, 2) := by decide +kernel
theorem dX9_cutsMarkup_55 : decode cX9_cutsMarkup 55 = .ok (.iload 8, 2) := by decide +kernel
theorem dX9_cutsMarkup_57 : decode cX9_cutsMarkup 57 = .ok (.if_icmp .le 21, 3) := by decide +kernel
theorem dX9_cutsMarkup_60 : decode cX9_cutsMarkup 60 = .ok (.aload_n 1, 1) := by decide +kernel
theorem dX9_cutsMarkup_61 : decode cX9_cutsMarkup 61 = .ok (.iload 9, 2) := by decide +kernel
theorem dX9_cutsMarkup_63 : decode cX9_cutsMarkup 63 = .ok (.iconst 1, 1) := by decide +kernel
