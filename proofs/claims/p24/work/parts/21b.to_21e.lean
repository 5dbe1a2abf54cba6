/-! part 21b.dec -/
section
theorem dX9_builtMany_20 : decode cX9_builtMany 20 = .ok (.invokevirtual 290, 3) := by decide +kernel
theorem dX9_builtMany_23 : decode cX9_builtMany 23 = .ok (.aload_n 0, 1) := by decide +kernel
theorem dX9_builtMany_24 : decode cX9_builtMany 24 = .ok (.getfield 84, 3) := by decide +kernel
theorem dX9_builtMany_27 : decode cX9_builtMany 27 = .ok (.iload_n 2, 1) := by decide +kernel
theorem dX9_builtMany_28 : decode cX9_builtMany 28 = .ok (.iaload, 1) := by decide +kernel
theorem dX9_builtMany_29 : decode cX9_builtMany 29 = .ok (.aload_n 0, 1) := by decide +kernel
theorem dX9_builtMany_30 : decode cX9_builtMany 30 = .ok (.getfield 81, 3) := by decide +kernel
theorem dX9_builtMany_33 : decode cX9_builtMany 33 = .ok (.iload_n 2, 1) := by decide +kernel
theorem dX9_builtMany_34 : decode cX9_builtMany 34 = .ok (.iaload, 1) := by decide +kernel
theorem dX9_builtMany_35 : decode cX9_builtMany 35 = .ok (.isub, 1) := by decide +kernel
theorem dX9_builtMany_36 : decode cX9_builtMany 36 = .ok (.isub, 1) := by decide +kernel
theorem dX9_builtMany_37 : decode cX9_builtMany 37 = .ok (.iadd, 1) := by decide +kernel
theorem dX9_builtMany_38 : decode cX9_builtMany 38 = .ok (.istore_n 1, 1) := by decide +kernel
theorem dX9_builtMany_39 : decode cX9_builtMany 39 = .ok (.iinc 2 1, 3) := by decide +kernel
theorem dX9_builtMany_42 : decode cX9_builtMany 42 = .ok (.goto (-33), 3) := by decide +kernel
theorem dX9_builtMany_45 : decode cX9_builtMany 45 = .ok (.iload_n 1, 1) := by decide +kernel
theorem dX9_builtMany_46 : decode cX9_builtMany 46 = .ok (.ireturn, 1) := by decide +kernel
theorem dX9_builtOf_0 : decode cX9_builtOf 0 = .ok (.aload_n 0, 1) := by decide +kernel
theorem dX9_builtOf_1 : decode cX9_builtOf 1 = .ok (.iload_n 1, 1) := by decide +kernel
theorem dX9_builtOf_2 : decode cX9_builtOf 2 = .ok (.invokevirtual 247, 3) := by decide +kernel
theorem dX9_builtOf_5 : decode cX9_builtOf 5 = .ok (.iconst (-1), 1) := by decide +kernel
theorem dX9_builtOf_6 : decode cX9_builtOf 6 = .ok (.if_icmp .ne 17, 3) := by decide +kernel
theorem dX9_builtOf_9 : decode cX9_builtOf 9 = .ok (.aload_n 0, 1) := by decide +kernel
theorem dX9_builtOf_10 : decode cX9_builtOf 10 = .ok (.getfield 84, 3) := by decide +kernel
theorem dX9_builtOf_13 : decode cX9_builtOf 13 = .ok (.iload_n 1, 1) := by decide +kernel
theorem dX9_builtOf_14 : decode cX9_builtOf 14 = .ok (.iaload, 1) := by decide +kernel
theorem dX9_builtOf_15 : decode cX9_builtOf 15 = .ok (.aload_n 0, 1) := by decide +kernel
theorem dX9_builtOf_16 : decode cX9_builtOf 16 = .ok (.getfield 81, 3) := by decide +kernel
theorem dX9_builtOf_19 : decode cX9_builtOf 19 = .ok (.iload_n 1, 1) := by decide +kernel
theorem dX9_builtOf_20 : decode cX9_builtOf 20 = .ok (.iaload, 1) := by decide +kernel
theorem dX9_builtOf_21 : decode cX9_builtOf 21 = .ok (.isub, 1) := by decide +kernel
theorem dX9_builtOf_22 : decode cX9_builtOf 22 = .ok (.ireturn, 1) := by decide +kernel
theorem dX9_builtOf_23 : decode cX9_builtOf 23 = .ok (.aload_n 0, 1) := by decide +kernel
theorem dX9_builtOf_24 : decode cX9_builtOf 24 = .ok (.iload_n 1, 1) := by decide +kernel
theorem dX9_builtOf_25 : decode cX9_builtOf 25 = .ok (.invokevirtual 283, 3) := by decide +kernel
theorem dX9_builtOf_28 : decode cX9_builtOf 28 = .ok (.aload_n 0, 1) := by decide +kernel
theorem dX9_builtOf_29 : decode cX9_builtOf 29 = .ok (.iload_n 1, 1) := by decide +kernel
theorem dX9_builtOf_30 : decode cX9_builtOf 30 = .ok (.aload_n 0, 1) := by decide +kernel
theorem dX9_builtOf_31 : decode cX9_builtOf 31 = .ok (.iload_n 1, 1) := by decide +kernel
theorem dX9_builtOf_32 : decode cX9_builtOf 32 = .ok (.invokevirtual 247, 3) := by decide +kernel
theorem dX9_builtOf_35 : decode cX9_builtOf 35 = .ok (.invokevirtual 287, 3) := by decide +kernel
theorem dX9_builtOf_38 : decode cX9_builtOf 38 = .ok (.ireturn, 1) := by decide +kernel
theorem dX9_count_0 : decode cX9_count 0 = .ok (.aload_n 0, 1) := by decide +kernel
theorem dX9_count_1 : decode cX9_count 1 = .ok (.iconst 0, 1) := by decide +kernel
theorem dX9_count_2 : decode cX9_count 2 = .ok (.putfield 138, 3) := by decide +kernel
theorem dX9_count_5 : decode cX9_count 5 = .ok (.iload_n 1, 1) := by decide +kernel
theorem dX9_count_6 : decode cX9_count 6 = .ok (.tableswitch 164 0 14 #[74, 81, 88, 95, 100, 105, 110, 115, 122, 129, 136, 141, 146, 154, 159], 74) := by decide +kernel
theorem dX9_count_80 : decode cX9_count 80 = .ok (.aload_n 0, 1) := by decide +kernel
theorem dX9_count_81 : decode cX9_count 81 = .ok (.getfield 7, 3) := by decide +kernel
theorem dX9_count_84 : decode cX9_count 84 = .ok (.iconst 0, 1) := by decide +kernel
theorem dX9_count_85 : decode cX9_count 85 = .ok (.iaload, 1) := by decide +kernel
theorem dX9_count_86 : decode cX9_count 86 = .ok (.ireturn, 1) := by decide +kernel
theorem dX9_count_87 : decode cX9_count 87 = .ok (.aload_n 0, 1) := by decide +kernel
theorem dX9_count_88 : decode cX9_count 88 = .ok (.getfield 7, 3) := by decide +kernel
theorem dX9_count_91 : decode cX9_count 91 = .ok (.iconst 1, 1) := by decide +kernel
theorem dX9_count_92 : decode cX9_count 92 = .ok (.iaload, 1) := by decide +kernel
theorem dX9_count_93 : decode cX9_count 93 = .ok (.ireturn, 1) := by decide +kernel
theorem dX9_count_94 : decode cX9_count 94 = .ok (.aload_n 0, 1) := by decide +kernel
theorem dX9_count_95 : decode cX9_count 95 = .ok (.getfield 7, 3) := by decide +kernel
theorem dX9_count_98 : decode cX9_count 98 = .ok (.iconst 2, 1) := by decide +kernel
theorem dX9_count_99 : decode cX9_count 99 = .ok (.iaload, 1) := by decide +kernel
theorem dX9_count_100 : decode cX9_count 100 = .ok (.ireturn, 1) := by decide +kernel
theorem dX9_count_101 : decode cX9_count 101 = .ok (.aload_n 0, 1) := by decide +kernel
theorem dX9_count_102 : decode cX9_count 102 = .ok (.getfield 204, 3) := by decide +kernel
theorem dX9_count_105 : decode cX9_count 105 = .ok (.ireturn, 1) := by decide +kernel
theorem dX9_count_106 : decode cX9_count 106 = .ok (.aload_n 0, 1) := by decide +kernel
theorem dX9_count_107 : decode cX9_count 107 = .ok (.invokevirtual 319, 3) := by decide +kernel
theorem dX9_count_110 : decode cX9_count 110 = .ok (.ireturn, 1) := by decide +kernel
theorem dX9_count_111 : decode cX9_count 111 = .ok (.aload_n 0, 1) := by decide +kernel
theorem dX9_count_112 : decode cX9_count 112 = .ok (.invokevirtual 300, 3) := by decide +kernel
theorem dX9_count_115 : decode cX9_count 115 = .ok (.ireturn, 1) := by decide +kernel
theorem dX9_count_116 : decode cX9_count 116 = .ok (.aload_n 0, 1) := by decide +kernel
theorem dX9_count_117 : decode cX9_count 117 = .ok (.invokevirtual 472, 3) := by decide +kernel
theorem dX9_count_120 : decode cX9_count 120 = .ok (.ireturn, 1) := by decide +kernel
theorem dX9_count_121 : decode cX9_count 121 = .ok (.aload_n 0, 1) := by decide +kernel
theorem dX9_count_122 : decode cX9_count 122 = .ok (.getfield 7, 3) := by decide +kernel
theorem dX9_count_125 : decode cX9_count 125 = .ok (.iconst 3, 1) := by decide +kernel
theorem dX9_count_126 : decode cX9_count 126 = .ok (.iaload, 1) := by decide +kernel
theorem dX9_count_127 : decode cX9_count 127 = .ok (.ireturn, 1) := by decide +kernel
theorem dX9_count_128 : decode cX9_count 128 = .ok (.aload_n 0, 1) := by decide +kernel
theorem dX9_count_129 : decode cX9_count 129 = .ok (.getfield 7, 3) := by decide +kernel
theorem dX9_count_132 : decode cX9_count 132 = .ok (.iconst 4, 1) := by decide +kernel
theorem dX9_count_133 : decode cX9_count 133 = .ok (.iaload, 1) := by decide +kernel
theorem dX9_count_134 : decode cX9_count 134 = .ok (.ireturn, 1) := by decide +kernel
theorem dX9_count_135 : decode cX9_count 135 = .ok (.aload_n 0, 1) := by decide +kernel
theorem dX9_count_136 : decode cX9_count 136 = .ok (.getfield 7, 3) := by decide +kernel
theorem dX9_count_139 : decode cX9_count 139 = .ok (.iconst 5, 1) := by decide +kernel
theorem dX9_count_140 : decode cX9_count 140 = .ok (.iaload, 1) := by decide +kernel
theorem dX9_count_141 : decode cX9_count 141 = .ok (.ireturn, 1) := by decide +kernel
theorem dX9_count_142 : decode cX9_count 142 = .ok (.aload_n 0, 1) := by decide +kernel
theorem dX9_count_143 : decode cX9_count 143 = .ok (.invokevirtual 475, 3) := by decide +kernel
theorem dX9_count_146 : decode cX9_count 146 = .ok (.ireturn, 1) := by decide +kernel
theorem dX9_count_147 : decode cX9_count 147 = .ok (.aload_n 0, 1) := by decide +kernel
theorem dX9_count_148 : decode cX9_count 148 = .ok (.invokevirtual 478, 3) := by decide +kernel
theorem dX9_count_151 : decode cX9_count 151 = .ok (.ireturn, 1) := by decide +kernel
theorem dX9_count_152 : decode cX9_count 152 = .ok (.aload_n 0, 1) := by decide +kernel
theorem dX9_count_153 : decode cX9_count 153 = .ok (.getfield 7, 3) := by decide +kernel
theorem dX9_count_156 : decode cX9_count 156 = .ok (.bipush 42, 2) := by decide +kernel
theorem dX9_count_158 : decode cX9_count 158 = .ok (.iaload, 1) := by decide +kernel
theorem dX9_count_159 : decode cX9_count 159 = .ok (.ireturn, 1) := by decide +kernel
theorem dX9_count_160 : decode cX9_count 160 = .ok (.aload_n 0, 1) := by decide +kernel
theorem dX9_count_161 : decode cX9_count 161 = .ok (.invokevirtual 481, 3) := by decide +kernel
theorem dX9_count_164 : decode cX9_count 164 = .ok (.ireturn, 1) := by decide +kernel
theorem dX9_count_165 : decode cX9_count 165 = .ok (.aload_n 0, 1) := by decide +kernel
theorem dX9_count_166 : decode cX9_count 166 = .ok (.getfield 325, 3) := by decide +kernel
theorem dX9_count_169 : decode cX9_count 169 = .ok (.ireturn, 1) := by decide +kernel
theorem dX9_count_170 : decode cX9_count 170 = .ok (.iconst (-1), 1) := by decide +kernel
theorem dX9_count_171 : decode cX9_count 171 = .ok (.ireturn, 1) := by decide +kernel
theorem dX9_cuts_0 : decode cX9_cuts 0 = .ok (.aload_n 0, 1) := by decide +kernel
theorem dX9_cuts_1 : decode cX9_cuts 1 = .ok (.iconst 0, 1) := by decide +kernel
theorem dX9_cuts_2 : decode cX9_cuts 2 = .ok (.putfield 145, 3) := by decide +kernel
theorem dX9_cuts_5 : decode cX9_cuts 5 = .ok (.iload_n 1, 1) := by decide +kernel
theorem dX9_cuts_6 : decode cX9_cuts 6 = .ok (.ifCond .ne 18, 3) := by decide +kernel
theorem dX9_cuts_9 : decode cX9_cuts 9 = .ok (.aload_n 0, 1) := by decide +kernel
theorem dX9_cuts_10 : decode cX9_cuts 10 = .ok (.aload_n 2, 1) := by decide +kernel
theorem dX9_cuts_11 : decode cX9_cuts 11 = .ok (.iload_n 3, 1) := by decide +kernel
theorem dX9_cuts_12 : decode cX9_cuts 12 = .ok (.aload 4, 2) := by decide +kernel
theorem dX9_cuts_14 : decode cX9_cuts 14 = .ok (.aload 5, 2) := by decide +kernel
theorem dX9_cuts_16 : decode cX9_cuts 16 = .ok (.aload 6, 2) := by decide +kernel
theorem dX9_cuts_18 : decode cX9_cuts 18 = .ok (.invokevirtual 160, 3) := by decide +kernel
theorem dX9_cuts_21 : decode cX9_cuts 21 = .ok (.goto 55, 3) := by decide +kernel
theorem dX9_cuts_24 : decode cX9_cuts 24 = .ok (.iload_n 1, 1) := by decide +kernel
theorem dX9_cuts_25 : decode cX9_cuts 25 = .ok (.iconst 1, 1) := by decide +kernel
theorem dX9_cuts_26 : decode cX9_cuts 26 = .ok (.if_icmp .ne 18, 3) := by decide +kernel
theorem dX9_cuts_29 : decode cX9_cuts 29 = .ok (.aload_n 0, 1) := by decide +kernel
theorem dX9_cuts_30 : decode cX9_cuts 30 = .ok (.aload_n 2, 1) := by decide +kernel
theorem dX9_cuts_31 : decode cX9_cuts 31 = .ok (.iload_n 3, 1) := by decide +kernel
theorem dX9_cuts_32 : decode cX9_cuts 32 = .ok (.aload 4, 2) := by decide +kernel
theorem dX9_cuts_34 : decode cX9_cuts 34 = .ok (.aload 5, 2) := by decide +kernel
theorem dX9_cuts_36 : decode cX9_cuts 36 = .ok (.aload 6, 2) := by decide +kernel
theorem dX9_cuts_38 : decode cX9_cuts 38 = .ok (.invokevirtual 164, 3) := by decide +kernel
theorem dX9_cuts_41 : decode cX9_cuts 41 = .ok (.goto 35, 3) := by decide +kernel
theorem dX9_cuts_44 : decode cX9_cuts 44 = .ok (.iload_n 1, 1) := by decide +kernel
theorem dX9_cuts_45 : decode cX9_cuts 45 = .ok (.iconst 2, 1) := by decide +kernel
theorem dX9_cuts_46 : decode cX9_cuts 46 = .ok (.if_icmp .ne 18, 3) := by decide +kernel
theorem dX9_cuts_49 : decode cX9_cuts 49 = .ok (.aload_n 0, 1) := by decide +kernel
theorem dX9_cuts_50 : decode cX9_cuts 50 = .ok (.aload_n 2, 1) := by decide +kernel
theorem dX9_cuts_51 : decode cX9_cuts 51 = .ok (.iload_n 3, 1) := by decide +kernel
theorem dX9_cuts_52 : decode cX9_cuts 52 = .ok (.aload 4, 2) := by decide +kernel
theorem dX9_cuts_54 : decode cX9_cuts 54 = .ok (.aload 5, 2) := by decide +kernel
theorem dX9_cuts_56 : decode cX9_cuts 56 = .ok (.aload 6, 2) := by decide +kernel
theorem dX9_cuts_58 : decode cX9_cuts 58 = .ok (.invokevirtual 167, 3) := by decide +kernel
theorem dX9_cuts_61 : decode cX9_cuts 61 = .ok (.goto 15, 3) := by decide +kernel
theorem dX9_cuts_64 : decode cX9_cuts 64 = .ok (.aload_n 0, 1) := by decide +kernel
theorem dX9_cuts_65 : decode cX9_cuts 65 = .ok (.aload_n 2, 1) := by decide +kernel
theorem dX9_cuts_66 : decode cX9_cuts 66 = .ok (.iload_n 3, 1) := by decide +kernel
theorem dX9_cuts_67 : decode cX9_cuts 67 = .ok (.aload 4, 2) := by decide +kernel
theorem dX9_cuts_69 : decode cX9_cuts 69 = .ok (.aload 5, 2) := by decide +kernel
theorem dX9_cuts_71 : decode cX9_cuts 71 = .ok (.aload 6, 2) := by decide +kernel
theorem dX9_cuts_73 : decode cX9_cuts 73 = .ok (.invokevirtual 170, 3) := by decide +kernel
theorem dX9_cuts_76 : decode cX9_cuts 76 = .ok (.aload_n 0, 1) := by decide +kernel
theorem dX9_cuts_77 : decode cX9_cuts 77 = .ok (.getfield 145, 3) := by decide +kernel
theorem dX9_cuts_80 : decode cX9_cuts 80 = .ok (.ireturn, 1) := by decide +kernel
theorem dX9_cutsAll_0 : decode cX9_cutsAll 0 = .ok (.aload_n 0, 1) := by decide +kernel
theorem dX9_cutsAll_1 : decode cX9_cutsAll 1 = .ok (.iconst 0, 1) := by decide +kernel
theorem dX9_cutsAll_2 : decode cX9_cutsAll 2 = .ok (.putfield 204, 3) := by decide +kernel
theorem dX9_cutsAll_5 : decode cX9_cutsAll 5 = .ok (.aload_n 0, 1) := by decide +kernel
theorem dX9_cutsAll_6 : decode cX9_cutsAll 6 = .ok (.iconst 0, 1) := by decide +kernel
theorem dX9_cutsAll_7 : decode cX9_cutsAll 7 = .ok (.putfield 217, 3) := by decide +kernel
theorem dX9_cutsAll_10 : decode cX9_cutsAll 10 = .ok (.iconst 0, 1) := by decide +kernel
theorem dX9_cutsAll_11 : decode cX9_cutsAll 11 = .ok (.istore_n 1, 1) := by decide +kernel
theorem dX9_cutsAll_12 : decode cX9_cutsAll 12 = .ok (.iload_n 1, 1) := by decide +kernel
theorem dX9_cutsAll_13 : decode cX9_cutsAll 13 = .ok (.aload_n 0, 1) := by decide +kernel
theorem dX9_cutsAll_14 : decode cX9_cutsAll 14 = .ok (.getfield 220, 3) := by decide +kernel
theorem dX9_cutsAll_17 : decode cX9_cutsAll 17 = .ok (.if_icmp .ge 25, 3) := by decide +kernel
theorem dX9_cutsAll_20 : decode cX9_cutsAll 20 = .ok (.aload_n 0, 1) := by decide +kernel
theorem dX9_cutsAll_21 : decode cX9_cutsAll 21 = .ok (.getfield 33, 3) := by decide +kernel
theorem dX9_cutsAll_24 : decode cX9_cutsAll 24 = .ok (.iload_n 1, 1) := by decide +kernel
theorem dX9_cutsAll_25 : decode cX9_cutsAll 25 = .ok (.iload_n 1, 1) := by decide +kernel
theorem dX9_cutsAll_26 : decode cX9_cutsAll 26 = .ok (.iastore, 1) := by decide +kernel
theorem dX9_cutsAll_27 : decode cX9_cutsAll 27 = .ok (.aload_n 0, 1) := by decide +kernel
theorem dX9_cutsAll_28 : decode cX9_cutsAll 28 = .ok (.getfield 36, 3) := by decide +kernel
theorem dX9_cutsAll_31 : decode cX9_cutsAll 31 = .ok (.iload_n 1, 1) := by decide +kernel
theorem dX9_cutsAll_32 : decode cX9_cutsAll 32 = .ok (.iload_n 1, 1) := by decide +kernel
theorem dX9_cutsAll_33 : decode cX9_cutsAll 33 = .ok (.iconst 1, 1) := by decide +kernel
theorem dX9_cutsAll_34 : decode cX9_cutsAll 34 = .ok (.iadd, 1) := by decide +kernel
theorem dX9_cutsAll_35 : decode cX9_cutsAll 35 = .ok (.iastore, 1) := by decide +kernel
theorem dX9_cutsAll_36 : decode cX9_cutsAll 36 = .ok (.iinc 1 1, 3) := by decide +kernel
theorem dX9_cutsAll_39 : decode cX9_cutsAll 39 = .ok (.goto (-27), 3) := by decide +kernel
theorem dX9_cutsAll_42 : decode cX9_cutsAll 42 = .ok (.aload_n 0, 1) := by decide +kernel
theorem dX9_cutsAll_43 : decode cX9_cutsAll 43 = .ok (.aload_n 0, 1) := by decide +kernel
theorem dX9_cutsAll_44 : decode cX9_cutsAll 44 = .ok (.aload_n 0, 1) := by decide +kernel
theorem dX9_cutsAll_45 : decode cX9_cutsAll 45 = .ok (.getfield 7, 3) := by decide +kernel
theorem dX9_cutsAll_48 : decode cX9_cutsAll 48 = .ok (.iconst 1, 1) := by decide +kernel
theorem dX9_cutsAll_49 : decode cX9_cutsAll 49 = .ok (.iaload, 1) := by decide +kernel
theorem dX9_cutsAll_50 : decode cX9_cutsAll 50 = .ok (.aload_n 0, 1) := by decide +kernel
theorem dX9_cutsAll_51 : decode cX9_cutsAll 51 = .ok (.getfield 30, 3) := by decide +kernel
theorem dX9_cutsAll_54 : decode cX9_cutsAll 54 = .ok (.aload_n 0, 1) := by decide +kernel
theorem dX9_cutsAll_55 : decode cX9_cutsAll 55 = .ok (.getfield 220, 3) := by decide +kernel
theorem dX9_cutsAll_58 : decode cX9_cutsAll 58 = .ok (.aload_n 0, 1) := by decide +kernel
theorem dX9_cutsAll_59 : decode cX9_cutsAll 59 = .ok (.getfield 39, 3) := by decide +kernel
theorem dX9_cutsAll_62 : decode cX9_cutsAll 62 = .ok (.aload_n 0, 1) := by decide +kernel
theorem dX9_cutsAll_63 : decode cX9_cutsAll 63 = .ok (.getfield 42, 3) := by decide +kernel
theorem dX9_cutsAll_66 : decode cX9_cutsAll 66 = .ok (.aload_n 0, 1) := by decide +kernel
theorem dX9_cutsAll_67 : decode cX9_cutsAll 67 = .ok (.getfield 45, 3) := by decide +kernel
theorem dX9_cutsAll_70 : decode cX9_cutsAll 70 = .ok (.invokevirtual 223, 3) := by decide +kernel
theorem dX9_cutsAll_73 : decode cX9_cutsAll 73 = .ok (.putfield 227, 3) := by decide +kernel
theorem dX9_cutsAll_76 : decode cX9_cutsAll 76 = .ok (.iconst 0, 1) := by decide +kernel
theorem dX9_cutsAll_77 : decode cX9_cutsAll 77 = .ok (.istore_n 1, 1) := by decide +kernel
theorem dX9_cutsAll_78 : decode cX9_cutsAll 78 = .ok (.iload_n 1, 1) := by decide +kernel
theorem dX9_cutsAll_79 : decode cX9_cutsAll 79 = .ok (.aload_n 0, 1) := by decide +kernel
theorem dX9_cutsAll_80 : decode cX9_cutsAll 80 = .ok (.getfield 227, 3) := by decide +kernel
theorem dX9_cutsAll_83 : decode cX9_cutsAll 83 = .ok (.if_icmp .ge 256, 3) := by decide +kernel
theorem dX9_cutsAll_86 : decode cX9_cutsAll 86 = .ok (.aload_n 0, 1) := by decide +kernel
theorem dX9_cutsAll_87 : decode cX9_cutsAll 87 = .ok (.aload_n 0, 1) := by decide +kernel
theorem dX9_cutsAll_88 : decode cX9_cutsAll 88 = .ok (.aload_n 0, 1) := by decide +kernel
theorem dX9_cutsAll_89 : decode cX9_cutsAll 89 = .ok (.getfield 7, 3) := by decide +kernel
theorem dX9_cutsAll_92 : decode cX9_cutsAll 92 = .ok (.iconst 1, 1) := by decide +kernel
theorem dX9_cutsAll_93 : decode cX9_cutsAll 93 = .ok (.iaload, 1) := by decide +kernel
theorem dX9_cutsAll_94 : decode cX9_cutsAll 94 = .ok (.aload_n 0, 1) := by decide +kernel
theorem dX9_cutsAll_95 : decode cX9_cutsAll 95 = .ok (.getfield 45, 3) := by decide +kernel
theorem dX9_cutsAll_98 : decode cX9_cutsAll 98 = .ok (.iload_n 1, 1) := by decide +kernel
theorem dX9_cutsAll_99 : decode cX9_cutsAll 99 = .ok (.iaload, 1) := by decide +kernel
theorem dX9_cutsAll_100 : decode cX9_cutsAll 100 = .ok (.iconst 1, 1) := by decide +kernel
theorem dX9_cutsAll_101 : decode cX9_cutsAll 101 = .ok (.if_icmp .ne 7, 3) := by decide +kernel
theorem dX9_cutsAll_104 : decode cX9_cutsAll 104 = .ok (.iconst 1, 1) := by decide +kernel
theorem dX9_cutsAll_105 : decode cX9_cutsAll 105 = .ok (.goto 4, 3) := by decide +kernel
theorem dX9_cutsAll_108 : decode cX9_cutsAll 108 = .ok (.iconst 0, 1) := by decide +kernel
theorem dX9_cutsAll_109 : decode cX9_cutsAll 109 = .ok (.aload_n 0, 1) := by decide +kernel
theorem dX9_cutsAll_110 : decode cX9_cutsAll 110 = .ok (.getfield 30, 3) := by decide +kernel
theorem dX9_cutsAll_113 : decode cX9_cutsAll 113 = .ok (.aload_n 0, 1) := by decide +kernel
theorem dX9_cutsAll_114 : decode cX9_cutsAll 114 = .ok (.getfield 33, 3) := by decide +kernel
theorem dX9_cutsAll_117 : decode cX9_cutsAll 117 = .ok (.aload_n 0, 1) := by decide +kernel
theorem dX9_cutsAll_118 : decode cX9_cutsAll 118 = .ok (.getfield 36, 3) := by decide +kernel
theorem dX9_cutsAll_121 : decode cX9_cutsAll 121 = .ok (.aload_n 0, 1) := by decide +kernel
theorem dX9_cutsAll_122 : decode cX9_cutsAll 122 = .ok (.getfield 39, 3) := by decide +kernel
theorem dX9_cutsAll_125 : decode cX9_cutsAll 125 = .ok (.iload_n 1, 1) := by decide +kernel
theorem dX9_cutsAll_126 : decode cX9_cutsAll 126 = .ok (.iaload, 1) := by decide +kernel
theorem dX9_cutsAll_127 : decode cX9_cutsAll 127 = .ok (.aload_n 0, 1) := by decide +kernel
theorem dX9_cutsAll_128 : decode cX9_cutsAll 128 = .ok (.getfield 42, 3) := by decide +kernel
theorem dX9_cutsAll_131 : decode cX9_cutsAll 131 = .ok (.iload_n 1, 1) := by decide +kernel
theorem dX9_cutsAll_132 : decode cX9_cutsAll 132 = .ok (.iaload, 1) := by decide +kernel
theorem dX9_cutsAll_133 : decode cX9_cutsAll 133 = .ok (.aload_n 0, 1) := by decide +kernel
theorem dX9_cutsAll_134 : decode cX9_cutsAll 134 = .ok (.getfield 54, 3) := by decide +kernel
theorem dX9_cutsAll_137 : decode cX9_cutsAll 137 = .ok (.aload_n 0, 1) := by decide +kernel
theorem dX9_cutsAll_138 : decode cX9_cutsAll 138 = .ok (.getfield 57, 3) := by decide +kernel
theorem dX9_cutsAll_141 : decode cX9_cutsAll 141 = .ok (.aload_n 0, 1) := by decide +kernel
theorem dX9_cutsAll_142 : decode cX9_cutsAll 142 = .ok (.getfield 60, 3) := by decide +kernel
theorem dX9_cutsAll_145 : decode cX9_cutsAll 145 = .ok (.invokevirtual 230, 3) := by decide +kernel
theorem dX9_cutsAll_148 : decode cX9_cutsAll 148 = .ok (.putfield 234, 3) := by decide +kernel
theorem dX9_cutsAll_151 : decode cX9_cutsAll 151 = .ok (.aload_n 0, 1) := by decide +kernel
theorem dX9_cutsAll_152 : decode cX9_cutsAll 152 = .ok (.getfield 7, 3) := by decide +kernel
theorem dX9_cutsAll_155 : decode cX9_cutsAll 155 = .ok (.iconst 2, 1) := by decide +kernel
theorem dX9_cutsAll_156 : decode cX9_cutsAll 156 = .ok (.iaload, 1) := by decide +kernel
theorem dX9_cutsAll_157 : decode cX9_cutsAll 157 = .ok (.iconst (-1), 1) := by decide +kernel
theorem dX9_cutsAll_158 : decode cX9_cutsAll 158 = .ok (.if_icmp .ne 29, 3) := by decide +kernel
theorem dX9_cutsAll_161 : decode cX9_cutsAll 161 = .ok (.aload_n 0, 1) := by decide +kernel
theorem dX9_cutsAll_162 : decode cX9_cutsAll 162 = .ok (.iload_n 1, 1) := by decide +kernel
theorem dX9_cutsAll_163 : decode cX9_cutsAll 163 = .ok (.aload_n 0, 1) := by decide +kernel
theorem dX9_cutsAll_164 : decode cX9_cutsAll 164 = .ok (.getfield 54, 3) := by decide +kernel
theorem dX9_cutsAll_167 : decode cX9_cutsAll 167 = .ok (.aload_n 0, 1) := by decide +kernel
theorem dX9_cutsAll_168 : decode cX9_cutsAll 168 = .ok (.getfield 57, 3) := by decide +kernel
theorem dX9_cutsAll_171 : decode cX9_cutsAll 171 = .ok (.aload_n 0, 1) := by decide +kernel
theorem dX9_cutsAll_172 : decode cX9_cutsAll 172 = .ok (.getfield 60, 3) := by decide +kernel
theorem dX9_cutsAll_175 : decode cX9_cutsAll 175 = .ok (.aload_n 0, 1) := by decide +kernel
theorem dX9_cutsAll_176 : decode cX9_cutsAll 176 = .ok (.getfield 234, 3) := by decide +kernel
theorem dX9_cutsAll_179 : decode cX9_cutsAll 179 = .ok (.iconst 1, 1) := by decide +kernel
theorem dX9_cutsAll_180 : decode cX9_cutsAll 180 = .ok (.iconst 0, 1) := by decide +kernel
theorem dX9_cutsAll_181 : decode cX9_cutsAll 181 = .ok (.invokevirtual 237, 3) := by decide +kernel
theorem dX9_cutsAll_184 : decode cX9_cutsAll 184 = .ok (.goto 149, 3) := by decide +kernel
theorem dX9_cutsAll_187 : decode cX9_cutsAll 187 = .ok (.aload_n 0, 1) := by decide +kernel
theorem dX9_cutsAll_188 : decode cX9_cutsAll 188 = .ok (.aload_n 0, 1) := by decide +kernel
theorem dX9_cutsAll_189 : decode cX9_cutsAll 189 = .ok (.getfield 7, 3) := by decide +kernel
theorem dX9_cutsAll_192 : decode cX9_cutsAll 192 = .ok (.iconst 2, 1) := by decide +kernel
theorem dX9_cutsAll_193 : decode cX9_cutsAll 193 = .ok (.iaload, 1) := by decide +kernel
theorem dX9_cutsAll_194 : decode cX9_cutsAll 194 = .ok (.aload_n 0, 1) := by decide +kernel
theorem dX9_cutsAll_195 : decode cX9_cutsAll 195 = .ok (.getfield 54, 3) := by decide +kernel
theorem dX9_cutsAll_198 : decode cX9_cutsAll 198 = .ok (.aload_n 0, 1) := by decide +kernel
theorem dX9_cutsAll_199 : decode cX9_cutsAll 199 = .ok (.getfield 234, 3) := by decide +kernel
theorem dX9_cutsAll_202 : decode cX9_cutsAll 202 = .ok (.aload_n 0, 1) := by decide +kernel
theorem dX9_cutsAll_203 : decode cX9_cutsAll 203 = .ok (.getfield 63, 3) := by decide +kernel
theorem dX9_cutsAll_206 : decode cX9_cutsAll 206 = .ok (.aload_n 0, 1) := by decide +kernel
theorem dX9_cutsAll_207 : decode cX9_cutsAll 207 = .ok (.getfield 66, 3) := by decide +kernel
theorem dX9_cutsAll_210 : decode cX9_cutsAll 210 = .ok (.aload_n 0, 1) := by decide +kernel
theorem dX9_cutsAll_211 : decode cX9_cutsAll 211 = .ok (.getfield 69, 3) := by decide +kernel
theorem dX9_cutsAll_214 : decode cX9_cutsAll 214 = .ok (.invokevirtual 223, 3) := by decide +kernel
theorem dX9_cutsAll_217 : decode cX9_cutsAll 217 = .ok (.istore_n 2, 1) := by decide +kernel
theorem dX9_cutsAll_218 : decode cX9_cutsAll 218 = .ok (.iconst 0, 1) := by decide +kernel
theorem dX9_cutsAll_219 : decode cX9_cutsAll 219 = .ok (.istore_n 3, 1) := by decide +kernel
theorem dX9_cutsAll_220 : decode cX9_cutsAll 220 = .ok (.iload_n 3, 1) := by decide +kernel
theorem dX9_cutsAll_221 : decode cX9_cutsAll 221 = .ok (.iload_n 2, 1) := by decide +kernel
theorem dX9_cutsAll_222 : decode cX9_cutsAll 222 = .ok (.if_icmp .ge 111, 3) := by decide +kernel
theorem dX9_cutsAll_225 : decode cX9_cutsAll 225 = .ok (.aload_n 0, 1) := by decide +kernel
theorem dX9_cutsAll_226 : decode cX9_cutsAll 226 = .ok (.aload_n 0, 1) := by decide +kernel
theorem dX9_cutsAll_227 : decode cX9_cutsAll 227 = .ok (.getfield 7, 3) := by decide +kernel
theorem dX9_cutsAll_230 : decode cX9_cutsAll 230 = .ok (.iconst 2, 1) := by decide +kernel
theorem dX9_cutsAll_231 : decode cX9_cutsAll 231 = .ok (.iaload, 1) := by decide +kernel
theorem dX9_cutsAll_232 : decode cX9_cutsAll 232 = .ok (.aload_n 0, 1) := by decide +kernel
theorem dX9_cutsAll_233 : decode cX9_cutsAll 233 = .ok (.getfield 69, 3) := by decide +kernel
theorem dX9_cutsAll_236 : decode cX9_cutsAll 236 = .ok (.iload_n 3, 1) := by decide +kernel
theorem dX9_cutsAll_237 : decode cX9_cutsAll 237 = .ok (.iaload, 1) := by decide +kernel
theorem dX9_cutsAll_238 : decode cX9_cutsAll 238 = .ok (.iconst 1, 1) := by decide +kernel
theorem dX9_cutsAll_239 : decode cX9_cutsAll 239 = .ok (.if_icmp .ne 7, 3) := by decide +kernel
theorem dX9_cutsAll_242 : decode cX9_cutsAll 242 = .ok (.iconst 1, 1) := by decide +kernel
theorem dX9_cutsAll_243 : decode cX9_cutsAll 243 = .ok (.goto 4, 3) := by decide +kernel
theorem dX9_cutsAll_246 : decode cX9_cutsAll 246 = .ok (.iconst 0, 1) := by decide +kernel
theorem dX9_cutsAll_247 : decode cX9_cutsAll 247 = .ok (.aload_n 0, 1) := by decide +kernel
theorem dX9_cutsAll_248 : decode cX9_cutsAll 248 = .ok (.getfield 54, 3) := by decide +kernel
theorem dX9_cutsAll_251 : decode cX9_cutsAll 251 = .ok (.aload_n 0, 1) := by decide +kernel
theorem dX9_cutsAll_252 : decode cX9_cutsAll 252 = .ok (.getfield 57, 3) := by decide +kernel
theorem dX9_cutsAll_255 : decode cX9_cutsAll 255 = .ok (.aload_n 0, 1) := by decide +kernel
theorem dX9_cutsAll_256 : decode cX9_cutsAll 256 = .ok (.getfield 60, 3) := by decide +kernel
theorem dX9_cutsAll_259 : decode cX9_cutsAll 259 = .ok (.aload_n 0, 1) := by decide +kernel
theorem dX9_cutsAll_260 : decode cX9_cutsAll 260 = .ok (.getfield 63, 3) := by decide +kernel
theorem dX9_cutsAll_263 : decode cX9_cutsAll 263 = .ok (.iload_n 3, 1) := by decide +kernel
theorem dX9_cutsAll_264 : decode cX9_cutsAll 264 = .ok (.iaload, 1) := by decide +kernel
theorem dX9_cutsAll_265 : decode cX9_cutsAll 265 = .ok (.aload_n 0, 1) := by decide +kernel
theorem dX9_cutsAll_266 : decode cX9_cutsAll 266 = .ok (.getfield 66, 3) := by decide +kernel
theorem dX9_cutsAll_269 : decode cX9_cutsAll 269 = .ok (.iload_n 3, 1) := by decide +kernel
theorem dX9_cutsAll_270 : decode cX9_cutsAll 270 = .ok (.iaload, 1) := by decide +kernel
theorem dX9_cutsAll_271 : decode cX9_cutsAll 271 = .ok (.aload_n 0, 1) := by decide +kernel
theorem dX9_cutsAll_272 : decode cX9_cutsAll 272 = .ok (.getfield 72, 3) := by decide +kernel
theorem dX9_cutsAll_275 : decode cX9_cutsAll 275 = .ok (.aload_n 0, 1) := by decide +kernel
theorem dX9_cutsAll_276 : decode cX9_cutsAll 276 = .ok (.getfield 75, 3) := by decide +kernel
theorem dX9_cutsAll_279 : decode cX9_cutsAll 279 = .ok (.aload_n 0, 1) := by decide +kernel
theorem dX9_cutsAll_280 : decode cX9_cutsAll 280 = .ok (.getfield 78, 3) := by decide +kernel
theorem dX9_cutsAll_283 : decode cX9_cutsAll 283 = .ok (.invokevirtual 230, 3) := by decide +kernel
theorem dX9_cutsAll_286 : decode cX9_cutsAll 286 = .ok (.istore 4, 2) := by decide +kernel
theorem dX9_cutsAll_288 : decode cX9_cutsAll 288 = .ok (.aload_n 0, 1) := by decide +kernel
theorem dX9_cutsAll_289 : decode cX9_cutsAll 289 = .ok (.iload_n 1, 1) := by decide +kernel
theorem dX9_cutsAll_290 : decode cX9_cutsAll 290 = .ok (.aload_n 0, 1) := by decide +kernel
theorem dX9_cutsAll_291 : decode cX9_cutsAll 291 = .ok (.getfield 72, 3) := by decide +kernel
theorem dX9_cutsAll_294 : decode cX9_cutsAll 294 = .ok (.aload_n 0, 1) := by decide +kernel
theorem dX9_cutsAll_295 : decode cX9_cutsAll 295 = .ok (.getfield 75, 3) := by decide +kernel
theorem dX9_cutsAll_298 : decode cX9_cutsAll 298 = .ok (.aload_n 0, 1) := by decide +kernel
theorem dX9_cutsAll_299 : decode cX9_cutsAll 299 = .ok (.getfield 78, 3) := by decide +kernel
theorem dX9_cutsAll_302 : decode cX9_cutsAll 302 = .ok (.iload 4, 2) := by decide +kernel
theorem dX9_cutsAll_304 : decode cX9_cutsAll 304 = .ok (.aload_n 0, 1) := by decide +kernel
theorem dX9_cutsAll_305 : decode cX9_cutsAll 305 = .ok (.getfield 63, 3) := by decide +kernel
theorem dX9_cutsAll_308 : decode cX9_cutsAll 308 = .ok (.iload_n 3, 1) := by decide +kernel
theorem dX9_cutsAll_309 : decode cX9_cutsAll 309 = .ok (.iaload, 1) := by decide +kernel
theorem dX9_cutsAll_310 : decode cX9_cutsAll 310 = .ok (.ifCond .ne 7, 3) := by decide +kernel
theorem dX9_cutsAll_313 : decode cX9_cutsAll 313 = .ok (.iconst 1, 1) := by decide +kernel
theorem dX9_cutsAll_314 : decode cX9_cutsAll 314 = .ok (.goto 4, 3) := by decide +kernel
theorem dX9_cutsAll_317 : decode cX9_cutsAll 317 = .ok (.iconst 0, 1) := by decide +kernel
theorem dX9_cutsAll_318 : decode cX9_cutsAll 318 = .ok (.aload_n 0, 1) := by decide +kernel
theorem dX9_cutsAll_319 : decode cX9_cutsAll 319 = .ok (.getfield 69, 3) := by decide +kernel
theorem dX9_cutsAll_322 : decode cX9_cutsAll 322 = .ok (.iload_n 3, 1) := by decide +kernel
theorem dX9_cutsAll_323 : decode cX9_cutsAll 323 = .ok (.iaload, 1) := by decide +kernel
theorem dX9_cutsAll_324 : decode cX9_cutsAll 324 = .ok (.invokevirtual 237, 3) := by decide +kernel
theorem dX9_cutsAll_327 : decode cX9_cutsAll 327 = .ok (.iinc 3 1, 3) := by decide +kernel
theorem dX9_cutsAll_330 : decode cX9_cutsAll 330 = .ok (.goto (-110), 3) := by decide +kernel
theorem dX9_cutsAll_333 : decode cX9_cutsAll 333 = .ok (.iinc 1 1, 3) := by decide +kernel
theorem dX9_cutsAll_336 : decode cX9_cutsAll 336 = .ok (.goto (-258), 3) := by decide +kernel
theorem dX9_cutsAll_339 : decode cX9_cutsAll 339 = .ok (.return_, 1) := by decide +kernel
theorem dX9_cutsAnew_0 : decode cX9_cutsAnew 0 = .ok (.aload_n 0, 1) := by decide +kernel
theorem dX9_cutsAnew_1 : decode cX9_cutsAnew 1 = .ok (.invokevirtual 244, 3) := by decide +kernel
theorem dX9_cutsAnew_4 : decode cX9_cutsAnew 4 = .ok (.iconst 0, 1) := by decide +kernel
theorem dX9_cutsAnew_5 : decode cX9_cutsAnew 5 = .ok (.istore_n 1, 1) := by decide +kernel
theorem dX9_cutsAnew_6 : decode cX9_cutsAnew 6 = .ok (.iload_n 1, 1) := by decide +kernel
theorem dX9_cutsAnew_7 : decode cX9_cutsAnew 7 = .ok (.bipush 40, 2) := by decide +kernel
theorem dX9_cutsAnew_9 : decode cX9_cutsAnew 9 = .ok (.if_icmp .ge 23, 3) := by decide +kernel
theorem dX9_cutsAnew_12 : decode cX9_cutsAnew 12 = .ok (.aload_n 0, 1) := by decide +kernel
theorem dX9_cutsAnew_13 : decode cX9_cutsAnew 13 = .ok (.getfield 7, 3) := by decide +kernel
theorem dX9_cutsAnew_16 : decode cX9_cutsAnew 16 = .ok (.sipush 443, 3) := by decide +kernel
theorem dX9_cutsAnew_19 : decode cX9_cutsAnew 19 = .ok (.bipush 61, 2) := by decide +kernel
theorem dX9_cutsAnew_21 : decode cX9_cutsAnew 21 = .ok (.iload_n 1, 1) := by decide +kernel
theorem dX9_cutsAnew_22 : decode cX9_cutsAnew 22 = .ok (.imul, 1) := by decide +kernel
theorem dX9_cutsAnew_23 : decode cX9_cutsAnew 23 = .ok (.iadd, 1) := by decide +kernel
theorem dX9_cutsAnew_24 : decode cX9_cutsAnew 24 = .ok (.iconst (-1), 1) := by decide +kernel
theorem dX9_cutsAnew_25 : decode cX9_cutsAnew 25 = .ok (.iastore, 1) := by decide +kernel
theorem dX9_cutsAnew_26 : decode cX9_cutsAnew 26 = .ok (.iinc 1 1, 3) := by decide +kernel
theorem dX9_cutsAnew_29 : decode cX9_cutsAnew 29 = .ok (.goto (-23), 3) := by decide +kernel
theorem dX9_cutsAnew_32 : decode cX9_cutsAnew 32 = .ok (.return_, 1) := by decide +kernel
theorem dX9_cutsBuilt_0 : decode cX9_cutsBuilt 0 = .ok (.aload_n 0, 1) := by decide +kernel
theorem dX9_cutsBuilt_1 : decode cX9_cutsBuilt 1 = .ok (.invokevirtual 441, 3) := by decide +kernel
theorem dX9_cutsBuilt_4 : decode cX9_cutsBuilt 4 = .ok (.istore_n 1, 1) := by decide +kernel
theorem dX9_cutsBuilt_5 : decode cX9_cutsBuilt 5 = .ok (.aload_n 0, 1) := by decide +kernel
theorem dX9_cutsBuilt_6 : decode cX9_cutsBuilt 6 = .ok (.getfield 204, 3) := by decide +kernel
theorem dX9_cutsBuilt_9 : decode cX9_cutsBuilt 9 = .ok (.istore_n 2, 1) := by decide +kernel
theorem dX9_cutsBuilt_10 : decode cX9_cutsBuilt 10 = .ok (.iconst 0, 1) := by decide +kernel
theorem dX9_cutsBuilt_11 : decode cX9_cutsBuilt 11 = .ok (.istore_n 3, 1) := by decide +kernel
theorem dX9_cutsBuilt_12 : decode cX9_cutsBuilt 12 = .ok (.aload_n 0, 1) := by decide +kernel
theorem dX9_cutsBuilt_13 : decode cX9_cutsBuilt 13 = .ok (.iload_n 2, 1) := by decide +kernel
theorem dX9_cutsBuilt_14 : decode cX9_cutsBuilt 14 = .ok (.putfield 459, 3) := by decide +kernel
theorem dX9_cutsBuilt_17 : decode cX9_cutsBuilt 17 = .ok (.iconst 0, 1) := by decide +kernel
theorem dX9_cutsBuilt_18 : decode cX9_cutsBuilt 18 = .ok (.istore 4, 2) := by decide +kernel
theorem dX9_cutsBuilt_20 : decode cX9_cutsBuilt 20 = .ok (.iload 4, 2) := by decide +kernel
theorem dX9_cutsBuilt_22 : decode cX9_cutsBuilt 22 = .ok (.iload_n 2, 1) := by decide +kernel
theorem dX9_cutsBuilt_23 : decode cX9_cutsBuilt 23 = .ok (.if_icmp .ge 61, 3) := by decide +kernel
theorem dX9_cutsBuilt_26 : decode cX9_cutsBuilt 26 = .ok (.aload_n 0, 1) := by decide +kernel
theorem dX9_cutsBuilt_27 : decode cX9_cutsBuilt 27 = .ok (.getfield 126, 3) := by decide +kernel
theorem dX9_cutsBuilt_30 : decode cX9_cutsBuilt 30 = .ok (.iload 4, 2) := by decide +kernel
theorem dX9_cutsBuilt_32 : decode cX9_cutsBuilt 32 = .ok (.iload_n 3, 1) := by decide +kernel
theorem dX9_cutsBuilt_33 : decode cX9_cutsBuilt 33 = .ok (.iastore, 1) := by decide +kernel
theorem dX9_cutsBuilt_34 : decode cX9_cutsBuilt 34 = .ok (.iconst 0, 1) := by decide +kernel
theorem dX9_cutsBuilt_35 : decode cX9_cutsBuilt 35 = .ok (.istore 5, 2) := by decide +kernel
theorem dX9_cutsBuilt_37 : decode cX9_cutsBuilt 37 = .ok (.iload 5, 2) := by decide +kernel
theorem dX9_cutsBuilt_39 : decode cX9_cutsBuilt 39 = .ok (.aload_n 0, 1) := by decide +kernel
theorem dX9_cutsBuilt_40 : decode cX9_cutsBuilt 40 = .ok (.iload 4, 2) := by decide +kernel
theorem dX9_cutsBuilt_42 : decode cX9_cutsBuilt 42 = .ok (.invokevirtual 313, 3) := by decide +kernel
theorem dX9_cutsBuilt_45 : decode cX9_cutsBuilt 45 = .ok (.if_icmp .ge 33, 3) := by decide +kernel
theorem dX9_cutsBuilt_48 : decode cX9_cutsBuilt 48 = .ok (.iload_n 3, 1) := by decide +kernel
theorem dX9_cutsBuilt_49 : decode cX9_cutsBuilt 49 = .ok (.sipush 700, 3) := by decide +kernel
theorem dX9_cutsBuilt_52 : decode cX9_cutsBuilt 52 = .ok (.if_icmp .ge 26, 3) := by decide +kernel
theorem dX9_cutsBuilt_55 : decode cX9_cutsBuilt 55 = .ok (.aload_n 0, 1) := by decide +kernel
theorem dX9_cutsBuilt_56 : decode cX9_cutsBuilt 56 = .ok (.getfield 123, 3) := by decide +kernel
theorem dX9_cutsBuilt_59 : decode cX9_cutsBuilt 59 = .ok (.iload_n 3, 1) := by decide +kernel
theorem dX9_cutsBuilt_60 : decode cX9_cutsBuilt 60 = .ok (.aload_n 0, 1) := by decide +kernel
theorem dX9_cutsBuilt_61 : decode cX9_cutsBuilt 61 = .ok (.iload 4, 2) := by decide +kernel
theorem dX9_cutsBuilt_63 : decode cX9_cutsBuilt 63 = .ok (.iload 5, 2) := by decide +kernel
theorem dX9_cutsBuilt_65 : decode cX9_cutsBuilt 65 = .ok (.invokevirtual 316, 3) := by decide +kernel
theorem dX9_cutsBuilt_68 : decode cX9_cutsBuilt 68 = .ok (.iastore, 1) := by decide +kernel
theorem dX9_cutsBuilt_69 : decode cX9_cutsBuilt 69 = .ok (.iinc 3 1, 3) := by decide +kernel
theorem dX9_cutsBuilt_72 : decode cX9_cutsBuilt 72 = .ok (.iinc 5 1, 3) := by decide +kernel
theorem dX9_cutsBuilt_75 : decode cX9_cutsBuilt 75 = .ok (.goto (-38), 3) := by decide +kernel
theorem dX9_cutsBuilt_78 : decode cX9_cutsBuilt 78 = .ok (.iinc 4 1, 3) := by decide +kernel
theorem dX9_cutsBuilt_81 : decode cX9_cutsBuilt 81 = .ok (.goto (-61), 3) := by decide +kernel
theorem dX9_cutsBuilt_84 : decode cX9_cutsBuilt 84 = .ok (.aload_n 0, 1) := by decide +kernel
theorem dX9_cutsBuilt_85 : decode cX9_cutsBuilt 85 = .ok (.getfield 126, 3) := by decide +kernel
theorem dX9_cutsBuilt_88 : decode cX9_cutsBuilt 88 = .ok (.iload_n 2, 1) := by decide +kernel
theorem dX9_cutsBuilt_89 : decode cX9_cutsBuilt 89 = .ok (.iload_n 3, 1) := by decide +kernel
theorem dX9_cutsBuilt_90 : decode cX9_cutsBuilt 90 = .ok (.iastore, 1) := by decide +kernel
theorem dX9_cutsBuilt_91 : decode cX9_cutsBuilt 91 = .ok (.aload_n 0, 1) := by decide +kernel
theorem dX9_cutsBuilt_92 : decode cX9_cutsBuilt 92 = .ok (.iload_n 1, 1) := by decide +kernel
theorem dX9_cutsBuilt_93 : decode cX9_cutsBuilt 93 = .ok (.putfield 220, 3) := by decide +kernel
theorem dX9_cutsBuilt_96 : decode cX9_cutsBuilt 96 = .ok (.iconst 0, 1) := by decide +kernel
theorem dX9_cutsBuilt_97 : decode cX9_cutsBuilt 97 = .ok (.istore 4, 2) := by decide +kernel
theorem dX9_cutsBuilt_99 : decode cX9_cutsBuilt 99 = .ok (.iload 4, 2) := by decide +kernel
theorem dX9_cutsBuilt_101 : decode cX9_cutsBuilt 101 = .ok (.iload_n 1, 1) := by decide +kernel
theorem dX9_cutsBuilt_102 : decode cX9_cutsBuilt 102 = .ok (.if_icmp .ge 23, 3) := by decide +kernel
theorem dX9_cutsBuilt_105 : decode cX9_cutsBuilt 105 = .ok (.aload_n 0, 1) := by decide +kernel
theorem dX9_cutsBuilt_106 : decode cX9_cutsBuilt 106 = .ok (.getfield 30, 3) := by decide +kernel
theorem dX9_cutsBuilt_109 : decode cX9_cutsBuilt 109 = .ok (.iload 4, 2) := by decide +kernel
theorem dX9_cutsBuilt_111 : decode cX9_cutsBuilt 111 = .ok (.aload_n 0, 1) := by decide +kernel
theorem dX9_cutsBuilt_112 : decode cX9_cutsBuilt 112 = .ok (.getfield 120, 3) := by decide +kernel
theorem dX9_cutsBuilt_115 : decode cX9_cutsBuilt 115 = .ok (.iload 4, 2) := by decide +kernel
theorem dX9_cutsBuilt_117 : decode cX9_cutsBuilt 117 = .ok (.iaload, 1) := by decide +kernel
theorem dX9_cutsBuilt_118 : decode cX9_cutsBuilt 118 = .ok (.iastore, 1) := by decide +kernel
theorem dX9_cutsBuilt_119 : decode cX9_cutsBuilt 119 = .ok (.iinc 4 1, 3) := by decide +kernel
theorem dX9_cutsBuilt_122 : decode cX9_cutsBuilt 122 = .ok (.goto (-23), 3) := by decide +kernel
theorem dX9_cutsBuilt_125 : decode cX9_cutsBuilt 125 = .ok (.aload_n 0, 1) := by decide +kernel
theorem dX9_cutsBuilt_126 : decode cX9_cutsBuilt 126 = .ok (.invokevirtual 241, 3) := by decide +kernel
theorem dX9_cutsBuilt_129 : decode cX9_cutsBuilt 129 = .ok (.return_, 1) := by decide +kernel
theorem dX9_cutsFile_0 : decode cX9_cutsFile 0 = .ok (.aload_n 0, 1) := by decide +kernel
theorem dX9_cutsFile_1 : decode cX9_cutsFile 1 = .ok (.aload_n 0, 1) := by decide +kernel
theorem dX9_cutsFile_2 : decode cX9_cutsFile 2 = .ok (.getfield 7, 3) := by decide +kernel
theorem dX9_cutsFile_5 : decode cX9_cutsFile 5 = .ok (.iconst 0, 1) := by decide +kernel
theorem dX9_cutsFile_6 : decode cX9_cutsFile 6 = .ok (.iaload, 1) := by decide +kernel
theorem dX9_cutsFile_7 : decode cX9_cutsFile 7 = .ok (.putfield 220, 3) := by decide +kernel
theorem dX9_cutsFile_10 : decode cX9_cutsFile 10 = .ok (.iconst 0, 1) := by decide +kernel
theorem dX9_cutsFile_11 : decode cX9_cutsFile 11 = .ok (.istore_n 1, 1) := by decide +kernel
theorem dX9_cutsFile_12 : decode cX9_cutsFile 12 = .ok (.iload_n 1, 1) := by decide +kernel
theorem dX9_cutsFile_13 : decode cX9_cutsFile 13 = .ok (.aload_n 0, 1) := by decide +kernel
theorem dX9_cutsFile_14 : decode cX9_cutsFile 14 = .ok (.getfield 220, 3) := by decide +kernel
theorem dX9_cutsFile_17 : decode cX9_cutsFile 17 = .ok (.if_icmp .ge 24, 3) := by decide +kernel
theorem dX9_cutsFile_20 : decode cX9_cutsFile 20 = .ok (.aload_n 0, 1) := by decide +kernel
theorem dX9_cutsFile_21 : decode cX9_cutsFile 21 = .ok (.getfield 30, 3) := by decide +kernel
theorem dX9_cutsFile_24 : decode cX9_cutsFile 24 = .ok (.iload_n 1, 1) := by decide +kernel
theorem dX9_cutsFile_25 : decode cX9_cutsFile 25 = .ok (.aload_n 0, 1) := by decide +kernel
theorem dX9_cutsFile_26 : decode cX9_cutsFile 26 = .ok (.getfield 7, 3) := by decide +kernel
theorem dX9_cutsFile_29 : decode cX9_cutsFile 29 = .ok (.bipush 43, 2) := by decide +kernel
theorem dX9_cutsFile_31 : decode cX9_cutsFile 31 = .ok (.iload_n 1, 1) := by decide +kernel
theorem dX9_cutsFile_32 : decode cX9_cutsFile 32 = .ok (.iadd, 1) := by decide +kernel
theorem dX9_cutsFile_33 : decode cX9_cutsFile 33 = .ok (.iaload, 1) := by decide +kernel
theorem dX9_cutsFile_34 : decode cX9_cutsFile 34 = .ok (.iastore, 1) := by decide +kernel
theorem dX9_cutsFile_35 : decode cX9_cutsFile 35 = .ok (.iinc 1 1, 3) := by decide +kernel
theorem dX9_cutsFile_38 : decode cX9_cutsFile 38 = .ok (.goto (-26), 3) := by decide +kernel
theorem dX9_cutsFile_41 : decode cX9_cutsFile 41 = .ok (.aload_n 0, 1) := by decide +kernel
theorem dX9_cutsFile_42 : decode cX9_cutsFile 42 = .ok (.invokevirtual 241, 3) := by decide +kernel
theorem dX9_cutsFile_45 : decode cX9_cutsFile 45 = .ok (.return_, 1) := by decide +kernel
theorem dX9_cutsLines_0 : decode cX9_cutsLines 0 = .ok (.iconst 0, 1) := by decide +kernel
theorem dX9_cutsLines_1 : decode cX9_cutsLines 1 = .ok (.istore 6, 2) := by decide +kernel
theorem dX9_cutsLines_3 : decode cX9_cutsLines 3 = .ok (.iload 6, 2) := by decide +kernel
theorem dX9_cutsLines_5 : decode cX9_cutsLines 5 = .ok (.iload_n 2, 1) := by decide +kernel
theorem dX9_cutsLines_6 : decode cX9_cutsLines 6 = .ok (.if_icmp .ge 202, 3) := by decide +kernel
theorem dX9_cutsLines_9 : decode cX9_cutsLines 9 = .ok (.aload_n 1, 1) := by decide +kernel
theorem dX9_cutsLines_10 : decode cX9_cutsLines 10 = .ok (.iload_n 2, 1) := by decide +kernel
theorem dX9_cutsLines_11 : decode cX9_cutsLines 11 = .ok (.iload 6, 2) := by decide +kernel
theorem dX9_cutsLines_13 : decode cX9_cutsLines 13 = .ok (.bipush 10, 2) := by decide +kernel
theorem dX9_cutsLines_15 : decode cX9_cutsLines 15 = .ok (.bipush 10, 2) := by decide +kernel
theorem dX9_cutsLines_17 : decode cX9_cutsLines 17 = .ok (.invokestatic 148, 3) := by decide +kernel
theorem dX9_cutsLines_20 : decode cX9_cutsLines 20 = .ok (.istore 7, 2) := by decide +kernel
theorem dX9_cutsLines_22 : decode cX9_cutsLines 22 = .ok (.iload 6, 2) := by decide +kernel
theorem dX9_cutsLines_24 : decode cX9_cutsLines 24 = .ok (.istore 8, 2) := by decide +kernel
theorem dX9_cutsLines_26 : decode cX9_cutsLines 26 = .ok (.iload 8, 2) := by decide +kernel
theorem dX9_cutsLines_28 : decode cX9_cutsLines 28 = .ok (.iload 7, 2) := by decide +kernel
theorem dX9_cutsLines_30 : decode cX9_cutsLines 30 = .ok (.if_icmp .ge 18, 3) := by decide +kernel
theorem dX9_cutsLines_33 : decode cX9_cutsLines 33 = .ok (.aload_n 1, 1) := by decide +kernel
theorem dX9_cutsLines_34 : decode cX9_cutsLines 34 = .ok (.iload 8, 2) := by decide +kernel
theorem dX9_cutsLines_36 : decode cX9_cutsLines 36 = .ok (.iaload, 1) := by decide +kernel
theorem dX9_cutsLines_37 : decode cX9_cutsLines 37 = .ok (.bipush 32, 2) := by decide +kernel
theorem dX9_cutsLines_39 : decode cX9_cutsLines 39 = .ok (.if_icmp .ne 9, 3) := by decide +kernel
theorem dX9_cutsLines_42 : decode cX9_cutsLines 42 = .ok (.iinc 8 1, 3) := by decide +kernel
theorem dX9_cutsLines_45 : decode cX9_cutsLines 45 = .ok (.goto (-19), 3) := by decide +kernel
theorem dX9_cutsLines_48 : decode cX9_cutsLines 48 = .ok (.aload_n 1, 1) := by decide +kernel
theorem dX9_cutsLines_49 : decode cX9_cutsLines 49 = .ok (.iload 7, 2) := by decide +kernel
theorem dX9_cutsLines_51 : decode cX9_cutsLines 51 = .ok (.iload 6, 2) := by decide +kernel
theorem dX9_cutsLines_53 : decode cX9_cutsLines 53 = .ok (.bipush 61, 2) := by decide +kernel
theorem dX9_cutsLines_55 : decode cX9_cutsLines 55 = .ok (.bipush 61, 2) := by decide +kernel
theorem dX9_cutsLines_57 : decode cX9_cutsLines 57 = .ok (.invokestatic 148, 3) := by decide +kernel
theorem dX9_cutsLines_60 : decode cX9_cutsLines 60 = .ok (.istore 9, 2) := by decide +kernel
theorem dX9_cutsLines_62 : decode cX9_cutsLines 62 = .ok (.iload 8, 2) := by decide +kernel
theorem dX9_cutsLines_64 : decode cX9_cutsLines 64 = .ok (.iload 7, 2) := by decide +kernel
theorem dX9_cutsLines_66 : decode cX9_cutsLines 66 = .ok (.if_icmp .ge 133, 3) := by decide +kernel
theorem dX9_cutsLines_69 : decode cX9_cutsLines 69 = .ok (.aload_n 1, 1) := by decide +kernel
theorem dX9_cutsLines_70 : decode cX9_cutsLines 70 = .ok (.iload 8, 2) := by decide +kernel
theorem dX9_cutsLines_72 : decode cX9_cutsLines 72 = .ok (.iaload, 1) := by decide +kernel
theorem dX9_cutsLines_73 : decode cX9_cutsLines 73 = .ok (.bipush 35, 2) := by decide +kernel
theorem dX9_cutsLines_75 : decode cX9_cutsLines 75 = .ok (.if_icmp .eq 124, 3) := by decide +kernel
theorem dX9_cutsLines_78 : decode cX9_cutsLines 78 = .ok (.iload 9, 2) := by decide +kernel
theorem dX9_cutsLines_80 : decode cX9_cutsLines 80 = .ok (.iload 7, 2) := by decide +kernel
theorem dX9_cutsLines_82 : decode cX9_cutsLines 82 = .ok (.if_icmp .ge 117, 3) := by decide +kernel
theorem dX9_cutsLines_85 : decode cX9_cutsLines 85 = .ok (.iload 9, 2) := by decide +kernel
theorem dX9_cutsLines_87 : decode cX9_cutsLines 87 = .ok (.iconst 1, 1) := by decide +kernel
theorem dX9_cutsLines_88 : decode cX9_cutsLines 88 = .ok (.iadd, 1) := by decide +kernel
theorem dX9_cutsLines_89 : decode cX9_cutsLines 89 = .ok (.istore 10, 2) := by decide +kernel
theorem dX9_cutsLines_91 : decode cX9_cutsLines 91 = .ok (.iload 10, 2) := by decide +kernel
theorem dX9_cutsLines_93 : decode cX9_cutsLines 93 = .ok (.iload 7, 2) := by decide +kernel
theorem dX9_cutsLines_95 : decode cX9_cutsLines 95 = .ok (.if_icmp .ge 18, 3) := by decide +kernel
theorem dX9_cutsLines_98 : decode cX9_cutsLines 98 = .ok (.aload_n 1, 1) := by decide +kernel
theorem dX9_cutsLines_99 : decode cX9_cutsLines 99 = .ok (.iload 10, 2) := by decide +kernel
theorem dX9_cutsLines_101 : decode cX9_cutsLines 101 = .ok (.iaload, 1) := by decide +kernel
theorem dX9_cutsLines_102 : decode cX9_cutsLines 102 = .ok (.bipush 32, 2) := by decide +kernel
theorem dX9_cutsLines_104 : decode cX9_cutsLines 104 = .ok (.if_icmp .ne 9, 3) := by decide +kernel
theorem dX9_cutsLines_107 : decode cX9_cutsLines 107 = .ok (.iinc 10 1, 3) := by decide +kernel
theorem dX9_cutsLines_110 : decode cX9_cutsLines 110 = .ok (.goto (-19), 3) := by decide +kernel
theorem dX9_cutsLines_113 : decode cX9_cutsLines 113 = .ok (.aload_n 0, 1) := by decide +kernel
theorem dX9_cutsLines_114 : decode cX9_cutsLines 114 = .ok (.getfield 145, 3) := by decide +kernel
theorem dX9_cutsLines_117 : decode cX9_cutsLines 117 = .ok (.istore 11, 2) := by decide +kernel
theorem dX9_cutsLines_119 : decode cX9_cutsLines 119 = .ok (.aload_n 0, 1) := by decide +kernel
theorem dX9_cutsLines_120 : decode cX9_cutsLines 120 = .ok (.aload_n 3, 1) := by decide +kernel
theorem dX9_cutsLines_121 : decode cX9_cutsLines 121 = .ok (.aload 4, 2) := by decide +kernel
theorem dX9_cutsLines_123 : decode cX9_cutsLines 123 = .ok (.aload 5, 2) := by decide +kernel
theorem dX9_cutsLines_125 : decode cX9_cutsLines 125 = .ok (.iload 10, 2) := by decide +kernel
theorem dX9_cutsLines_127 : decode cX9_cutsLines 127 = .ok (.iload 7, 2) := by decide +kernel
theorem dX9_cutsLines_129 : decode cX9_cutsLines 129 = .ok (.iconst 0, 1) := by decide +kernel
theorem dX9_cutsLines_130 : decode cX9_cutsLines 130 = .ok (.invokevirtual 152, 3) := by decide +kernel
theorem dX9_cutsLines_133 : decode cX9_cutsLines 133 = .ok (.iload 9, 2) := by decide +kernel
theorem dX9_cutsLines_135 : decode cX9_cutsLines 135 = .ok (.istore 12, 2) := by decide +kernel
theorem dX9_cutsLines_137 : decode cX9_cutsLines 137 = .ok (.iload 12, 2) := by decide +kernel
theorem dX9_cutsLines_139 : decode cX9_cutsLines 139 = .ok (.iload 8, 2) := by decide +kernel
theorem dX9_cutsLines_141 : decode cX9_cutsLines 141 = .ok (.if_icmp .le 20, 3) := by decide +kernel
theorem dX9_cutsLines_144 : decode cX9_cutsLines 144 = .ok (.aload_n 1, 1) := by decide +kernel
theorem dX9_cutsLines_145 : decode cX9_cutsLines 145 = .ok (.iload 12, 2) := by decide +kernel
theorem dX9_cutsLines_147 : decode cX9_cutsLines 147 = .ok (.iconst 1, 1) := by decide +kernel
theorem dX9_cutsLines_148 : decode cX9_cutsLines 148 = .ok (.isub, 1) := by decide +kernel
theorem dX9_cutsLines_149 : decode cX9_cutsLines 149 = .ok (.iaload, 1) := by decide +kernel
theorem dX9_cutsLines_150 : decode cX9_cutsLines 150 = .ok (.bipush 32, 2) := by decide +kernel
theorem dX9_cutsLines_152 : decode cX9_cutsLines 152 = .ok (.if_icmp .ne 9, 3) := by decide +kernel
theorem dX9_cutsLines_155 : decode cX9_cutsLines 155 = .ok (.iinc 12 (-1), 3) := by decide +kernel
theorem dX9_cutsLines_158 : decode cX9_cutsLines 158 = .ok (.goto (-21), 3) := by decide +kernel
theorem dX9_cutsLines_161 : decode cX9_cutsLines 161 = .ok (.aload_n 0, 1) := by decide +kernel
theorem dX9_cutsLines_162 : decode cX9_cutsLines 162 = .ok (.getfield 145, 3) := by decide +kernel
theorem dX9_cutsLines_165 : decode cX9_cutsLines 165 = .ok (.iload 11, 2) := by decide +kernel
theorem dX9_cutsLines_167 : decode cX9_cutsLines 167 = .ok (.if_icmp .le 32, 3) := by decide +kernel
theorem dX9_cutsLines_170 : decode cX9_cutsLines 170 = .ok (.aload_n 3, 1) := by decide +kernel
theorem dX9_cutsLines_171 : decode cX9_cutsLines 171 = .ok (.aload_n 0, 1) := by decide +kernel
theorem dX9_cutsLines_172 : decode cX9_cutsLines 172 = .ok (.getfield 39, 3) := by decide +kernel
theorem dX9_cutsLines_175 : decode cX9_cutsLines 175 = .ok (.if_acmp .ne 24, 3) := by decide +kernel
theorem dX9_cutsLines_178 : decode cX9_cutsLines 178 = .ok (.aload_n 0, 1) := by decide +kernel
theorem dX9_cutsLines_179 : decode cX9_cutsLines 179 = .ok (.getfield 48, 3) := by decide +kernel
theorem dX9_cutsLines_182 : decode cX9_cutsLines 182 = .ok (.iload 11, 2) := by decide +kernel
theorem dX9_cutsLines_184 : decode cX9_cutsLines 184 = .ok (.iload 8, 2) := by decide +kernel
theorem dX9_cutsLines_186 : decode cX9_cutsLines 186 = .ok (.iastore, 1) := by decide +kernel
theorem dX9_cutsLines_187 : decode cX9_cutsLines 187 = .ok (.aload_n 0, 1) := by decide +kernel
theorem dX9_cutsLines_188 : decode cX9_cutsLines 188 = .ok (.getfield 51, 3) := by decide +kernel
theorem dX9_cutsLines_191 : decode cX9_cutsLines 191 = .ok (.iload 11, 2) := by decide +kernel
theorem dX9_cutsLines_193 : decode cX9_cutsLines 193 = .ok (.iload 12, 2) := by decide +kernel
theorem dX9_cutsLines_195 : decode cX9_cutsLines 195 = .ok (.iload 8, 2) := by decide +kernel
theorem dX9_cutsLines_197 : decode cX9_cutsLines 197 = .ok (.isub, 1) := by decide +kernel
theorem dX9_cutsLines_198 : decode cX9_cutsLines 198 = .ok (.iastore, 1) := by decide +kernel
theorem dX9_cutsLines_199 : decode cX9_cutsLines 199 = .ok (.iload 7, 2) := by decide +kernel
theorem dX9_cutsLines_201 : decode cX9_cutsLines 201 = .ok (.iconst 1, 1) := by decide +kernel
theorem dX9_cutsLines_202 : decode cX9_cutsLines 202 = .ok (.iadd, 1) := by decide +kernel
theorem dX9_cutsLines_203 : decode cX9_cutsLines 203 = .ok (.istore 6, 2) := by decide +kernel
theorem dX9_cutsLines_205 : decode cX9_cutsLines 205 = .ok (.goto (-202), 3) := by decide +kernel
theorem dX9_cutsLines_208 : decode cX9_cutsLines 208 = .ok (.return_, 1) := by decide +kernel
theorem dX9_cutsMarkup_0 : decode cX9_cutsMarkup 0 = .ok (.iconst 0, 1) := by decide +kernel
theorem dX9_cutsMarkup_1 : decode cX9_cutsMarkup 1 = .ok (.istore 6, 2) := by decide +kernel
theorem dX9_cutsMarkup_3 : decode cX9_cutsMarkup 3 = .ok (.iload 6, 2) := by decide +kernel
theorem dX9_cutsMarkup_5 : decode cX9_cutsMarkup 5 = .ok (.iload_n 2, 1) := by decide +kernel
theorem dX9_cutsMarkup_6 : decode cX9_cutsMarkup 6 = .ok (.if_icmp .ge 104, 3) := by decide +kernel
theorem dX9_cutsMarkup_9 : decode cX9_cutsMarkup 9 = .ok (.aload_n 1, 1) := by decide +kernel
theorem dX9_cutsMarkup_10 : decode cX9_cutsMarkup 10 = .ok (.iload_n 2, 1) := by decide +kernel
theorem dX9_cutsMarkup_11 : decode cX9_cutsMarkup 11 = .ok (.iload 6, 2) := by decide +kernel
theorem dX9_cutsMarkup_13 : decode cX9_cutsMarkup 13 = .ok (.bipush 60, 2) := by decide +kernel
theorem dX9_cutsMarkup_15 : decode cX9_cutsMarkup 15 = .ok (.bipush 60, 2) := by decide +kernel
theorem dX9_cutsMarkup_17 : decode cX9_cutsMarkup 17 = .ok (.invokestatic 148, 3) := by decide +kernel
theorem dX9_cutsMarkup_20 : decode cX9_cutsMarkup 20 = .ok (.istore 7, 2) := by decide +kernel
theorem dX9_cutsMarkup_22 : decode cX9_cutsMarkup 22 = .ok (.iload 6, 2) := by decide +kernel
theorem dX9_cutsMarkup_24 : decode cX9_cutsMarkup 24 = .ok (.istore 8, 2) := by decide +kernel
theorem dX9_cutsMarkup_26 : decode cX9_cutsMarkup 26 = .ok (.iload 7, 2) := by decide +kernel
theorem dX9_cutsMarkup_28 : decode cX9_cutsMarkup 28 = .ok (.istore 9, 2) := by decide +kernel
theorem dX9_cutsMarkup_30 : decode cX9_cutsMarkup 30 = .ok (.iload 8, 2) := by decide +kernel
theorem dX9_cutsMarkup_32 : decode cX9_cutsMarkup 32 = .ok (.iload 9, 2) := by decide +kernel
theorem dX9_cutsMarkup_34 : decode cX9_cutsMarkup 34 = .ok (.if_icmp .ge 19, 3) := by decide +kernel
theorem dX9_cutsMarkup_37 : decode cX9_cutsMarkup 37 = .ok (.aload_n 1, 1) := by decide +kernel
theorem dX9_cutsMarkup_38 : decode cX9_cutsMarkup 38 = .ok (.iload 8, 2) := by decide +kernel
theorem dX9_cutsMarkup_40 : decode cX9_cutsMarkup 40 = .ok (.iaload, 1) := by decide +kernel
theorem dX9_cutsMarkup_41 : decode cX9_cutsMarkup 41 = .ok (.invokestatic 156, 3) := by decide +kernel
theorem dX9_cutsMarkup_44 : decode cX9_cutsMarkup 44 = .ok (.ifCond .eq 9, 3) := by decide +kernel
theorem dX9_cutsMarkup_47 : decode cX9_cutsMarkup 47 = .ok (.iinc 8 1, 3) := by decide +kernel
theorem dX9_cutsMarkup_50 : decode cX9_cutsMarkup 50 = .ok (.goto (-20), 3) := by decide +kernel
theorem dX9_cutsMarkup_53 : decode cX9_cutsMarkup 53 = .ok (.iload 9, 2) := by decide +kernel
theorem dX9_cutsMarkup_55 : decode cX9_cutsMarkup 55 = .ok (.iload 8, 2) := by decide +kernel
theorem dX9_cutsMarkup_57 : decode cX9_cutsMarkup 57 = .ok (.if_icmp .le 21, 3) := by decide +kernel
theorem dX9_cutsMarkup_60 : decode cX9_cutsMarkup 60 = .ok (.aload_n 1, 1) := by decide +kernel
theorem dX9_cutsMarkup_61 : decode cX9_cutsMarkup 61 = .ok (.iload 9, 2) := by decide +kernel
theorem dX9_cutsMarkup_63 : decode cX9_cutsMarkup 63 = .ok (.iconst 1, 1) := by decide +kernel
end
/-! part 21c.dec -/
section
theorem dX9_cutsMarkup_64 : decode cX9_cutsMarkup 64 = .ok (.isub, 1) := by decide +kernel
theorem dX9_cutsMarkup_65 : decode cX9_cutsMarkup 65 = .ok (.iaload, 1) := by decide +kernel
theorem dX9_cutsMarkup_66 : decode cX9_cutsMarkup 66 = .ok (.invokestatic 156, 3) := by decide +kernel
theorem dX9_cutsMarkup_69 : decode cX9_cutsMarkup 69 = .ok (.ifCond .eq 9, 3) := by decide +kernel
theorem dX9_cutsMarkup_72 : decode cX9_cutsMarkup 72 = .ok (.iinc 9 (-1), 3) := by decide +kernel
theorem dX9_cutsMarkup_75 : decode cX9_cutsMarkup 75 = .ok (.goto (-22), 3) := by decide +kernel
theorem dX9_cutsMarkup_78 : decode cX9_cutsMarkup 78 = .ok (.aload_n 0, 1) := by decide +kernel
theorem dX9_cutsMarkup_79 : decode cX9_cutsMarkup 79 = .ok (.aload_n 3, 1) := by decide +kernel
theorem dX9_cutsMarkup_80 : decode cX9_cutsMarkup 80 = .ok (.aload 4, 2) := by decide +kernel
theorem dX9_cutsMarkup_82 : decode cX9_cutsMarkup 82 = .ok (.aload 5, 2) := by decide +kernel
theorem dX9_cutsMarkup_84 : decode cX9_cutsMarkup 84 = .ok (.iload 8, 2) := by decide +kernel
theorem dX9_cutsMarkup_86 : decode cX9_cutsMarkup 86 = .ok (.iload 9, 2) := by decide +kernel
theorem dX9_cutsMarkup_88 : decode cX9_cutsMarkup 88 = .ok (.iconst 0, 1) := by decide +kernel
theorem dX9_cutsMarkup_89 : decode cX9_cutsMarkup 89 = .ok (.invokevirtual 152, 3) := by decide +kernel
theorem dX9_cutsMarkup_92 : decode cX9_cutsMarkup 92 = .ok (.aload_n 1, 1) := by decide +kernel
theorem dX9_cutsMarkup_93 : decode cX9_cutsMarkup 93 = .ok (.iload_n 2, 1) := by decide +kernel
theorem dX9_cutsMarkup_94 : decode cX9_cutsMarkup 94 = .ok (.iload 7, 2) := by decide +kernel
theorem dX9_cutsMarkup_96 : decode cX9_cutsMarkup 96 = .ok (.bipush 62, 2) := by decide +kernel
theorem dX9_cutsMarkup_98 : decode cX9_cutsMarkup 98 = .ok (.bipush 62, 2) := by decide +kernel
theorem dX9_cutsMarkup_100 : decode cX9_cutsMarkup 100 = .ok (.invokestatic 148, 3) := by decide +kernel
theorem dX9_cutsMarkup_103 : decode cX9_cutsMarkup 103 = .ok (.iconst 1, 1) := by decide +kernel
theorem dX9_cutsMarkup_104 : decode cX9_cutsMarkup 104 = .ok (.iadd, 1) := by decide +kernel
theorem dX9_cutsMarkup_105 : decode cX9_cutsMarkup 105 = .ok (.istore 6, 2) := by decide +kernel
theorem dX9_cutsMarkup_107 : decode cX9_cutsMarkup 107 = .ok (.goto (-104), 3) := by decide +kernel
theorem dX9_cutsMarkup_110 : decode cX9_cutsMarkup 110 = .ok (.return_, 1) := by decide +kernel
theorem dX9_cutsQuotes_0 : decode cX9_cutsQuotes 0 = .ok (.aload_n 1, 1) := by decide +kernel
theorem dX9_cutsQuotes_1 : decode cX9_cutsQuotes 1 = .ok (.iload_n 2, 1) := by decide +kernel
theorem dX9_cutsQuotes_2 : decode cX9_cutsQuotes 2 = .ok (.iconst 0, 1) := by decide +kernel
theorem dX9_cutsQuotes_3 : decode cX9_cutsQuotes 3 = .ok (.bipush 34, 2) := by decide +kernel
theorem dX9_cutsQuotes_5 : decode cX9_cutsQuotes 5 = .ok (.bipush 34, 2) := by decide +kernel
theorem dX9_cutsQuotes_7 : decode cX9_cutsQuotes 7 = .ok (.invokestatic 148, 3) := by decide +kernel
theorem dX9_cutsQuotes_10 : decode cX9_cutsQuotes 10 = .ok (.istore 6, 2) := by decide +kernel
theorem dX9_cutsQuotes_12 : decode cX9_cutsQuotes 12 = .ok (.iload 6, 2) := by decide +kernel
theorem dX9_cutsQuotes_14 : decode cX9_cutsQuotes 14 = .ok (.iload_n 2, 1) := by decide +kernel
theorem dX9_cutsQuotes_15 : decode cX9_cutsQuotes 15 = .ok (.if_icmp .ge 151, 3) := by decide +kernel
theorem dX9_cutsQuotes_18 : decode cX9_cutsQuotes 18 = .ok (.iload 6, 2) := by decide +kernel
theorem dX9_cutsQuotes_20 : decode cX9_cutsQuotes 20 = .ok (.iconst 1, 1) := by decide +kernel
theorem dX9_cutsQuotes_21 : decode cX9_cutsQuotes 21 = .ok (.iadd, 1) := by decide +kernel
theorem dX9_cutsQuotes_22 : decode cX9_cutsQuotes 22 = .ok (.istore 7, 2) := by decide +kernel
theorem dX9_cutsQuotes_24 : decode cX9_cutsQuotes 24 = .ok (.iload 7, 2) := by decide +kernel
theorem dX9_cutsQuotes_26 : decode cX9_cutsQuotes 26 = .ok (.iload_n 2, 1) := by decide +kernel
theorem dX9_cutsQuotes_27 : decode cX9_cutsQuotes 27 = .ok (.if_icmp .ge 42, 3) := by decide +kernel
theorem dX9_cutsQuotes_30 : decode cX9_cutsQuotes 30 = .ok (.aload_n 1, 1) := by decide +kernel
theorem dX9_cutsQuotes_31 : decode cX9_cutsQuotes 31 = .ok (.iload 7, 2) := by decide +kernel
theorem dX9_cutsQuotes_33 : decode cX9_cutsQuotes 33 = .ok (.iaload, 1) := by decide +kernel
theorem dX9_cutsQuotes_34 : decode cX9_cutsQuotes 34 = .ok (.bipush 34, 2) := by decide +kernel
theorem dX9_cutsQuotes_36 : decode cX9_cutsQuotes 36 = .ok (.if_icmp .eq 33, 3) := by decide +kernel
theorem dX9_cutsQuotes_39 : decode cX9_cutsQuotes 39 = .ok (.iload 7, 2) := by decide +kernel
theorem dX9_cutsQuotes_41 : decode cX9_cutsQuotes 41 = .ok (.aload_n 1, 1) := by decide +kernel
theorem dX9_cutsQuotes_42 : decode cX9_cutsQuotes 42 = .ok (.iload 7, 2) := by decide +kernel
theorem dX9_cutsQuotes_44 : decode cX9_cutsQuotes 44 = .ok (.iaload, 1) := by decide +kernel
theorem dX9_cutsQuotes_45 : decode cX9_cutsQuotes 45 = .ok (.bipush 92, 2) := by decide +kernel
theorem dX9_cutsQuotes_47 : decode cX9_cutsQuotes 47 = .ok (.if_icmp .ne 15, 3) := by decide +kernel
theorem dX9_cutsQuotes_50 : decode cX9_cutsQuotes 50 = .ok (.iload 7, 2) := by decide +kernel
theorem dX9_cutsQuotes_52 : decode cX9_cutsQuotes 52 = .ok (.iconst 1, 1) := by decide +kernel
theorem dX9_cutsQuotes_53 : decode cX9_cutsQuotes 53 = .ok (.iadd, 1) := by decide +kernel
theorem dX9_cutsQuotes_54 : decode cX9_cutsQuotes 54 = .ok (.iload_n 2, 1) := by decide +kernel
theorem dX9_cutsQuotes_55 : decode cX9_cutsQuotes 55 = .ok (.if_icmp .ge 7, 3) := by decide +kernel
theorem dX9_cutsQuotes_58 : decode cX9_cutsQuotes 58 = .ok (.iconst 2, 1) := by decide +kernel
theorem dX9_cutsQuotes_59 : decode cX9_cutsQuotes 59 = .ok (.goto 4, 3) := by decide +kernel
theorem dX9_cutsQuotes_62 : decode cX9_cutsQuotes 62 = .ok (.iconst 1, 1) := by decide +kernel
theorem dX9_cutsQuotes_63 : decode cX9_cutsQuotes 63 = .ok (.iadd, 1) := by decide +kernel
theorem dX9_cutsQuotes_64 : decode cX9_cutsQuotes 64 = .ok (.istore 7, 2) := by decide +kernel
theorem dX9_cutsQuotes_66 : decode cX9_cutsQuotes 66 = .ok (.goto (-42), 3) := by decide +kernel
theorem dX9_cutsQuotes_69 : decode cX9_cutsQuotes 69 = .ok (.iload 7, 2) := by decide +kernel
theorem dX9_cutsQuotes_71 : decode cX9_cutsQuotes 71 = .ok (.iconst 1, 1) := by decide +kernel
theorem dX9_cutsQuotes_72 : decode cX9_cutsQuotes 72 = .ok (.iadd, 1) := by decide +kernel
theorem dX9_cutsQuotes_73 : decode cX9_cutsQuotes 73 = .ok (.istore 8, 2) := by decide +kernel
theorem dX9_cutsQuotes_75 : decode cX9_cutsQuotes 75 = .ok (.iload 8, 2) := by decide +kernel
theorem dX9_cutsQuotes_77 : decode cX9_cutsQuotes 77 = .ok (.iload_n 2, 1) := by decide +kernel
theorem dX9_cutsQuotes_78 : decode cX9_cutsQuotes 78 = .ok (.if_icmp .ge 19, 3) := by decide +kernel
theorem dX9_cutsQuotes_81 : decode cX9_cutsQuotes 81 = .ok (.aload_n 1, 1) := by decide +kernel
theorem dX9_cutsQuotes_82 : decode cX9_cutsQuotes 82 = .ok (.iload 8, 2) := by decide +kernel
theorem dX9_cutsQuotes_84 : decode cX9_cutsQuotes 84 = .ok (.iaload, 1) := by decide +kernel
theorem dX9_cutsQuotes_85 : decode cX9_cutsQuotes 85 = .ok (.invokestatic 156, 3) := by decide +kernel
theorem dX9_cutsQuotes_88 : decode cX9_cutsQuotes 88 = .ok (.ifCond .eq 9, 3) := by decide +kernel
theorem dX9_cutsQuotes_91 : decode cX9_cutsQuotes 91 = .ok (.iinc 8 1, 3) := by decide +kernel
theorem dX9_cutsQuotes_94 : decode cX9_cutsQuotes 94 = .ok (.goto (-19), 3) := by decide +kernel
theorem dX9_cutsQuotes_97 : decode cX9_cutsQuotes 97 = .ok (.iload 8, 2) := by decide +kernel
theorem dX9_cutsQuotes_99 : decode cX9_cutsQuotes 99 = .ok (.iload_n 2, 1) := by decide +kernel
theorem dX9_cutsQuotes_100 : decode cX9_cutsQuotes 100 = .ok (.if_icmp .ge 12, 3) := by decide +kernel
theorem dX9_cutsQuotes_103 : decode cX9_cutsQuotes 103 = .ok (.aload_n 1, 1) := by decide +kernel
theorem dX9_cutsQuotes_104 : decode cX9_cutsQuotes 104 = .ok (.iload 8, 2) := by decide +kernel
theorem dX9_cutsQuotes_106 : decode cX9_cutsQuotes 106 = .ok (.iaload, 1) := by decide +kernel
theorem dX9_cutsQuotes_107 : decode cX9_cutsQuotes 107 = .ok (.bipush 58, 2) := by decide +kernel
theorem dX9_cutsQuotes_109 : decode cX9_cutsQuotes 109 = .ok (.if_icmp .eq 29, 3) := by decide +kernel
theorem dX9_cutsQuotes_112 : decode cX9_cutsQuotes 112 = .ok (.aload_n 0, 1) := by decide +kernel
theorem dX9_cutsQuotes_113 : decode cX9_cutsQuotes 113 = .ok (.aload_n 3, 1) := by decide +kernel
theorem dX9_cutsQuotes_114 : decode cX9_cutsQuotes 114 = .ok (.aload 4, 2) := by decide +kernel
theorem dX9_cutsQuotes_116 : decode cX9_cutsQuotes 116 = .ok (.aload 5, 2) := by decide +kernel
theorem dX9_cutsQuotes_118 : decode cX9_cutsQuotes 118 = .ok (.iload 6, 2) := by decide +kernel
theorem dX9_cutsQuotes_120 : decode cX9_cutsQuotes 120 = .ok (.iconst 1, 1) := by decide +kernel
theorem dX9_cutsQuotes_121 : decode cX9_cutsQuotes 121 = .ok (.iadd, 1) := by decide +kernel
theorem dX9_cutsQuotes_122 : decode cX9_cutsQuotes 122 = .ok (.iload 7, 2) := by decide +kernel
theorem dX9_cutsQuotes_124 : decode cX9_cutsQuotes 124 = .ok (.iload_n 2, 1) := by decide +kernel
theorem dX9_cutsQuotes_125 : decode cX9_cutsQuotes 125 = .ok (.if_icmp .ge 8, 3) := by decide +kernel
theorem dX9_cutsQuotes_128 : decode cX9_cutsQuotes 128 = .ok (.iload 7, 2) := by decide +kernel
theorem dX9_cutsQuotes_130 : decode cX9_cutsQuotes 130 = .ok (.goto 4, 3) := by decide +kernel
theorem dX9_cutsQuotes_133 : decode cX9_cutsQuotes 133 = .ok (.iload_n 2, 1) := by decide +kernel
theorem dX9_cutsQuotes_134 : decode cX9_cutsQuotes 134 = .ok (.iconst 0, 1) := by decide +kernel
theorem dX9_cutsQuotes_135 : decode cX9_cutsQuotes 135 = .ok (.invokevirtual 152, 3) := by decide +kernel
theorem dX9_cutsQuotes_138 : decode cX9_cutsQuotes 138 = .ok (.iload 7, 2) := by decide +kernel
theorem dX9_cutsQuotes_140 : decode cX9_cutsQuotes 140 = .ok (.iload_n 2, 1) := by decide +kernel
theorem dX9_cutsQuotes_141 : decode cX9_cutsQuotes 141 = .ok (.if_icmp .ge 19, 3) := by decide +kernel
theorem dX9_cutsQuotes_144 : decode cX9_cutsQuotes 144 = .ok (.aload_n 1, 1) := by decide +kernel
theorem dX9_cutsQuotes_145 : decode cX9_cutsQuotes 145 = .ok (.iload_n 2, 1) := by decide +kernel
theorem dX9_cutsQuotes_146 : decode cX9_cutsQuotes 146 = .ok (.iload 7, 2) := by decide +kernel
theorem dX9_cutsQuotes_148 : decode cX9_cutsQuotes 148 = .ok (.iconst 1, 1) := by decide +kernel
theorem dX9_cutsQuotes_149 : decode cX9_cutsQuotes 149 = .ok (.iadd, 1) := by decide +kernel
theorem dX9_cutsQuotes_150 : decode cX9_cutsQuotes 150 = .ok (.bipush 34, 2) := by decide +kernel
theorem dX9_cutsQuotes_152 : decode cX9_cutsQuotes 152 = .ok (.bipush 34, 2) := by decide +kernel
theorem dX9_cutsQuotes_154 : decode cX9_cutsQuotes 154 = .ok (.invokestatic 148, 3) := by decide +kernel
theorem dX9_cutsQuotes_157 : decode cX9_cutsQuotes 157 = .ok (.goto 4, 3) := by decide +kernel
theorem dX9_cutsQuotes_160 : decode cX9_cutsQuotes 160 = .ok (.iload_n 2, 1) := by decide +kernel
theorem dX9_cutsQuotes_161 : decode cX9_cutsQuotes 161 = .ok (.istore 6, 2) := by decide +kernel
theorem dX9_cutsQuotes_163 : decode cX9_cutsQuotes 163 = .ok (.goto (-151), 3) := by decide +kernel
theorem dX9_cutsQuotes_166 : decode cX9_cutsQuotes 166 = .ok (.return_, 1) := by decide +kernel
theorem dX9_cutsTable_0 : decode cX9_cutsTable 0 = .ok (.iconst 0, 1) := by decide +kernel
theorem dX9_cutsTable_1 : decode cX9_cutsTable 1 = .ok (.istore 6, 2) := by decide +kernel
theorem dX9_cutsTable_3 : decode cX9_cutsTable 3 = .ok (.iload 6, 2) := by decide +kernel
theorem dX9_cutsTable_5 : decode cX9_cutsTable 5 = .ok (.iload_n 2, 1) := by decide +kernel
theorem dX9_cutsTable_6 : decode cX9_cutsTable 6 = .ok (.if_icmp .ge 154, 3) := by decide +kernel
theorem dX9_cutsTable_9 : decode cX9_cutsTable 9 = .ok (.aload_n 1, 1) := by decide +kernel
theorem dX9_cutsTable_10 : decode cX9_cutsTable 10 = .ok (.iload_n 2, 1) := by decide +kernel
theorem dX9_cutsTable_11 : decode cX9_cutsTable 11 = .ok (.iload 6, 2) := by decide +kernel
theorem dX9_cutsTable_13 : decode cX9_cutsTable 13 = .ok (.bipush 44, 2) := by decide +kernel
theorem dX9_cutsTable_15 : decode cX9_cutsTable 15 = .ok (.bipush 10, 2) := by decide +kernel
theorem dX9_cutsTable_17 : decode cX9_cutsTable 17 = .ok (.invokestatic 148, 3) := by decide +kernel
theorem dX9_cutsTable_20 : decode cX9_cutsTable 20 = .ok (.istore 7, 2) := by decide +kernel
theorem dX9_cutsTable_22 : decode cX9_cutsTable 22 = .ok (.aload_n 1, 1) := by decide +kernel
theorem dX9_cutsTable_23 : decode cX9_cutsTable 23 = .ok (.iload 6, 2) := by decide +kernel
theorem dX9_cutsTable_25 : decode cX9_cutsTable 25 = .ok (.iaload, 1) := by decide +kernel
theorem dX9_cutsTable_26 : decode cX9_cutsTable 26 = .ok (.bipush 34, 2) := by decide +kernel
theorem dX9_cutsTable_28 : decode cX9_cutsTable 28 = .ok (.if_icmp .ne 109, 3) := by decide +kernel
theorem dX9_cutsTable_31 : decode cX9_cutsTable 31 = .ok (.iload 6, 2) := by decide +kernel
theorem dX9_cutsTable_33 : decode cX9_cutsTable 33 = .ok (.iconst 1, 1) := by decide +kernel
theorem dX9_cutsTable_34 : decode cX9_cutsTable 34 = .ok (.iadd, 1) := by decide +kernel
theorem dX9_cutsTable_35 : decode cX9_cutsTable 35 = .ok (.istore 8, 2) := by decide +kernel
theorem dX9_cutsTable_37 : decode cX9_cutsTable 37 = .ok (.iload 8, 2) := by decide +kernel
theorem dX9_cutsTable_39 : decode cX9_cutsTable 39 = .ok (.iload_n 2, 1) := by decide +kernel
theorem dX9_cutsTable_40 : decode cX9_cutsTable 40 = .ok (.if_icmp .ge 53, 3) := by decide +kernel
theorem dX9_cutsTable_43 : decode cX9_cutsTable 43 = .ok (.aload_n 1, 1) := by decide +kernel
theorem dX9_cutsTable_44 : decode cX9_cutsTable 44 = .ok (.iload 8, 2) := by decide +kernel
theorem dX9_cutsTable_46 : decode cX9_cutsTable 46 = .ok (.iaload, 1) := by decide +kernel
theorem dX9_cutsTable_47 : decode cX9_cutsTable 47 = .ok (.bipush 34, 2) := by decide +kernel
theorem dX9_cutsTable_49 : decode cX9_cutsTable 49 = .ok (.if_icmp .ne 22, 3) := by decide +kernel
theorem dX9_cutsTable_52 : decode cX9_cutsTable 52 = .ok (.iload 8, 2) := by decide +kernel
theorem dX9_cutsTable_54 : decode cX9_cutsTable 54 = .ok (.iconst 1, 1) := by decide +kernel
theorem dX9_cutsTable_55 : decode cX9_cutsTable 55 = .ok (.iadd, 1) := by decide +kernel
theorem dX9_cutsTable_56 : decode cX9_cutsTable 56 = .ok (.iload_n 2, 1) := by decide +kernel
theorem dX9_cutsTable_57 : decode cX9_cutsTable 57 = .ok (.if_icmp .ge 36, 3) := by decide +kernel
theorem dX9_cutsTable_60 : decode cX9_cutsTable 60 = .ok (.aload_n 1, 1) := by decide +kernel
theorem dX9_cutsTable_61 : decode cX9_cutsTable 61 = .ok (.iload 8, 2) := by decide +kernel
theorem dX9_cutsTable_63 : decode cX9_cutsTable 63 = .ok (.iconst 1, 1) := by decide +kernel
theorem dX9_cutsTable_64 : decode cX9_cutsTable 64 = .ok (.iadd, 1) := by decide +kernel
theorem dX9_cutsTable_65 : decode cX9_cutsTable 65 = .ok (.iaload, 1) := by decide +kernel
theorem dX9_cutsTable_66 : decode cX9_cutsTable 66 = .ok (.bipush 34, 2) := by decide +kernel
theorem dX9_cutsTable_68 : decode cX9_cutsTable 68 = .ok (.if_icmp .ne 25, 3) := by decide +kernel
theorem dX9_cutsTable_71 : decode cX9_cutsTable 71 = .ok (.iload 8, 2) := by decide +kernel
theorem dX9_cutsTable_73 : decode cX9_cutsTable 73 = .ok (.aload_n 1, 1) := by decide +kernel
theorem dX9_cutsTable_74 : decode cX9_cutsTable 74 = .ok (.iload 8, 2) := by decide +kernel
theorem dX9_cutsTable_76 : decode cX9_cutsTable 76 = .ok (.iaload, 1) := by decide +kernel
theorem dX9_cutsTable_77 : decode cX9_cutsTable 77 = .ok (.bipush 34, 2) := by decide +kernel
theorem dX9_cutsTable_79 : decode cX9_cutsTable 79 = .ok (.if_icmp .ne 7, 3) := by decide +kernel
theorem dX9_cutsTable_82 : decode cX9_cutsTable 82 = .ok (.iconst 2, 1) := by decide +kernel
theorem dX9_cutsTable_83 : decode cX9_cutsTable 83 = .ok (.goto 4, 3) := by decide +kernel
theorem dX9_cutsTable_86 : decode cX9_cutsTable 86 = .ok (.iconst 1, 1) := by decide +kernel
theorem dX9_cutsTable_87 : decode cX9_cutsTable 87 = .ok (.iadd, 1) := by decide +kernel
theorem dX9_cutsTable_88 : decode cX9_cutsTable 88 = .ok (.istore 8, 2) := by decide +kernel
theorem dX9_cutsTable_90 : decode cX9_cutsTable 90 = .ok (.goto (-53), 3) := by decide +kernel
theorem dX9_cutsTable_93 : decode cX9_cutsTable 93 = .ok (.aload_n 0, 1) := by decide +kernel
theorem dX9_cutsTable_94 : decode cX9_cutsTable 94 = .ok (.aload_n 3, 1) := by decide +kernel
theorem dX9_cutsTable_95 : decode cX9_cutsTable 95 = .ok (.aload 4, 2) := by decide +kernel
theorem dX9_cutsTable_97 : decode cX9_cutsTable 97 = .ok (.aload 5, 2) := by decide +kernel
theorem dX9_cutsTable_99 : decode cX9_cutsTable 99 = .ok (.iload 6, 2) := by decide +kernel
theorem dX9_cutsTable_101 : decode cX9_cutsTable 101 = .ok (.iconst 1, 1) := by decide +kernel
theorem dX9_cutsTable_102 : decode cX9_cutsTable 102 = .ok (.iadd, 1) := by decide +kernel
theorem dX9_cutsTable_103 : decode cX9_cutsTable 103 = .ok (.iload 8, 2) := by decide +kernel
theorem dX9_cutsTable_105 : decode cX9_cutsTable 105 = .ok (.iconst 1, 1) := by decide +kernel
theorem dX9_cutsTable_106 : decode cX9_cutsTable 106 = .ok (.invokevirtual 152, 3) := by decide +kernel
theorem dX9_cutsTable_109 : decode cX9_cutsTable 109 = .ok (.iload 8, 2) := by decide +kernel
theorem dX9_cutsTable_111 : decode cX9_cutsTable 111 = .ok (.iload_n 2, 1) := by decide +kernel
theorem dX9_cutsTable_112 : decode cX9_cutsTable 112 = .ok (.if_icmp .ge 19, 3) := by decide +kernel
theorem dX9_cutsTable_115 : decode cX9_cutsTable 115 = .ok (.aload_n 1, 1) := by decide +kernel
theorem dX9_cutsTable_116 : decode cX9_cutsTable 116 = .ok (.iload_n 2, 1) := by decide +kernel
theorem dX9_cutsTable_117 : decode cX9_cutsTable 117 = .ok (.iload 8, 2) := by decide +kernel
theorem dX9_cutsTable_119 : decode cX9_cutsTable 119 = .ok (.iconst 1, 1) := by decide +kernel
theorem dX9_cutsTable_120 : decode cX9_cutsTable 120 = .ok (.iadd, 1) := by decide +kernel
theorem dX9_cutsTable_121 : decode cX9_cutsTable 121 = .ok (.bipush 44, 2) := by decide +kernel
theorem dX9_cutsTable_123 : decode cX9_cutsTable 123 = .ok (.bipush 10, 2) := by decide +kernel
theorem dX9_cutsTable_125 : decode cX9_cutsTable 125 = .ok (.invokestatic 148, 3) := by decide +kernel
theorem dX9_cutsTable_128 : decode cX9_cutsTable 128 = .ok (.goto 4, 3) := by decide +kernel
theorem dX9_cutsTable_131 : decode cX9_cutsTable 131 = .ok (.iload_n 2, 1) := by decide +kernel
theorem dX9_cutsTable_132 : decode cX9_cutsTable 132 = .ok (.istore 7, 2) := by decide +kernel
theorem dX9_cutsTable_134 : decode cX9_cutsTable 134 = .ok (.goto 17, 3) := by decide +kernel
theorem dX9_cutsTable_137 : decode cX9_cutsTable 137 = .ok (.aload_n 0, 1) := by decide +kernel
theorem dX9_cutsTable_138 : decode cX9_cutsTable 138 = .ok (.aload_n 3, 1) := by decide +kernel
theorem dX9_cutsTable_139 : decode cX9_cutsTable 139 = .ok (.aload 4, 2) := by decide +kernel
theorem dX9_cutsTable_141 : decode cX9_cutsTable 141 = .ok (.aload 5, 2) := by decide +kernel
theorem dX9_cutsTable_143 : decode cX9_cutsTable 143 = .ok (.iload 6, 2) := by decide +kernel
theorem dX9_cutsTable_145 : decode cX9_cutsTable 145 = .ok (.iload 7, 2) := by decide +kernel
theorem dX9_cutsTable_147 : decode cX9_cutsTable 147 = .ok (.iconst 0, 1) := by decide +kernel
theorem dX9_cutsTable_148 : decode cX9_cutsTable 148 = .ok (.invokevirtual 152, 3) := by decide +kernel
theorem dX9_cutsTable_151 : decode cX9_cutsTable 151 = .ok (.iload 7, 2) := by decide +kernel
theorem dX9_cutsTable_153 : decode cX9_cutsTable 153 = .ok (.iconst 1, 1) := by decide +kernel
theorem dX9_cutsTable_154 : decode cX9_cutsTable 154 = .ok (.iadd, 1) := by decide +kernel
theorem dX9_cutsTable_155 : decode cX9_cutsTable 155 = .ok (.istore 6, 2) := by decide +kernel
theorem dX9_cutsTable_157 : decode cX9_cutsTable 157 = .ok (.goto (-154), 3) := by decide +kernel
theorem dX9_cutsTable_160 : decode cX9_cutsTable 160 = .ok (.return_, 1) := by decide +kernel
theorem dX9_end_0 : decode cX9_end 0 = .ok (.aload_n 0, 1) := by decide +kernel
theorem dX9_end_1 : decode cX9_end 1 = .ok (.iconst 0, 1) := by decide +kernel
theorem dX9_end_2 : decode cX9_end 2 = .ok (.putfield 138, 3) := by decide +kernel
theorem dX9_end_5 : decode cX9_end 5 = .ok (.iload_n 1, 1) := by decide +kernel
theorem dX9_end_6 : decode cX9_end 6 = .ok (.iconst 0, 1) := by decide +kernel
theorem dX9_end_7 : decode cX9_end 7 = .ok (.aload_n 0, 1) := by decide +kernel
theorem dX9_end_8 : decode cX9_end 8 = .ok (.getfield 337, 3) := by decide +kernel
theorem dX9_end_11 : decode cX9_end 11 = .ok (.invokestatic 141, 3) := by decide +kernel
theorem dX9_end_14 : decode cX9_end 14 = .ok (.ifCond .ne 5, 3) := by decide +kernel
theorem dX9_end_17 : decode cX9_end 17 = .ok (.iconst 0, 1) := by decide +kernel
theorem dX9_end_18 : decode cX9_end 18 = .ok (.ireturn, 1) := by decide +kernel
theorem dX9_end_19 : decode cX9_end 19 = .ok (.aload_n 0, 1) := by decide +kernel
theorem dX9_end_20 : decode cX9_end 20 = .ok (.iload_n 1, 1) := by decide +kernel
theorem dX9_end_21 : decode cX9_end 21 = .ok (.putfield 337, 3) := by decide +kernel
theorem dX9_end_24 : decode cX9_end 24 = .ok (.iconst 1, 1) := by decide +kernel
theorem dX9_end_25 : decode cX9_end 25 = .ok (.ireturn, 1) := by decide +kernel
theorem dX9_endOf_0 : decode cX9_endOf 0 = .ok (.iload_n 2, 1) := by decide +kernel
theorem dX9_endOf_1 : decode cX9_endOf 1 = .ok (.istore 5, 2) := by decide +kernel
theorem dX9_endOf_3 : decode cX9_endOf 3 = .ok (.iload 5, 2) := by decide +kernel
theorem dX9_endOf_5 : decode cX9_endOf 5 = .ok (.iload_n 1, 1) := by decide +kernel
theorem dX9_endOf_6 : decode cX9_endOf 6 = .ok (.if_icmp .ge 26, 3) := by decide +kernel
theorem dX9_endOf_9 : decode cX9_endOf 9 = .ok (.aload_n 0, 1) := by decide +kernel
theorem dX9_endOf_10 : decode cX9_endOf 10 = .ok (.iload 5, 2) := by decide +kernel
theorem dX9_endOf_12 : decode cX9_endOf 12 = .ok (.iaload, 1) := by decide +kernel
theorem dX9_endOf_13 : decode cX9_endOf 13 = .ok (.iload_n 3, 1) := by decide +kernel
theorem dX9_endOf_14 : decode cX9_endOf 14 = .ok (.if_icmp .eq 18, 3) := by decide +kernel
theorem dX9_endOf_17 : decode cX9_endOf 17 = .ok (.aload_n 0, 1) := by decide +kernel
theorem dX9_endOf_18 : decode cX9_endOf 18 = .ok (.iload 5, 2) := by decide +kernel
theorem dX9_endOf_20 : decode cX9_endOf 20 = .ok (.iaload, 1) := by decide +kernel
theorem dX9_endOf_21 : decode cX9_endOf 21 = .ok (.iload 4, 2) := by decide +kernel
theorem dX9_endOf_23 : decode cX9_endOf 23 = .ok (.if_icmp .eq 9, 3) := by decide +kernel
theorem dX9_endOf_26 : decode cX9_endOf 26 = .ok (.iinc 5 1, 3) := by decide +kernel
theorem dX9_endOf_29 : decode cX9_endOf 29 = .ok (.goto (-26), 3) := by decide +kernel
theorem dX9_endOf_32 : decode cX9_endOf 32 = .ok (.iload 5, 2) := by decide +kernel
theorem dX9_endOf_34 : decode cX9_endOf 34 = .ok (.ireturn, 1) := by decide +kernel
theorem dX9_escapedFor_0 : decode cX9_escapedFor 0 = .ok (.aload_n 0, 1) := by decide +kernel
theorem dX9_escapedFor_1 : decode cX9_escapedFor 1 = .ok (.getfield 7, 3) := by decide +kernel
theorem dX9_escapedFor_4 : decode cX9_escapedFor 4 = .ok (.iconst 2, 1) := by decide +kernel
theorem dX9_escapedFor_5 : decode cX9_escapedFor 5 = .ok (.iaload, 1) := by decide +kernel
theorem dX9_escapedFor_6 : decode cX9_escapedFor 6 = .ok (.iconst (-1), 1) := by decide +kernel
theorem dX9_escapedFor_7 : decode cX9_escapedFor 7 = .ok (.if_icmp .ne 53, 3) := by decide +kernel
theorem dX9_escapedFor_10 : decode cX9_escapedFor 10 = .ok (.aload_n 0, 1) := by decide +kernel
theorem dX9_escapedFor_11 : decode cX9_escapedFor 11 = .ok (.aload_n 0, 1) := by decide +kernel
theorem dX9_escapedFor_12 : decode cX9_escapedFor 12 = .ok (.getfield 7, 3) := by decide +kernel
theorem dX9_escapedFor_15 : decode cX9_escapedFor 15 = .ok (.iconst 1, 1) := by decide +kernel
theorem dX9_escapedFor_16 : decode cX9_escapedFor 16 = .ok (.iaload, 1) := by decide +kernel
theorem dX9_escapedFor_17 : decode cX9_escapedFor 17 = .ok (.aload_n 0, 1) := by decide +kernel
theorem dX9_escapedFor_18 : decode cX9_escapedFor 18 = .ok (.getfield 87, 3) := by decide +kernel
theorem dX9_escapedFor_21 : decode cX9_escapedFor 21 = .ok (.iload_n 1, 1) := by decide +kernel
theorem dX9_escapedFor_22 : decode cX9_escapedFor 22 = .ok (.iaload, 1) := by decide +kernel
theorem dX9_escapedFor_23 : decode cX9_escapedFor 23 = .ok (.iconst 1, 1) := by decide +kernel
theorem dX9_escapedFor_24 : decode cX9_escapedFor 24 = .ok (.if_icmp .ne 7, 3) := by decide +kernel
theorem dX9_escapedFor_27 : decode cX9_escapedFor 27 = .ok (.iconst 1, 1) := by decide +kernel
theorem dX9_escapedFor_28 : decode cX9_escapedFor 28 = .ok (.goto 4, 3) := by decide +kernel
theorem dX9_escapedFor_31 : decode cX9_escapedFor 31 = .ok (.iconst 0, 1) := by decide +kernel
theorem dX9_escapedFor_32 : decode cX9_escapedFor 32 = .ok (.aload_n 0, 1) := by decide +kernel
theorem dX9_escapedFor_33 : decode cX9_escapedFor 33 = .ok (.getfield 93, 3) := by decide +kernel
theorem dX9_escapedFor_36 : decode cX9_escapedFor 36 = .ok (.iload_n 1, 1) := by decide +kernel
theorem dX9_escapedFor_37 : decode cX9_escapedFor 37 = .ok (.iaload, 1) := by decide +kernel
theorem dX9_escapedFor_38 : decode cX9_escapedFor 38 = .ok (.iconst 1, 1) := by decide +kernel
theorem dX9_escapedFor_39 : decode cX9_escapedFor 39 = .ok (.if_icmp .ne 7, 3) := by decide +kernel
theorem dX9_escapedFor_42 : decode cX9_escapedFor 42 = .ok (.iconst 1, 1) := by decide +kernel
theorem dX9_escapedFor_43 : decode cX9_escapedFor 43 = .ok (.goto 4, 3) := by decide +kernel
theorem dX9_escapedFor_46 : decode cX9_escapedFor 46 = .ok (.iconst 0, 1) := by decide +kernel
theorem dX9_escapedFor_47 : decode cX9_escapedFor 47 = .ok (.aload_n 0, 1) := by decide +kernel
theorem dX9_escapedFor_48 : decode cX9_escapedFor 48 = .ok (.getfield 132, 3) := by decide +kernel
theorem dX9_escapedFor_51 : decode cX9_escapedFor 51 = .ok (.iload_n 2, 1) := by decide +kernel
theorem dX9_escapedFor_52 : decode cX9_escapedFor 52 = .ok (.aload_n 0, 1) := by decide +kernel
theorem dX9_escapedFor_53 : decode cX9_escapedFor 53 = .ok (.getfield 117, 3) := by decide +kernel
theorem dX9_escapedFor_56 : decode cX9_escapedFor 56 = .ok (.invokevirtual 279, 3) := by decide +kernel
theorem dX9_escapedFor_59 : decode cX9_escapedFor 59 = .ok (.ireturn, 1) := by decide +kernel
theorem dX9_escapedFor_60 : decode cX9_escapedFor 60 = .ok (.aload_n 0, 1) := by decide +kernel
theorem dX9_escapedFor_61 : decode cX9_escapedFor 61 = .ok (.aload_n 0, 1) := by decide +kernel
theorem dX9_escapedFor_62 : decode cX9_escapedFor 62 = .ok (.getfield 7, 3) := by decide +kernel
theorem dX9_escapedFor_65 : decode cX9_escapedFor 65 = .ok (.iconst 2, 1) := by decide +kernel
theorem dX9_escapedFor_66 : decode cX9_escapedFor 66 = .ok (.iaload, 1) := by decide +kernel
theorem dX9_escapedFor_67 : decode cX9_escapedFor 67 = .ok (.aload_n 0, 1) := by decide +kernel
theorem dX9_escapedFor_68 : decode cX9_escapedFor 68 = .ok (.getfield 90, 3) := by decide +kernel
theorem dX9_escapedFor_71 : decode cX9_escapedFor 71 = .ok (.iload_n 1, 1) := by decide +kernel
theorem dX9_escapedFor_72 : decode cX9_escapedFor 72 = .ok (.iaload, 1) := by decide +kernel
theorem dX9_escapedFor_73 : decode cX9_escapedFor 73 = .ok (.iconst 1, 1) := by decide +kernel
theorem dX9_escapedFor_74 : decode cX9_escapedFor 74 = .ok (.if_icmp .ne 7, 3) := by decide +kernel
theorem dX9_escapedFor_77 : decode cX9_escapedFor 77 = .ok (.iconst 1, 1) := by decide +kernel
theorem dX9_escapedFor_78 : decode cX9_escapedFor 78 = .ok (.goto 4, 3) := by decide +kernel
theorem dX9_escapedFor_81 : decode cX9_escapedFor 81 = .ok (.iconst 0, 1) := by decide +kernel
theorem dX9_escapedFor_82 : decode cX9_escapedFor 82 = .ok (.iconst 1, 1) := by decide +kernel
theorem dX9_escapedFor_83 : decode cX9_escapedFor 83 = .ok (.aload_n 0, 1) := by decide +kernel
theorem dX9_escapedFor_84 : decode cX9_escapedFor 84 = .ok (.getfield 132, 3) := by decide +kernel
theorem dX9_escapedFor_87 : decode cX9_escapedFor 87 = .ok (.iload_n 2, 1) := by decide +kernel
theorem dX9_escapedFor_88 : decode cX9_escapedFor 88 = .ok (.aload_n 0, 1) := by decide +kernel
theorem dX9_escapedFor_89 : decode cX9_escapedFor 89 = .ok (.getfield 114, 3) := by decide +kernel
theorem dX9_escapedFor_92 : decode cX9_escapedFor 92 = .ok (.invokevirtual 279, 3) := by decide +kernel
theorem dX9_escapedFor_95 : decode cX9_escapedFor 95 = .ok (.istore_n 3, 1) := by decide +kernel
theorem dX9_escapedFor_96 : decode cX9_escapedFor 96 = .ok (.aload_n 0, 1) := by decide +kernel
theorem dX9_escapedFor_97 : decode cX9_escapedFor 97 = .ok (.getfield 7, 3) := by decide +kernel
theorem dX9_escapedFor_100 : decode cX9_escapedFor 100 = .ok (.iconst 1, 1) := by decide +kernel
theorem dX9_escapedFor_101 : decode cX9_escapedFor 101 = .ok (.iaload, 1) := by decide +kernel
theorem dX9_escapedFor_102 : decode cX9_escapedFor 102 = .ok (.iconst 1, 1) := by decide +kernel
theorem dX9_escapedFor_103 : decode cX9_escapedFor 103 = .ok (.if_icmp .ne 25, 3) := by decide +kernel
theorem dX9_escapedFor_106 : decode cX9_escapedFor 106 = .ok (.aload_n 0, 1) := by decide +kernel
theorem dX9_escapedFor_107 : decode cX9_escapedFor 107 = .ok (.getfield 87, 3) := by decide +kernel
theorem dX9_escapedFor_110 : decode cX9_escapedFor 110 = .ok (.iload_n 1, 1) := by decide +kernel
theorem dX9_escapedFor_111 : decode cX9_escapedFor 111 = .ok (.iaload, 1) := by decide +kernel
theorem dX9_escapedFor_112 : decode cX9_escapedFor 112 = .ok (.ifCond .ne 16, 3) := by decide +kernel
theorem dX9_escapedFor_115 : decode cX9_escapedFor 115 = .ok (.aload_n 0, 1) := by decide +kernel
theorem dX9_escapedFor_116 : decode cX9_escapedFor 116 = .ok (.getfield 114, 3) := by decide +kernel
theorem dX9_escapedFor_119 : decode cX9_escapedFor 119 = .ok (.iload_n 3, 1) := by decide +kernel
theorem dX9_escapedFor_120 : decode cX9_escapedFor 120 = .ok (.invokestatic 269, 3) := by decide +kernel
theorem dX9_escapedFor_123 : decode cX9_escapedFor 123 = .ok (.ifCond .eq 5, 3) := by decide +kernel
theorem dX9_escapedFor_126 : decode cX9_escapedFor 126 = .ok (.iconst (-1), 1) := by decide +kernel
theorem dX9_escapedFor_127 : decode cX9_escapedFor 127 = .ok (.ireturn, 1) := by decide +kernel
theorem dX9_escapedFor_128 : decode cX9_escapedFor 128 = .ok (.aload_n 0, 1) := by decide +kernel
theorem dX9_escapedFor_129 : decode cX9_escapedFor 129 = .ok (.aload_n 0, 1) := by decide +kernel
theorem dX9_escapedFor_130 : decode cX9_escapedFor 130 = .ok (.getfield 7, 3) := by decide +kernel
theorem dX9_escapedFor_133 : decode cX9_escapedFor 133 = .ok (.iconst 1, 1) := by decide +kernel
theorem dX9_escapedFor_134 : decode cX9_escapedFor 134 = .ok (.iaload, 1) := by decide +kernel
theorem dX9_escapedFor_135 : decode cX9_escapedFor 135 = .ok (.aload_n 0, 1) := by decide +kernel
theorem dX9_escapedFor_136 : decode cX9_escapedFor 136 = .ok (.getfield 87, 3) := by decide +kernel
theorem dX9_escapedFor_139 : decode cX9_escapedFor 139 = .ok (.iload_n 1, 1) := by decide +kernel
theorem dX9_escapedFor_140 : decode cX9_escapedFor 140 = .ok (.iaload, 1) := by decide +kernel
theorem dX9_escapedFor_141 : decode cX9_escapedFor 141 = .ok (.iconst 1, 1) := by decide +kernel
theorem dX9_escapedFor_142 : decode cX9_escapedFor 142 = .ok (.if_icmp .ne 7, 3) := by decide +kernel
theorem dX9_escapedFor_145 : decode cX9_escapedFor 145 = .ok (.iconst 1, 1) := by decide +kernel
theorem dX9_escapedFor_146 : decode cX9_escapedFor 146 = .ok (.goto 4, 3) := by decide +kernel
theorem dX9_escapedFor_149 : decode cX9_escapedFor 149 = .ok (.iconst 0, 1) := by decide +kernel
theorem dX9_escapedFor_150 : decode cX9_escapedFor 150 = .ok (.aload_n 0, 1) := by decide +kernel
theorem dX9_escapedFor_151 : decode cX9_escapedFor 151 = .ok (.getfield 93, 3) := by decide +kernel
theorem dX9_escapedFor_154 : decode cX9_escapedFor 154 = .ok (.iload_n 1, 1) := by decide +kernel
theorem dX9_escapedFor_155 : decode cX9_escapedFor 155 = .ok (.iaload, 1) := by decide +kernel
theorem dX9_escapedFor_156 : decode cX9_escapedFor 156 = .ok (.iconst 1, 1) := by decide +kernel
theorem dX9_escapedFor_157 : decode cX9_escapedFor 157 = .ok (.if_icmp .ne 7, 3) := by decide +kernel
theorem dX9_escapedFor_160 : decode cX9_escapedFor 160 = .ok (.iconst 1, 1) := by decide +kernel
theorem dX9_escapedFor_161 : decode cX9_escapedFor 161 = .ok (.goto 4, 3) := by decide +kernel
theorem dX9_escapedFor_164 : decode cX9_escapedFor 164 = .ok (.iconst 0, 1) := by decide +kernel
theorem dX9_escapedFor_165 : decode cX9_escapedFor 165 = .ok (.aload_n 0, 1) := by decide +kernel
theorem dX9_escapedFor_166 : decode cX9_escapedFor 166 = .ok (.getfield 114, 3) := by decide +kernel
theorem dX9_escapedFor_169 : decode cX9_escapedFor 169 = .ok (.iload_n 3, 1) := by decide +kernel
theorem dX9_escapedFor_170 : decode cX9_escapedFor 170 = .ok (.aload_n 0, 1) := by decide +kernel
theorem dX9_escapedFor_171 : decode cX9_escapedFor 171 = .ok (.getfield 117, 3) := by decide +kernel
theorem dX9_escapedFor_174 : decode cX9_escapedFor 174 = .ok (.invokevirtual 279, 3) := by decide +kernel
theorem dX9_escapedFor_177 : decode cX9_escapedFor 177 = .ok (.ireturn, 1) := by decide +kernel
theorem dX9_escapes_0 : decode cX9_escapes 0 = .ok (.aload_n 0, 1) := by decide +kernel
theorem dX9_escapes_1 : decode cX9_escapes 1 = .ok (.iconst 0, 1) := by decide +kernel
theorem dX9_escapes_2 : decode cX9_escapes 2 = .ok (.putfield 254, 3) := by decide +kernel
theorem dX9_escapes_5 : decode cX9_escapes 5 = .ok (.iload_n 1, 1) := by decide +kernel
theorem dX9_escapes_6 : decode cX9_escapes 6 = .ok (.iconst 1, 1) := by decide +kernel
theorem dX9_escapes_7 : decode cX9_escapes 7 = .ok (.if_icmp .ne 21, 3) := by decide +kernel
theorem dX9_escapes_10 : decode cX9_escapes 10 = .ok (.iload_n 2, 1) := by decide +kernel
theorem dX9_escapes_11 : decode cX9_escapes 11 = .ok (.ifCond .ne 17, 3) := by decide +kernel
theorem dX9_escapes_14 : decode cX9_escapes 14 = .ok (.aload 4, 2) := by decide +kernel
theorem dX9_escapes_16 : decode cX9_escapes 16 = .ok (.iload 5, 2) := by decide +kernel
theorem dX9_escapes_18 : decode cX9_escapes 18 = .ok (.invokestatic 269, 3) := by decide +kernel
theorem dX9_escapes_21 : decode cX9_escapes 21 = .ok (.ifCond .eq 7, 3) := by decide +kernel
theorem dX9_escapes_24 : decode cX9_escapes 24 = .ok (.iconst 1, 1) := by decide +kernel
theorem dX9_escapes_25 : decode cX9_escapes 25 = .ok (.goto 4, 3) := by decide +kernel
theorem dX9_escapes_28 : decode cX9_escapes 28 = .ok (.iconst 0, 1) := by decide +kernel
theorem dX9_escapes_29 : decode cX9_escapes 29 = .ok (.istore 7, 2) := by decide +kernel
theorem dX9_escapes_31 : decode cX9_escapes 31 = .ok (.iload 7, 2) := by decide +kernel
theorem dX9_escapes_33 : decode cX9_escapes 33 = .ok (.ifCond .eq 11, 3) := by decide +kernel
theorem dX9_escapes_36 : decode cX9_escapes 36 = .ok (.aload_n 0, 1) := by decide +kernel
theorem dX9_escapes_37 : decode cX9_escapes 37 = .ok (.aload 6, 2) := by decide +kernel
theorem dX9_escapes_39 : decode cX9_escapes 39 = .ok (.bipush 34, 2) := by decide +kernel
theorem dX9_escapes_41 : decode cX9_escapes 41 = .ok (.invokevirtual 261, 3) := by decide +kernel
theorem dX9_escapes_44 : decode cX9_escapes 44 = .ok (.iconst 0, 1) := by decide +kernel
theorem dX9_escapes_45 : decode cX9_escapes 45 = .ok (.istore 8, 2) := by decide +kernel
theorem dX9_escapes_47 : decode cX9_escapes 47 = .ok (.iload 8, 2) := by decide +kernel
theorem dX9_escapes_49 : decode cX9_escapes 49 = .ok (.iload 5, 2) := by decide +kernel
theorem dX9_escapes_51 : decode cX9_escapes 51 = .ok (.if_icmp .ge 105, 3) := by decide +kernel
theorem dX9_escapes_54 : decode cX9_escapes 54 = .ok (.iload_n 1, 1) := by decide +kernel
theorem dX9_escapes_55 : decode cX9_escapes 55 = .ok (.iconst 2, 1) := by decide +kernel
theorem dX9_escapes_56 : decode cX9_escapes 56 = .ok (.if_icmp .ne 17, 3) := by decide +kernel
theorem dX9_escapes_59 : decode cX9_escapes 59 = .ok (.aload_n 0, 1) := by decide +kernel
theorem dX9_escapes_60 : decode cX9_escapes 60 = .ok (.aload 6, 2) := by decide +kernel
theorem dX9_escapes_62 : decode cX9_escapes 62 = .ok (.aload 4, 2) := by decide +kernel
theorem dX9_escapes_64 : decode cX9_escapes 64 = .ok (.iload 8, 2) := by decide +kernel
theorem dX9_escapes_66 : decode cX9_escapes 66 = .ok (.iaload, 1) := by decide +kernel
theorem dX9_escapes_67 : decode cX9_escapes 67 = .ok (.invokevirtual 272, 3) := by decide +kernel
theorem dX9_escapes_70 : decode cX9_escapes 70 = .ok (.goto 80, 3) := by decide +kernel
theorem dX9_escapes_73 : decode cX9_escapes 73 = .ok (.iload_n 1, 1) := by decide +kernel
theorem dX9_escapes_74 : decode cX9_escapes 74 = .ok (.iconst 1, 1) := by decide +kernel
theorem dX9_escapes_75 : decode cX9_escapes 75 = .ok (.if_icmp .eq 32, 3) := by decide +kernel
theorem dX9_escapes_78 : decode cX9_escapes 78 = .ok (.aload_n 0, 1) := by decide +kernel
theorem dX9_escapes_79 : decode cX9_escapes 79 = .ok (.iload_n 1, 1) := by decide +kernel
theorem dX9_escapes_80 : decode cX9_escapes 80 = .ok (.aload 6, 2) := by decide +kernel
theorem dX9_escapes_82 : decode cX9_escapes 82 = .ok (.aload 4, 2) := by decide +kernel
theorem dX9_escapes_84 : decode cX9_escapes 84 = .ok (.iload 8, 2) := by decide +kernel
theorem dX9_escapes_86 : decode cX9_escapes 86 = .ok (.iaload, 1) := by decide +kernel
theorem dX9_escapes_87 : decode cX9_escapes 87 = .ok (.iload_n 3, 1) := by decide +kernel
theorem dX9_escapes_88 : decode cX9_escapes 88 = .ok (.ifCond .eq 12, 3) := by decide +kernel
theorem dX9_escapes_91 : decode cX9_escapes 91 = .ok (.iload 8, 2) := by decide +kernel
theorem dX9_escapes_93 : decode cX9_escapes 93 = .ok (.ifCond .ne 7, 3) := by decide +kernel
theorem dX9_escapes_96 : decode cX9_escapes 96 = .ok (.iconst 1, 1) := by decide +kernel
theorem dX9_escapes_97 : decode cX9_escapes 97 = .ok (.goto 4, 3) := by decide +kernel
theorem dX9_escapes_100 : decode cX9_escapes 100 = .ok (.iconst 0, 1) := by decide +kernel
theorem dX9_escapes_101 : decode cX9_escapes 101 = .ok (.invokevirtual 275, 3) := by decide +kernel
theorem dX9_escapes_104 : decode cX9_escapes 104 = .ok (.goto 46, 3) := by decide +kernel
theorem dX9_escapes_107 : decode cX9_escapes 107 = .ok (.iload_n 2, 1) := by decide +kernel
theorem dX9_escapes_108 : decode cX9_escapes 108 = .ok (.ifCond .ne 8, 3) := by decide +kernel
theorem dX9_escapes_111 : decode cX9_escapes 111 = .ok (.iload 7, 2) := by decide +kernel
theorem dX9_escapes_113 : decode cX9_escapes 113 = .ok (.ifCond .eq 26, 3) := by decide +kernel
theorem dX9_escapes_116 : decode cX9_escapes 116 = .ok (.aload 4, 2) := by decide +kernel
theorem dX9_escapes_118 : decode cX9_escapes 118 = .ok (.iload 8, 2) := by decide +kernel
theorem dX9_escapes_120 : decode cX9_escapes 120 = .ok (.iaload, 1) := by decide +kernel
theorem dX9_escapes_121 : decode cX9_escapes 121 = .ok (.bipush 34, 2) := by decide +kernel
theorem dX9_escapes_123 : decode cX9_escapes 123 = .ok (.if_icmp .ne 16, 3) := by decide +kernel
theorem dX9_escapes_126 : decode cX9_escapes 126 = .ok (.aload_n 0, 1) := by decide +kernel
theorem dX9_escapes_127 : decode cX9_escapes 127 = .ok (.aload 6, 2) := by decide +kernel
theorem dX9_escapes_129 : decode cX9_escapes 129 = .ok (.bipush 34, 2) := by decide +kernel
theorem dX9_escapes_131 : decode cX9_escapes 131 = .ok (.bipush 34, 2) := by decide +kernel
theorem dX9_escapes_133 : decode cX9_escapes 133 = .ok (.invokevirtual 265, 3) := by decide +kernel
theorem dX9_escapes_136 : decode cX9_escapes 136 = .ok (.goto 14, 3) := by decide +kernel
theorem dX9_escapes_139 : decode cX9_escapes 139 = .ok (.aload_n 0, 1) := by decide +kernel
theorem dX9_escapes_140 : decode cX9_escapes 140 = .ok (.aload 6, 2) := by decide +kernel
theorem dX9_escapes_142 : decode cX9_escapes 142 = .ok (.aload 4, 2) := by decide +kernel
theorem dX9_escapes_144 : decode cX9_escapes 144 = .ok (.iload 8, 2) := by decide +kernel
theorem dX9_escapes_146 : decode cX9_escapes 146 = .ok (.iaload, 1) := by decide +kernel
theorem dX9_escapes_147 : decode cX9_escapes 147 = .ok (.invokevirtual 261, 3) := by decide +kernel
theorem dX9_escapes_150 : decode cX9_escapes 150 = .ok (.iinc 8 1, 3) := by decide +kernel
theorem dX9_escapes_153 : decode cX9_escapes 153 = .ok (.goto (-106), 3) := by decide +kernel
theorem dX9_escapes_156 : decode cX9_escapes 156 = .ok (.iload 7, 2) := by decide +kernel
theorem dX9_escapes_158 : decode cX9_escapes 158 = .ok (.ifCond .eq 11, 3) := by decide +kernel
theorem dX9_escapes_161 : decode cX9_escapes 161 = .ok (.aload_n 0, 1) := by decide +kernel
theorem dX9_escapes_162 : decode cX9_escapes 162 = .ok (.aload 6, 2) := by decide +kernel
theorem dX9_escapes_164 : decode cX9_escapes 164 = .ok (.bipush 34, 2) := by decide +kernel
theorem dX9_escapes_166 : decode cX9_escapes 166 = .ok (.invokevirtual 261, 3) := by decide +kernel
theorem dX9_escapes_169 : decode cX9_escapes 169 = .ok (.aload_n 0, 1) := by decide +kernel
theorem dX9_escapes_170 : decode cX9_escapes 170 = .ok (.getfield 254, 3) := by decide +kernel
theorem dX9_escapes_173 : decode cX9_escapes 173 = .ok (.ireturn, 1) := by decide +kernel
theorem dX9_escapesBack_0 : decode cX9_escapesBack 0 = .ok (.iload_n 3, 1) := by decide +kernel
theorem dX9_escapesBack_1 : decode cX9_escapesBack 1 = .ok (.bipush 10, 2) := by decide +kernel
theorem dX9_escapesBack_3 : decode cX9_escapesBack 3 = .ok (.if_icmp .ne 15, 3) := by decide +kernel
theorem dX9_escapesBack_6 : decode cX9_escapesBack 6 = .ok (.aload_n 0, 1) := by decide +kernel
theorem dX9_escapesBack_7 : decode cX9_escapesBack 7 = .ok (.aload_n 2, 1) := by decide +kernel
theorem dX9_escapesBack_8 : decode cX9_escapesBack 8 = .ok (.bipush 92, 2) := by decide +kernel
theorem dX9_escapesBack_10 : decode cX9_escapesBack 10 = .ok (.bipush 110, 2) := by decide +kernel
theorem dX9_escapesBack_12 : decode cX9_escapesBack 12 = .ok (.invokevirtual 265, 3) := by decide +kernel
theorem dX9_escapesBack_15 : decode cX9_escapesBack 15 = .ok (.goto 70, 3) := by decide +kernel
theorem dX9_escapesBack_18 : decode cX9_escapesBack 18 = .ok (.iload_n 3, 1) := by decide +kernel
theorem dX9_escapesBack_19 : decode cX9_escapesBack 19 = .ok (.bipush 9, 2) := by decide +kernel
theorem dX9_escapesBack_21 : decode cX9_escapesBack 21 = .ok (.if_icmp .ne 15, 3) := by decide +kernel
theorem dX9_escapesBack_24 : decode cX9_escapesBack 24 = .ok (.aload_n 0, 1) := by decide +kernel
theorem dX9_escapesBack_25 : decode cX9_escapesBack 25 = .ok (.aload_n 2, 1) := by decide +kernel
theorem dX9_escapesBack_26 : decode cX9_escapesBack 26 = .ok (.bipush 92, 2) := by decide +kernel
theorem dX9_escapesBack_28 : decode cX9_escapesBack 28 = .ok (.bipush 116, 2) := by decide +kernel
theorem dX9_escapesBack_30 : decode cX9_escapesBack 30 = .ok (.invokevirtual 265, 3) := by decide +kernel
theorem dX9_escapesBack_33 : decode cX9_escapesBack 33 = .ok (.goto 52, 3) := by decide +kernel
theorem dX9_escapesBack_36 : decode cX9_escapesBack 36 = .ok (.iload_n 3, 1) := by decide +kernel
theorem dX9_escapesBack_37 : decode cX9_escapesBack 37 = .ok (.bipush 92, 2) := by decide +kernel
theorem dX9_escapesBack_39 : decode cX9_escapesBack 39 = .ok (.if_icmp .eq 29, 3) := by decide +kernel
theorem dX9_escapesBack_42 : decode cX9_escapesBack 42 = .ok (.iload_n 3, 1) := by decide +kernel
theorem dX9_escapesBack_43 : decode cX9_escapesBack 43 = .ok (.bipush 34, 2) := by decide +kernel
theorem dX9_escapesBack_45 : decode cX9_escapesBack 45 = .ok (.if_icmp .ne 8, 3) := by decide +kernel
theorem dX9_escapesBack_48 : decode cX9_escapesBack 48 = .ok (.iload_n 1, 1) := by decide +kernel
theorem dX9_escapesBack_49 : decode cX9_escapesBack 49 = .ok (.iconst 3, 1) := by decide +kernel
theorem dX9_escapesBack_50 : decode cX9_escapesBack 50 = .ok (.if_icmp .eq 18, 3) := by decide +kernel
theorem dX9_escapesBack_53 : decode cX9_escapesBack 53 = .ok (.iload_n 3, 1) := by decide +kernel
theorem dX9_escapesBack_54 : decode cX9_escapesBack 54 = .ok (.bipush 32, 2) := by decide +kernel
theorem dX9_escapesBack_56 : decode cX9_escapesBack 56 = .ok (.if_icmp .ne 23, 3) := by decide +kernel
theorem dX9_escapesBack_59 : decode cX9_escapesBack 59 = .ok (.iload_n 1, 1) := by decide +kernel
theorem dX9_escapesBack_60 : decode cX9_escapesBack 60 = .ok (.ifCond .ne 19, 3) := by decide +kernel
theorem dX9_escapesBack_63 : decode cX9_escapesBack 63 = .ok (.iload 4, 2) := by decide +kernel
theorem dX9_escapesBack_65 : decode cX9_escapesBack 65 = .ok (.ifCond .eq 14, 3) := by decide +kernel
theorem dX9_escapesBack_68 : decode cX9_escapesBack 68 = .ok (.aload_n 0, 1) := by decide +kernel
theorem dX9_escapesBack_69 : decode cX9_escapesBack 69 = .ok (.aload_n 2, 1) := by decide +kernel
theorem dX9_escapesBack_70 : decode cX9_escapesBack 70 = .ok (.bipush 92, 2) := by decide +kernel
theorem dX9_escapesBack_72 : decode cX9_escapesBack 72 = .ok (.iload_n 3, 1) := by decide +kernel
theorem dX9_escapesBack_73 : decode cX9_escapesBack 73 = .ok (.invokevirtual 265, 3) := by decide +kernel
theorem dX9_escapesBack_76 : decode cX9_escapesBack 76 = .ok (.goto 9, 3) := by decide +kernel
theorem dX9_escapesBack_79 : decode cX9_escapesBack 79 = .ok (.aload_n 0, 1) := by decide +kernel
theorem dX9_escapesBack_80 : decode cX9_escapesBack 80 = .ok (.aload_n 2, 1) := by decide +kernel
theorem dX9_escapesBack_81 : decode cX9_escapesBack 81 = .ok (.iload_n 3, 1) := by decide +kernel
theorem dX9_escapesBack_82 : decode cX9_escapesBack 82 = .ok (.invokevirtual 261, 3) := by decide +kernel
theorem dX9_escapesBack_85 : decode cX9_escapesBack 85 = .ok (.return_, 1) := by decide +kernel
theorem dX9_escapesMarkup_0 : decode cX9_escapesMarkup 0 = .ok (.iload_n 2, 1) := by decide +kernel
theorem dX9_escapesMarkup_1 : decode cX9_escapesMarkup 1 = .ok (.bipush 60, 2) := by decide +kernel
theorem dX9_escapesMarkup_3 : decode cX9_escapesMarkup 3 = .ok (.if_icmp .ne 13, 3) := by decide +kernel
theorem dX9_escapesMarkup_6 : decode cX9_escapesMarkup 6 = .ok (.aload_n 0, 1) := by decide +kernel
theorem dX9_escapesMarkup_7 : decode cX9_escapesMarkup 7 = .ok (.aload_n 1, 1) := by decide +kernel
theorem dX9_escapesMarkup_8 : decode cX9_escapesMarkup 8 = .ok (.ldc 186, 2) := by decide +kernel
theorem dX9_escapesMarkup_10 : decode cX9_escapesMarkup 10 = .ok (.invokevirtual 257, 3) := by decide +kernel
theorem dX9_escapesMarkup_13 : decode cX9_escapesMarkup 13 = .ok (.goto 41, 3) := by decide +kernel
theorem dX9_escapesMarkup_16 : decode cX9_escapesMarkup 16 = .ok (.iload_n 2, 1) := by decide +kernel
theorem dX9_escapesMarkup_17 : decode cX9_escapesMarkup 17 = .ok (.bipush 62, 2) := by decide +kernel
theorem dX9_escapesMarkup_19 : decode cX9_escapesMarkup 19 = .ok (.if_icmp .ne 13, 3) := by decide +kernel
theorem dX9_escapesMarkup_22 : decode cX9_escapesMarkup 22 = .ok (.aload_n 0, 1) := by decide +kernel
theorem dX9_escapesMarkup_23 : decode cX9_escapesMarkup 23 = .ok (.aload_n 1, 1) := by decide +kernel
theorem dX9_escapesMarkup_24 : decode cX9_escapesMarkup 24 = .ok (.ldc 192, 2) := by decide +kernel
theorem dX9_escapesMarkup_26 : decode cX9_escapesMarkup 26 = .ok (.invokevirtual 257, 3) := by decide +kernel
theorem dX9_escapesMarkup_29 : decode cX9_escapesMarkup 29 = .ok (.goto 25, 3) := by decide +kernel
theorem dX9_escapesMarkup_32 : decode cX9_escapesMarkup 32 = .ok (.iload_n 2, 1) := by decide +kernel
theorem dX9_escapesMarkup_33 : decode cX9_escapesMarkup 33 = .ok (.bipush 38, 2) := by decide +kernel
theorem dX9_escapesMarkup_35 : decode cX9_escapesMarkup 35 = .ok (.if_icmp .ne 13, 3) := by decide +kernel
theorem dX9_escapesMarkup_38 : decode cX9_escapesMarkup 38 = .ok (.aload_n 0, 1) := by decide +kernel
theorem dX9_escapesMarkup_39 : decode cX9_escapesMarkup 39 = .ok (.aload_n 1, 1) := by decide +kernel
theorem dX9_escapesMarkup_40 : decode cX9_escapesMarkup 40 = .ok (.ldc 194, 2) := by decide +kernel
theorem dX9_escapesMarkup_42 : decode cX9_escapesMarkup 42 = .ok (.invokevirtual 257, 3) := by decide +kernel
theorem dX9_escapesMarkup_45 : decode cX9_escapesMarkup 45 = .ok (.goto 9, 3) := by decide +kernel
theorem dX9_escapesMarkup_48 : decode cX9_escapesMarkup 48 = .ok (.aload_n 0, 1) := by decide +kernel
theorem dX9_escapesMarkup_49 : decode cX9_escapesMarkup 49 = .ok (.aload_n 1, 1) := by decide +kernel
theorem dX9_escapesMarkup_50 : decode cX9_escapesMarkup 50 = .ok (.iload_n 2, 1) := by decide +kernel
theorem dX9_escapesMarkup_51 : decode cX9_escapesMarkup 51 = .ok (.invokevirtual 261, 3) := by decide +kernel
theorem dX9_escapesMarkup_54 : decode cX9_escapesMarkup 54 = .ok (.return_, 1) := by decide +kernel
theorem dX9_fault_0 : decode cX9_fault 0 = .ok (.aload_n 0, 1) := by decide +kernel
theorem dX9_fault_1 : decode cX9_fault 1 = .ok (.iconst 0, 1) := by decide +kernel
theorem dX9_fault_2 : decode cX9_fault 2 = .ok (.putfield 138, 3) := by decide +kernel
theorem dX9_fault_5 : decode cX9_fault 5 = .ok (.aload_n 0, 1) := by decide +kernel
theorem dX9_fault_6 : decode cX9_fault 6 = .ok (.getfield 26, 3) := by decide +kernel
theorem dX9_fault_9 : decode cX9_fault 9 = .ok (.ireturn, 1) := by decide +kernel
theorem dX9_feed_0 : decode cX9_feed 0 = .ok (.aload_n 0, 1) := by decide +kernel
theorem dX9_feed_1 : decode cX9_feed 1 = .ok (.iconst 0, 1) := by decide +kernel
theorem dX9_feed_2 : decode cX9_feed 2 = .ok (.putfield 138, 3) := by decide +kernel
theorem dX9_feed_5 : decode cX9_feed 5 = .ok (.aload_n 0, 1) := by decide +kernel
theorem dX9_feed_6 : decode cX9_feed 6 = .ok (.getfield 337, 3) := by decide +kernel
theorem dX9_feed_9 : decode cX9_feed 9 = .ok (.bipush 20, 2) := by decide +kernel
theorem dX9_feed_11 : decode cX9_feed 11 = .ok (.iadd, 1) := by decide +kernel
theorem dX9_feed_12 : decode cX9_feed 12 = .ok (.sipush 400, 3) := by decide +kernel
theorem dX9_feed_15 : decode cX9_feed 15 = .ok (.if_icmp .le 5, 3) := by decide +kernel
theorem dX9_feed_18 : decode cX9_feed 18 = .ok (.iconst (-1), 1) := by decide +kernel
theorem dX9_feed_19 : decode cX9_feed 19 = .ok (.ireturn, 1) := by decide +kernel
theorem dX9_feed_20 : decode cX9_feed 20 = .ok (.iconst 0, 1) := by decide +kernel
theorem dX9_feed_21 : decode cX9_feed 21 = .ok (.istore 6, 2) := by decide +kernel
theorem dX9_feed_23 : decode cX9_feed 23 = .ok (.iload 6, 2) := by decide +kernel
theorem dX9_feed_25 : decode cX9_feed 25 = .ok (.bipush 20, 2) := by decide +kernel
theorem dX9_feed_27 : decode cX9_feed 27 = .ok (.if_icmp .ge 93, 3) := by decide +kernel
theorem dX9_feed_30 : decode cX9_feed 30 = .ok (.iload 6, 2) := by decide +kernel
theorem dX9_feed_32 : decode cX9_feed 32 = .ok (.iconst 4, 1) := by decide +kernel
theorem dX9_feed_33 : decode cX9_feed 33 = .ok (.if_icmp .ge 7, 3) := by decide +kernel
theorem dX9_feed_36 : decode cX9_feed 36 = .ok (.iload_n 1, 1) := by decide +kernel
theorem dX9_feed_37 : decode cX9_feed 37 = .ok (.goto 39, 3) := by decide +kernel
theorem dX9_feed_40 : decode cX9_feed 40 = .ok (.iload 6, 2) := by decide +kernel
theorem dX9_feed_42 : decode cX9_feed 42 = .ok (.bipush 8, 2) := by decide +kernel
theorem dX9_feed_44 : decode cX9_feed 44 = .ok (.if_icmp .ge 7, 3) := by decide +kernel
theorem dX9_feed_47 : decode cX9_feed 47 = .ok (.iload_n 2, 1) := by decide +kernel
theorem dX9_feed_48 : decode cX9_feed 48 = .ok (.goto 28, 3) := by decide +kernel
theorem dX9_feed_51 : decode cX9_feed 51 = .ok (.iload 6, 2) := by decide +kernel
theorem dX9_feed_53 : decode cX9_feed 53 = .ok (.bipush 12, 2) := by decide +kernel
theorem dX9_feed_55 : decode cX9_feed 55 = .ok (.if_icmp .ge 7, 3) := by decide +kernel
theorem dX9_feed_58 : decode cX9_feed 58 = .ok (.iload_n 3, 1) := by decide +kernel
theorem dX9_feed_59 : decode cX9_feed 59 = .ok (.goto 17, 3) := by decide +kernel
theorem dX9_feed_62 : decode cX9_feed 62 = .ok (.iload 6, 2) := by decide +kernel
theorem dX9_feed_64 : decode cX9_feed 64 = .ok (.bipush 16, 2) := by decide +kernel
theorem dX9_feed_66 : decode cX9_feed 66 = .ok (.if_icmp .ge 8, 3) := by decide +kernel
theorem dX9_feed_69 : decode cX9_feed 69 = .ok (.iload 4, 2) := by decide +kernel
theorem dX9_feed_71 : decode cX9_feed 71 = .ok (.goto 5, 3) := by decide +kernel
theorem dX9_feed_74 : decode cX9_feed 74 = .ok (.iload 5, 2) := by decide +kernel
theorem dX9_feed_76 : decode cX9_feed 76 = .ok (.istore 7, 2) := by decide +kernel
theorem dX9_feed_78 : decode cX9_feed 78 = .ok (.aload_n 0, 1) := by decide +kernel
theorem dX9_feed_79 : decode cX9_feed 79 = .ok (.getfield 23, 3) := by decide +kernel
theorem dX9_feed_82 : decode cX9_feed 82 = .ok (.aload_n 0, 1) := by decide +kernel
theorem dX9_feed_83 : decode cX9_feed 83 = .ok (.getfield 337, 3) := by decide +kernel
theorem dX9_feed_86 : decode cX9_feed 86 = .ok (.iload 7, 2) := by decide +kernel
theorem dX9_feed_88 : decode cX9_feed 88 = .ok (.bipush 24, 2) := by decide +kernel
theorem dX9_feed_90 : decode cX9_feed 90 = .ok (.bipush 8, 2) := by decide +kernel
theorem dX9_feed_92 : decode cX9_feed 92 = .ok (.iload 6, 2) := by decide +kernel
theorem dX9_feed_94 : decode cX9_feed 94 = .ok (.iconst 4, 1) := by decide +kernel
theorem dX9_feed_95 : decode cX9_feed 95 = .ok (.irem, 1) := by decide +kernel
theorem dX9_feed_96 : decode cX9_feed 96 = .ok (.imul, 1) := by decide +kernel
theorem dX9_feed_97 : decode cX9_feed 97 = .ok (.isub, 1) := by decide +kernel
theorem dX9_feed_98 : decode cX9_feed 98 = .ok (.iushr, 1) := by decide +kernel
theorem dX9_feed_99 : decode cX9_feed 99 = .ok (.sipush 255, 3) := by decide +kernel
theorem dX9_feed_102 : decode cX9_feed 102 = .ok (.iand, 1) := by decide +kernel
theorem dX9_feed_103 : decode cX9_feed 103 = .ok (.iastore, 1) := by decide +kernel
theorem dX9_feed_104 : decode cX9_feed 104 = .ok (.aload_n 0, 1) := by decide +kernel
theorem dX9_feed_105 : decode cX9_feed 105 = .ok (.dup, 1) := by decide +kernel
theorem dX9_feed_106 : decode cX9_feed 106 = .ok (.getfield 337, 3) := by decide +kernel
theorem dX9_feed_109 : decode cX9_feed 109 = .ok (.iconst 1, 1) := by decide +kernel
theorem dX9_feed_110 : decode cX9_feed 110 = .ok (.iadd, 1) := by decide +kernel
theorem dX9_feed_111 : decode cX9_feed 111 = .ok (.putfield 337, 3) := by decide +kernel
theorem dX9_feed_114 : decode cX9_feed 114 = .ok (.iinc 6 1, 3) := by decide +kernel
theorem dX9_feed_117 : decode cX9_feed 117 = .ok (.goto (-94), 3) := by decide +kernel
theorem dX9_feed_120 : decode cX9_feed 120 = .ok (.aload_n 0, 1) := by decide +kernel
theorem dX9_feed_121 : decode cX9_feed 121 = .ok (.getfield 337, 3) := by decide +kernel
theorem dX9_feed_124 : decode cX9_feed 124 = .ok (.ireturn, 1) := by decide +kernel
theorem dX9_file_0 : decode cX9_file 0 = .ok (.aload_n 0, 1) := by decide +kernel
theorem dX9_file_1 : decode cX9_file 1 = .ok (.iconst 0, 1) := by decide +kernel
theorem dX9_file_2 : decode cX9_file 2 = .ok (.putfield 138, 3) := by decide +kernel
theorem dX9_file_5 : decode cX9_file 5 = .ok (.aload_n 0, 1) := by decide +kernel
theorem dX9_file_6 : decode cX9_file 6 = .ok (.invokevirtual 426, 3) := by decide +kernel
theorem dX9_file_9 : decode cX9_file 9 = .ok (.istore_n 1, 1) := by decide +kernel
theorem dX9_file_10 : decode cX9_file 10 = .ok (.aload_n 0, 1) := by decide +kernel
theorem dX9_file_11 : decode cX9_file 11 = .ok (.getfield 7, 3) := by decide +kernel
theorem dX9_file_14 : decode cX9_file 14 = .ok (.iconst 0, 1) := by decide +kernel
theorem dX9_file_15 : decode cX9_file 15 = .ok (.iload_n 1, 1) := by decide +kernel
theorem dX9_file_16 : decode cX9_file 16 = .ok (.iastore, 1) := by decide +kernel
theorem dX9_file_17 : decode cX9_file 17 = .ok (.iconst 0, 1) := by decide +kernel
theorem dX9_file_18 : decode cX9_file 18 = .ok (.istore_n 2, 1) := by decide +kernel
theorem dX9_file_19 : decode cX9_file 19 = .ok (.iload_n 2, 1) := by decide +kernel
theorem dX9_file_20 : decode cX9_file 20 = .ok (.iload_n 1, 1) := by decide +kernel
theorem dX9_file_21 : decode cX9_file 21 = .ok (.if_icmp .ge 24, 3) := by decide +kernel
theorem dX9_file_24 : decode cX9_file 24 = .ok (.aload_n 0, 1) := by decide +kernel
theorem dX9_file_25 : decode cX9_file 25 = .ok (.getfield 7, 3) := by decide +kernel
end
/-! part 21d.dec -/
section
theorem dX9_file_28 : decode cX9_file 28 = .ok (.bipush 43, 2) := by decide +kernel
theorem dX9_file_30 : decode cX9_file 30 = .ok (.iload_n 2, 1) := by decide +kernel
theorem dX9_file_31 : decode cX9_file 31 = .ok (.iadd, 1) := by decide +kernel
theorem dX9_file_32 : decode cX9_file 32 = .ok (.aload_n 0, 1) := by decide +kernel
theorem dX9_file_33 : decode cX9_file 33 = .ok (.getfield 23, 3) := by decide +kernel
theorem dX9_file_36 : decode cX9_file 36 = .ok (.iload_n 2, 1) := by decide +kernel
theorem dX9_file_37 : decode cX9_file 37 = .ok (.iaload, 1) := by decide +kernel
theorem dX9_file_38 : decode cX9_file 38 = .ok (.iastore, 1) := by decide +kernel
theorem dX9_file_39 : decode cX9_file 39 = .ok (.iinc 2 1, 3) := by decide +kernel
theorem dX9_file_42 : decode cX9_file 42 = .ok (.goto (-23), 3) := by decide +kernel
theorem dX9_file_45 : decode cX9_file 45 = .ok (.aload_n 0, 1) := by decide +kernel
theorem dX9_file_46 : decode cX9_file 46 = .ok (.invokevirtual 322, 3) := by decide +kernel
theorem dX9_file_49 : decode cX9_file 49 = .ok (.aload_n 0, 1) := by decide +kernel
theorem dX9_file_50 : decode cX9_file 50 = .ok (.iconst 0, 1) := by decide +kernel
theorem dX9_file_51 : decode cX9_file 51 = .ok (.putfield 325, 3) := by decide +kernel
theorem dX9_file_54 : decode cX9_file 54 = .ok (.aload_n 0, 1) := by decide +kernel
theorem dX9_file_55 : decode cX9_file 55 = .ok (.getfield 204, 3) := by decide +kernel
theorem dX9_file_58 : decode cX9_file 58 = .ok (.ireturn, 1) := by decide +kernel
theorem dX9_finds_0 : decode cX9_finds 0 = .ok (.iload 4, 2) := by decide +kernel
theorem dX9_finds_2 : decode cX9_finds 2 = .ok (.iload 5, 2) := by decide +kernel
theorem dX9_finds_4 : decode cX9_finds 4 = .ok (.if_icmp .lt 4, 3) := by decide +kernel
theorem dX9_finds_7 : decode cX9_finds 7 = .ok (.return_, 1) := by decide +kernel
theorem dX9_finds_8 : decode cX9_finds 8 = .ok (.aload_n 1, 1) := by decide +kernel
theorem dX9_finds_9 : decode cX9_finds 9 = .ok (.aload_n 0, 1) := by decide +kernel
theorem dX9_finds_10 : decode cX9_finds 10 = .ok (.getfield 145, 3) := by decide +kernel
theorem dX9_finds_13 : decode cX9_finds 13 = .ok (.iload 4, 2) := by decide +kernel
theorem dX9_finds_15 : decode cX9_finds 15 = .ok (.iastore, 1) := by decide +kernel
theorem dX9_finds_16 : decode cX9_finds 16 = .ok (.aload_n 2, 1) := by decide +kernel
theorem dX9_finds_17 : decode cX9_finds 17 = .ok (.aload_n 0, 1) := by decide +kernel
theorem dX9_finds_18 : decode cX9_finds 18 = .ok (.getfield 145, 3) := by decide +kernel
theorem dX9_finds_21 : decode cX9_finds 21 = .ok (.iload 5, 2) := by decide +kernel
theorem dX9_finds_23 : decode cX9_finds 23 = .ok (.iastore, 1) := by decide +kernel
theorem dX9_finds_24 : decode cX9_finds 24 = .ok (.aload_n 3, 1) := by decide +kernel
theorem dX9_finds_25 : decode cX9_finds 25 = .ok (.aload_n 0, 1) := by decide +kernel
theorem dX9_finds_26 : decode cX9_finds 26 = .ok (.getfield 145, 3) := by decide +kernel
theorem dX9_finds_29 : decode cX9_finds 29 = .ok (.iload 6, 2) := by decide +kernel
theorem dX9_finds_31 : decode cX9_finds 31 = .ok (.ifCond .eq 7, 3) := by decide +kernel
theorem dX9_finds_34 : decode cX9_finds 34 = .ok (.iconst 1, 1) := by decide +kernel
theorem dX9_finds_35 : decode cX9_finds 35 = .ok (.goto 4, 3) := by decide +kernel
theorem dX9_finds_38 : decode cX9_finds 38 = .ok (.iconst 0, 1) := by decide +kernel
theorem dX9_finds_39 : decode cX9_finds 39 = .ok (.iastore, 1) := by decide +kernel
theorem dX9_finds_40 : decode cX9_finds 40 = .ok (.aload_n 0, 1) := by decide +kernel
theorem dX9_finds_41 : decode cX9_finds 41 = .ok (.dup, 1) := by decide +kernel
theorem dX9_finds_42 : decode cX9_finds 42 = .ok (.getfield 145, 3) := by decide +kernel
theorem dX9_finds_45 : decode cX9_finds 45 = .ok (.iconst 1, 1) := by decide +kernel
theorem dX9_finds_46 : decode cX9_finds 46 = .ok (.iadd, 1) := by decide +kernel
theorem dX9_finds_47 : decode cX9_finds 47 = .ok (.putfield 145, 3) := by decide +kernel
theorem dX9_finds_50 : decode cX9_finds 50 = .ok (.return_, 1) := by decide +kernel
theorem dX9_found_0 : decode cX9_found 0 = .ok (.aload_n 0, 1) := by decide +kernel
theorem dX9_found_1 : decode cX9_found 1 = .ok (.invokevirtual 426, 3) := by decide +kernel
theorem dX9_found_4 : decode cX9_found 4 = .ok (.istore_n 1, 1) := by decide +kernel
theorem dX9_found_5 : decode cX9_found 5 = .ok (.aload_n 0, 1) := by decide +kernel
theorem dX9_found_6 : decode cX9_found 6 = .ok (.aload_n 0, 1) := by decide +kernel
theorem dX9_found_7 : decode cX9_found 7 = .ok (.iload_n 1, 1) := by decide +kernel
theorem dX9_found_8 : decode cX9_found 8 = .ok (.invokevirtual 432, 3) := by decide +kernel
theorem dX9_found_11 : decode cX9_found 11 = .ok (.ifCond .eq 7, 3) := by decide +kernel
theorem dX9_found_14 : decode cX9_found 14 = .ok (.iconst 0, 1) := by decide +kernel
theorem dX9_found_15 : decode cX9_found 15 = .ok (.goto 4, 3) := by decide +kernel
theorem dX9_found_18 : decode cX9_found 18 = .ok (.iconst 1, 1) := by decide +kernel
theorem dX9_found_19 : decode cX9_found 19 = .ok (.putfield 138, 3) := by decide +kernel
theorem dX9_found_22 : decode cX9_found 22 = .ok (.aload_n 0, 1) := by decide +kernel
theorem dX9_found_23 : decode cX9_found 23 = .ok (.getfield 138, 3) := by decide +kernel
theorem dX9_found_26 : decode cX9_found 26 = .ok (.ifCond .le 5, 3) := by decide +kernel
theorem dX9_found_29 : decode cX9_found 29 = .ok (.lconst 0, 1) := by decide +kernel
theorem dX9_found_30 : decode cX9_found 30 = .ok (.lreturn, 1) := by decide +kernel
theorem dX9_found_31 : decode cX9_found 31 = .ok (.lconst 0, 1) := by decide +kernel
theorem dX9_found_32 : decode cX9_found 32 = .ok (.lstore_n 2, 1) := by decide +kernel
theorem dX9_found_33 : decode cX9_found 33 = .ok (.iconst 0, 1) := by decide +kernel
theorem dX9_found_34 : decode cX9_found 34 = .ok (.istore 4, 2) := by decide +kernel
theorem dX9_found_36 : decode cX9_found 36 = .ok (.iload 4, 2) := by decide +kernel
theorem dX9_found_38 : decode cX9_found 38 = .ok (.aload_n 0, 1) := by decide +kernel
theorem dX9_found_39 : decode cX9_found 39 = .ok (.getfield 204, 3) := by decide +kernel
theorem dX9_found_42 : decode cX9_found 42 = .ok (.if_icmp .ge 30, 3) := by decide +kernel
theorem dX9_found_45 : decode cX9_found 45 = .ok (.lload_n 2, 1) := by decide +kernel
theorem dX9_found_46 : decode cX9_found 46 = .ok (.aload_n 0, 1) := by decide +kernel
theorem dX9_found_47 : decode cX9_found 47 = .ok (.iload 4, 2) := by decide +kernel
theorem dX9_found_49 : decode cX9_found 49 = .ok (.iload_n 1, 1) := by decide +kernel
theorem dX9_found_50 : decode cX9_found 50 = .ok (.invokevirtual 456, 3) := by decide +kernel
theorem dX9_found_53 : decode cX9_found 53 = .ok (.ifCond .eq 10, 3) := by decide +kernel
theorem dX9_found_56 : decode cX9_found 56 = .ok (.lconst 1, 1) := by decide +kernel
theorem dX9_found_57 : decode cX9_found 57 = .ok (.iload 4, 2) := by decide +kernel
theorem dX9_found_59 : decode cX9_found 59 = .ok (.lshl, 1) := by decide +kernel
theorem dX9_found_60 : decode cX9_found 60 = .ok (.goto 4, 3) := by decide +kernel
theorem dX9_found_63 : decode cX9_found 63 = .ok (.lconst 0, 1) := by decide +kernel
theorem dX9_found_64 : decode cX9_found 64 = .ok (.lor, 1) := by decide +kernel
theorem dX9_found_65 : decode cX9_found 65 = .ok (.lstore_n 2, 1) := by decide +kernel
theorem dX9_found_66 : decode cX9_found 66 = .ok (.iinc 4 1, 3) := by decide +kernel
theorem dX9_found_69 : decode cX9_found 69 = .ok (.goto (-33), 3) := by decide +kernel
theorem dX9_found_72 : decode cX9_found 72 = .ok (.lload_n 2, 1) := by decide +kernel
theorem dX9_found_73 : decode cX9_found 73 = .ok (.lreturn, 1) := by decide +kernel
theorem dX9_free_0 : decode cX9_free 0 = .ok (.aload_n 0, 1) := by decide +kernel
theorem dX9_free_1 : decode cX9_free 1 = .ok (.invokevirtual 420, 3) := by decide +kernel
theorem dX9_free_4 : decode cX9_free 4 = .ok (.aload_n 0, 1) := by decide +kernel
theorem dX9_free_5 : decode cX9_free 5 = .ok (.aload_n 0, 1) := by decide +kernel
theorem dX9_free_6 : decode cX9_free 6 = .ok (.iload_n 1, 1) := by decide +kernel
theorem dX9_free_7 : decode cX9_free 7 = .ok (.invokevirtual 367, 3) := by decide +kernel
theorem dX9_free_10 : decode cX9_free 10 = .ok (.iconst 1, 1) := by decide +kernel
theorem dX9_free_11 : decode cX9_free 11 = .ok (.invokevirtual 429, 3) := by decide +kernel
theorem dX9_free_14 : decode cX9_free 14 = .ok (.ifCond .eq 10, 3) := by decide +kernel
theorem dX9_free_17 : decode cX9_free 17 = .ok (.aload_n 0, 1) := by decide +kernel
theorem dX9_free_18 : decode cX9_free 18 = .ok (.invokevirtual 300, 3) := by decide +kernel
theorem dX9_free_21 : decode cX9_free 21 = .ok (.goto 4, 3) := by decide +kernel
theorem dX9_free_24 : decode cX9_free 24 = .ok (.iconst 0, 1) := by decide +kernel
theorem dX9_free_25 : decode cX9_free 25 = .ok (.ireturn, 1) := by decide +kernel
theorem dX9_free0_0 : decode cX9_free0 0 = .ok (.aload_n 0, 1) := by decide +kernel
theorem dX9_free0_1 : decode cX9_free0 1 = .ok (.iload_n 1, 1) := by decide +kernel
theorem dX9_free0_2 : decode cX9_free0 2 = .ok (.invokevirtual 293, 3) := by decide +kernel
theorem dX9_free0_5 : decode cX9_free0 5 = .ok (.ifCond .ne 5, 3) := by decide +kernel
theorem dX9_free0_8 : decode cX9_free0 8 = .ok (.iconst 1, 1) := by decide +kernel
theorem dX9_free0_9 : decode cX9_free0 9 = .ok (.ireturn, 1) := by decide +kernel
theorem dX9_free0_10 : decode cX9_free0 10 = .ok (.aload_n 0, 1) := by decide +kernel
theorem dX9_free0_11 : decode cX9_free0 11 = .ok (.iload_n 1, 1) := by decide +kernel
theorem dX9_free0_12 : decode cX9_free0 12 = .ok (.invokevirtual 247, 3) := by decide +kernel
theorem dX9_free0_15 : decode cX9_free0 15 = .ok (.iconst (-1), 1) := by decide +kernel
theorem dX9_free0_16 : decode cX9_free0 16 = .ok (.if_icmp .ne 5, 3) := by decide +kernel
theorem dX9_free0_19 : decode cX9_free0 19 = .ok (.iconst 4, 1) := by decide +kernel
theorem dX9_free0_20 : decode cX9_free0 20 = .ok (.ireturn, 1) := by decide +kernel
theorem dX9_free0_21 : decode cX9_free0 21 = .ok (.aload_n 0, 1) := by decide +kernel
theorem dX9_free0_22 : decode cX9_free0 22 = .ok (.getfield 7, 3) := by decide +kernel
theorem dX9_free0_25 : decode cX9_free0 25 = .ok (.sipush 443, 3) := by decide +kernel
theorem dX9_free0_28 : decode cX9_free0 28 = .ok (.bipush 61, 2) := by decide +kernel
theorem dX9_free0_30 : decode cX9_free0 30 = .ok (.iload_n 1, 1) := by decide +kernel
theorem dX9_free0_31 : decode cX9_free0 31 = .ok (.imul, 1) := by decide +kernel
theorem dX9_free0_32 : decode cX9_free0 32 = .ok (.iadd, 1) := by decide +kernel
theorem dX9_free0_33 : decode cX9_free0 33 = .ok (.iconst (-1), 1) := by decide +kernel
theorem dX9_free0_34 : decode cX9_free0 34 = .ok (.iastore, 1) := by decide +kernel
theorem dX9_free0_35 : decode cX9_free0 35 = .ok (.aload_n 0, 1) := by decide +kernel
theorem dX9_free0_36 : decode cX9_free0 36 = .ok (.invokevirtual 300, 3) := by decide +kernel
theorem dX9_free0_39 : decode cX9_free0 39 = .ok (.sipush 600, 3) := by decide +kernel
theorem dX9_free0_42 : decode cX9_free0 42 = .ok (.if_icmp .le 7, 3) := by decide +kernel
theorem dX9_free0_45 : decode cX9_free0 45 = .ok (.iconst 3, 1) := by decide +kernel
theorem dX9_free0_46 : decode cX9_free0 46 = .ok (.goto 4, 3) := by decide +kernel
theorem dX9_free0_49 : decode cX9_free0 49 = .ok (.iconst 0, 1) := by decide +kernel
theorem dX9_free0_50 : decode cX9_free0 50 = .ok (.ireturn, 1) := by decide +kernel
theorem dX9_has_0 : decode cX9_has 0 = .ok (.aload_n 0, 1) := by decide +kernel
theorem dX9_has_1 : decode cX9_has 1 = .ok (.invokevirtual 349, 3) := by decide +kernel
theorem dX9_has_4 : decode cX9_has 4 = .ok (.istore_n 2, 1) := by decide +kernel
theorem dX9_has_5 : decode cX9_has 5 = .ok (.aload_n 0, 1) := by decide +kernel
theorem dX9_has_6 : decode cX9_has 6 = .ok (.getfield 26, 3) := by decide +kernel
theorem dX9_has_9 : decode cX9_has 9 = .ok (.iconst (-1), 1) := by decide +kernel
theorem dX9_has_10 : decode cX9_has 10 = .ok (.if_icmp .ne 16, 3) := by decide +kernel
theorem dX9_has_13 : decode cX9_has 13 = .ok (.iload_n 2, 1) := by decide +kernel
theorem dX9_has_14 : decode cX9_has 14 = .ok (.aload_n 0, 1) := by decide +kernel
theorem dX9_has_15 : decode cX9_has 15 = .ok (.getfield 340, 3) := by decide +kernel
theorem dX9_has_18 : decode cX9_has 18 = .ok (.isub, 1) := by decide +kernel
theorem dX9_has_19 : decode cX9_has 19 = .ok (.aload_n 1, 1) := by decide +kernel
theorem dX9_has_20 : decode cX9_has 20 = .ok (.invokevirtual 173, 3) := by decide +kernel
theorem dX9_has_23 : decode cX9_has 23 = .ok (.if_icmp .eq 5, 3) := by decide +kernel
theorem dX9_has_26 : decode cX9_has 26 = .ok (.iconst 0, 1) := by decide +kernel
theorem dX9_has_27 : decode cX9_has 27 = .ok (.ireturn, 1) := by decide +kernel
theorem dX9_has_28 : decode cX9_has 28 = .ok (.iconst 0, 1) := by decide +kernel
theorem dX9_has_29 : decode cX9_has 29 = .ok (.istore_n 3, 1) := by decide +kernel
theorem dX9_has_30 : decode cX9_has 30 = .ok (.iload_n 3, 1) := by decide +kernel
theorem dX9_has_31 : decode cX9_has 31 = .ok (.aload_n 1, 1) := by decide +kernel
theorem dX9_has_32 : decode cX9_has 32 = .ok (.invokevirtual 173, 3) := by decide +kernel
theorem dX9_has_35 : decode cX9_has 35 = .ok (.if_icmp .ge 30, 3) := by decide +kernel
theorem dX9_has_38 : decode cX9_has 38 = .ok (.aload_n 0, 1) := by decide +kernel
theorem dX9_has_39 : decode cX9_has 39 = .ok (.getfield 23, 3) := by decide +kernel
theorem dX9_has_42 : decode cX9_has 42 = .ok (.aload_n 0, 1) := by decide +kernel
theorem dX9_has_43 : decode cX9_has 43 = .ok (.getfield 340, 3) := by decide +kernel
theorem dX9_has_46 : decode cX9_has 46 = .ok (.iload_n 3, 1) := by decide +kernel
theorem dX9_has_47 : decode cX9_has 47 = .ok (.iadd, 1) := by decide +kernel
theorem dX9_has_48 : decode cX9_has 48 = .ok (.iaload, 1) := by decide +kernel
theorem dX9_has_49 : decode cX9_has 49 = .ok (.aload_n 1, 1) := by decide +kernel
theorem dX9_has_50 : decode cX9_has 50 = .ok (.iload_n 3, 1) := by decide +kernel
theorem dX9_has_51 : decode cX9_has 51 = .ok (.invokevirtual 179, 3) := by decide +kernel
theorem dX9_has_54 : decode cX9_has 54 = .ok (.if_icmp .eq 5, 3) := by decide +kernel
theorem dX9_has_57 : decode cX9_has 57 = .ok (.iconst 0, 1) := by decide +kernel
theorem dX9_has_58 : decode cX9_has 58 = .ok (.ireturn, 1) := by decide +kernel
theorem dX9_has_59 : decode cX9_has 59 = .ok (.iinc 3 1, 3) := by decide +kernel
theorem dX9_has_62 : decode cX9_has 62 = .ok (.goto (-32), 3) := by decide +kernel
theorem dX9_has_65 : decode cX9_has 65 = .ok (.aload_n 0, 1) := by decide +kernel
theorem dX9_has_66 : decode cX9_has 66 = .ok (.iload_n 2, 1) := by decide +kernel
theorem dX9_has_67 : decode cX9_has 67 = .ok (.putfield 340, 3) := by decide +kernel
theorem dX9_has_70 : decode cX9_has 70 = .ok (.iconst 1, 1) := by decide +kernel
theorem dX9_has_71 : decode cX9_has 71 = .ok (.ireturn, 1) := by decide +kernel
theorem dX9_hasSign_0 : decode cX9_hasSign 0 = .ok (.iconst 0, 1) := by decide +kernel
theorem dX9_hasSign_1 : decode cX9_hasSign 1 = .ok (.istore_n 2, 1) := by decide +kernel
theorem dX9_hasSign_2 : decode cX9_hasSign 2 = .ok (.iload_n 2, 1) := by decide +kernel
theorem dX9_hasSign_3 : decode cX9_hasSign 3 = .ok (.iload_n 1, 1) := by decide +kernel
theorem dX9_hasSign_4 : decode cX9_hasSign 4 = .ok (.if_icmp .ge 35, 3) := by decide +kernel
theorem dX9_hasSign_7 : decode cX9_hasSign 7 = .ok (.aload_n 0, 1) := by decide +kernel
theorem dX9_hasSign_8 : decode cX9_hasSign 8 = .ok (.iload_n 2, 1) := by decide +kernel
theorem dX9_hasSign_9 : decode cX9_hasSign 9 = .ok (.iaload, 1) := by decide +kernel
theorem dX9_hasSign_10 : decode cX9_hasSign 10 = .ok (.bipush 44, 2) := by decide +kernel
theorem dX9_hasSign_12 : decode cX9_hasSign 12 = .ok (.if_icmp .eq 19, 3) := by decide +kernel
theorem dX9_hasSign_15 : decode cX9_hasSign 15 = .ok (.aload_n 0, 1) := by decide +kernel
theorem dX9_hasSign_16 : decode cX9_hasSign 16 = .ok (.iload_n 2, 1) := by decide +kernel
theorem dX9_hasSign_17 : decode cX9_hasSign 17 = .ok (.iaload, 1) := by decide +kernel
theorem dX9_hasSign_18 : decode cX9_hasSign 18 = .ok (.bipush 34, 2) := by decide +kernel
theorem dX9_hasSign_20 : decode cX9_hasSign 20 = .ok (.if_icmp .eq 11, 3) := by decide +kernel
theorem dX9_hasSign_23 : decode cX9_hasSign 23 = .ok (.aload_n 0, 1) := by decide +kernel
theorem dX9_hasSign_24 : decode cX9_hasSign 24 = .ok (.iload_n 2, 1) := by decide +kernel
theorem dX9_hasSign_25 : decode cX9_hasSign 25 = .ok (.iaload, 1) := by decide +kernel
theorem dX9_hasSign_26 : decode cX9_hasSign 26 = .ok (.bipush 10, 2) := by decide +kernel
theorem dX9_hasSign_28 : decode cX9_hasSign 28 = .ok (.if_icmp .ne 5, 3) := by decide +kernel
theorem dX9_hasSign_31 : decode cX9_hasSign 31 = .ok (.iconst 1, 1) := by decide +kernel
theorem dX9_hasSign_32 : decode cX9_hasSign 32 = .ok (.ireturn, 1) := by decide +kernel
theorem dX9_hasSign_33 : decode cX9_hasSign 33 = .ok (.iinc 2 1, 3) := by decide +kernel
theorem dX9_hasSign_36 : decode cX9_hasSign 36 = .ok (.goto (-34), 3) := by decide +kernel
theorem dX9_hasSign_39 : decode cX9_hasSign 39 = .ok (.iconst 0, 1) := by decide +kernel
theorem dX9_hasSign_40 : decode cX9_hasSign 40 = .ok (.ireturn, 1) := by decide +kernel
theorem dX9_hasWord_0 : decode cX9_hasWord 0 = .ok (.iconst 0, 1) := by decide +kernel
theorem dX9_hasWord_1 : decode cX9_hasWord 1 = .ok (.istore_n 3, 1) := by decide +kernel
theorem dX9_hasWord_2 : decode cX9_hasWord 2 = .ok (.iload_n 3, 1) := by decide +kernel
theorem dX9_hasWord_3 : decode cX9_hasWord 3 = .ok (.iload_n 2, 1) := by decide +kernel
theorem dX9_hasWord_4 : decode cX9_hasWord 4 = .ok (.iadd, 1) := by decide +kernel
theorem dX9_hasWord_5 : decode cX9_hasWord 5 = .ok (.aload_n 0, 1) := by decide +kernel
theorem dX9_hasWord_6 : decode cX9_hasWord 6 = .ok (.iload_n 1, 1) := by decide +kernel
theorem dX9_hasWord_7 : decode cX9_hasWord 7 = .ok (.invokevirtual 313, 3) := by decide +kernel
theorem dX9_hasWord_10 : decode cX9_hasWord 10 = .ok (.if_icmp .gt 89, 3) := by decide +kernel
theorem dX9_hasWord_13 : decode cX9_hasWord 13 = .ok (.iconst 1, 1) := by decide +kernel
theorem dX9_hasWord_14 : decode cX9_hasWord 14 = .ok (.istore 4, 2) := by decide +kernel
theorem dX9_hasWord_16 : decode cX9_hasWord 16 = .ok (.iconst 0, 1) := by decide +kernel
theorem dX9_hasWord_17 : decode cX9_hasWord 17 = .ok (.istore 5, 2) := by decide +kernel
theorem dX9_hasWord_19 : decode cX9_hasWord 19 = .ok (.iload 5, 2) := by decide +kernel
theorem dX9_hasWord_21 : decode cX9_hasWord 21 = .ok (.iload_n 2, 1) := by decide +kernel
theorem dX9_hasWord_22 : decode cX9_hasWord 22 = .ok (.if_icmp .ge 64, 3) := by decide +kernel
theorem dX9_hasWord_25 : decode cX9_hasWord 25 = .ok (.iload 4, 2) := by decide +kernel
theorem dX9_hasWord_27 : decode cX9_hasWord 27 = .ok (.ifCond .eq 59, 3) := by decide +kernel
theorem dX9_hasWord_30 : decode cX9_hasWord 30 = .ok (.aload_n 0, 1) := by decide +kernel
theorem dX9_hasWord_31 : decode cX9_hasWord 31 = .ok (.iload_n 1, 1) := by decide +kernel
theorem dX9_hasWord_32 : decode cX9_hasWord 32 = .ok (.iload_n 3, 1) := by decide +kernel
theorem dX9_hasWord_33 : decode cX9_hasWord 33 = .ok (.iload 5, 2) := by decide +kernel
theorem dX9_hasWord_35 : decode cX9_hasWord 35 = .ok (.iadd, 1) := by decide +kernel
theorem dX9_hasWord_36 : decode cX9_hasWord 36 = .ok (.invokevirtual 316, 3) := by decide +kernel
theorem dX9_hasWord_39 : decode cX9_hasWord 39 = .ok (.istore 6, 2) := by decide +kernel
theorem dX9_hasWord_41 : decode cX9_hasWord 41 = .ok (.aload_n 0, 1) := by decide +kernel
theorem dX9_hasWord_42 : decode cX9_hasWord 42 = .ok (.getfield 23, 3) := by decide +kernel
theorem dX9_hasWord_45 : decode cX9_hasWord 45 = .ok (.iload 5, 2) := by decide +kernel
theorem dX9_hasWord_47 : decode cX9_hasWord 47 = .ok (.iaload, 1) := by decide +kernel
theorem dX9_hasWord_48 : decode cX9_hasWord 48 = .ok (.iload 6, 2) := by decide +kernel
theorem dX9_hasWord_50 : decode cX9_hasWord 50 = .ok (.bipush 65, 2) := by decide +kernel
theorem dX9_hasWord_52 : decode cX9_hasWord 52 = .ok (.bipush 90, 2) := by decide +kernel
theorem dX9_hasWord_54 : decode cX9_hasWord 54 = .ok (.invokestatic 141, 3) := by decide +kernel
theorem dX9_hasWord_57 : decode cX9_hasWord 57 = .ok (.ifCond .eq 11, 3) := by decide +kernel
theorem dX9_hasWord_60 : decode cX9_hasWord 60 = .ok (.iload 6, 2) := by decide +kernel
theorem dX9_hasWord_62 : decode cX9_hasWord 62 = .ok (.bipush 32, 2) := by decide +kernel
theorem dX9_hasWord_64 : decode cX9_hasWord 64 = .ok (.iadd, 1) := by decide +kernel
theorem dX9_hasWord_65 : decode cX9_hasWord 65 = .ok (.goto 5, 3) := by decide +kernel
theorem dX9_hasWord_68 : decode cX9_hasWord 68 = .ok (.iload 6, 2) := by decide +kernel
theorem dX9_hasWord_70 : decode cX9_hasWord 70 = .ok (.if_icmp .ne 7, 3) := by decide +kernel
theorem dX9_hasWord_73 : decode cX9_hasWord 73 = .ok (.iconst 1, 1) := by decide +kernel
theorem dX9_hasWord_74 : decode cX9_hasWord 74 = .ok (.goto 4, 3) := by decide +kernel
theorem dX9_hasWord_77 : decode cX9_hasWord 77 = .ok (.iconst 0, 1) := by decide +kernel
theorem dX9_hasWord_78 : decode cX9_hasWord 78 = .ok (.istore 4, 2) := by decide +kernel
theorem dX9_hasWord_80 : decode cX9_hasWord 80 = .ok (.iinc 5 1, 3) := by decide +kernel
theorem dX9_hasWord_83 : decode cX9_hasWord 83 = .ok (.goto (-64), 3) := by decide +kernel
theorem dX9_hasWord_86 : decode cX9_hasWord 86 = .ok (.iload 4, 2) := by decide +kernel
theorem dX9_hasWord_88 : decode cX9_hasWord 88 = .ok (.ifCond .eq 5, 3) := by decide +kernel
theorem dX9_hasWord_91 : decode cX9_hasWord 91 = .ok (.iconst 1, 1) := by decide +kernel
theorem dX9_hasWord_92 : decode cX9_hasWord 92 = .ok (.ireturn, 1) := by decide +kernel
theorem dX9_hasWord_93 : decode cX9_hasWord 93 = .ok (.iinc 3 1, 3) := by decide +kernel
theorem dX9_hasWord_96 : decode cX9_hasWord 96 = .ok (.goto (-94), 3) := by decide +kernel
theorem dX9_hasWord_99 : decode cX9_hasWord 99 = .ok (.iconst 0, 1) := by decide +kernel
theorem dX9_hasWord_100 : decode cX9_hasWord 100 = .ok (.ireturn, 1) := by decide +kernel
theorem dX9_here_0 : decode cX9_here 0 = .ok (.aload_n 0, 1) := by decide +kernel
theorem dX9_here_1 : decode cX9_here 1 = .ok (.getfield 340, 3) := by decide +kernel
theorem dX9_here_4 : decode cX9_here 4 = .ok (.aload_n 0, 1) := by decide +kernel
theorem dX9_here_5 : decode cX9_here 5 = .ok (.getfield 343, 3) := by decide +kernel
theorem dX9_here_8 : decode cX9_here 8 = .ok (.if_icmp .ge 30, 3) := by decide +kernel
theorem dX9_here_11 : decode cX9_here 11 = .ok (.aload_n 0, 1) := by decide +kernel
theorem dX9_here_12 : decode cX9_here 12 = .ok (.getfield 23, 3) := by decide +kernel
theorem dX9_here_15 : decode cX9_here 15 = .ok (.aload_n 0, 1) := by decide +kernel
theorem dX9_here_16 : decode cX9_here 16 = .ok (.getfield 340, 3) := by decide +kernel
theorem dX9_here_19 : decode cX9_here 19 = .ok (.iaload, 1) := by decide +kernel
theorem dX9_here_20 : decode cX9_here 20 = .ok (.bipush 32, 2) := by decide +kernel
theorem dX9_here_22 : decode cX9_here 22 = .ok (.if_icmp .ne 16, 3) := by decide +kernel
theorem dX9_here_25 : decode cX9_here 25 = .ok (.aload_n 0, 1) := by decide +kernel
theorem dX9_here_26 : decode cX9_here 26 = .ok (.dup, 1) := by decide +kernel
theorem dX9_here_27 : decode cX9_here 27 = .ok (.getfield 340, 3) := by decide +kernel
theorem dX9_here_30 : decode cX9_here 30 = .ok (.iconst 1, 1) := by decide +kernel
theorem dX9_here_31 : decode cX9_here 31 = .ok (.iadd, 1) := by decide +kernel
theorem dX9_here_32 : decode cX9_here 32 = .ok (.putfield 340, 3) := by decide +kernel
theorem dX9_here_35 : decode cX9_here 35 = .ok (.goto (-35), 3) := by decide +kernel
theorem dX9_here_38 : decode cX9_here 38 = .ok (.aload_n 0, 1) := by decide +kernel
theorem dX9_here_39 : decode cX9_here 39 = .ok (.getfield 340, 3) := by decide +kernel
theorem dX9_here_42 : decode cX9_here 42 = .ok (.ireturn, 1) := by decide +kernel
theorem dX9_holder_0 : decode cX9_holder 0 = .ok (.aload_n 0, 1) := by decide +kernel
theorem dX9_holder_1 : decode cX9_holder 1 = .ok (.iconst 0, 1) := by decide +kernel
theorem dX9_holder_2 : decode cX9_holder 2 = .ok (.putfield 138, 3) := by decide +kernel
theorem dX9_holder_5 : decode cX9_holder 5 = .ok (.iconst 0, 1) := by decide +kernel
theorem dX9_holder_6 : decode cX9_holder 6 = .ok (.istore_n 2, 1) := by decide +kernel
theorem dX9_holder_7 : decode cX9_holder 7 = .ok (.iload_n 2, 1) := by decide +kernel
theorem dX9_holder_8 : decode cX9_holder 8 = .ok (.aload_n 0, 1) := by decide +kernel
theorem dX9_holder_9 : decode cX9_holder 9 = .ok (.getfield 204, 3) := by decide +kernel
theorem dX9_holder_12 : decode cX9_holder 12 = .ok (.if_icmp .ge 32, 3) := by decide +kernel
theorem dX9_holder_15 : decode cX9_holder 15 = .ok (.iload_n 1, 1) := by decide +kernel
theorem dX9_holder_16 : decode cX9_holder 16 = .ok (.aload_n 0, 1) := by decide +kernel
theorem dX9_holder_17 : decode cX9_holder 17 = .ok (.getfield 81, 3) := by decide +kernel
theorem dX9_holder_20 : decode cX9_holder 20 = .ok (.iload_n 2, 1) := by decide +kernel
theorem dX9_holder_21 : decode cX9_holder 21 = .ok (.iaload, 1) := by decide +kernel
theorem dX9_holder_22 : decode cX9_holder 22 = .ok (.aload_n 0, 1) := by decide +kernel
theorem dX9_holder_23 : decode cX9_holder 23 = .ok (.getfield 84, 3) := by decide +kernel
theorem dX9_holder_26 : decode cX9_holder 26 = .ok (.iload_n 2, 1) := by decide +kernel
theorem dX9_holder_27 : decode cX9_holder 27 = .ok (.iaload, 1) := by decide +kernel
theorem dX9_holder_28 : decode cX9_holder 28 = .ok (.iconst 1, 1) := by decide +kernel
theorem dX9_holder_29 : decode cX9_holder 29 = .ok (.isub, 1) := by decide +kernel
theorem dX9_holder_30 : decode cX9_holder 30 = .ok (.invokestatic 141, 3) := by decide +kernel
theorem dX9_holder_33 : decode cX9_holder 33 = .ok (.ifCond .eq 5, 3) := by decide +kernel
theorem dX9_holder_36 : decode cX9_holder 36 = .ok (.iload_n 2, 1) := by decide +kernel
theorem dX9_holder_37 : decode cX9_holder 37 = .ok (.ireturn, 1) := by decide +kernel
theorem dX9_holder_38 : decode cX9_holder 38 = .ok (.iinc 2 1, 3) := by decide +kernel
theorem dX9_holder_41 : decode cX9_holder 41 = .ok (.goto (-34), 3) := by decide +kernel
theorem dX9_holder_44 : decode cX9_holder 44 = .ok (.iconst (-1), 1) := by decide +kernel
theorem dX9_holder_45 : decode cX9_holder 45 = .ok (.ireturn, 1) := by decide +kernel
theorem dX9_holdsTold_0 : decode cX9_holdsTold 0 = .ok (.iconst 0, 1) := by decide +kernel
theorem dX9_holdsTold_1 : decode cX9_holdsTold 1 = .ok (.istore_n 2, 1) := by decide +kernel
theorem dX9_holdsTold_2 : decode cX9_holdsTold 2 = .ok (.iload_n 2, 1) := by decide +kernel
theorem dX9_holdsTold_3 : decode cX9_holdsTold 3 = .ok (.aload_n 0, 1) := by decide +kernel
theorem dX9_holdsTold_4 : decode cX9_holdsTold 4 = .ok (.iload_n 1, 1) := by decide +kernel
theorem dX9_holdsTold_5 : decode cX9_holdsTold 5 = .ok (.invokevirtual 247, 3) := by decide +kernel
theorem dX9_holdsTold_8 : decode cX9_holdsTold 8 = .ok (.if_icmp .ge 21, 3) := by decide +kernel
theorem dX9_holdsTold_11 : decode cX9_holdsTold 11 = .ok (.aload_n 0, 1) := by decide +kernel
theorem dX9_holdsTold_12 : decode cX9_holdsTold 12 = .ok (.getfield 132, 3) := by decide +kernel
theorem dX9_holdsTold_15 : decode cX9_holdsTold 15 = .ok (.iload_n 2, 1) := by decide +kernel
theorem dX9_holdsTold_16 : decode cX9_holdsTold 16 = .ok (.aload_n 0, 1) := by decide +kernel
theorem dX9_holdsTold_17 : decode cX9_holdsTold 17 = .ok (.iload_n 1, 1) := by decide +kernel
theorem dX9_holdsTold_18 : decode cX9_holdsTold 18 = .ok (.iload_n 2, 1) := by decide +kernel
theorem dX9_holdsTold_19 : decode cX9_holdsTold 19 = .ok (.invokevirtual 251, 3) := by decide +kernel
theorem dX9_holdsTold_22 : decode cX9_holdsTold 22 = .ok (.iastore, 1) := by decide +kernel
theorem dX9_holdsTold_23 : decode cX9_holdsTold 23 = .ok (.iinc 2 1, 3) := by decide +kernel
theorem dX9_holdsTold_26 : decode cX9_holdsTold 26 = .ok (.goto (-24), 3) := by decide +kernel
theorem dX9_holdsTold_29 : decode cX9_holdsTold 29 = .ok (.return_, 1) := by decide +kernel
theorem dX9_image_0 : decode cX9_image 0 = .ok (.aload_n 0, 1) := by decide +kernel
theorem dX9_image_1 : decode cX9_image 1 = .ok (.iconst 0, 1) := by decide +kernel
theorem dX9_image_2 : decode cX9_image 2 = .ok (.putfield 138, 3) := by decide +kernel
theorem dX9_image_5 : decode cX9_image 5 = .ok (.iconst 0, 1) := by decide +kernel
theorem dX9_image_6 : decode cX9_image 6 = .ok (.istore_n 1, 1) := by decide +kernel
theorem dX9_image_7 : decode cX9_image 7 = .ok (.iload_n 1, 1) := by decide +kernel
theorem dX9_image_8 : decode cX9_image 8 = .ok (.sipush 4347, 3) := by decide +kernel
theorem dX9_image_11 : decode cX9_image 11 = .ok (.if_icmp .ge 21, 3) := by decide +kernel
theorem dX9_image_14 : decode cX9_image 14 = .ok (.aload_n 0, 1) := by decide +kernel
theorem dX9_image_15 : decode cX9_image 15 = .ok (.getfield 16, 3) := by decide +kernel
theorem dX9_image_18 : decode cX9_image 18 = .ok (.iload_n 1, 1) := by decide +kernel
theorem dX9_image_19 : decode cX9_image 19 = .ok (.aload_n 0, 1) := by decide +kernel
theorem dX9_image_20 : decode cX9_image 20 = .ok (.getfield 7, 3) := by decide +kernel
theorem dX9_image_23 : decode cX9_image 23 = .ok (.iload_n 1, 1) := by decide +kernel
theorem dX9_image_24 : decode cX9_image 24 = .ok (.iaload, 1) := by decide +kernel
theorem dX9_image_25 : decode cX9_image 25 = .ok (.iastore, 1) := by decide +kernel
theorem dX9_image_26 : decode cX9_image 26 = .ok (.iinc 1 1, 3) := by decide +kernel
theorem dX9_image_29 : decode cX9_image 29 = .ok (.goto (-22), 3) := by decide +kernel
theorem dX9_image_32 : decode cX9_image 32 = .ok (.aload_n 0, 1) := by decide +kernel
theorem dX9_image_33 : decode cX9_image 33 = .ok (.iconst 1, 1) := by decide +kernel
theorem dX9_image_34 : decode cX9_image 34 = .ok (.putfield 468, 3) := by decide +kernel
theorem dX9_image_37 : decode cX9_image 37 = .ok (.return_, 1) := by decide +kernel
theorem dX9_isBare_0 : decode cX9_isBare 0 = .ok (.iload_n 0, 1) := by decide +kernel
theorem dX9_isBare_1 : decode cX9_isBare 1 = .ok (.bipush 32, 2) := by decide +kernel
theorem dX9_isBare_3 : decode cX9_isBare 3 = .ok (.if_icmp .eq 9, 3) := by decide +kernel
theorem dX9_isBare_6 : decode cX9_isBare 6 = .ok (.iload_n 0, 1) := by decide +kernel
theorem dX9_isBare_7 : decode cX9_isBare 7 = .ok (.bipush 10, 2) := by decide +kernel
theorem dX9_isBare_9 : decode cX9_isBare 9 = .ok (.if_icmp .ne 7, 3) := by decide +kernel
theorem dX9_isBare_12 : decode cX9_isBare 12 = .ok (.iconst 1, 1) := by decide +kernel
theorem dX9_isBare_13 : decode cX9_isBare 13 = .ok (.goto 4, 3) := by decide +kernel
theorem dX9_isBare_16 : decode cX9_isBare 16 = .ok (.iconst 0, 1) := by decide +kernel
theorem dX9_isBare_17 : decode cX9_isBare 17 = .ok (.ireturn, 1) := by decide +kernel
theorem dX9_isDone_0 : decode cX9_isDone 0 = .ok (.aload_n 0, 1) := by decide +kernel
theorem dX9_isDone_1 : decode cX9_isDone 1 = .ok (.iload_n 1, 1) := by decide +kernel
theorem dX9_isDone_2 : decode cX9_isDone 2 = .ok (.putfield 328, 3) := by decide +kernel
theorem dX9_isDone_5 : decode cX9_isDone 5 = .ok (.aload_n 0, 1) := by decide +kernel
theorem dX9_isDone_6 : decode cX9_isDone 6 = .ok (.iload_n 1, 1) := by decide +kernel
theorem dX9_isDone_7 : decode cX9_isDone 7 = .ok (.ifCond .le 7, 3) := by decide +kernel
theorem dX9_isDone_10 : decode cX9_isDone 10 = .ok (.iload_n 2, 1) := by decide +kernel
theorem dX9_isDone_11 : decode cX9_isDone 11 = .ok (.goto 4, 3) := by decide +kernel
theorem dX9_isDone_14 : decode cX9_isDone 14 = .ok (.iconst 0, 1) := by decide +kernel
theorem dX9_isDone_15 : decode cX9_isDone 15 = .ok (.putfield 138, 3) := by decide +kernel
theorem dX9_isDone_18 : decode cX9_isDone 18 = .ok (.iload_n 1, 1) := by decide +kernel
theorem dX9_isDone_19 : decode cX9_isDone 19 = .ok (.ifCond .ne 10, 3) := by decide +kernel
theorem dX9_isDone_22 : decode cX9_isDone 22 = .ok (.aload_n 0, 1) := by decide +kernel
theorem dX9_isDone_23 : decode cX9_isDone 23 = .ok (.invokevirtual 331, 3) := by decide +kernel
theorem dX9_isDone_26 : decode cX9_isDone 26 = .ok (.goto 7, 3) := by decide +kernel
theorem dX9_isDone_29 : decode cX9_isDone 29 = .ok (.aload_n 0, 1) := by decide +kernel
theorem dX9_isDone_30 : decode cX9_isDone 30 = .ok (.invokevirtual 334, 3) := by decide +kernel
theorem dX9_isDone_33 : decode cX9_isDone 33 = .ok (.iload_n 1, 1) := by decide +kernel
theorem dX9_isDone_34 : decode cX9_isDone 34 = .ok (.ifCond .ne 7, 3) := by decide +kernel
theorem dX9_isDone_37 : decode cX9_isDone 37 = .ok (.iconst 1, 1) := by decide +kernel
theorem dX9_isDone_38 : decode cX9_isDone 38 = .ok (.goto 4, 3) := by decide +kernel
theorem dX9_isDone_41 : decode cX9_isDone 41 = .ok (.iconst 0, 1) := by decide +kernel
theorem dX9_isDone_42 : decode cX9_isDone 42 = .ok (.ireturn, 1) := by decide +kernel
theorem dX9_isIn_0 : decode cX9_isIn 0 = .ok (.iload_n 0, 1) := by decide +kernel
theorem dX9_isIn_1 : decode cX9_isIn 1 = .ok (.iload_n 1, 1) := by decide +kernel
theorem dX9_isIn_2 : decode cX9_isIn 2 = .ok (.if_icmp .lt 12, 3) := by decide +kernel
theorem dX9_isIn_5 : decode cX9_isIn 5 = .ok (.iload_n 0, 1) := by decide +kernel
theorem dX9_isIn_6 : decode cX9_isIn 6 = .ok (.iload_n 2, 1) := by decide +kernel
theorem dX9_isIn_7 : decode cX9_isIn 7 = .ok (.if_icmp .gt 7, 3) := by decide +kernel
theorem dX9_isIn_10 : decode cX9_isIn 10 = .ok (.iconst 1, 1) := by decide +kernel
theorem dX9_isIn_11 : decode cX9_isIn 11 = .ok (.goto 4, 3) := by decide +kernel
theorem dX9_isIn_14 : decode cX9_isIn 14 = .ok (.iconst 0, 1) := by decide +kernel
theorem dX9_isIn_15 : decode cX9_isIn 15 = .ok (.ireturn, 1) := by decide +kernel
theorem dX9_isLetter_0 : decode cX9_isLetter 0 = .ok (.iload_n 0, 1) := by decide +kernel
theorem dX9_isLetter_1 : decode cX9_isLetter 1 = .ok (.bipush 97, 2) := by decide +kernel
theorem dX9_isLetter_3 : decode cX9_isLetter 3 = .ok (.bipush 122, 2) := by decide +kernel
theorem dX9_isLetter_5 : decode cX9_isLetter 5 = .ok (.invokestatic 141, 3) := by decide +kernel
theorem dX9_isLetter_8 : decode cX9_isLetter 8 = .ok (.ifCond .ne 14, 3) := by decide +kernel
theorem dX9_isLetter_11 : decode cX9_isLetter 11 = .ok (.iload_n 0, 1) := by decide +kernel
theorem dX9_isLetter_12 : decode cX9_isLetter 12 = .ok (.bipush 65, 2) := by decide +kernel
theorem dX9_isLetter_14 : decode cX9_isLetter 14 = .ok (.bipush 90, 2) := by decide +kernel
theorem dX9_isLetter_16 : decode cX9_isLetter 16 = .ok (.invokestatic 141, 3) := by decide +kernel
theorem dX9_isLetter_19 : decode cX9_isLetter 19 = .ok (.ifCond .eq 7, 3) := by decide +kernel
theorem dX9_isLetter_22 : decode cX9_isLetter 22 = .ok (.iconst 1, 1) := by decide +kernel
theorem dX9_isLetter_23 : decode cX9_isLetter 23 = .ok (.goto 4, 3) := by decide +kernel
theorem dX9_isLetter_26 : decode cX9_isLetter 26 = .ok (.iconst 0, 1) := by decide +kernel
theorem dX9_isLetter_27 : decode cX9_isLetter 27 = .ok (.ireturn, 1) := by decide +kernel
theorem dX9_isLocked_0 : decode cX9_isLocked 0 = .ok (.aload_n 0, 1) := by decide +kernel
theorem dX9_isLocked_1 : decode cX9_isLocked 1 = .ok (.getfield 7, 3) := by decide +kernel
theorem dX9_isLocked_4 : decode cX9_isLocked 4 = .ok (.iconst 1, 1) := by decide +kernel
theorem dX9_isLocked_5 : decode cX9_isLocked 5 = .ok (.iaload, 1) := by decide +kernel
theorem dX9_isLocked_6 : decode cX9_isLocked 6 = .ok (.ifCond .eq 5, 3) := by decide +kernel
theorem dX9_isLocked_9 : decode cX9_isLocked 9 = .ok (.iconst 0, 1) := by decide +kernel
theorem dX9_isLocked_10 : decode cX9_isLocked 10 = .ok (.ireturn, 1) := by decide +kernel
theorem dX9_isLocked_11 : decode cX9_isLocked 11 = .ok (.iconst 0, 1) := by decide +kernel
theorem dX9_isLocked_12 : decode cX9_isLocked 12 = .ok (.istore_n 2, 1) := by decide +kernel
theorem dX9_isLocked_13 : decode cX9_isLocked 13 = .ok (.iload_n 2, 1) := by decide +kernel
theorem dX9_isLocked_14 : decode cX9_isLocked 14 = .ok (.aload_n 0, 1) := by decide +kernel
theorem dX9_isLocked_15 : decode cX9_isLocked 15 = .ok (.getfield 7, 3) := by decide +kernel
theorem dX9_isLocked_18 : decode cX9_isLocked 18 = .ok (.iconst 5, 1) := by decide +kernel
theorem dX9_isLocked_19 : decode cX9_isLocked 19 = .ok (.iaload, 1) := by decide +kernel
theorem dX9_isLocked_20 : decode cX9_isLocked 20 = .ok (.if_icmp .ge 107, 3) := by decide +kernel
theorem dX9_isLocked_23 : decode cX9_isLocked 23 = .ok (.aload_n 0, 1) := by decide +kernel
theorem dX9_isLocked_24 : decode cX9_isLocked 24 = .ok (.getfield 7, 3) := by decide +kernel
theorem dX9_isLocked_27 : decode cX9_isLocked 27 = .ok (.bipush 6, 2) := by decide +kernel
theorem dX9_isLocked_29 : decode cX9_isLocked 29 = .ok (.bipush 9, 2) := by decide +kernel
theorem dX9_isLocked_31 : decode cX9_isLocked 31 = .ok (.iload_n 2, 1) := by decide +kernel
theorem dX9_isLocked_32 : decode cX9_isLocked 32 = .ok (.imul, 1) := by decide +kernel
theorem dX9_isLocked_33 : decode cX9_isLocked 33 = .ok (.iadd, 1) := by decide +kernel
theorem dX9_isLocked_34 : decode cX9_isLocked 34 = .ok (.iaload, 1) := by decide +kernel
theorem dX9_isLocked_35 : decode cX9_isLocked 35 = .ok (.istore_n 3, 1) := by decide +kernel
theorem dX9_isLocked_36 : decode cX9_isLocked 36 = .ok (.iload_n 3, 1) := by decide +kernel
theorem dX9_isLocked_37 : decode cX9_isLocked 37 = .ok (.aload_n 0, 1) := by decide +kernel
theorem dX9_isLocked_38 : decode cX9_isLocked 38 = .ok (.getfield 51, 3) := by decide +kernel
theorem dX9_isLocked_41 : decode cX9_isLocked 41 = .ok (.iload_n 1, 1) := by decide +kernel
theorem dX9_isLocked_42 : decode cX9_isLocked 42 = .ok (.iaload, 1) := by decide +kernel
theorem dX9_isLocked_43 : decode cX9_isLocked 43 = .ok (.if_icmp .gt 7, 3) := by decide +kernel
theorem dX9_isLocked_46 : decode cX9_isLocked 46 = .ok (.iconst 1, 1) := by decide +kernel
theorem dX9_isLocked_47 : decode cX9_isLocked 47 = .ok (.goto 4, 3) := by decide +kernel
theorem dX9_isLocked_50 : decode cX9_isLocked 50 = .ok (.iconst 0, 1) := by decide +kernel
theorem dX9_isLocked_51 : decode cX9_isLocked 51 = .ok (.istore 4, 2) := by decide +kernel
theorem dX9_isLocked_53 : decode cX9_isLocked 53 = .ok (.iconst 0, 1) := by decide +kernel
theorem dX9_isLocked_54 : decode cX9_isLocked 54 = .ok (.istore 5, 2) := by decide +kernel
theorem dX9_isLocked_56 : decode cX9_isLocked 56 = .ok (.iload 5, 2) := by decide +kernel
theorem dX9_isLocked_58 : decode cX9_isLocked 58 = .ok (.iload_n 3, 1) := by decide +kernel
theorem dX9_isLocked_59 : decode cX9_isLocked 59 = .ok (.if_icmp .ge 55, 3) := by decide +kernel
theorem dX9_isLocked_62 : decode cX9_isLocked 62 = .ok (.iload 4, 2) := by decide +kernel
theorem dX9_isLocked_64 : decode cX9_isLocked 64 = .ok (.ifCond .eq 50, 3) := by decide +kernel
theorem dX9_isLocked_67 : decode cX9_isLocked 67 = .ok (.aload_n 0, 1) := by decide +kernel
theorem dX9_isLocked_68 : decode cX9_isLocked 68 = .ok (.getfield 30, 3) := by decide +kernel
theorem dX9_isLocked_71 : decode cX9_isLocked 71 = .ok (.aload_n 0, 1) := by decide +kernel
theorem dX9_isLocked_72 : decode cX9_isLocked 72 = .ok (.getfield 48, 3) := by decide +kernel
theorem dX9_isLocked_75 : decode cX9_isLocked 75 = .ok (.iload_n 1, 1) := by decide +kernel
theorem dX9_isLocked_76 : decode cX9_isLocked 76 = .ok (.iaload, 1) := by decide +kernel
theorem dX9_isLocked_77 : decode cX9_isLocked 77 = .ok (.iload 5, 2) := by decide +kernel
theorem dX9_isLocked_79 : decode cX9_isLocked 79 = .ok (.iadd, 1) := by decide +kernel
theorem dX9_isLocked_80 : decode cX9_isLocked 80 = .ok (.iaload, 1) := by decide +kernel
theorem dX9_isLocked_81 : decode cX9_isLocked 81 = .ok (.aload_n 0, 1) := by decide +kernel
theorem dX9_isLocked_82 : decode cX9_isLocked 82 = .ok (.getfield 7, 3) := by decide +kernel
theorem dX9_isLocked_85 : decode cX9_isLocked 85 = .ok (.bipush 6, 2) := by decide +kernel
theorem dX9_isLocked_87 : decode cX9_isLocked 87 = .ok (.bipush 9, 2) := by decide +kernel
theorem dX9_isLocked_89 : decode cX9_isLocked 89 = .ok (.iload_n 2, 1) := by decide +kernel
theorem dX9_isLocked_90 : decode cX9_isLocked 90 = .ok (.imul, 1) := by decide +kernel
theorem dX9_isLocked_91 : decode cX9_isLocked 91 = .ok (.iadd, 1) := by decide +kernel
theorem dX9_isLocked_92 : decode cX9_isLocked 92 = .ok (.iconst 1, 1) := by decide +kernel
theorem dX9_isLocked_93 : decode cX9_isLocked 93 = .ok (.iadd, 1) := by decide +kernel
theorem dX9_isLocked_94 : decode cX9_isLocked 94 = .ok (.iload 5, 2) := by decide +kernel
theorem dX9_isLocked_96 : decode cX9_isLocked 96 = .ok (.iadd, 1) := by decide +kernel
theorem dX9_isLocked_97 : decode cX9_isLocked 97 = .ok (.iaload, 1) := by decide +kernel
theorem dX9_isLocked_98 : decode cX9_isLocked 98 = .ok (.if_icmp .ne 7, 3) := by decide +kernel
theorem dX9_isLocked_101 : decode cX9_isLocked 101 = .ok (.iconst 1, 1) := by decide +kernel
theorem dX9_isLocked_102 : decode cX9_isLocked 102 = .ok (.goto 4, 3) := by decide +kernel
theorem dX9_isLocked_105 : decode cX9_isLocked 105 = .ok (.iconst 0, 1) := by decide +kernel
theorem dX9_isLocked_106 : decode cX9_isLocked 106 = .ok (.istore 4, 2) := by decide +kernel
theorem dX9_isLocked_108 : decode cX9_isLocked 108 = .ok (.iinc 5 1, 3) := by decide +kernel
theorem dX9_isLocked_111 : decode cX9_isLocked 111 = .ok (.goto (-55), 3) := by decide +kernel
theorem dX9_isLocked_114 : decode cX9_isLocked 114 = .ok (.iload 4, 2) := by decide +kernel
theorem dX9_isLocked_116 : decode cX9_isLocked 116 = .ok (.ifCond .eq 5, 3) := by decide +kernel
theorem dX9_isLocked_119 : decode cX9_isLocked 119 = .ok (.iconst 1, 1) := by decide +kernel
theorem dX9_isLocked_120 : decode cX9_isLocked 120 = .ok (.ireturn, 1) := by decide +kernel
theorem dX9_isLocked_121 : decode cX9_isLocked 121 = .ok (.iinc 2 1, 3) := by decide +kernel
theorem dX9_isLocked_124 : decode cX9_isLocked 124 = .ok (.goto (-111), 3) := by decide +kernel
theorem dX9_isLocked_127 : decode cX9_isLocked 127 = .ok (.iconst 0, 1) := by decide +kernel
theorem dX9_isLocked_128 : decode cX9_isLocked 128 = .ok (.ireturn, 1) := by decide +kernel
theorem dX9_isNow_0 : decode cX9_isNow 0 = .ok (.aload_n 0, 1) := by decide +kernel
theorem dX9_isNow_1 : decode cX9_isNow 1 = .ok (.getfield 105, 3) := by decide +kernel
theorem dX9_isNow_4 : decode cX9_isNow 4 = .ok (.iload_n 1, 1) := by decide +kernel
theorem dX9_isNow_5 : decode cX9_isNow 5 = .ok (.iaload, 1) := by decide +kernel
theorem dX9_isNow_6 : decode cX9_isNow 6 = .ok (.aload_n 0, 1) := by decide +kernel
theorem dX9_isNow_7 : decode cX9_isNow 7 = .ok (.getfield 126, 3) := by decide +kernel
theorem dX9_isNow_10 : decode cX9_isNow 10 = .ok (.iload_n 2, 1) := by decide +kernel
theorem dX9_isNow_11 : decode cX9_isNow 11 = .ok (.iconst 1, 1) := by decide +kernel
theorem dX9_isNow_12 : decode cX9_isNow 12 = .ok (.iadd, 1) := by decide +kernel
theorem dX9_isNow_13 : decode cX9_isNow 13 = .ok (.iaload, 1) := by decide +kernel
theorem dX9_isNow_14 : decode cX9_isNow 14 = .ok (.aload_n 0, 1) := by decide +kernel
theorem dX9_isNow_15 : decode cX9_isNow 15 = .ok (.getfield 126, 3) := by decide +kernel
theorem dX9_isNow_18 : decode cX9_isNow 18 = .ok (.iload_n 2, 1) := by decide +kernel
theorem dX9_isNow_19 : decode cX9_isNow 19 = .ok (.iaload, 1) := by decide +kernel
theorem dX9_isNow_20 : decode cX9_isNow 20 = .ok (.isub, 1) := by decide +kernel
theorem dX9_isNow_21 : decode cX9_isNow 21 = .ok (.if_icmp .ne 7, 3) := by decide +kernel
theorem dX9_isNow_24 : decode cX9_isNow 24 = .ok (.iconst 1, 1) := by decide +kernel
theorem dX9_isNow_25 : decode cX9_isNow 25 = .ok (.goto 4, 3) := by decide +kernel
theorem dX9_isNow_28 : decode cX9_isNow 28 = .ok (.iconst 0, 1) := by decide +kernel
theorem dX9_isNow_29 : decode cX9_isNow 29 = .ok (.istore_n 3, 1) := by decide +kernel
theorem dX9_isNow_30 : decode cX9_isNow 30 = .ok (.iconst 0, 1) := by decide +kernel
theorem dX9_isNow_31 : decode cX9_isNow 31 = .ok (.istore 4, 2) := by decide +kernel
theorem dX9_isNow_33 : decode cX9_isNow 33 = .ok (.iload 4, 2) := by decide +kernel
theorem dX9_isNow_35 : decode cX9_isNow 35 = .ok (.aload_n 0, 1) := by decide +kernel
theorem dX9_isNow_36 : decode cX9_isNow 36 = .ok (.getfield 105, 3) := by decide +kernel
theorem dX9_isNow_39 : decode cX9_isNow 39 = .ok (.iload_n 1, 1) := by decide +kernel
theorem dX9_isNow_40 : decode cX9_isNow 40 = .ok (.iaload, 1) := by decide +kernel
theorem dX9_isNow_41 : decode cX9_isNow 41 = .ok (.if_icmp .ge 50, 3) := by decide +kernel
theorem dX9_isNow_44 : decode cX9_isNow 44 = .ok (.iload_n 3, 1) := by decide +kernel
theorem dX9_isNow_45 : decode cX9_isNow 45 = .ok (.ifCond .eq 46, 3) := by decide +kernel
theorem dX9_isNow_48 : decode cX9_isNow 48 = .ok (.aload_n 0, 1) := by decide +kernel
theorem dX9_isNow_49 : decode cX9_isNow 49 = .ok (.getfield 108, 3) := by decide +kernel
theorem dX9_isNow_52 : decode cX9_isNow 52 = .ok (.aload_n 0, 1) := by decide +kernel
theorem dX9_isNow_53 : decode cX9_isNow 53 = .ok (.getfield 102, 3) := by decide +kernel
theorem dX9_isNow_56 : decode cX9_isNow 56 = .ok (.iload_n 1, 1) := by decide +kernel
theorem dX9_isNow_57 : decode cX9_isNow 57 = .ok (.iaload, 1) := by decide +kernel
theorem dX9_isNow_58 : decode cX9_isNow 58 = .ok (.iload 4, 2) := by decide +kernel
theorem dX9_isNow_60 : decode cX9_isNow 60 = .ok (.iadd, 1) := by decide +kernel
theorem dX9_isNow_61 : decode cX9_isNow 61 = .ok (.iaload, 1) := by decide +kernel
theorem dX9_isNow_62 : decode cX9_isNow 62 = .ok (.aload_n 0, 1) := by decide +kernel
theorem dX9_isNow_63 : decode cX9_isNow 63 = .ok (.getfield 123, 3) := by decide +kernel
theorem dX9_isNow_66 : decode cX9_isNow 66 = .ok (.aload_n 0, 1) := by decide +kernel
theorem dX9_isNow_67 : decode cX9_isNow 67 = .ok (.getfield 126, 3) := by decide +kernel
theorem dX9_isNow_70 : decode cX9_isNow 70 = .ok (.iload_n 2, 1) := by decide +kernel
theorem dX9_isNow_71 : decode cX9_isNow 71 = .ok (.iaload, 1) := by decide +kernel
theorem dX9_isNow_72 : decode cX9_isNow 72 = .ok (.iload 4, 2) := by decide +kernel
theorem dX9_isNow_74 : decode cX9_isNow 74 = .ok (.iadd, 1) := by decide +kernel
theorem dX9_isNow_75 : decode cX9_isNow 75 = .ok (.iaload, 1) := by decide +kernel
theorem dX9_isNow_76 : decode cX9_isNow 76 = .ok (.if_icmp .ne 7, 3) := by decide +kernel
theorem dX9_isNow_79 : decode cX9_isNow 79 = .ok (.iconst 1, 1) := by decide +kernel
theorem dX9_isNow_80 : decode cX9_isNow 80 = .ok (.goto 4, 3) := by decide +kernel
theorem dX9_isNow_83 : decode cX9_isNow 83 = .ok (.iconst 0, 1) := by decide +kernel
theorem dX9_isNow_84 : decode cX9_isNow 84 = .ok (.istore_n 3, 1) := by decide +kernel
theorem dX9_isNow_85 : decode cX9_isNow 85 = .ok (.iinc 4 1, 3) := by decide +kernel
theorem dX9_isNow_88 : decode cX9_isNow 88 = .ok (.goto (-55), 3) := by decide +kernel
theorem dX9_isNow_91 : decode cX9_isNow 91 = .ok (.iload_n 3, 1) := by decide +kernel
theorem dX9_isNow_92 : decode cX9_isNow 92 = .ok (.ireturn, 1) := by decide +kernel
theorem dX9_isPiece_0 : decode cX9_isPiece 0 = .ok (.iload_n 2, 1) := by decide +kernel
theorem dX9_isPiece_1 : decode cX9_isPiece 1 = .ok (.aload_n 0, 1) := by decide +kernel
theorem dX9_isPiece_2 : decode cX9_isPiece 2 = .ok (.getfield 7, 3) := by decide +kernel
theorem dX9_isPiece_5 : decode cX9_isPiece 5 = .ok (.iconst 4, 1) := by decide +kernel
theorem dX9_isPiece_6 : decode cX9_isPiece 6 = .ok (.iaload, 1) := by decide +kernel
theorem dX9_isPiece_7 : decode cX9_isPiece 7 = .ok (.if_icmp .lt 12, 3) := by decide +kernel
theorem dX9_isPiece_10 : decode cX9_isPiece 10 = .ok (.aload_n 0, 1) := by decide +kernel
theorem dX9_isPiece_11 : decode cX9_isPiece 11 = .ok (.getfield 204, 3) := by decide +kernel
theorem dX9_isPiece_14 : decode cX9_isPiece 14 = .ok (.bipush 40, 2) := by decide +kernel
theorem dX9_isPiece_16 : decode cX9_isPiece 16 = .ok (.if_icmp .ne 5, 3) := by decide +kernel
theorem dX9_isPiece_19 : decode cX9_isPiece 19 = .ok (.iconst 0, 1) := by decide +kernel
theorem dX9_isPiece_20 : decode cX9_isPiece 20 = .ok (.ireturn, 1) := by decide +kernel
theorem dX9_isPiece_21 : decode cX9_isPiece 21 = .ok (.aload_n 0, 1) := by decide +kernel
theorem dX9_isPiece_22 : decode cX9_isPiece 22 = .ok (.getfield 7, 3) := by decide +kernel
theorem dX9_isPiece_25 : decode cX9_isPiece 25 = .ok (.iconst 3, 1) := by decide +kernel
theorem dX9_isPiece_26 : decode cX9_isPiece 26 = .ok (.iaload, 1) := by decide +kernel
theorem dX9_isPiece_27 : decode cX9_isPiece 27 = .ok (.ifCond .ne 5, 3) := by decide +kernel
theorem dX9_isPiece_30 : decode cX9_isPiece 30 = .ok (.iconst 1, 1) := by decide +kernel
theorem dX9_isPiece_31 : decode cX9_isPiece 31 = .ok (.ireturn, 1) := by decide +kernel
theorem dX9_isPiece_32 : decode cX9_isPiece 32 = .ok (.iconst 0, 1) := by decide +kernel
theorem dX9_isPiece_33 : decode cX9_isPiece 33 = .ok (.istore_n 3, 1) := by decide +kernel
theorem dX9_isPiece_34 : decode cX9_isPiece 34 = .ok (.iload_n 3, 1) := by decide +kernel
theorem dX9_isPiece_35 : decode cX9_isPiece 35 = .ok (.iload_n 2, 1) := by decide +kernel
theorem dX9_isPiece_36 : decode cX9_isPiece 36 = .ok (.if_icmp .ge 20, 3) := by decide +kernel
theorem dX9_isPiece_39 : decode cX9_isPiece 39 = .ok (.aload_n 1, 1) := by decide +kernel
theorem dX9_isPiece_40 : decode cX9_isPiece 40 = .ok (.iload_n 3, 1) := by decide +kernel
theorem dX9_isPiece_41 : decode cX9_isPiece 41 = .ok (.iaload, 1) := by decide +kernel
theorem dX9_isPiece_42 : decode cX9_isPiece 42 = .ok (.invokestatic 207, 3) := by decide +kernel
theorem dX9_isPiece_45 : decode cX9_isPiece 45 = .ok (.ifCond .eq 5, 3) := by decide +kernel
theorem dX9_isPiece_48 : decode cX9_isPiece 48 = .ok (.iconst 1, 1) := by decide +kernel
theorem dX9_isPiece_49 : decode cX9_isPiece 49 = .ok (.ireturn, 1) := by decide +kernel
theorem dX9_isPiece_50 : decode cX9_isPiece 50 = .ok (.iinc 3 1, 3) := by decide +kernel
theorem dX9_isPiece_53 : decode cX9_isPiece 53 = .ok (.goto (-19), 3) := by decide +kernel
theorem dX9_isPiece_56 : decode cX9_isPiece 56 = .ok (.iconst 0, 1) := by decide +kernel
theorem dX9_isPiece_57 : decode cX9_isPiece 57 = .ok (.ireturn, 1) := by decide +kernel
theorem dX9_isPieceThere_0 : decode cX9_isPieceThere 0 = .ok (.iload_n 1, 1) := by decide +kernel
theorem dX9_isPieceThere_1 : decode cX9_isPieceThere 1 = .ok (.iconst 0, 1) := by decide +kernel
theorem dX9_isPieceThere_2 : decode cX9_isPieceThere 2 = .ok (.aload_n 0, 1) := by decide +kernel
theorem dX9_isPieceThere_3 : decode cX9_isPieceThere 3 = .ok (.getfield 204, 3) := by decide +kernel
theorem dX9_isPieceThere_6 : decode cX9_isPieceThere 6 = .ok (.iconst 1, 1) := by decide +kernel
theorem dX9_isPieceThere_7 : decode cX9_isPieceThere 7 = .ok (.isub, 1) := by decide +kernel
theorem dX9_isPieceThere_8 : decode cX9_isPieceThere 8 = .ok (.invokestatic 141, 3) := by decide +kernel
theorem dX9_isPieceThere_11 : decode cX9_isPieceThere 11 = .ok (.ireturn, 1) := by decide +kernel
theorem dX9_isWord_0 : decode cX9_isWord 0 = .ok (.iload_n 1, 1) := by decide +kernel
theorem dX9_isWord_1 : decode cX9_isWord 1 = .ok (.iconst 1, 1) := by decide +kernel
theorem dX9_isWord_2 : decode cX9_isWord 2 = .ok (.bipush 8, 2) := by decide +kernel
theorem dX9_isWord_4 : decode cX9_isWord 4 = .ok (.invokestatic 141, 3) := by decide +kernel
theorem dX9_isWord_7 : decode cX9_isWord 7 = .ok (.istore_n 2, 1) := by decide +kernel
theorem dX9_isWord_8 : decode cX9_isWord 8 = .ok (.iconst 0, 1) := by decide +kernel
theorem dX9_isWord_9 : decode cX9_isWord 9 = .ok (.istore_n 3, 1) := by decide +kernel
theorem dX9_isWord_10 : decode cX9_isWord 10 = .ok (.iload_n 3, 1) := by decide +kernel
theorem dX9_isWord_11 : decode cX9_isWord 11 = .ok (.iload_n 1, 1) := by decide +kernel
theorem dX9_isWord_12 : decode cX9_isWord 12 = .ok (.if_icmp .ge 27, 3) := by decide +kernel
theorem dX9_isWord_15 : decode cX9_isWord 15 = .ok (.iload_n 2, 1) := by decide +kernel
theorem dX9_isWord_16 : decode cX9_isWord 16 = .ok (.ifCond .eq 23, 3) := by decide +kernel
theorem dX9_isWord_19 : decode cX9_isWord 19 = .ok (.aload_n 0, 1) := by decide +kernel
theorem dX9_isWord_20 : decode cX9_isWord 20 = .ok (.getfield 23, 3) := by decide +kernel
theorem dX9_isWord_23 : decode cX9_isWord 23 = .ok (.iload_n 3, 1) := by decide +kernel
theorem dX9_isWord_24 : decode cX9_isWord 24 = .ok (.iaload, 1) := by decide +kernel
theorem dX9_isWord_25 : decode cX9_isWord 25 = .ok (.bipush 97, 2) := by decide +kernel
theorem dX9_isWord_27 : decode cX9_isWord 27 = .ok (.bipush 122, 2) := by decide +kernel
theorem dX9_isWord_29 : decode cX9_isWord 29 = .ok (.invokestatic 141, 3) := by decide +kernel
theorem dX9_isWord_32 : decode cX9_isWord 32 = .ok (.istore_n 2, 1) := by decide +kernel
end
/-! part 21e.dec -/
section
theorem dX9_isWord_33 : decode cX9_isWord 33 = .ok (.iinc 3 1, 3) := by decide +kernel
theorem dX9_isWord_36 : decode cX9_isWord 36 = .ok (.goto (-26), 3) := by decide +kernel
theorem dX9_isWord_39 : decode cX9_isWord 39 = .ok (.iload_n 2, 1) := by decide +kernel
theorem dX9_isWord_40 : decode cX9_isWord 40 = .ok (.ireturn, 1) := by decide +kernel
theorem dX9_kept_0 : decode cX9_kept 0 = .ok (.aload_n 0, 1) := by decide +kernel
theorem dX9_kept_1 : decode cX9_kept 1 = .ok (.aload_n 0, 1) := by decide +kernel
theorem dX9_kept_2 : decode cX9_kept 2 = .ok (.iload_n 1, 1) := by decide +kernel
theorem dX9_kept_3 : decode cX9_kept 3 = .ok (.invokevirtual 293, 3) := by decide +kernel
theorem dX9_kept_6 : decode cX9_kept 6 = .ok (.ifCond .eq 7, 3) := by decide +kernel
theorem dX9_kept_9 : decode cX9_kept 9 = .ok (.iconst 0, 1) := by decide +kernel
theorem dX9_kept_10 : decode cX9_kept 10 = .ok (.goto 4, 3) := by decide +kernel
theorem dX9_kept_13 : decode cX9_kept 13 = .ok (.iconst 1, 1) := by decide +kernel
theorem dX9_kept_14 : decode cX9_kept 14 = .ok (.putfield 138, 3) := by decide +kernel
theorem dX9_kept_17 : decode cX9_kept 17 = .ok (.aload_n 0, 1) := by decide +kernel
theorem dX9_kept_18 : decode cX9_kept 18 = .ok (.getfield 138, 3) := by decide +kernel
theorem dX9_kept_21 : decode cX9_kept 21 = .ok (.ifCond .le 5, 3) := by decide +kernel
theorem dX9_kept_24 : decode cX9_kept 24 = .ok (.iconst 0, 1) := by decide +kernel
theorem dX9_kept_25 : decode cX9_kept 25 = .ok (.ireturn, 1) := by decide +kernel
theorem dX9_kept_26 : decode cX9_kept 26 = .ok (.aload_n 0, 1) := by decide +kernel
theorem dX9_kept_27 : decode cX9_kept 27 = .ok (.invokevirtual 462, 3) := by decide +kernel
theorem dX9_kept_30 : decode cX9_kept 30 = .ok (.aload_n 0, 1) := by decide +kernel
theorem dX9_kept_31 : decode cX9_kept 31 = .ok (.iload_n 1, 1) := by decide +kernel
theorem dX9_kept_32 : decode cX9_kept 32 = .ok (.invokevirtual 247, 3) := by decide +kernel
theorem dX9_kept_35 : decode cX9_kept 35 = .ok (.iconst (-1), 1) := by decide +kernel
theorem dX9_kept_36 : decode cX9_kept 36 = .ok (.if_icmp .eq 23, 3) := by decide +kernel
theorem dX9_kept_39 : decode cX9_kept 39 = .ok (.aload_n 0, 1) := by decide +kernel
theorem dX9_kept_40 : decode cX9_kept 40 = .ok (.getfield 120, 3) := by decide +kernel
theorem dX9_kept_43 : decode cX9_kept 43 = .ok (.aload_n 0, 1) := by decide +kernel
theorem dX9_kept_44 : decode cX9_kept 44 = .ok (.getfield 129, 3) := by decide +kernel
theorem dX9_kept_47 : decode cX9_kept 47 = .ok (.iload_n 1, 1) := by decide +kernel
theorem dX9_kept_48 : decode cX9_kept 48 = .ok (.iaload, 1) := by decide +kernel
theorem dX9_kept_49 : decode cX9_kept 49 = .ok (.iaload, 1) := by decide +kernel
theorem dX9_kept_50 : decode cX9_kept 50 = .ok (.bipush 34, 2) := by decide +kernel
theorem dX9_kept_52 : decode cX9_kept 52 = .ok (.if_icmp .ne 7, 3) := by decide +kernel
theorem dX9_kept_55 : decode cX9_kept 55 = .ok (.iconst 1, 1) := by decide +kernel
theorem dX9_kept_56 : decode cX9_kept 56 = .ok (.goto 4, 3) := by decide +kernel
theorem dX9_kept_59 : decode cX9_kept 59 = .ok (.iconst 0, 1) := by decide +kernel
theorem dX9_kept_60 : decode cX9_kept 60 = .ok (.istore_n 2, 1) := by decide +kernel
theorem dX9_kept_61 : decode cX9_kept 61 = .ok (.iconst 0, 1) := by decide +kernel
theorem dX9_kept_62 : decode cX9_kept 62 = .ok (.istore_n 3, 1) := by decide +kernel
theorem dX9_kept_63 : decode cX9_kept 63 = .ok (.iconst 0, 1) := by decide +kernel
theorem dX9_kept_64 : decode cX9_kept 64 = .ok (.istore 4, 2) := by decide +kernel
theorem dX9_kept_66 : decode cX9_kept 66 = .ok (.iload 4, 2) := by decide +kernel
theorem dX9_kept_68 : decode cX9_kept 68 = .ok (.aload_n 0, 1) := by decide +kernel
theorem dX9_kept_69 : decode cX9_kept 69 = .ok (.getfield 204, 3) := by decide +kernel
theorem dX9_kept_72 : decode cX9_kept 72 = .ok (.if_icmp .ge 67, 3) := by decide +kernel
theorem dX9_kept_75 : decode cX9_kept 75 = .ok (.iload_n 3, 1) := by decide +kernel
theorem dX9_kept_76 : decode cX9_kept 76 = .ok (.ifCond .ne 51, 3) := by decide +kernel
theorem dX9_kept_79 : decode cX9_kept 79 = .ok (.aload_n 0, 1) := by decide +kernel
theorem dX9_kept_80 : decode cX9_kept 80 = .ok (.getfield 81, 3) := by decide +kernel
theorem dX9_kept_83 : decode cX9_kept 83 = .ok (.iload 4, 2) := by decide +kernel
theorem dX9_kept_85 : decode cX9_kept 85 = .ok (.iaload, 1) := by decide +kernel
theorem dX9_kept_86 : decode cX9_kept 86 = .ok (.aload_n 0, 1) := by decide +kernel
theorem dX9_kept_87 : decode cX9_kept 87 = .ok (.getfield 129, 3) := by decide +kernel
theorem dX9_kept_90 : decode cX9_kept 90 = .ok (.iload_n 1, 1) := by decide +kernel
theorem dX9_kept_91 : decode cX9_kept 91 = .ok (.iaload, 1) := by decide +kernel
theorem dX9_kept_92 : decode cX9_kept 92 = .ok (.if_icmp .eq 25, 3) := by decide +kernel
theorem dX9_kept_95 : decode cX9_kept 95 = .ok (.iload_n 2, 1) := by decide +kernel
theorem dX9_kept_96 : decode cX9_kept 96 = .ok (.ifCond .eq 35, 3) := by decide +kernel
theorem dX9_kept_99 : decode cX9_kept 99 = .ok (.aload_n 0, 1) := by decide +kernel
theorem dX9_kept_100 : decode cX9_kept 100 = .ok (.getfield 81, 3) := by decide +kernel
theorem dX9_kept_103 : decode cX9_kept 103 = .ok (.iload 4, 2) := by decide +kernel
theorem dX9_kept_105 : decode cX9_kept 105 = .ok (.iaload, 1) := by decide +kernel
theorem dX9_kept_106 : decode cX9_kept 106 = .ok (.aload_n 0, 1) := by decide +kernel
theorem dX9_kept_107 : decode cX9_kept 107 = .ok (.getfield 129, 3) := by decide +kernel
theorem dX9_kept_110 : decode cX9_kept 110 = .ok (.iload_n 1, 1) := by decide +kernel
theorem dX9_kept_111 : decode cX9_kept 111 = .ok (.iaload, 1) := by decide +kernel
theorem dX9_kept_112 : decode cX9_kept 112 = .ok (.iconst 1, 1) := by decide +kernel
theorem dX9_kept_113 : decode cX9_kept 113 = .ok (.iadd, 1) := by decide +kernel
theorem dX9_kept_114 : decode cX9_kept 114 = .ok (.if_icmp .ne 17, 3) := by decide +kernel
theorem dX9_kept_117 : decode cX9_kept 117 = .ok (.aload_n 0, 1) := by decide +kernel
theorem dX9_kept_118 : decode cX9_kept 118 = .ok (.iload 4, 2) := by decide +kernel
theorem dX9_kept_120 : decode cX9_kept 120 = .ok (.iload_n 1, 1) := by decide +kernel
theorem dX9_kept_121 : decode cX9_kept 121 = .ok (.invokevirtual 465, 3) := by decide +kernel
theorem dX9_kept_124 : decode cX9_kept 124 = .ok (.ifCond .eq 7, 3) := by decide +kernel
theorem dX9_kept_127 : decode cX9_kept 127 = .ok (.iconst 1, 1) := by decide +kernel
theorem dX9_kept_128 : decode cX9_kept 128 = .ok (.goto 4, 3) := by decide +kernel
theorem dX9_kept_131 : decode cX9_kept 131 = .ok (.iconst 0, 1) := by decide +kernel
theorem dX9_kept_132 : decode cX9_kept 132 = .ok (.istore_n 3, 1) := by decide +kernel
theorem dX9_kept_133 : decode cX9_kept 133 = .ok (.iinc 4 1, 3) := by decide +kernel
theorem dX9_kept_136 : decode cX9_kept 136 = .ok (.goto (-70), 3) := by decide +kernel
theorem dX9_kept_139 : decode cX9_kept 139 = .ok (.aload_n 0, 1) := by decide +kernel
theorem dX9_kept_140 : decode cX9_kept 140 = .ok (.invokevirtual 244, 3) := by decide +kernel
theorem dX9_kept_143 : decode cX9_kept 143 = .ok (.iload_n 3, 1) := by decide +kernel
theorem dX9_kept_144 : decode cX9_kept 144 = .ok (.ireturn, 1) := by decide +kernel
theorem dX9_key_0 : decode cX9_key 0 = .ok (.aload_n 0, 1) := by decide +kernel
theorem dX9_key_1 : decode cX9_key 1 = .ok (.aload_n 0, 1) := by decide +kernel
theorem dX9_key_2 : decode cX9_key 2 = .ok (.iload_n 1, 1) := by decide +kernel
theorem dX9_key_3 : decode cX9_key 3 = .ok (.invokevirtual 293, 3) := by decide +kernel
theorem dX9_key_6 : decode cX9_key 6 = .ok (.ifCond .ne 7, 3) := by decide +kernel
theorem dX9_key_9 : decode cX9_key 9 = .ok (.iconst 1, 1) := by decide +kernel
theorem dX9_key_10 : decode cX9_key 10 = .ok (.goto 17, 3) := by decide +kernel
theorem dX9_key_13 : decode cX9_key 13 = .ok (.iload_n 2, 1) := by decide +kernel
theorem dX9_key_14 : decode cX9_key 14 = .ok (.iconst 0, 1) := by decide +kernel
theorem dX9_key_15 : decode cX9_key 15 = .ok (.iconst 1, 1) := by decide +kernel
theorem dX9_key_16 : decode cX9_key 16 = .ok (.invokestatic 141, 3) := by decide +kernel
theorem dX9_key_19 : decode cX9_key 19 = .ok (.ifCond .ne 7, 3) := by decide +kernel
theorem dX9_key_22 : decode cX9_key 22 = .ok (.iconst 2, 1) := by decide +kernel
theorem dX9_key_23 : decode cX9_key 23 = .ok (.goto 4, 3) := by decide +kernel
theorem dX9_key_26 : decode cX9_key 26 = .ok (.iconst 0, 1) := by decide +kernel
theorem dX9_key_27 : decode cX9_key 27 = .ok (.putfield 138, 3) := by decide +kernel
theorem dX9_key_30 : decode cX9_key 30 = .ok (.aload_n 0, 1) := by decide +kernel
theorem dX9_key_31 : decode cX9_key 31 = .ok (.getfield 138, 3) := by decide +kernel
theorem dX9_key_34 : decode cX9_key 34 = .ok (.ifCond .le 5, 3) := by decide +kernel
theorem dX9_key_37 : decode cX9_key 37 = .ok (.iconst 0, 1) := by decide +kernel
theorem dX9_key_38 : decode cX9_key 38 = .ok (.ireturn, 1) := by decide +kernel
theorem dX9_key_39 : decode cX9_key 39 = .ok (.aload_n 0, 1) := by decide +kernel
theorem dX9_key_40 : decode cX9_key 40 = .ok (.getfield 7, 3) := by decide +kernel
theorem dX9_key_43 : decode cX9_key 43 = .ok (.iconst 1, 1) := by decide +kernel
theorem dX9_key_44 : decode cX9_key 44 = .ok (.iaload, 1) := by decide +kernel
theorem dX9_key_45 : decode cX9_key 45 = .ok (.ifCond .eq 5, 3) := by decide +kernel
theorem dX9_key_48 : decode cX9_key 48 = .ok (.iconst (-1), 1) := by decide +kernel
theorem dX9_key_49 : decode cX9_key 49 = .ok (.ireturn, 1) := by decide +kernel
theorem dX9_key_50 : decode cX9_key 50 = .ok (.iload_n 2, 1) := by decide +kernel
theorem dX9_key_51 : decode cX9_key 51 = .ok (.ifCond .ne 12, 3) := by decide +kernel
theorem dX9_key_54 : decode cX9_key 54 = .ok (.aload_n 0, 1) := by decide +kernel
theorem dX9_key_55 : decode cX9_key 55 = .ok (.getfield 96, 3) := by decide +kernel
theorem dX9_key_58 : decode cX9_key 58 = .ok (.iload_n 1, 1) := by decide +kernel
theorem dX9_key_59 : decode cX9_key 59 = .ok (.iaload, 1) := by decide +kernel
theorem dX9_key_60 : decode cX9_key 60 = .ok (.goto 9, 3) := by decide +kernel
theorem dX9_key_63 : decode cX9_key 63 = .ok (.aload_n 0, 1) := by decide +kernel
theorem dX9_key_64 : decode cX9_key 64 = .ok (.getfield 99, 3) := by decide +kernel
theorem dX9_key_67 : decode cX9_key 67 = .ok (.iload_n 1, 1) := by decide +kernel
theorem dX9_key_68 : decode cX9_key 68 = .ok (.iaload, 1) := by decide +kernel
theorem dX9_key_69 : decode cX9_key 69 = .ok (.ireturn, 1) := by decide +kernel
theorem dX9_kind_0 : decode cX9_kind 0 = .ok (.aload_n 0, 1) := by decide +kernel
theorem dX9_kind_1 : decode cX9_kind 1 = .ok (.iload_n 1, 1) := by decide +kernel
theorem dX9_kind_2 : decode cX9_kind 2 = .ok (.iload_n 2, 1) := by decide +kernel
theorem dX9_kind_3 : decode cX9_kind 3 = .ok (.ifCond .eq 7, 3) := by decide +kernel
theorem dX9_kind_6 : decode cX9_kind 6 = .ok (.iconst (-1), 1) := by decide +kernel
theorem dX9_kind_7 : decode cX9_kind 7 = .ok (.goto 4, 3) := by decide +kernel
theorem dX9_kind_10 : decode cX9_kind 10 = .ok (.iconst 0, 1) := by decide +kernel
theorem dX9_kind_11 : decode cX9_kind 11 = .ok (.iconst 3, 1) := by decide +kernel
theorem dX9_kind_12 : decode cX9_kind 12 = .ok (.invokestatic 141, 3) := by decide +kernel
theorem dX9_kind_15 : decode cX9_kind 15 = .ok (.ifCond .eq 7, 3) := by decide +kernel
theorem dX9_kind_18 : decode cX9_kind 18 = .ok (.iconst 0, 1) := by decide +kernel
theorem dX9_kind_19 : decode cX9_kind 19 = .ok (.goto 4, 3) := by decide +kernel
theorem dX9_kind_22 : decode cX9_kind 22 = .ok (.iconst 1, 1) := by decide +kernel
theorem dX9_kind_23 : decode cX9_kind 23 = .ok (.putfield 138, 3) := by decide +kernel
theorem dX9_kind_26 : decode cX9_kind 26 = .ok (.aload_n 0, 1) := by decide +kernel
theorem dX9_kind_27 : decode cX9_kind 27 = .ok (.getfield 138, 3) := by decide +kernel
theorem dX9_kind_30 : decode cX9_kind 30 = .ok (.ifCond .le 5, 3) := by decide +kernel
theorem dX9_kind_33 : decode cX9_kind 33 = .ok (.iconst 0, 1) := by decide +kernel
theorem dX9_kind_34 : decode cX9_kind 34 = .ok (.ireturn, 1) := by decide +kernel
theorem dX9_kind_35 : decode cX9_kind 35 = .ok (.aload_n 0, 1) := by decide +kernel
theorem dX9_kind_36 : decode cX9_kind 36 = .ok (.invokevirtual 420, 3) := by decide +kernel
theorem dX9_kind_39 : decode cX9_kind 39 = .ok (.aload_n 0, 1) := by decide +kernel
theorem dX9_kind_40 : decode cX9_kind 40 = .ok (.aload_n 0, 1) := by decide +kernel
theorem dX9_kind_41 : decode cX9_kind 41 = .ok (.iload_n 2, 1) := by decide +kernel
theorem dX9_kind_42 : decode cX9_kind 42 = .ok (.ifCond .eq 7, 3) := by decide +kernel
theorem dX9_kind_45 : decode cX9_kind 45 = .ok (.iconst 2, 1) := by decide +kernel
theorem dX9_kind_46 : decode cX9_kind 46 = .ok (.goto 4, 3) := by decide +kernel
theorem dX9_kind_49 : decode cX9_kind 49 = .ok (.iconst 1, 1) := by decide +kernel
theorem dX9_kind_50 : decode cX9_kind 50 = .ok (.iload_n 1, 1) := by decide +kernel
theorem dX9_kind_51 : decode cX9_kind 51 = .ok (.invokevirtual 361, 3) := by decide +kernel
theorem dX9_kind_54 : decode cX9_kind 54 = .ok (.iconst 0, 1) := by decide +kernel
theorem dX9_kind_55 : decode cX9_kind 55 = .ok (.invokevirtual 429, 3) := by decide +kernel
theorem dX9_kind_58 : decode cX9_kind 58 = .ok (.ifCond .eq 10, 3) := by decide +kernel
theorem dX9_kind_61 : decode cX9_kind 61 = .ok (.aload_n 0, 1) := by decide +kernel
theorem dX9_kind_62 : decode cX9_kind 62 = .ok (.getfield 204, 3) := by decide +kernel
theorem dX9_kind_65 : decode cX9_kind 65 = .ok (.goto 4, 3) := by decide +kernel
theorem dX9_kind_68 : decode cX9_kind 68 = .ok (.iconst 0, 1) := by decide +kernel
theorem dX9_kind_69 : decode cX9_kind 69 = .ok (.ireturn, 1) := by decide +kernel
theorem dX9_knownOf_0 : decode cX9_knownOf 0 = .ok (.iconst 0, 1) := by decide +kernel
theorem dX9_knownOf_1 : decode cX9_knownOf 1 = .ok (.istore_n 2, 1) := by decide +kernel
theorem dX9_knownOf_2 : decode cX9_knownOf 2 = .ok (.iload_n 2, 1) := by decide +kernel
theorem dX9_knownOf_3 : decode cX9_knownOf 3 = .ok (.aload_n 0, 1) := by decide +kernel
theorem dX9_knownOf_4 : decode cX9_knownOf 4 = .ok (.getfield 7, 3) := by decide +kernel
theorem dX9_knownOf_7 : decode cX9_knownOf 7 = .ok (.bipush 42, 2) := by decide +kernel
theorem dX9_knownOf_9 : decode cX9_knownOf 9 = .ok (.iaload, 1) := by decide +kernel
theorem dX9_knownOf_10 : decode cX9_knownOf 10 = .ok (.if_icmp .ge 107, 3) := by decide +kernel
theorem dX9_knownOf_13 : decode cX9_knownOf 13 = .ok (.sipush 2883, 3) := by decide +kernel
theorem dX9_knownOf_16 : decode cX9_knownOf 16 = .ok (.bipush 122, 2) := by decide +kernel
theorem dX9_knownOf_18 : decode cX9_knownOf 18 = .ok (.iload_n 2, 1) := by decide +kernel
theorem dX9_knownOf_19 : decode cX9_knownOf 19 = .ok (.imul, 1) := by decide +kernel
theorem dX9_knownOf_20 : decode cX9_knownOf 20 = .ok (.iadd, 1) := by decide +kernel
theorem dX9_knownOf_21 : decode cX9_knownOf 21 = .ok (.istore_n 3, 1) := by decide +kernel
theorem dX9_knownOf_22 : decode cX9_knownOf 22 = .ok (.aload_n 0, 1) := by decide +kernel
theorem dX9_knownOf_23 : decode cX9_knownOf 23 = .ok (.getfield 7, 3) := by decide +kernel
theorem dX9_knownOf_26 : decode cX9_knownOf 26 = .ok (.iload_n 3, 1) := by decide +kernel
theorem dX9_knownOf_27 : decode cX9_knownOf 27 = .ok (.iaload, 1) := by decide +kernel
theorem dX9_knownOf_28 : decode cX9_knownOf 28 = .ok (.aload_n 0, 1) := by decide +kernel
theorem dX9_knownOf_29 : decode cX9_knownOf 29 = .ok (.getfield 105, 3) := by decide +kernel
theorem dX9_knownOf_32 : decode cX9_knownOf 32 = .ok (.iload_n 1, 1) := by decide +kernel
theorem dX9_knownOf_33 : decode cX9_knownOf 33 = .ok (.iaload, 1) := by decide +kernel
theorem dX9_knownOf_34 : decode cX9_knownOf 34 = .ok (.if_icmp .ne 7, 3) := by decide +kernel
theorem dX9_knownOf_37 : decode cX9_knownOf 37 = .ok (.iconst 1, 1) := by decide +kernel
theorem dX9_knownOf_38 : decode cX9_knownOf 38 = .ok (.goto 4, 3) := by decide +kernel
theorem dX9_knownOf_41 : decode cX9_knownOf 41 = .ok (.iconst 0, 1) := by decide +kernel
theorem dX9_knownOf_42 : decode cX9_knownOf 42 = .ok (.istore 4, 2) := by decide +kernel
theorem dX9_knownOf_44 : decode cX9_knownOf 44 = .ok (.iconst 0, 1) := by decide +kernel
theorem dX9_knownOf_45 : decode cX9_knownOf 45 = .ok (.istore 5, 2) := by decide +kernel
theorem dX9_knownOf_47 : decode cX9_knownOf 47 = .ok (.iload 5, 2) := by decide +kernel
theorem dX9_knownOf_49 : decode cX9_knownOf 49 = .ok (.aload_n 0, 1) := by decide +kernel
theorem dX9_knownOf_50 : decode cX9_knownOf 50 = .ok (.getfield 105, 3) := by decide +kernel
theorem dX9_knownOf_53 : decode cX9_knownOf 53 = .ok (.iload_n 1, 1) := by decide +kernel
theorem dX9_knownOf_54 : decode cX9_knownOf 54 = .ok (.iaload, 1) := by decide +kernel
theorem dX9_knownOf_55 : decode cX9_knownOf 55 = .ok (.if_icmp .ge 49, 3) := by decide +kernel
theorem dX9_knownOf_58 : decode cX9_knownOf 58 = .ok (.iload 4, 2) := by decide +kernel
theorem dX9_knownOf_60 : decode cX9_knownOf 60 = .ok (.ifCond .eq 44, 3) := by decide +kernel
theorem dX9_knownOf_63 : decode cX9_knownOf 63 = .ok (.aload_n 0, 1) := by decide +kernel
theorem dX9_knownOf_64 : decode cX9_knownOf 64 = .ok (.getfield 7, 3) := by decide +kernel
theorem dX9_knownOf_67 : decode cX9_knownOf 67 = .ok (.iload_n 3, 1) := by decide +kernel
theorem dX9_knownOf_68 : decode cX9_knownOf 68 = .ok (.iconst 1, 1) := by decide +kernel
theorem dX9_knownOf_69 : decode cX9_knownOf 69 = .ok (.iadd, 1) := by decide +kernel
theorem dX9_knownOf_70 : decode cX9_knownOf 70 = .ok (.iload 5, 2) := by decide +kernel
theorem dX9_knownOf_72 : decode cX9_knownOf 72 = .ok (.iadd, 1) := by decide +kernel
theorem dX9_knownOf_73 : decode cX9_knownOf 73 = .ok (.iaload, 1) := by decide +kernel
theorem dX9_knownOf_74 : decode cX9_knownOf 74 = .ok (.aload_n 0, 1) := by decide +kernel
theorem dX9_knownOf_75 : decode cX9_knownOf 75 = .ok (.getfield 108, 3) := by decide +kernel
theorem dX9_knownOf_78 : decode cX9_knownOf 78 = .ok (.aload_n 0, 1) := by decide +kernel
theorem dX9_knownOf_79 : decode cX9_knownOf 79 = .ok (.getfield 102, 3) := by decide +kernel
theorem dX9_knownOf_82 : decode cX9_knownOf 82 = .ok (.iload_n 1, 1) := by decide +kernel
theorem dX9_knownOf_83 : decode cX9_knownOf 83 = .ok (.iaload, 1) := by decide +kernel
theorem dX9_knownOf_84 : decode cX9_knownOf 84 = .ok (.iload 5, 2) := by decide +kernel
theorem dX9_knownOf_86 : decode cX9_knownOf 86 = .ok (.iadd, 1) := by decide +kernel
theorem dX9_knownOf_87 : decode cX9_knownOf 87 = .ok (.iaload, 1) := by decide +kernel
theorem dX9_knownOf_88 : decode cX9_knownOf 88 = .ok (.if_icmp .ne 7, 3) := by decide +kernel
theorem dX9_knownOf_91 : decode cX9_knownOf 91 = .ok (.iconst 1, 1) := by decide +kernel
theorem dX9_knownOf_92 : decode cX9_knownOf 92 = .ok (.goto 4, 3) := by decide +kernel
theorem dX9_knownOf_95 : decode cX9_knownOf 95 = .ok (.iconst 0, 1) := by decide +kernel
theorem dX9_knownOf_96 : decode cX9_knownOf 96 = .ok (.istore 4, 2) := by decide +kernel
theorem dX9_knownOf_98 : decode cX9_knownOf 98 = .ok (.iinc 5 1, 3) := by decide +kernel
theorem dX9_knownOf_101 : decode cX9_knownOf 101 = .ok (.goto (-54), 3) := by decide +kernel
theorem dX9_knownOf_104 : decode cX9_knownOf 104 = .ok (.iload 4, 2) := by decide +kernel
theorem dX9_knownOf_106 : decode cX9_knownOf 106 = .ok (.ifCond .eq 5, 3) := by decide +kernel
theorem dX9_knownOf_109 : decode cX9_knownOf 109 = .ok (.iload_n 2, 1) := by decide +kernel
theorem dX9_knownOf_110 : decode cX9_knownOf 110 = .ok (.ireturn, 1) := by decide +kernel
theorem dX9_knownOf_111 : decode cX9_knownOf 111 = .ok (.iinc 2 1, 3) := by decide +kernel
theorem dX9_knownOf_114 : decode cX9_knownOf 114 = .ok (.goto (-112), 3) := by decide +kernel
theorem dX9_knownOf_117 : decode cX9_knownOf 117 = .ok (.iconst (-1), 1) := by decide +kernel
theorem dX9_knownOf_118 : decode cX9_knownOf 118 = .ok (.ireturn, 1) := by decide +kernel
theorem dX9_like_0 : decode cX9_like 0 = .ok (.aload_n 0, 1) := by decide +kernel
theorem dX9_like_1 : decode cX9_like 1 = .ok (.aload_n 0, 1) := by decide +kernel
theorem dX9_like_2 : decode cX9_like 2 = .ok (.iload_n 1, 1) := by decide +kernel
theorem dX9_like_3 : decode cX9_like 3 = .ok (.invokevirtual 293, 3) := by decide +kernel
theorem dX9_like_6 : decode cX9_like 6 = .ok (.ifCond .eq 7, 3) := by decide +kernel
theorem dX9_like_9 : decode cX9_like 9 = .ok (.iconst 0, 1) := by decide +kernel
theorem dX9_like_10 : decode cX9_like 10 = .ok (.goto 4, 3) := by decide +kernel
theorem dX9_like_13 : decode cX9_like 13 = .ok (.iconst 1, 1) := by decide +kernel
theorem dX9_like_14 : decode cX9_like 14 = .ok (.putfield 138, 3) := by decide +kernel
theorem dX9_like_17 : decode cX9_like 17 = .ok (.aload_n 0, 1) := by decide +kernel
theorem dX9_like_18 : decode cX9_like 18 = .ok (.getfield 138, 3) := by decide +kernel
theorem dX9_like_21 : decode cX9_like 21 = .ok (.ifCond .le 5, 3) := by decide +kernel
theorem dX9_like_24 : decode cX9_like 24 = .ok (.iconst 0, 1) := by decide +kernel
theorem dX9_like_25 : decode cX9_like 25 = .ok (.ireturn, 1) := by decide +kernel
theorem dX9_like_26 : decode cX9_like 26 = .ok (.iconst 0, 1) := by decide +kernel
theorem dX9_like_27 : decode cX9_like 27 = .ok (.istore_n 3, 1) := by decide +kernel
theorem dX9_like_28 : decode cX9_like 28 = .ok (.iconst 0, 1) := by decide +kernel
theorem dX9_like_29 : decode cX9_like 29 = .ok (.istore 4, 2) := by decide +kernel
theorem dX9_like_31 : decode cX9_like 31 = .ok (.iload 4, 2) := by decide +kernel
theorem dX9_like_33 : decode cX9_like 33 = .ok (.aload_n 0, 1) := by decide +kernel
theorem dX9_like_34 : decode cX9_like 34 = .ok (.getfield 204, 3) := by decide +kernel
theorem dX9_like_37 : decode cX9_like 37 = .ok (.if_icmp .ge 33, 3) := by decide +kernel
theorem dX9_like_40 : decode cX9_like 40 = .ok (.aload_n 0, 1) := by decide +kernel
theorem dX9_like_41 : decode cX9_like 41 = .ok (.iload_n 1, 1) := by decide +kernel
theorem dX9_like_42 : decode cX9_like 42 = .ok (.iload 4, 2) := by decide +kernel
theorem dX9_like_44 : decode cX9_like 44 = .ok (.invokevirtual 309, 3) := by decide +kernel
theorem dX9_like_47 : decode cX9_like 47 = .ok (.ifCond .ne 6, 3) := by decide +kernel
theorem dX9_like_50 : decode cX9_like 50 = .ok (.goto 14, 3) := by decide +kernel
theorem dX9_like_53 : decode cX9_like 53 = .ok (.iload_n 3, 1) := by decide +kernel
theorem dX9_like_54 : decode cX9_like 54 = .ok (.iload_n 2, 1) := by decide +kernel
theorem dX9_like_55 : decode cX9_like 55 = .ok (.if_icmp .ne 6, 3) := by decide +kernel
theorem dX9_like_58 : decode cX9_like 58 = .ok (.iload 4, 2) := by decide +kernel
theorem dX9_like_60 : decode cX9_like 60 = .ok (.ireturn, 1) := by decide +kernel
theorem dX9_like_61 : decode cX9_like 61 = .ok (.iinc 3 1, 3) := by decide +kernel
theorem dX9_like_64 : decode cX9_like 64 = .ok (.iinc 4 1, 3) := by decide +kernel
theorem dX9_like_67 : decode cX9_like 67 = .ok (.goto (-36), 3) := by decide +kernel
theorem dX9_like_70 : decode cX9_like 70 = .ok (.iconst (-1), 1) := by decide +kernel
theorem dX9_like_71 : decode cX9_like 71 = .ok (.ireturn, 1) := by decide +kernel
theorem dX9_likeMany_0 : decode cX9_likeMany 0 = .ok (.iconst 0, 1) := by decide +kernel
theorem dX9_likeMany_1 : decode cX9_likeMany 1 = .ok (.istore_n 2, 1) := by decide +kernel
theorem dX9_likeMany_2 : decode cX9_likeMany 2 = .ok (.iconst 0, 1) := by decide +kernel
theorem dX9_likeMany_3 : decode cX9_likeMany 3 = .ok (.istore_n 3, 1) := by decide +kernel
theorem dX9_likeMany_4 : decode cX9_likeMany 4 = .ok (.iload_n 3, 1) := by decide +kernel
theorem dX9_likeMany_5 : decode cX9_likeMany 5 = .ok (.aload_n 0, 1) := by decide +kernel
theorem dX9_likeMany_6 : decode cX9_likeMany 6 = .ok (.getfield 204, 3) := by decide +kernel
theorem dX9_likeMany_9 : decode cX9_likeMany 9 = .ok (.if_icmp .ge 26, 3) := by decide +kernel
theorem dX9_likeMany_12 : decode cX9_likeMany 12 = .ok (.iload_n 2, 1) := by decide +kernel
theorem dX9_likeMany_13 : decode cX9_likeMany 13 = .ok (.aload_n 0, 1) := by decide +kernel
theorem dX9_likeMany_14 : decode cX9_likeMany 14 = .ok (.iload_n 1, 1) := by decide +kernel
theorem dX9_likeMany_15 : decode cX9_likeMany 15 = .ok (.iload_n 3, 1) := by decide +kernel
theorem dX9_likeMany_16 : decode cX9_likeMany 16 = .ok (.invokevirtual 309, 3) := by decide +kernel
theorem dX9_likeMany_19 : decode cX9_likeMany 19 = .ok (.ifCond .eq 7, 3) := by decide +kernel
theorem dX9_likeMany_22 : decode cX9_likeMany 22 = .ok (.iconst 1, 1) := by decide +kernel
theorem dX9_likeMany_23 : decode cX9_likeMany 23 = .ok (.goto 4, 3) := by decide +kernel
theorem dX9_likeMany_26 : decode cX9_likeMany 26 = .ok (.iconst 0, 1) := by decide +kernel
theorem dX9_likeMany_27 : decode cX9_likeMany 27 = .ok (.iadd, 1) := by decide +kernel
theorem dX9_likeMany_28 : decode cX9_likeMany 28 = .ok (.istore_n 2, 1) := by decide +kernel
theorem dX9_likeMany_29 : decode cX9_likeMany 29 = .ok (.iinc 3 1, 3) := by decide +kernel
theorem dX9_likeMany_32 : decode cX9_likeMany 32 = .ok (.goto (-28), 3) := by decide +kernel
theorem dX9_likeMany_35 : decode cX9_likeMany 35 = .ok (.iload_n 2, 1) := by decide +kernel
theorem dX9_likeMany_36 : decode cX9_likeMany 36 = .ok (.ireturn, 1) := by decide +kernel
theorem dX9_lock_0 : decode cX9_lock 0 = .ok (.aload_n 0, 1) := by decide +kernel
theorem dX9_lock_1 : decode cX9_lock 1 = .ok (.invokevirtual 426, 3) := by decide +kernel
theorem dX9_lock_4 : decode cX9_lock 4 = .ok (.istore_n 1, 1) := by decide +kernel
theorem dX9_lock_5 : decode cX9_lock 5 = .ok (.aload_n 0, 1) := by decide +kernel
theorem dX9_lock_6 : decode cX9_lock 6 = .ok (.aload_n 0, 1) := by decide +kernel
theorem dX9_lock_7 : decode cX9_lock 7 = .ok (.iload_n 1, 1) := by decide +kernel
theorem dX9_lock_8 : decode cX9_lock 8 = .ok (.invokevirtual 432, 3) := by decide +kernel
theorem dX9_lock_11 : decode cX9_lock 11 = .ok (.ifCond .eq 7, 3) := by decide +kernel
theorem dX9_lock_14 : decode cX9_lock 14 = .ok (.iconst 0, 1) := by decide +kernel
theorem dX9_lock_15 : decode cX9_lock 15 = .ok (.goto 4, 3) := by decide +kernel
theorem dX9_lock_18 : decode cX9_lock 18 = .ok (.iconst 1, 1) := by decide +kernel
theorem dX9_lock_19 : decode cX9_lock 19 = .ok (.putfield 138, 3) := by decide +kernel
theorem dX9_lock_22 : decode cX9_lock 22 = .ok (.aload_n 0, 1) := by decide +kernel
theorem dX9_lock_23 : decode cX9_lock 23 = .ok (.getfield 138, 3) := by decide +kernel
theorem dX9_lock_26 : decode cX9_lock 26 = .ok (.ifCond .le 5, 3) := by decide +kernel
theorem dX9_lock_29 : decode cX9_lock 29 = .ok (.iconst 0, 1) := by decide +kernel
theorem dX9_lock_30 : decode cX9_lock 30 = .ok (.ireturn, 1) := by decide +kernel
theorem dX9_lock_31 : decode cX9_lock 31 = .ok (.aload_n 0, 1) := by decide +kernel
theorem dX9_lock_32 : decode cX9_lock 32 = .ok (.invokevirtual 420, 3) := by decide +kernel
theorem dX9_lock_35 : decode cX9_lock 35 = .ok (.aload_n 0, 1) := by decide +kernel
theorem dX9_lock_36 : decode cX9_lock 36 = .ok (.aload_n 0, 1) := by decide +kernel
theorem dX9_lock_37 : decode cX9_lock 37 = .ok (.iconst 0, 1) := by decide +kernel
theorem dX9_lock_38 : decode cX9_lock 38 = .ok (.iload_n 1, 1) := by decide +kernel
theorem dX9_lock_39 : decode cX9_lock 39 = .ok (.invokevirtual 355, 3) := by decide +kernel
theorem dX9_lock_42 : decode cX9_lock 42 = .ok (.iconst 2, 1) := by decide +kernel
theorem dX9_lock_43 : decode cX9_lock 43 = .ok (.invokevirtual 429, 3) := by decide +kernel
theorem dX9_lock_46 : decode cX9_lock 46 = .ok (.ifCond .eq 10, 3) := by decide +kernel
theorem dX9_lock_49 : decode cX9_lock 49 = .ok (.aload_n 0, 1) := by decide +kernel
theorem dX9_lock_50 : decode cX9_lock 50 = .ok (.getfield 204, 3) := by decide +kernel
theorem dX9_lock_53 : decode cX9_lock 53 = .ok (.goto 4, 3) := by decide +kernel
theorem dX9_lock_56 : decode cX9_lock 56 = .ok (.iconst 0, 1) := by decide +kernel
theorem dX9_lock_57 : decode cX9_lock 57 = .ok (.ireturn, 1) := by decide +kernel
theorem dX9_lock0_0 : decode cX9_lock0 0 = .ok (.aload_n 0, 1) := by decide +kernel
theorem dX9_lock0_1 : decode cX9_lock0 1 = .ok (.getfield 7, 3) := by decide +kernel
theorem dX9_lock0_4 : decode cX9_lock0 4 = .ok (.iconst 5, 1) := by decide +kernel
theorem dX9_lock0_5 : decode cX9_lock0 5 = .ok (.iaload, 1) := by decide +kernel
theorem dX9_lock0_6 : decode cX9_lock0 6 = .ok (.iconst 4, 1) := by decide +kernel
theorem dX9_lock0_7 : decode cX9_lock0 7 = .ok (.if_icmp .ne 6, 3) := by decide +kernel
theorem dX9_lock0_10 : decode cX9_lock0 10 = .ok (.bipush 6, 2) := by decide +kernel
theorem dX9_lock0_12 : decode cX9_lock0 12 = .ok (.ireturn, 1) := by decide +kernel
theorem dX9_lock0_13 : decode cX9_lock0 13 = .ok (.iconst 0, 1) := by decide +kernel
theorem dX9_lock0_14 : decode cX9_lock0 14 = .ok (.istore_n 3, 1) := by decide +kernel
theorem dX9_lock0_15 : decode cX9_lock0 15 = .ok (.iload_n 3, 1) := by decide +kernel
theorem dX9_lock0_16 : decode cX9_lock0 16 = .ok (.aload_n 0, 1) := by decide +kernel
theorem dX9_lock0_17 : decode cX9_lock0 17 = .ok (.getfield 7, 3) := by decide +kernel
theorem dX9_lock0_20 : decode cX9_lock0 20 = .ok (.iconst 5, 1) := by decide +kernel
theorem dX9_lock0_21 : decode cX9_lock0 21 = .ok (.iaload, 1) := by decide +kernel
theorem dX9_lock0_22 : decode cX9_lock0 22 = .ok (.if_icmp .ge 96, 3) := by decide +kernel
theorem dX9_lock0_25 : decode cX9_lock0 25 = .ok (.aload_n 0, 1) := by decide +kernel
theorem dX9_lock0_26 : decode cX9_lock0 26 = .ok (.getfield 7, 3) := by decide +kernel
theorem dX9_lock0_29 : decode cX9_lock0 29 = .ok (.bipush 6, 2) := by decide +kernel
theorem dX9_lock0_31 : decode cX9_lock0 31 = .ok (.bipush 9, 2) := by decide +kernel
theorem dX9_lock0_33 : decode cX9_lock0 33 = .ok (.iload_n 3, 1) := by decide +kernel
theorem dX9_lock0_34 : decode cX9_lock0 34 = .ok (.imul, 1) := by decide +kernel
theorem dX9_lock0_35 : decode cX9_lock0 35 = .ok (.iadd, 1) := by decide +kernel
theorem dX9_lock0_36 : decode cX9_lock0 36 = .ok (.iaload, 1) := by decide +kernel
theorem dX9_lock0_37 : decode cX9_lock0 37 = .ok (.iload_n 2, 1) := by decide +kernel
theorem dX9_lock0_38 : decode cX9_lock0 38 = .ok (.if_icmp .ne 7, 3) := by decide +kernel
theorem dX9_lock0_41 : decode cX9_lock0 41 = .ok (.iconst 1, 1) := by decide +kernel
theorem dX9_lock0_42 : decode cX9_lock0 42 = .ok (.goto 4, 3) := by decide +kernel
theorem dX9_lock0_45 : decode cX9_lock0 45 = .ok (.iconst 0, 1) := by decide +kernel
theorem dX9_lock0_46 : decode cX9_lock0 46 = .ok (.istore 4, 2) := by decide +kernel
theorem dX9_lock0_48 : decode cX9_lock0 48 = .ok (.iconst 0, 1) := by decide +kernel
theorem dX9_lock0_49 : decode cX9_lock0 49 = .ok (.istore 5, 2) := by decide +kernel
theorem dX9_lock0_51 : decode cX9_lock0 51 = .ok (.iload 5, 2) := by decide +kernel
theorem dX9_lock0_53 : decode cX9_lock0 53 = .ok (.iload_n 2, 1) := by decide +kernel
theorem dX9_lock0_54 : decode cX9_lock0 54 = .ok (.if_icmp .ge 50, 3) := by decide +kernel
theorem dX9_lock0_57 : decode cX9_lock0 57 = .ok (.iload 4, 2) := by decide +kernel
theorem dX9_lock0_59 : decode cX9_lock0 59 = .ok (.ifCond .eq 45, 3) := by decide +kernel
theorem dX9_lock0_62 : decode cX9_lock0 62 = .ok (.aload_n 0, 1) := by decide +kernel
theorem dX9_lock0_63 : decode cX9_lock0 63 = .ok (.getfield 7, 3) := by decide +kernel
theorem dX9_lock0_66 : decode cX9_lock0 66 = .ok (.bipush 6, 2) := by decide +kernel
theorem dX9_lock0_68 : decode cX9_lock0 68 = .ok (.bipush 9, 2) := by decide +kernel
theorem dX9_lock0_70 : decode cX9_lock0 70 = .ok (.iload_n 3, 1) := by decide +kernel
theorem dX9_lock0_71 : decode cX9_lock0 71 = .ok (.imul, 1) := by decide +kernel
theorem dX9_lock0_72 : decode cX9_lock0 72 = .ok (.iadd, 1) := by decide +kernel
theorem dX9_lock0_73 : decode cX9_lock0 73 = .ok (.iconst 1, 1) := by decide +kernel
theorem dX9_lock0_74 : decode cX9_lock0 74 = .ok (.iadd, 1) := by decide +kernel
theorem dX9_lock0_75 : decode cX9_lock0 75 = .ok (.iload 5, 2) := by decide +kernel
theorem dX9_lock0_77 : decode cX9_lock0 77 = .ok (.iadd, 1) := by decide +kernel
theorem dX9_lock0_78 : decode cX9_lock0 78 = .ok (.iaload, 1) := by decide +kernel
theorem dX9_lock0_79 : decode cX9_lock0 79 = .ok (.aload_n 0, 1) := by decide +kernel
theorem dX9_lock0_80 : decode cX9_lock0 80 = .ok (.getfield 23, 3) := by decide +kernel
theorem dX9_lock0_83 : decode cX9_lock0 83 = .ok (.iload_n 1, 1) := by decide +kernel
theorem dX9_lock0_84 : decode cX9_lock0 84 = .ok (.iload 5, 2) := by decide +kernel
theorem dX9_lock0_86 : decode cX9_lock0 86 = .ok (.iadd, 1) := by decide +kernel
theorem dX9_lock0_87 : decode cX9_lock0 87 = .ok (.iaload, 1) := by decide +kernel
theorem dX9_lock0_88 : decode cX9_lock0 88 = .ok (.if_icmp .ne 7, 3) := by decide +kernel
theorem dX9_lock0_91 : decode cX9_lock0 91 = .ok (.iconst 1, 1) := by decide +kernel
theorem dX9_lock0_92 : decode cX9_lock0 92 = .ok (.goto 4, 3) := by decide +kernel
theorem dX9_lock0_95 : decode cX9_lock0 95 = .ok (.iconst 0, 1) := by decide +kernel
theorem dX9_lock0_96 : decode cX9_lock0 96 = .ok (.istore 4, 2) := by decide +kernel
theorem dX9_lock0_98 : decode cX9_lock0 98 = .ok (.iinc 5 1, 3) := by decide +kernel
theorem dX9_lock0_101 : decode cX9_lock0 101 = .ok (.goto (-50), 3) := by decide +kernel
theorem dX9_lock0_104 : decode cX9_lock0 104 = .ok (.iload 4, 2) := by decide +kernel
theorem dX9_lock0_106 : decode cX9_lock0 106 = .ok (.ifCond .eq 6, 3) := by decide +kernel
theorem dX9_lock0_109 : decode cX9_lock0 109 = .ok (.bipush 7, 2) := by decide +kernel
theorem dX9_lock0_111 : decode cX9_lock0 111 = .ok (.ireturn, 1) := by decide +kernel
theorem dX9_lock0_112 : decode cX9_lock0 112 = .ok (.iinc 3 1, 3) := by decide +kernel
theorem dX9_lock0_115 : decode cX9_lock0 115 = .ok (.goto (-100), 3) := by decide +kernel
theorem dX9_lock0_118 : decode cX9_lock0 118 = .ok (.bipush 6, 2) := by decide +kernel
theorem dX9_lock0_120 : decode cX9_lock0 120 = .ok (.bipush 9, 2) := by decide +kernel
theorem dX9_lock0_122 : decode cX9_lock0 122 = .ok (.aload_n 0, 1) := by decide +kernel
theorem dX9_lock0_123 : decode cX9_lock0 123 = .ok (.getfield 7, 3) := by decide +kernel
theorem dX9_lock0_126 : decode cX9_lock0 126 = .ok (.iconst 5, 1) := by decide +kernel
theorem dX9_lock0_127 : decode cX9_lock0 127 = .ok (.iaload, 1) := by decide +kernel
theorem dX9_lock0_128 : decode cX9_lock0 128 = .ok (.imul, 1) := by decide +kernel
theorem dX9_lock0_129 : decode cX9_lock0 129 = .ok (.iadd, 1) := by decide +kernel
theorem dX9_lock0_130 : decode cX9_lock0 130 = .ok (.istore_n 3, 1) := by decide +kernel
theorem dX9_lock0_131 : decode cX9_lock0 131 = .ok (.aload_n 0, 1) := by decide +kernel
theorem dX9_lock0_132 : decode cX9_lock0 132 = .ok (.getfield 7, 3) := by decide +kernel
theorem dX9_lock0_135 : decode cX9_lock0 135 = .ok (.iload_n 3, 1) := by decide +kernel
theorem dX9_lock0_136 : decode cX9_lock0 136 = .ok (.iload_n 2, 1) := by decide +kernel
theorem dX9_lock0_137 : decode cX9_lock0 137 = .ok (.iastore, 1) := by decide +kernel
theorem dX9_lock0_138 : decode cX9_lock0 138 = .ok (.iconst 0, 1) := by decide +kernel
theorem dX9_lock0_139 : decode cX9_lock0 139 = .ok (.istore 4, 2) := by decide +kernel
theorem dX9_lock0_141 : decode cX9_lock0 141 = .ok (.iload 4, 2) := by decide +kernel
theorem dX9_lock0_143 : decode cX9_lock0 143 = .ok (.iload_n 2, 1) := by decide +kernel
theorem dX9_lock0_144 : decode cX9_lock0 144 = .ok (.if_icmp .ge 29, 3) := by decide +kernel
theorem dX9_lock0_147 : decode cX9_lock0 147 = .ok (.aload_n 0, 1) := by decide +kernel
theorem dX9_lock0_148 : decode cX9_lock0 148 = .ok (.getfield 7, 3) := by decide +kernel
theorem dX9_lock0_151 : decode cX9_lock0 151 = .ok (.iload_n 3, 1) := by decide +kernel
theorem dX9_lock0_152 : decode cX9_lock0 152 = .ok (.iconst 1, 1) := by decide +kernel
theorem dX9_lock0_153 : decode cX9_lock0 153 = .ok (.iadd, 1) := by decide +kernel
theorem dX9_lock0_154 : decode cX9_lock0 154 = .ok (.iload 4, 2) := by decide +kernel
theorem dX9_lock0_156 : decode cX9_lock0 156 = .ok (.iadd, 1) := by decide +kernel
theorem dX9_lock0_157 : decode cX9_lock0 157 = .ok (.aload_n 0, 1) := by decide +kernel
theorem dX9_lock0_158 : decode cX9_lock0 158 = .ok (.getfield 23, 3) := by decide +kernel
theorem dX9_lock0_161 : decode cX9_lock0 161 = .ok (.iload_n 1, 1) := by decide +kernel
theorem dX9_lock0_162 : decode cX9_lock0 162 = .ok (.iload 4, 2) := by decide +kernel
theorem dX9_lock0_164 : decode cX9_lock0 164 = .ok (.iadd, 1) := by decide +kernel
theorem dX9_lock0_165 : decode cX9_lock0 165 = .ok (.iaload, 1) := by decide +kernel
theorem dX9_lock0_166 : decode cX9_lock0 166 = .ok (.iastore, 1) := by decide +kernel
theorem dX9_lock0_167 : decode cX9_lock0 167 = .ok (.iinc 4 1, 3) := by decide +kernel
theorem dX9_lock0_170 : decode cX9_lock0 170 = .ok (.goto (-29), 3) := by decide +kernel
theorem dX9_lock0_173 : decode cX9_lock0 173 = .ok (.aload_n 0, 1) := by decide +kernel
theorem dX9_lock0_174 : decode cX9_lock0 174 = .ok (.getfield 7, 3) := by decide +kernel
theorem dX9_lock0_177 : decode cX9_lock0 177 = .ok (.iconst 5, 1) := by decide +kernel
theorem dX9_lock0_178 : decode cX9_lock0 178 = .ok (.dup2, 1) := by decide +kernel
theorem dX9_lock0_179 : decode cX9_lock0 179 = .ok (.iaload, 1) := by decide +kernel
theorem dX9_lock0_180 : decode cX9_lock0 180 = .ok (.iconst 1, 1) := by decide +kernel
theorem dX9_lock0_181 : decode cX9_lock0 181 = .ok (.iadd, 1) := by decide +kernel
theorem dX9_lock0_182 : decode cX9_lock0 182 = .ok (.iastore, 1) := by decide +kernel
theorem dX9_lock0_183 : decode cX9_lock0 183 = .ok (.aload_n 0, 1) := by decide +kernel
theorem dX9_lock0_184 : decode cX9_lock0 184 = .ok (.invokevirtual 322, 3) := by decide +kernel
theorem dX9_lock0_187 : decode cX9_lock0 187 = .ok (.iconst 0, 1) := by decide +kernel
theorem dX9_lock0_188 : decode cX9_lock0 188 = .ok (.ireturn, 1) := by decide +kernel
theorem dX9_lockText_0 : decode cX9_lockText 0 = .ok (.aload_n 0, 1) := by decide +kernel
theorem dX9_lockText_1 : decode cX9_lockText 1 = .ok (.invokevirtual 349, 3) := by decide +kernel
theorem dX9_lockText_4 : decode cX9_lockText 4 = .ok (.istore_n 1, 1) := by decide +kernel
theorem dX9_lockText_5 : decode cX9_lockText 5 = .ok (.iload_n 1, 1) := by decide +kernel
theorem dX9_lockText_6 : decode cX9_lockText 6 = .ok (.aload_n 0, 1) := by decide +kernel
theorem dX9_lockText_7 : decode cX9_lockText 7 = .ok (.getfield 340, 3) := by decide +kernel
theorem dX9_lockText_10 : decode cX9_lockText 10 = .ok (.isub, 1) := by decide +kernel
theorem dX9_lockText_11 : decode cX9_lockText 11 = .ok (.istore_n 2, 1) := by decide +kernel
theorem dX9_lockText_12 : decode cX9_lockText 12 = .ok (.iload_n 2, 1) := by decide +kernel
theorem dX9_lockText_13 : decode cX9_lockText 13 = .ok (.iconst 1, 1) := by decide +kernel
theorem dX9_lockText_14 : decode cX9_lockText 14 = .ok (.bipush 8, 2) := by decide +kernel
theorem dX9_lockText_16 : decode cX9_lockText 16 = .ok (.invokestatic 141, 3) := by decide +kernel
theorem dX9_lockText_19 : decode cX9_lockText 19 = .ok (.ifCond .ne 11, 3) := by decide +kernel
theorem dX9_lockText_22 : decode cX9_lockText 22 = .ok (.aload_n 0, 1) := by decide +kernel
theorem dX9_lockText_23 : decode cX9_lockText 23 = .ok (.aload_n 0, 1) := by decide +kernel
theorem dX9_lockText_24 : decode cX9_lockText 24 = .ok (.getfield 340, 3) := by decide +kernel
theorem dX9_lockText_27 : decode cX9_lockText 27 = .ok (.invokevirtual 352, 3) := by decide +kernel
theorem dX9_lockText_30 : decode cX9_lockText 30 = .ok (.aload_n 0, 1) := by decide +kernel
theorem dX9_lockText_31 : decode cX9_lockText 31 = .ok (.getfield 26, 3) := by decide +kernel
theorem dX9_lockText_34 : decode cX9_lockText 34 = .ok (.iconst (-1), 1) := by decide +kernel
theorem dX9_lockText_35 : decode cX9_lockText 35 = .ok (.if_icmp .eq 5, 3) := by decide +kernel
theorem dX9_lockText_38 : decode cX9_lockText 38 = .ok (.iconst 0, 1) := by decide +kernel
theorem dX9_lockText_39 : decode cX9_lockText 39 = .ok (.ireturn, 1) := by decide +kernel
theorem dX9_lockText_40 : decode cX9_lockText 40 = .ok (.aload_n 0, 1) := by decide +kernel
theorem dX9_lockText_41 : decode cX9_lockText 41 = .ok (.getfield 340, 3) := by decide +kernel
theorem dX9_lockText_44 : decode cX9_lockText 44 = .ok (.istore_n 3, 1) := by decide +kernel
theorem dX9_lockText_45 : decode cX9_lockText 45 = .ok (.aload_n 0, 1) := by decide +kernel
theorem dX9_lockText_46 : decode cX9_lockText 46 = .ok (.iload_n 1, 1) := by decide +kernel
theorem dX9_lockText_47 : decode cX9_lockText 47 = .ok (.putfield 340, 3) := by decide +kernel
theorem dX9_lockText_50 : decode cX9_lockText 50 = .ok (.aload_n 0, 1) := by decide +kernel
theorem dX9_lockText_51 : decode cX9_lockText 51 = .ok (.iload_n 3, 1) := by decide +kernel
theorem dX9_lockText_52 : decode cX9_lockText 52 = .ok (.iload_n 2, 1) := by decide +kernel
theorem dX9_lockText_53 : decode cX9_lockText 53 = .ok (.invokevirtual 355, 3) := by decide +kernel
theorem dX9_lockText_56 : decode cX9_lockText 56 = .ok (.ireturn, 1) := by decide +kernel
theorem dX9_longest_0 : decode cX9_longest 0 = .ok (.iconst 0, 1) := by decide +kernel
theorem dX9_longest_1 : decode cX9_longest 1 = .ok (.istore_n 1, 1) := by decide +kernel
theorem dX9_longest_2 : decode cX9_longest 2 = .ok (.iconst 0, 1) := by decide +kernel
theorem dX9_longest_3 : decode cX9_longest 3 = .ok (.istore_n 2, 1) := by decide +kernel
theorem dX9_longest_4 : decode cX9_longest 4 = .ok (.iload_n 2, 1) := by decide +kernel
theorem dX9_longest_5 : decode cX9_longest 5 = .ok (.aload_n 0, 1) := by decide +kernel
theorem dX9_longest_6 : decode cX9_longest 6 = .ok (.getfield 204, 3) := by decide +kernel
theorem dX9_longest_9 : decode cX9_longest 9 = .ok (.if_icmp .ge 26, 3) := by decide +kernel
theorem dX9_longest_12 : decode cX9_longest 12 = .ok (.aload_n 0, 1) := by decide +kernel
theorem dX9_longest_13 : decode cX9_longest 13 = .ok (.getfield 105, 3) := by decide +kernel
theorem dX9_longest_16 : decode cX9_longest 16 = .ok (.iload_n 2, 1) := by decide +kernel
theorem dX9_longest_17 : decode cX9_longest 17 = .ok (.iaload, 1) := by decide +kernel
theorem dX9_longest_18 : decode cX9_longest 18 = .ok (.iload_n 1, 1) := by decide +kernel
theorem dX9_longest_19 : decode cX9_longest 19 = .ok (.if_icmp .le 10, 3) := by decide +kernel
theorem dX9_longest_22 : decode cX9_longest 22 = .ok (.aload_n 0, 1) := by decide +kernel
theorem dX9_longest_23 : decode cX9_longest 23 = .ok (.getfield 105, 3) := by decide +kernel
theorem dX9_longest_26 : decode cX9_longest 26 = .ok (.iload_n 2, 1) := by decide +kernel
theorem dX9_longest_27 : decode cX9_longest 27 = .ok (.iaload, 1) := by decide +kernel
theorem dX9_longest_28 : decode cX9_longest 28 = .ok (.istore_n 1, 1) := by decide +kernel
theorem dX9_longest_29 : decode cX9_longest 29 = .ok (.iinc 2 1, 3) := by decide +kernel
theorem dX9_longest_32 : decode cX9_longest 32 = .ok (.goto (-28), 3) := by decide +kernel
theorem dX9_longest_35 : decode cX9_longest 35 = .ok (.iload_n 1, 1) := by decide +kernel
theorem dX9_longest_36 : decode cX9_longest 36 = .ok (.ireturn, 1) := by decide +kernel
theorem dX9_means_0 : decode cX9_means 0 = .ok (.aload_n 0, 1) := by decide +kernel
theorem dX9_means_1 : decode cX9_means 1 = .ok (.aload_n 3, 1) := by decide +kernel
theorem dX9_means_2 : decode cX9_means 2 = .ok (.iload 4, 2) := by decide +kernel
theorem dX9_means_4 : decode cX9_means 4 = .ok (.iaload, 1) := by decide +kernel
theorem dX9_means_5 : decode cX9_means 5 = .ok (.putfield 183, 3) := by decide +kernel
theorem dX9_means_8 : decode cX9_means 8 = .ok (.iload_n 1, 1) := by decide +kernel
theorem dX9_means_9 : decode cX9_means 9 = .ok (.iconst 1, 1) := by decide +kernel
theorem dX9_means_10 : decode cX9_means 10 = .ok (.if_icmp .ne 42, 3) := by decide +kernel
theorem dX9_means_13 : decode cX9_means 13 = .ok (.iload_n 2, 1) := by decide +kernel
theorem dX9_means_14 : decode cX9_means 14 = .ok (.ifCond .eq 36, 3) := by decide +kernel
theorem dX9_means_17 : decode cX9_means 17 = .ok (.aload_n 3, 1) := by decide +kernel
theorem dX9_means_18 : decode cX9_means 18 = .ok (.iload 4, 2) := by decide +kernel
theorem dX9_means_20 : decode cX9_means 20 = .ok (.iaload, 1) := by decide +kernel
theorem dX9_means_21 : decode cX9_means 21 = .ok (.bipush 34, 2) := by decide +kernel
theorem dX9_means_23 : decode cX9_means 23 = .ok (.if_icmp .ne 27, 3) := by decide +kernel
theorem dX9_means_26 : decode cX9_means 26 = .ok (.iload 4, 2) := by decide +kernel
theorem dX9_means_28 : decode cX9_means 28 = .ok (.iconst 1, 1) := by decide +kernel
theorem dX9_means_29 : decode cX9_means 29 = .ok (.iadd, 1) := by decide +kernel
theorem dX9_means_30 : decode cX9_means 30 = .ok (.iload 5, 2) := by decide +kernel
theorem dX9_means_32 : decode cX9_means 32 = .ok (.if_icmp .ge 18, 3) := by decide +kernel
theorem dX9_means_35 : decode cX9_means 35 = .ok (.aload_n 3, 1) := by decide +kernel
theorem dX9_means_36 : decode cX9_means 36 = .ok (.iload 4, 2) := by decide +kernel
theorem dX9_means_38 : decode cX9_means 38 = .ok (.iconst 1, 1) := by decide +kernel
theorem dX9_means_39 : decode cX9_means 39 = .ok (.iadd, 1) := by decide +kernel
theorem dX9_means_40 : decode cX9_means 40 = .ok (.iaload, 1) := by decide +kernel
theorem dX9_means_41 : decode cX9_means 41 = .ok (.bipush 34, 2) := by decide +kernel
theorem dX9_means_43 : decode cX9_means 43 = .ok (.if_icmp .ne 7, 3) := by decide +kernel
theorem dX9_means_46 : decode cX9_means 46 = .ok (.iconst 2, 1) := by decide +kernel
theorem dX9_means_47 : decode cX9_means 47 = .ok (.goto 4, 3) := by decide +kernel
theorem dX9_means_50 : decode cX9_means 50 = .ok (.iconst 1, 1) := by decide +kernel
theorem dX9_means_51 : decode cX9_means 51 = .ok (.ireturn, 1) := by decide +kernel
theorem dX9_means_52 : decode cX9_means 52 = .ok (.iload_n 1, 1) := by decide +kernel
theorem dX9_means_53 : decode cX9_means 53 = .ok (.iconst 2, 1) := by decide +kernel
theorem dX9_means_54 : decode cX9_means 54 = .ok (.if_icmp .ne 79, 3) := by decide +kernel
theorem dX9_means_57 : decode cX9_means 57 = .ok (.aload_n 3, 1) := by decide +kernel
theorem dX9_means_58 : decode cX9_means 58 = .ok (.iload 4, 2) := by decide +kernel
theorem dX9_means_60 : decode cX9_means 60 = .ok (.iload 5, 2) := by decide +kernel
theorem dX9_means_62 : decode cX9_means 62 = .ok (.ldc 186, 2) := by decide +kernel
theorem dX9_means_64 : decode cX9_means 64 = .ok (.invokestatic 188, 3) := by decide +kernel
theorem dX9_means_67 : decode cX9_means 67 = .ok (.ifCond .eq 12, 3) := by decide +kernel
theorem dX9_means_70 : decode cX9_means 70 = .ok (.aload_n 0, 1) := by decide +kernel
theorem dX9_means_71 : decode cX9_means 71 = .ok (.bipush 60, 2) := by decide +kernel
theorem dX9_means_73 : decode cX9_means 73 = .ok (.putfield 183, 3) := by decide +kernel
theorem dX9_means_76 : decode cX9_means 76 = .ok (.goto 40, 3) := by decide +kernel
theorem dX9_means_79 : decode cX9_means 79 = .ok (.aload_n 3, 1) := by decide +kernel
theorem dX9_means_80 : decode cX9_means 80 = .ok (.iload 4, 2) := by decide +kernel
theorem dX9_means_82 : decode cX9_means 82 = .ok (.iload 5, 2) := by decide +kernel
theorem dX9_means_84 : decode cX9_means 84 = .ok (.ldc 192, 2) := by decide +kernel
theorem dX9_means_86 : decode cX9_means 86 = .ok (.invokestatic 188, 3) := by decide +kernel
theorem dX9_means_89 : decode cX9_means 89 = .ok (.ifCond .eq 12, 3) := by decide +kernel
theorem dX9_means_92 : decode cX9_means 92 = .ok (.aload_n 0, 1) := by decide +kernel
theorem dX9_means_93 : decode cX9_means 93 = .ok (.bipush 62, 2) := by decide +kernel
theorem dX9_means_95 : decode cX9_means 95 = .ok (.putfield 183, 3) := by decide +kernel
theorem dX9_means_98 : decode cX9_means 98 = .ok (.goto 18, 3) := by decide +kernel
theorem dX9_means_101 : decode cX9_means 101 = .ok (.aload_n 3, 1) := by decide +kernel
theorem dX9_means_102 : decode cX9_means 102 = .ok (.iload 4, 2) := by decide +kernel
theorem dX9_means_104 : decode cX9_means 104 = .ok (.iload 5, 2) := by decide +kernel
theorem dX9_means_106 : decode cX9_means 106 = .ok (.ldc 194, 2) := by decide +kernel
theorem dX9_means_108 : decode cX9_means 108 = .ok (.invokestatic 188, 3) := by decide +kernel
theorem dX9_means_111 : decode cX9_means 111 = .ok (.ifCond .eq 5, 3) := by decide +kernel
theorem dX9_means_114 : decode cX9_means 114 = .ok (.iconst 5, 1) := by decide +kernel
theorem dX9_means_115 : decode cX9_means 115 = .ok (.ireturn, 1) := by decide +kernel
theorem dX9_means_116 : decode cX9_means 116 = .ok (.aload_n 0, 1) := by decide +kernel
theorem dX9_means_117 : decode cX9_means 117 = .ok (.getfield 183, 3) := by decide +kernel
theorem dX9_means_120 : decode cX9_means 120 = .ok (.aload_n 3, 1) := by decide +kernel
theorem dX9_means_121 : decode cX9_means 121 = .ok (.iload 4, 2) := by decide +kernel
theorem dX9_means_123 : decode cX9_means 123 = .ok (.iaload, 1) := by decide +kernel
theorem dX9_means_124 : decode cX9_means 124 = .ok (.if_icmp .eq 7, 3) := by decide +kernel
theorem dX9_means_127 : decode cX9_means 127 = .ok (.iconst 4, 1) := by decide +kernel
theorem dX9_means_128 : decode cX9_means 128 = .ok (.goto 4, 3) := by decide +kernel
theorem dX9_means_131 : decode cX9_means 131 = .ok (.iconst 1, 1) := by decide +kernel
theorem dX9_means_132 : decode cX9_means 132 = .ok (.ireturn, 1) := by decide +kernel
theorem dX9_means_133 : decode cX9_means 133 = .ok (.aload_n 3, 1) := by decide +kernel
theorem dX9_means_134 : decode cX9_means 134 = .ok (.iload 4, 2) := by decide +kernel
theorem dX9_means_136 : decode cX9_means 136 = .ok (.iaload, 1) := by decide +kernel
theorem dX9_means_137 : decode cX9_means 137 = .ok (.bipush 92, 2) := by decide +kernel
theorem dX9_means_139 : decode cX9_means 139 = .ok (.if_icmp .ne 26, 3) := by decide +kernel
theorem dX9_means_142 : decode cX9_means 142 = .ok (.iload 4, 2) := by decide +kernel
theorem dX9_means_144 : decode cX9_means 144 = .ok (.iconst 1, 1) := by decide +kernel
theorem dX9_means_145 : decode cX9_means 145 = .ok (.iadd, 1) := by decide +kernel
theorem dX9_means_146 : decode cX9_means 146 = .ok (.iload 5, 2) := by decide +kernel
theorem dX9_means_148 : decode cX9_means 148 = .ok (.if_icmp .ge 17, 3) := by decide +kernel
theorem dX9_means_151 : decode cX9_means 151 = .ok (.aload_n 0, 1) := by decide +kernel
theorem dX9_means_152 : decode cX9_means 152 = .ok (.iload_n 1, 1) := by decide +kernel
theorem dX9_means_153 : decode cX9_means 153 = .ok (.aload_n 3, 1) := by decide +kernel
theorem dX9_means_154 : decode cX9_means 154 = .ok (.iload 4, 2) := by decide +kernel
theorem dX9_means_156 : decode cX9_means 156 = .ok (.iconst 1, 1) := by decide +kernel
theorem dX9_means_157 : decode cX9_means 157 = .ok (.iadd, 1) := by decide +kernel
theorem dX9_means_158 : decode cX9_means 158 = .ok (.iaload, 1) := by decide +kernel
theorem dX9_means_159 : decode cX9_means 159 = .ok (.invokevirtual 196, 3) := by decide +kernel
theorem dX9_means_162 : decode cX9_means 162 = .ok (.goto 4, 3) := by decide +kernel
theorem dX9_means_165 : decode cX9_means 165 = .ok (.iconst (-1), 1) := by decide +kernel
theorem dX9_means_166 : decode cX9_means 166 = .ok (.istore 6, 2) := by decide +kernel
theorem dX9_means_168 : decode cX9_means 168 = .ok (.iload 6, 2) := by decide +kernel
theorem dX9_means_170 : decode cX9_means 170 = .ok (.iconst (-1), 1) := by decide +kernel
theorem dX9_means_171 : decode cX9_means 171 = .ok (.if_icmp .ne 5, 3) := by decide +kernel
theorem dX9_means_174 : decode cX9_means 174 = .ok (.iconst 1, 1) := by decide +kernel
theorem dX9_means_175 : decode cX9_means 175 = .ok (.ireturn, 1) := by decide +kernel
theorem dX9_means_176 : decode cX9_means 176 = .ok (.aload_n 0, 1) := by decide +kernel
theorem dX9_means_177 : decode cX9_means 177 = .ok (.iload 6, 2) := by decide +kernel
theorem dX9_means_179 : decode cX9_means 179 = .ok (.putfield 183, 3) := by decide +kernel
theorem dX9_means_182 : decode cX9_means 182 = .ok (.iconst 2, 1) := by decide +kernel
theorem dX9_means_183 : decode cX9_means 183 = .ok (.ireturn, 1) := by decide +kernel
end
