theorem dX9_cutsMarkup_64 : decode cX9_cutsMarkup 64 = .ok (.isub, 1) := by decide +kernel
theorem dX9_cutsMarkup_65 : decode cX9_cutsMarkup 65 = .ok (.iaload, 1) := by decide +kernel
theorem dX9_cutsMarkup_66 : decode cX9_cutsMarkup 66 = .ok (.invokestatic 156, 3) := by decide +kernel
theorem dX9_cutsMarkup_69 : decode cX9_cutsMarkup 69 = .ok (.ifCond .eq 9, 3) := by decide +kernel
theorem dX9_cutsMarkup_72 : decode cX9_cutsMarkup 72 = .ok (.iinc 9 (-1), 3) := by decide +kernel
theorem dX9_cutsMarkup_75 : decode cX9_cutsMarkup 75 = .ok (.goto (-22), 3) := by decide +kernel
theorem dX9_cutsMarkup_78 : decode cX9_cutsMarkup 78 = .ok (.aload_n 0, 1) := by decide +kernel
theorem dX9_cutsMarkup_79 : decode cX9_cutsMarkup 79 = .ok (.aload_n 3, 1) := by decide +kernel
theorem dX9_cutsMarkup_80 : decode cX9_cutsMarkup 80 = .ok (.aload 4, 2) := by decide +kernel
theorem dX9_cutsMarkup_82 : decode cX9_cutsMarkup 82 = .ok (.aload 5, 2) := by decide +kernel
theorem dX9_cutsMarkup_84 : decode cX9_cutsMarkup 84 = .ok (.iload 8, 2) := by decide +kernel
theorem dX9_cutsMarkup_86 : decode cX9_cutsMarkup 86 = .ok (.iload 9, 2) := by decide +kernel
theorem dX9_cutsMarkup_88 : decode cX9_cutsMarkup 88 = .ok (.iconst 0, 1) := by decide +kernel
theorem dX9_cutsMarkup_89 : decode cX9_cutsMarkup 89 = .ok (.invokevirtual 152, 3) := by decide +kernel
theorem dX9_cutsMarkup_92 : decode cX9_cutsMarkup 92 = .ok (.aload_n 1, 1) := by decide +kernel
theorem dX9_cutsMarkup_93 : decode cX9_cutsMarkup 93 = .ok (.iload_n 2, 1) := by decide +kernel
theorem dX9_cutsMarkup_94 : decode cX9_cutsMarkup 94 = .ok (.iload 7, 2) := by decide +kernel
theorem dX9_cutsMarkup_96 : decode cX9_cutsMarkup 96 = .ok (.bipush 62, 2) := by decide +kernel
theorem dX9_cutsMarkup_98 : decode cX9_cutsMarkup 98 = .ok (.bipush 62, 2) := by decide +kernel
theorem dX9_cutsMarkup_100 : decode cX9_cutsMarkup 100 = .ok (.invokestatic 148, 3) := by decide +kernel
theorem dX9_cutsMarkup_103 : decode cX9_cutsMarkup 103 = .ok (.iconst 1, 1) := by decide +kernel
theorem dX9_cutsMarkup_104 : decode cX9_cutsMarkup 104 = .ok (.iadd, 1) := by decide +kernel
theorem dX9_cutsMarkup_105 : decode cX9_cutsMarkup 105 = .ok (.istore 6, 2) := by decide +kernel
theorem dX9_cutsMarkup_107 : decode cX9_cutsMarkup 107 = .ok (.goto (-104), 3) := by decide +kernel
theorem dX9_cutsMarkup_110 : decode cX9_cutsMarkup 110 = .ok (.return_, 1) := by decide +kernel
theorem dX9_cutsQuotes_0 : decode cX9_cutsQuotes 0 = .ok (.aload_n 1, 1) := by decide +kernel
theorem dX9_cutsQuotes_1 : decode cX9_cutsQuotes 1 = .ok (.iload_n 2, 1) := by decide +kernel
theorem dX9_cutsQuotes_2 : decode cX9_cutsQuotes 2 = .ok (.iconst 0, 1) := by decide +kernel
theorem dX9_cutsQuotes_3 : decode cX9_cutsQuotes 3 = .ok (.bipush 34, 2) := by decide +kernel
theorem dX9_cutsQuotes_5 : decode cX9_cutsQuotes 5 = .ok (.bipush 34, 2) := by decide +kernel
theorem dX9_cutsQuotes_7 : decode cX9_cutsQuotes 7 = .ok (.invokestatic 148, 3) := by decide +kernel
theorem dX9_cutsQuotes_10 : decode cX9_cutsQuotes 10 = .ok (.istore 6, 2) := by decide +kernel
theorem dX9_cutsQuotes_12 : decode cX9_cutsQuotes 12 = .ok (.iload 6, 2) := by decide +kernel
theorem dX9_cutsQuotes_14 : decode cX9_cutsQuotes 14 = .ok (.iload_n 2, 1) := by decide +kernel
theorem dX9_cutsQuotes_15 : decode cX9_cutsQuotes 15 = .ok (.if_icmp .ge 151, 3) := by decide +kernel
theorem dX9_cutsQuotes_18 : decode cX9_cutsQuotes 18 = .ok (.iload 6, 2) := by decide +kernel
theorem dX9_cutsQuotes_20 : decode cX9_cutsQuotes 20 = .ok (.iconst 1, 1) := by decide +kernel
theorem dX9_cutsQuotes_21 : decode cX9_cutsQuotes 21 = .ok (.iadd, 1) := by decide +kernel
theorem dX9_cutsQuotes_22 : decode cX9_cutsQuotes 22 = .ok (.istore 7, 2) := by decide +kernel
theorem dX9_cutsQuotes_24 : decode cX9_cutsQuotes 24 = .ok (.iload 7, 2) := by decide +kernel
theorem dX9_cutsQuotes_26 : decode cX9_cutsQuotes 26 = .ok (.iload_n 2, 1) := by decide +kernel
theorem dX9_cutsQuotes_27 : decode cX9_cutsQuotes 27 = .ok (.if_icmp .ge 42, 3) := by decide +kernel
theorem dX9_cutsQuotes_30 : decode cX9_cutsQuotes 30 = .ok (.aload_n 1, 1) := by decide +kernel
theorem dX9_cutsQuotes_31 : decode cX9_cutsQuotes 31 = .ok (.iload 7, 2) := by decide +kernel
theorem dX9_cutsQuotes_33 : decode cX9_cutsQuotes 33 = .ok (.iaload, 1) := by decide +kernel
theorem dX9_cutsQuotes_34 : decode cX9_cutsQuotes 34 = .ok (.bipush 34, 2) := by decide +kernel
theorem dX9_cutsQuotes_36 : decode cX9_cutsQuotes 36 = .ok (.if_icmp .eq 33, 3) := by decide +kernel
theorem dX9_cutsQuotes_39 : decode cX9_cutsQuotes 39 = .ok (.iload 7, 2) := by decide +kernel
theorem dX9_cutsQuotes_41 : decode cX9_cutsQuotes 41 = .ok (.aload_n 1, 1) := by decide +kernel
theorem dX9_cutsQuotes_42 : decode cX9_cutsQuotes 42 = .ok (.iload 7, 2) := by decide +kernel
theorem dX9_cutsQuotes_44 : decode cX9_cutsQuotes 44 = .ok (.iaload, 1) := by decide +kernel
theorem dX9_cutsQuotes_45 : decode cX9_cutsQuotes 45 = .ok (.bipush 92, 2) := by decide +kernel
theorem dX9_cutsQuotes_47 : decode cX9_cutsQuotes 47 = .ok (.if_icmp .ne 15, 3) := by decide +kernel
theorem dX9_cutsQuotes_50 : decode cX9_cutsQuotes 50 = .ok (.iload 7, 2) := by decide +kernel
theorem dX9_cutsQuotes_52 : decode cX9_cutsQuotes 52 = .ok (.iconst 1, 1) := by decide +kernel
theorem dX9_cutsQuotes_53 : decode cX9_cutsQuotes 53 = .ok (.iadd, 1) := by decide +kernel
theorem dX9_cutsQuotes_54 : decode cX9_cutsQuotes 54 = .ok (.iload_n 2, 1) := by decide +kernel
theorem dX9_cutsQuotes_55 : decode cX9_cutsQuotes 55 = .ok (.if_icmp .ge 7, 3) := by decide +kernel
theorem dX9_cutsQuotes_58 : decode cX9_cutsQuotes 58 = .ok (.iconst 2, 1) := by decide +kernel
theorem dX9_cutsQuotes_59 : decode cX9_cutsQuotes 59 = .ok (.goto 4, 3) := by decide +kernel
theorem dX9_cutsQuotes_62 : decode cX9_cutsQuotes 62 = .ok (.iconst 1, 1) := by decide +kernel
theorem dX9_cutsQuotes_63 : decode cX9_cutsQuotes 63 = .ok (.iadd, 1) := by decide +kernel
theorem dX9_cutsQuotes_64 : decode cX9_cutsQuotes 64 = .ok (.istore 7, 2) := by decide +kernel
theorem dX9_cutsQuotes_66 : decode cX9_cutsQuotes 66 = .ok (.goto (-42), 3) := by decide +kernel
theorem dX9_cutsQuotes_69 : decode cX9_cutsQuotes 69 = .ok (.iload 7, 2) := by decide +kernel
theorem dX9_cutsQuotes_71 : decode cX9_cutsQuotes 71 = .ok (.iconst 1, 1) := by decide +kernel
theorem dX9_cutsQuotes_72 : decode cX9_cutsQuotes 72 = .ok (.iadd, 1) := by decide +kernel
theorem dX9_cutsQuotes_73 : decode cX9_cutsQuotes 73 = .ok (.istore 8, 2) := by decide +kernel
theorem dX9_cutsQuotes_75 : decode cX9_cutsQuotes 75 = .ok (.iload 8, 2) := by decide +kernel
theorem dX9_cutsQuotes_77 : decode cX9_cutsQuotes 77 = .ok (.iload_n 2, 1) := by decide +kernel
theorem dX9_cutsQuotes_78 : decode cX9_cutsQuotes 78 = .ok (.if_icmp .ge 19, 3) := by decide +kernel
theorem dX9_cutsQuotes_81 : decode cX9_cutsQuotes 81 = .ok (.aload_n 1, 1) := by decide +kernel
theorem dX9_cutsQuotes_82 : decode cX9_cutsQuotes 82 = .ok (.iload 8, 2) := by decide +kernel
theorem dX9_cutsQuotes_84 : decode cX9_cutsQuotes 84 = .ok (.iaload, 1) := by decide +kernel
theorem dX9_cutsQuotes_85 : decode cX9_cutsQuotes 85 = .ok (.invokestatic 156, 3) := by decide +kernel
theorem dX9_cutsQuotes_88 : decode cX9_cutsQuotes 88 = .ok (.ifCond .eq 9, 3) := by decide +kernel
theorem dX9_cutsQuotes_91 : decode cX9_cutsQuotes 91 = .ok (.iinc 8 1, 3) := by decide +kernel
theorem dX9_cutsQuotes_94 : decode cX9_cutsQuotes 94 = .ok (.goto (-19), 3) := by decide +kernel
theorem dX9_cutsQuotes_97 : decode cX9_cutsQuotes 97 = .ok (.iload 8, 2) := by decide +kernel
theorem dX9_cutsQuotes_99 : decode cX9_cutsQuotes 99 = .ok (.iload_n 2, 1) := by decide +kernel
theorem dX9_cutsQuotes_100 : decode cX9_cutsQuotes 100 = .ok (.if_icmp .ge 12, 3) := by decide +kernel
theorem dX9_cutsQuotes_103 : decode cX9_cutsQuotes 103 = .ok (.aload_n 1, 1) := by decide +kernel
theorem dX9_cutsQuotes_104 : decode cX9_cutsQuotes 104 = .ok (.iload 8, 2) := by decide +kernel
theorem dX9_cutsQuotes_106 : decode cX9_cutsQuotes 106 = .ok (.iaload, 1) := by decide +kernel
theorem dX9_cutsQuotes_107 : decode cX9_cutsQuotes 107 = .ok (.bipush 58, 2) := by decide +kernel
theorem dX9_cutsQuotes_109 : decode cX9_cutsQuotes 109 = .ok (.if_icmp .eq 29, 3) := by decide +kernel
theorem dX9_cutsQuotes_112 : decode cX9_cutsQuotes 112 = .ok (.aload_n 0, 1) := by decide +kernel
theorem dX9_cutsQuotes_113 : decode cX9_cutsQuotes 113 = .ok (.aload_n 3, 1) := by decide +kernel
theorem dX9_cutsQuotes_114 : decode cX9_cutsQuotes 114 = .ok (.aload 4, 2) := by decide +kernel
theorem dX9_cutsQuotes_116 : decode cX9_cutsQuotes 116 = .ok (.aload 5, 2) := by decide +kernel
theorem dX9_cutsQuotes_118 : decode cX9_cutsQuotes 118 = .ok (.iload 6, 2) := by decide +kernel
theorem dX9_cutsQuotes_120 : decode cX9_cutsQuotes 120 = .ok (.iconst 1, 1) := by decide +kernel
theorem dX9_cutsQuotes_121 : decode cX9_cutsQuotes 121 = .ok (.iadd, 1) := by decide +kernel
theorem dX9_cutsQuotes_122 : decode cX9_cutsQuotes 122 = .ok (.iload 7, 2) := by decide +kernel
theorem dX9_cutsQuotes_124 : decode cX9_cutsQuotes 124 = .ok (.iload_n 2, 1) := by decide +kernel
theorem dX9_cutsQuotes_125 : decode cX9_cutsQuotes 125 = .ok (.if_icmp .ge 8, 3) := by decide +kernel
theorem dX9_cutsQuotes_128 : decode cX9_cutsQuotes 128 = .ok (.iload 7, 2) := by decide +kernel
theorem dX9_cutsQuotes_130 : decode cX9_cutsQuotes 130 = .ok (.goto 4, 3) := by decide +kernel
theorem dX9_cutsQuotes_133 : decode cX9_cutsQuotes 133 = .ok (.iload_n 2, 1) := by decide +kernel
theorem dX9_cutsQuotes_134 : decode cX9_cutsQuotes 134 = .ok (.iconst 0, 1) := by decide +kernel
theorem dX9_cutsQuotes_135 : decode cX9_cutsQuotes 135 = .ok (.invokevirtual 152, 3) := by decide +kernel
theorem dX9_cutsQuotes_138 : decode cX9_cutsQuotes 138 = .ok (.iload 7, 2) := by decide +kernel
theorem dX9_cutsQuotes_140 : decode cX9_cutsQuotes 140 = .ok (.iload_n 2, 1) := by decide +kernel
theorem dX9_cutsQuotes_141 : decode cX9_cutsQuotes 141 = .ok (.if_icmp .ge 19, 3) := by decide +kernel
theorem dX9_cutsQuotes_144 : decode cX9_cutsQuotes 144 = .ok (.aload_n 1, 1) := by decide +kernel
theorem dX9_cutsQuotes_145 : decode cX9_cutsQuotes 145 = .ok (.iload_n 2, 1) := by decide +kernel
theorem dX9_cutsQuotes_146 : decode cX9_cutsQuotes 146 = .ok (.iload 7, 2) := by decide +kernel
theorem dX9_cutsQuotes_148 : decode cX9_cutsQuotes 148 = .ok (.iconst 1, 1) := by decide +kernel
theorem dX9_cutsQuotes_149 : decode cX9_cutsQuotes 149 = .ok (.iadd, 1) := by decide +kernel
theorem dX9_cutsQuotes_150 : decode cX9_cutsQuotes 150 = .ok (.bipush 34, 2) := by decide +kernel
theorem dX9_cutsQuotes_152 : decode cX9_cutsQuotes 152 = .ok (.bipush 34, 2) := by decide +kernel
theorem dX9_cutsQuotes_154 : decode cX9_cutsQuotes 154 = .ok (.invokestatic 148, 3) := by decide +kernel
theorem dX9_cutsQuotes_157 : decode cX9_cutsQuotes 157 = .ok (.goto 4, 3) := by decide +kernel
theorem dX9_cutsQuotes_160 : decode cX9_cutsQuotes 160 = .ok (.iload_n 2, 1) := by decide +kernel
theorem dX9_cutsQuotes_161 : decode cX9_cutsQuotes 161 = .ok (.istore 6, 2) := by decide +kernel
theorem dX9_cutsQuotes_163 : decode cX9_cutsQuotes 163 = .ok (.goto (-151), 3) := by decide +kernel
theorem dX9_cutsQuotes_166 : decode cX9_cutsQuotes 166 = .ok (.return_, 1) := by decide +kernel
theorem dX9_cutsTable_0 : decode cX9_cutsTable 0 = .ok (.iconst 0, 1) := by decide +kernel
theorem dX9_cutsTable_1 : decode cX9_cutsTable 1 = .ok (.istore 6, 2) := by decide +kernel
theorem dX9_cutsTable_3 : decode cX9_cutsTable 3 = .ok (.iload 6, 2) := by decide +kernel
theorem dX9_cutsTable_5 : decode cX9_cutsTable 5 = .ok (.iload_n 2, 1) := by decide +kernel
theorem dX9_cutsTable_6 : decode cX9_cutsTable 6 = .ok (.if_icmp .ge 154, 3) := by decide +kernel
theorem dX9_cutsTable_9 : decode cX9_cutsTable 9 = .ok (.aload_n 1, 1) := by decide +kernel
theorem dX9_cutsTable_10 : decode cX9_cutsTable 10 = .ok (.iload_n 2, 1) := by decide +kernel
theorem dX9_cutsTable_11 : decode cX9_cutsTable 11 = .ok (.iload 6, 2) := by decide +kernel
theorem dX9_cutsTable_13 : decode cX9_cutsTable 13 = .ok (.bipush 44, 2) := by decide +kernel
theorem dX9_cutsTable_15 : decode cX9_cutsTable 15 = .ok (.bipush 10, 2) := by decide +kernel
theorem dX9_cutsTable_17 : decode cX9_cutsTable 17 = .ok (.invokestatic 148, 3) := by decide +kernel
theorem dX9_cutsTable_20 : decode cX9_cutsTable 20 = .ok (.istore 7, 2) := by decide +kernel
theorem dX9_cutsTable_22 : decode cX9_cutsTable 22 = .ok (.aload_n 1, 1) := by decide +kernel
theorem dX9_cutsTable_23 : decode cX9_cutsTable 23 = .ok (.iload 6, 2) := by decide +kernel
theorem dX9_cutsTable_25 : decode cX9_cutsTable 25 = .ok (.iaload, 1) := by decide +kernel
theorem dX9_cutsTable_26 : decode cX9_cutsTable 26 = .ok (.bipush 34, 2) := by decide +kernel
theorem dX9_cutsTable_28 : decode cX9_cutsTable 28 = .ok (.if_icmp .ne 109, 3) := by decide +kernel
theorem dX9_cutsTable_31 : decode cX9_cutsTable 31 = .ok (.iload 6, 2) := by decide +kernel
theorem dX9_cutsTable_33 : decode cX9_cutsTable 33 = .ok (.iconst 1, 1) := by decide +kernel
theorem dX9_cutsTable_34 : decode cX9_cutsTable 34 = .ok (.iadd, 1) := by decide +kernel
theorem dX9_cutsTable_35 : decode cX9_cutsTable 35 = .ok (.istore 8, 2) := by decide +kernel
theorem dX9_cutsTable_37 : decode cX9_cutsTable 37 = .ok (.iload 8, 2) := by decide +kernel
theorem dX9_cutsTable_39 : decode cX9_cutsTable 39 = .ok (.iload_n 2, 1) := by decide +kernel
theorem dX9_cutsTable_40 : decode cX9_cutsTable 40 = .ok (.if_icmp .ge 53, 3) := by decide +kernel
theorem dX9_cutsTable_43 : decode cX9_cutsTable 43 = .ok (.aload_n 1, 1) := by decide +kernel
theorem dX9_cutsTable_44 : decode cX9_cutsTable 44 = .ok (.iload 8, 2) := by decide +kernel
theorem dX9_cutsTable_46 : decode cX9_cutsTable 46 = .ok (.iaload, 1) := by decide +kernel
theorem dX9_cutsTable_47 : decode cX9_cutsTable 47 = .ok (.bipush 34, 2) := by decide +kernel
theorem dX9_cutsTable_49 : decode cX9_cutsTable 49 = .ok (.if_icmp .ne 22, 3) := by decide +kernel
theorem dX9_cutsTable_52 : decode cX9_cutsTable 52 = .ok (.iload 8, 2) := by decide +kernel
theorem dX9_cutsTable_54 : decode cX9_cutsTable 54 = .ok (.iconst 1, 1) := by decide +kernel
theorem dX9_cutsTable_55 : decode cX9_cutsTable 55 = .ok (.iadd, 1) := by decide +kernel
theorem dX9_cutsTable_56 : decode cX9_cutsTable 56 = .ok (.iload_n 2, 1) := by decide +kernel
theorem dX9_cutsTable_57 : decode cX9_cutsTable 57 = .ok (.if_icmp .ge 36, 3) := by decide +kernel
theorem dX9_cutsTable_60 : decode cX9_cutsTable 60 = .ok (.aload_n 1, 1) := by decide +kernel
theorem dX9_cutsTable_61 : decode cX9_cutsTable 61 = .ok (.iload 8, 2) := by decide +kernel
theorem dX9_cutsTable_63 : decode cX9_cutsTable 63 = .ok (.iconst 1, 1) := by decide +kernel
theorem dX9_cutsTable_64 : decode cX9_cutsTable 64 = .ok (.iadd, 1) := by decide +kernel
theorem dX9_cutsTable_65 : decode cX9_cutsTable 65 = .ok (.iaload, 1) := by decide +kernel
theorem dX9_cutsTable_66 : decode cX9_cutsTable 66 = .ok (.bipush 34, 2) := by decide +kernel
theorem dX9_cutsTable_68 : decode cX9_cutsTable 68 = .ok (.if_icmp .ne 25, 3) := by decide +kernel
theorem dX9_cutsTable_71 : decode cX9_cutsTable 71 = .ok (.iload 8, 2) := by decide +kernel
theorem dX9_cutsTable_73 : decode cX9_cutsTable 73 = .ok (.aload_n 1, 1) := by decide +kernel
theorem dX9_cutsTable_74 : decode cX9_cutsTable 74 = .ok (.iload 8, 2) := by decide +kernel
theorem dX9_cutsTable_76 : decode cX9_cutsTable 76 = .ok (.iaload, 1) := by decide +kernel
theorem dX9_cutsTable_77 : decode cX9_cutsTable 77 = .ok (.bipush 34, 2) := by decide +kernel
theorem dX9_cutsTable_79 : decode cX9_cutsTable 79 = .ok (.if_icmp .ne 7, 3) := by decide +kernel
theorem dX9_cutsTable_82 : decode cX9_cutsTable 82 = .ok (.iconst 2, 1) := by decide +kernel
theorem dX9_cutsTable_83 : decode cX9_cutsTable 83 = .ok (.goto 4, 3) := by decide +kernel
theorem dX9_cutsTable_86 : decode cX9_cutsTable 86 = .ok (.iconst 1, 1) := by decide +kernel
theorem dX9_cutsTable_87 : decode cX9_cutsTable 87 = .ok (.iadd, 1) := by decide +kernel
theorem dX9_cutsTable_88 : decode cX9_cutsTable 88 = .ok (.istore 8, 2) := by decide +kernel
theorem dX9_cutsTable_90 : decode cX9_cutsTable 90 = .ok (.goto (-53), 3) := by decide +kernel
theorem dX9_cutsTable_93 : decode cX9_cutsTable 93 = .ok (.aload_n 0, 1) := by decide +kernel
theorem dX9_cutsTable_94 : decode cX9_cutsTable 94 = .ok (.aload_n 3, 1) := by decide +kernel
theorem dX9_cutsTable_95 : decode cX9_cutsTable 95 = .ok (.aload 4, 2) := by decide +kernel
theorem dX9_cutsTable_97 : decode cX9_cutsTable 97 = .ok (.aload 5, 2) := by decide +kernel
theorem dX9_cutsTable_99 : decode cX9_cutsTable 99 = .ok (.iload 6, 2) := by decide +kernel
theorem dX9_cutsTable_101 : decode cX9_cutsTable 101 = .ok (.iconst 1, 1) := by decide +kernel
theorem dX9_cutsTable_102 : decode cX9_cutsTable 102 = .ok (.iadd, 1) := by decide +kernel
theorem dX9_cutsTable_103 : decode cX9_cutsTable 103 = .ok (.iload 8, 2) := by decide +kernel
theorem dX9_cutsTable_105 : decode cX9_cutsTable 105 = .ok (.iconst 1, 1) := by decide +kernel
theorem dX9_cutsTable_106 : decode cX9_cutsTable 106 = .ok (.invokevirtual 152, 3) := by decide +kernel
theorem dX9_cutsTable_109 : decode cX9_cutsTable 109 = .ok (.iload 8, 2) := by decide +kernel
theorem dX9_cutsTable_111 : decode cX9_cutsTable 111 = .ok (.iload_n 2, 1) := by decide +kernel
theorem dX9_cutsTable_112 : decode cX9_cutsTable 112 = .ok (.if_icmp .ge 19, 3) := by decide +kernel
theorem dX9_cutsTable_115 : decode cX9_cutsTable 115 = .ok (.aload_n 1, 1) := by decide +kernel
theorem dX9_cutsTable_116 : decode cX9_cutsTable 116 = .ok (.iload_n 2, 1) := by decide +kernel
theorem dX9_cutsTable_117 : decode cX9_cutsTable 117 = .ok (.iload 8, 2) := by decide +kernel
theorem dX9_cutsTable_119 : decode cX9_cutsTable 119 = .ok (.iconst 1, 1) := by decide +kernel
theorem dX9_cutsTable_120 : decode cX9_cutsTable 120 = .ok (.iadd, 1) := by decide +kernel
theorem dX9_cutsTable_121 : decode cX9_cutsTable 121 = .ok (.bipush 44, 2) := by decide +kernel
theorem dX9_cutsTable_123 : decode cX9_cutsTable 123 = .ok (.bipush 10, 2) := by decide +kernel
theorem dX9_cutsTable_125 : decode cX9_cutsTable 125 = .ok (.invokestatic 148, 3) := by decide +kernel
theorem dX9_cutsTable_128 : decode cX9_cutsTable 128 = .ok (.goto 4, 3) := by decide +kernel
theorem dX9_cutsTable_131 : decode cX9_cutsTable 131 = .ok (.iload_n 2, 1) := by decide +kernel
theorem dX9_cutsTable_132 : decode cX9_cutsTable 132 = .ok (.istore 7, 2) := by decide +kernel
theorem dX9_cutsTable_134 : decode cX9_cutsTable 134 = .ok (.goto 17, 3) := by decide +kernel
theorem dX9_cutsTable_137 : decode cX9_cutsTable 137 = .ok (.aload_n 0, 1) := by decide +kernel
theorem dX9_cutsTable_138 : decode cX9_cutsTable 138 = .ok (.aload_n 3, 1) := by decide +kernel
theorem dX9_cutsTable_139 : decode cX9_cutsTable 139 = .ok (.aload 4, 2) := by decide +kernel
theorem dX9_cutsTable_141 : decode cX9_cutsTable 141 = .ok (.aload 5, 2) := by decide +kernel
theorem dX9_cutsTable_143 : decode cX9_cutsTable 143 = .ok (.iload 6, 2) := by decide +kernel
theorem dX9_cutsTable_145 : decode cX9_cutsTable 145 = .ok (.iload 7, 2) := by decide +kernel
theorem dX9_cutsTable_147 : decode cX9_cutsTable 147 = .ok (.iconst 0, 1) := by decide +kernel
theorem dX9_cutsTable_148 : decode cX9_cutsTable 148 = .ok (.invokevirtual 152, 3) := by decide +kernel
theorem dX9_cutsTable_151 : decode cX9_cutsTable 151 = .ok (.iload 7, 2) := by decide +kernel
theorem dX9_cutsTable_153 : decode cX9_cutsTable 153 = .ok (.iconst 1, 1) := by decide +kernel
theorem dX9_cutsTable_154 : decode cX9_cutsTable 154 = .ok (.iadd, 1) := by decide +kernel
theorem dX9_cutsTable_155 : decode cX9_cutsTable 155 = .ok (.istore 6, 2) := by decide +kernel
theorem dX9_cutsTable_157 : decode cX9_cutsTable 157 = .ok (.goto (-154), 3) := by decide +kernel
theorem dX9_cutsTable_160 : decode cX9_cutsTable 160 = .ok (.return_, 1) := by decide +kernel
theorem dX9_end_0 : decode cX9_end 0 = .ok (.aload_n 0, 1) := by decide +kernel
theorem dX9_end_1 : decode cX9_end 1 = .ok (.iconst 0, 1) := by decide +kernel
theorem dX9_end_2 : decode cX9_end 2 = .ok (.putfield 138, 3) := by decide +kernel
theorem dX9_end_5 : decode cX9_end 5 = .ok (.iload_n 1, 1) := by decide +kernel
theorem dX9_end_6 : decode cX9_end 6 = .ok (.iconst 0, 1) := by decide +kernel
theorem dX9_end_7 : decode cX9_end 7 = .ok (.aload_n 0, 1) := by decide +kernel
theorem dX9_end_8 : decode cX9_end 8 = .ok (.getfield 337, 3) := by decide +kernel
theorem dX9_end_11 : decode cX9_end 11 = .ok (.invokestatic 141, 3) := by decide +kernel
theorem dX9_end_14 : decode cX9_end 14 = .ok (.ifCond .ne 5, 3) := by decide +kernel
theorem dX9_end_17 : decode cX9_end 17 = .ok (.iconst 0, 1) := by decide +kernel
theorem dX9_end_18 : decode cX9_end 18 = .ok (.ireturn, 1) := by decide +kernel
theorem dX9_end_19 : decode cX9_end 19 = .ok (.aload_n 0, 1) := by decide +kernel
theorem dX9_end_20 : decode cX9_end 20 = .ok (.iload_n 1, 1) := by decide +kernel
theorem dX9_end_21 : decode cX9_end 21 = .ok (.putfield 337, 3) := by decide +kernel
theorem dX9_end_24 : decode cX9_end 24 = .ok (.iconst 1, 1) := by decide +kernel
theorem dX9_end_25 : decode cX9_end 25 = .ok (.ireturn, 1) := by decide +kernel
theorem dX9_endOf_0 : decode cX9_endOf 0 = .ok (.iload_n 2, 1) := by decide +kernel
theorem dX9_endOf_1 : decode cX9_endOf 1 = .ok (.istore 5, 2) := by decide +kernel
theorem dX9_endOf_3 : decode cX9_endOf 3 = .ok (.iload 5, 2) := by decide +kernel
theorem dX9_endOf_5 : decode cX9_endOf 5 = .ok (.iload_n 1, 1) := by decide +kernel
theorem dX9_endOf_6 : decode cX9_endOf 6 = .ok (.if_icmp .ge 26, 3) := by decide +kernel
theorem dX9_endOf_9 : decode cX9_endOf 9 = .ok (.aload_n 0, 1) := by decide +kernel
theorem dX9_endOf_10 : decode cX9_endOf 10 = .ok (.iload 5, 2) := by decide +kernel
theorem dX9_endOf_12 : decode cX9_endOf 12 = .ok (.iaload, 1) := by decide +kernel
theorem dX9_endOf_13 : decode cX9_endOf 13 = .ok (.iload_n 3, 1) := by decide +kernel
theorem dX9_endOf_14 : decode cX9_endOf 14 = .ok (.if_icmp .eq 18, 3) := by decide +kernel
theorem dX9_endOf_17 : decode cX9_endOf 17 = .ok (.aload_n 0, 1) := by decide +kernel
theorem dX9_endOf_18 : decode cX9_endOf 18 = .ok (.iload 5, 2) := by decide +kernel
theorem dX9_endOf_20 : decode cX9_endOf 20 = .ok (.iaload, 1) := by decide +kernel
theorem dX9_endOf_21 : decode cX9_endOf 21 = .ok (.iload 4, 2) := by decide +kernel
theorem dX9_endOf_23 : decode cX9_endOf 23 = .ok (.if_icmp .eq 9, 3) := by decide +kernel
theorem dX9_endOf_26 : decode cX9_endOf 26 = .ok (.iinc 5 1, 3) := by decide +kernel
theorem dX9_endOf_29 : decode cX9_endOf 29 = .ok (.goto (-26), 3) := by decide +kernel
theorem dX9_endOf_32 : decode cX9_endOf 32 = .ok (.iload 5, 2) := by decide +kernel
theorem dX9_endOf_34 : decode cX9_endOf 34 = .ok (.ireturn, 1) := by decide +kernel
theorem dX9_escapedFor_0 : decode cX9_escapedFor 0 = .ok (.aload_n 0, 1) := by decide +kernel
theorem dX9_escapedFor_1 : decode cX9_escapedFor 1 = .ok (.getfield 7, 3) := by decide +kernel
theorem dX9_escapedFor_4 : decode cX9_escapedFor 4 = .ok (.iconst 2, 1) := by decide +kernel
theorem dX9_escapedFor_5 : decode cX9_escapedFor 5 = .ok (.iaload, 1) := by decide +kernel
theorem dX9_escapedFor_6 : decode cX9_escapedFor 6 = .ok (.iconst (-1), 1) := by decide +kernel
theorem dX9_escapedFor_7 : decode cX9_escapedFor 7 = .ok (.if_icmp .ne 53, 3) := by decide +kernel
theorem dX9_escapedFor_10 : decode cX9_escapedFor 10 = .ok (.aload_n 0, 1) := by decide +kernel
theorem dX9_escapedFor_11 : decode cX9_escapedFor 11 = .ok (.aload_n 0, 1) := by decide +kernel
theorem dX9_escapedFor_12 : decode cX9_escapedFor 12 = .ok (.getfield 7, 3) := by decide +kernel
theorem dX9_escapedFor_15 : decode cX9_escapedFor 15 = .ok (.iconst 1, 1) := by decide +kernel
theorem dX9_escapedFor_16 : decode cX9_escapedFor 16 = .ok (.iaload, 1) := by decide +kernel
theorem dX9_escapedFor_17 : decode cX9_escapedFor 17 = .ok (.aload_n 0, 1) := by decide +kernel
theorem dX9_escapedFor_18 : decode cX9_escapedFor 18 = .ok (.getfield 87, 3) := by decide +kernel
theorem dX9_escapedFor_21 : decode cX9_escapedFor 21 = .ok (.iload_n 1, 1) := by decide +kernel
theorem dX9_escapedFor_22 : decode cX9_escapedFor 22 = .ok (.iaload, 1) := by decide +kernel
theorem dX9_escapedFor_23 : decode cX9_escapedFor 23 = .ok (.iconst 1, 1) := by decide +kernel
theorem dX9_escapedFor_24 : decode cX9_escapedFor 24 = .ok (.if_icmp .ne 7, 3) := by decide +kernel
theorem dX9_escapedFor_27 : decode cX9_escapedFor 27 = .ok (.iconst 1, 1) := by decide +kernel
theorem dX9_escapedFor_28 : decode cX9_escapedFor 28 = .ok (.goto 4, 3) := by decide +kernel
theorem dX9_escapedFor_31 : decode cX9_escapedFor 31 = .ok (.iconst 0, 1) := by decide +kernel
theorem dX9_escapedFor_32 : decode cX9_escapedFor 32 = .ok (.aload_n 0, 1) := by decide +kernel
theorem dX9_escapedFor_33 : decode cX9_escapedFor 33 = .ok (.getfield 93, 3) := by decide +kernel
theorem dX9_escapedFor_36 : decode cX9_escapedFor 36 = .ok (.iload_n 1, 1) := by decide +kernel
theorem dX9_escapedFor_37 : decode cX9_escapedFor 37 = .ok (.iaload, 1) := by decide +kernel
theorem dX9_escapedFor_38 : decode cX9_escapedFor 38 = .ok (.iconst 1, 1) := by decide +kernel
theorem dX9_escapedFor_39 : decode cX9_escapedFor 39 = .ok (.if_icmp .ne 7, 3) := by decide +kernel
theorem dX9_escapedFor_42 : decode cX9_escapedFor 42 = .ok (.iconst 1, 1) := by decide +kernel
theorem dX9_escapedFor_43 : decode cX9_escapedFor 43 = .ok (.goto 4, 3) := by decide +kernel
theorem dX9_escapedFor_46 : decode cX9_escapedFor 46 = .ok (.iconst 0, 1) := by decide +kernel
theorem dX9_escapedFor_47 : decode cX9_escapedFor 47 = .ok (.aload_n 0, 1) := by decide +kernel
theorem dX9_escapedFor_48 : decode cX9_escapedFor 48 = .ok (.getfield 132, 3) := by decide +kernel
theorem dX9_escapedFor_51 : decode cX9_escapedFor 51 = .ok (.iload_n 2, 1) := by decide +kernel
theorem dX9_escapedFor_52 : decode cX9_escapedFor 52 = .ok (.aload_n 0, 1) := by decide +kernel
theorem dX9_escapedFor_53 : decode cX9_escapedFor 53 = .ok (.getfield 117, 3) := by decide +kernel
theorem dX9_escapedFor_56 : decode cX9_escapedFor 56 = .ok (.invokevirtual 279, 3) := by decide +kernel
theorem dX9_escapedFor_59 : decode cX9_escapedFor 59 = .ok (.ireturn, 1) := by decide +kernel
theorem dX9_escapedFor_60 : decode cX9_escapedFor 60 = .ok (.aload_n 0, 1) := by decide +kernel
theorem dX9_escapedFor_61 : decode cX9_escapedFor 61 = .ok (.aload_n 0, 1) := by decide +kernel
theorem dX9_escapedFor_62 : decode cX9_escapedFor 62 = .ok (.getfield 7, 3) := by decide +kernel
theorem dX9_escapedFor_65 : decode cX9_escapedFor 65 = .ok (.iconst 2, 1) := by decide +kernel
theorem dX9_escapedFor_66 : decode cX9_escapedFor 66 = .ok (.iaload, 1) := by decide +kernel
theorem dX9_escapedFor_67 : decode cX9_escapedFor 67 = .ok (.aload_n 0, 1) := by decide +kernel
theorem dX9_escapedFor_68 : decode cX9_escapedFor 68 = .ok (.getfield 90, 3) := by decide +kernel
theorem dX9_escapedFor_71 : decode cX9_escapedFor 71 = .ok (.iload_n 1, 1) := by decide +kernel
theorem dX9_escapedFor_72 : decode cX9_escapedFor 72 = .ok (.iaload, 1) := by decide +kernel
theorem dX9_escapedFor_73 : decode cX9_escapedFor 73 = .ok (.iconst 1, 1) := by decide +kernel
theorem dX9_escapedFor_74 : decode cX9_escapedFor 74 = .ok (.if_icmp .ne 7, 3) := by decide +kernel
theorem dX9_escapedFor_77 : decode cX9_escapedFor 77 = .ok (.iconst 1, 1) := by decide +kernel
theorem dX9_escapedFor_78 : decode cX9_escapedFor 78 = .ok (.goto 4, 3) := by decide +kernel
theorem dX9_escapedFor_81 : decode cX9_escapedFor 81 = .ok (.iconst 0, 1) := by decide +kernel
theorem dX9_escapedFor_82 : decode cX9_escapedFor 82 = .ok (.iconst 1, 1) := by decide +kernel
theorem dX9_escapedFor_83 : decode cX9_escapedFor 83 = .ok (.aload_n 0, 1) := by decide +kernel
theorem dX9_escapedFor_84 : decode cX9_escapedFor 84 = .ok (.getfield 132, 3) := by decide +kernel
theorem dX9_escapedFor_87 : decode cX9_escapedFor 87 = .ok (.iload_n 2, 1) := by decide +kernel
theorem dX9_escapedFor_88 : decode cX9_escapedFor 88 = .ok (.aload_n 0, 1) := by decide +kernel
theorem dX9_escapedFor_89 : decode cX9_escapedFor 89 = .ok (.getfield 114, 3) := by decide +kernel
theorem dX9_escapedFor_92 : decode cX9_escapedFor 92 = .ok (.invokevirtual 279, 3) := by decide +kernel
theorem dX9_escapedFor_95 : decode cX9_escapedFor 95 = .ok (.istore_n 3, 1) := by decide +kernel
theorem dX9_escapedFor_96 : decode cX9_escapedFor 96 = .ok (.aload_n 0, 1) := by decide +kernel
theorem dX9_escapedFor_97 : decode cX9_escapedFor 97 = .ok (.getfield 7, 3) := by decide +kernel
theorem dX9_escapedFor_100 : decode cX9_escapedFor 100 = .ok (.iconst 1, 1) := by decide +kernel
theorem dX9_escapedFor_101 : decode cX9_escapedFor 101 = .ok (.iaload, 1) := by decide +kernel
theorem dX9_escapedFor_102 : decode cX9_escapedFor 102 = .ok (.iconst 1, 1) := by decide +kernel
theorem dX9_escapedFor_103 : decode cX9_escapedFor 103 = .ok (.if_icmp .ne 25, 3) := by decide +kernel
theorem dX9_escapedFor_106 : decode cX9_escapedFor 106 = .ok (.aload_n 0, 1) := by decide +kernel
theorem dX9_escapedFor_107 : decode cX9_escapedFor 107 = .ok (.getfield 87, 3) := by decide +kernel
theorem dX9_escapedFor_110 : decode cX9_escapedFor 110 = .ok (.iload_n 1, 1) := by decide +kernel
theorem dX9_escapedFor_111 : decode cX9_escapedFor 111 = .ok (.iaload, 1) := by decide +kernel
theorem dX9_escapedFor_112 : decode cX9_escapedFor 112 = .ok (.ifCond .ne 16, 3) := by decide +kernel
theorem dX9_escapedFor_115 : decode cX9_escapedFor 115 = .ok (.aload_n 0, 1) := by decide +kernel
theorem dX9_escapedFor_116 : decode cX9_escapedFor 116 = .ok (.getfield 114, 3) := by decide +kernel
theorem dX9_escapedFor_119 : decode cX9_escapedFor 119 = .ok (.iload_n 3, 1) := by decide +kernel
theorem dX9_escapedFor_120 : decode cX9_escapedFor 120 = .ok (.invokestatic 269, 3) := by decide +kernel
theorem dX9_escapedFor_123 : decode cX9_escapedFor 123 = .ok (.ifCond .eq 5, 3) := by decide +kernel
theorem dX9_escapedFor_126 : decode cX9_escapedFor 126 = .ok (.iconst (-1), 1) := by decide +kernel
theorem dX9_escapedFor_127 : decode cX9_escapedFor 127 = .ok (.ireturn, 1) := by decide +kernel
theorem dX9_escapedFor_128 : decode cX9_escapedFor 128 = .ok (.aload_n 0, 1) := by decide +kernel
theorem dX9_escapedFor_129 : decode cX9_escapedFor 129 = .ok (.aload_n 0, 1) := by decide +kernel
theorem dX9_escapedFor_130 : decode cX9_escapedFor 130 = .ok (.getfield 7, 3) := by decide +kernel
theorem dX9_escapedFor_133 : decode cX9_escapedFor 133 = .ok (.iconst 1, 1) := by decide +kernel
theorem dX9_escapedFor_134 : decode cX9_escapedFor 134 = .ok (.iaload, 1) := by decide +kernel
theorem dX9_escapedFor_135 : decode cX9_escapedFor 135 = .ok (.aload_n 0, 1) := by decide +kernel
theorem dX9_escapedFor_136 : decode cX9_escapedFor 136 = .ok (.getfield 87, 3) := by decide +kernel
theorem dX9_escapedFor_139 : decode cX9_escapedFor 139 = .ok (.iload_n 1, 1) := by decide +kernel
theorem dX9_escapedFor_140 : decode cX9_escapedFor 140 = .ok (.iaload, 1) := by decide +kernel
theorem dX9_escapedFor_141 : decode cX9_escapedFor 141 = .ok (.iconst 1, 1) := by decide +kernel
theorem dX9_escapedFor_142 : decode cX9_escapedFor 142 = .ok (.if_icmp .ne 7, 3) := by decide +kernel
theorem dX9_escapedFor_145 : decode cX9_escapedFor 145 = .ok (.iconst 1, 1) := by decide +kernel
theorem dX9_escapedFor_146 : decode cX9_escapedFor 146 = .ok (.goto 4, 3) := by decide +kernel
theorem dX9_escapedFor_149 : decode cX9_escapedFor 149 = .ok (.iconst 0, 1) := by decide +kernel
theorem dX9_escapedFor_150 : decode cX9_escapedFor 150 = .ok (.aload_n 0, 1) := by decide +kernel
theorem dX9_escapedFor_151 : decode cX9_escapedFor 151 = .ok (.getfield 93, 3) := by decide +kernel
theorem dX9_escapedFor_154 : decode cX9_escapedFor 154 = .ok (.iload_n 1, 1) := by decide +kernel
theorem dX9_escapedFor_155 : decode cX9_escapedFor 155 = .ok (.iaload, 1) := by decide +kernel
theorem dX9_escapedFor_156 : decode cX9_escapedFor 156 = .ok (.iconst 1, 1) := by decide +kernel
theorem dX9_escapedFor_157 : decode cX9_escapedFor 157 = .ok (.if_icmp .ne 7, 3) := by decide +kernel
theorem dX9_escapedFor_160 : decode cX9_escapedFor 160 = .ok (.iconst 1, 1) := by decide +kernel
theorem dX9_escapedFor_161 : decode cX9_escapedFor 161 = .ok (.goto 4, 3) := by decide +kernel
theorem dX9_escapedFor_164 : decode cX9_escapedFor 164 = .ok (.iconst 0, 1) := by decide +kernel
theorem dX9_escapedFor_165 : decode cX9_escapedFor 165 = .ok (.aload_n 0, 1) := by decide +kernel
theorem dX9_escapedFor_166 : decode cX9_escapedFor 166 = .ok (.getfield 114, 3) := by decide +kernel
theorem dX9_escapedFor_169 : decode cX9_escapedFor 169 = .ok (.iload_n 3, 1) := by decide +kernel
theorem dX9_escapedFor_170 : decode cX9_escapedFor 170 = .ok (.aload_n 0, 1) := by decide +kernel
theorem dX9_escapedFor_171 : decode cX9_escapedFor 171 = .ok (.getfield 117, 3) := by decide +kernel
theorem dX9_escapedFor_174 : decode cX9_escapedFor 174 = .ok (.invokevirtual 279, 3) := by decide +kernel
theorem dX9_escapedFor_177 : decode cX9_escapedFor 177 = .ok (.ireturn, 1) := by decide +kernel
theorem dX9_escapes_0 : decode cX9_escapes 0 = .ok (.aload_n 0, 1) := by decide +kernel
theorem dX9_escapes_1 : decode cX9_escapes 1 = .ok (.iconst 0, 1) := by decide +kernel
theorem dX9_escapes_2 : decode cX9_escapes 2 = .ok (.putfield 254, 3) := by decide +kernel
theorem dX9_escapes_5 : decode cX9_escapes 5 = .ok (.iload_n 1, 1) := by decide +kernel
theorem dX9_escapes_6 : decode cX9_escapes 6 = .ok (.iconst 1, 1) := by decide +kernel
theorem dX9_escapes_7 : decode cX9_escapes 7 = .ok (.if_icmp .ne 21, 3) := by decide +kernel
theorem dX9_escapes_10 : decode cX9_escapes 10 = .ok (.iload_n 2, 1) := by decide +kernel
theorem dX9_escapes_11 : decode cX9_escapes 11 = .ok (.ifCond .ne 17, 3) := by decide +kernel
theorem dX9_escapes_14 : decode cX9_escapes 14 = .ok (.aload 4, 2) := by decide +kernel
theorem dX9_escapes_16 : decode cX9_escapes 16 = .ok (.iload 5, 2) := by decide +kernel
theorem dX9_escapes_18 : decode cX9_escapes 18 = .ok (.invokestatic 269, 3) := by decide +kernel
theorem dX9_escapes_21 : decode cX9_escapes 21 = .ok (.ifCond .eq 7, 3) := by decide +kernel
theorem dX9_escapes_24 : decode cX9_escapes 24 = .ok (.iconst 1, 1) := by decide +kernel
theorem dX9_escapes_25 : decode cX9_escapes 25 = .ok (.goto 4, 3) := by decide +kernel
theorem dX9_escapes_28 : decode cX9_escapes 28 = .ok (.iconst 0, 1) := by decide +kernel
theorem dX9_escapes_29 : decode cX9_escapes 29 = .ok (.istore 7, 2) := by decide +kernel
theorem dX9_escapes_31 : decode cX9_escapes 31 = .ok (.iload 7, 2) := by decide +kernel
theorem dX9_escapes_33 : decode cX9_escapes 33 = .ok (.ifCond .eq 11, 3) := by decide +kernel
theorem dX9_escapes_36 : decode cX9_escapes 36 = .ok (.aload_n 0, 1) := by decide +kernel
theorem dX9_escapes_37 : decode cX9_escapes 37 = .ok (.aload 6, 2) := by decide +kernel
theorem dX9_escapes_39 : decode cX9_escapes 39 = .ok (.bipush 34, 2) := by decide +kernel
theorem dX9_escapes_41 : decode cX9_escapes 41 = .ok (.invokevirtual 261, 3) := by decide +kernel
theorem dX9_escapes_44 : decode cX9_escapes 44 = .ok (.iconst 0, 1) := by decide +kernel
theorem dX9_escapes_45 : decode cX9_escapes 45 = .ok (.istore 8, 2) := by decide +kernel
theorem dX9_escapes_47 : decode cX9_escapes 47 = .ok (.iload 8, 2) := by decide +kernel
theorem dX9_escapes_49 : decode cX9_escapes 49 = .ok (.iload 5, 2) := by decide +kernel
theorem dX9_escapes_51 : decode cX9_escapes 51 = .ok (.if_icmp .ge 105, 3) := by decide +kernel
theorem dX9_escapes_54 : decode cX9_escapes 54 = .ok (.iload_n 1, 1) := by decide +kernel
theorem dX9_escapes_55 : decode cX9_escapes 55 = .ok (.iconst 2, 1) := by decide +kernel
theorem dX9_escapes_56 : decode cX9_escapes 56 = .ok (.if_icmp .ne 17, 3) := by decide +kernel
theorem dX9_escapes_59 : decode cX9_escapes 59 = .ok (.aload_n 0, 1) := by decide +kernel
theorem dX9_escapes_60 : decode cX9_escapes 60 = .ok (.aload 6, 2) := by decide +kernel
theorem dX9_escapes_62 : decode cX9_escapes 62 = .ok (.aload 4, 2) := by decide +kernel
theorem dX9_escapes_64 : decode cX9_escapes 64 = .ok (.iload 8, 2) := by decide +kernel
theorem dX9_escapes_66 : decode cX9_escapes 66 = .ok (.iaload, 1) := by decide +kernel
theorem dX9_escapes_67 : decode cX9_escapes 67 = .ok (.invokevirtual 272, 3) := by decide +kernel
theorem dX9_escapes_70 : decode cX9_escapes 70 = .ok (.goto 80, 3) := by decide +kernel
theorem dX9_escapes_73 : decode cX9_escapes 73 = .ok (.iload_n 1, 1) := by decide +kernel
theorem dX9_escapes_74 : decode cX9_escapes 74 = .ok (.iconst 1, 1) := by decide +kernel
theorem dX9_escapes_75 : decode cX9_escapes 75 = .ok (.if_icmp .eq 32, 3) := by decide +kernel
theorem dX9_escapes_78 : decode cX9_escapes 78 = .ok (.aload_n 0, 1) := by decide +kernel
theorem dX9_escapes_79 : decode cX9_escapes 79 = .ok (.iload_n 1, 1) := by decide +kernel
theorem dX9_escapes_80 : decode cX9_escapes 80 = .ok (.aload 6, 2) := by decide +kernel
theorem dX9_escapes_82 : decode cX9_escapes 82 = .ok (.aload 4, 2) := by decide +kernel
theorem dX9_escapes_84 : decode cX9_escapes 84 = .ok (.iload 8, 2) := by decide +kernel
theorem dX9_escapes_86 : decode cX9_escapes 86 = .ok (.iaload, 1) := by decide +kernel
theorem dX9_escapes_87 : decode cX9_escapes 87 = .ok (.iload_n 3, 1) := by decide +kernel
theorem dX9_escapes_88 : decode cX9_escapes 88 = .ok (.ifCond .eq 12, 3) := by decide +kernel
theorem dX9_escapes_91 : decode cX9_escapes 91 = .ok (.iload 8, 2) := by decide +kernel
theorem dX9_escapes_93 : decode cX9_escapes 93 = .ok (.ifCond .ne 7, 3) := by decide +kernel
theorem dX9_escapes_96 : decode cX9_escapes 96 = .ok (.iconst 1, 1) := by decide +kernel
theorem dX9_escapes_97 : decode cX9_escapes 97 = .ok (.goto 4, 3) := by decide +kernel
theorem dX9_escapes_100 : decode cX9_escapes 100 = .ok (.iconst 0, 1) := by decide +kernel
theorem dX9_escapes_101 : decode cX9_escapes 101 = .ok (.invokevirtual 275, 3) := by decide +kernel
theorem dX9_escapes_104 : decode cX9_escapes 104 = .ok (.goto 46, 3) := by decide +kernel
theorem dX9_escapes_107 : decode cX9_escapes 107 = .ok (.iload_n 2, 1) := by decide +kernel
theorem dX9_escapes_108 : decode cX9_escapes 108 = .ok (.ifCond .ne 8, 3) := by decide +kernel
theorem dX9_escapes_111 : decode cX9_escapes 111 = .ok (.iload 7, 2) := by decide +kernel
theorem dX9_escapes_113 : decode cX9_escapes 113 = .ok (.ifCond .eq 26, 3) := by decide +kernel
theorem dX9_escapes_116 : decode cX9_escapes 116 = .ok (.aload 4, 2) := by decide +kernel
theorem dX9_escapes_118 : decode cX9_escapes 118 = .ok (.iload 8, 2) := by decide +kernel
theorem dX9_escapes_120 : decode cX9_escapes 120 = .ok (.iaload, 1) := by decide +kernel
theorem dX9_escapes_121 : decode cX9_escapes 121 = .ok (.bipush 34, 2) := by decide +kernel
theorem dX9_escapes_123 : decode cX9_escapes 123 = .ok (.if_icmp .ne 16, 3) := by decide +kernel
theorem dX9_escapes_126 : decode cX9_escapes 126 = .ok (.aload_n 0, 1) := by decide +kernel
theorem dX9_escapes_127 : decode cX9_escapes 127 = .ok (.aload 6, 2) := by decide +kernel
theorem dX9_escapes_129 : decode cX9_escapes 129 = .ok (.bipush 34, 2) := by decide +kernel
theorem dX9_escapes_131 : decode cX9_escapes 131 = .ok (.bipush 34, 2) := by decide +kernel
theorem dX9_escapes_133 : decode cX9_escapes 133 = .ok (.invokevirtual 265, 3) := by decide +kernel
theorem dX9_escapes_136 : decode cX9_escapes 136 = .ok (.goto 14, 3) := by decide +kernel
theorem dX9_escapes_139 : decode cX9_escapes 139 = .ok (.aload_n 0, 1) := by decide +kernel
theorem dX9_escapes_140 : decode cX9_escapes 140 = .ok (.aload 6, 2) := by decide +kernel
theorem dX9_escapes_142 : decode cX9_escapes 142 = .ok (.aload 4, 2) := by decide +kernel
theorem dX9_escapes_144 : decode cX9_escapes 144 = .ok (.iload 8, 2) := by decide +kernel
theorem dX9_escapes_146 : decode cX9_escapes 146 = .ok (.iaload, 1) := by decide +kernel
theorem dX9_escapes_147 : decode cX9_escapes 147 = .ok (.invokevirtual 261, 3) := by decide +kernel
theorem dX9_escapes_150 : decode cX9_escapes 150 = .ok (.iinc 8 1, 3) := by decide +kernel
theorem dX9_escapes_153 : decode cX9_escapes 153 = .ok (.goto (-106), 3) := by decide +kernel
theorem dX9_escapes_156 : decode cX9_escapes 156 = .ok (.iload 7, 2) := by decide +kernel
theorem dX9_escapes_158 : decode cX9_escapes 158 = .ok (.ifCond .eq 11, 3) := by decide +kernel
theorem dX9_escapes_161 : decode cX9_escapes 161 = .ok (.aload_n 0, 1) := by decide +kernel
theorem dX9_escapes_162 : decode cX9_escapes 162 = .ok (.aload 6, 2) := by decide +kernel
theorem dX9_escapes_164 : decode cX9_escapes 164 = .ok (.bipush 34, 2) := by decide +kernel
theorem dX9_escapes_166 : decode cX9_escapes 166 = .ok (.invokevirtual 261, 3) := by decide +kernel
theorem dX9_escapes_169 : decode cX9_escapes 169 = .ok (.aload_n 0, 1) := by decide +kernel
theorem dX9_escapes_170 : decode cX9_escapes 170 = .ok (.getfield 254, 3) := by decide +kernel
theorem dX9_escapes_173 : decode cX9_escapes 173 = .ok (.ireturn, 1) := by decide +kernel
theorem dX9_escapesBack_0 : decode cX9_escapesBack 0 = .ok (.iload_n 3, 1) := by decide +kernel
theorem dX9_escapesBack_1 : decode cX9_escapesBack 1 = .ok (.bipush 10, 2) := by decide +kernel
theorem dX9_escapesBack_3 : decode cX9_escapesBack 3 = .ok (.if_icmp .ne 15, 3) := by decide +kernel
theorem dX9_escapesBack_6 : decode cX9_escapesBack 6 = .ok (.aload_n 0, 1) := by decide +kernel
theorem dX9_escapesBack_7 : decode cX9_escapesBack 7 = .ok (.aload_n 2, 1) := by decide +kernel
theorem dX9_escapesBack_8 : decode cX9_escapesBack 8 = .ok (.bipush 92, 2) := by decide +kernel
theorem dX9_escapesBack_10 : decode cX9_escapesBack 10 = .ok (.bipush 110, 2) := by decide +kernel
theorem dX9_escapesBack_12 : decode cX9_escapesBack 12 = .ok (.invokevirtual 265, 3) := by decide +kernel
theorem dX9_escapesBack_15 : decode cX9_escapesBack 15 = .ok (.goto 70, 3) := by decide +kernel
theorem dX9_escapesBack_18 : decode cX9_escapesBack 18 = .ok (.iload_n 3, 1) := by decide +kernel
theorem dX9_escapesBack_19 : decode cX9_escapesBack 19 = .ok (.bipush 9, 2) := by decide +kernel
theorem dX9_escapesBack_21 : decode cX9_escapesBack 21 = .ok (.if_icmp .ne 15, 3) := by decide +kernel
theorem dX9_escapesBack_24 : decode cX9_escapesBack 24 = .ok (.aload_n 0, 1) := by decide +kernel
theorem dX9_escapesBack_25 : decode cX9_escapesBack 25 = .ok (.aload_n 2, 1) := by decide +kernel
theorem dX9_escapesBack_26 : decode cX9_escapesBack 26 = .ok (.bipush 92, 2) := by decide +kernel
theorem dX9_escapesBack_28 : decode cX9_escapesBack 28 = .ok (.bipush 116, 2) := by decide +kernel
theorem dX9_escapesBack_30 : decode cX9_escapesBack 30 = .ok (.invokevirtual 265, 3) := by decide +kernel
theorem dX9_escapesBack_33 : decode cX9_escapesBack 33 = .ok (.goto 52, 3) := by decide +kernel
theorem dX9_escapesBack_36 : decode cX9_escapesBack 36 = .ok (.iload_n 3, 1) := by decide +kernel
theorem dX9_escapesBack_37 : decode cX9_escapesBack 37 = .ok (.bipush 92, 2) := by decide +kernel
theorem dX9_escapesBack_39 : decode cX9_escapesBack 39 = .ok (.if_icmp .eq 29, 3) := by decide +kernel
theorem dX9_escapesBack_42 : decode cX9_escapesBack 42 = .ok (.iload_n 3, 1) := by decide +kernel
theorem dX9_escapesBack_43 : decode cX9_escapesBack 43 = .ok (.bipush 34, 2) := by decide +kernel
theorem dX9_escapesBack_45 : decode cX9_escapesBack 45 = .ok (.if_icmp .ne 8, 3) := by decide +kernel
theorem dX9_escapesBack_48 : decode cX9_escapesBack 48 = .ok (.iload_n 1, 1) := by decide +kernel
theorem dX9_escapesBack_49 : decode cX9_escapesBack 49 = .ok (.iconst 3, 1) := by decide +kernel
theorem dX9_escapesBack_50 : decode cX9_escapesBack 50 = .ok (.if_icmp .eq 18, 3) := by decide +kernel
theorem dX9_escapesBack_53 : decode cX9_escapesBack 53 = .ok (.iload_n 3, 1) := by decide +kernel
theorem dX9_escapesBack_54 : decode cX9_escapesBack 54 = .ok (.bipush 32, 2) := by decide +kernel
theorem dX9_escapesBack_56 : decode cX9_escapesBack 56 = .ok (.if_icmp .ne 23, 3) := by decide +kernel
theorem dX9_escapesBack_59 : decode cX9_escapesBack 59 = .ok (.iload_n 1, 1) := by decide +kernel
theorem dX9_escapesBack_60 : decode cX9_escapesBack 60 = .ok (.ifCond .ne 19, 3) := by decide +kernel
theorem dX9_escapesBack_63 : decode cX9_escapesBack 63 = .ok (.iload 4, 2) := by decide +kernel
theorem dX9_escapesBack_65 : decode cX9_escapesBack 65 = .ok (.ifCond .eq 14, 3) := by decide +kernel
theorem dX9_escapesBack_68 : decode cX9_escapesBack 68 = .ok (.aload_n 0, 1) := by decide +kernel
theorem dX9_escapesBack_69 : decode cX9_escapesBack 69 = .ok (.aload_n 2, 1) := by decide +kernel
theorem dX9_escapesBack_70 : decode cX9_escapesBack 70 = .ok (.bipush 92, 2) := by decide +kernel
theorem dX9_escapesBack_72 : decode cX9_escapesBack 72 = .ok (.iload_n 3, 1) := by decide +kernel
theorem dX9_escapesBack_73 : decode cX9_escapesBack 73 = .ok (.invokevirtual 265, 3) := by decide +kernel
theorem dX9_escapesBack_76 : decode cX9_escapesBack 76 = .ok (.goto 9, 3) := by decide +kernel
theorem dX9_escapesBack_79 : decode cX9_escapesBack 79 = .ok (.aload_n 0, 1) := by decide +kernel
theorem dX9_escapesBack_80 : decode cX9_escapesBack 80 = .ok (.aload_n 2, 1) := by decide +kernel
theorem dX9_escapesBack_81 : decode cX9_escapesBack 81 = .ok (.iload_n 3, 1) := by decide +kernel
theorem dX9_escapesBack_82 : decode cX9_escapesBack 82 = .ok (.invokevirtual 261, 3) := by decide +kernel
theorem dX9_escapesBack_85 : decode cX9_escapesBack 85 = .ok (.return_, 1) := by decide +kernel
theorem dX9_escapesMarkup_0 : decode cX9_escapesMarkup 0 = .ok (.iload_n 2, 1) := by decide +kernel
theorem dX9_escapesMarkup_1 : decode cX9_escapesMarkup 1 = .ok (.bipush 60, 2) := by decide +kernel
theorem dX9_escapesMarkup_3 : decode cX9_escapesMarkup 3 = .ok (.if_icmp .ne 13, 3) := by decide +kernel
theorem dX9_escapesMarkup_6 : decode cX9_escapesMarkup 6 = .ok (.aload_n 0, 1) := by decide +kernel
theorem dX9_escapesMarkup_7 : decode cX9_escapesMarkup 7 = .ok (.aload_n 1, 1) := by decide +kernel
theorem dX9_escapesMarkup_8 : decode cX9_escapesMarkup 8 = .ok (.ldc 186, 2) := by decide +kernel
theorem dX9_escapesMarkup_10 : decode cX9_escapesMarkup 10 = .ok (.invokevirtual 257, 3) := by decide +kernel
theorem dX9_escapesMarkup_13 : decode cX9_escapesMarkup 13 = .ok (.goto 41, 3) := by decide +kernel
theorem dX9_escapesMarkup_16 : decode cX9_escapesMarkup 16 = .ok (.iload_n 2, 1) := by decide +kernel
theorem dX9_escapesMarkup_17 : decode cX9_escapesMarkup 17 = .ok (.bipush 62, 2) := by decide +kernel
theorem dX9_escapesMarkup_19 : decode cX9_escapesMarkup 19 = .ok (.if_icmp .ne 13, 3) := by decide +kernel
theorem dX9_escapesMarkup_22 : decode cX9_escapesMarkup 22 = .ok (.aload_n 0, 1) := by decide +kernel
theorem dX9_escapesMarkup_23 : decode cX9_escapesMarkup 23 = .ok (.aload_n 1, 1) := by decide +kernel
theorem dX9_escapesMarkup_24 : decode cX9_escapesMarkup 24 = .ok (.ldc 192, 2) := by decide +kernel
theorem dX9_escapesMarkup_26 : decode cX9_escapesMarkup 26 = .ok (.invokevirtual 257, 3) := by decide +kernel
theorem dX9_escapesMarkup_29 : decode cX9_escapesMarkup 29 = .ok (.goto 25, 3) := by decide +kernel
theorem dX9_escapesMarkup_32 : decode cX9_escapesMarkup 32 = .ok (.iload_n 2, 1) := by decide +kernel
theorem dX9_escapesMarkup_33 : decode cX9_escapesMarkup 33 = .ok (.bipush 38, 2) := by decide +kernel
theorem dX9_escapesMarkup_35 : decode cX9_escapesMarkup 35 = .ok (.if_icmp .ne 13, 3) := by decide +kernel
theorem dX9_escapesMarkup_38 : decode cX9_escapesMarkup 38 = .ok (.aload_n 0, 1) := by decide +kernel
theorem dX9_escapesMarkup_39 : decode cX9_escapesMarkup 39 = .ok (.aload_n 1, 1) := by decide +kernel
theorem dX9_escapesMarkup_40 : decode cX9_escapesMarkup 40 = .ok (.ldc 194, 2) := by decide +kernel
theorem dX9_escapesMarkup_42 : decode cX9_escapesMarkup 42 = .ok (.invokevirtual 257, 3) := by decide +kernel
theorem dX9_escapesMarkup_45 : decode cX9_escapesMarkup 45 = .ok (.goto 9, 3) := by decide +kernel
theorem dX9_escapesMarkup_48 : decode cX9_escapesMarkup 48 = .ok (.aload_n 0, 1) := by decide +kernel
theorem dX9_escapesMarkup_49 : decode cX9_escapesMarkup 49 = .ok (.aload_n 1, 1) := by decide +kernel
theorem dX9_escapesMarkup_50 : decode cX9_escapesMarkup 50 = .ok (.iload_n 2, 1) := by decide +kernel
theorem dX9_escapesMarkup_51 : decode cX9_escapesMarkup 51 = .ok (.invokevirtual 261, 3) := by decide +kernel
theorem dX9_escapesMarkup_54 : decode cX9_escapesMarkup 54 = .ok (.return_, 1) := by decide +kernel
theorem dX9_fault_0 : decode cX9_fault 0 = .ok (.aload_n 0, 1) := by decide +kernel
theorem dX9_fault_1 : decode cX9_fault 1 = .ok (.iconst 0, 1) := by decide +kernel
theorem dX9_fault_2 : decode cX9_fault 2 = .ok (.putfield 138, 3) := by decide +kernel
theorem dX9_fault_5 : decode cX9_fault 5 = .ok (.aload_n 0, 1) := by decide +kernel
theorem dX9_fault_6 : decode cX9_fault 6 = .ok (.getfield 26, 3) := by decide +kernel
theorem dX9_fault_9 : decode cX9_fault 9 = .ok (.ireturn, 1) := by decide +kernel
theorem dX9_feed_0 : decode cX9_feed 0 = .ok (.aload_n 0, 1) := by decide +kernel
theorem dX9_feed_1 : decode cX9_feed 1 = .ok (.iconst 0, 1) := by decide +kernel
theorem dX9_feed_2 : decode cX9_feed 2 = .ok (.putfield 138, 3) := by decide +kernel
theorem dX9_feed_5 : decode cX9_feed 5 = .ok (.aload_n 0, 1) := by decide +kernel
theorem dX9_feed_6 : decode cX9_feed 6 = .ok (.getfield 337, 3) := by decide +kernel
theorem dX9_feed_9 : decode cX9_feed 9 = .ok (.bipush 20, 2) := by decide +kernel
theorem dX9_feed_11 : decode cX9_feed 11 = .ok (.iadd, 1) := by decide +kernel
theorem dX9_feed_12 : decode cX9_feed 12 = .ok (.sipush 400, 3) := by decide +kernel
theorem dX9_feed_15 : decode cX9_feed 15 = .ok (.if_icmp .le 5, 3) := by decide +kernel
theorem dX9_feed_18 : decode cX9_feed 18 = .ok (.iconst (-1), 1) := by decide +kernel
theorem dX9_feed_19 : decode cX9_feed 19 = .ok (.ireturn, 1) := by decide +kernel
theorem dX9_feed_20 : decode cX9_feed 20 = .ok (.iconst 0, 1) := by decide +kernel
theorem dX9_feed_21 : decode cX9_feed 21 = .ok (.istore 6, 2) := by decide +kernel
theorem dX9_feed_23 : decode cX9_feed 23 = .ok (.iload 6, 2) := by decide +kernel
theorem dX9_feed_25 : decode cX9_feed 25 = .ok (.bipush 20, 2) := by decide +kernel
theorem dX9_feed_27 : decode cX9_feed 27 = .ok (.if_icmp .ge 93, 3) := by decide +kernel
theorem dX9_feed_30 : decode cX9_feed 30 = .ok (.iload 6, 2) := by decide +kernel
theorem dX9_feed_32 : decode cX9_feed 32 = .ok (.iconst 4, 1) := by decide +kernel
theorem dX9_feed_33 : decode cX9_feed 33 = .ok (.if_icmp .ge 7, 3) := by decide +kernel
theorem dX9_feed_36 : decode cX9_feed 36 = .ok (.iload_n 1, 1) := by decide +kernel
theorem dX9_feed_37 : decode cX9_feed 37 = .ok (.goto 39, 3) := by decide +kernel
theorem dX9_feed_40 : decode cX9_feed 40 = .ok (.iload 6, 2) := by decide +kernel
theorem dX9_feed_42 : decode cX9_feed 42 = .ok (.bipush 8, 2) := by decide +kernel
theorem dX9_feed_44 : decode cX9_feed 44 = .ok (.if_icmp .ge 7, 3) := by decide +kernel
theorem dX9_feed_47 : decode cX9_feed 47 = .ok (.iload_n 2, 1) := by decide +kernel
theorem dX9_feed_48 : decode cX9_feed 48 = .ok (.goto 28, 3) := by decide +kernel
theorem dX9_feed_51 : decode cX9_feed 51 = .ok (.iload 6, 2) := by decide +kernel
theorem dX9_feed_53 : decode cX9_feed 53 = .ok (.bipush 12, 2) := by decide +kernel
theorem dX9_feed_55 : decode cX9_feed 55 = .ok (.if_icmp .ge 7, 3) := by decide +kernel
theorem dX9_feed_58 : decode cX9_feed 58 = .ok (.iload_n 3, 1) := by decide +kernel
theorem dX9_feed_59 : decode cX9_feed 59 = .ok (.goto 17, 3) := by decide +kernel
theorem dX9_feed_62 : decode cX9_feed 62 = .ok (.iload 6, 2) := by decide +kernel
theorem dX9_feed_64 : decode cX9_feed 64 = .ok (.bipush 16, 2) := by decide +kernel
theorem dX9_feed_66 : decode cX9_feed 66 = .ok (.if_icmp .ge 8, 3) := by decide +kernel
theorem dX9_feed_69 : decode cX9_feed 69 = .ok (.iload 4, 2) := by decide +kernel
theorem dX9_feed_71 : decode cX9_feed 71 = .ok (.goto 5, 3) := by decide +kernel
theorem dX9_feed_74 : decode cX9_feed 74 = .ok (.iload 5, 2) := by decide +kernel
theorem dX9_feed_76 : decode cX9_feed 76 = .ok (.istore 7, 2) := by decide +kernel
theorem dX9_feed_78 : decode cX9_feed 78 = .ok (.aload_n 0, 1) := by decide +kernel
theorem dX9_feed_79 : decode cX9_feed 79 = .ok (.getfield 23, 3) := by decide +kernel
theorem dX9_feed_82 : decode cX9_feed 82 = .ok (.aload_n 0, 1) := by decide +kernel
theorem dX9_feed_83 : decode cX9_feed 83 = .ok (.getfield 337, 3) := by decide +kernel
theorem dX9_feed_86 : decode cX9_feed 86 = .ok (.iload 7, 2) := by decide +kernel
theorem dX9_feed_88 : decode cX9_feed 88 = .ok (.bipush 24, 2) := by decide +kernel
theorem dX9_feed_90 : decode cX9_feed 90 = .ok (.bipush 8, 2) := by decide +kernel
theorem dX9_feed_92 : decode cX9_feed 92 = .ok (.iload 6, 2) := by decide +kernel
theorem dX9_feed_94 : decode cX9_feed 94 = .ok (.iconst 4, 1) := by decide +kernel
theorem dX9_feed_95 : decode cX9_feed 95 = .ok (.irem, 1) := by decide +kernel
theorem dX9_feed_96 : decode cX9_feed 96 = .ok (.imul, 1) := by decide +kernel
theorem dX9_feed_97 : decode cX9_feed 97 = .ok (.isub, 1) := by decide +kernel
theorem dX9_feed_98 : decode cX9_feed 98 = .ok (.iushr, 1) := by decide +kernel
theorem dX9_feed_99 : decode cX9_feed 99 = .ok (.sipush 255, 3) := by decide +kernel
theorem dX9_feed_102 : decode cX9_feed 102 = .ok (.iand, 1) := by decide +kernel
theorem dX9_feed_103 : decode cX9_feed 103 = .ok (.iastore, 1) := by decide +kernel
theorem dX9_feed_104 : decode cX9_feed 104 = .ok (.aload_n 0, 1) := by decide +kernel
theorem dX9_feed_105 : decode cX9_feed 105 = .ok (.dup, 1) := by decide +kernel
theorem dX9_feed_106 : decode cX9_feed 106 = .ok (.getfield 337, 3) := by decide +kernel
theorem dX9_feed_109 : decode cX9_feed 109 = .ok (.iconst 1, 1) := by decide +kernel
theorem dX9_feed_110 : decode cX9_feed 110 = .ok (.iadd, 1) := by decide +kernel
theorem dX9_feed_111 : decode cX9_feed 111 = .ok (.putfield 337, 3) := by decide +kernel
theorem dX9_feed_114 : decode cX9_feed 114 = .ok (.iinc 6 1, 3) := by decide +kernel
theorem dX9_feed_117 : decode cX9_feed 117 = .ok (.goto (-94), 3) := by decide +kernel
theorem dX9_feed_120 : decode cX9_feed 120 = .ok (.aload_n 0, 1) := by decide +kernel
theorem dX9_feed_121 : decode cX9_feed 121 = .ok (.getfield 337, 3) := by decide +kernel
theorem dX9_feed_124 : decode cX9_feed 124 = .ok (.ireturn, 1) := by decide +kernel
theorem dX9_file_0 : decode cX9_file 0 = .ok (.aload_n 0, 1) := by decide +kernel
theorem dX9_file_1 : decode cX9_file 1 = .ok (.iconst 0, 1) := by decide +kernel
theorem dX9_file_2 : decode cX9_file 2 = .ok (.putfield 138, 3) := by decide +kernel
theorem dX9_file_5 : decode cX9_file 5 = .ok (.aload_n 0, 1) := by decide +kernel
theorem dX9_file_6 : decode cX9_file 6 = .ok (.invokevirtual 426, 3) := by decide +kernel
theorem dX9_file_9 : decode cX9_file 9 = .ok (.istore_n 1, 1) := by decide +kernel
theorem dX9_file_10 : decode cX9_file 10 = .ok (.aload_n 0, 1) := by decide +kernel
theorem dX9_file_11 : decode cX9_file 11 = .ok (.getfield 7, 3) := by decide +kernel
theorem dX9_file_14 : decode cX9_file 14 = .ok (.iconst 0, 1) := by decide +kernel
theorem dX9_file_15 : decode cX9_file 15 = .ok (.iload_n 1, 1) := by decide +kernel
theorem dX9_file_16 : decode cX9_file 16 = .ok (.iastore, 1) := by decide +kernel
theorem dX9_file_17 : decode cX9_file 17 = .ok (.iconst 0, 1) := by decide +kernel
theorem dX9_file_18 : decode cX9_file 18 = .ok (.istore_n 2, 1) := by decide +kernel
theorem dX9_file_19 : decode cX9_file 19 = .ok (.iload_n 2, 1) := by decide +kernel
theorem dX9_file_20 : decode cX9_file 20 = .ok (.iload_n 1, 1) := by decide +kernel
theorem dX9_file_21 : decode cX9_file 21 = .ok (.if_icmp .ge 24, 3) := by decide +kernel
theorem dX9_file_24 : decode cX9_file 24 = .ok (.aload_n 0, 1) := by decide +kernel
theorem dX9_file_25 : decode cX9_file 25 = .ok (.getfield 7, 3) := by decide +kernel
