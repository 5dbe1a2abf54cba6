theorem dX6_next_17 : decode cX6_next 17 = .ok (.invokevirtual 37, 3) := by decide +kernel
theorem dX6_next_20 : decode cX6_next 20 = .ok (.if_icmp .ge 76, 3) := by decide +kernel
theorem dX6_next_23 : decode cX6_next 23 = .ok (.aload_n 0, 1) := by decide +kernel
theorem dX6_next_24 : decode cX6_next 24 = .ok (.getfield 20, 3) := by decide +kernel
theorem dX6_next_27 : decode cX6_next 27 = .ok (.tableswitch 46 0 2 #[25, 32, 39], 25) := by decide +kernel
theorem dX6_next_52 : decode cX6_next 52 = .ok (.aload_n 0, 1) := by decide +kernel
theorem dX6_next_53 : decode cX6_next 53 = .ok (.invokevirtual 41, 3) := by decide +kernel
theorem dX6_next_56 : decode cX6_next 56 = .ok (.goto 21, 3) := by decide +kernel
theorem dX6_next_59 : decode cX6_next 59 = .ok (.aload_n 0, 1) := by decide +kernel
theorem dX6_next_60 : decode cX6_next 60 = .ok (.invokevirtual 44, 3) := by decide +kernel
theorem dX6_next_63 : decode cX6_next 63 = .ok (.goto 14, 3) := by decide +kernel
theorem dX6_next_66 : decode cX6_next 66 = .ok (.aload_n 0, 1) := by decide +kernel
theorem dX6_next_67 : decode cX6_next 67 = .ok (.invokevirtual 47, 3) := by decide +kernel
theorem dX6_next_70 : decode cX6_next 70 = .ok (.goto 7, 3) := by decide +kernel
theorem dX6_next_73 : decode cX6_next 73 = .ok (.aload_n 0, 1) := by decide +kernel
theorem dX6_next_74 : decode cX6_next 74 = .ok (.invokevirtual 50, 3) := by decide +kernel
theorem dX6_next_77 : decode cX6_next 77 = .ok (.aload_n 0, 1) := by decide +kernel
theorem dX6_next_78 : decode cX6_next 78 = .ok (.getfield 53, 3) := by decide +kernel
theorem dX6_next_81 : decode cX6_next 81 = .ok (.aload_n 0, 1) := by decide +kernel
theorem dX6_next_82 : decode cX6_next 82 = .ok (.getfield 56, 3) := by decide +kernel
theorem dX6_next_85 : decode cX6_next 85 = .ok (.if_icmp .ge 5, 3) := by decide +kernel
theorem dX6_next_88 : decode cX6_next 88 = .ok (.iconst 1, 1) := by decide +kernel
theorem dX6_next_89 : decode cX6_next 89 = .ok (.ireturn, 1) := by decide +kernel
theorem dX6_next_90 : decode cX6_next 90 = .ok (.iinc 1 1, 3) := by decide +kernel
theorem dX6_next_93 : decode cX6_next 93 = .ok (.goto (-91), 3) := by decide +kernel
theorem dX6_next_96 : decode cX6_next 96 = .ok (.iconst 0, 1) := by decide +kernel
theorem dX6_next_97 : decode cX6_next 97 = .ok (.ireturn, 1) := by decide +kernel
theorem dX6_read_0 : decode cX6_read 0 = .ok (.aload_n 0, 1) := by decide +kernel
theorem dX6_read_1 : decode cX6_read 1 = .ok (.aload_n 0, 1) := by decide +kernel
theorem dX6_read_2 : decode cX6_read 2 = .ok (.getfield 14, 3) := by decide +kernel
theorem dX6_read_5 : decode cX6_read 5 = .ok (.iload_n 1, 1) := by decide +kernel
theorem dX6_read_6 : decode cX6_read 6 = .ok (.invokevirtual 67, 3) := by decide +kernel
theorem dX6_read_9 : decode cX6_read 9 = .ok (.putfield 83, 3) := by decide +kernel
theorem dX6_read_12 : decode cX6_read 12 = .ok (.aload_n 0, 1) := by decide +kernel
theorem dX6_read_13 : decode cX6_read 13 = .ok (.iconst 1, 1) := by decide +kernel
theorem dX6_read_14 : decode cX6_read 14 = .ok (.putfield 86, 3) := by decide +kernel
theorem dX6_read_17 : decode cX6_read 17 = .ok (.aload_n 0, 1) := by decide +kernel
theorem dX6_read_18 : decode cX6_read 18 = .ok (.getfield 20, 3) := by decide +kernel
theorem dX6_read_21 : decode cX6_read 21 = .ok (.iconst 2, 1) := by decide +kernel
theorem dX6_read_22 : decode cX6_read 22 = .ok (.if_icmp .ne 20, 3) := by decide +kernel
theorem dX6_read_25 : decode cX6_read 25 = .ok (.aload_n 0, 1) := by decide +kernel
theorem dX6_read_26 : decode cX6_read 26 = .ok (.getfield 83, 3) := by decide +kernel
theorem dX6_read_29 : decode cX6_read 29 = .ok (.bipush 38, 2) := by decide +kernel
theorem dX6_read_31 : decode cX6_read 31 = .ok (.if_icmp .ne 80, 3) := by decide +kernel
theorem dX6_read_34 : decode cX6_read 34 = .ok (.aload_n 0, 1) := by decide +kernel
theorem dX6_read_35 : decode cX6_read 35 = .ok (.iload_n 1, 1) := by decide +kernel
theorem dX6_read_36 : decode cX6_read 36 = .ok (.invokevirtual 89, 3) := by decide +kernel
theorem dX6_read_39 : decode cX6_read 39 = .ok (.goto 72, 3) := by decide +kernel
theorem dX6_read_42 : decode cX6_read 42 = .ok (.aload_n 0, 1) := by decide +kernel
theorem dX6_read_43 : decode cX6_read 43 = .ok (.getfield 20, 3) := by decide +kernel
theorem dX6_read_46 : decode cX6_read 46 = .ok (.iconst 1, 1) := by decide +kernel
theorem dX6_read_47 : decode cX6_read 47 = .ok (.if_icmp .ne 31, 3) := by decide +kernel
theorem dX6_read_50 : decode cX6_read 50 = .ok (.aload_n 0, 1) := by decide +kernel
theorem dX6_read_51 : decode cX6_read 51 = .ok (.aload_n 0, 1) := by decide +kernel
theorem dX6_read_52 : decode cX6_read 52 = .ok (.getfield 27, 3) := by decide +kernel
theorem dX6_read_55 : decode cX6_read 55 = .ok (.ifCond .eq 16, 3) := by decide +kernel
theorem dX6_read_58 : decode cX6_read 58 = .ok (.aload_n 0, 1) := by decide +kernel
theorem dX6_read_59 : decode cX6_read 59 = .ok (.getfield 83, 3) := by decide +kernel
theorem dX6_read_62 : decode cX6_read 62 = .ok (.bipush 34, 2) := by decide +kernel
theorem dX6_read_64 : decode cX6_read 64 = .ok (.if_icmp .ne 7, 3) := by decide +kernel
theorem dX6_read_67 : decode cX6_read 67 = .ok (.iconst 2, 1) := by decide +kernel
theorem dX6_read_68 : decode cX6_read 68 = .ok (.goto 4, 3) := by decide +kernel
theorem dX6_read_71 : decode cX6_read 71 = .ok (.iconst 1, 1) := by decide +kernel
theorem dX6_read_72 : decode cX6_read 72 = .ok (.putfield 86, 3) := by decide +kernel
theorem dX6_read_75 : decode cX6_read 75 = .ok (.goto 36, 3) := by decide +kernel
theorem dX6_read_78 : decode cX6_read 78 = .ok (.aload_n 0, 1) := by decide +kernel
theorem dX6_read_79 : decode cX6_read 79 = .ok (.getfield 83, 3) := by decide +kernel
theorem dX6_read_82 : decode cX6_read 82 = .ok (.bipush 92, 2) := by decide +kernel
theorem dX6_read_84 : decode cX6_read 84 = .ok (.if_icmp .ne 27, 3) := by decide +kernel
theorem dX6_read_87 : decode cX6_read 87 = .ok (.iload_n 1, 1) := by decide +kernel
theorem dX6_read_88 : decode cX6_read 88 = .ok (.iconst 1, 1) := by decide +kernel
theorem dX6_read_89 : decode cX6_read 89 = .ok (.iadd, 1) := by decide +kernel
theorem dX6_read_90 : decode cX6_read 90 = .ok (.aload_n 0, 1) := by decide +kernel
theorem dX6_read_91 : decode cX6_read 91 = .ok (.getfield 56, 3) := by decide +kernel
theorem dX6_read_94 : decode cX6_read 94 = .ok (.if_icmp .ge 17, 3) := by decide +kernel
theorem dX6_read_97 : decode cX6_read 97 = .ok (.aload_n 0, 1) := by decide +kernel
theorem dX6_read_98 : decode cX6_read 98 = .ok (.aload_n 0, 1) := by decide +kernel
theorem dX6_read_99 : decode cX6_read 99 = .ok (.getfield 14, 3) := by decide +kernel
theorem dX6_read_102 : decode cX6_read 102 = .ok (.iload_n 1, 1) := by decide +kernel
theorem dX6_read_103 : decode cX6_read 103 = .ok (.iconst 1, 1) := by decide +kernel
theorem dX6_read_104 : decode cX6_read 104 = .ok (.iadd, 1) := by decide +kernel
theorem dX6_read_105 : decode cX6_read 105 = .ok (.invokevirtual 67, 3) := by decide +kernel
theorem dX6_read_108 : decode cX6_read 108 = .ok (.invokevirtual 92, 3) := by decide +kernel
theorem dX6_read_111 : decode cX6_read 111 = .ok (.return_, 1) := by decide +kernel
theorem dX6_readBack_0 : decode cX6_readBack 0 = .ok (.aload_n 0, 1) := by decide +kernel
theorem dX6_readBack_1 : decode cX6_readBack 1 = .ok (.getfield 20, 3) := by decide +kernel
theorem dX6_readBack_4 : decode cX6_readBack 4 = .ok (.ifCond .ne 8, 3) := by decide +kernel
theorem dX6_readBack_7 : decode cX6_readBack 7 = .ok (.bipush 32, 2) := by decide +kernel
theorem dX6_readBack_9 : decode cX6_readBack 9 = .ok (.goto 5, 3) := by decide +kernel
theorem dX6_readBack_12 : decode cX6_readBack 12 = .ok (.bipush 34, 2) := by decide +kernel
theorem dX6_readBack_14 : decode cX6_readBack 14 = .ok (.istore_n 2, 1) := by decide +kernel
theorem dX6_readBack_15 : decode cX6_readBack 15 = .ok (.iload_n 1, 1) := by decide +kernel
theorem dX6_readBack_16 : decode cX6_readBack 16 = .ok (.bipush 110, 2) := by decide +kernel
theorem dX6_readBack_18 : decode cX6_readBack 18 = .ok (.if_icmp .eq 20, 3) := by decide +kernel
theorem dX6_readBack_21 : decode cX6_readBack 21 = .ok (.iload_n 1, 1) := by decide +kernel
theorem dX6_readBack_22 : decode cX6_readBack 22 = .ok (.bipush 116, 2) := by decide +kernel
theorem dX6_readBack_24 : decode cX6_readBack 24 = .ok (.if_icmp .eq 14, 3) := by decide +kernel
theorem dX6_readBack_27 : decode cX6_readBack 27 = .ok (.iload_n 1, 1) := by decide +kernel
theorem dX6_readBack_28 : decode cX6_readBack 28 = .ok (.bipush 92, 2) := by decide +kernel
theorem dX6_readBack_30 : decode cX6_readBack 30 = .ok (.if_icmp .eq 8, 3) := by decide +kernel
theorem dX6_readBack_33 : decode cX6_readBack 33 = .ok (.iload_n 1, 1) := by decide +kernel
theorem dX6_readBack_34 : decode cX6_readBack 34 = .ok (.iload_n 2, 1) := by decide +kernel
theorem dX6_readBack_35 : decode cX6_readBack 35 = .ok (.if_icmp .ne 35, 3) := by decide +kernel
theorem dX6_readBack_38 : decode cX6_readBack 38 = .ok (.aload_n 0, 1) := by decide +kernel
theorem dX6_readBack_39 : decode cX6_readBack 39 = .ok (.iload_n 1, 1) := by decide +kernel
theorem dX6_readBack_40 : decode cX6_readBack 40 = .ok (.bipush 110, 2) := by decide +kernel
theorem dX6_readBack_42 : decode cX6_readBack 42 = .ok (.if_icmp .ne 8, 3) := by decide +kernel
theorem dX6_readBack_45 : decode cX6_readBack 45 = .ok (.bipush 10, 2) := by decide +kernel
theorem dX6_readBack_47 : decode cX6_readBack 47 = .ok (.goto 15, 3) := by decide +kernel
theorem dX6_readBack_50 : decode cX6_readBack 50 = .ok (.iload_n 1, 1) := by decide +kernel
theorem dX6_readBack_51 : decode cX6_readBack 51 = .ok (.bipush 116, 2) := by decide +kernel
theorem dX6_readBack_53 : decode cX6_readBack 53 = .ok (.if_icmp .ne 8, 3) := by decide +kernel
theorem dX6_readBack_56 : decode cX6_readBack 56 = .ok (.bipush 9, 2) := by decide +kernel
theorem dX6_readBack_58 : decode cX6_readBack 58 = .ok (.goto 4, 3) := by decide +kernel
theorem dX6_readBack_61 : decode cX6_readBack 61 = .ok (.iload_n 1, 1) := by decide +kernel
theorem dX6_readBack_62 : decode cX6_readBack 62 = .ok (.putfield 83, 3) := by decide +kernel
theorem dX6_readBack_65 : decode cX6_readBack 65 = .ok (.aload_n 0, 1) := by decide +kernel
theorem dX6_readBack_66 : decode cX6_readBack 66 = .ok (.iconst 2, 1) := by decide +kernel
theorem dX6_readBack_67 : decode cX6_readBack 67 = .ok (.putfield 86, 3) := by decide +kernel
theorem dX6_readBack_70 : decode cX6_readBack 70 = .ok (.return_, 1) := by decide +kernel
theorem dX6_readMarkup_0 : decode cX6_readMarkup 0 = .ok (.aload_n 0, 1) := by decide +kernel
theorem dX6_readMarkup_1 : decode cX6_readMarkup 1 = .ok (.getfield 14, 3) := by decide +kernel
theorem dX6_readMarkup_4 : decode cX6_readMarkup 4 = .ok (.iload_n 1, 1) := by decide +kernel
theorem dX6_readMarkup_5 : decode cX6_readMarkup 5 = .ok (.iconst 1, 1) := by decide +kernel
theorem dX6_readMarkup_6 : decode cX6_readMarkup 6 = .ok (.iadd, 1) := by decide +kernel
theorem dX6_readMarkup_7 : decode cX6_readMarkup 7 = .ok (.invokevirtual 67, 3) := by decide +kernel
theorem dX6_readMarkup_10 : decode cX6_readMarkup 10 = .ok (.istore_n 2, 1) := by decide +kernel
theorem dX6_readMarkup_11 : decode cX6_readMarkup 11 = .ok (.iload_n 2, 1) := by decide +kernel
theorem dX6_readMarkup_12 : decode cX6_readMarkup 12 = .ok (.bipush 97, 2) := by decide +kernel
theorem dX6_readMarkup_14 : decode cX6_readMarkup 14 = .ok (.if_icmp .ne 66, 3) := by decide +kernel
theorem dX6_readMarkup_17 : decode cX6_readMarkup 17 = .ok (.iload_n 1, 1) := by decide +kernel
theorem dX6_readMarkup_18 : decode cX6_readMarkup 18 = .ok (.iconst 4, 1) := by decide +kernel
theorem dX6_readMarkup_19 : decode cX6_readMarkup 19 = .ok (.iadd, 1) := by decide +kernel
theorem dX6_readMarkup_20 : decode cX6_readMarkup 20 = .ok (.aload_n 0, 1) := by decide +kernel
theorem dX6_readMarkup_21 : decode cX6_readMarkup 21 = .ok (.getfield 56, 3) := by decide +kernel
theorem dX6_readMarkup_24 : decode cX6_readMarkup 24 = .ok (.if_icmp .ge 130, 3) := by decide +kernel
theorem dX6_readMarkup_27 : decode cX6_readMarkup 27 = .ok (.aload_n 0, 1) := by decide +kernel
theorem dX6_readMarkup_28 : decode cX6_readMarkup 28 = .ok (.getfield 14, 3) := by decide +kernel
theorem dX6_readMarkup_31 : decode cX6_readMarkup 31 = .ok (.iload_n 1, 1) := by decide +kernel
theorem dX6_readMarkup_32 : decode cX6_readMarkup 32 = .ok (.iconst 2, 1) := by decide +kernel
theorem dX6_readMarkup_33 : decode cX6_readMarkup 33 = .ok (.iadd, 1) := by decide +kernel
theorem dX6_readMarkup_34 : decode cX6_readMarkup 34 = .ok (.invokevirtual 67, 3) := by decide +kernel
theorem dX6_readMarkup_37 : decode cX6_readMarkup 37 = .ok (.bipush 109, 2) := by decide +kernel
theorem dX6_readMarkup_39 : decode cX6_readMarkup 39 = .ok (.if_icmp .ne 115, 3) := by decide +kernel
theorem dX6_readMarkup_42 : decode cX6_readMarkup 42 = .ok (.aload_n 0, 1) := by decide +kernel
theorem dX6_readMarkup_43 : decode cX6_readMarkup 43 = .ok (.getfield 14, 3) := by decide +kernel
theorem dX6_readMarkup_46 : decode cX6_readMarkup 46 = .ok (.iload_n 1, 1) := by decide +kernel
theorem dX6_readMarkup_47 : decode cX6_readMarkup 47 = .ok (.iconst 3, 1) := by decide +kernel
theorem dX6_readMarkup_48 : decode cX6_readMarkup 48 = .ok (.iadd, 1) := by decide +kernel
theorem dX6_readMarkup_49 : decode cX6_readMarkup 49 = .ok (.invokevirtual 67, 3) := by decide +kernel
theorem dX6_readMarkup_52 : decode cX6_readMarkup 52 = .ok (.bipush 112, 2) := by decide +kernel
theorem dX6_readMarkup_54 : decode cX6_readMarkup 54 = .ok (.if_icmp .ne 100, 3) := by decide +kernel
theorem dX6_readMarkup_57 : decode cX6_readMarkup 57 = .ok (.aload_n 0, 1) := by decide +kernel
theorem dX6_readMarkup_58 : decode cX6_readMarkup 58 = .ok (.getfield 14, 3) := by decide +kernel
theorem dX6_readMarkup_61 : decode cX6_readMarkup 61 = .ok (.iload_n 1, 1) := by decide +kernel
theorem dX6_readMarkup_62 : decode cX6_readMarkup 62 = .ok (.iconst 4, 1) := by decide +kernel
theorem dX6_readMarkup_63 : decode cX6_readMarkup 63 = .ok (.iadd, 1) := by decide +kernel
theorem dX6_readMarkup_64 : decode cX6_readMarkup 64 = .ok (.invokevirtual 67, 3) := by decide +kernel
theorem dX6_readMarkup_67 : decode cX6_readMarkup 67 = .ok (.bipush 59, 2) := by decide +kernel
theorem dX6_readMarkup_69 : decode cX6_readMarkup 69 = .ok (.if_icmp .ne 85, 3) := by decide +kernel
theorem dX6_readMarkup_72 : decode cX6_readMarkup 72 = .ok (.aload_n 0, 1) := by decide +kernel
theorem dX6_readMarkup_73 : decode cX6_readMarkup 73 = .ok (.iconst 5, 1) := by decide +kernel
theorem dX6_readMarkup_74 : decode cX6_readMarkup 74 = .ok (.putfield 86, 3) := by decide +kernel
theorem dX6_readMarkup_77 : decode cX6_readMarkup 77 = .ok (.goto 77, 3) := by decide +kernel
theorem dX6_readMarkup_80 : decode cX6_readMarkup 80 = .ok (.iload_n 2, 1) := by decide +kernel
theorem dX6_readMarkup_81 : decode cX6_readMarkup 81 = .ok (.bipush 108, 2) := by decide +kernel
theorem dX6_readMarkup_83 : decode cX6_readMarkup 83 = .ok (.if_icmp .eq 9, 3) := by decide +kernel
theorem dX6_readMarkup_86 : decode cX6_readMarkup 86 = .ok (.iload_n 2, 1) := by decide +kernel
theorem dX6_readMarkup_87 : decode cX6_readMarkup 87 = .ok (.bipush 103, 2) := by decide +kernel
theorem dX6_readMarkup_89 : decode cX6_readMarkup 89 = .ok (.if_icmp .ne 65, 3) := by decide +kernel
theorem dX6_readMarkup_92 : decode cX6_readMarkup 92 = .ok (.iload_n 1, 1) := by decide +kernel
theorem dX6_readMarkup_93 : decode cX6_readMarkup 93 = .ok (.iconst 3, 1) := by decide +kernel
theorem dX6_readMarkup_94 : decode cX6_readMarkup 94 = .ok (.iadd, 1) := by decide +kernel
theorem dX6_readMarkup_95 : decode cX6_readMarkup 95 = .ok (.aload_n 0, 1) := by decide +kernel
theorem dX6_readMarkup_96 : decode cX6_readMarkup 96 = .ok (.getfield 56, 3) := by decide +kernel
theorem dX6_readMarkup_99 : decode cX6_readMarkup 99 = .ok (.if_icmp .ge 55, 3) := by decide +kernel
theorem dX6_readMarkup_102 : decode cX6_readMarkup 102 = .ok (.aload_n 0, 1) := by decide +kernel
theorem dX6_readMarkup_103 : decode cX6_readMarkup 103 = .ok (.getfield 14, 3) := by decide +kernel
theorem dX6_readMarkup_106 : decode cX6_readMarkup 106 = .ok (.iload_n 1, 1) := by decide +kernel
theorem dX6_readMarkup_107 : decode cX6_readMarkup 107 = .ok (.iconst 2, 1) := by decide +kernel
theorem dX6_readMarkup_108 : decode cX6_readMarkup 108 = .ok (.iadd, 1) := by decide +kernel
theorem dX6_readMarkup_109 : decode cX6_readMarkup 109 = .ok (.invokevirtual 67, 3) := by decide +kernel
theorem dX6_readMarkup_112 : decode cX6_readMarkup 112 = .ok (.bipush 116, 2) := by decide +kernel
theorem dX6_readMarkup_114 : decode cX6_readMarkup 114 = .ok (.if_icmp .ne 40, 3) := by decide +kernel
theorem dX6_readMarkup_117 : decode cX6_readMarkup 117 = .ok (.aload_n 0, 1) := by decide +kernel
theorem dX6_readMarkup_118 : decode cX6_readMarkup 118 = .ok (.getfield 14, 3) := by decide +kernel
theorem dX6_readMarkup_121 : decode cX6_readMarkup 121 = .ok (.iload_n 1, 1) := by decide +kernel
theorem dX6_readMarkup_122 : decode cX6_readMarkup 122 = .ok (.iconst 3, 1) := by decide +kernel
theorem dX6_readMarkup_123 : decode cX6_readMarkup 123 = .ok (.iadd, 1) := by decide +kernel
theorem dX6_readMarkup_124 : decode cX6_readMarkup 124 = .ok (.invokevirtual 67, 3) := by decide +kernel
theorem dX6_readMarkup_127 : decode cX6_readMarkup 127 = .ok (.bipush 59, 2) := by decide +kernel
theorem dX6_readMarkup_129 : decode cX6_readMarkup 129 = .ok (.if_icmp .ne 25, 3) := by decide +kernel
theorem dX6_readMarkup_132 : decode cX6_readMarkup 132 = .ok (.aload_n 0, 1) := by decide +kernel
theorem dX6_readMarkup_133 : decode cX6_readMarkup 133 = .ok (.iload_n 2, 1) := by decide +kernel
theorem dX6_readMarkup_134 : decode cX6_readMarkup 134 = .ok (.bipush 108, 2) := by decide +kernel
theorem dX6_readMarkup_136 : decode cX6_readMarkup 136 = .ok (.if_icmp .ne 8, 3) := by decide +kernel
theorem dX6_readMarkup_139 : decode cX6_readMarkup 139 = .ok (.bipush 60, 2) := by decide +kernel
theorem dX6_readMarkup_141 : decode cX6_readMarkup 141 = .ok (.goto 5, 3) := by decide +kernel
theorem dX6_readMarkup_144 : decode cX6_readMarkup 144 = .ok (.bipush 62, 2) := by decide +kernel
theorem dX6_readMarkup_146 : decode cX6_readMarkup 146 = .ok (.putfield 83, 3) := by decide +kernel
theorem dX6_readMarkup_149 : decode cX6_readMarkup 149 = .ok (.aload_n 0, 1) := by decide +kernel
theorem dX6_readMarkup_150 : decode cX6_readMarkup 150 = .ok (.iconst 4, 1) := by decide +kernel
theorem dX6_readMarkup_151 : decode cX6_readMarkup 151 = .ok (.putfield 86, 3) := by decide +kernel
theorem dX6_readMarkup_154 : decode cX6_readMarkup 154 = .ok (.return_, 1) := by decide +kernel
theorem dX6_start_0 : decode cX6_start 0 = .ok (.aload_n 0, 1) := by decide +kernel
theorem dX6_start_1 : decode cX6_start 1 = .ok (.aload_n 1, 1) := by decide +kernel
theorem dX6_start_2 : decode cX6_start 2 = .ok (.putfield 14, 3) := by decide +kernel
theorem dX6_start_5 : decode cX6_start 5 = .ok (.aload_n 0, 1) := by decide +kernel
theorem dX6_start_6 : decode cX6_start 6 = .ok (.iload_n 2, 1) := by decide +kernel
theorem dX6_start_7 : decode cX6_start 7 = .ok (.putfield 20, 3) := by decide +kernel
theorem dX6_start_10 : decode cX6_start 10 = .ok (.aload_n 0, 1) := by decide +kernel
theorem dX6_start_11 : decode cX6_start 11 = .ok (.iconst 0, 1) := by decide +kernel
theorem dX6_start_12 : decode cX6_start 12 = .ok (.putfield 24, 3) := by decide +kernel
theorem dX6_start_15 : decode cX6_start 15 = .ok (.aload_n 0, 1) := by decide +kernel
theorem dX6_start_16 : decode cX6_start 16 = .ok (.iconst 0, 1) := by decide +kernel
theorem dX6_start_17 : decode cX6_start 17 = .ok (.putfield 27, 3) := by decide +kernel
theorem dX6_start_20 : decode cX6_start 20 = .ok (.aload_n 0, 1) := by decide +kernel
theorem dX6_start_21 : decode cX6_start 21 = .ok (.iconst 0, 1) := by decide +kernel
theorem dX6_start_22 : decode cX6_start 22 = .ok (.putfield 31, 3) := by decide +kernel
theorem dX6_start_25 : decode cX6_start 25 = .ok (.aload_n 0, 1) := by decide +kernel
theorem dX6_start_26 : decode cX6_start 26 = .ok (.iconst 0, 1) := by decide +kernel
theorem dX6_start_27 : decode cX6_start 27 = .ok (.putfield 34, 3) := by decide +kernel
theorem dX6_start_30 : decode cX6_start 30 = .ok (.return_, 1) := by decide +kernel
theorem dX6_tryCell_0 : decode cX6_tryCell 0 = .ok (.aload_n 0, 1) := by decide +kernel
theorem dX6_tryCell_1 : decode cX6_tryCell 1 = .ok (.aload_n 0, 1) := by decide +kernel
theorem dX6_tryCell_2 : decode cX6_tryCell 2 = .ok (.getfield 14, 3) := by decide +kernel
theorem dX6_tryCell_5 : decode cX6_tryCell 5 = .ok (.aload_n 0, 1) := by decide +kernel
theorem dX6_tryCell_6 : decode cX6_tryCell 6 = .ok (.getfield 24, 3) := by decide +kernel
theorem dX6_tryCell_9 : decode cX6_tryCell 9 = .ok (.invokevirtual 67, 3) := by decide +kernel
theorem dX6_tryCell_12 : decode cX6_tryCell 12 = .ok (.bipush 34, 2) := by decide +kernel
theorem dX6_tryCell_14 : decode cX6_tryCell 14 = .ok (.if_icmp .ne 7, 3) := by decide +kernel
theorem dX6_tryCell_17 : decode cX6_tryCell 17 = .ok (.iconst 1, 1) := by decide +kernel
theorem dX6_tryCell_18 : decode cX6_tryCell 18 = .ok (.goto 4, 3) := by decide +kernel
theorem dX6_tryCell_21 : decode cX6_tryCell 21 = .ok (.iconst 0, 1) := by decide +kernel
theorem dX6_tryCell_22 : decode cX6_tryCell 22 = .ok (.putfield 27, 3) := by decide +kernel
theorem dX6_tryCell_25 : decode cX6_tryCell 25 = .ok (.aload_n 0, 1) := by decide +kernel
theorem dX6_tryCell_26 : decode cX6_tryCell 26 = .ok (.aload_n 0, 1) := by decide +kernel
theorem dX6_tryCell_27 : decode cX6_tryCell 27 = .ok (.getfield 27, 3) := by decide +kernel
theorem dX6_tryCell_30 : decode cX6_tryCell 30 = .ok (.ifCond .eq 12, 3) := by decide +kernel
theorem dX6_tryCell_33 : decode cX6_tryCell 33 = .ok (.aload_n 0, 1) := by decide +kernel
theorem dX6_tryCell_34 : decode cX6_tryCell 34 = .ok (.getfield 24, 3) := by decide +kernel
theorem dX6_tryCell_37 : decode cX6_tryCell 37 = .ok (.iconst 1, 1) := by decide +kernel
theorem dX6_tryCell_38 : decode cX6_tryCell 38 = .ok (.iadd, 1) := by decide +kernel
theorem dX6_tryCell_39 : decode cX6_tryCell 39 = .ok (.goto 7, 3) := by decide +kernel
theorem dX6_tryCell_42 : decode cX6_tryCell 42 = .ok (.aload_n 0, 1) := by decide +kernel
theorem dX6_tryCell_43 : decode cX6_tryCell 43 = .ok (.getfield 24, 3) := by decide +kernel
theorem dX6_tryCell_46 : decode cX6_tryCell 46 = .ok (.putfield 53, 3) := by decide +kernel
theorem dX6_tryCell_49 : decode cX6_tryCell 49 = .ok (.aload_n 0, 1) := by decide +kernel
theorem dX6_tryCell_50 : decode cX6_tryCell 50 = .ok (.aload_n 0, 1) := by decide +kernel
theorem dX6_tryCell_51 : decode cX6_tryCell 51 = .ok (.getfield 27, 3) := by decide +kernel
theorem dX6_tryCell_54 : decode cX6_tryCell 54 = .ok (.ifCond .eq 17, 3) := by decide +kernel
theorem dX6_tryCell_57 : decode cX6_tryCell 57 = .ok (.aload_n 0, 1) := by decide +kernel
theorem dX6_tryCell_58 : decode cX6_tryCell 58 = .ok (.getfield 14, 3) := by decide +kernel
theorem dX6_tryCell_61 : decode cX6_tryCell 61 = .ok (.aload_n 0, 1) := by decide +kernel
theorem dX6_tryCell_62 : decode cX6_tryCell 62 = .ok (.getfield 53, 3) := by decide +kernel
theorem dX6_tryCell_65 : decode cX6_tryCell 65 = .ok (.invokevirtual 71, 3) := by decide +kernel
theorem dX6_tryCell_68 : decode cX6_tryCell 68 = .ok (.goto 14, 3) := by decide +kernel
theorem dX6_tryCell_71 : decode cX6_tryCell 71 = .ok (.aload_n 0, 1) := by decide +kernel
theorem dX6_tryCell_72 : decode cX6_tryCell 72 = .ok (.getfield 14, 3) := by decide +kernel
theorem dX6_tryCell_75 : decode cX6_tryCell 75 = .ok (.aload_n 0, 1) := by decide +kernel
theorem dX6_tryCell_76 : decode cX6_tryCell 76 = .ok (.getfield 53, 3) := by decide +kernel
theorem dX6_tryCell_79 : decode cX6_tryCell 79 = .ok (.invokevirtual 74, 3) := by decide +kernel
theorem dX6_tryCell_82 : decode cX6_tryCell 82 = .ok (.putfield 56, 3) := by decide +kernel
theorem dX6_tryCell_85 : decode cX6_tryCell 85 = .ok (.aload_n 0, 1) := by decide +kernel
theorem dX6_tryCell_86 : decode cX6_tryCell 86 = .ok (.aload_n 0, 1) := by decide +kernel
theorem dX6_tryCell_87 : decode cX6_tryCell 87 = .ok (.getfield 27, 3) := by decide +kernel
theorem dX6_tryCell_90 : decode cX6_tryCell 90 = .ok (.ifCond .eq 21, 3) := by decide +kernel
theorem dX6_tryCell_93 : decode cX6_tryCell 93 = .ok (.aload_n 0, 1) := by decide +kernel
theorem dX6_tryCell_94 : decode cX6_tryCell 94 = .ok (.getfield 14, 3) := by decide +kernel
theorem dX6_tryCell_97 : decode cX6_tryCell 97 = .ok (.aload_n 0, 1) := by decide +kernel
theorem dX6_tryCell_98 : decode cX6_tryCell 98 = .ok (.getfield 56, 3) := by decide +kernel
theorem dX6_tryCell_101 : decode cX6_tryCell 101 = .ok (.iconst 1, 1) := by decide +kernel
theorem dX6_tryCell_102 : decode cX6_tryCell 102 = .ok (.iadd, 1) := by decide +kernel
theorem dX6_tryCell_103 : decode cX6_tryCell 103 = .ok (.invokevirtual 74, 3) := by decide +kernel
theorem dX6_tryCell_106 : decode cX6_tryCell 106 = .ok (.iconst 1, 1) := by decide +kernel
theorem dX6_tryCell_107 : decode cX6_tryCell 107 = .ok (.iadd, 1) := by decide +kernel
theorem dX6_tryCell_108 : decode cX6_tryCell 108 = .ok (.goto 9, 3) := by decide +kernel
theorem dX6_tryCell_111 : decode cX6_tryCell 111 = .ok (.aload_n 0, 1) := by decide +kernel
theorem dX6_tryCell_112 : decode cX6_tryCell 112 = .ok (.getfield 56, 3) := by decide +kernel
theorem dX6_tryCell_115 : decode cX6_tryCell 115 = .ok (.iconst 1, 1) := by decide +kernel
theorem dX6_tryCell_116 : decode cX6_tryCell 116 = .ok (.iadd, 1) := by decide +kernel
theorem dX6_tryCell_117 : decode cX6_tryCell 117 = .ok (.putfield 24, 3) := by decide +kernel
theorem dX6_tryCell_120 : decode cX6_tryCell 120 = .ok (.return_, 1) := by decide +kernel
theorem dX6_tryLine_0 : decode cX6_tryLine 0 = .ok (.aload_n 0, 1) := by decide +kernel
theorem dX6_tryLine_1 : decode cX6_tryLine 1 = .ok (.getfield 24, 3) := by decide +kernel
theorem dX6_tryLine_4 : decode cX6_tryLine 4 = .ok (.istore_n 1, 1) := by decide +kernel
theorem dX6_tryLine_5 : decode cX6_tryLine 5 = .ok (.aload_n 0, 1) := by decide +kernel
theorem dX6_tryLine_6 : decode cX6_tryLine 6 = .ok (.getfield 14, 3) := by decide +kernel
theorem dX6_tryLine_9 : decode cX6_tryLine 9 = .ok (.bipush 10, 2) := by decide +kernel
theorem dX6_tryLine_11 : decode cX6_tryLine 11 = .ok (.iload_n 1, 1) := by decide +kernel
theorem dX6_tryLine_12 : decode cX6_tryLine 12 = .ok (.aload_n 0, 1) := by decide +kernel
theorem dX6_tryLine_13 : decode cX6_tryLine 13 = .ok (.getfield 14, 3) := by decide +kernel
theorem dX6_tryLine_16 : decode cX6_tryLine 16 = .ok (.invokevirtual 37, 3) := by decide +kernel
theorem dX6_tryLine_19 : decode cX6_tryLine 19 = .ok (.invokevirtual 59, 3) := by decide +kernel
theorem dX6_tryLine_22 : decode cX6_tryLine 22 = .ok (.istore_n 2, 1) := by decide +kernel
theorem dX6_tryLine_23 : decode cX6_tryLine 23 = .ok (.aload_n 0, 1) := by decide +kernel
theorem dX6_tryLine_24 : decode cX6_tryLine 24 = .ok (.iload_n 2, 1) := by decide +kernel
theorem dX6_tryLine_25 : decode cX6_tryLine 25 = .ok (.iconst 1, 1) := by decide +kernel
theorem dX6_tryLine_26 : decode cX6_tryLine 26 = .ok (.iadd, 1) := by decide +kernel
theorem dX6_tryLine_27 : decode cX6_tryLine 27 = .ok (.putfield 24, 3) := by decide +kernel
theorem dX6_tryLine_30 : decode cX6_tryLine 30 = .ok (.aload_n 0, 1) := by decide +kernel
theorem dX6_tryLine_31 : decode cX6_tryLine 31 = .ok (.getfield 14, 3) := by decide +kernel
theorem dX6_tryLine_34 : decode cX6_tryLine 34 = .ok (.bipush 61, 2) := by decide +kernel
theorem dX6_tryLine_36 : decode cX6_tryLine 36 = .ok (.iload_n 1, 1) := by decide +kernel
theorem dX6_tryLine_37 : decode cX6_tryLine 37 = .ok (.iload_n 2, 1) := by decide +kernel
theorem dX6_tryLine_38 : decode cX6_tryLine 38 = .ok (.invokevirtual 59, 3) := by decide +kernel
theorem dX6_tryLine_41 : decode cX6_tryLine 41 = .ok (.istore_n 3, 1) := by decide +kernel
theorem dX6_tryLine_42 : decode cX6_tryLine 42 = .ok (.aload_n 0, 1) := by decide +kernel
theorem dX6_tryLine_43 : decode cX6_tryLine 43 = .ok (.aload_n 0, 1) := by decide +kernel
theorem dX6_tryLine_44 : decode cX6_tryLine 44 = .ok (.getfield 14, 3) := by decide +kernel
theorem dX6_tryLine_47 : decode cX6_tryLine 47 = .ok (.iload_n 1, 1) := by decide +kernel
theorem dX6_tryLine_48 : decode cX6_tryLine 48 = .ok (.iload_n 2, 1) := by decide +kernel
theorem dX6_tryLine_49 : decode cX6_tryLine 49 = .ok (.invokevirtual 63, 3) := by decide +kernel
theorem dX6_tryLine_52 : decode cX6_tryLine 52 = .ok (.putfield 31, 3) := by decide +kernel
theorem dX6_tryLine_55 : decode cX6_tryLine 55 = .ok (.aload_n 0, 1) := by decide +kernel
theorem dX6_tryLine_56 : decode cX6_tryLine 56 = .ok (.iload_n 2, 1) := by decide +kernel
theorem dX6_tryLine_57 : decode cX6_tryLine 57 = .ok (.putfield 53, 3) := by decide +kernel
theorem dX6_tryLine_60 : decode cX6_tryLine 60 = .ok (.aload_n 0, 1) := by decide +kernel
theorem dX6_tryLine_61 : decode cX6_tryLine 61 = .ok (.iload_n 2, 1) := by decide +kernel
theorem dX6_tryLine_62 : decode cX6_tryLine 62 = .ok (.putfield 56, 3) := by decide +kernel
theorem dX6_tryLine_65 : decode cX6_tryLine 65 = .ok (.iload_n 3, 1) := by decide +kernel
theorem dX6_tryLine_66 : decode cX6_tryLine 66 = .ok (.iload_n 2, 1) := by decide +kernel
theorem dX6_tryLine_67 : decode cX6_tryLine 67 = .ok (.if_icmp .eq 19, 3) := by decide +kernel
theorem dX6_tryLine_70 : decode cX6_tryLine 70 = .ok (.aload_n 0, 1) := by decide +kernel
theorem dX6_tryLine_71 : decode cX6_tryLine 71 = .ok (.getfield 14, 3) := by decide +kernel
theorem dX6_tryLine_74 : decode cX6_tryLine 74 = .ok (.aload_n 0, 1) := by decide +kernel
theorem dX6_tryLine_75 : decode cX6_tryLine 75 = .ok (.getfield 31, 3) := by decide +kernel
theorem dX6_tryLine_78 : decode cX6_tryLine 78 = .ok (.invokevirtual 67, 3) := by decide +kernel
theorem dX6_tryLine_81 : decode cX6_tryLine 81 = .ok (.bipush 35, 2) := by decide +kernel
theorem dX6_tryLine_83 : decode cX6_tryLine 83 = .ok (.if_icmp .ne 4, 3) := by decide +kernel
theorem dX6_tryLine_86 : decode cX6_tryLine 86 = .ok (.return_, 1) := by decide +kernel
theorem dX6_tryLine_87 : decode cX6_tryLine 87 = .ok (.aload_n 0, 1) := by decide +kernel
theorem dX6_tryLine_88 : decode cX6_tryLine 88 = .ok (.iload_n 3, 1) := by decide +kernel
theorem dX6_tryLine_89 : decode cX6_tryLine 89 = .ok (.aload_n 0, 1) := by decide +kernel
theorem dX6_tryLine_90 : decode cX6_tryLine 90 = .ok (.getfield 31, 3) := by decide +kernel
theorem dX6_tryLine_93 : decode cX6_tryLine 93 = .ok (.isub, 1) := by decide +kernel
theorem dX6_tryLine_94 : decode cX6_tryLine 94 = .ok (.putfield 34, 3) := by decide +kernel
theorem dX6_tryLine_97 : decode cX6_tryLine 97 = .ok (.iload_n 3, 1) := by decide +kernel
theorem dX6_tryLine_98 : decode cX6_tryLine 98 = .ok (.iconst 1, 1) := by decide +kernel
theorem dX6_tryLine_99 : decode cX6_tryLine 99 = .ok (.isub, 1) := by decide +kernel
theorem dX6_tryLine_100 : decode cX6_tryLine 100 = .ok (.istore 4, 2) := by decide +kernel
theorem dX6_tryLine_102 : decode cX6_tryLine 102 = .ok (.iload 4, 2) := by decide +kernel
theorem dX6_tryLine_104 : decode cX6_tryLine 104 = .ok (.aload_n 0, 1) := by decide +kernel
theorem dX6_tryLine_105 : decode cX6_tryLine 105 = .ok (.getfield 31, 3) := by decide +kernel
theorem dX6_tryLine_108 : decode cX6_tryLine 108 = .ok (.if_icmp .lt 33, 3) := by decide +kernel
theorem dX6_tryLine_111 : decode cX6_tryLine 111 = .ok (.aload_n 0, 1) := by decide +kernel
theorem dX6_tryLine_112 : decode cX6_tryLine 112 = .ok (.getfield 14, 3) := by decide +kernel
theorem dX6_tryLine_115 : decode cX6_tryLine 115 = .ok (.iload 4, 2) := by decide +kernel
theorem dX6_tryLine_117 : decode cX6_tryLine 117 = .ok (.invokevirtual 67, 3) := by decide +kernel
theorem dX6_tryLine_120 : decode cX6_tryLine 120 = .ok (.bipush 32, 2) := by decide +kernel
theorem dX6_tryLine_122 : decode cX6_tryLine 122 = .ok (.if_icmp .ne 19, 3) := by decide +kernel
theorem dX6_tryLine_125 : decode cX6_tryLine 125 = .ok (.aload_n 0, 1) := by decide +kernel
theorem dX6_tryLine_126 : decode cX6_tryLine 126 = .ok (.dup, 1) := by decide +kernel
theorem dX6_tryLine_127 : decode cX6_tryLine 127 = .ok (.getfield 34, 3) := by decide +kernel
theorem dX6_tryLine_130 : decode cX6_tryLine 130 = .ok (.iconst 1, 1) := by decide +kernel
theorem dX6_tryLine_131 : decode cX6_tryLine 131 = .ok (.isub, 1) := by decide +kernel
theorem dX6_tryLine_132 : decode cX6_tryLine 132 = .ok (.putfield 34, 3) := by decide +kernel
theorem dX6_tryLine_135 : decode cX6_tryLine 135 = .ok (.iinc 4 (-1), 3) := by decide +kernel
theorem dX6_tryLine_138 : decode cX6_tryLine 138 = .ok (.goto (-36), 3) := by decide +kernel
theorem dX6_tryLine_141 : decode cX6_tryLine 141 = .ok (.aload_n 0, 1) := by decide +kernel
theorem dX6_tryLine_142 : decode cX6_tryLine 142 = .ok (.aload_n 0, 1) := by decide +kernel
theorem dX6_tryLine_143 : decode cX6_tryLine 143 = .ok (.getfield 14, 3) := by decide +kernel
theorem dX6_tryLine_146 : decode cX6_tryLine 146 = .ok (.iload_n 3, 1) := by decide +kernel
theorem dX6_tryLine_147 : decode cX6_tryLine 147 = .ok (.iconst 1, 1) := by decide +kernel
theorem dX6_tryLine_148 : decode cX6_tryLine 148 = .ok (.iadd, 1) := by decide +kernel
theorem dX6_tryLine_149 : decode cX6_tryLine 149 = .ok (.iload_n 2, 1) := by decide +kernel
theorem dX6_tryLine_150 : decode cX6_tryLine 150 = .ok (.invokevirtual 63, 3) := by decide +kernel
theorem dX6_tryLine_153 : decode cX6_tryLine 153 = .ok (.putfield 53, 3) := by decide +kernel
theorem dX6_tryLine_156 : decode cX6_tryLine 156 = .ok (.return_, 1) := by decide +kernel
theorem dX6_tryMarkup_0 : decode cX6_tryMarkup 0 = .ok (.aload_n 0, 1) := by decide +kernel
theorem dX6_tryMarkup_1 : decode cX6_tryMarkup 1 = .ok (.aload_n 0, 1) := by decide +kernel
theorem dX6_tryMarkup_2 : decode cX6_tryMarkup 2 = .ok (.getfield 24, 3) := by decide +kernel
theorem dX6_tryMarkup_5 : decode cX6_tryMarkup 5 = .ok (.putfield 53, 3) := by decide +kernel
theorem dX6_tryMarkup_8 : decode cX6_tryMarkup 8 = .ok (.aload_n 0, 1) := by decide +kernel
theorem dX6_tryMarkup_9 : decode cX6_tryMarkup 9 = .ok (.aload_n 0, 1) := by decide +kernel
theorem dX6_tryMarkup_10 : decode cX6_tryMarkup 10 = .ok (.getfield 24, 3) := by decide +kernel
theorem dX6_tryMarkup_13 : decode cX6_tryMarkup 13 = .ok (.putfield 56, 3) := by decide +kernel
theorem dX6_tryMarkup_16 : decode cX6_tryMarkup 16 = .ok (.aload_n 0, 1) := by decide +kernel
theorem dX6_tryMarkup_17 : decode cX6_tryMarkup 17 = .ok (.getfield 14, 3) := by decide +kernel
theorem dX6_tryMarkup_20 : decode cX6_tryMarkup 20 = .ok (.aload_n 0, 1) := by decide +kernel
theorem dX6_tryMarkup_21 : decode cX6_tryMarkup 21 = .ok (.getfield 24, 3) := by decide +kernel
theorem dX6_tryMarkup_24 : decode cX6_tryMarkup 24 = .ok (.invokevirtual 67, 3) := by decide +kernel
theorem dX6_tryMarkup_27 : decode cX6_tryMarkup 27 = .ok (.bipush 60, 2) := by decide +kernel
theorem dX6_tryMarkup_29 : decode cX6_tryMarkup 29 = .ok (.if_icmp .ne 30, 3) := by decide +kernel
theorem dX6_tryMarkup_32 : decode cX6_tryMarkup 32 = .ok (.aload_n 0, 1) := by decide +kernel
theorem dX6_tryMarkup_33 : decode cX6_tryMarkup 33 = .ok (.aload_n 0, 1) := by decide +kernel
theorem dX6_tryMarkup_34 : decode cX6_tryMarkup 34 = .ok (.getfield 14, 3) := by decide +kernel
theorem dX6_tryMarkup_37 : decode cX6_tryMarkup 37 = .ok (.bipush 62, 2) := by decide +kernel
theorem dX6_tryMarkup_39 : decode cX6_tryMarkup 39 = .ok (.aload_n 0, 1) := by decide +kernel
theorem dX6_tryMarkup_40 : decode cX6_tryMarkup 40 = .ok (.getfield 24, 3) := by decide +kernel
theorem dX6_tryMarkup_43 : decode cX6_tryMarkup 43 = .ok (.aload_n 0, 1) := by decide +kernel
theorem dX6_tryMarkup_44 : decode cX6_tryMarkup 44 = .ok (.getfield 14, 3) := by decide +kernel
theorem dX6_tryMarkup_47 : decode cX6_tryMarkup 47 = .ok (.invokevirtual 37, 3) := by decide +kernel
theorem dX6_tryMarkup_50 : decode cX6_tryMarkup 50 = .ok (.invokevirtual 59, 3) := by decide +kernel
theorem dX6_tryMarkup_53 : decode cX6_tryMarkup 53 = .ok (.iconst 1, 1) := by decide +kernel
theorem dX6_tryMarkup_54 : decode cX6_tryMarkup 54 = .ok (.iadd, 1) := by decide +kernel
theorem dX6_tryMarkup_55 : decode cX6_tryMarkup 55 = .ok (.putfield 24, 3) := by decide +kernel
theorem dX6_tryMarkup_58 : decode cX6_tryMarkup 58 = .ok (.return_, 1) := by decide +kernel
theorem dX6_tryMarkup_59 : decode cX6_tryMarkup 59 = .ok (.aload_n 0, 1) := by decide +kernel
theorem dX6_tryMarkup_60 : decode cX6_tryMarkup 60 = .ok (.getfield 14, 3) := by decide +kernel
theorem dX6_tryMarkup_63 : decode cX6_tryMarkup 63 = .ok (.bipush 60, 2) := by decide +kernel
theorem dX6_tryMarkup_65 : decode cX6_tryMarkup 65 = .ok (.aload_n 0, 1) := by decide +kernel
theorem dX6_tryMarkup_66 : decode cX6_tryMarkup 66 = .ok (.getfield 24, 3) := by decide +kernel
theorem dX6_tryMarkup_69 : decode cX6_tryMarkup 69 = .ok (.aload_n 0, 1) := by decide +kernel
theorem dX6_tryMarkup_70 : decode cX6_tryMarkup 70 = .ok (.getfield 14, 3) := by decide +kernel
theorem dX6_tryMarkup_73 : decode cX6_tryMarkup 73 = .ok (.invokevirtual 37, 3) := by decide +kernel
theorem dX6_tryMarkup_76 : decode cX6_tryMarkup 76 = .ok (.invokevirtual 59, 3) := by decide +kernel
theorem dX6_tryMarkup_79 : decode cX6_tryMarkup 79 = .ok (.istore_n 1, 1) := by decide +kernel
theorem dX6_tryMarkup_80 : decode cX6_tryMarkup 80 = .ok (.aload_n 0, 1) := by decide +kernel
theorem dX6_tryMarkup_81 : decode cX6_tryMarkup 81 = .ok (.aload_n 0, 1) := by decide +kernel
theorem dX6_tryMarkup_82 : decode cX6_tryMarkup 82 = .ok (.getfield 14, 3) := by decide +kernel
theorem dX6_tryMarkup_85 : decode cX6_tryMarkup 85 = .ok (.aload_n 0, 1) := by decide +kernel
theorem dX6_tryMarkup_86 : decode cX6_tryMarkup 86 = .ok (.getfield 24, 3) := by decide +kernel
theorem dX6_tryMarkup_89 : decode cX6_tryMarkup 89 = .ok (.iload_n 1, 1) := by decide +kernel
theorem dX6_tryMarkup_90 : decode cX6_tryMarkup 90 = .ok (.invokevirtual 77, 3) := by decide +kernel
theorem dX6_tryMarkup_93 : decode cX6_tryMarkup 93 = .ok (.putfield 53, 3) := by decide +kernel
theorem dX6_tryMarkup_96 : decode cX6_tryMarkup 96 = .ok (.aload_n 0, 1) := by decide +kernel
theorem dX6_tryMarkup_97 : decode cX6_tryMarkup 97 = .ok (.iload_n 1, 1) := by decide +kernel
theorem dX6_tryMarkup_98 : decode cX6_tryMarkup 98 = .ok (.putfield 56, 3) := by decide +kernel
theorem dX6_tryMarkup_101 : decode cX6_tryMarkup 101 = .ok (.iload_n 1, 1) := by decide +kernel
theorem dX6_tryMarkup_102 : decode cX6_tryMarkup 102 = .ok (.iconst 1, 1) := by decide +kernel
theorem dX6_tryMarkup_103 : decode cX6_tryMarkup 103 = .ok (.isub, 1) := by decide +kernel
theorem dX6_tryMarkup_104 : decode cX6_tryMarkup 104 = .ok (.istore_n 2, 1) := by decide +kernel
theorem dX6_tryMarkup_105 : decode cX6_tryMarkup 105 = .ok (.iload_n 2, 1) := by decide +kernel
theorem dX6_tryMarkup_106 : decode cX6_tryMarkup 106 = .ok (.aload_n 0, 1) := by decide +kernel
theorem dX6_tryMarkup_107 : decode cX6_tryMarkup 107 = .ok (.getfield 53, 3) := by decide +kernel
theorem dX6_tryMarkup_110 : decode cX6_tryMarkup 110 = .ok (.if_icmp .le 40, 3) := by decide +kernel
theorem dX6_tryMarkup_113 : decode cX6_tryMarkup 113 = .ok (.aload_n 0, 1) := by decide +kernel
theorem dX6_tryMarkup_114 : decode cX6_tryMarkup 114 = .ok (.getfield 14, 3) := by decide +kernel
theorem dX6_tryMarkup_117 : decode cX6_tryMarkup 117 = .ok (.iload_n 2, 1) := by decide +kernel
theorem dX6_tryMarkup_118 : decode cX6_tryMarkup 118 = .ok (.invokevirtual 67, 3) := by decide +kernel
theorem dX6_tryMarkup_121 : decode cX6_tryMarkup 121 = .ok (.bipush 32, 2) := by decide +kernel
theorem dX6_tryMarkup_123 : decode cX6_tryMarkup 123 = .ok (.if_icmp .eq 16, 3) := by decide +kernel
theorem dX6_tryMarkup_126 : decode cX6_tryMarkup 126 = .ok (.aload_n 0, 1) := by decide +kernel
theorem dX6_tryMarkup_127 : decode cX6_tryMarkup 127 = .ok (.getfield 14, 3) := by decide +kernel
theorem dX6_tryMarkup_130 : decode cX6_tryMarkup 130 = .ok (.iload_n 2, 1) := by decide +kernel
theorem dX6_tryMarkup_131 : decode cX6_tryMarkup 131 = .ok (.invokevirtual 67, 3) := by decide +kernel
theorem dX6_tryMarkup_134 : decode cX6_tryMarkup 134 = .ok (.bipush 10, 2) := by decide +kernel
theorem dX6_tryMarkup_136 : decode cX6_tryMarkup 136 = .ok (.if_icmp .ne 14, 3) := by decide +kernel
theorem dX6_tryMarkup_139 : decode cX6_tryMarkup 139 = .ok (.aload_n 0, 1) := by decide +kernel
theorem dX6_tryMarkup_140 : decode cX6_tryMarkup 140 = .ok (.iload_n 2, 1) := by decide +kernel
theorem dX6_tryMarkup_141 : decode cX6_tryMarkup 141 = .ok (.putfield 56, 3) := by decide +kernel
theorem dX6_tryMarkup_144 : decode cX6_tryMarkup 144 = .ok (.iinc 2 (-1), 3) := by decide +kernel
theorem dX6_tryMarkup_147 : decode cX6_tryMarkup 147 = .ok (.goto (-42), 3) := by decide +kernel
theorem dX6_tryMarkup_150 : decode cX6_tryMarkup 150 = .ok (.aload_n 0, 1) := by decide +kernel
theorem dX6_tryMarkup_151 : decode cX6_tryMarkup 151 = .ok (.iload_n 1, 1) := by decide +kernel
theorem dX6_tryMarkup_152 : decode cX6_tryMarkup 152 = .ok (.putfield 24, 3) := by decide +kernel
theorem dX6_tryMarkup_155 : decode cX6_tryMarkup 155 = .ok (.return_, 1) := by decide +kernel
theorem dX6_tryQuotes_0 : decode cX6_tryQuotes 0 = .ok (.aload_n 0, 1) := by decide +kernel
theorem dX6_tryQuotes_1 : decode cX6_tryQuotes 1 = .ok (.aload_n 0, 1) := by decide +kernel
theorem dX6_tryQuotes_2 : decode cX6_tryQuotes 2 = .ok (.getfield 14, 3) := by decide +kernel
theorem dX6_tryQuotes_5 : decode cX6_tryQuotes 5 = .ok (.bipush 34, 2) := by decide +kernel
theorem dX6_tryQuotes_7 : decode cX6_tryQuotes 7 = .ok (.aload_n 0, 1) := by decide +kernel
theorem dX6_tryQuotes_8 : decode cX6_tryQuotes 8 = .ok (.getfield 24, 3) := by decide +kernel
theorem dX6_tryQuotes_11 : decode cX6_tryQuotes 11 = .ok (.aload_n 0, 1) := by decide +kernel
theorem dX6_tryQuotes_12 : decode cX6_tryQuotes 12 = .ok (.getfield 14, 3) := by decide +kernel
theorem dX6_tryQuotes_15 : decode cX6_tryQuotes 15 = .ok (.invokevirtual 37, 3) := by decide +kernel
theorem dX6_tryQuotes_18 : decode cX6_tryQuotes 18 = .ok (.invokevirtual 59, 3) := by decide +kernel
theorem dX6_tryQuotes_21 : decode cX6_tryQuotes 21 = .ok (.iconst 1, 1) := by decide +kernel
theorem dX6_tryQuotes_22 : decode cX6_tryQuotes 22 = .ok (.iadd, 1) := by decide +kernel
theorem dX6_tryQuotes_23 : decode cX6_tryQuotes 23 = .ok (.putfield 53, 3) := by decide +kernel
theorem dX6_tryQuotes_26 : decode cX6_tryQuotes 26 = .ok (.aload_n 0, 1) := by decide +kernel
theorem dX6_tryQuotes_27 : decode cX6_tryQuotes 27 = .ok (.aload_n 0, 1) := by decide +kernel
theorem dX6_tryQuotes_28 : decode cX6_tryQuotes 28 = .ok (.getfield 14, 3) := by decide +kernel
theorem dX6_tryQuotes_31 : decode cX6_tryQuotes 31 = .ok (.aload_n 0, 1) := by decide +kernel
theorem dX6_tryQuotes_32 : decode cX6_tryQuotes 32 = .ok (.getfield 53, 3) := by decide +kernel
theorem dX6_tryQuotes_35 : decode cX6_tryQuotes 35 = .ok (.invokevirtual 80, 3) := by decide +kernel
theorem dX6_tryQuotes_38 : decode cX6_tryQuotes 38 = .ok (.putfield 56, 3) := by decide +kernel
theorem dX6_tryQuotes_41 : decode cX6_tryQuotes 41 = .ok (.aload_n 0, 1) := by decide +kernel
theorem dX6_tryQuotes_42 : decode cX6_tryQuotes 42 = .ok (.aload_n 0, 1) := by decide +kernel
theorem dX6_tryQuotes_43 : decode cX6_tryQuotes 43 = .ok (.getfield 56, 3) := by decide +kernel
theorem dX6_tryQuotes_46 : decode cX6_tryQuotes 46 = .ok (.iconst 1, 1) := by decide +kernel
theorem dX6_tryQuotes_47 : decode cX6_tryQuotes 47 = .ok (.iadd, 1) := by decide +kernel
theorem dX6_tryQuotes_48 : decode cX6_tryQuotes 48 = .ok (.putfield 24, 3) := by decide +kernel
theorem dX6_tryQuotes_51 : decode cX6_tryQuotes 51 = .ok (.aload_n 0, 1) := by decide +kernel
theorem dX6_tryQuotes_52 : decode cX6_tryQuotes 52 = .ok (.getfield 14, 3) := by decide +kernel
theorem dX6_tryQuotes_55 : decode cX6_tryQuotes 55 = .ok (.aload_n 0, 1) := by decide +kernel
theorem dX6_tryQuotes_56 : decode cX6_tryQuotes 56 = .ok (.getfield 14, 3) := by decide +kernel
theorem dX6_tryQuotes_59 : decode cX6_tryQuotes 59 = .ok (.aload_n 0, 1) := by decide +kernel
theorem dX6_tryQuotes_60 : decode cX6_tryQuotes 60 = .ok (.getfield 24, 3) := by decide +kernel
theorem dX6_tryQuotes_63 : decode cX6_tryQuotes 63 = .ok (.aload_n 0, 1) := by decide +kernel
theorem dX6_tryQuotes_64 : decode cX6_tryQuotes 64 = .ok (.getfield 14, 3) := by decide +kernel
theorem dX6_tryQuotes_67 : decode cX6_tryQuotes 67 = .ok (.invokevirtual 37, 3) := by decide +kernel
theorem dX6_tryQuotes_70 : decode cX6_tryQuotes 70 = .ok (.invokevirtual 77, 3) := by decide +kernel
theorem dX6_tryQuotes_73 : decode cX6_tryQuotes 73 = .ok (.invokevirtual 67, 3) := by decide +kernel
theorem dX6_tryQuotes_76 : decode cX6_tryQuotes 76 = .ok (.bipush 58, 2) := by decide +kernel
theorem dX6_tryQuotes_78 : decode cX6_tryQuotes 78 = .ok (.if_icmp .ne 11, 3) := by decide +kernel
theorem dX6_tryQuotes_81 : decode cX6_tryQuotes 81 = .ok (.aload_n 0, 1) := by decide +kernel
theorem dX6_tryQuotes_82 : decode cX6_tryQuotes 82 = .ok (.aload_n 0, 1) := by decide +kernel
theorem dX6_tryQuotes_83 : decode cX6_tryQuotes 83 = .ok (.getfield 53, 3) := by decide +kernel
theorem dX6_tryQuotes_86 : decode cX6_tryQuotes 86 = .ok (.putfield 56, 3) := by decide +kernel
theorem dX6_tryQuotes_89 : decode cX6_tryQuotes 89 = .ok (.return_, 1) := by decide +kernel
theorem dX7_addLock_0 : decode cX7_addLock 0 = .ok (.aload_n 0, 1) := by decide +kernel
theorem dX7_addLock_1 : decode cX7_addLock 1 = .ok (.getfield 41, 3) := by decide +kernel
theorem dX7_addLock_4 : decode cX7_addLock 4 = .ok (.ifCond .lt 15, 3) := by decide +kernel
theorem dX7_addLock_7 : decode cX7_addLock 7 = .ok (.aload_n 0, 1) := by decide +kernel
theorem dX7_addLock_8 : decode cX7_addLock 8 = .ok (.getfield 41, 3) := by decide +kernel
theorem dX7_addLock_11 : decode cX7_addLock 11 = .ok (.aload_n 0, 1) := by decide +kernel
theorem dX7_addLock_12 : decode cX7_addLock 12 = .ok (.getfield 30, 3) := by decide +kernel
theorem dX7_addLock_15 : decode cX7_addLock 15 = .ok (.arraylength, 1) := by decide +kernel
theorem dX7_addLock_16 : decode cX7_addLock 16 = .ok (.if_icmp .lt 6, 3) := by decide +kernel
theorem dX7_addLock_19 : decode cX7_addLock 19 = .ok (.bipush 6, 2) := by decide +kernel
theorem dX7_addLock_21 : decode cX7_addLock 21 = .ok (.ireturn, 1) := by decide +kernel
theorem dX7_addLock_22 : decode cX7_addLock 22 = .ok (.iconst 0, 1) := by decide +kernel
theorem dX7_addLock_23 : decode cX7_addLock 23 = .ok (.istore_n 2, 1) := by decide +kernel
theorem dX7_addLock_24 : decode cX7_addLock 24 = .ok (.iload_n 2, 1) := by decide +kernel
theorem dX7_addLock_25 : decode cX7_addLock 25 = .ok (.aload_n 0, 1) := by decide +kernel
theorem dX7_addLock_26 : decode cX7_addLock 26 = .ok (.getfield 41, 3) := by decide +kernel
theorem dX7_addLock_29 : decode cX7_addLock 29 = .ok (.if_icmp .ge 52, 3) := by decide +kernel
theorem dX7_addLock_32 : decode cX7_addLock 32 = .ok (.aload_n 0, 1) := by decide +kernel
theorem dX7_addLock_33 : decode cX7_addLock 33 = .ok (.getfield 30, 3) := by decide +kernel
theorem dX7_addLock_36 : decode cX7_addLock 36 = .ok (.iload_n 2, 1) := by decide +kernel
theorem dX7_addLock_37 : decode cX7_addLock 37 = .ok (.aaload, 1) := by decide +kernel
theorem dX7_addLock_38 : decode cX7_addLock 38 = .ok (.astore_n 3, 1) := by decide +kernel
theorem dX7_addLock_39 : decode cX7_addLock 39 = .ok (.aload_n 3, 1) := by decide +kernel
theorem dX7_addLock_40 : decode cX7_addLock 40 = .ok (.ifnull 35, 3) := by decide +kernel
theorem dX7_addLock_43 : decode cX7_addLock 43 = .ok (.aload_n 1, 1) := by decide +kernel
theorem dX7_addLock_44 : decode cX7_addLock 44 = .ok (.ifnull 31, 3) := by decide +kernel
theorem dX7_addLock_47 : decode cX7_addLock 47 = .ok (.aload_n 3, 1) := by decide +kernel
theorem dX7_addLock_48 : decode cX7_addLock 48 = .ok (.invokevirtual 62, 3) := by decide +kernel
theorem dX7_addLock_51 : decode cX7_addLock 51 = .ok (.aload_n 1, 1) := by decide +kernel
theorem dX7_addLock_52 : decode cX7_addLock 52 = .ok (.invokevirtual 62, 3) := by decide +kernel
theorem dX7_addLock_55 : decode cX7_addLock 55 = .ok (.if_icmp .ne 20, 3) := by decide +kernel
theorem dX7_addLock_58 : decode cX7_addLock 58 = .ok (.aload_n 3, 1) := by decide +kernel
theorem dX7_addLock_59 : decode cX7_addLock 59 = .ok (.iconst 0, 1) := by decide +kernel
theorem dX7_addLock_60 : decode cX7_addLock 60 = .ok (.aload_n 1, 1) := by decide +kernel
theorem dX7_addLock_61 : decode cX7_addLock 61 = .ok (.iconst 0, 1) := by decide +kernel
theorem dX7_addLock_62 : decode cX7_addLock 62 = .ok (.aload_n 3, 1) := by decide +kernel
theorem dX7_addLock_63 : decode cX7_addLock 63 = .ok (.invokevirtual 62, 3) := by decide +kernel
theorem dX7_addLock_66 : decode cX7_addLock 66 = .ok (.invokevirtual 66, 3) := by decide +kernel
theorem dX7_addLock_69 : decode cX7_addLock 69 = .ok (.ifCond .eq 6, 3) := by decide +kernel
theorem dX7_addLock_72 : decode cX7_addLock 72 = .ok (.bipush 7, 2) := by decide +kernel
theorem dX7_addLock_74 : decode cX7_addLock 74 = .ok (.ireturn, 1) := by decide +kernel
theorem dX7_addLock_75 : decode cX7_addLock 75 = .ok (.iinc 2 1, 3) := by decide +kernel
theorem dX7_addLock_78 : decode cX7_addLock 78 = .ok (.goto (-54), 3) := by decide +kernel
theorem dX7_addLock_81 : decode cX7_addLock 81 = .ok (.aload_n 0, 1) := by decide +kernel
theorem dX7_addLock_82 : decode cX7_addLock 82 = .ok (.getfield 30, 3) := by decide +kernel
theorem dX7_addLock_85 : decode cX7_addLock 85 = .ok (.aload_n 0, 1) := by decide +kernel
theorem dX7_addLock_86 : decode cX7_addLock 86 = .ok (.getfield 41, 3) := by decide +kernel
theorem dX7_addLock_89 : decode cX7_addLock 89 = .ok (.aload_n 1, 1) := by decide +kernel
theorem dX7_addLock_90 : decode cX7_addLock 90 = .ok (.aastore, 1) := by decide +kernel
theorem dX7_addLock_91 : decode cX7_addLock 91 = .ok (.aload_n 0, 1) := by decide +kernel
theorem dX7_addLock_92 : decode cX7_addLock 92 = .ok (.dup, 1) := by decide +kernel
theorem dX7_addLock_93 : decode cX7_addLock 93 = .ok (.getfield 41, 3) := by decide +kernel
theorem dX7_addLock_96 : decode cX7_addLock 96 = .ok (.iconst 1, 1) := by decide +kernel
theorem dX7_addLock_97 : decode cX7_addLock 97 = .ok (.iadd, 1) := by decide +kernel
theorem dX7_addLock_98 : decode cX7_addLock 98 = .ok (.putfield 41, 3) := by decide +kernel
theorem dX7_addLock_101 : decode cX7_addLock 101 = .ok (.iconst 0, 1) := by decide +kernel
theorem dX7_addLock_102 : decode cX7_addLock 102 = .ok (.ireturn, 1) := by decide +kernel
theorem dX7_addPair_0 : decode cX7_addPair 0 = .ok (.aload_n 0, 1) := by decide +kernel
theorem dX7_addPair_1 : decode cX7_addPair 1 = .ok (.new 51, 3) := by decide +kernel
theorem dX7_addPair_4 : decode cX7_addPair 4 = .ok (.dup, 1) := by decide +kernel
theorem dX7_addPair_5 : decode cX7_addPair 5 = .ok (.aload_n 1, 1) := by decide +kernel
theorem dX7_addPair_6 : decode cX7_addPair 6 = .ok (.aload_n 2, 1) := by decide +kernel
theorem dX7_addPair_7 : decode cX7_addPair 7 = .ok (.aload_n 0, 1) := by decide +kernel
theorem dX7_addPair_8 : decode cX7_addPair 8 = .ok (.getfield 44, 3) := by decide +kernel
theorem dX7_addPair_11 : decode cX7_addPair 11 = .ok (.invokespecial 53, 3) := by decide +kernel
theorem dX7_addPair_14 : decode cX7_addPair 14 = .ok (.putfield 44, 3) := by decide +kernel
theorem dX7_addPair_17 : decode cX7_addPair 17 = .ok (.aload_n 0, 1) := by decide +kernel
theorem dX7_addPair_18 : decode cX7_addPair 18 = .ok (.aload_n 0, 1) := by decide +kernel
theorem dX7_addPair_19 : decode cX7_addPair 19 = .ok (.getfield 48, 3) := by decide +kernel
theorem dX7_addPair_22 : decode cX7_addPair 22 = .ok (.iconst 1, 1) := by decide +kernel
theorem dX7_addPair_23 : decode cX7_addPair 23 = .ok (.iadd, 1) := by decide +kernel
theorem dX7_addPair_24 : decode cX7_addPair 24 = .ok (.bipush 12, 2) := by decide +kernel
theorem dX7_addPair_26 : decode cX7_addPair 26 = .ok (.invokestatic 56, 3) := by decide +kernel
theorem dX7_addPair_29 : decode cX7_addPair 29 = .ok (.putfield 48, 3) := by decide +kernel
theorem dX7_addPair_32 : decode cX7_addPair 32 = .ok (.return_, 1) := by decide +kernel
theorem dX7_copyFrom_0 : decode cX7_copyFrom 0 = .ok (.aload_n 0, 1) := by decide +kernel
theorem dX7_copyFrom_1 : decode cX7_copyFrom 1 = .ok (.aload_n 1, 1) := by decide +kernel
theorem dX7_copyFrom_2 : decode cX7_copyFrom 2 = .ok (.getfield 14, 3) := by decide +kernel
theorem dX7_copyFrom_5 : decode cX7_copyFrom 5 = .ok (.putfield 14, 3) := by decide +kernel
theorem dX7_copyFrom_8 : decode cX7_copyFrom 8 = .ok (.aload_n 0, 1) := by decide +kernel
theorem dX7_copyFrom_9 : decode cX7_copyFrom 9 = .ok (.aload_n 1, 1) := by decide +kernel
theorem dX7_copyFrom_10 : decode cX7_copyFrom 10 = .ok (.getfield 20, 3) := by decide +kernel
theorem dX7_copyFrom_13 : decode cX7_copyFrom 13 = .ok (.putfield 20, 3) := by decide +kernel
theorem dX7_copyFrom_16 : decode cX7_copyFrom 16 = .ok (.aload_n 0, 1) := by decide +kernel
theorem dX7_copyFrom_17 : decode cX7_copyFrom 17 = .ok (.aload_n 1, 1) := by decide +kernel
theorem dX7_copyFrom_18 : decode cX7_copyFrom 18 = .ok (.getfield 24, 3) := by decide +kernel
theorem dX7_copyFrom_21 : decode cX7_copyFrom 21 = .ok (.putfield 24, 3) := by decide +kernel
theorem dX7_copyFrom_24 : decode cX7_copyFrom 24 = .ok (.aload_n 0, 1) := by decide +kernel
theorem dX7_copyFrom_25 : decode cX7_copyFrom 25 = .ok (.aload_n 1, 1) := by decide +kernel
theorem dX7_copyFrom_26 : decode cX7_copyFrom 26 = .ok (.getfield 37, 3) := by decide +kernel
theorem dX7_copyFrom_29 : decode cX7_copyFrom 29 = .ok (.putfield 37, 3) := by decide +kernel
theorem dX7_copyFrom_32 : decode cX7_copyFrom 32 = .ok (.aload_n 0, 1) := by decide +kernel
theorem dX7_copyFrom_33 : decode cX7_copyFrom 33 = .ok (.aload_n 1, 1) := by decide +kernel
theorem dX7_copyFrom_34 : decode cX7_copyFrom 34 = .ok (.getfield 27, 3) := by decide +kernel
theorem dX7_copyFrom_37 : decode cX7_copyFrom 37 = .ok (.putfield 27, 3) := by decide +kernel
theorem dX7_copyFrom_40 : decode cX7_copyFrom 40 = .ok (.aload_n 0, 1) := by decide +kernel
theorem dX7_copyFrom_41 : decode cX7_copyFrom 41 = .ok (.aload_n 1, 1) := by decide +kernel
theorem dX7_copyFrom_42 : decode cX7_copyFrom 42 = .ok (.getfield 41, 3) := by decide +kernel
theorem dX7_copyFrom_45 : decode cX7_copyFrom 45 = .ok (.putfield 41, 3) := by decide +kernel
theorem dX7_copyFrom_48 : decode cX7_copyFrom 48 = .ok (.aload_n 0, 1) := by decide +kernel
theorem dX7_copyFrom_49 : decode cX7_copyFrom 49 = .ok (.aload_n 1, 1) := by decide +kernel
theorem dX7_copyFrom_50 : decode cX7_copyFrom 50 = .ok (.getfield 44, 3) := by decide +kernel
theorem dX7_copyFrom_53 : decode cX7_copyFrom 53 = .ok (.putfield 44, 3) := by decide +kernel
theorem dX7_copyFrom_56 : decode cX7_copyFrom 56 = .ok (.aload_n 0, 1) := by decide +kernel
theorem dX7_copyFrom_57 : decode cX7_copyFrom 57 = .ok (.aload_n 1, 1) := by decide +kernel
theorem dX7_copyFrom_58 : decode cX7_copyFrom 58 = .ok (.getfield 48, 3) := by decide +kernel
theorem dX7_copyFrom_61 : decode cX7_copyFrom 61 = .ok (.putfield 48, 3) := by decide +kernel
theorem dX7_copyFrom_64 : decode cX7_copyFrom 64 = .ok (.iconst 0, 1) := by decide +kernel
