/-! part 30d.dec -/
section
theorem dX6_next_17 : decode cX6_next 17 = .ok (.invokevirtual 37, 3) := by decide +kernel
theorem dX6_next_20 : decode cX6_next 20 = .ok (.if_icmp .ge 76, 3) := by decide +kernel
theorem dX6_next_23 : decode cX6_next 23 = .ok (.aload_n 0, 1) := by decide +kernel
theorem dX6_next_24 : decode cX6_next 24 = .ok (.getfield 20, 3) := by decide +kernel
theorem dX6_next_27 : decode cX6_next 27 = .ok (.tableswitch 46 0 2 #[25, 32, 39], 25) := by decide +kernel
theorem dX6_next_52 : decode cX6_next 52 = .ok (.aload_n 0, 1) := by decide +kernel
theorem dX6_next_53 : decode cX6_next 53 = .ok (.invokevirtual 41, 3) := by decide +kernel
theorem dX6_next_56 : decode cX6_next 56 = .ok (.goto 21, 3) := by decide +kernel
theorem dX6_next_59 : decode cX6_next 59 = .ok (.aload_n 0, 1) := by decide +kernel
theorem dX6_next_60 : decode cX6_next 60 = .ok (.invokevirtual 44, 3) := by decide +kernel
theorem dX6_next_63 : decode cX6_next 63 = .ok (.goto 14, 3) := by decide +kernel
theorem dX6_next_66 : decode cX6_next 66 = .ok (.aload_n 0, 1) := by decide +kernel
theorem dX6_next_67 : decode cX6_next 67 = .ok (.invokevirtual 47, 3) := by decide +kernel
theorem dX6_next_70 : decode cX6_next 70 = .ok (.goto 7, 3) := by decide +kernel
theorem dX6_next_73 : decode cX6_next 73 = .ok (.aload_n 0, 1) := by decide +kernel
theorem dX6_next_74 : decode cX6_next 74 = .ok (.invokevirtual 50, 3) := by decide +kernel
theorem dX6_next_77 : decode cX6_next 77 = .ok (.aload_n 0, 1) := by decide +kernel
theorem dX6_next_78 : decode cX6_next 78 = .ok (.getfield 53, 3) := by decide +kernel
theorem dX6_next_81 : decode cX6_next 81 = .ok (.aload_n 0, 1) := by decide +kernel
theorem dX6_next_82 : decode cX6_next 82 = .ok (.getfield 56, 3) := by decide +kernel
theorem dX6_next_85 : decode cX6_next 85 = .ok (.if_icmp .ge 5, 3) := by decide +kernel
theorem dX6_next_88 : decode cX6_next 88 = .ok (.iconst 1, 1) := by decide +kernel
theorem dX6_next_89 : decode cX6_next 89 = .ok (.ireturn, 1) := by decide +kernel
theorem dX6_next_90 : decode cX6_next 90 = .ok (.iinc 1 1, 3) := by decide +kernel
theorem dX6_next_93 : decode cX6_next 93 = .ok (.goto (-91), 3) := by decide +kernel
theorem dX6_next_96 : decode cX6_next 96 = .ok (.iconst 0, 1) := by decide +kernel
theorem dX6_next_97 : decode cX6_next 97 = .ok (.ireturn, 1) := by decide +kernel
theorem dX6_read_0 : decode cX6_read 0 = .ok (.aload_n 0, 1) := by decide +kernel
theorem dX6_read_1 : decode cX6_read 1 = .ok (.aload_n 0, 1) := by decide +kernel
theorem dX6_read_2 : decode cX6_read 2 = .ok (.getfield 14, 3) := by decide +kernel
theorem dX6_read_5 : decode cX6_read 5 = .ok (.iload_n 1, 1) := by decide +kernel
theorem dX6_read_6 : decode cX6_read 6 = .ok (.invokevirtual 67, 3) := by decide +kernel
theorem dX6_read_9 : decode cX6_read 9 = .ok (.putfield 83, 3) := by decide +kernel
theorem dX6_read_12 : decode cX6_read 12 = .ok (.aload_n 0, 1) := by decide +kernel
theorem dX6_read_13 : decode cX6_read 13 = .ok (.iconst 1, 1) := by decide +kernel
theorem dX6_read_14 : decode cX6_read 14 = .ok (.putfield 86, 3) := by decide +kernel
theorem dX6_read_17 : decode cX6_read 17 = .ok (.aload_n 0, 1) := by decide +kernel
theorem dX6_read_18 : decode cX6_read 18 = .ok (.getfield 20, 3) := by decide +kernel
theorem dX6_read_21 : decode cX6_read 21 = .ok (.iconst 2, 1) := by decide +kernel
theorem dX6_read_22 : decode cX6_read 22 = .ok (.if_icmp .ne 20, 3) := by decide +kernel
theorem dX6_read_25 : decode cX6_read 25 = .ok (.aload_n 0, 1) := by decide +kernel
theorem dX6_read_26 : decode cX6_read 26 = .ok (.getfield 83, 3) := by decide +kernel
theorem dX6_read_29 : decode cX6_read 29 = .ok (.bipush 38, 2) := by decide +kernel
theorem dX6_read_31 : decode cX6_read 31 = .ok (.if_icmp .ne 80, 3) := by decide +kernel
theorem dX6_read_34 : decode cX6_read 34 = .ok (.aload_n 0, 1) := by decide +kernel
theorem dX6_read_35 : decode cX6_read 35 = .ok (.iload_n 1, 1) := by decide +kernel
theorem dX6_read_36 : decode cX6_read 36 = .ok (.invokevirtual 89, 3) := by decide +kernel
theorem dX6_read_39 : decode cX6_read 39 = .ok (.goto 72, 3) := by decide +kernel
theorem dX6_read_42 : decode cX6_read 42 = .ok (.aload_n 0, 1) := by decide +kernel
theorem dX6_read_43 : decode cX6_read 43 = .ok (.getfield 20, 3) := by decide +kernel
theorem dX6_read_46 : decode cX6_read 46 = .ok (.iconst 1, 1) := by decide +kernel
theorem dX6_read_47 : decode cX6_read 47 = .ok (.if_icmp .ne 31, 3) := by decide +kernel
theorem dX6_read_50 : decode cX6_read 50 = .ok (.aload_n 0, 1) := by decide +kernel
theorem dX6_read_51 : decode cX6_read 51 = .ok (.aload_n 0, 1) := by decide +kernel
theorem dX6_read_52 : decode cX6_read 52 = .ok (.getfield 27, 3) := by decide +kernel
theorem dX6_read_55 : decode cX6_read 55 = .ok (.ifCond .eq 16, 3) := by decide +kernel
theorem dX6_read_58 : decode cX6_read 58 = .ok (.aload_n 0, 1) := by decide +kernel
theorem dX6_read_59 : decode cX6_read 59 = .ok (.getfield 83, 3) := by decide +kernel
theorem dX6_read_62 : decode cX6_read 62 = .ok (.bipush 34, 2) := by decide +kernel
theorem dX6_read_64 : decode cX6_read 64 = .ok (.if_icmp .ne 7, 3) := by decide +kernel
theorem dX6_read_67 : decode cX6_read 67 = .ok (.iconst 2, 1) := by decide +kernel
theorem dX6_read_68 : decode cX6_read 68 = .ok (.goto 4, 3) := by decide +kernel
theorem dX6_read_71 : decode cX6_read 71 = .ok (.iconst 1, 1) := by decide +kernel
theorem dX6_read_72 : decode cX6_read 72 = .ok (.putfield 86, 3) := by decide +kernel
theorem dX6_read_75 : decode cX6_read 75 = .ok (.goto 36, 3) := by decide +kernel
theorem dX6_read_78 : decode cX6_read 78 = .ok (.aload_n 0, 1) := by decide +kernel
theorem dX6_read_79 : decode cX6_read 79 = .ok (.getfield 83, 3) := by decide +kernel
theorem dX6_read_82 : decode cX6_read 82 = .ok (.bipush 92, 2) := by decide +kernel
theorem dX6_read_84 : decode cX6_read 84 = .ok (.if_icmp .ne 27, 3) := by decide +kernel
theorem dX6_read_87 : decode cX6_read 87 = .ok (.iload_n 1, 1) := by decide +kernel
theorem dX6_read_88 : decode cX6_read 88 = .ok (.iconst 1, 1) := by decide +kernel
theorem dX6_read_89 : decode cX6_read 89 = .ok (.iadd, 1) := by decide +kernel
theorem dX6_read_90 : decode cX6_read 90 = .ok (.aload_n 0, 1) := by decide +kernel
theorem dX6_read_91 : decode cX6_read 91 = .ok (.getfield 56, 3) := by decide +kernel
theorem dX6_read_94 : decode cX6_read 94 = .ok (.if_icmp .ge 17, 3) := by decide +kernel
theorem dX6_read_97 : decode cX6_read 97 = .ok (.aload_n 0, 1) := by decide +kernel
theorem dX6_read_98 : decode cX6_read 98 = .ok (.aload_n 0, 1) := by decide +kernel
theorem dX6_read_99 : decode cX6_read 99 = .ok (.getfield 14, 3) := by decide +kernel
theorem dX6_read_102 : decode cX6_read 102 = .ok (.iload_n 1, 1) := by decide +kernel
theorem dX6_read_103 : decode cX6_read 103 = .ok (.iconst 1, 1) := by decide +kernel
theorem dX6_read_104 : decode cX6_read 104 = .ok (.iadd, 1) := by decide +kernel
theorem dX6_read_105 : decode cX6_read 105 = .ok (.invokevirtual 67, 3) := by decide +kernel
theorem dX6_read_108 : decode cX6_read 108 = .ok (.invokevirtual 92, 3) := by decide +kernel
theorem dX6_read_111 : decode cX6_read 111 = .ok (.return_, 1) := by decide +kernel
theorem dX6_readBack_0 : decode cX6_readBack 0 = .ok (.aload_n 0, 1) := by decide +kernel
theorem dX6_readBack_1 : decode cX6_readBack 1 = .ok (.getfield 20, 3) := by decide +kernel
theorem dX6_readBack_4 : decode cX6_readBack 4 = .ok (.ifCond .ne 8, 3) := by decide +kernel
theorem dX6_readBack_7 : decode cX6_readBack 7 = .ok (.bipush 32, 2) := by decide +kernel
theorem dX6_readBack_9 : decode cX6_readBack 9 = .ok (.goto 5, 3) := by decide +kernel
theorem dX6_readBack_12 : decode cX6_readBack 12 = .ok (.bipush 34, 2) := by decide +kernel
theorem dX6_readBack_14 : decode cX6_readBack 14 = .ok (.istore_n 2, 1) := by decide +kernel
theorem dX6_readBack_15 : decode cX6_readBack 15 = .ok (.iload_n 1, 1) := by decide +kernel
theorem dX6_readBack_16 : decode cX6_readBack 16 = .ok (.bipush 110, 2) := by decide +kernel
theorem dX6_readBack_18 : decode cX6_readBack 18 = .ok (.if_icmp .eq 20, 3) := by decide +kernel
theorem dX6_readBack_21 : decode cX6_readBack 21 = .ok (.iload_n 1, 1) := by decide +kernel
theorem dX6_readBack_22 : decode cX6_readBack 22 = .ok (.bipush 116, 2) := by decide +kernel
theorem dX6_readBack_24 : decode cX6_readBack 24 = .ok (.if_icmp .eq 14, 3) := by decide +kernel
theorem dX6_readBack_27 : decode cX6_readBack 27 = .ok (.iload_n 1, 1) := by decide +kernel
theorem dX6_readBack_28 : decode cX6_readBack 28 = .ok (.bipush 92, 2) := by decide +kernel
theorem dX6_readBack_30 : decode cX6_readBack 30 = .ok (.if_icmp .eq 8, 3) := by decide +kernel
theorem dX6_readBack_33 : decode cX6_readBack 33 = .ok (.iload_n 1, 1) := by decide +kernel
theorem dX6_readBack_34 : decode cX6_readBack 34 = .ok (.iload_n 2, 1) := by decide +kernel
theorem dX6_readBack_35 : decode cX6_readBack 35 = .ok (.if_icmp .ne 35, 3) := by decide +kernel
theorem dX6_readBack_38 : decode cX6_readBack 38 = .ok (.aload_n 0, 1) := by decide +kernel
theorem dX6_readBack_39 : decode cX6_readBack 39 = .ok (.iload_n 1, 1) := by decide +kernel
theorem dX6_readBack_40 : decode cX6_readBack 40 = .ok (.bipush 110, 2) := by decide +kernel
theorem dX6_readBack_42 : decode cX6_readBack 42 = .ok (.if_icmp .ne 8, 3) := by decide +kernel
theorem dX6_readBack_45 : decode cX6_readBack 45 = .ok (.bipush 10, 2) := by decide +kernel
theorem dX6_readBack_47 : decode cX6_readBack 47 = .ok (.goto 15, 3) := by decide +kernel
theorem dX6_readBack_50 : decode cX6_readBack 50 = .ok (.iload_n 1, 1) := by decide +kernel
theorem dX6_readBack_51 : decode cX6_readBack 51 = .ok (.bipush 116, 2) := by decide +kernel
theorem dX6_readBack_53 : decode cX6_readBack 53 = .ok (.if_icmp .ne 8, 3) := by decide +kernel
theorem dX6_readBack_56 : decode cX6_readBack 56 = .ok (.bipush 9, 2) := by decide +kernel
theorem dX6_readBack_58 : decode cX6_readBack 58 = .ok (.goto 4, 3) := by decide +kernel
theorem dX6_readBack_61 : decode cX6_readBack 61 = .ok (.iload_n 1, 1) := by decide +kernel
theorem dX6_readBack_62 : decode cX6_readBack 62 = .ok (.putfield 83, 3) := by decide +kernel
theorem dX6_readBack_65 : decode cX6_readBack 65 = .ok (.aload_n 0, 1) := by decide +kernel
theorem dX6_readBack_66 : decode cX6_readBack 66 = .ok (.iconst 2, 1) := by decide +kernel
theorem dX6_readBack_67 : decode cX6_readBack 67 = .ok (.putfield 86, 3) := by decide +kernel
theorem dX6_readBack_70 : decode cX6_readBack 70 = .ok (.return_, 1) := by decide +kernel
theorem dX6_readMarkup_0 : decode cX6_readMarkup 0 = .ok (.aload_n 0, 1) := by decide +kernel
theorem dX6_readMarkup_1 : decode cX6_readMarkup 1 = .ok (.getfield 14, 3) := by decide +kernel
theorem dX6_readMarkup_4 : decode cX6_readMarkup 4 = .ok (.iload_n 1, 1) := by decide +kernel
theorem dX6_readMarkup_5 : decode cX6_readMarkup 5 = .ok (.iconst 1, 1) := by decide +kernel
theorem dX6_readMarkup_6 : decode cX6_readMarkup 6 = .ok (.iadd, 1) := by decide +kernel
theorem dX6_readMarkup_7 : decode cX6_readMarkup 7 = .ok (.invokevirtual 67, 3) := by decide +kernel
theorem dX6_readMarkup_10 : decode cX6_readMarkup 10 = .ok (.istore_n 2, 1) := by decide +kernel
theorem dX6_readMarkup_11 : decode cX6_readMarkup 11 = .ok (.iload_n 2, 1) := by decide +kernel
theorem dX6_readMarkup_12 : decode cX6_readMarkup 12 = .ok (.bipush 97, 2) := by decide +kernel
theorem dX6_readMarkup_14 : decode cX6_readMarkup 14 = .ok (.if_icmp .ne 66, 3) := by decide +kernel
theorem dX6_readMarkup_17 : decode cX6_readMarkup 17 = .ok (.iload_n 1, 1) := by decide +kernel
theorem dX6_readMarkup_18 : decode cX6_readMarkup 18 = .ok (.iconst 4, 1) := by decide +kernel
theorem dX6_readMarkup_19 : decode cX6_readMarkup 19 = .ok (.iadd, 1) := by decide +kernel
theorem dX6_readMarkup_20 : decode cX6_readMarkup 20 = .ok (.aload_n 0, 1) := by decide +kernel
theorem dX6_readMarkup_21 : decode cX6_readMarkup 21 = .ok (.getfield 56, 3) := by decide +kernel
theorem dX6_readMarkup_24 : decode cX6_readMarkup 24 = .ok (.if_icmp .ge 130, 3) := by decide +kernel
theorem dX6_readMarkup_27 : decode cX6_readMarkup 27 = .ok (.aload_n 0, 1) := by decide +kernel
theorem dX6_readMarkup_28 : decode cX6_readMarkup 28 = .ok (.getfield 14, 3) := by decide +kernel
theorem dX6_readMarkup_31 : decode cX6_readMarkup 31 = .ok (.iload_n 1, 1) := by decide +kernel
theorem dX6_readMarkup_32 : decode cX6_readMarkup 32 = .ok (.iconst 2, 1) := by decide +kernel
theorem dX6_readMarkup_33 : decode cX6_readMarkup 33 = .ok (.iadd, 1) := by decide +kernel
theorem dX6_readMarkup_34 : decode cX6_readMarkup 34 = .ok (.invokevirtual 67, 3) := by decide +kernel
theorem dX6_readMarkup_37 : decode cX6_readMarkup 37 = .ok (.bipush 109, 2) := by decide +kernel
theorem dX6_readMarkup_39 : decode cX6_readMarkup 39 = .ok (.if_icmp .ne 115, 3) := by decide +kernel
theorem dX6_readMarkup_42 : decode cX6_readMarkup 42 = .ok (.aload_n 0, 1) := by decide +kernel
theorem dX6_readMarkup_43 : decode cX6_readMarkup 43 = .ok (.getfield 14, 3) := by decide +kernel
theorem dX6_readMarkup_46 : decode cX6_readMarkup 46 = .ok (.iload_n 1, 1) := by decide +kernel
theorem dX6_readMarkup_47 : decode cX6_readMarkup 47 = .ok (.iconst 3, 1) := by decide +kernel
theorem dX6_readMarkup_48 : decode cX6_readMarkup 48 = .ok (.iadd, 1) := by decide +kernel
theorem dX6_readMarkup_49 : decode cX6_readMarkup 49 = .ok (.invokevirtual 67, 3) := by decide +kernel
theorem dX6_readMarkup_52 : decode cX6_readMarkup 52 = .ok (.bipush 112, 2) := by decide +kernel
theorem dX6_readMarkup_54 : decode cX6_readMarkup 54 = .ok (.if_icmp .ne 100, 3) := by decide +kernel
theorem dX6_readMarkup_57 : decode cX6_readMarkup 57 = .ok (.aload_n 0, 1) := by decide +kernel
theorem dX6_readMarkup_58 : decode cX6_readMarkup 58 = .ok (.getfield 14, 3) := by decide +kernel
theorem dX6_readMarkup_61 : decode cX6_readMarkup 61 = .ok (.iload_n 1, 1) := by decide +kernel
theorem dX6_readMarkup_62 : decode cX6_readMarkup 62 = .ok (.iconst 4, 1) := by decide +kernel
theorem dX6_readMarkup_63 : decode cX6_readMarkup 63 = .ok (.iadd, 1) := by decide +kernel
theorem dX6_readMarkup_64 : decode cX6_readMarkup 64 = .ok (.invokevirtual 67, 3) := by decide +kernel
theorem dX6_readMarkup_67 : decode cX6_readMarkup 67 = .ok (.bipush 59, 2) := by decide +kernel
theorem dX6_readMarkup_69 : decode cX6_readMarkup 69 = .ok (.if_icmp .ne 85, 3) := by decide +kernel
theorem dX6_readMarkup_72 : decode cX6_readMarkup 72 = .ok (.aload_n 0, 1) := by decide +kernel
theorem dX6_readMarkup_73 : decode cX6_readMarkup 73 = .ok (.iconst 5, 1) := by decide +kernel
theorem dX6_readMarkup_74 : decode cX6_readMarkup 74 = .ok (.putfield 86, 3) := by decide +kernel
theorem dX6_readMarkup_77 : decode cX6_readMarkup 77 = .ok (.goto 77, 3) := by decide +kernel
theorem dX6_readMarkup_80 : decode cX6_readMarkup 80 = .ok (.iload_n 2, 1) := by decide +kernel
theorem dX6_readMarkup_81 : decode cX6_readMarkup 81 = .ok (.bipush 108, 2) := by decide +kernel
theorem dX6_readMarkup_83 : decode cX6_readMarkup 83 = .ok (.if_icmp .eq 9, 3) := by decide +kernel
theorem dX6_readMarkup_86 : decode cX6_readMarkup 86 = .ok (.iload_n 2, 1) := by decide +kernel
theorem dX6_readMarkup_87 : decode cX6_readMarkup 87 = .ok (.bipush 103, 2) := by decide +kernel
theorem dX6_readMarkup_89 : decode cX6_readMarkup 89 = .ok (.if_icmp .ne 65, 3) := by decide +kernel
theorem dX6_readMarkup_92 : decode cX6_readMarkup 92 = .ok (.iload_n 1, 1) := by decide +kernel
theorem dX6_readMarkup_93 : decode cX6_readMarkup 93 = .ok (.iconst 3, 1) := by decide +kernel
theorem dX6_readMarkup_94 : decode cX6_readMarkup 94 = .ok (.iadd, 1) := by decide +kernel
theorem dX6_readMarkup_95 : decode cX6_readMarkup 95 = .ok (.aload_n 0, 1) := by decide +kernel
theorem dX6_readMarkup_96 : decode cX6_readMarkup 96 = .ok (.getfield 56, 3) := by decide +kernel
theorem dX6_readMarkup_99 : decode cX6_readMarkup 99 = .ok (.if_icmp .ge 55, 3) := by decide +kernel
theorem dX6_readMarkup_102 : decode cX6_readMarkup 102 = .ok (.aload_n 0, 1) := by decide +kernel
theorem dX6_readMarkup_103 : decode cX6_readMarkup 103 = .ok (.getfield 14, 3) := by decide +kernel
theorem dX6_readMarkup_106 : decode cX6_readMarkup 106 = .ok (.iload_n 1, 1) := by decide +kernel
theorem dX6_readMarkup_107 : decode cX6_readMarkup 107 = .ok (.iconst 2, 1) := by decide +kernel
theorem dX6_readMarkup_108 : decode cX6_readMarkup 108 = .ok (.iadd, 1) := by decide +kernel
theorem dX6_readMarkup_109 : decode cX6_readMarkup 109 = .ok (.invokevirtual 67, 3) := by decide +kernel
theorem dX6_readMarkup_112 : decode cX6_readMarkup 112 = .ok (.bipush 116, 2) := by decide +kernel
theorem dX6_readMarkup_114 : decode cX6_readMarkup 114 = .ok (.if_icmp .ne 40, 3) := by decide +kernel
theorem dX6_readMarkup_117 : decode cX6_readMarkup 117 = .ok (.aload_n 0, 1) := by decide +kernel
theorem dX6_readMarkup_118 : decode cX6_readMarkup 118 = .ok (.getfield 14, 3) := by decide +kernel
theorem dX6_readMarkup_121 : decode cX6_readMarkup 121 = .ok (.iload_n 1, 1) := by decide +kernel
theorem dX6_readMarkup_122 : decode cX6_readMarkup 122 = .ok (.iconst 3, 1) := by decide +kernel
theorem dX6_readMarkup_123 : decode cX6_readMarkup 123 = .ok (.iadd, 1) := by decide +kernel
theorem dX6_readMarkup_124 : decode cX6_readMarkup 124 = .ok (.invokevirtual 67, 3) := by decide +kernel
theorem dX6_readMarkup_127 : decode cX6_readMarkup 127 = .ok (.bipush 59, 2) := by decide +kernel
theorem dX6_readMarkup_129 : decode cX6_readMarkup 129 = .ok (.if_icmp .ne 25, 3) := by decide +kernel
theorem dX6_readMarkup_132 : decode cX6_readMarkup 132 = .ok (.aload_n 0, 1) := by decide +kernel
theorem dX6_readMarkup_133 : decode cX6_readMarkup 133 = .ok (.iload_n 2, 1) := by decide +kernel
theorem dX6_readMarkup_134 : decode cX6_readMarkup 134 = .ok (.bipush 108, 2) := by decide +kernel
theorem dX6_readMarkup_136 : decode cX6_readMarkup 136 = .ok (.if_icmp .ne 8, 3) := by decide +kernel
theorem dX6_readMarkup_139 : decode cX6_readMarkup 139 = .ok (.bipush 60, 2) := by decide +kernel
theorem dX6_readMarkup_141 : decode cX6_readMarkup 141 = .ok (.goto 5, 3) := by decide +kernel
theorem dX6_readMarkup_144 : decode cX6_readMarkup 144 = .ok (.bipush 62, 2) := by decide +kernel
theorem dX6_readMarkup_146 : decode cX6_readMarkup 146 = .ok (.putfield 83, 3) := by decide +kernel
theorem dX6_readMarkup_149 : decode cX6_readMarkup 149 = .ok (.aload_n 0, 1) := by decide +kernel
theorem dX6_readMarkup_150 : decode cX6_readMarkup 150 = .ok (.iconst 4, 1) := by decide +kernel
theorem dX6_readMarkup_151 : decode cX6_readMarkup 151 = .ok (.putfield 86, 3) := by decide +kernel
theorem dX6_readMarkup_154 : decode cX6_readMarkup 154 = .ok (.return_, 1) := by decide +kernel
theorem dX6_start_0 : decode cX6_start 0 = .ok (.aload_n 0, 1) := by decide +kernel
theorem dX6_start_1 : decode cX6_start 1 = .ok (.aload_n 1, 1) := by decide +kernel
theorem dX6_start_2 : decode cX6_start 2 = .ok (.putfield 14, 3) := by decide +kernel
theorem dX6_start_5 : decode cX6_start 5 = .ok (.aload_n 0, 1) := by decide +kernel
theorem dX6_start_6 : decode cX6_start 6 = .ok (.iload_n 2, 1) := by decide +kernel
theorem dX6_start_7 : decode cX6_start 7 = .ok (.putfield 20, 3) := by decide +kernel
theorem dX6_start_10 : decode cX6_start 10 = .ok (.aload_n 0, 1) := by decide +kernel
theorem dX6_start_11 : decode cX6_start 11 = .ok (.iconst 0, 1) := by decide +kernel
theorem dX6_start_12 : decode cX6_start 12 = .ok (.putfield 24, 3) := by decide +kernel
theorem dX6_start_15 : decode cX6_start 15 = .ok (.aload_n 0, 1) := by decide +kernel
theorem dX6_start_16 : decode cX6_start 16 = .ok (.iconst 0, 1) := by decide +kernel
theorem dX6_start_17 : decode cX6_start 17 = .ok (.putfield 27, 3) := by decide +kernel
theorem dX6_start_20 : decode cX6_start 20 = .ok (.aload_n 0, 1) := by decide +kernel
theorem dX6_start_21 : decode cX6_start 21 = .ok (.iconst 0, 1) := by decide +kernel
theorem dX6_start_22 : decode cX6_start 22 = .ok (.putfield 31, 3) := by decide +kernel
theorem dX6_start_25 : decode cX6_start 25 = .ok (.aload_n 0, 1) := by decide +kernel
theorem dX6_start_26 : decode cX6_start 26 = .ok (.iconst 0, 1) := by decide +kernel
theorem dX6_start_27 : decode cX6_start 27 = .ok (.putfield 34, 3) := by decide +kernel
theorem dX6_start_30 : decode cX6_start 30 = .ok (.return_, 1) := by decide +kernel
theorem dX6_tryCell_0 : decode cX6_tryCell 0 = .ok (.aload_n 0, 1) := by decide +kernel
theorem dX6_tryCell_1 : decode cX6_tryCell 1 = .ok (.aload_n 0, 1) := by decide +kernel
theorem dX6_tryCell_2 : decode cX6_tryCell 2 = .ok (.getfield 14, 3) := by decide +kernel
theorem dX6_tryCell_5 : decode cX6_tryCell 5 = .ok (.aload_n 0, 1) := by decide +kernel
theorem dX6_tryCell_6 : decode cX6_tryCell 6 = .ok (.getfield 24, 3) := by decide +kernel
theorem dX6_tryCell_9 : decode cX6_tryCell 9 = .ok (.invokevirtual 67, 3) := by decide +kernel
theorem dX6_tryCell_12 : decode cX6_tryCell 12 = .ok (.bipush 34, 2) := by decide +kernel
theorem dX6_tryCell_14 : decode cX6_tryCell 14 = .ok (.if_icmp .ne 7, 3) := by decide +kernel
theorem dX6_tryCell_17 : decode cX6_tryCell 17 = .ok (.iconst 1, 1) := by decide +kernel
theorem dX6_tryCell_18 : decode cX6_tryCell 18 = .ok (.goto 4, 3) := by decide +kernel
theorem dX6_tryCell_21 : decode cX6_tryCell 21 = .ok (.iconst 0, 1) := by decide +kernel
theorem dX6_tryCell_22 : decode cX6_tryCell 22 = .ok (.putfield 27, 3) := by decide +kernel
theorem dX6_tryCell_25 : decode cX6_tryCell 25 = .ok (.aload_n 0, 1) := by decide +kernel
theorem dX6_tryCell_26 : decode cX6_tryCell 26 = .ok (.aload_n 0, 1) := by decide +kernel
theorem dX6_tryCell_27 : decode cX6_tryCell 27 = .ok (.getfield 27, 3) := by decide +kernel
theorem dX6_tryCell_30 : decode cX6_tryCell 30 = .ok (.ifCond .eq 12, 3) := by decide +kernel
theorem dX6_tryCell_33 : decode cX6_tryCell 33 = .ok (.aload_n 0, 1) := by decide +kernel
theorem dX6_tryCell_34 : decode cX6_tryCell 34 = .ok (.getfield 24, 3) := by decide +kernel
theorem dX6_tryCell_37 : decode cX6_tryCell 37 = .ok (.iconst 1, 1) := by decide +kernel
theorem dX6_tryCell_38 : decode cX6_tryCell 38 = .ok (.iadd, 1) := by decide +kernel
theorem dX6_tryCell_39 : decode cX6_tryCell 39 = .ok (.goto 7, 3) := by decide +kernel
theorem dX6_tryCell_42 : decode cX6_tryCell 42 = .ok (.aload_n 0, 1) := by decide +kernel
theorem dX6_tryCell_43 : decode cX6_tryCell 43 = .ok (.getfield 24, 3) := by decide +kernel
theorem dX6_tryCell_46 : decode cX6_tryCell 46 = .ok (.putfield 53, 3) := by decide +kernel
theorem dX6_tryCell_49 : decode cX6_tryCell 49 = .ok (.aload_n 0, 1) := by decide +kernel
theorem dX6_tryCell_50 : decode cX6_tryCell 50 = .ok (.aload_n 0, 1) := by decide +kernel
theorem dX6_tryCell_51 : decode cX6_tryCell 51 = .ok (.getfield 27, 3) := by decide +kernel
theorem dX6_tryCell_54 : decode cX6_tryCell 54 = .ok (.ifCond .eq 17, 3) := by decide +kernel
theorem dX6_tryCell_57 : decode cX6_tryCell 57 = .ok (.aload_n 0, 1) := by decide +kernel
theorem dX6_tryCell_58 : decode cX6_tryCell 58 = .ok (.getfield 14, 3) := by decide +kernel
theorem dX6_tryCell_61 : decode cX6_tryCell 61 = .ok (.aload_n 0, 1) := by decide +kernel
theorem dX6_tryCell_62 : decode cX6_tryCell 62 = .ok (.getfield 53, 3) := by decide +kernel
theorem dX6_tryCell_65 : decode cX6_tryCell 65 = .ok (.invokevirtual 71, 3) := by decide +kernel
theorem dX6_tryCell_68 : decode cX6_tryCell 68 = .ok (.goto 14, 3) := by decide +kernel
theorem dX6_tryCell_71 : decode cX6_tryCell 71 = .ok (.aload_n 0, 1) := by decide +kernel
theorem dX6_tryCell_72 : decode cX6_tryCell 72 = .ok (.getfield 14, 3) := by decide +kernel
theorem dX6_tryCell_75 : decode cX6_tryCell 75 = .ok (.aload_n 0, 1) := by decide +kernel
theorem dX6_tryCell_76 : decode cX6_tryCell 76 = .ok (.getfield 53, 3) := by decide +kernel
theorem dX6_tryCell_79 : decode cX6_tryCell 79 = .ok (.invokevirtual 74, 3) := by decide +kernel
theorem dX6_tryCell_82 : decode cX6_tryCell 82 = .ok (.putfield 56, 3) := by decide +kernel
theorem dX6_tryCell_85 : decode cX6_tryCell 85 = .ok (.aload_n 0, 1) := by decide +kernel
theorem dX6_tryCell_86 : decode cX6_tryCell 86 = .ok (.aload_n 0, 1) := by decide +kernel
theorem dX6_tryCell_87 : decode cX6_tryCell 87 = .ok (.getfield 27, 3) := by decide +kernel
theorem dX6_tryCell_90 : decode cX6_tryCell 90 = .ok (.ifCond .eq 21, 3) := by decide +kernel
theorem dX6_tryCell_93 : decode cX6_tryCell 93 = .ok (.aload_n 0, 1) := by decide +kernel
theorem dX6_tryCell_94 : decode cX6_tryCell 94 = .ok (.getfield 14, 3) := by decide +kernel
theorem dX6_tryCell_97 : decode cX6_tryCell 97 = .ok (.aload_n 0, 1) := by decide +kernel
theorem dX6_tryCell_98 : decode cX6_tryCell 98 = .ok (.getfield 56, 3) := by decide +kernel
theorem dX6_tryCell_101 : decode cX6_tryCell 101 = .ok (.iconst 1, 1) := by decide +kernel
theorem dX6_tryCell_102 : decode cX6_tryCell 102 = .ok (.iadd, 1) := by decide +kernel
theorem dX6_tryCell_103 : decode cX6_tryCell 103 = .ok (.invokevirtual 74, 3) := by decide +kernel
theorem dX6_tryCell_106 : decode cX6_tryCell 106 = .ok (.iconst 1, 1) := by decide +kernel
theorem dX6_tryCell_107 : decode cX6_tryCell 107 = .ok (.iadd, 1) := by decide +kernel
theorem dX6_tryCell_108 : decode cX6_tryCell 108 = .ok (.goto 9, 3) := by decide +kernel
theorem dX6_tryCell_111 : decode cX6_tryCell 111 = .ok (.aload_n 0, 1) := by decide +kernel
theorem dX6_tryCell_112 : decode cX6_tryCell 112 = .ok (.getfield 56, 3) := by decide +kernel
theorem dX6_tryCell_115 : decode cX6_tryCell 115 = .ok (.iconst 1, 1) := by decide +kernel
theorem dX6_tryCell_116 : decode cX6_tryCell 116 = .ok (.iadd, 1) := by decide +kernel
theorem dX6_tryCell_117 : decode cX6_tryCell 117 = .ok (.putfield 24, 3) := by decide +kernel
theorem dX6_tryCell_120 : decode cX6_tryCell 120 = .ok (.return_, 1) := by decide +kernel
theorem dX6_tryLine_0 : decode cX6_tryLine 0 = .ok (.aload_n 0, 1) := by decide +kernel
theorem dX6_tryLine_1 : decode cX6_tryLine 1 = .ok (.getfield 24, 3) := by decide +kernel
theorem dX6_tryLine_4 : decode cX6_tryLine 4 = .ok (.istore_n 1, 1) := by decide +kernel
theorem dX6_tryLine_5 : decode cX6_tryLine 5 = .ok (.aload_n 0, 1) := by decide +kernel
theorem dX6_tryLine_6 : decode cX6_tryLine 6 = .ok (.getfield 14, 3) := by decide +kernel
theorem dX6_tryLine_9 : decode cX6_tryLine 9 = .ok (.bipush 10, 2) := by decide +kernel
theorem dX6_tryLine_11 : decode cX6_tryLine 11 = .ok (.iload_n 1, 1) := by decide +kernel
theorem dX6_tryLine_12 : decode cX6_tryLine 12 = .ok (.aload_n 0, 1) := by decide +kernel
theorem dX6_tryLine_13 : decode cX6_tryLine 13 = .ok (.getfield 14, 3) := by decide +kernel
theorem dX6_tryLine_16 : decode cX6_tryLine 16 = .ok (.invokevirtual 37, 3) := by decide +kernel
theorem dX6_tryLine_19 : decode cX6_tryLine 19 = .ok (.invokevirtual 59, 3) := by decide +kernel
theorem dX6_tryLine_22 : decode cX6_tryLine 22 = .ok (.istore_n 2, 1) := by decide +kernel
theorem dX6_tryLine_23 : decode cX6_tryLine 23 = .ok (.aload_n 0, 1) := by decide +kernel
theorem dX6_tryLine_24 : decode cX6_tryLine 24 = .ok (.iload_n 2, 1) := by decide +kernel
theorem dX6_tryLine_25 : decode cX6_tryLine 25 = .ok (.iconst 1, 1) := by decide +kernel
theorem dX6_tryLine_26 : decode cX6_tryLine 26 = .ok (.iadd, 1) := by decide +kernel
theorem dX6_tryLine_27 : decode cX6_tryLine 27 = .ok (.putfield 24, 3) := by decide +kernel
theorem dX6_tryLine_30 : decode cX6_tryLine 30 = .ok (.aload_n 0, 1) := by decide +kernel
theorem dX6_tryLine_31 : decode cX6_tryLine 31 = .ok (.getfield 14, 3) := by decide +kernel
theorem dX6_tryLine_34 : decode cX6_tryLine 34 = .ok (.bipush 61, 2) := by decide +kernel
theorem dX6_tryLine_36 : decode cX6_tryLine 36 = .ok (.iload_n 1, 1) := by decide +kernel
theorem dX6_tryLine_37 : decode cX6_tryLine 37 = .ok (.iload_n 2, 1) := by decide +kernel
theorem dX6_tryLine_38 : decode cX6_tryLine 38 = .ok (.invokevirtual 59, 3) := by decide +kernel
theorem dX6_tryLine_41 : decode cX6_tryLine 41 = .ok (.istore_n 3, 1) := by decide +kernel
theorem dX6_tryLine_42 : decode cX6_tryLine 42 = .ok (.aload_n 0, 1) := by decide +kernel
theorem dX6_tryLine_43 : decode cX6_tryLine 43 = .ok (.aload_n 0, 1) := by decide +kernel
theorem dX6_tryLine_44 : decode cX6_tryLine 44 = .ok (.getfield 14, 3) := by decide +kernel
theorem dX6_tryLine_47 : decode cX6_tryLine 47 = .ok (.iload_n 1, 1) := by decide +kernel
theorem dX6_tryLine_48 : decode cX6_tryLine 48 = .ok (.iload_n 2, 1) := by decide +kernel
theorem dX6_tryLine_49 : decode cX6_tryLine 49 = .ok (.invokevirtual 63, 3) := by decide +kernel
theorem dX6_tryLine_52 : decode cX6_tryLine 52 = .ok (.putfield 31, 3) := by decide +kernel
theorem dX6_tryLine_55 : decode cX6_tryLine 55 = .ok (.aload_n 0, 1) := by decide +kernel
theorem dX6_tryLine_56 : decode cX6_tryLine 56 = .ok (.iload_n 2, 1) := by decide +kernel
theorem dX6_tryLine_57 : decode cX6_tryLine 57 = .ok (.putfield 53, 3) := by decide +kernel
theorem dX6_tryLine_60 : decode cX6_tryLine 60 = .ok (.aload_n 0, 1) := by decide +kernel
theorem dX6_tryLine_61 : decode cX6_tryLine 61 = .ok (.iload_n 2, 1) := by decide +kernel
theorem dX6_tryLine_62 : decode cX6_tryLine 62 = .ok (.putfield 56, 3) := by decide +kernel
theorem dX6_tryLine_65 : decode cX6_tryLine 65 = .ok (.iload_n 3, 1) := by decide +kernel
theorem dX6_tryLine_66 : decode cX6_tryLine 66 = .ok (.iload_n 2, 1) := by decide +kernel
theorem dX6_tryLine_67 : decode cX6_tryLine 67 = .ok (.if_icmp .eq 19, 3) := by decide +kernel
theorem dX6_tryLine_70 : decode cX6_tryLine 70 = .ok (.aload_n 0, 1) := by decide +kernel
theorem dX6_tryLine_71 : decode cX6_tryLine 71 = .ok (.getfield 14, 3) := by decide +kernel
theorem dX6_tryLine_74 : decode cX6_tryLine 74 = .ok (.aload_n 0, 1) := by decide +kernel
theorem dX6_tryLine_75 : decode cX6_tryLine 75 = .ok (.getfield 31, 3) := by decide +kernel
theorem dX6_tryLine_78 : decode cX6_tryLine 78 = .ok (.invokevirtual 67, 3) := by decide +kernel
theorem dX6_tryLine_81 : decode cX6_tryLine 81 = .ok (.bipush 35, 2) := by decide +kernel
theorem dX6_tryLine_83 : decode cX6_tryLine 83 = .ok (.if_icmp .ne 4, 3) := by decide +kernel
theorem dX6_tryLine_86 : decode cX6_tryLine 86 = .ok (.return_, 1) := by decide +kernel
theorem dX6_tryLine_87 : decode cX6_tryLine 87 = .ok (.aload_n 0, 1) := by decide +kernel
theorem dX6_tryLine_88 : decode cX6_tryLine 88 = .ok (.iload_n 3, 1) := by decide +kernel
theorem dX6_tryLine_89 : decode cX6_tryLine 89 = .ok (.aload_n 0, 1) := by decide +kernel
theorem dX6_tryLine_90 : decode cX6_tryLine 90 = .ok (.getfield 31, 3) := by decide +kernel
theorem dX6_tryLine_93 : decode cX6_tryLine 93 = .ok (.isub, 1) := by decide +kernel
theorem dX6_tryLine_94 : decode cX6_tryLine 94 = .ok (.putfield 34, 3) := by decide +kernel
theorem dX6_tryLine_97 : decode cX6_tryLine 97 = .ok (.iload_n 3, 1) := by decide +kernel
theorem dX6_tryLine_98 : decode cX6_tryLine 98 = .ok (.iconst 1, 1) := by decide +kernel
theorem dX6_tryLine_99 : decode cX6_tryLine 99 = .ok (.isub, 1) := by decide +kernel
theorem dX6_tryLine_100 : decode cX6_tryLine 100 = .ok (.istore 4, 2) := by decide +kernel
theorem dX6_tryLine_102 : decode cX6_tryLine 102 = .ok (.iload 4, 2) := by decide +kernel
theorem dX6_tryLine_104 : decode cX6_tryLine 104 = .ok (.aload_n 0, 1) := by decide +kernel
theorem dX6_tryLine_105 : decode cX6_tryLine 105 = .ok (.getfield 31, 3) := by decide +kernel
theorem dX6_tryLine_108 : decode cX6_tryLine 108 = .ok (.if_icmp .lt 33, 3) := by decide +kernel
theorem dX6_tryLine_111 : decode cX6_tryLine 111 = .ok (.aload_n 0, 1) := by decide +kernel
theorem dX6_tryLine_112 : decode cX6_tryLine 112 = .ok (.getfield 14, 3) := by decide +kernel
theorem dX6_tryLine_115 : decode cX6_tryLine 115 = .ok (.iload 4, 2) := by decide +kernel
theorem dX6_tryLine_117 : decode cX6_tryLine 117 = .ok (.invokevirtual 67, 3) := by decide +kernel
theorem dX6_tryLine_120 : decode cX6_tryLine 120 = .ok (.bipush 32, 2) := by decide +kernel
theorem dX6_tryLine_122 : decode cX6_tryLine 122 = .ok (.if_icmp .ne 19, 3) := by decide +kernel
theorem dX6_tryLine_125 : decode cX6_tryLine 125 = .ok (.aload_n 0, 1) := by decide +kernel
theorem dX6_tryLine_126 : decode cX6_tryLine 126 = .ok (.dup, 1) := by decide +kernel
theorem dX6_tryLine_127 : decode cX6_tryLine 127 = .ok (.getfield 34, 3) := by decide +kernel
theorem dX6_tryLine_130 : decode cX6_tryLine 130 = .ok (.iconst 1, 1) := by decide +kernel
theorem dX6_tryLine_131 : decode cX6_tryLine 131 = .ok (.isub, 1) := by decide +kernel
theorem dX6_tryLine_132 : decode cX6_tryLine 132 = .ok (.putfield 34, 3) := by decide +kernel
theorem dX6_tryLine_135 : decode cX6_tryLine 135 = .ok (.iinc 4 (-1), 3) := by decide +kernel
theorem dX6_tryLine_138 : decode cX6_tryLine 138 = .ok (.goto (-36), 3) := by decide +kernel
theorem dX6_tryLine_141 : decode cX6_tryLine 141 = .ok (.aload_n 0, 1) := by decide +kernel
theorem dX6_tryLine_142 : decode cX6_tryLine 142 = .ok (.aload_n 0, 1) := by decide +kernel
theorem dX6_tryLine_143 : decode cX6_tryLine 143 = .ok (.getfield 14, 3) := by decide +kernel
theorem dX6_tryLine_146 : decode cX6_tryLine 146 = .ok (.iload_n 3, 1) := by decide +kernel
theorem dX6_tryLine_147 : decode cX6_tryLine 147 = .ok (.iconst 1, 1) := by decide +kernel
theorem dX6_tryLine_148 : decode cX6_tryLine 148 = .ok (.iadd, 1) := by decide +kernel
theorem dX6_tryLine_149 : decode cX6_tryLine 149 = .ok (.iload_n 2, 1) := by decide +kernel
theorem dX6_tryLine_150 : decode cX6_tryLine 150 = .ok (.invokevirtual 63, 3) := by decide +kernel
theorem dX6_tryLine_153 : decode cX6_tryLine 153 = .ok (.putfield 53, 3) := by decide +kernel
theorem dX6_tryLine_156 : decode cX6_tryLine 156 = .ok (.return_, 1) := by decide +kernel
theorem dX6_tryMarkup_0 : decode cX6_tryMarkup 0 = .ok (.aload_n 0, 1) := by decide +kernel
theorem dX6_tryMarkup_1 : decode cX6_tryMarkup 1 = .ok (.aload_n 0, 1) := by decide +kernel
theorem dX6_tryMarkup_2 : decode cX6_tryMarkup 2 = .ok (.getfield 24, 3) := by decide +kernel
theorem dX6_tryMarkup_5 : decode cX6_tryMarkup 5 = .ok (.putfield 53, 3) := by decide +kernel
theorem dX6_tryMarkup_8 : decode cX6_tryMarkup 8 = .ok (.aload_n 0, 1) := by decide +kernel
theorem dX6_tryMarkup_9 : decode cX6_tryMarkup 9 = .ok (.aload_n 0, 1) := by decide +kernel
theorem dX6_tryMarkup_10 : decode cX6_tryMarkup 10 = .ok (.getfield 24, 3) := by decide +kernel
theorem dX6_tryMarkup_13 : decode cX6_tryMarkup 13 = .ok (.putfield 56, 3) := by decide +kernel
theorem dX6_tryMarkup_16 : decode cX6_tryMarkup 16 = .ok (.aload_n 0, 1) := by decide +kernel
theorem dX6_tryMarkup_17 : decode cX6_tryMarkup 17 = .ok (.getfield 14, 3) := by decide +kernel
theorem dX6_tryMarkup_20 : decode cX6_tryMarkup 20 = .ok (.aload_n 0, 1) := by decide +kernel
theorem dX6_tryMarkup_21 : decode cX6_tryMarkup 21 = .ok (.getfield 24, 3) := by decide +kernel
theorem dX6_tryMarkup_24 : decode cX6_tryMarkup 24 = .ok (.invokevirtual 67, 3) := by decide +kernel
theorem dX6_tryMarkup_27 : decode cX6_tryMarkup 27 = .ok (.bipush 60, 2) := by decide +kernel
theorem dX6_tryMarkup_29 : decode cX6_tryMarkup 29 = .ok (.if_icmp .ne 30, 3) := by decide +kernel
theorem dX6_tryMarkup_32 : decode cX6_tryMarkup 32 = .ok (.aload_n 0, 1) := by decide +kernel
theorem dX6_tryMarkup_33 : decode cX6_tryMarkup 33 = .ok (.aload_n 0, 1) := by decide +kernel
theorem dX6_tryMarkup_34 : decode cX6_tryMarkup 34 = .ok (.getfield 14, 3) := by decide +kernel
theorem dX6_tryMarkup_37 : decode cX6_tryMarkup 37 = .ok (.bipush 62, 2) := by decide +kernel
theorem dX6_tryMarkup_39 : decode cX6_tryMarkup 39 = .ok (.aload_n 0, 1) := by decide +kernel
theorem dX6_tryMarkup_40 : decode cX6_tryMarkup 40 = .ok (.getfield 24, 3) := by decide +kernel
theorem dX6_tryMarkup_43 : decode cX6_tryMarkup 43 = .ok (.aload_n 0, 1) := by decide +kernel
theorem dX6_tryMarkup_44 : decode cX6_tryMarkup 44 = .ok (.getfield 14, 3) := by decide +kernel
theorem dX6_tryMarkup_47 : decode cX6_tryMarkup 47 = .ok (.invokevirtual 37, 3) := by decide +kernel
theorem dX6_tryMarkup_50 : decode cX6_tryMarkup 50 = .ok (.invokevirtual 59, 3) := by decide +kernel
theorem dX6_tryMarkup_53 : decode cX6_tryMarkup 53 = .ok (.iconst 1, 1) := by decide +kernel
theorem dX6_tryMarkup_54 : decode cX6_tryMarkup 54 = .ok (.iadd, 1) := by decide +kernel
theorem dX6_tryMarkup_55 : decode cX6_tryMarkup 55 = .ok (.putfield 24, 3) := by decide +kernel
theorem dX6_tryMarkup_58 : decode cX6_tryMarkup 58 = .ok (.return_, 1) := by decide +kernel
theorem dX6_tryMarkup_59 : decode cX6_tryMarkup 59 = .ok (.aload_n 0, 1) := by decide +kernel
theorem dX6_tryMarkup_60 : decode cX6_tryMarkup 60 = .ok (.getfield 14, 3) := by decide +kernel
theorem dX6_tryMarkup_63 : decode cX6_tryMarkup 63 = .ok (.bipush 60, 2) := by decide +kernel
theorem dX6_tryMarkup_65 : decode cX6_tryMarkup 65 = .ok (.aload_n 0, 1) := by decide +kernel
theorem dX6_tryMarkup_66 : decode cX6_tryMarkup 66 = .ok (.getfield 24, 3) := by decide +kernel
theorem dX6_tryMarkup_69 : decode cX6_tryMarkup 69 = .ok (.aload_n 0, 1) := by decide +kernel
theorem dX6_tryMarkup_70 : decode cX6_tryMarkup 70 = .ok (.getfield 14, 3) := by decide +kernel
theorem dX6_tryMarkup_73 : decode cX6_tryMarkup 73 = .ok (.invokevirtual 37, 3) := by decide +kernel
theorem dX6_tryMarkup_76 : decode cX6_tryMarkup 76 = .ok (.invokevirtual 59, 3) := by decide +kernel
theorem dX6_tryMarkup_79 : decode cX6_tryMarkup 79 = .ok (.istore_n 1, 1) := by decide +kernel
theorem dX6_tryMarkup_80 : decode cX6_tryMarkup 80 = .ok (.aload_n 0, 1) := by decide +kernel
theorem dX6_tryMarkup_81 : decode cX6_tryMarkup 81 = .ok (.aload_n 0, 1) := by decide +kernel
theorem dX6_tryMarkup_82 : decode cX6_tryMarkup 82 = .ok (.getfield 14, 3) := by decide +kernel
theorem dX6_tryMarkup_85 : decode cX6_tryMarkup 85 = .ok (.aload_n 0, 1) := by decide +kernel
theorem dX6_tryMarkup_86 : decode cX6_tryMarkup 86 = .ok (.getfield 24, 3) := by decide +kernel
theorem dX6_tryMarkup_89 : decode cX6_tryMarkup 89 = .ok (.iload_n 1, 1) := by decide +kernel
theorem dX6_tryMarkup_90 : decode cX6_tryMarkup 90 = .ok (.invokevirtual 77, 3) := by decide +kernel
theorem dX6_tryMarkup_93 : decode cX6_tryMarkup 93 = .ok (.putfield 53, 3) := by decide +kernel
theorem dX6_tryMarkup_96 : decode cX6_tryMarkup 96 = .ok (.aload_n 0, 1) := by decide +kernel
theorem dX6_tryMarkup_97 : decode cX6_tryMarkup 97 = .ok (.iload_n 1, 1) := by decide +kernel
theorem dX6_tryMarkup_98 : decode cX6_tryMarkup 98 = .ok (.putfield 56, 3) := by decide +kernel
theorem dX6_tryMarkup_101 : decode cX6_tryMarkup 101 = .ok (.iload_n 1, 1) := by decide +kernel
theorem dX6_tryMarkup_102 : decode cX6_tryMarkup 102 = .ok (.iconst 1, 1) := by decide +kernel
theorem dX6_tryMarkup_103 : decode cX6_tryMarkup 103 = .ok (.isub, 1) := by decide +kernel
theorem dX6_tryMarkup_104 : decode cX6_tryMarkup 104 = .ok (.istore_n 2, 1) := by decide +kernel
theorem dX6_tryMarkup_105 : decode cX6_tryMarkup 105 = .ok (.iload_n 2, 1) := by decide +kernel
theorem dX6_tryMarkup_106 : decode cX6_tryMarkup 106 = .ok (.aload_n 0, 1) := by decide +kernel
theorem dX6_tryMarkup_107 : decode cX6_tryMarkup 107 = .ok (.getfield 53, 3) := by decide +kernel
theorem dX6_tryMarkup_110 : decode cX6_tryMarkup 110 = .ok (.if_icmp .le 40, 3) := by decide +kernel
theorem dX6_tryMarkup_113 : decode cX6_tryMarkup 113 = .ok (.aload_n 0, 1) := by decide +kernel
theorem dX6_tryMarkup_114 : decode cX6_tryMarkup 114 = .ok (.getfield 14, 3) := by decide +kernel
theorem dX6_tryMarkup_117 : decode cX6_tryMarkup 117 = .ok (.iload_n 2, 1) := by decide +kernel
theorem dX6_tryMarkup_118 : decode cX6_tryMarkup 118 = .ok (.invokevirtual 67, 3) := by decide +kernel
theorem dX6_tryMarkup_121 : decode cX6_tryMarkup 121 = .ok (.bipush 32, 2) := by decide +kernel
theorem dX6_tryMarkup_123 : decode cX6_tryMarkup 123 = .ok (.if_icmp .eq 16, 3) := by decide +kernel
theorem dX6_tryMarkup_126 : decode cX6_tryMarkup 126 = .ok (.aload_n 0, 1) := by decide +kernel
theorem dX6_tryMarkup_127 : decode cX6_tryMarkup 127 = .ok (.getfield 14, 3) := by decide +kernel
theorem dX6_tryMarkup_130 : decode cX6_tryMarkup 130 = .ok (.iload_n 2, 1) := by decide +kernel
theorem dX6_tryMarkup_131 : decode cX6_tryMarkup 131 = .ok (.invokevirtual 67, 3) := by decide +kernel
theorem dX6_tryMarkup_134 : decode cX6_tryMarkup 134 = .ok (.bipush 10, 2) := by decide +kernel
theorem dX6_tryMarkup_136 : decode cX6_tryMarkup 136 = .ok (.if_icmp .ne 14, 3) := by decide +kernel
theorem dX6_tryMarkup_139 : decode cX6_tryMarkup 139 = .ok (.aload_n 0, 1) := by decide +kernel
theorem dX6_tryMarkup_140 : decode cX6_tryMarkup 140 = .ok (.iload_n 2, 1) := by decide +kernel
theorem dX6_tryMarkup_141 : decode cX6_tryMarkup 141 = .ok (.putfield 56, 3) := by decide +kernel
theorem dX6_tryMarkup_144 : decode cX6_tryMarkup 144 = .ok (.iinc 2 (-1), 3) := by decide +kernel
theorem dX6_tryMarkup_147 : decode cX6_tryMarkup 147 = .ok (.goto (-42), 3) := by decide +kernel
theorem dX6_tryMarkup_150 : decode cX6_tryMarkup 150 = .ok (.aload_n 0, 1) := by decide +kernel
theorem dX6_tryMarkup_151 : decode cX6_tryMarkup 151 = .ok (.iload_n 1, 1) := by decide +kernel
theorem dX6_tryMarkup_152 : decode cX6_tryMarkup 152 = .ok (.putfield 24, 3) := by decide +kernel
theorem dX6_tryMarkup_155 : decode cX6_tryMarkup 155 = .ok (.return_, 1) := by decide +kernel
theorem dX6_tryQuotes_0 : decode cX6_tryQuotes 0 = .ok (.aload_n 0, 1) := by decide +kernel
theorem dX6_tryQuotes_1 : decode cX6_tryQuotes 1 = .ok (.aload_n 0, 1) := by decide +kernel
theorem dX6_tryQuotes_2 : decode cX6_tryQuotes 2 = .ok (.getfield 14, 3) := by decide +kernel
theorem dX6_tryQuotes_5 : decode cX6_tryQuotes 5 = .ok (.bipush 34, 2) := by decide +kernel
theorem dX6_tryQuotes_7 : decode cX6_tryQuotes 7 = .ok (.aload_n 0, 1) := by decide +kernel
theorem dX6_tryQuotes_8 : decode cX6_tryQuotes 8 = .ok (.getfield 24, 3) := by decide +kernel
theorem dX6_tryQuotes_11 : decode cX6_tryQuotes 11 = .ok (.aload_n 0, 1) := by decide +kernel
theorem dX6_tryQuotes_12 : decode cX6_tryQuotes 12 = .ok (.getfield 14, 3) := by decide +kernel
theorem dX6_tryQuotes_15 : decode cX6_tryQuotes 15 = .ok (.invokevirtual 37, 3) := by decide +kernel
theorem dX6_tryQuotes_18 : decode cX6_tryQuotes 18 = .ok (.invokevirtual 59, 3) := by decide +kernel
theorem dX6_tryQuotes_21 : decode cX6_tryQuotes 21 = .ok (.iconst 1, 1) := by decide +kernel
theorem dX6_tryQuotes_22 : decode cX6_tryQuotes 22 = .ok (.iadd, 1) := by decide +kernel
theorem dX6_tryQuotes_23 : decode cX6_tryQuotes 23 = .ok (.putfield 53, 3) := by decide +kernel
theorem dX6_tryQuotes_26 : decode cX6_tryQuotes 26 = .ok (.aload_n 0, 1) := by decide +kernel
theorem dX6_tryQuotes_27 : decode cX6_tryQuotes 27 = .ok (.aload_n 0, 1) := by decide +kernel
theorem dX6_tryQuotes_28 : decode cX6_tryQuotes 28 = .ok (.getfield 14, 3) := by decide +kernel
theorem dX6_tryQuotes_31 : decode cX6_tryQuotes 31 = .ok (.aload_n 0, 1) := by decide +kernel
theorem dX6_tryQuotes_32 : decode cX6_tryQuotes 32 = .ok (.getfield 53, 3) := by decide +kernel
theorem dX6_tryQuotes_35 : decode cX6_tryQuotes 35 = .ok (.invokevirtual 80, 3) := by decide +kernel
theorem dX6_tryQuotes_38 : decode cX6_tryQuotes 38 = .ok (.putfield 56, 3) := by decide +kernel
theorem dX6_tryQuotes_41 : decode cX6_tryQuotes 41 = .ok (.aload_n 0, 1) := by decide +kernel
theorem dX6_tryQuotes_42 : decode cX6_tryQuotes 42 = .ok (.aload_n 0, 1) := by decide +kernel
theorem dX6_tryQuotes_43 : decode cX6_tryQuotes 43 = .ok (.getfield 56, 3) := by decide +kernel
theorem dX6_tryQuotes_46 : decode cX6_tryQuotes 46 = .ok (.iconst 1, 1) := by decide +kernel
theorem dX6_tryQuotes_47 : decode cX6_tryQuotes 47 = .ok (.iadd, 1) := by decide +kernel
theorem dX6_tryQuotes_48 : decode cX6_tryQuotes 48 = .ok (.putfield 24, 3) := by decide +kernel
theorem dX6_tryQuotes_51 : decode cX6_tryQuotes 51 = .ok (.aload_n 0, 1) := by decide +kernel
theorem dX6_tryQuotes_52 : decode cX6_tryQuotes 52 = .ok (.getfield 14, 3) := by decide +kernel
theorem dX6_tryQuotes_55 : decode cX6_tryQuotes 55 = .ok (.aload_n 0, 1) := by decide +kernel
theorem dX6_tryQuotes_56 : decode cX6_tryQuotes 56 = .ok (.getfield 14, 3) := by decide +kernel
theorem dX6_tryQuotes_59 : decode cX6_tryQuotes 59 = .ok (.aload_n 0, 1) := by decide +kernel
theorem dX6_tryQuotes_60 : decode cX6_tryQuotes 60 = .ok (.getfield 24, 3) := by decide +kernel
theorem dX6_tryQuotes_63 : decode cX6_tryQuotes 63 = .ok (.aload_n 0, 1) := by decide +kernel
theorem dX6_tryQuotes_64 : decode cX6_tryQuotes 64 = .ok (.getfield 14, 3) := by decide +kernel
theorem dX6_tryQuotes_67 : decode cX6_tryQuotes 67 = .ok (.invokevirtual 37, 3) := by decide +kernel
theorem dX6_tryQuotes_70 : decode cX6_tryQuotes 70 = .ok (.invokevirtual 77, 3) := by decide +kernel
theorem dX6_tryQuotes_73 : decode cX6_tryQuotes 73 = .ok (.invokevirtual 67, 3) := by decide +kernel
theorem dX6_tryQuotes_76 : decode cX6_tryQuotes 76 = .ok (.bipush 58, 2) := by decide +kernel
theorem dX6_tryQuotes_78 : decode cX6_tryQuotes 78 = .ok (.if_icmp .ne 11, 3) := by decide +kernel
theorem dX6_tryQuotes_81 : decode cX6_tryQuotes 81 = .ok (.aload_n 0, 1) := by decide +kernel
theorem dX6_tryQuotes_82 : decode cX6_tryQuotes 82 = .ok (.aload_n 0, 1) := by decide +kernel
theorem dX6_tryQuotes_83 : decode cX6_tryQuotes 83 = .ok (.getfield 53, 3) := by decide +kernel
theorem dX6_tryQuotes_86 : decode cX6_tryQuotes 86 = .ok (.putfield 56, 3) := by decide +kernel
theorem dX6_tryQuotes_89 : decode cX6_tryQuotes 89 = .ok (.return_, 1) := by decide +kernel
theorem dX7_addLock_0 : decode cX7_addLock 0 = .ok (.aload_n 0, 1) := by decide +kernel
theorem dX7_addLock_1 : decode cX7_addLock 1 = .ok (.getfield 41, 3) := by decide +kernel
theorem dX7_addLock_4 : decode cX7_addLock 4 = .ok (.ifCond .lt 15, 3) := by decide +kernel
theorem dX7_addLock_7 : decode cX7_addLock 7 = .ok (.aload_n 0, 1) := by decide +kernel
theorem dX7_addLock_8 : decode cX7_addLock 8 = .ok (.getfield 41, 3) := by decide +kernel
theorem dX7_addLock_11 : decode cX7_addLock 11 = .ok (.aload_n 0, 1) := by decide +kernel
theorem dX7_addLock_12 : decode cX7_addLock 12 = .ok (.getfield 30, 3) := by decide +kernel
theorem dX7_addLock_15 : decode cX7_addLock 15 = .ok (.arraylength, 1) := by decide +kernel
theorem dX7_addLock_16 : decode cX7_addLock 16 = .ok (.if_icmp .lt 6, 3) := by decide +kernel
theorem dX7_addLock_19 : decode cX7_addLock 19 = .ok (.bipush 6, 2) := by decide +kernel
theorem dX7_addLock_21 : decode cX7_addLock 21 = .ok (.ireturn, 1) := by decide +kernel
theorem dX7_addLock_22 : decode cX7_addLock 22 = .ok (.iconst 0, 1) := by decide +kernel
theorem dX7_addLock_23 : decode cX7_addLock 23 = .ok (.istore_n 2, 1) := by decide +kernel
theorem dX7_addLock_24 : decode cX7_addLock 24 = .ok (.iload_n 2, 1) := by decide +kernel
theorem dX7_addLock_25 : decode cX7_addLock 25 = .ok (.aload_n 0, 1) := by decide +kernel
theorem dX7_addLock_26 : decode cX7_addLock 26 = .ok (.getfield 41, 3) := by decide +kernel
theorem dX7_addLock_29 : decode cX7_addLock 29 = .ok (.if_icmp .ge 52, 3) := by decide +kernel
theorem dX7_addLock_32 : decode cX7_addLock 32 = .ok (.aload_n 0, 1) := by decide +kernel
theorem dX7_addLock_33 : decode cX7_addLock 33 = .ok (.getfield 30, 3) := by decide +kernel
theorem dX7_addLock_36 : decode cX7_addLock 36 = .ok (.iload_n 2, 1) := by decide +kernel
theorem dX7_addLock_37 : decode cX7_addLock 37 = .ok (.aaload, 1) := by decide +kernel
theorem dX7_addLock_38 : decode cX7_addLock 38 = .ok (.astore_n 3, 1) := by decide +kernel
theorem dX7_addLock_39 : decode cX7_addLock 39 = .ok (.aload_n 3, 1) := by decide +kernel
theorem dX7_addLock_40 : decode cX7_addLock 40 = .ok (.ifnull 35, 3) := by decide +kernel
theorem dX7_addLock_43 : decode cX7_addLock 43 = .ok (.aload_n 1, 1) := by decide +kernel
theorem dX7_addLock_44 : decode cX7_addLock 44 = .ok (.ifnull 31, 3) := by decide +kernel
theorem dX7_addLock_47 : decode cX7_addLock 47 = .ok (.aload_n 3, 1) := by decide +kernel
theorem dX7_addLock_48 : decode cX7_addLock 48 = .ok (.invokevirtual 62, 3) := by decide +kernel
theorem dX7_addLock_51 : decode cX7_addLock 51 = .ok (.aload_n 1, 1) := by decide +kernel
theorem dX7_addLock_52 : decode cX7_addLock 52 = .ok (.invokevirtual 62, 3) := by decide +kernel
theorem dX7_addLock_55 : decode cX7_addLock 55 = .ok (.if_icmp .ne 20, 3) := by decide +kernel
theorem dX7_addLock_58 : decode cX7_addLock 58 = .ok (.aload_n 3, 1) := by decide +kernel
theorem dX7_addLock_59 : decode cX7_addLock 59 = .ok (.iconst 0, 1) := by decide +kernel
theorem dX7_addLock_60 : decode cX7_addLock 60 = .ok (.aload_n 1, 1) := by decide +kernel
theorem dX7_addLock_61 : decode cX7_addLock 61 = .ok (.iconst 0, 1) := by decide +kernel
theorem dX7_addLock_62 : decode cX7_addLock 62 = .ok (.aload_n 3, 1) := by decide +kernel
theorem dX7_addLock_63 : decode cX7_addLock 63 = .ok (.invokevirtual 62, 3) := by decide +kernel
theorem dX7_addLock_66 : decode cX7_addLock 66 = .ok (.invokevirtual 66, 3) := by decide +kernel
theorem dX7_addLock_69 : decode cX7_addLock 69 = .ok (.ifCond .eq 6, 3) := by decide +kernel
theorem dX7_addLock_72 : decode cX7_addLock 72 = .ok (.bipush 7, 2) := by decide +kernel
theorem dX7_addLock_74 : decode cX7_addLock 74 = .ok (.ireturn, 1) := by decide +kernel
theorem dX7_addLock_75 : decode cX7_addLock 75 = .ok (.iinc 2 1, 3) := by decide +kernel
theorem dX7_addLock_78 : decode cX7_addLock 78 = .ok (.goto (-54), 3) := by decide +kernel
theorem dX7_addLock_81 : decode cX7_addLock 81 = .ok (.aload_n 0, 1) := by decide +kernel
theorem dX7_addLock_82 : decode cX7_addLock 82 = .ok (.getfield 30, 3) := by decide +kernel
theorem dX7_addLock_85 : decode cX7_addLock 85 = .ok (.aload_n 0, 1) := by decide +kernel
theorem dX7_addLock_86 : decode cX7_addLock 86 = .ok (.getfield 41, 3) := by decide +kernel
theorem dX7_addLock_89 : decode cX7_addLock 89 = .ok (.aload_n 1, 1) := by decide +kernel
theorem dX7_addLock_90 : decode cX7_addLock 90 = .ok (.aastore, 1) := by decide +kernel
theorem dX7_addLock_91 : decode cX7_addLock 91 = .ok (.aload_n 0, 1) := by decide +kernel
theorem dX7_addLock_92 : decode cX7_addLock 92 = .ok (.dup, 1) := by decide +kernel
theorem dX7_addLock_93 : decode cX7_addLock 93 = .ok (.getfield 41, 3) := by decide +kernel
theorem dX7_addLock_96 : decode cX7_addLock 96 = .ok (.iconst 1, 1) := by decide +kernel
theorem dX7_addLock_97 : decode cX7_addLock 97 = .ok (.iadd, 1) := by decide +kernel
theorem dX7_addLock_98 : decode cX7_addLock 98 = .ok (.putfield 41, 3) := by decide +kernel
theorem dX7_addLock_101 : decode cX7_addLock 101 = .ok (.iconst 0, 1) := by decide +kernel
theorem dX7_addLock_102 : decode cX7_addLock 102 = .ok (.ireturn, 1) := by decide +kernel
theorem dX7_addPair_0 : decode cX7_addPair 0 = .ok (.aload_n 0, 1) := by decide +kernel
theorem dX7_addPair_1 : decode cX7_addPair 1 = .ok (.new 51, 3) := by decide +kernel
theorem dX7_addPair_4 : decode cX7_addPair 4 = .ok (.dup, 1) := by decide +kernel
theorem dX7_addPair_5 : decode cX7_addPair 5 = .ok (.aload_n 1, 1) := by decide +kernel
theorem dX7_addPair_6 : decode cX7_addPair 6 = .ok (.aload_n 2, 1) := by decide +kernel
theorem dX7_addPair_7 : decode cX7_addPair 7 = .ok (.aload_n 0, 1) := by decide +kernel
theorem dX7_addPair_8 : decode cX7_addPair 8 = .ok (.getfield 44, 3) := by decide +kernel
theorem dX7_addPair_11 : decode cX7_addPair 11 = .ok (.invokespecial 53, 3) := by decide +kernel
theorem dX7_addPair_14 : decode cX7_addPair 14 = .ok (.putfield 44, 3) := by decide +kernel
theorem dX7_addPair_17 : decode cX7_addPair 17 = .ok (.aload_n 0, 1) := by decide +kernel
theorem dX7_addPair_18 : decode cX7_addPair 18 = .ok (.aload_n 0, 1) := by decide +kernel
theorem dX7_addPair_19 : decode cX7_addPair 19 = .ok (.getfield 48, 3) := by decide +kernel
theorem dX7_addPair_22 : decode cX7_addPair 22 = .ok (.iconst 1, 1) := by decide +kernel
theorem dX7_addPair_23 : decode cX7_addPair 23 = .ok (.iadd, 1) := by decide +kernel
theorem dX7_addPair_24 : decode cX7_addPair 24 = .ok (.bipush 12, 2) := by decide +kernel
theorem dX7_addPair_26 : decode cX7_addPair 26 = .ok (.invokestatic 56, 3) := by decide +kernel
theorem dX7_addPair_29 : decode cX7_addPair 29 = .ok (.putfield 48, 3) := by decide +kernel
theorem dX7_addPair_32 : decode cX7_addPair 32 = .ok (.return_, 1) := by decide +kernel
theorem dX7_copyFrom_0 : decode cX7_copyFrom 0 = .ok (.aload_n 0, 1) := by decide +kernel
theorem dX7_copyFrom_1 : decode cX7_copyFrom 1 = .ok (.aload_n 1, 1) := by decide +kernel
theorem dX7_copyFrom_2 : decode cX7_copyFrom 2 = .ok (.getfield 14, 3) := by decide +kernel
theorem dX7_copyFrom_5 : decode cX7_copyFrom 5 = .ok (.putfield 14, 3) := by decide +kernel
theorem dX7_copyFrom_8 : decode cX7_copyFrom 8 = .ok (.aload_n 0, 1) := by decide +kernel
theorem dX7_copyFrom_9 : decode cX7_copyFrom 9 = .ok (.aload_n 1, 1) := by decide +kernel
theorem dX7_copyFrom_10 : decode cX7_copyFrom 10 = .ok (.getfield 20, 3) := by decide +kernel
theorem dX7_copyFrom_13 : decode cX7_copyFrom 13 = .ok (.putfield 20, 3) := by decide +kernel
theorem dX7_copyFrom_16 : decode cX7_copyFrom 16 = .ok (.aload_n 0, 1) := by decide +kernel
theorem dX7_copyFrom_17 : decode cX7_copyFrom 17 = .ok (.aload_n 1, 1) := by decide +kernel
theorem dX7_copyFrom_18 : decode cX7_copyFrom 18 = .ok (.getfield 24, 3) := by decide +kernel
theorem dX7_copyFrom_21 : decode cX7_copyFrom 21 = .ok (.putfield 24, 3) := by decide +kernel
theorem dX7_copyFrom_24 : decode cX7_copyFrom 24 = .ok (.aload_n 0, 1) := by decide +kernel
theorem dX7_copyFrom_25 : decode cX7_copyFrom 25 = .ok (.aload_n 1, 1) := by decide +kernel
theorem dX7_copyFrom_26 : decode cX7_copyFrom 26 = .ok (.getfield 37, 3) := by decide +kernel
theorem dX7_copyFrom_29 : decode cX7_copyFrom 29 = .ok (.putfield 37, 3) := by decide +kernel
theorem dX7_copyFrom_32 : decode cX7_copyFrom 32 = .ok (.aload_n 0, 1) := by decide +kernel
theorem dX7_copyFrom_33 : decode cX7_copyFrom 33 = .ok (.aload_n 1, 1) := by decide +kernel
theorem dX7_copyFrom_34 : decode cX7_copyFrom 34 = .ok (.getfield 27, 3) := by decide +kernel
theorem dX7_copyFrom_37 : decode cX7_copyFrom 37 = .ok (.putfield 27, 3) := by decide +kernel
theorem dX7_copyFrom_40 : decode cX7_copyFrom 40 = .ok (.aload_n 0, 1) := by decide +kernel
theorem dX7_copyFrom_41 : decode cX7_copyFrom 41 = .ok (.aload_n 1, 1) := by decide +kernel
theorem dX7_copyFrom_42 : decode cX7_copyFrom 42 = .ok (.getfield 41, 3) := by decide +kernel
theorem dX7_copyFrom_45 : decode cX7_copyFrom 45 = .ok (.putfield 41, 3) := by decide +kernel
theorem dX7_copyFrom_48 : decode cX7_copyFrom 48 = .ok (.aload_n 0, 1) := by decide +kernel
theorem dX7_copyFrom_49 : decode cX7_copyFrom 49 = .ok (.aload_n 1, 1) := by decide +kernel
theorem dX7_copyFrom_50 : decode cX7_copyFrom 50 = .ok (.getfield 44, 3) := by decide +kernel
theorem dX7_copyFrom_53 : decode cX7_copyFrom 53 = .ok (.putfield 44, 3) := by decide +kernel
theorem dX7_copyFrom_56 : decode cX7_copyFrom 56 = .ok (.aload_n 0, 1) := by decide +kernel
theorem dX7_copyFrom_57 : decode cX7_copyFrom 57 = .ok (.aload_n 1, 1) := by decide +kernel
theorem dX7_copyFrom_58 : decode cX7_copyFrom 58 = .ok (.getfield 48, 3) := by decide +kernel
theorem dX7_copyFrom_61 : decode cX7_copyFrom 61 = .ok (.putfield 48, 3) := by decide +kernel
theorem dX7_copyFrom_64 : decode cX7_copyFrom 64 = .ok (.iconst 0, 1) := by decide +kernel
end
/-! part 30e.dec -/
section
theorem dX7_copyFrom_65 : decode cX7_copyFrom 65 = .ok (.istore_n 2, 1) := by decide +kernel
theorem dX7_copyFrom_66 : decode cX7_copyFrom 66 = .ok (.iload_n 2, 1) := by decide +kernel
theorem dX7_copyFrom_67 : decode cX7_copyFrom 67 = .ok (.aload_n 0, 1) := by decide +kernel
theorem dX7_copyFrom_68 : decode cX7_copyFrom 68 = .ok (.getfield 30, 3) := by decide +kernel
theorem dX7_copyFrom_71 : decode cX7_copyFrom 71 = .ok (.arraylength, 1) := by decide +kernel
theorem dX7_copyFrom_72 : decode cX7_copyFrom 72 = .ok (.if_icmp .ge 30, 3) := by decide +kernel
theorem dX7_copyFrom_75 : decode cX7_copyFrom 75 = .ok (.iload_n 2, 1) := by decide +kernel
theorem dX7_copyFrom_76 : decode cX7_copyFrom 76 = .ok (.aload_n 1, 1) := by decide +kernel
theorem dX7_copyFrom_77 : decode cX7_copyFrom 77 = .ok (.getfield 30, 3) := by decide +kernel
theorem dX7_copyFrom_80 : decode cX7_copyFrom 80 = .ok (.arraylength, 1) := by decide +kernel
theorem dX7_copyFrom_81 : decode cX7_copyFrom 81 = .ok (.if_icmp .ge 21, 3) := by decide +kernel
theorem dX7_copyFrom_84 : decode cX7_copyFrom 84 = .ok (.aload_n 0, 1) := by decide +kernel
theorem dX7_copyFrom_85 : decode cX7_copyFrom 85 = .ok (.getfield 30, 3) := by decide +kernel
theorem dX7_copyFrom_88 : decode cX7_copyFrom 88 = .ok (.iload_n 2, 1) := by decide +kernel
theorem dX7_copyFrom_89 : decode cX7_copyFrom 89 = .ok (.aload_n 1, 1) := by decide +kernel
theorem dX7_copyFrom_90 : decode cX7_copyFrom 90 = .ok (.getfield 30, 3) := by decide +kernel
theorem dX7_copyFrom_93 : decode cX7_copyFrom 93 = .ok (.iload_n 2, 1) := by decide +kernel
theorem dX7_copyFrom_94 : decode cX7_copyFrom 94 = .ok (.aaload, 1) := by decide +kernel
theorem dX7_copyFrom_95 : decode cX7_copyFrom 95 = .ok (.aastore, 1) := by decide +kernel
theorem dX7_copyFrom_96 : decode cX7_copyFrom 96 = .ok (.iinc 2 1, 3) := by decide +kernel
theorem dX7_copyFrom_99 : decode cX7_copyFrom 99 = .ok (.goto (-33), 3) := by decide +kernel
theorem dX7_copyFrom_102 : decode cX7_copyFrom 102 = .ok (.iconst 0, 1) := by decide +kernel
theorem dX7_copyFrom_103 : decode cX7_copyFrom 103 = .ok (.istore_n 2, 1) := by decide +kernel
theorem dX7_copyFrom_104 : decode cX7_copyFrom 104 = .ok (.iload_n 2, 1) := by decide +kernel
theorem dX7_copyFrom_105 : decode cX7_copyFrom 105 = .ok (.aload_n 0, 1) := by decide +kernel
theorem dX7_copyFrom_106 : decode cX7_copyFrom 106 = .ok (.getfield 34, 3) := by decide +kernel
theorem dX7_copyFrom_109 : decode cX7_copyFrom 109 = .ok (.arraylength, 1) := by decide +kernel
theorem dX7_copyFrom_110 : decode cX7_copyFrom 110 = .ok (.if_icmp .ge 30, 3) := by decide +kernel
theorem dX7_copyFrom_113 : decode cX7_copyFrom 113 = .ok (.iload_n 2, 1) := by decide +kernel
theorem dX7_copyFrom_114 : decode cX7_copyFrom 114 = .ok (.aload_n 1, 1) := by decide +kernel
theorem dX7_copyFrom_115 : decode cX7_copyFrom 115 = .ok (.getfield 34, 3) := by decide +kernel
theorem dX7_copyFrom_118 : decode cX7_copyFrom 118 = .ok (.arraylength, 1) := by decide +kernel
theorem dX7_copyFrom_119 : decode cX7_copyFrom 119 = .ok (.if_icmp .ge 21, 3) := by decide +kernel
theorem dX7_copyFrom_122 : decode cX7_copyFrom 122 = .ok (.aload_n 0, 1) := by decide +kernel
theorem dX7_copyFrom_123 : decode cX7_copyFrom 123 = .ok (.getfield 34, 3) := by decide +kernel
theorem dX7_copyFrom_126 : decode cX7_copyFrom 126 = .ok (.iload_n 2, 1) := by decide +kernel
theorem dX7_copyFrom_127 : decode cX7_copyFrom 127 = .ok (.aload_n 1, 1) := by decide +kernel
theorem dX7_copyFrom_128 : decode cX7_copyFrom 128 = .ok (.getfield 34, 3) := by decide +kernel
theorem dX7_copyFrom_131 : decode cX7_copyFrom 131 = .ok (.iload_n 2, 1) := by decide +kernel
theorem dX7_copyFrom_132 : decode cX7_copyFrom 132 = .ok (.aaload, 1) := by decide +kernel
theorem dX7_copyFrom_133 : decode cX7_copyFrom 133 = .ok (.aastore, 1) := by decide +kernel
theorem dX7_copyFrom_134 : decode cX7_copyFrom 134 = .ok (.iinc 2 1, 3) := by decide +kernel
theorem dX7_copyFrom_137 : decode cX7_copyFrom 137 = .ok (.goto (-33), 3) := by decide +kernel
theorem dX7_copyFrom_140 : decode cX7_copyFrom 140 = .ok (.return_, 1) := by decide +kernel
theorem dX7_forgetTold_0 : decode cX7_forgetTold 0 = .ok (.iconst 0, 1) := by decide +kernel
theorem dX7_forgetTold_1 : decode cX7_forgetTold 1 = .ok (.istore_n 1, 1) := by decide +kernel
theorem dX7_forgetTold_2 : decode cX7_forgetTold 2 = .ok (.iload_n 1, 1) := by decide +kernel
theorem dX7_forgetTold_3 : decode cX7_forgetTold 3 = .ok (.aload_n 0, 1) := by decide +kernel
theorem dX7_forgetTold_4 : decode cX7_forgetTold 4 = .ok (.getfield 34, 3) := by decide +kernel
theorem dX7_forgetTold_7 : decode cX7_forgetTold 7 = .ok (.arraylength, 1) := by decide +kernel
theorem dX7_forgetTold_8 : decode cX7_forgetTold 8 = .ok (.if_icmp .ge 16, 3) := by decide +kernel
theorem dX7_forgetTold_11 : decode cX7_forgetTold 11 = .ok (.aload_n 0, 1) := by decide +kernel
theorem dX7_forgetTold_12 : decode cX7_forgetTold 12 = .ok (.getfield 34, 3) := by decide +kernel
theorem dX7_forgetTold_15 : decode cX7_forgetTold 15 = .ok (.iload_n 1, 1) := by decide +kernel
theorem dX7_forgetTold_16 : decode cX7_forgetTold 16 = .ok (.aconst_null, 1) := by decide +kernel
theorem dX7_forgetTold_17 : decode cX7_forgetTold 17 = .ok (.aastore, 1) := by decide +kernel
theorem dX7_forgetTold_18 : decode cX7_forgetTold 18 = .ok (.iinc 1 1, 3) := by decide +kernel
theorem dX7_forgetTold_21 : decode cX7_forgetTold 21 = .ok (.goto (-19), 3) := by decide +kernel
theorem dX7_forgetTold_24 : decode cX7_forgetTold 24 = .ok (.return_, 1) := by decide +kernel
theorem dX7_isLocked_0 : decode cX7_isLocked 0 = .ok (.iconst 0, 1) := by decide +kernel
theorem dX7_isLocked_1 : decode cX7_isLocked 1 = .ok (.istore_n 2, 1) := by decide +kernel
theorem dX7_isLocked_2 : decode cX7_isLocked 2 = .ok (.iload_n 2, 1) := by decide +kernel
theorem dX7_isLocked_3 : decode cX7_isLocked 3 = .ok (.aload_n 0, 1) := by decide +kernel
theorem dX7_isLocked_4 : decode cX7_isLocked 4 = .ok (.getfield 41, 3) := by decide +kernel
theorem dX7_isLocked_7 : decode cX7_isLocked 7 = .ok (.if_icmp .ge 62, 3) := by decide +kernel
theorem dX7_isLocked_10 : decode cX7_isLocked 10 = .ok (.iload_n 2, 1) := by decide +kernel
theorem dX7_isLocked_11 : decode cX7_isLocked 11 = .ok (.aload_n 0, 1) := by decide +kernel
theorem dX7_isLocked_12 : decode cX7_isLocked 12 = .ok (.getfield 30, 3) := by decide +kernel
theorem dX7_isLocked_15 : decode cX7_isLocked 15 = .ok (.arraylength, 1) := by decide +kernel
theorem dX7_isLocked_16 : decode cX7_isLocked 16 = .ok (.if_icmp .ge 53, 3) := by decide +kernel
theorem dX7_isLocked_19 : decode cX7_isLocked 19 = .ok (.aload_n 0, 1) := by decide +kernel
theorem dX7_isLocked_20 : decode cX7_isLocked 20 = .ok (.getfield 30, 3) := by decide +kernel
theorem dX7_isLocked_23 : decode cX7_isLocked 23 = .ok (.iload_n 2, 1) := by decide +kernel
theorem dX7_isLocked_24 : decode cX7_isLocked 24 = .ok (.aaload, 1) := by decide +kernel
theorem dX7_isLocked_25 : decode cX7_isLocked 25 = .ok (.astore_n 3, 1) := by decide +kernel
theorem dX7_isLocked_26 : decode cX7_isLocked 26 = .ok (.aload_n 3, 1) := by decide +kernel
theorem dX7_isLocked_27 : decode cX7_isLocked 27 = .ok (.ifnull 36, 3) := by decide +kernel
theorem dX7_isLocked_30 : decode cX7_isLocked 30 = .ok (.aload_n 3, 1) := by decide +kernel
theorem dX7_isLocked_31 : decode cX7_isLocked 31 = .ok (.invokevirtual 62, 3) := by decide +kernel
theorem dX7_isLocked_34 : decode cX7_isLocked 34 = .ok (.aload_n 1, 1) := by decide +kernel
theorem dX7_isLocked_35 : decode cX7_isLocked 35 = .ok (.getfield 70, 3) := by decide +kernel
theorem dX7_isLocked_38 : decode cX7_isLocked 38 = .ok (.if_icmp .gt 25, 3) := by decide +kernel
theorem dX7_isLocked_41 : decode cX7_isLocked 41 = .ok (.aload_n 3, 1) := by decide +kernel
theorem dX7_isLocked_42 : decode cX7_isLocked 42 = .ok (.iconst 0, 1) := by decide +kernel
theorem dX7_isLocked_43 : decode cX7_isLocked 43 = .ok (.aload_n 1, 1) := by decide +kernel
theorem dX7_isLocked_44 : decode cX7_isLocked 44 = .ok (.getfield 75, 3) := by decide +kernel
theorem dX7_isLocked_47 : decode cX7_isLocked 47 = .ok (.aload_n 1, 1) := by decide +kernel
theorem dX7_isLocked_48 : decode cX7_isLocked 48 = .ok (.getfield 78, 3) := by decide +kernel
theorem dX7_isLocked_51 : decode cX7_isLocked 51 = .ok (.aload_n 3, 1) := by decide +kernel
theorem dX7_isLocked_52 : decode cX7_isLocked 52 = .ok (.invokevirtual 62, 3) := by decide +kernel
theorem dX7_isLocked_55 : decode cX7_isLocked 55 = .ok (.invokevirtual 66, 3) := by decide +kernel
theorem dX7_isLocked_58 : decode cX7_isLocked 58 = .ok (.ifCond .eq 5, 3) := by decide +kernel
theorem dX7_isLocked_61 : decode cX7_isLocked 61 = .ok (.iconst 1, 1) := by decide +kernel
theorem dX7_isLocked_62 : decode cX7_isLocked 62 = .ok (.ireturn, 1) := by decide +kernel
theorem dX7_isLocked_63 : decode cX7_isLocked 63 = .ok (.iinc 2 1, 3) := by decide +kernel
theorem dX7_isLocked_66 : decode cX7_isLocked 66 = .ok (.goto (-64), 3) := by decide +kernel
theorem dX7_isLocked_69 : decode cX7_isLocked 69 = .ok (.iconst 0, 1) := by decide +kernel
theorem dX7_isLocked_70 : decode cX7_isLocked 70 = .ok (.ireturn, 1) := by decide +kernel
theorem dX7_setTold_0 : decode cX7_setTold 0 = .ok (.iload_n 1, 1) := by decide +kernel
theorem dX7_setTold_1 : decode cX7_setTold 1 = .ok (.ifCond .lt 19, 3) := by decide +kernel
theorem dX7_setTold_4 : decode cX7_setTold 4 = .ok (.iload_n 1, 1) := by decide +kernel
theorem dX7_setTold_5 : decode cX7_setTold 5 = .ok (.aload_n 0, 1) := by decide +kernel
theorem dX7_setTold_6 : decode cX7_setTold 6 = .ok (.getfield 34, 3) := by decide +kernel
theorem dX7_setTold_9 : decode cX7_setTold 9 = .ok (.arraylength, 1) := by decide +kernel
theorem dX7_setTold_10 : decode cX7_setTold 10 = .ok (.if_icmp .ge 10, 3) := by decide +kernel
theorem dX7_setTold_13 : decode cX7_setTold 13 = .ok (.aload_n 0, 1) := by decide +kernel
theorem dX7_setTold_14 : decode cX7_setTold 14 = .ok (.getfield 34, 3) := by decide +kernel
theorem dX7_setTold_17 : decode cX7_setTold 17 = .ok (.iload_n 1, 1) := by decide +kernel
theorem dX7_setTold_18 : decode cX7_setTold 18 = .ok (.aload_n 2, 1) := by decide +kernel
theorem dX7_setTold_19 : decode cX7_setTold 19 = .ok (.aastore, 1) := by decide +kernel
theorem dX7_setTold_20 : decode cX7_setTold 20 = .ok (.return_, 1) := by decide +kernel
theorem dX7_toldCount_0 : decode cX7_toldCount 0 = .ok (.iconst 0, 1) := by decide +kernel
theorem dX7_toldCount_1 : decode cX7_toldCount 1 = .ok (.istore_n 1, 1) := by decide +kernel
theorem dX7_toldCount_2 : decode cX7_toldCount 2 = .ok (.iconst 0, 1) := by decide +kernel
theorem dX7_toldCount_3 : decode cX7_toldCount 3 = .ok (.istore_n 2, 1) := by decide +kernel
theorem dX7_toldCount_4 : decode cX7_toldCount 4 = .ok (.iload_n 2, 1) := by decide +kernel
theorem dX7_toldCount_5 : decode cX7_toldCount 5 = .ok (.aload_n 0, 1) := by decide +kernel
theorem dX7_toldCount_6 : decode cX7_toldCount 6 = .ok (.getfield 34, 3) := by decide +kernel
theorem dX7_toldCount_9 : decode cX7_toldCount 9 = .ok (.arraylength, 1) := by decide +kernel
theorem dX7_toldCount_10 : decode cX7_toldCount 10 = .ok (.if_icmp .ge 21, 3) := by decide +kernel
theorem dX7_toldCount_13 : decode cX7_toldCount 13 = .ok (.aload_n 0, 1) := by decide +kernel
theorem dX7_toldCount_14 : decode cX7_toldCount 14 = .ok (.getfield 34, 3) := by decide +kernel
theorem dX7_toldCount_17 : decode cX7_toldCount 17 = .ok (.iload_n 2, 1) := by decide +kernel
theorem dX7_toldCount_18 : decode cX7_toldCount 18 = .ok (.aaload, 1) := by decide +kernel
theorem dX7_toldCount_19 : decode cX7_toldCount 19 = .ok (.ifnull 6, 3) := by decide +kernel
theorem dX7_toldCount_22 : decode cX7_toldCount 22 = .ok (.iinc 1 1, 3) := by decide +kernel
theorem dX7_toldCount_25 : decode cX7_toldCount 25 = .ok (.iinc 2 1, 3) := by decide +kernel
theorem dX7_toldCount_28 : decode cX7_toldCount 28 = .ok (.goto (-24), 3) := by decide +kernel
theorem dX7_toldCount_31 : decode cX7_toldCount 31 = .ok (.iload_n 1, 1) := by decide +kernel
theorem dX7_toldCount_32 : decode cX7_toldCount 32 = .ok (.ireturn, 1) := by decide +kernel
theorem dX7_toldFor_0 : decode cX7_toldFor 0 = .ok (.iload_n 1, 1) := by decide +kernel
theorem dX7_toldFor_1 : decode cX7_toldFor 1 = .ok (.ifCond .lt 21, 3) := by decide +kernel
theorem dX7_toldFor_4 : decode cX7_toldFor 4 = .ok (.iload_n 1, 1) := by decide +kernel
theorem dX7_toldFor_5 : decode cX7_toldFor 5 = .ok (.aload_n 0, 1) := by decide +kernel
theorem dX7_toldFor_6 : decode cX7_toldFor 6 = .ok (.getfield 34, 3) := by decide +kernel
theorem dX7_toldFor_9 : decode cX7_toldFor 9 = .ok (.arraylength, 1) := by decide +kernel
theorem dX7_toldFor_10 : decode cX7_toldFor 10 = .ok (.if_icmp .ge 12, 3) := by decide +kernel
theorem dX7_toldFor_13 : decode cX7_toldFor 13 = .ok (.aload_n 0, 1) := by decide +kernel
theorem dX7_toldFor_14 : decode cX7_toldFor 14 = .ok (.getfield 34, 3) := by decide +kernel
theorem dX7_toldFor_17 : decode cX7_toldFor 17 = .ok (.iload_n 1, 1) := by decide +kernel
theorem dX7_toldFor_18 : decode cX7_toldFor 18 = .ok (.aaload, 1) := by decide +kernel
theorem dX7_toldFor_19 : decode cX7_toldFor 19 = .ok (.goto 4, 3) := by decide +kernel
theorem dX7_toldFor_22 : decode cX7_toldFor 22 = .ok (.aconst_null, 1) := by decide +kernel
theorem dX7_toldFor_23 : decode cX7_toldFor 23 = .ok (.areturn, 1) := by decide +kernel
theorem dX8_acts_0 : decode cX8_acts 0 = .ok (.aload_n 0, 1) := by decide +kernel
theorem dX8_acts_1 : decode cX8_acts 1 = .ok (.getfield 25, 3) := by decide +kernel
theorem dX8_acts_4 : decode cX8_acts 4 = .ok (.aload_n 0, 1) := by decide +kernel
theorem dX8_acts_5 : decode cX8_acts 5 = .ok (.getfield 21, 3) := by decide +kernel
theorem dX8_acts_8 : decode cX8_acts 8 = .ok (.invokevirtual 73, 3) := by decide +kernel
theorem dX8_acts_11 : decode cX8_acts 11 = .ok (.aload_n 0, 1) := by decide +kernel
theorem dX8_acts_12 : decode cX8_acts 12 = .ok (.getfield 55, 3) := by decide +kernel
theorem dX8_acts_15 : decode cX8_acts 15 = .ok (.aload_n 0, 1) := by decide +kernel
theorem dX8_acts_16 : decode cX8_acts 16 = .ok (.getfield 14, 3) := by decide +kernel
theorem dX8_acts_19 : decode cX8_acts 19 = .ok (.invokevirtual 77, 3) := by decide +kernel
theorem dX8_acts_22 : decode cX8_acts 22 = .ok (.iconst 0, 1) := by decide +kernel
theorem dX8_acts_23 : decode cX8_acts 23 = .ok (.istore_n 1, 1) := by decide +kernel
theorem dX8_acts_24 : decode cX8_acts 24 = .ok (.iconst (-1), 1) := by decide +kernel
theorem dX8_acts_25 : decode cX8_acts 25 = .ok (.istore_n 2, 1) := by decide +kernel
theorem dX8_acts_26 : decode cX8_acts 26 = .ok (.iconst 0, 1) := by decide +kernel
theorem dX8_acts_27 : decode cX8_acts 27 = .ok (.istore_n 3, 1) := by decide +kernel
theorem dX8_acts_28 : decode cX8_acts 28 = .ok (.iload_n 3, 1) := by decide +kernel
theorem dX8_acts_29 : decode cX8_acts 29 = .ok (.bipush 14, 2) := by decide +kernel
theorem dX8_acts_31 : decode cX8_acts 31 = .ok (.if_icmp .gt 119, 3) := by decide +kernel
theorem dX8_acts_34 : decode cX8_acts 34 = .ok (.aload_n 0, 1) := by decide +kernel
theorem dX8_acts_35 : decode cX8_acts 35 = .ok (.getfield 55, 3) := by decide +kernel
theorem dX8_acts_38 : decode cX8_acts 38 = .ok (.getfield 81, 3) := by decide +kernel
theorem dX8_acts_41 : decode cX8_acts 41 = .ok (.ifCond .eq 109, 3) := by decide +kernel
theorem dX8_acts_44 : decode cX8_acts 44 = .ok (.iload_n 2, 1) := by decide +kernel
theorem dX8_acts_45 : decode cX8_acts 45 = .ok (.iconst (-1), 1) := by decide +kernel
theorem dX8_acts_46 : decode cX8_acts 46 = .ok (.if_icmp .ne 104, 3) := by decide +kernel
theorem dX8_acts_49 : decode cX8_acts 49 = .ok (.aload_n 0, 1) := by decide +kernel
theorem dX8_acts_50 : decode cX8_acts 50 = .ok (.getfield 55, 3) := by decide +kernel
theorem dX8_acts_53 : decode cX8_acts 53 = .ok (.getfield 85, 3) := by decide +kernel
theorem dX8_acts_56 : decode cX8_acts 56 = .ok (.istore 4, 2) := by decide +kernel
theorem dX8_acts_58 : decode cX8_acts 58 = .ok (.iload_n 3, 1) := by decide +kernel
theorem dX8_acts_59 : decode cX8_acts 59 = .ok (.bipush 14, 2) := by decide +kernel
theorem dX8_acts_61 : decode cX8_acts 61 = .ok (.if_icmp .ge 13, 3) := by decide +kernel
theorem dX8_acts_64 : decode cX8_acts 64 = .ok (.aload_n 0, 1) := by decide +kernel
theorem dX8_acts_65 : decode cX8_acts 65 = .ok (.getfield 55, 3) := by decide +kernel
theorem dX8_acts_68 : decode cX8_acts 68 = .ok (.invokevirtual 88, 3) := by decide +kernel
theorem dX8_acts_71 : decode cX8_acts 71 = .ok (.goto 5, 3) := by decide +kernel
theorem dX8_acts_74 : decode cX8_acts 74 = .ok (.iload 4, 2) := by decide +kernel
theorem dX8_acts_76 : decode cX8_acts 76 = .ok (.istore_n 2, 1) := by decide +kernel
theorem dX8_acts_77 : decode cX8_acts 77 = .ok (.iload_n 2, 1) := by decide +kernel
theorem dX8_acts_78 : decode cX8_acts 78 = .ok (.iconst (-1), 1) := by decide +kernel
theorem dX8_acts_79 : decode cX8_acts 79 = .ok (.if_icmp .ne 65, 3) := by decide +kernel
theorem dX8_acts_82 : decode cX8_acts 82 = .ok (.aload_n 0, 1) := by decide +kernel
theorem dX8_acts_83 : decode cX8_acts 83 = .ok (.aload_n 0, 1) := by decide +kernel
theorem dX8_acts_84 : decode cX8_acts 84 = .ok (.getfield 55, 3) := by decide +kernel
theorem dX8_acts_87 : decode cX8_acts 87 = .ok (.getfield 91, 3) := by decide +kernel
theorem dX8_acts_90 : decode cX8_acts 90 = .ok (.aload_n 0, 1) := by decide +kernel
theorem dX8_acts_91 : decode cX8_acts 91 = .ok (.getfield 55, 3) := by decide +kernel
theorem dX8_acts_94 : decode cX8_acts 94 = .ok (.getfield 94, 3) := by decide +kernel
theorem dX8_acts_97 : decode cX8_acts 97 = .ok (.aload_n 0, 1) := by decide +kernel
theorem dX8_acts_98 : decode cX8_acts 98 = .ok (.getfield 55, 3) := by decide +kernel
theorem dX8_acts_101 : decode cX8_acts 101 = .ok (.getfield 97, 3) := by decide +kernel
theorem dX8_acts_104 : decode cX8_acts 104 = .ok (.aload_n 0, 1) := by decide +kernel
theorem dX8_acts_105 : decode cX8_acts 105 = .ok (.getfield 55, 3) := by decide +kernel
theorem dX8_acts_108 : decode cX8_acts 108 = .ok (.getfield 100, 3) := by decide +kernel
theorem dX8_acts_111 : decode cX8_acts 111 = .ok (.invokevirtual 103, 3) := by decide +kernel
theorem dX8_acts_114 : decode cX8_acts 114 = .ok (.istore 5, 2) := by decide +kernel
theorem dX8_acts_116 : decode cX8_acts 116 = .ok (.iload 5, 2) := by decide +kernel
theorem dX8_acts_118 : decode cX8_acts 118 = .ok (.ifCond .ne 17, 3) := by decide +kernel
theorem dX8_acts_121 : decode cX8_acts 121 = .ok (.iinc 1 1, 3) := by decide +kernel
theorem dX8_acts_124 : decode cX8_acts 124 = .ok (.aload_n 0, 1) := by decide +kernel
theorem dX8_acts_125 : decode cX8_acts 125 = .ok (.getfield 55, 3) := by decide +kernel
theorem dX8_acts_128 : decode cX8_acts 128 = .ok (.invokevirtual 107, 3) := by decide +kernel
theorem dX8_acts_131 : decode cX8_acts 131 = .ok (.istore_n 2, 1) := by decide +kernel
theorem dX8_acts_132 : decode cX8_acts 132 = .ok (.goto 12, 3) := by decide +kernel
theorem dX8_acts_135 : decode cX8_acts 135 = .ok (.aload_n 0, 1) := by decide +kernel
theorem dX8_acts_136 : decode cX8_acts 136 = .ok (.iload 5, 2) := by decide +kernel
theorem dX8_acts_138 : decode cX8_acts 138 = .ok (.putfield 110, 3) := by decide +kernel
theorem dX8_acts_141 : decode cX8_acts 141 = .ok (.iload 4, 2) := by decide +kernel
theorem dX8_acts_143 : decode cX8_acts 143 = .ok (.istore_n 2, 1) := by decide +kernel
theorem dX8_acts_144 : decode cX8_acts 144 = .ok (.iinc 3 1, 3) := by decide +kernel
theorem dX8_acts_147 : decode cX8_acts 147 = .ok (.goto (-119), 3) := by decide +kernel
theorem dX8_acts_150 : decode cX8_acts 150 = .ok (.aload_n 0, 1) := by decide +kernel
theorem dX8_acts_151 : decode cX8_acts 151 = .ok (.getfield 14, 3) := by decide +kernel
theorem dX8_acts_154 : decode cX8_acts 154 = .ok (.iconst 0, 1) := by decide +kernel
theorem dX8_acts_155 : decode cX8_acts 155 = .ok (.invokevirtual 70, 3) := by decide +kernel
theorem dX8_acts_158 : decode cX8_acts 158 = .ok (.aload_n 0, 1) := by decide +kernel
theorem dX8_acts_159 : decode cX8_acts 159 = .ok (.iload_n 2, 1) := by decide +kernel
theorem dX8_acts_160 : decode cX8_acts 160 = .ok (.putfield 59, 3) := by decide +kernel
theorem dX8_acts_163 : decode cX8_acts 163 = .ok (.iload_n 2, 1) := by decide +kernel
theorem dX8_acts_164 : decode cX8_acts 164 = .ok (.iconst (-1), 1) := by decide +kernel
theorem dX8_acts_165 : decode cX8_acts 165 = .ok (.if_icmp .eq 21, 3) := by decide +kernel
theorem dX8_acts_168 : decode cX8_acts 168 = .ok (.aload_n 0, 1) := by decide +kernel
theorem dX8_acts_169 : decode cX8_acts 169 = .ok (.aload_n 0, 1) := by decide +kernel
theorem dX8_acts_170 : decode cX8_acts 170 = .ok (.getfield 25, 3) := by decide +kernel
theorem dX8_acts_173 : decode cX8_acts 173 = .ok (.invokevirtual 113, 3) := by decide +kernel
theorem dX8_acts_176 : decode cX8_acts 176 = .ok (.new 116, 3) := by decide +kernel
theorem dX8_acts_179 : decode cX8_acts 179 = .ok (.dup, 1) := by decide +kernel
theorem dX8_acts_180 : decode cX8_acts 180 = .ok (.ldc 118, 2) := by decide +kernel
theorem dX8_acts_182 : decode cX8_acts 182 = .ok (.invokespecial 120, 3) := by decide +kernel
theorem dX8_acts_185 : decode cX8_acts 185 = .ok (.athrow, 1) := by decide +kernel
theorem dX8_acts_186 : decode cX8_acts 186 = .ok (.aload_n 0, 1) := by decide +kernel
theorem dX8_acts_187 : decode cX8_acts 187 = .ok (.iload_n 1, 1) := by decide +kernel
theorem dX8_acts_188 : decode cX8_acts 188 = .ok (.ifCond .le 7, 3) := by decide +kernel
theorem dX8_acts_191 : decode cX8_acts 191 = .ok (.iconst 0, 1) := by decide +kernel
theorem dX8_acts_192 : decode cX8_acts 192 = .ok (.goto 7, 3) := by decide +kernel
theorem dX8_acts_195 : decode cX8_acts 195 = .ok (.aload_n 0, 1) := by decide +kernel
theorem dX8_acts_196 : decode cX8_acts 196 = .ok (.getfield 110, 3) := by decide +kernel
theorem dX8_acts_199 : decode cX8_acts 199 = .ok (.putfield 110, 3) := by decide +kernel
theorem dX8_acts_202 : decode cX8_acts 202 = .ok (.aload_n 0, 1) := by decide +kernel
theorem dX8_acts_203 : decode cX8_acts 203 = .ok (.iconst 0, 1) := by decide +kernel
theorem dX8_acts_204 : decode cX8_acts 204 = .ok (.putfield 123, 3) := by decide +kernel
theorem dX8_acts_207 : decode cX8_acts 207 = .ok (.iload_n 1, 1) := by decide +kernel
theorem dX8_acts_208 : decode cX8_acts 208 = .ok (.ireturn, 1) := by decide +kernel
theorem dX8_addFour_0 : decode cX8_addFour 0 = .ok (.bipush 24, 2) := by decide +kernel
theorem dX8_addFour_2 : decode cX8_addFour 2 = .ok (.istore_n 2, 1) := by decide +kernel
theorem dX8_addFour_3 : decode cX8_addFour 3 = .ok (.iload_n 2, 1) := by decide +kernel
theorem dX8_addFour_4 : decode cX8_addFour 4 = .ok (.ifCond .lt 24, 3) := by decide +kernel
theorem dX8_addFour_7 : decode cX8_addFour 7 = .ok (.aload_n 0, 1) := by decide +kernel
theorem dX8_addFour_8 : decode cX8_addFour 8 = .ok (.getfield 14, 3) := by decide +kernel
theorem dX8_addFour_11 : decode cX8_addFour 11 = .ok (.iload_n 1, 1) := by decide +kernel
theorem dX8_addFour_12 : decode cX8_addFour 12 = .ok (.iload_n 2, 1) := by decide +kernel
theorem dX8_addFour_13 : decode cX8_addFour 13 = .ok (.iushr, 1) := by decide +kernel
theorem dX8_addFour_14 : decode cX8_addFour 14 = .ok (.sipush 255, 3) := by decide +kernel
theorem dX8_addFour_17 : decode cX8_addFour 17 = .ok (.iand, 1) := by decide +kernel
theorem dX8_addFour_18 : decode cX8_addFour 18 = .ok (.invokevirtual 314, 3) := by decide +kernel
theorem dX8_addFour_21 : decode cX8_addFour 21 = .ok (.pop, 1) := by decide +kernel
theorem dX8_addFour_22 : decode cX8_addFour 22 = .ok (.iinc 2 (-8), 3) := by decide +kernel
theorem dX8_addFour_25 : decode cX8_addFour 25 = .ok (.goto (-22), 3) := by decide +kernel
theorem dX8_addFour_28 : decode cX8_addFour 28 = .ok (.return_, 1) := by decide +kernel
theorem dX8_at_0 : decode cX8_at 0 = .ok (.iload_n 2, 1) := by decide +kernel
theorem dX8_at_1 : decode cX8_at 1 = .ok (.ifCond .eq 17, 3) := by decide +kernel
theorem dX8_at_4 : decode cX8_at 4 = .ok (.aload_n 0, 1) := by decide +kernel
theorem dX8_at_5 : decode cX8_at 5 = .ok (.getfield 48, 3) := by decide +kernel
theorem dX8_at_8 : decode cX8_at 8 = .ok (.getfield 160, 3) := by decide +kernel
theorem dX8_at_11 : decode cX8_at 11 = .ok (.iload_n 1, 1) := by decide +kernel
theorem dX8_at_12 : decode cX8_at 12 = .ok (.invokevirtual 227, 3) := by decide +kernel
theorem dX8_at_15 : decode cX8_at 15 = .ok (.goto 14, 3) := by decide +kernel
theorem dX8_at_18 : decode cX8_at 18 = .ok (.aload_n 0, 1) := by decide +kernel
theorem dX8_at_19 : decode cX8_at 19 = .ok (.getfield 21, 3) := by decide +kernel
theorem dX8_at_22 : decode cX8_at 22 = .ok (.getfield 130, 3) := by decide +kernel
theorem dX8_at_25 : decode cX8_at 25 = .ok (.iload_n 1, 1) := by decide +kernel
theorem dX8_at_26 : decode cX8_at 26 = .ok (.invokevirtual 227, 3) := by decide +kernel
theorem dX8_at_29 : decode cX8_at 29 = .ok (.ireturn, 1) := by decide +kernel
theorem dX8_back_0 : decode cX8_back 0 = .ok (.aload_n 0, 1) := by decide +kernel
theorem dX8_back_1 : decode cX8_back 1 = .ok (.getfield 287, 3) := by decide +kernel
theorem dX8_back_4 : decode cX8_back 4 = .ok (.ifCond .ne 5, 3) := by decide +kernel
theorem dX8_back_7 : decode cX8_back 7 = .ok (.iconst 0, 1) := by decide +kernel
theorem dX8_back_8 : decode cX8_back 8 = .ok (.ireturn, 1) := by decide +kernel
theorem dX8_back_9 : decode cX8_back 9 = .ok (.aload_n 0, 1) := by decide +kernel
theorem dX8_back_10 : decode cX8_back 10 = .ok (.aload_n 0, 1) := by decide +kernel
theorem dX8_back_11 : decode cX8_back 11 = .ok (.getfield 28, 3) := by decide +kernel
theorem dX8_back_14 : decode cX8_back 14 = .ok (.invokevirtual 113, 3) := by decide +kernel
theorem dX8_back_17 : decode cX8_back 17 = .ok (.aload_n 0, 1) := by decide +kernel
theorem dX8_back_18 : decode cX8_back 18 = .ok (.iconst 0, 1) := by decide +kernel
theorem dX8_back_19 : decode cX8_back 19 = .ok (.putfield 123, 3) := by decide +kernel
theorem dX8_back_22 : decode cX8_back 22 = .ok (.iconst 1, 1) := by decide +kernel
theorem dX8_back_23 : decode cX8_back 23 = .ok (.ireturn, 1) := by decide +kernel
theorem dX8_copyOfNow_0 : decode cX8_copyOfNow 0 = .ok (.aload_n 0, 1) := by decide +kernel
theorem dX8_copyOfNow_1 : decode cX8_copyOfNow 1 = .ok (.getfield 21, 3) := by decide +kernel
theorem dX8_copyOfNow_4 : decode cX8_copyOfNow 4 = .ok (.iload_n 1, 1) := by decide +kernel
theorem dX8_copyOfNow_5 : decode cX8_copyOfNow 5 = .ok (.invokevirtual 194, 3) := by decide +kernel
theorem dX8_copyOfNow_8 : decode cX8_copyOfNow 8 = .ok (.astore_n 3, 1) := by decide +kernel
theorem dX8_copyOfNow_9 : decode cX8_copyOfNow 9 = .ok (.aload_n 3, 1) := by decide +kernel
theorem dX8_copyOfNow_10 : decode cX8_copyOfNow 10 = .ok (.ifnonnull 24, 3) := by decide +kernel
theorem dX8_copyOfNow_13 : decode cX8_copyOfNow 13 = .ok (.aload_n 0, 1) := by decide +kernel
theorem dX8_copyOfNow_14 : decode cX8_copyOfNow 14 = .ok (.getfield 38, 3) := by decide +kernel
theorem dX8_copyOfNow_17 : decode cX8_copyOfNow 17 = .ok (.getfield 373, 3) := by decide +kernel
theorem dX8_copyOfNow_20 : decode cX8_copyOfNow 20 = .ok (.aload_n 2, 1) := by decide +kernel
theorem dX8_copyOfNow_21 : decode cX8_copyOfNow 21 = .ok (.getfield 224, 3) := by decide +kernel
theorem dX8_copyOfNow_24 : decode cX8_copyOfNow 24 = .ok (.aload_n 2, 1) := by decide +kernel
theorem dX8_copyOfNow_25 : decode cX8_copyOfNow 25 = .ok (.getfield 187, 3) := by decide +kernel
theorem dX8_copyOfNow_28 : decode cX8_copyOfNow 28 = .ok (.invokevirtual 126, 3) := by decide +kernel
theorem dX8_copyOfNow_31 : decode cX8_copyOfNow 31 = .ok (.goto 4, 3) := by decide +kernel
theorem dX8_copyOfNow_34 : decode cX8_copyOfNow 34 = .ok (.aload_n 3, 1) := by decide +kernel
theorem dX8_copyOfNow_35 : decode cX8_copyOfNow 35 = .ok (.areturn, 1) := by decide +kernel
theorem dX8_count_0 : decode cX8_count 0 = .ok (.iload_n 1, 1) := by decide +kernel
theorem dX8_count_1 : decode cX8_count 1 = .ok (.tableswitch 214 0 14 #[75, 86, 94, 102, 110, 118, 129, 148, 164, 172, 180, 188, 193, 201, 209], 75) := by decide +kernel
theorem dX8_count_76 : decode cX8_count 76 = .ok (.aload_n 0, 1) := by decide +kernel
theorem dX8_count_77 : decode cX8_count 77 = .ok (.getfield 21, 3) := by decide +kernel
theorem dX8_count_80 : decode cX8_count 80 = .ok (.getfield 130, 3) := by decide +kernel
theorem dX8_count_83 : decode cX8_count 83 = .ok (.invokevirtual 63, 3) := by decide +kernel
theorem dX8_count_86 : decode cX8_count 86 = .ok (.ireturn, 1) := by decide +kernel
theorem dX8_count_87 : decode cX8_count 87 = .ok (.aload_n 0, 1) := by decide +kernel
theorem dX8_count_88 : decode cX8_count 88 = .ok (.getfield 21, 3) := by decide +kernel
theorem dX8_count_91 : decode cX8_count 91 = .ok (.getfield 232, 3) := by decide +kernel
theorem dX8_count_94 : decode cX8_count 94 = .ok (.ireturn, 1) := by decide +kernel
theorem dX8_count_95 : decode cX8_count 95 = .ok (.aload_n 0, 1) := by decide +kernel
theorem dX8_count_96 : decode cX8_count 96 = .ok (.getfield 21, 3) := by decide +kernel
theorem dX8_count_99 : decode cX8_count 99 = .ok (.getfield 290, 3) := by decide +kernel
theorem dX8_count_102 : decode cX8_count 102 = .ok (.ireturn, 1) := by decide +kernel
theorem dX8_count_103 : decode cX8_count 103 = .ok (.aload_n 0, 1) := by decide +kernel
theorem dX8_count_104 : decode cX8_count 104 = .ok (.getfield 38, 3) := by decide +kernel
theorem dX8_count_107 : decode cX8_count 107 = .ok (.invokevirtual 136, 3) := by decide +kernel
theorem dX8_count_110 : decode cX8_count 110 = .ok (.ireturn, 1) := by decide +kernel
theorem dX8_count_111 : decode cX8_count 111 = .ok (.aload_n 0, 1) := by decide +kernel
theorem dX8_count_112 : decode cX8_count 112 = .ok (.getfield 21, 3) := by decide +kernel
theorem dX8_count_115 : decode cX8_count 115 = .ok (.invokevirtual 167, 3) := by decide +kernel
theorem dX8_count_118 : decode cX8_count 118 = .ok (.ireturn, 1) := by decide +kernel
theorem dX8_count_119 : decode cX8_count 119 = .ok (.aload_n 0, 1) := by decide +kernel
theorem dX8_count_120 : decode cX8_count 120 = .ok (.getfield 48, 3) := by decide +kernel
theorem dX8_count_123 : decode cX8_count 123 = .ok (.getfield 160, 3) := by decide +kernel
theorem dX8_count_126 : decode cX8_count 126 = .ok (.invokevirtual 63, 3) := by decide +kernel
theorem dX8_count_129 : decode cX8_count 129 = .ok (.ireturn, 1) := by decide +kernel
theorem dX8_count_130 : decode cX8_count 130 = .ok (.aload_n 0, 1) := by decide +kernel
theorem dX8_count_131 : decode cX8_count 131 = .ok (.getfield 21, 3) := by decide +kernel
theorem dX8_count_134 : decode cX8_count 134 = .ok (.getfield 130, 3) := by decide +kernel
theorem dX8_count_137 : decode cX8_count 137 = .ok (.invokevirtual 63, 3) := by decide +kernel
theorem dX8_count_140 : decode cX8_count 140 = .ok (.aload_n 0, 1) := by decide +kernel
theorem dX8_count_141 : decode cX8_count 141 = .ok (.getfield 38, 3) := by decide +kernel
theorem dX8_count_144 : decode cX8_count 144 = .ok (.invokevirtual 293, 3) := by decide +kernel
theorem dX8_count_147 : decode cX8_count 147 = .ok (.isub, 1) := by decide +kernel
theorem dX8_count_148 : decode cX8_count 148 = .ok (.ireturn, 1) := by decide +kernel
theorem dX8_count_149 : decode cX8_count 149 = .ok (.aload_n 0, 1) := by decide +kernel
theorem dX8_count_150 : decode cX8_count 150 = .ok (.getfield 21, 3) := by decide +kernel
theorem dX8_count_153 : decode cX8_count 153 = .ok (.getfield 296, 3) := by decide +kernel
theorem dX8_count_156 : decode cX8_count 156 = .ok (.ifCond .eq 7, 3) := by decide +kernel
theorem dX8_count_159 : decode cX8_count 159 = .ok (.iconst 1, 1) := by decide +kernel
theorem dX8_count_160 : decode cX8_count 160 = .ok (.goto 4, 3) := by decide +kernel
theorem dX8_count_163 : decode cX8_count 163 = .ok (.iconst 0, 1) := by decide +kernel
theorem dX8_count_164 : decode cX8_count 164 = .ok (.ireturn, 1) := by decide +kernel
theorem dX8_count_165 : decode cX8_count 165 = .ok (.aload_n 0, 1) := by decide +kernel
theorem dX8_count_166 : decode cX8_count 166 = .ok (.getfield 21, 3) := by decide +kernel
theorem dX8_count_169 : decode cX8_count 169 = .ok (.getfield 299, 3) := by decide +kernel
theorem dX8_count_172 : decode cX8_count 172 = .ok (.ireturn, 1) := by decide +kernel
theorem dX8_count_173 : decode cX8_count 173 = .ok (.aload_n 0, 1) := by decide +kernel
theorem dX8_count_174 : decode cX8_count 174 = .ok (.getfield 21, 3) := by decide +kernel
theorem dX8_count_177 : decode cX8_count 177 = .ok (.getfield 302, 3) := by decide +kernel
theorem dX8_count_180 : decode cX8_count 180 = .ok (.ireturn, 1) := by decide +kernel
theorem dX8_count_181 : decode cX8_count 181 = .ok (.aload_n 0, 1) := by decide +kernel
theorem dX8_count_182 : decode cX8_count 182 = .ok (.getfield 38, 3) := by decide +kernel
theorem dX8_count_185 : decode cX8_count 185 = .ok (.invokevirtual 305, 3) := by decide +kernel
theorem dX8_count_188 : decode cX8_count 188 = .ok (.ireturn, 1) := by decide +kernel
theorem dX8_count_189 : decode cX8_count 189 = .ok (.aload_n 0, 1) := by decide +kernel
theorem dX8_count_190 : decode cX8_count 190 = .ok (.invokevirtual 308, 3) := by decide +kernel
theorem dX8_count_193 : decode cX8_count 193 = .ok (.ireturn, 1) := by decide +kernel
theorem dX8_count_194 : decode cX8_count 194 = .ok (.aload_n 0, 1) := by decide +kernel
theorem dX8_count_195 : decode cX8_count 195 = .ok (.getfield 21, 3) := by decide +kernel
theorem dX8_count_198 : decode cX8_count 198 = .ok (.getfield 258, 3) := by decide +kernel
theorem dX8_count_201 : decode cX8_count 201 = .ok (.ireturn, 1) := by decide +kernel
theorem dX8_count_202 : decode cX8_count 202 = .ok (.aload_n 0, 1) := by decide +kernel
theorem dX8_count_203 : decode cX8_count 203 = .ok (.getfield 38, 3) := by decide +kernel
theorem dX8_count_206 : decode cX8_count 206 = .ok (.invokevirtual 311, 3) := by decide +kernel
theorem dX8_count_209 : decode cX8_count 209 = .ok (.ireturn, 1) := by decide +kernel
theorem dX8_count_210 : decode cX8_count 210 = .ok (.aload_n 0, 1) := by decide +kernel
theorem dX8_count_211 : decode cX8_count 211 = .ok (.getfield 123, 3) := by decide +kernel
theorem dX8_count_214 : decode cX8_count 214 = .ok (.ireturn, 1) := by decide +kernel
theorem dX8_count_215 : decode cX8_count 215 = .ok (.iconst (-1), 1) := by decide +kernel
theorem dX8_count_216 : decode cX8_count 216 = .ok (.ireturn, 1) := by decide +kernel
theorem dX8_countAllWords_0 : decode cX8_countAllWords 0 = .ok (.iconst 0, 1) := by decide +kernel
theorem dX8_countAllWords_1 : decode cX8_countAllWords 1 = .ok (.istore_n 1, 1) := by decide +kernel
theorem dX8_countAllWords_2 : decode cX8_countAllWords 2 = .ok (.iconst 0, 1) := by decide +kernel
theorem dX8_countAllWords_3 : decode cX8_countAllWords 3 = .ok (.istore_n 2, 1) := by decide +kernel
theorem dX8_countAllWords_4 : decode cX8_countAllWords 4 = .ok (.iload_n 2, 1) := by decide +kernel
theorem dX8_countAllWords_5 : decode cX8_countAllWords 5 = .ok (.aload_n 0, 1) := by decide +kernel
theorem dX8_countAllWords_6 : decode cX8_countAllWords 6 = .ok (.getfield 38, 3) := by decide +kernel
theorem dX8_countAllWords_9 : decode cX8_countAllWords 9 = .ok (.invokevirtual 136, 3) := by decide +kernel
theorem dX8_countAllWords_12 : decode cX8_countAllWords 12 = .ok (.if_icmp .ge 31, 3) := by decide +kernel
theorem dX8_countAllWords_15 : decode cX8_countAllWords 15 = .ok (.aload_n 0, 1) := by decide +kernel
theorem dX8_countAllWords_16 : decode cX8_countAllWords 16 = .ok (.getfield 38, 3) := by decide +kernel
theorem dX8_countAllWords_19 : decode cX8_countAllWords 19 = .ok (.iload_n 2, 1) := by decide +kernel
theorem dX8_countAllWords_20 : decode cX8_countAllWords 20 = .ok (.invokevirtual 241, 3) := by decide +kernel
theorem dX8_countAllWords_23 : decode cX8_countAllWords 23 = .ok (.astore_n 3, 1) := by decide +kernel
theorem dX8_countAllWords_24 : decode cX8_countAllWords 24 = .ok (.aload_n 3, 1) := by decide +kernel
theorem dX8_countAllWords_25 : decode cX8_countAllWords 25 = .ok (.ifnull 12, 3) := by decide +kernel
theorem dX8_countAllWords_28 : decode cX8_countAllWords 28 = .ok (.iload_n 1, 1) := by decide +kernel
theorem dX8_countAllWords_29 : decode cX8_countAllWords 29 = .ok (.aload_n 0, 1) := by decide +kernel
theorem dX8_countAllWords_30 : decode cX8_countAllWords 30 = .ok (.iload_n 2, 1) := by decide +kernel
theorem dX8_countAllWords_31 : decode cX8_countAllWords 31 = .ok (.aload_n 3, 1) := by decide +kernel
theorem dX8_countAllWords_32 : decode cX8_countAllWords 32 = .ok (.invokevirtual 198, 3) := by decide +kernel
theorem dX8_countAllWords_35 : decode cX8_countAllWords 35 = .ok (.iadd, 1) := by decide +kernel
theorem dX8_countAllWords_36 : decode cX8_countAllWords 36 = .ok (.istore_n 1, 1) := by decide +kernel
theorem dX8_countAllWords_37 : decode cX8_countAllWords 37 = .ok (.iinc 2 1, 3) := by decide +kernel
theorem dX8_countAllWords_40 : decode cX8_countAllWords 40 = .ok (.goto (-36), 3) := by decide +kernel
theorem dX8_countAllWords_43 : decode cX8_countAllWords 43 = .ok (.iload_n 1, 1) := by decide +kernel
theorem dX8_countAllWords_44 : decode cX8_countAllWords 44 = .ok (.ireturn, 1) := by decide +kernel
theorem dX8_countWords_0 : decode cX8_countWords 0 = .ok (.aload_n 0, 1) := by decide +kernel
theorem dX8_countWords_1 : decode cX8_countWords 1 = .ok (.getfield 21, 3) := by decide +kernel
theorem dX8_countWords_4 : decode cX8_countWords 4 = .ok (.iload_n 1, 1) := by decide +kernel
theorem dX8_countWords_5 : decode cX8_countWords 5 = .ok (.invokevirtual 194, 3) := by decide +kernel
theorem dX8_countWords_8 : decode cX8_countWords 8 = .ok (.astore_n 3, 1) := by decide +kernel
theorem dX8_countWords_9 : decode cX8_countWords 9 = .ok (.aload_n 3, 1) := by decide +kernel
theorem dX8_countWords_10 : decode cX8_countWords 10 = .ok (.ifnonnull 24, 3) := by decide +kernel
theorem dX8_countWords_13 : decode cX8_countWords 13 = .ok (.aload_n 0, 1) := by decide +kernel
theorem dX8_countWords_14 : decode cX8_countWords 14 = .ok (.getfield 38, 3) := by decide +kernel
theorem dX8_countWords_17 : decode cX8_countWords 17 = .ok (.getfield 373, 3) := by decide +kernel
theorem dX8_countWords_20 : decode cX8_countWords 20 = .ok (.aload_n 2, 1) := by decide +kernel
theorem dX8_countWords_21 : decode cX8_countWords 21 = .ok (.getfield 224, 3) := by decide +kernel
theorem dX8_countWords_24 : decode cX8_countWords 24 = .ok (.aload_n 2, 1) := by decide +kernel
theorem dX8_countWords_25 : decode cX8_countWords 25 = .ok (.getfield 187, 3) := by decide +kernel
theorem dX8_countWords_28 : decode cX8_countWords 28 = .ok (.invokevirtual 386, 3) := by decide +kernel
theorem dX8_countWords_31 : decode cX8_countWords 31 = .ok (.goto 12, 3) := by decide +kernel
theorem dX8_countWords_34 : decode cX8_countWords 34 = .ok (.aload_n 3, 1) := by decide +kernel
theorem dX8_countWords_35 : decode cX8_countWords 35 = .ok (.iconst 0, 1) := by decide +kernel
theorem dX8_countWords_36 : decode cX8_countWords 36 = .ok (.aload_n 3, 1) := by decide +kernel
theorem dX8_countWords_37 : decode cX8_countWords 37 = .ok (.invokevirtual 63, 3) := by decide +kernel
theorem dX8_countWords_40 : decode cX8_countWords 40 = .ok (.invokevirtual 386, 3) := by decide +kernel
theorem dX8_countWords_43 : decode cX8_countWords 43 = .ok (.ireturn, 1) := by decide +kernel
theorem dX8_cutAgain_0 : decode cX8_cutAgain 0 = .ok (.aload_n 0, 1) := by decide +kernel
theorem dX8_cutAgain_1 : decode cX8_cutAgain 1 = .ok (.getfield 334, 3) := by decide +kernel
theorem dX8_cutAgain_4 : decode cX8_cutAgain 4 = .ok (.ifCond .ne 26, 3) := by decide +kernel
theorem dX8_cutAgain_7 : decode cX8_cutAgain 7 = .ok (.aload_n 0, 1) := by decide +kernel
theorem dX8_cutAgain_8 : decode cX8_cutAgain 8 = .ok (.getfield 42, 3) := by decide +kernel
theorem dX8_cutAgain_11 : decode cX8_cutAgain 11 = .ok (.aload_n 0, 1) := by decide +kernel
theorem dX8_cutAgain_12 : decode cX8_cutAgain 12 = .ok (.getfield 48, 3) := by decide +kernel
theorem dX8_cutAgain_15 : decode cX8_cutAgain 15 = .ok (.getfield 160, 3) := by decide +kernel
theorem dX8_cutAgain_18 : decode cX8_cutAgain 18 = .ok (.aload_n 0, 1) := by decide +kernel
theorem dX8_cutAgain_19 : decode cX8_cutAgain 19 = .ok (.getfield 21, 3) := by decide +kernel
theorem dX8_cutAgain_22 : decode cX8_cutAgain 22 = .ok (.invokevirtual 361, 3) := by decide +kernel
theorem dX8_cutAgain_25 : decode cX8_cutAgain 25 = .ok (.aload_n 0, 1) := by decide +kernel
theorem dX8_cutAgain_26 : decode cX8_cutAgain 26 = .ok (.iconst 1, 1) := by decide +kernel
theorem dX8_cutAgain_27 : decode cX8_cutAgain 27 = .ok (.putfield 334, 3) := by decide +kernel
theorem dX8_cutAgain_30 : decode cX8_cutAgain 30 = .ok (.return_, 1) := by decide +kernel
theorem dX8_cutAnew_0 : decode cX8_cutAnew 0 = .ok (.aload_n 0, 1) := by decide +kernel
theorem dX8_cutAnew_1 : decode cX8_cutAnew 1 = .ok (.iconst 0, 1) := by decide +kernel
theorem dX8_cutAnew_2 : decode cX8_cutAnew 2 = .ok (.putfield 334, 3) := by decide +kernel
theorem dX8_cutAnew_5 : decode cX8_cutAnew 5 = .ok (.aload_n 0, 1) := by decide +kernel
theorem dX8_cutAnew_6 : decode cX8_cutAnew 6 = .ok (.getfield 21, 3) := by decide +kernel
theorem dX8_cutAnew_9 : decode cX8_cutAnew 9 = .ok (.invokevirtual 358, 3) := by decide +kernel
theorem dX8_cutAnew_12 : decode cX8_cutAnew 12 = .ok (.aload_n 0, 1) := by decide +kernel
theorem dX8_cutAnew_13 : decode cX8_cutAnew 13 = .ok (.getfield 38, 3) := by decide +kernel
theorem dX8_cutAnew_16 : decode cX8_cutAnew 16 = .ok (.aload_n 0, 1) := by decide +kernel
theorem dX8_cutAnew_17 : decode cX8_cutAnew 17 = .ok (.getfield 21, 3) := by decide +kernel
theorem dX8_cutAnew_20 : decode cX8_cutAnew 20 = .ok (.getfield 130, 3) := by decide +kernel
theorem dX8_cutAnew_23 : decode cX8_cutAnew 23 = .ok (.aload_n 0, 1) := by decide +kernel
theorem dX8_cutAnew_24 : decode cX8_cutAnew 24 = .ok (.getfield 21, 3) := by decide +kernel
theorem dX8_cutAnew_27 : decode cX8_cutAnew 27 = .ok (.invokevirtual 361, 3) := by decide +kernel
theorem dX8_cutAnew_30 : decode cX8_cutAnew 30 = .ok (.aload_n 0, 1) := by decide +kernel
theorem dX8_cutAnew_31 : decode cX8_cutAnew 31 = .ok (.getfield 48, 3) := by decide +kernel
theorem dX8_cutAnew_34 : decode cX8_cutAnew 34 = .ok (.aload_n 0, 1) := by decide +kernel
theorem dX8_cutAnew_35 : decode cX8_cutAnew 35 = .ok (.getfield 21, 3) := by decide +kernel
theorem dX8_cutAnew_38 : decode cX8_cutAnew 38 = .ok (.aload_n 0, 1) := by decide +kernel
theorem dX8_cutAnew_39 : decode cX8_cutAnew 39 = .ok (.getfield 38, 3) := by decide +kernel
theorem dX8_cutAnew_42 : decode cX8_cutAnew 42 = .ok (.invokevirtual 365, 3) := by decide +kernel
theorem dX8_cutAnew_45 : decode cX8_cutAnew 45 = .ok (.pop, 1) := by decide +kernel
theorem dX8_cutAnew_46 : decode cX8_cutAnew 46 = .ok (.iconst 0, 1) := by decide +kernel
theorem dX8_cutAnew_47 : decode cX8_cutAnew 47 = .ok (.ireturn, 1) := by decide +kernel
theorem dX8_doAct_0 : decode cX8_doAct 0 = .ok (.aload_n 0, 1) := by decide +kernel
theorem dX8_doAct_1 : decode cX8_doAct 1 = .ok (.iconst 0, 1) := by decide +kernel
theorem dX8_doAct_2 : decode cX8_doAct 2 = .ok (.putfield 334, 3) := by decide +kernel
theorem dX8_doAct_5 : decode cX8_doAct 5 = .ok (.iload_n 1, 1) := by decide +kernel
theorem dX8_doAct_6 : decode cX8_doAct 6 = .ok (.tableswitch 203 0 11 #[62, 75, 88, 101, 114, 127, 140, 166, 179, 185, 191, 198], 62) := by decide +kernel
theorem dX8_doAct_68 : decode cX8_doAct 68 = .ok (.aload_n 0, 1) := by decide +kernel
theorem dX8_doAct_69 : decode cX8_doAct 69 = .ok (.getfield 21, 3) := by decide +kernel
theorem dX8_doAct_72 : decode cX8_doAct 72 = .ok (.iload_n 2, 1) := by decide +kernel
theorem dX8_doAct_73 : decode cX8_doAct 73 = .ok (.putfield 232, 3) := by decide +kernel
theorem dX8_doAct_76 : decode cX8_doAct 76 = .ok (.aload_n 0, 1) := by decide +kernel
theorem dX8_doAct_77 : decode cX8_doAct 77 = .ok (.invokevirtual 133, 3) := by decide +kernel
theorem dX8_doAct_80 : decode cX8_doAct 80 = .ok (.ireturn, 1) := by decide +kernel
theorem dX8_doAct_81 : decode cX8_doAct 81 = .ok (.aload_n 0, 1) := by decide +kernel
theorem dX8_doAct_82 : decode cX8_doAct 82 = .ok (.getfield 21, 3) := by decide +kernel
theorem dX8_doAct_85 : decode cX8_doAct 85 = .ok (.iload_n 2, 1) := by decide +kernel
theorem dX8_doAct_86 : decode cX8_doAct 86 = .ok (.putfield 290, 3) := by decide +kernel
theorem dX8_doAct_89 : decode cX8_doAct 89 = .ok (.aload_n 0, 1) := by decide +kernel
theorem dX8_doAct_90 : decode cX8_doAct 90 = .ok (.invokevirtual 133, 3) := by decide +kernel
theorem dX8_doAct_93 : decode cX8_doAct 93 = .ok (.ireturn, 1) := by decide +kernel
theorem dX8_doAct_94 : decode cX8_doAct 94 = .ok (.aload_n 0, 1) := by decide +kernel
theorem dX8_doAct_95 : decode cX8_doAct 95 = .ok (.getfield 21, 3) := by decide +kernel
theorem dX8_doAct_98 : decode cX8_doAct 98 = .ok (.iconst (-1), 1) := by decide +kernel
theorem dX8_doAct_99 : decode cX8_doAct 99 = .ok (.putfield 290, 3) := by decide +kernel
theorem dX8_doAct_102 : decode cX8_doAct 102 = .ok (.aload_n 0, 1) := by decide +kernel
theorem dX8_doAct_103 : decode cX8_doAct 103 = .ok (.invokevirtual 133, 3) := by decide +kernel
theorem dX8_doAct_106 : decode cX8_doAct 106 = .ok (.ireturn, 1) := by decide +kernel
theorem dX8_doAct_107 : decode cX8_doAct 107 = .ok (.aload_n 0, 1) := by decide +kernel
theorem dX8_doAct_108 : decode cX8_doAct 108 = .ok (.getfield 21, 3) := by decide +kernel
theorem dX8_doAct_111 : decode cX8_doAct 111 = .ok (.iconst 1, 1) := by decide +kernel
theorem dX8_doAct_112 : decode cX8_doAct 112 = .ok (.putfield 296, 3) := by decide +kernel
theorem dX8_doAct_115 : decode cX8_doAct 115 = .ok (.aload_n 0, 1) := by decide +kernel
theorem dX8_doAct_116 : decode cX8_doAct 116 = .ok (.invokevirtual 133, 3) := by decide +kernel
theorem dX8_doAct_119 : decode cX8_doAct 119 = .ok (.ireturn, 1) := by decide +kernel
theorem dX8_doAct_120 : decode cX8_doAct 120 = .ok (.aload_n 0, 1) := by decide +kernel
theorem dX8_doAct_121 : decode cX8_doAct 121 = .ok (.getfield 21, 3) := by decide +kernel
theorem dX8_doAct_124 : decode cX8_doAct 124 = .ok (.iconst 0, 1) := by decide +kernel
theorem dX8_doAct_125 : decode cX8_doAct 125 = .ok (.putfield 296, 3) := by decide +kernel
theorem dX8_doAct_128 : decode cX8_doAct 128 = .ok (.aload_n 0, 1) := by decide +kernel
theorem dX8_doAct_129 : decode cX8_doAct 129 = .ok (.invokevirtual 133, 3) := by decide +kernel
theorem dX8_doAct_132 : decode cX8_doAct 132 = .ok (.ireturn, 1) := by decide +kernel
theorem dX8_doAct_133 : decode cX8_doAct 133 = .ok (.aload_n 0, 1) := by decide +kernel
theorem dX8_doAct_134 : decode cX8_doAct 134 = .ok (.getfield 21, 3) := by decide +kernel
theorem dX8_doAct_137 : decode cX8_doAct 137 = .ok (.iload_n 2, 1) := by decide +kernel
theorem dX8_doAct_138 : decode cX8_doAct 138 = .ok (.putfield 299, 3) := by decide +kernel
theorem dX8_doAct_141 : decode cX8_doAct 141 = .ok (.aload_n 0, 1) := by decide +kernel
theorem dX8_doAct_142 : decode cX8_doAct 142 = .ok (.invokevirtual 133, 3) := by decide +kernel
theorem dX8_doAct_145 : decode cX8_doAct 145 = .ok (.ireturn, 1) := by decide +kernel
theorem dX8_doAct_146 : decode cX8_doAct 146 = .ok (.aload_n 0, 1) := by decide +kernel
theorem dX8_doAct_147 : decode cX8_doAct 147 = .ok (.getfield 21, 3) := by decide +kernel
theorem dX8_doAct_150 : decode cX8_doAct 150 = .ok (.aload 4, 2) := by decide +kernel
theorem dX8_doAct_152 : decode cX8_doAct 152 = .ok (.invokevirtual 337, 3) := by decide +kernel
theorem dX8_doAct_155 : decode cX8_doAct 155 = .ok (.istore 5, 2) := by decide +kernel
theorem dX8_doAct_157 : decode cX8_doAct 157 = .ok (.iload 5, 2) := by decide +kernel
theorem dX8_doAct_159 : decode cX8_doAct 159 = .ok (.ifCond .ne 10, 3) := by decide +kernel
theorem dX8_doAct_162 : decode cX8_doAct 162 = .ok (.aload_n 0, 1) := by decide +kernel
theorem dX8_doAct_163 : decode cX8_doAct 163 = .ok (.invokevirtual 133, 3) := by decide +kernel
theorem dX8_doAct_166 : decode cX8_doAct 166 = .ok (.goto 5, 3) := by decide +kernel
theorem dX8_doAct_169 : decode cX8_doAct 169 = .ok (.iload 5, 2) := by decide +kernel
theorem dX8_doAct_171 : decode cX8_doAct 171 = .ok (.ireturn, 1) := by decide +kernel
theorem dX8_doAct_172 : decode cX8_doAct 172 = .ok (.aload_n 0, 1) := by decide +kernel
theorem dX8_doAct_173 : decode cX8_doAct 173 = .ok (.getfield 21, 3) := by decide +kernel
theorem dX8_doAct_176 : decode cX8_doAct 176 = .ok (.iconst 0, 1) := by decide +kernel
theorem dX8_doAct_177 : decode cX8_doAct 177 = .ok (.putfield 302, 3) := by decide +kernel
theorem dX8_doAct_180 : decode cX8_doAct 180 = .ok (.aload_n 0, 1) := by decide +kernel
theorem dX8_doAct_181 : decode cX8_doAct 181 = .ok (.invokevirtual 133, 3) := by decide +kernel
theorem dX8_doAct_184 : decode cX8_doAct 184 = .ok (.ireturn, 1) := by decide +kernel
theorem dX8_doAct_185 : decode cX8_doAct 185 = .ok (.aload_n 0, 1) := by decide +kernel
theorem dX8_doAct_186 : decode cX8_doAct 186 = .ok (.iload_n 2, 1) := by decide +kernel
theorem dX8_doAct_187 : decode cX8_doAct 187 = .ok (.invokevirtual 341, 3) := by decide +kernel
theorem dX8_doAct_190 : decode cX8_doAct 190 = .ok (.ireturn, 1) := by decide +kernel
theorem dX8_doAct_191 : decode cX8_doAct 191 = .ok (.aload_n 0, 1) := by decide +kernel
theorem dX8_doAct_192 : decode cX8_doAct 192 = .ok (.iload_n 2, 1) := by decide +kernel
theorem dX8_doAct_193 : decode cX8_doAct 193 = .ok (.invokevirtual 344, 3) := by decide +kernel
theorem dX8_doAct_196 : decode cX8_doAct 196 = .ok (.ireturn, 1) := by decide +kernel
theorem dX8_doAct_197 : decode cX8_doAct 197 = .ok (.aload_n 0, 1) := by decide +kernel
theorem dX8_doAct_198 : decode cX8_doAct 198 = .ok (.iload_n 2, 1) := by decide +kernel
theorem dX8_doAct_199 : decode cX8_doAct 199 = .ok (.iload_n 3, 1) := by decide +kernel
theorem dX8_doAct_200 : decode cX8_doAct 200 = .ok (.invokevirtual 347, 3) := by decide +kernel
theorem dX8_doAct_203 : decode cX8_doAct 203 = .ok (.ireturn, 1) := by decide +kernel
theorem dX8_doAct_204 : decode cX8_doAct 204 = .ok (.aload_n 0, 1) := by decide +kernel
theorem dX8_doAct_205 : decode cX8_doAct 205 = .ok (.invokevirtual 351, 3) := by decide +kernel
theorem dX8_doAct_208 : decode cX8_doAct 208 = .ok (.ireturn, 1) := by decide +kernel
theorem dX8_doAct_209 : decode cX8_doAct 209 = .ok (.aload_n 0, 1) := by decide +kernel
theorem dX8_doAct_210 : decode cX8_doAct 210 = .ok (.iload_n 2, 1) := by decide +kernel
theorem dX8_doAct_211 : decode cX8_doAct 211 = .ok (.aload 4, 2) := by decide +kernel
theorem dX8_doAct_213 : decode cX8_doAct 213 = .ok (.invokevirtual 354, 3) := by decide +kernel
theorem dX8_doAct_216 : decode cX8_doAct 216 = .ok (.ireturn, 1) := by decide +kernel
theorem dX8_end_0 : decode cX8_end 0 = .ok (.iload_n 1, 1) := by decide +kernel
theorem dX8_end_1 : decode cX8_end 1 = .ok (.ifCond .lt 14, 3) := by decide +kernel
theorem dX8_end_4 : decode cX8_end 4 = .ok (.iload_n 1, 1) := by decide +kernel
theorem dX8_end_5 : decode cX8_end 5 = .ok (.aload_n 0, 1) := by decide +kernel
theorem dX8_end_6 : decode cX8_end 6 = .ok (.getfield 14, 3) := by decide +kernel
theorem dX8_end_9 : decode cX8_end 9 = .ok (.invokevirtual 63, 3) := by decide +kernel
theorem dX8_end_12 : decode cX8_end 12 = .ok (.if_icmp .le 5, 3) := by decide +kernel
theorem dX8_end_15 : decode cX8_end 15 = .ok (.iconst 0, 1) := by decide +kernel
theorem dX8_end_16 : decode cX8_end 16 = .ok (.ireturn, 1) := by decide +kernel
theorem dX8_end_17 : decode cX8_end 17 = .ok (.aload_n 0, 1) := by decide +kernel
theorem dX8_end_18 : decode cX8_end 18 = .ok (.getfield 14, 3) := by decide +kernel
theorem dX8_end_21 : decode cX8_end 21 = .ok (.iload_n 1, 1) := by decide +kernel
theorem dX8_end_22 : decode cX8_end 22 = .ok (.invokevirtual 70, 3) := by decide +kernel
theorem dX8_end_25 : decode cX8_end 25 = .ok (.iconst 1, 1) := by decide +kernel
theorem dX8_end_26 : decode cX8_end 26 = .ok (.ireturn, 1) := by decide +kernel
theorem dX8_fault_0 : decode cX8_fault 0 = .ok (.aload_n 0, 1) := by decide +kernel
theorem dX8_fault_1 : decode cX8_fault 1 = .ok (.getfield 59, 3) := by decide +kernel
theorem dX8_fault_4 : decode cX8_fault 4 = .ok (.ireturn, 1) := by decide +kernel
theorem dX8_feed_0 : decode cX8_feed 0 = .ok (.aload_n 0, 1) := by decide +kernel
theorem dX8_feed_1 : decode cX8_feed 1 = .ok (.getfield 14, 3) := by decide +kernel
theorem dX8_feed_4 : decode cX8_feed 4 = .ok (.invokevirtual 63, 3) := by decide +kernel
theorem dX8_feed_7 : decode cX8_feed 7 = .ok (.bipush 20, 2) := by decide +kernel
theorem dX8_feed_9 : decode cX8_feed 9 = .ok (.iadd, 1) := by decide +kernel
theorem dX8_feed_10 : decode cX8_feed 10 = .ok (.sipush 400, 3) := by decide +kernel
theorem dX8_feed_13 : decode cX8_feed 13 = .ok (.if_icmp .le 5, 3) := by decide +kernel
theorem dX8_feed_16 : decode cX8_feed 16 = .ok (.iconst (-1), 1) := by decide +kernel
theorem dX8_feed_17 : decode cX8_feed 17 = .ok (.ireturn, 1) := by decide +kernel
theorem dX8_feed_18 : decode cX8_feed 18 = .ok (.aload_n 0, 1) := by decide +kernel
theorem dX8_feed_19 : decode cX8_feed 19 = .ok (.iload_n 1, 1) := by decide +kernel
theorem dX8_feed_20 : decode cX8_feed 20 = .ok (.invokevirtual 67, 3) := by decide +kernel
theorem dX8_feed_23 : decode cX8_feed 23 = .ok (.aload_n 0, 1) := by decide +kernel
theorem dX8_feed_24 : decode cX8_feed 24 = .ok (.iload_n 2, 1) := by decide +kernel
theorem dX8_feed_25 : decode cX8_feed 25 = .ok (.invokevirtual 67, 3) := by decide +kernel
theorem dX8_feed_28 : decode cX8_feed 28 = .ok (.aload_n 0, 1) := by decide +kernel
theorem dX8_feed_29 : decode cX8_feed 29 = .ok (.iload_n 3, 1) := by decide +kernel
theorem dX8_feed_30 : decode cX8_feed 30 = .ok (.invokevirtual 67, 3) := by decide +kernel
theorem dX8_feed_33 : decode cX8_feed 33 = .ok (.aload_n 0, 1) := by decide +kernel
theorem dX8_feed_34 : decode cX8_feed 34 = .ok (.iload 4, 2) := by decide +kernel
theorem dX8_feed_36 : decode cX8_feed 36 = .ok (.invokevirtual 67, 3) := by decide +kernel
theorem dX8_feed_39 : decode cX8_feed 39 = .ok (.aload_n 0, 1) := by decide +kernel
theorem dX8_feed_40 : decode cX8_feed 40 = .ok (.iload 5, 2) := by decide +kernel
theorem dX8_feed_42 : decode cX8_feed 42 = .ok (.invokevirtual 67, 3) := by decide +kernel
end
/-! part 30f.dec -/
section
theorem dX8_feed_45 : decode cX8_feed 45 = .ok (.aload_n 0, 1) := by decide +kernel
theorem dX8_feed_46 : decode cX8_feed 46 = .ok (.getfield 14, 3) := by decide +kernel
theorem dX8_feed_49 : decode cX8_feed 49 = .ok (.invokevirtual 63, 3) := by decide +kernel
theorem dX8_feed_52 : decode cX8_feed 52 = .ok (.ireturn, 1) := by decide +kernel
theorem dX8_file_0 : decode cX8_file 0 = .ok (.aload_n 0, 1) := by decide +kernel
theorem dX8_file_1 : decode cX8_file 1 = .ok (.getfield 21, 3) := by decide +kernel
theorem dX8_file_4 : decode cX8_file 4 = .ok (.aload_n 0, 1) := by decide +kernel
theorem dX8_file_5 : decode cX8_file 5 = .ok (.getfield 14, 3) := by decide +kernel
theorem dX8_file_8 : decode cX8_file 8 = .ok (.iconst 0, 1) := by decide +kernel
theorem dX8_file_9 : decode cX8_file 9 = .ok (.aload_n 0, 1) := by decide +kernel
theorem dX8_file_10 : decode cX8_file 10 = .ok (.getfield 14, 3) := by decide +kernel
theorem dX8_file_13 : decode cX8_file 13 = .ok (.invokevirtual 63, 3) := by decide +kernel
theorem dX8_file_16 : decode cX8_file 16 = .ok (.invokevirtual 126, 3) := by decide +kernel
theorem dX8_file_19 : decode cX8_file 19 = .ok (.putfield 130, 3) := by decide +kernel
theorem dX8_file_22 : decode cX8_file 22 = .ok (.aload_n 0, 1) := by decide +kernel
theorem dX8_file_23 : decode cX8_file 23 = .ok (.getfield 14, 3) := by decide +kernel
theorem dX8_file_26 : decode cX8_file 26 = .ok (.iconst 0, 1) := by decide +kernel
theorem dX8_file_27 : decode cX8_file 27 = .ok (.invokevirtual 70, 3) := by decide +kernel
theorem dX8_file_30 : decode cX8_file 30 = .ok (.aload_n 0, 1) := by decide +kernel
theorem dX8_file_31 : decode cX8_file 31 = .ok (.iconst 0, 1) := by decide +kernel
theorem dX8_file_32 : decode cX8_file 32 = .ok (.putfield 123, 3) := by decide +kernel
theorem dX8_file_35 : decode cX8_file 35 = .ok (.aload_n 0, 1) := by decide +kernel
theorem dX8_file_36 : decode cX8_file 36 = .ok (.invokevirtual 133, 3) := by decide +kernel
theorem dX8_file_39 : decode cX8_file 39 = .ok (.pop, 1) := by decide +kernel
theorem dX8_file_40 : decode cX8_file 40 = .ok (.aload_n 0, 1) := by decide +kernel
theorem dX8_file_41 : decode cX8_file 41 = .ok (.getfield 38, 3) := by decide +kernel
theorem dX8_file_44 : decode cX8_file 44 = .ok (.invokevirtual 136, 3) := by decide +kernel
theorem dX8_file_47 : decode cX8_file 47 = .ok (.ireturn, 1) := by decide +kernel
theorem dX8_finishCall_0 : decode cX8_finishCall 0 = .ok (.aload_n 0, 1) := by decide +kernel
theorem dX8_finishCall_1 : decode cX8_finishCall 1 = .ok (.iload_n 1, 1) := by decide +kernel
theorem dX8_finishCall_2 : decode cX8_finishCall 2 = .ok (.putfield 110, 3) := by decide +kernel
theorem dX8_finishCall_5 : decode cX8_finishCall 5 = .ok (.iload_n 1, 1) := by decide +kernel
theorem dX8_finishCall_6 : decode cX8_finishCall 6 = .ok (.iconst 3, 1) := by decide +kernel
theorem dX8_finishCall_7 : decode cX8_finishCall 7 = .ok (.if_icmp .ne 11, 3) := by decide +kernel
theorem dX8_finishCall_10 : decode cX8_finishCall 10 = .ok (.aload_n 0, 1) := by decide +kernel
theorem dX8_finishCall_11 : decode cX8_finishCall 11 = .ok (.aload_n 0, 1) := by decide +kernel
theorem dX8_finishCall_12 : decode cX8_finishCall 12 = .ok (.getfield 25, 3) := by decide +kernel
theorem dX8_finishCall_15 : decode cX8_finishCall 15 = .ok (.invokevirtual 113, 3) := by decide +kernel
theorem dX8_finishCall_18 : decode cX8_finishCall 18 = .ok (.iload_n 1, 1) := by decide +kernel
theorem dX8_finishCall_19 : decode cX8_finishCall 19 = .ok (.ifCond .eq 14, 3) := by decide +kernel
theorem dX8_finishCall_22 : decode cX8_finishCall 22 = .ok (.new 170, 3) := by decide +kernel
theorem dX8_finishCall_25 : decode cX8_finishCall 25 = .ok (.dup, 1) := by decide +kernel
theorem dX8_finishCall_26 : decode cX8_finishCall 26 = .ok (.ldc_w 326, 3) := by decide +kernel
theorem dX8_finishCall_29 : decode cX8_finishCall 29 = .ok (.invokespecial 174, 3) := by decide +kernel
theorem dX8_finishCall_32 : decode cX8_finishCall 32 = .ok (.athrow, 1) := by decide +kernel
theorem dX8_finishCall_33 : decode cX8_finishCall 33 = .ok (.aload_n 0, 1) := by decide +kernel
theorem dX8_finishCall_34 : decode cX8_finishCall 34 = .ok (.invokevirtual 328, 3) := by decide +kernel
theorem dX8_finishCall_37 : decode cX8_finishCall 37 = .ok (.return_, 1) := by decide +kernel
theorem dX8_forgetOldest_0 : decode cX8_forgetOldest 0 = .ok (.aload_n 0, 1) := by decide +kernel
theorem dX8_forgetOldest_1 : decode cX8_forgetOldest 1 = .ok (.getfield 31, 3) := by decide +kernel
theorem dX8_forgetOldest_4 : decode cX8_forgetOldest 4 = .ok (.arraylength, 1) := by decide +kernel
theorem dX8_forgetOldest_5 : decode cX8_forgetOldest 5 = .ok (.iconst 1, 1) := by decide +kernel
theorem dX8_forgetOldest_6 : decode cX8_forgetOldest 6 = .ok (.isub, 1) := by decide +kernel
theorem dX8_forgetOldest_7 : decode cX8_forgetOldest 7 = .ok (.istore_n 1, 1) := by decide +kernel
theorem dX8_forgetOldest_8 : decode cX8_forgetOldest 8 = .ok (.iload_n 1, 1) := by decide +kernel
theorem dX8_forgetOldest_9 : decode cX8_forgetOldest 9 = .ok (.ifCond .ge 4, 3) := by decide +kernel
theorem dX8_forgetOldest_12 : decode cX8_forgetOldest 12 = .ok (.return_, 1) := by decide +kernel
theorem dX8_forgetOldest_13 : decode cX8_forgetOldest 13 = .ok (.aload_n 0, 1) := by decide +kernel
theorem dX8_forgetOldest_14 : decode cX8_forgetOldest 14 = .ok (.getfield 31, 3) := by decide +kernel
theorem dX8_forgetOldest_17 : decode cX8_forgetOldest 17 = .ok (.iconst 0, 1) := by decide +kernel
theorem dX8_forgetOldest_18 : decode cX8_forgetOldest 18 = .ok (.aaload, 1) := by decide +kernel
theorem dX8_forgetOldest_19 : decode cX8_forgetOldest 19 = .ok (.astore_n 2, 1) := by decide +kernel
theorem dX8_forgetOldest_20 : decode cX8_forgetOldest 20 = .ok (.iconst 0, 1) := by decide +kernel
theorem dX8_forgetOldest_21 : decode cX8_forgetOldest 21 = .ok (.istore_n 3, 1) := by decide +kernel
theorem dX8_forgetOldest_22 : decode cX8_forgetOldest 22 = .ok (.iload_n 3, 1) := by decide +kernel
theorem dX8_forgetOldest_23 : decode cX8_forgetOldest 23 = .ok (.iload_n 1, 1) := by decide +kernel
theorem dX8_forgetOldest_24 : decode cX8_forgetOldest 24 = .ok (.if_icmp .ge 23, 3) := by decide +kernel
theorem dX8_forgetOldest_27 : decode cX8_forgetOldest 27 = .ok (.aload_n 0, 1) := by decide +kernel
theorem dX8_forgetOldest_28 : decode cX8_forgetOldest 28 = .ok (.getfield 31, 3) := by decide +kernel
theorem dX8_forgetOldest_31 : decode cX8_forgetOldest 31 = .ok (.iload_n 3, 1) := by decide +kernel
theorem dX8_forgetOldest_32 : decode cX8_forgetOldest 32 = .ok (.aload_n 0, 1) := by decide +kernel
theorem dX8_forgetOldest_33 : decode cX8_forgetOldest 33 = .ok (.getfield 31, 3) := by decide +kernel
theorem dX8_forgetOldest_36 : decode cX8_forgetOldest 36 = .ok (.iload_n 3, 1) := by decide +kernel
theorem dX8_forgetOldest_37 : decode cX8_forgetOldest 37 = .ok (.iconst 1, 1) := by decide +kernel
theorem dX8_forgetOldest_38 : decode cX8_forgetOldest 38 = .ok (.iadd, 1) := by decide +kernel
theorem dX8_forgetOldest_39 : decode cX8_forgetOldest 39 = .ok (.aaload, 1) := by decide +kernel
theorem dX8_forgetOldest_40 : decode cX8_forgetOldest 40 = .ok (.aastore, 1) := by decide +kernel
theorem dX8_forgetOldest_41 : decode cX8_forgetOldest 41 = .ok (.iinc 3 1, 3) := by decide +kernel
theorem dX8_forgetOldest_44 : decode cX8_forgetOldest 44 = .ok (.goto (-22), 3) := by decide +kernel
theorem dX8_forgetOldest_47 : decode cX8_forgetOldest 47 = .ok (.aload_n 0, 1) := by decide +kernel
theorem dX8_forgetOldest_48 : decode cX8_forgetOldest 48 = .ok (.getfield 31, 3) := by decide +kernel
theorem dX8_forgetOldest_51 : decode cX8_forgetOldest 51 = .ok (.iload_n 1, 1) := by decide +kernel
theorem dX8_forgetOldest_52 : decode cX8_forgetOldest 52 = .ok (.aload_n 2, 1) := by decide +kernel
theorem dX8_forgetOldest_53 : decode cX8_forgetOldest 53 = .ok (.aastore, 1) := by decide +kernel
theorem dX8_forgetOldest_54 : decode cX8_forgetOldest 54 = .ok (.aload_n 0, 1) := by decide +kernel
theorem dX8_forgetOldest_55 : decode cX8_forgetOldest 55 = .ok (.iload_n 1, 1) := by decide +kernel
theorem dX8_forgetOldest_56 : decode cX8_forgetOldest 56 = .ok (.putfield 123, 3) := by decide +kernel
theorem dX8_forgetOldest_59 : decode cX8_forgetOldest 59 = .ok (.return_, 1) := by decide +kernel
theorem dX8_found_0 : decode cX8_found 0 = .ok (.aload_n 0, 1) := by decide +kernel
theorem dX8_found_1 : decode cX8_found 1 = .ok (.invokevirtual 149, 3) := by decide +kernel
theorem dX8_found_4 : decode cX8_found 4 = .ok (.astore_n 1, 1) := by decide +kernel
theorem dX8_found_5 : decode cX8_found 5 = .ok (.aload_n 1, 1) := by decide +kernel
theorem dX8_found_6 : decode cX8_found 6 = .ok (.ifnonnull 13, 3) := by decide +kernel
theorem dX8_found_9 : decode cX8_found 9 = .ok (.new 116, 3) := by decide +kernel
theorem dX8_found_12 : decode cX8_found 12 = .ok (.dup, 1) := by decide +kernel
theorem dX8_found_13 : decode cX8_found 13 = .ok (.ldc 153, 2) := by decide +kernel
theorem dX8_found_15 : decode cX8_found 15 = .ok (.invokespecial 120, 3) := by decide +kernel
theorem dX8_found_18 : decode cX8_found 18 = .ok (.athrow, 1) := by decide +kernel
theorem dX8_found_19 : decode cX8_found 19 = .ok (.lconst 0, 1) := by decide +kernel
theorem dX8_found_20 : decode cX8_found 20 = .ok (.lstore_n 2, 1) := by decide +kernel
theorem dX8_found_21 : decode cX8_found 21 = .ok (.iconst 0, 1) := by decide +kernel
theorem dX8_found_22 : decode cX8_found 22 = .ok (.istore 4, 2) := by decide +kernel
theorem dX8_found_24 : decode cX8_found 24 = .ok (.iload 4, 2) := by decide +kernel
theorem dX8_found_26 : decode cX8_found 26 = .ok (.aload_n 0, 1) := by decide +kernel
theorem dX8_found_27 : decode cX8_found 27 = .ok (.getfield 38, 3) := by decide +kernel
theorem dX8_found_30 : decode cX8_found 30 = .ok (.invokevirtual 136, 3) := by decide +kernel
theorem dX8_found_33 : decode cX8_found 33 = .ok (.if_icmp .ge 26, 3) := by decide +kernel
theorem dX8_found_36 : decode cX8_found 36 = .ok (.aload_n 0, 1) := by decide +kernel
theorem dX8_found_37 : decode cX8_found 37 = .ok (.iload 4, 2) := by decide +kernel
theorem dX8_found_39 : decode cX8_found 39 = .ok (.aload_n 1, 1) := by decide +kernel
theorem dX8_found_40 : decode cX8_found 40 = .ok (.invokevirtual 254, 3) := by decide +kernel
theorem dX8_found_43 : decode cX8_found 43 = .ok (.ifCond .eq 10, 3) := by decide +kernel
theorem dX8_found_46 : decode cX8_found 46 = .ok (.lload_n 2, 1) := by decide +kernel
theorem dX8_found_47 : decode cX8_found 47 = .ok (.lconst 1, 1) := by decide +kernel
theorem dX8_found_48 : decode cX8_found 48 = .ok (.iload 4, 2) := by decide +kernel
theorem dX8_found_50 : decode cX8_found 50 = .ok (.lshl, 1) := by decide +kernel
theorem dX8_found_51 : decode cX8_found 51 = .ok (.lor, 1) := by decide +kernel
theorem dX8_found_52 : decode cX8_found 52 = .ok (.lstore_n 2, 1) := by decide +kernel
theorem dX8_found_53 : decode cX8_found 53 = .ok (.iinc 4 1, 3) := by decide +kernel
theorem dX8_found_56 : decode cX8_found 56 = .ok (.goto (-32), 3) := by decide +kernel
theorem dX8_found_59 : decode cX8_found 59 = .ok (.lload_n 2, 1) := by decide +kernel
theorem dX8_found_60 : decode cX8_found 60 = .ok (.lreturn, 1) := by decide +kernel
theorem dX8_free_0 : decode cX8_free 0 = .ok (.aload_n 0, 1) := by decide +kernel
theorem dX8_free_1 : decode cX8_free 1 = .ok (.getfield 25, 3) := by decide +kernel
theorem dX8_free_4 : decode cX8_free 4 = .ok (.aload_n 0, 1) := by decide +kernel
theorem dX8_free_5 : decode cX8_free 5 = .ok (.getfield 21, 3) := by decide +kernel
theorem dX8_free_8 : decode cX8_free 8 = .ok (.invokevirtual 73, 3) := by decide +kernel
theorem dX8_free_11 : decode cX8_free 11 = .ok (.aload_n 0, 1) := by decide +kernel
theorem dX8_free_12 : decode cX8_free 12 = .ok (.aload_n 0, 1) := by decide +kernel
theorem dX8_free_13 : decode cX8_free 13 = .ok (.bipush 8, 2) := by decide +kernel
theorem dX8_free_15 : decode cX8_free 15 = .ok (.iload_n 1, 1) := by decide +kernel
theorem dX8_free_16 : decode cX8_free 16 = .ok (.iconst 0, 1) := by decide +kernel
theorem dX8_free_17 : decode cX8_free 17 = .ok (.aconst_null, 1) := by decide +kernel
theorem dX8_free_18 : decode cX8_free 18 = .ok (.invokevirtual 103, 3) := by decide +kernel
theorem dX8_free_21 : decode cX8_free 21 = .ok (.invokevirtual 139, 3) := by decide +kernel
theorem dX8_free_24 : decode cX8_free 24 = .ok (.aload_n 0, 1) := by decide +kernel
theorem dX8_free_25 : decode cX8_free 25 = .ok (.getfield 48, 3) := by decide +kernel
theorem dX8_free_28 : decode cX8_free 28 = .ok (.getfield 160, 3) := by decide +kernel
theorem dX8_free_31 : decode cX8_free 31 = .ok (.invokevirtual 63, 3) := by decide +kernel
theorem dX8_free_34 : decode cX8_free 34 = .ok (.ireturn, 1) := by decide +kernel
theorem dX8_freePiece_0 : decode cX8_freePiece 0 = .ok (.aload_n 0, 1) := by decide +kernel
theorem dX8_freePiece_1 : decode cX8_freePiece 1 = .ok (.getfield 38, 3) := by decide +kernel
theorem dX8_freePiece_4 : decode cX8_freePiece 4 = .ok (.iload_n 1, 1) := by decide +kernel
theorem dX8_freePiece_5 : decode cX8_freePiece 5 = .ok (.invokevirtual 241, 3) := by decide +kernel
theorem dX8_freePiece_8 : decode cX8_freePiece 8 = .ok (.ifnonnull 5, 3) := by decide +kernel
theorem dX8_freePiece_11 : decode cX8_freePiece 11 = .ok (.iconst 1, 1) := by decide +kernel
theorem dX8_freePiece_12 : decode cX8_freePiece 12 = .ok (.ireturn, 1) := by decide +kernel
theorem dX8_freePiece_13 : decode cX8_freePiece 13 = .ok (.aload_n 0, 1) := by decide +kernel
theorem dX8_freePiece_14 : decode cX8_freePiece 14 = .ok (.getfield 21, 3) := by decide +kernel
theorem dX8_freePiece_17 : decode cX8_freePiece 17 = .ok (.iload_n 1, 1) := by decide +kernel
theorem dX8_freePiece_18 : decode cX8_freePiece 18 = .ok (.invokevirtual 194, 3) := by decide +kernel
theorem dX8_freePiece_21 : decode cX8_freePiece 21 = .ok (.ifnonnull 5, 3) := by decide +kernel
theorem dX8_freePiece_24 : decode cX8_freePiece 24 = .ok (.iconst 4, 1) := by decide +kernel
theorem dX8_freePiece_25 : decode cX8_freePiece 25 = .ok (.ireturn, 1) := by decide +kernel
theorem dX8_freePiece_26 : decode cX8_freePiece 26 = .ok (.aload_n 0, 1) := by decide +kernel
theorem dX8_freePiece_27 : decode cX8_freePiece 27 = .ok (.getfield 21, 3) := by decide +kernel
theorem dX8_freePiece_30 : decode cX8_freePiece 30 = .ok (.iload_n 1, 1) := by decide +kernel
theorem dX8_freePiece_31 : decode cX8_freePiece 31 = .ok (.aconst_null, 1) := by decide +kernel
theorem dX8_freePiece_32 : decode cX8_freePiece 32 = .ok (.invokevirtual 369, 3) := by decide +kernel
theorem dX8_freePiece_35 : decode cX8_freePiece 35 = .ok (.aload_n 0, 1) := by decide +kernel
theorem dX8_freePiece_36 : decode cX8_freePiece 36 = .ok (.getfield 48, 3) := by decide +kernel
theorem dX8_freePiece_39 : decode cX8_freePiece 39 = .ok (.aload_n 0, 1) := by decide +kernel
theorem dX8_freePiece_40 : decode cX8_freePiece 40 = .ok (.getfield 21, 3) := by decide +kernel
theorem dX8_freePiece_43 : decode cX8_freePiece 43 = .ok (.aload_n 0, 1) := by decide +kernel
theorem dX8_freePiece_44 : decode cX8_freePiece 44 = .ok (.getfield 38, 3) := by decide +kernel
theorem dX8_freePiece_47 : decode cX8_freePiece 47 = .ok (.invokevirtual 365, 3) := by decide +kernel
theorem dX8_freePiece_50 : decode cX8_freePiece 50 = .ok (.ifCond .eq 7, 3) := by decide +kernel
theorem dX8_freePiece_53 : decode cX8_freePiece 53 = .ok (.iconst 0, 1) := by decide +kernel
theorem dX8_freePiece_54 : decode cX8_freePiece 54 = .ok (.goto 4, 3) := by decide +kernel
theorem dX8_freePiece_57 : decode cX8_freePiece 57 = .ok (.iconst 3, 1) := by decide +kernel
theorem dX8_freePiece_58 : decode cX8_freePiece 58 = .ok (.ireturn, 1) := by decide +kernel
theorem dX8_hasWord_0 : decode cX8_hasWord 0 = .ok (.aload_n 0, 1) := by decide +kernel
theorem dX8_hasWord_1 : decode cX8_hasWord 1 = .ok (.getfield 38, 3) := by decide +kernel
theorem dX8_hasWord_4 : decode cX8_hasWord 4 = .ok (.iload_n 1, 1) := by decide +kernel
theorem dX8_hasWord_5 : decode cX8_hasWord 5 = .ok (.invokevirtual 241, 3) := by decide +kernel
theorem dX8_hasWord_8 : decode cX8_hasWord 8 = .ok (.astore_n 3, 1) := by decide +kernel
theorem dX8_hasWord_9 : decode cX8_hasWord 9 = .ok (.aload_n 3, 1) := by decide +kernel
theorem dX8_hasWord_10 : decode cX8_hasWord 10 = .ok (.ifnonnull 5, 3) := by decide +kernel
theorem dX8_hasWord_13 : decode cX8_hasWord 13 = .ok (.iconst 0, 1) := by decide +kernel
theorem dX8_hasWord_14 : decode cX8_hasWord 14 = .ok (.ireturn, 1) := by decide +kernel
theorem dX8_hasWord_15 : decode cX8_hasWord 15 = .ok (.aload_n 0, 1) := by decide +kernel
theorem dX8_hasWord_16 : decode cX8_hasWord 16 = .ok (.getfield 21, 3) := by decide +kernel
theorem dX8_hasWord_19 : decode cX8_hasWord 19 = .ok (.iload_n 1, 1) := by decide +kernel
theorem dX8_hasWord_20 : decode cX8_hasWord 20 = .ok (.invokevirtual 194, 3) := by decide +kernel
theorem dX8_hasWord_23 : decode cX8_hasWord 23 = .ok (.astore 4, 2) := by decide +kernel
theorem dX8_hasWord_25 : decode cX8_hasWord 25 = .ok (.aload 4, 2) := by decide +kernel
theorem dX8_hasWord_27 : decode cX8_hasWord 27 = .ok (.ifnonnull 25, 3) := by decide +kernel
theorem dX8_hasWord_30 : decode cX8_hasWord 30 = .ok (.aload_n 0, 1) := by decide +kernel
theorem dX8_hasWord_31 : decode cX8_hasWord 31 = .ok (.getfield 38, 3) := by decide +kernel
theorem dX8_hasWord_34 : decode cX8_hasWord 34 = .ok (.getfield 373, 3) := by decide +kernel
theorem dX8_hasWord_37 : decode cX8_hasWord 37 = .ok (.aload_n 3, 1) := by decide +kernel
theorem dX8_hasWord_38 : decode cX8_hasWord 38 = .ok (.getfield 224, 3) := by decide +kernel
theorem dX8_hasWord_41 : decode cX8_hasWord 41 = .ok (.aload_n 3, 1) := by decide +kernel
theorem dX8_hasWord_42 : decode cX8_hasWord 42 = .ok (.getfield 187, 3) := by decide +kernel
theorem dX8_hasWord_45 : decode cX8_hasWord 45 = .ok (.aload_n 2, 1) := by decide +kernel
theorem dX8_hasWord_46 : decode cX8_hasWord 46 = .ok (.invokevirtual 388, 3) := by decide +kernel
theorem dX8_hasWord_49 : decode cX8_hasWord 49 = .ok (.goto 15, 3) := by decide +kernel
theorem dX8_hasWord_52 : decode cX8_hasWord 52 = .ok (.aload 4, 2) := by decide +kernel
theorem dX8_hasWord_54 : decode cX8_hasWord 54 = .ok (.iconst 0, 1) := by decide +kernel
theorem dX8_hasWord_55 : decode cX8_hasWord 55 = .ok (.aload 4, 2) := by decide +kernel
theorem dX8_hasWord_57 : decode cX8_hasWord 57 = .ok (.invokevirtual 63, 3) := by decide +kernel
theorem dX8_hasWord_60 : decode cX8_hasWord 60 = .ok (.aload_n 2, 1) := by decide +kernel
theorem dX8_hasWord_61 : decode cX8_hasWord 61 = .ok (.invokevirtual 388, 3) := by decide +kernel
theorem dX8_hasWord_64 : decode cX8_hasWord 64 = .ok (.ireturn, 1) := by decide +kernel
theorem dX8_holder_0 : decode cX8_holder 0 = .ok (.iconst 0, 1) := by decide +kernel
theorem dX8_holder_1 : decode cX8_holder 1 = .ok (.istore_n 2, 1) := by decide +kernel
theorem dX8_holder_2 : decode cX8_holder 2 = .ok (.iload_n 2, 1) := by decide +kernel
theorem dX8_holder_3 : decode cX8_holder 3 = .ok (.aload_n 0, 1) := by decide +kernel
theorem dX8_holder_4 : decode cX8_holder 4 = .ok (.getfield 38, 3) := by decide +kernel
theorem dX8_holder_7 : decode cX8_holder 7 = .ok (.invokevirtual 136, 3) := by decide +kernel
theorem dX8_holder_10 : decode cX8_holder 10 = .ok (.if_icmp .ge 40, 3) := by decide +kernel
theorem dX8_holder_13 : decode cX8_holder 13 = .ok (.aload_n 0, 1) := by decide +kernel
theorem dX8_holder_14 : decode cX8_holder 14 = .ok (.getfield 38, 3) := by decide +kernel
theorem dX8_holder_17 : decode cX8_holder 17 = .ok (.iload_n 2, 1) := by decide +kernel
theorem dX8_holder_18 : decode cX8_holder 18 = .ok (.invokevirtual 241, 3) := by decide +kernel
theorem dX8_holder_21 : decode cX8_holder 21 = .ok (.astore_n 3, 1) := by decide +kernel
theorem dX8_holder_22 : decode cX8_holder 22 = .ok (.aload_n 3, 1) := by decide +kernel
theorem dX8_holder_23 : decode cX8_holder 23 = .ok (.ifnull 21, 3) := by decide +kernel
theorem dX8_holder_26 : decode cX8_holder 26 = .ok (.iload_n 1, 1) := by decide +kernel
theorem dX8_holder_27 : decode cX8_holder 27 = .ok (.aload_n 3, 1) := by decide +kernel
theorem dX8_holder_28 : decode cX8_holder 28 = .ok (.getfield 179, 3) := by decide +kernel
theorem dX8_holder_31 : decode cX8_holder 31 = .ok (.if_icmp .lt 13, 3) := by decide +kernel
theorem dX8_holder_34 : decode cX8_holder 34 = .ok (.iload_n 1, 1) := by decide +kernel
theorem dX8_holder_35 : decode cX8_holder 35 = .ok (.aload_n 3, 1) := by decide +kernel
theorem dX8_holder_36 : decode cX8_holder 36 = .ok (.getfield 184, 3) := by decide +kernel
theorem dX8_holder_39 : decode cX8_holder 39 = .ok (.if_icmp .ge 5, 3) := by decide +kernel
theorem dX8_holder_42 : decode cX8_holder 42 = .ok (.iload_n 2, 1) := by decide +kernel
theorem dX8_holder_43 : decode cX8_holder 43 = .ok (.ireturn, 1) := by decide +kernel
theorem dX8_holder_44 : decode cX8_holder 44 = .ok (.iinc 2 1, 3) := by decide +kernel
theorem dX8_holder_47 : decode cX8_holder 47 = .ok (.goto (-45), 3) := by decide +kernel
theorem dX8_holder_50 : decode cX8_holder 50 = .ok (.iconst (-1), 1) := by decide +kernel
theorem dX8_holder_51 : decode cX8_holder 51 = .ok (.ireturn, 1) := by decide +kernel
theorem dX8_image_0 : decode cX8_image 0 = .ok (.aload_n 0, 1) := by decide +kernel
theorem dX8_image_1 : decode cX8_image 1 = .ok (.getfield 28, 3) := by decide +kernel
theorem dX8_image_4 : decode cX8_image 4 = .ok (.aload_n 0, 1) := by decide +kernel
theorem dX8_image_5 : decode cX8_image 5 = .ok (.getfield 21, 3) := by decide +kernel
theorem dX8_image_8 : decode cX8_image 8 = .ok (.invokevirtual 73, 3) := by decide +kernel
theorem dX8_image_11 : decode cX8_image 11 = .ok (.aload_n 0, 1) := by decide +kernel
theorem dX8_image_12 : decode cX8_image 12 = .ok (.iconst 1, 1) := by decide +kernel
theorem dX8_image_13 : decode cX8_image 13 = .ok (.putfield 287, 3) := by decide +kernel
theorem dX8_image_16 : decode cX8_image 16 = .ok (.return_, 1) := by decide +kernel
theorem dX8_isLetter_0 : decode cX8_isLetter 0 = .ok (.iload_n 0, 1) := by decide +kernel
theorem dX8_isLetter_1 : decode cX8_isLetter 1 = .ok (.bipush 97, 2) := by decide +kernel
theorem dX8_isLetter_3 : decode cX8_isLetter 3 = .ok (.if_icmp .lt 9, 3) := by decide +kernel
theorem dX8_isLetter_6 : decode cX8_isLetter 6 = .ok (.iload_n 0, 1) := by decide +kernel
theorem dX8_isLetter_7 : decode cX8_isLetter 7 = .ok (.bipush 122, 2) := by decide +kernel
theorem dX8_isLetter_9 : decode cX8_isLetter 9 = .ok (.if_icmp .le 15, 3) := by decide +kernel
theorem dX8_isLetter_12 : decode cX8_isLetter 12 = .ok (.iload_n 0, 1) := by decide +kernel
theorem dX8_isLetter_13 : decode cX8_isLetter 13 = .ok (.bipush 65, 2) := by decide +kernel
theorem dX8_isLetter_15 : decode cX8_isLetter 15 = .ok (.if_icmp .lt 13, 3) := by decide +kernel
theorem dX8_isLetter_18 : decode cX8_isLetter 18 = .ok (.iload_n 0, 1) := by decide +kernel
theorem dX8_isLetter_19 : decode cX8_isLetter 19 = .ok (.bipush 90, 2) := by decide +kernel
theorem dX8_isLetter_21 : decode cX8_isLetter 21 = .ok (.if_icmp .gt 7, 3) := by decide +kernel
theorem dX8_isLetter_24 : decode cX8_isLetter 24 = .ok (.iconst 1, 1) := by decide +kernel
theorem dX8_isLetter_25 : decode cX8_isLetter 25 = .ok (.goto 4, 3) := by decide +kernel
theorem dX8_isLetter_28 : decode cX8_isLetter 28 = .ok (.iconst 0, 1) := by decide +kernel
theorem dX8_isLetter_29 : decode cX8_isLetter 29 = .ok (.ireturn, 1) := by decide +kernel
theorem dX8_isNow_0 : decode cX8_isNow 0 = .ok (.aload_n 0, 1) := by decide +kernel
theorem dX8_isNow_1 : decode cX8_isNow 1 = .ok (.getfield 21, 3) := by decide +kernel
theorem dX8_isNow_4 : decode cX8_isNow 4 = .ok (.iload_n 1, 1) := by decide +kernel
theorem dX8_isNow_5 : decode cX8_isNow 5 = .ok (.invokevirtual 194, 3) := by decide +kernel
theorem dX8_isNow_8 : decode cX8_isNow 8 = .ok (.astore 4, 2) := by decide +kernel
theorem dX8_isNow_10 : decode cX8_isNow 10 = .ok (.aload 4, 2) := by decide +kernel
theorem dX8_isNow_12 : decode cX8_isNow 12 = .ok (.ifnonnull 52, 3) := by decide +kernel
theorem dX8_isNow_15 : decode cX8_isNow 15 = .ok (.aload_n 2, 1) := by decide +kernel
theorem dX8_isNow_16 : decode cX8_isNow 16 = .ok (.getfield 187, 3) := by decide +kernel
theorem dX8_isNow_19 : decode cX8_isNow 19 = .ok (.aload_n 3, 1) := by decide +kernel
theorem dX8_isNow_20 : decode cX8_isNow 20 = .ok (.getfield 187, 3) := by decide +kernel
theorem dX8_isNow_23 : decode cX8_isNow 23 = .ok (.if_icmp .ne 39, 3) := by decide +kernel
theorem dX8_isNow_26 : decode cX8_isNow 26 = .ok (.aload_n 0, 1) := by decide +kernel
theorem dX8_isNow_27 : decode cX8_isNow 27 = .ok (.getfield 38, 3) := by decide +kernel
theorem dX8_isNow_30 : decode cX8_isNow 30 = .ok (.getfield 373, 3) := by decide +kernel
theorem dX8_isNow_33 : decode cX8_isNow 33 = .ok (.aload_n 2, 1) := by decide +kernel
theorem dX8_isNow_34 : decode cX8_isNow 34 = .ok (.getfield 224, 3) := by decide +kernel
theorem dX8_isNow_37 : decode cX8_isNow 37 = .ok (.aload_n 0, 1) := by decide +kernel
theorem dX8_isNow_38 : decode cX8_isNow 38 = .ok (.getfield 42, 3) := by decide +kernel
theorem dX8_isNow_41 : decode cX8_isNow 41 = .ok (.getfield 373, 3) := by decide +kernel
theorem dX8_isNow_44 : decode cX8_isNow 44 = .ok (.aload_n 3, 1) := by decide +kernel
theorem dX8_isNow_45 : decode cX8_isNow 45 = .ok (.getfield 224, 3) := by decide +kernel
theorem dX8_isNow_48 : decode cX8_isNow 48 = .ok (.aload_n 2, 1) := by decide +kernel
theorem dX8_isNow_49 : decode cX8_isNow 49 = .ok (.getfield 187, 3) := by decide +kernel
theorem dX8_isNow_52 : decode cX8_isNow 52 = .ok (.invokevirtual 382, 3) := by decide +kernel
theorem dX8_isNow_55 : decode cX8_isNow 55 = .ok (.ifCond .eq 7, 3) := by decide +kernel
theorem dX8_isNow_58 : decode cX8_isNow 58 = .ok (.iconst 1, 1) := by decide +kernel
theorem dX8_isNow_59 : decode cX8_isNow 59 = .ok (.goto 4, 3) := by decide +kernel
theorem dX8_isNow_62 : decode cX8_isNow 62 = .ok (.iconst 0, 1) := by decide +kernel
theorem dX8_isNow_63 : decode cX8_isNow 63 = .ok (.ireturn, 1) := by decide +kernel
theorem dX8_isNow_64 : decode cX8_isNow 64 = .ok (.aload 4, 2) := by decide +kernel
theorem dX8_isNow_66 : decode cX8_isNow 66 = .ok (.invokevirtual 63, 3) := by decide +kernel
theorem dX8_isNow_69 : decode cX8_isNow 69 = .ok (.aload_n 3, 1) := by decide +kernel
theorem dX8_isNow_70 : decode cX8_isNow 70 = .ok (.getfield 187, 3) := by decide +kernel
theorem dX8_isNow_73 : decode cX8_isNow 73 = .ok (.if_icmp .ne 32, 3) := by decide +kernel
theorem dX8_isNow_76 : decode cX8_isNow 76 = .ok (.aload 4, 2) := by decide +kernel
theorem dX8_isNow_78 : decode cX8_isNow 78 = .ok (.iconst 0, 1) := by decide +kernel
theorem dX8_isNow_79 : decode cX8_isNow 79 = .ok (.aload_n 0, 1) := by decide +kernel
theorem dX8_isNow_80 : decode cX8_isNow 80 = .ok (.getfield 42, 3) := by decide +kernel
theorem dX8_isNow_83 : decode cX8_isNow 83 = .ok (.getfield 373, 3) := by decide +kernel
theorem dX8_isNow_86 : decode cX8_isNow 86 = .ok (.aload_n 3, 1) := by decide +kernel
theorem dX8_isNow_87 : decode cX8_isNow 87 = .ok (.getfield 224, 3) := by decide +kernel
theorem dX8_isNow_90 : decode cX8_isNow 90 = .ok (.aload 4, 2) := by decide +kernel
theorem dX8_isNow_92 : decode cX8_isNow 92 = .ok (.invokevirtual 63, 3) := by decide +kernel
theorem dX8_isNow_95 : decode cX8_isNow 95 = .ok (.invokevirtual 382, 3) := by decide +kernel
theorem dX8_isNow_98 : decode cX8_isNow 98 = .ok (.ifCond .eq 7, 3) := by decide +kernel
theorem dX8_isNow_101 : decode cX8_isNow 101 = .ok (.iconst 1, 1) := by decide +kernel
theorem dX8_isNow_102 : decode cX8_isNow 102 = .ok (.goto 4, 3) := by decide +kernel
theorem dX8_isNow_105 : decode cX8_isNow 105 = .ok (.iconst 0, 1) := by decide +kernel
theorem dX8_isNow_106 : decode cX8_isNow 106 = .ok (.ireturn, 1) := by decide +kernel
theorem dX8_kept_0 : decode cX8_kept 0 = .ok (.aload_n 0, 1) := by decide +kernel
theorem dX8_kept_1 : decode cX8_kept 1 = .ok (.iload_n 1, 1) := by decide +kernel
theorem dX8_kept_2 : decode cX8_kept 2 = .ok (.invokevirtual 175, 3) := by decide +kernel
theorem dX8_kept_5 : decode cX8_kept 5 = .ok (.astore_n 2, 1) := by decide +kernel
theorem dX8_kept_6 : decode cX8_kept 6 = .ok (.aload_n 0, 1) := by decide +kernel
theorem dX8_kept_7 : decode cX8_kept 7 = .ok (.invokevirtual 276, 3) := by decide +kernel
theorem dX8_kept_10 : decode cX8_kept 10 = .ok (.iconst 0, 1) := by decide +kernel
theorem dX8_kept_11 : decode cX8_kept 11 = .ok (.istore_n 3, 1) := by decide +kernel
theorem dX8_kept_12 : decode cX8_kept 12 = .ok (.iload_n 3, 1) := by decide +kernel
theorem dX8_kept_13 : decode cX8_kept 13 = .ok (.aload_n 0, 1) := by decide +kernel
theorem dX8_kept_14 : decode cX8_kept 14 = .ok (.getfield 42, 3) := by decide +kernel
theorem dX8_kept_17 : decode cX8_kept 17 = .ok (.invokevirtual 136, 3) := by decide +kernel
theorem dX8_kept_20 : decode cX8_kept 20 = .ok (.if_icmp .ge 49, 3) := by decide +kernel
theorem dX8_kept_23 : decode cX8_kept 23 = .ok (.aload_n 0, 1) := by decide +kernel
theorem dX8_kept_24 : decode cX8_kept 24 = .ok (.getfield 42, 3) := by decide +kernel
theorem dX8_kept_27 : decode cX8_kept 27 = .ok (.iload_n 3, 1) := by decide +kernel
theorem dX8_kept_28 : decode cX8_kept 28 = .ok (.invokevirtual 241, 3) := by decide +kernel
theorem dX8_kept_31 : decode cX8_kept 31 = .ok (.astore 4, 2) := by decide +kernel
theorem dX8_kept_33 : decode cX8_kept 33 = .ok (.aload 4, 2) := by decide +kernel
theorem dX8_kept_35 : decode cX8_kept 35 = .ok (.ifnull 28, 3) := by decide +kernel
theorem dX8_kept_38 : decode cX8_kept 38 = .ok (.aload_n 2, 1) := by decide +kernel
theorem dX8_kept_39 : decode cX8_kept 39 = .ok (.aload 4, 2) := by decide +kernel
theorem dX8_kept_41 : decode cX8_kept 41 = .ok (.getfield 179, 3) := by decide +kernel
theorem dX8_kept_44 : decode cX8_kept 44 = .ok (.invokevirtual 279, 3) := by decide +kernel
theorem dX8_kept_47 : decode cX8_kept 47 = .ok (.ifCond .eq 16, 3) := by decide +kernel
theorem dX8_kept_50 : decode cX8_kept 50 = .ok (.aload_n 0, 1) := by decide +kernel
theorem dX8_kept_51 : decode cX8_kept 51 = .ok (.iload_n 1, 1) := by decide +kernel
theorem dX8_kept_52 : decode cX8_kept 52 = .ok (.aload_n 2, 1) := by decide +kernel
theorem dX8_kept_53 : decode cX8_kept 53 = .ok (.aload 4, 2) := by decide +kernel
theorem dX8_kept_55 : decode cX8_kept 55 = .ok (.invokevirtual 283, 3) := by decide +kernel
theorem dX8_kept_58 : decode cX8_kept 58 = .ok (.ifCond .eq 5, 3) := by decide +kernel
theorem dX8_kept_61 : decode cX8_kept 61 = .ok (.iconst 1, 1) := by decide +kernel
theorem dX8_kept_62 : decode cX8_kept 62 = .ok (.ireturn, 1) := by decide +kernel
theorem dX8_kept_63 : decode cX8_kept 63 = .ok (.iinc 3 1, 3) := by decide +kernel
theorem dX8_kept_66 : decode cX8_kept 66 = .ok (.goto (-54), 3) := by decide +kernel
theorem dX8_kept_69 : decode cX8_kept 69 = .ok (.iconst 0, 1) := by decide +kernel
theorem dX8_kept_70 : decode cX8_kept 70 = .ok (.ireturn, 1) := by decide +kernel
theorem dX8_key_0 : decode cX8_key 0 = .ok (.aload_n 0, 1) := by decide +kernel
theorem dX8_key_1 : decode cX8_key 1 = .ok (.iload_n 1, 1) := by decide +kernel
theorem dX8_key_2 : decode cX8_key 2 = .ok (.invokevirtual 175, 3) := by decide +kernel
theorem dX8_key_5 : decode cX8_key 5 = .ok (.astore_n 3, 1) := by decide +kernel
theorem dX8_key_6 : decode cX8_key 6 = .ok (.iload_n 2, 1) := by decide +kernel
theorem dX8_key_7 : decode cX8_key 7 = .ok (.ifCond .eq 18, 3) := by decide +kernel
theorem dX8_key_10 : decode cX8_key 10 = .ok (.iload_n 2, 1) := by decide +kernel
theorem dX8_key_11 : decode cX8_key 11 = .ok (.iconst 1, 1) := by decide +kernel
theorem dX8_key_12 : decode cX8_key 12 = .ok (.if_icmp .eq 13, 3) := by decide +kernel
theorem dX8_key_15 : decode cX8_key 15 = .ok (.new 142, 3) := by decide +kernel
theorem dX8_key_18 : decode cX8_key 18 = .ok (.dup, 1) := by decide +kernel
theorem dX8_key_19 : decode cX8_key 19 = .ok (.ldc 230, 2) := by decide +kernel
theorem dX8_key_21 : decode cX8_key 21 = .ok (.invokespecial 146, 3) := by decide +kernel
theorem dX8_key_24 : decode cX8_key 24 = .ok (.athrow, 1) := by decide +kernel
theorem dX8_key_25 : decode cX8_key 25 = .ok (.aload_n 0, 1) := by decide +kernel
theorem dX8_key_26 : decode cX8_key 26 = .ok (.getfield 21, 3) := by decide +kernel
theorem dX8_key_29 : decode cX8_key 29 = .ok (.getfield 232, 3) := by decide +kernel
theorem dX8_key_32 : decode cX8_key 32 = .ok (.ifCond .eq 5, 3) := by decide +kernel
theorem dX8_key_35 : decode cX8_key 35 = .ok (.iconst (-1), 1) := by decide +kernel
theorem dX8_key_36 : decode cX8_key 36 = .ok (.ireturn, 1) := by decide +kernel
theorem dX8_key_37 : decode cX8_key 37 = .ok (.iload_n 2, 1) := by decide +kernel
theorem dX8_key_38 : decode cX8_key 38 = .ok (.ifCond .ne 10, 3) := by decide +kernel
theorem dX8_key_41 : decode cX8_key 41 = .ok (.aload_n 3, 1) := by decide +kernel
theorem dX8_key_42 : decode cX8_key 42 = .ok (.getfield 235, 3) := by decide +kernel
theorem dX8_key_45 : decode cX8_key 45 = .ok (.goto 7, 3) := by decide +kernel
theorem dX8_key_48 : decode cX8_key 48 = .ok (.aload_n 3, 1) := by decide +kernel
theorem dX8_key_49 : decode cX8_key 49 = .ok (.getfield 238, 3) := by decide +kernel
theorem dX8_key_52 : decode cX8_key 52 = .ok (.ireturn, 1) := by decide +kernel
theorem dX8_kind_0 : decode cX8_kind 0 = .ok (.iload_n 1, 1) := by decide +kernel
theorem dX8_kind_1 : decode cX8_kind 1 = .ok (.iconst 3, 1) := by decide +kernel
theorem dX8_kind_2 : decode cX8_kind 2 = .ok (.if_icmp .gt 16, 3) := by decide +kernel
theorem dX8_kind_5 : decode cX8_kind 5 = .ok (.iload_n 1, 1) := by decide +kernel
theorem dX8_kind_6 : decode cX8_kind 6 = .ok (.iload_n 2, 1) := by decide +kernel
theorem dX8_kind_7 : decode cX8_kind 7 = .ok (.ifCond .eq 7, 3) := by decide +kernel
theorem dX8_kind_10 : decode cX8_kind 10 = .ok (.iconst (-1), 1) := by decide +kernel
theorem dX8_kind_11 : decode cX8_kind 11 = .ok (.goto 4, 3) := by decide +kernel
theorem dX8_kind_14 : decode cX8_kind 14 = .ok (.iconst 0, 1) := by decide +kernel
theorem dX8_kind_15 : decode cX8_kind 15 = .ok (.if_icmp .ge 13, 3) := by decide +kernel
theorem dX8_kind_18 : decode cX8_kind 18 = .ok (.new 116, 3) := by decide +kernel
theorem dX8_kind_21 : decode cX8_kind 21 = .ok (.dup, 1) := by decide +kernel
theorem dX8_kind_22 : decode cX8_kind 22 = .ok (.ldc 137, 2) := by decide +kernel
theorem dX8_kind_24 : decode cX8_kind 24 = .ok (.invokespecial 120, 3) := by decide +kernel
theorem dX8_kind_27 : decode cX8_kind 27 = .ok (.athrow, 1) := by decide +kernel
theorem dX8_kind_28 : decode cX8_kind 28 = .ok (.aload_n 0, 1) := by decide +kernel
theorem dX8_kind_29 : decode cX8_kind 29 = .ok (.getfield 25, 3) := by decide +kernel
theorem dX8_kind_32 : decode cX8_kind 32 = .ok (.aload_n 0, 1) := by decide +kernel
theorem dX8_kind_33 : decode cX8_kind 33 = .ok (.getfield 21, 3) := by decide +kernel
theorem dX8_kind_36 : decode cX8_kind 36 = .ok (.invokevirtual 73, 3) := by decide +kernel
theorem dX8_kind_39 : decode cX8_kind 39 = .ok (.aload_n 0, 1) := by decide +kernel
theorem dX8_kind_40 : decode cX8_kind 40 = .ok (.aload_n 0, 1) := by decide +kernel
theorem dX8_kind_41 : decode cX8_kind 41 = .ok (.iload_n 2, 1) := by decide +kernel
theorem dX8_kind_42 : decode cX8_kind 42 = .ok (.ifCond .eq 7, 3) := by decide +kernel
theorem dX8_kind_45 : decode cX8_kind 45 = .ok (.iconst 1, 1) := by decide +kernel
theorem dX8_kind_46 : decode cX8_kind 46 = .ok (.goto 4, 3) := by decide +kernel
theorem dX8_kind_49 : decode cX8_kind 49 = .ok (.iconst 0, 1) := by decide +kernel
theorem dX8_kind_50 : decode cX8_kind 50 = .ok (.iload_n 1, 1) := by decide +kernel
theorem dX8_kind_51 : decode cX8_kind 51 = .ok (.iconst 0, 1) := by decide +kernel
theorem dX8_kind_52 : decode cX8_kind 52 = .ok (.aconst_null, 1) := by decide +kernel
theorem dX8_kind_53 : decode cX8_kind 53 = .ok (.invokevirtual 103, 3) := by decide +kernel
theorem dX8_kind_56 : decode cX8_kind 56 = .ok (.invokevirtual 139, 3) := by decide +kernel
theorem dX8_kind_59 : decode cX8_kind 59 = .ok (.aload_n 0, 1) := by decide +kernel
theorem dX8_kind_60 : decode cX8_kind 60 = .ok (.getfield 38, 3) := by decide +kernel
theorem dX8_kind_63 : decode cX8_kind 63 = .ok (.invokevirtual 136, 3) := by decide +kernel
theorem dX8_kind_66 : decode cX8_kind 66 = .ok (.ireturn, 1) := by decide +kernel
theorem dX8_knownPair_0 : decode cX8_knownPair 0 = .ok (.aload_n 0, 1) := by decide +kernel
theorem dX8_knownPair_1 : decode cX8_knownPair 1 = .ok (.getfield 21, 3) := by decide +kernel
theorem dX8_knownPair_4 : decode cX8_knownPair 4 = .ok (.getfield 261, 3) := by decide +kernel
theorem dX8_knownPair_7 : decode cX8_knownPair 7 = .ok (.astore_n 2, 1) := by decide +kernel
theorem dX8_knownPair_8 : decode cX8_knownPair 8 = .ok (.iconst 0, 1) := by decide +kernel
theorem dX8_knownPair_9 : decode cX8_knownPair 9 = .ok (.istore_n 3, 1) := by decide +kernel
theorem dX8_knownPair_10 : decode cX8_knownPair 10 = .ok (.iload_n 3, 1) := by decide +kernel
theorem dX8_knownPair_11 : decode cX8_knownPair 11 = .ok (.aload_n 0, 1) := by decide +kernel
theorem dX8_knownPair_12 : decode cX8_knownPair 12 = .ok (.getfield 21, 3) := by decide +kernel
theorem dX8_knownPair_15 : decode cX8_knownPair 15 = .ok (.getfield 258, 3) := by decide +kernel
theorem dX8_knownPair_18 : decode cX8_knownPair 18 = .ok (.if_icmp .ge 60, 3) := by decide +kernel
theorem dX8_knownPair_21 : decode cX8_knownPair 21 = .ok (.aload_n 2, 1) := by decide +kernel
theorem dX8_knownPair_22 : decode cX8_knownPair 22 = .ok (.ifnull 56, 3) := by decide +kernel
theorem dX8_knownPair_25 : decode cX8_knownPair 25 = .ok (.aload_n 2, 1) := by decide +kernel
theorem dX8_knownPair_26 : decode cX8_knownPair 26 = .ok (.getfield 273, 3) := by decide +kernel
theorem dX8_knownPair_29 : decode cX8_knownPair 29 = .ok (.invokevirtual 63, 3) := by decide +kernel
theorem dX8_knownPair_32 : decode cX8_knownPair 32 = .ok (.aload_n 1, 1) := by decide +kernel
theorem dX8_knownPair_33 : decode cX8_knownPair 33 = .ok (.getfield 187, 3) := by decide +kernel
theorem dX8_knownPair_36 : decode cX8_knownPair 36 = .ok (.if_icmp .ne 31, 3) := by decide +kernel
theorem dX8_knownPair_39 : decode cX8_knownPair 39 = .ok (.aload_n 2, 1) := by decide +kernel
theorem dX8_knownPair_40 : decode cX8_knownPair 40 = .ok (.getfield 273, 3) := by decide +kernel
theorem dX8_knownPair_43 : decode cX8_knownPair 43 = .ok (.iconst 0, 1) := by decide +kernel
theorem dX8_knownPair_44 : decode cX8_knownPair 44 = .ok (.aload_n 0, 1) := by decide +kernel
theorem dX8_knownPair_45 : decode cX8_knownPair 45 = .ok (.getfield 38, 3) := by decide +kernel
theorem dX8_knownPair_48 : decode cX8_knownPair 48 = .ok (.getfield 373, 3) := by decide +kernel
theorem dX8_knownPair_51 : decode cX8_knownPair 51 = .ok (.aload_n 1, 1) := by decide +kernel
theorem dX8_knownPair_52 : decode cX8_knownPair 52 = .ok (.getfield 224, 3) := by decide +kernel
theorem dX8_knownPair_55 : decode cX8_knownPair 55 = .ok (.aload_n 1, 1) := by decide +kernel
theorem dX8_knownPair_56 : decode cX8_knownPair 56 = .ok (.getfield 187, 3) := by decide +kernel
theorem dX8_knownPair_59 : decode cX8_knownPair 59 = .ok (.invokevirtual 382, 3) := by decide +kernel
theorem dX8_knownPair_62 : decode cX8_knownPair 62 = .ok (.ifCond .eq 5, 3) := by decide +kernel
theorem dX8_knownPair_65 : decode cX8_knownPair 65 = .ok (.iload_n 3, 1) := by decide +kernel
theorem dX8_knownPair_66 : decode cX8_knownPair 66 = .ok (.ireturn, 1) := by decide +kernel
theorem dX8_knownPair_67 : decode cX8_knownPair 67 = .ok (.aload_n 2, 1) := by decide +kernel
theorem dX8_knownPair_68 : decode cX8_knownPair 68 = .ok (.getfield 265, 3) := by decide +kernel
theorem dX8_knownPair_71 : decode cX8_knownPair 71 = .ok (.astore_n 2, 1) := by decide +kernel
theorem dX8_knownPair_72 : decode cX8_knownPair 72 = .ok (.iinc 3 1, 3) := by decide +kernel
theorem dX8_knownPair_75 : decode cX8_knownPair 75 = .ok (.goto (-65), 3) := by decide +kernel
theorem dX8_knownPair_78 : decode cX8_knownPair 78 = .ok (.iconst (-1), 1) := by decide +kernel
theorem dX8_knownPair_79 : decode cX8_knownPair 79 = .ok (.ireturn, 1) := by decide +kernel
theorem dX8_like_0 : decode cX8_like 0 = .ok (.aload_n 0, 1) := by decide +kernel
theorem dX8_like_1 : decode cX8_like 1 = .ok (.iload_n 1, 1) := by decide +kernel
theorem dX8_like_2 : decode cX8_like 2 = .ok (.invokevirtual 175, 3) := by decide +kernel
theorem dX8_like_5 : decode cX8_like 5 = .ok (.pop, 1) := by decide +kernel
theorem dX8_like_6 : decode cX8_like 6 = .ok (.iconst 0, 1) := by decide +kernel
theorem dX8_like_7 : decode cX8_like 7 = .ok (.istore_n 3, 1) := by decide +kernel
theorem dX8_like_8 : decode cX8_like 8 = .ok (.iconst 0, 1) := by decide +kernel
theorem dX8_like_9 : decode cX8_like 9 = .ok (.istore 4, 2) := by decide +kernel
theorem dX8_like_11 : decode cX8_like 11 = .ok (.iload 4, 2) := by decide +kernel
theorem dX8_like_13 : decode cX8_like 13 = .ok (.aload_n 0, 1) := by decide +kernel
theorem dX8_like_14 : decode cX8_like 14 = .ok (.getfield 38, 3) := by decide +kernel
theorem dX8_like_17 : decode cX8_like 17 = .ok (.invokevirtual 136, 3) := by decide +kernel
theorem dX8_like_20 : decode cX8_like 20 = .ok (.if_icmp .ge 33, 3) := by decide +kernel
theorem dX8_like_23 : decode cX8_like 23 = .ok (.aload_n 0, 1) := by decide +kernel
theorem dX8_like_24 : decode cX8_like 24 = .ok (.getfield 38, 3) := by decide +kernel
theorem dX8_like_27 : decode cX8_like 27 = .ok (.iload_n 1, 1) := by decide +kernel
theorem dX8_like_28 : decode cX8_like 28 = .ok (.iload 4, 2) := by decide +kernel
theorem dX8_like_30 : decode cX8_like 30 = .ok (.invokevirtual 243, 3) := by decide +kernel
theorem dX8_like_33 : decode cX8_like 33 = .ok (.ifCond .eq 14, 3) := by decide +kernel
theorem dX8_like_36 : decode cX8_like 36 = .ok (.iload_n 3, 1) := by decide +kernel
theorem dX8_like_37 : decode cX8_like 37 = .ok (.iload_n 2, 1) := by decide +kernel
theorem dX8_like_38 : decode cX8_like 38 = .ok (.if_icmp .ne 6, 3) := by decide +kernel
theorem dX8_like_41 : decode cX8_like 41 = .ok (.iload 4, 2) := by decide +kernel
theorem dX8_like_43 : decode cX8_like 43 = .ok (.ireturn, 1) := by decide +kernel
theorem dX8_like_44 : decode cX8_like 44 = .ok (.iinc 3 1, 3) := by decide +kernel
theorem dX8_like_47 : decode cX8_like 47 = .ok (.iinc 4 1, 3) := by decide +kernel
theorem dX8_like_50 : decode cX8_like 50 = .ok (.goto (-39), 3) := by decide +kernel
theorem dX8_like_53 : decode cX8_like 53 = .ok (.iconst (-1), 1) := by decide +kernel
theorem dX8_like_54 : decode cX8_like 54 = .ok (.ireturn, 1) := by decide +kernel
theorem dX8_lock_0 : decode cX8_lock 0 = .ok (.aload_n 0, 1) := by decide +kernel
theorem dX8_lock_1 : decode cX8_lock 1 = .ok (.invokevirtual 149, 3) := by decide +kernel
theorem dX8_lock_4 : decode cX8_lock 4 = .ok (.astore_n 1, 1) := by decide +kernel
theorem dX8_lock_5 : decode cX8_lock 5 = .ok (.aload_n 1, 1) := by decide +kernel
theorem dX8_lock_6 : decode cX8_lock 6 = .ok (.ifnonnull 13, 3) := by decide +kernel
theorem dX8_lock_9 : decode cX8_lock 9 = .ok (.new 116, 3) := by decide +kernel
theorem dX8_lock_12 : decode cX8_lock 12 = .ok (.dup, 1) := by decide +kernel
theorem dX8_lock_13 : decode cX8_lock 13 = .ok (.ldc 153, 2) := by decide +kernel
theorem dX8_lock_15 : decode cX8_lock 15 = .ok (.invokespecial 120, 3) := by decide +kernel
theorem dX8_lock_18 : decode cX8_lock 18 = .ok (.athrow, 1) := by decide +kernel
theorem dX8_lock_19 : decode cX8_lock 19 = .ok (.aload_n 0, 1) := by decide +kernel
theorem dX8_lock_20 : decode cX8_lock 20 = .ok (.getfield 25, 3) := by decide +kernel
theorem dX8_lock_23 : decode cX8_lock 23 = .ok (.aload_n 0, 1) := by decide +kernel
theorem dX8_lock_24 : decode cX8_lock 24 = .ok (.getfield 21, 3) := by decide +kernel
theorem dX8_lock_27 : decode cX8_lock 27 = .ok (.invokevirtual 73, 3) := by decide +kernel
theorem dX8_lock_30 : decode cX8_lock 30 = .ok (.aload_n 0, 1) := by decide +kernel
theorem dX8_lock_31 : decode cX8_lock 31 = .ok (.aload_n 0, 1) := by decide +kernel
theorem dX8_lock_32 : decode cX8_lock 32 = .ok (.bipush 6, 2) := by decide +kernel
theorem dX8_lock_34 : decode cX8_lock 34 = .ok (.iconst 0, 1) := by decide +kernel
theorem dX8_lock_35 : decode cX8_lock 35 = .ok (.iconst 0, 1) := by decide +kernel
theorem dX8_lock_36 : decode cX8_lock 36 = .ok (.aload_n 1, 1) := by decide +kernel
theorem dX8_lock_37 : decode cX8_lock 37 = .ok (.invokevirtual 103, 3) := by decide +kernel
theorem dX8_lock_40 : decode cX8_lock 40 = .ok (.invokevirtual 139, 3) := by decide +kernel
theorem dX8_lock_43 : decode cX8_lock 43 = .ok (.aload_n 0, 1) := by decide +kernel
theorem dX8_lock_44 : decode cX8_lock 44 = .ok (.getfield 38, 3) := by decide +kernel
theorem dX8_lock_47 : decode cX8_lock 47 = .ok (.invokevirtual 136, 3) := by decide +kernel
theorem dX8_lock_50 : decode cX8_lock 50 = .ok (.ireturn, 1) := by decide +kernel
theorem dX8_memory_0 : decode cX8_memory 0 = .ok (.iload_n 1, 1) := by decide +kernel
theorem dX8_memory_1 : decode cX8_memory 1 = .ok (.ifCond .lt 14, 3) := by decide +kernel
theorem dX8_memory_4 : decode cX8_memory 4 = .ok (.iload_n 1, 1) := by decide +kernel
theorem dX8_memory_5 : decode cX8_memory 5 = .ok (.aload_n 0, 1) := by decide +kernel
theorem dX8_memory_6 : decode cX8_memory 6 = .ok (.getfield 21, 3) := by decide +kernel
theorem dX8_memory_9 : decode cX8_memory 9 = .ok (.getfield 258, 3) := by decide +kernel
theorem dX8_memory_12 : decode cX8_memory 12 = .ok (.if_icmp .lt 5, 3) := by decide +kernel
theorem dX8_memory_15 : decode cX8_memory 15 = .ok (.iconst (-1), 1) := by decide +kernel
theorem dX8_memory_16 : decode cX8_memory 16 = .ok (.ireturn, 1) := by decide +kernel
theorem dX8_memory_17 : decode cX8_memory 17 = .ok (.aload_n 0, 1) := by decide +kernel
theorem dX8_memory_18 : decode cX8_memory 18 = .ok (.getfield 21, 3) := by decide +kernel
theorem dX8_memory_21 : decode cX8_memory 21 = .ok (.getfield 261, 3) := by decide +kernel
theorem dX8_memory_24 : decode cX8_memory 24 = .ok (.astore 4, 2) := by decide +kernel
theorem dX8_memory_26 : decode cX8_memory 26 = .ok (.iconst 0, 1) := by decide +kernel
theorem dX8_memory_27 : decode cX8_memory 27 = .ok (.istore 5, 2) := by decide +kernel
theorem dX8_memory_29 : decode cX8_memory 29 = .ok (.iload 5, 2) := by decide +kernel
theorem dX8_memory_31 : decode cX8_memory 31 = .ok (.iload_n 1, 1) := by decide +kernel
theorem dX8_memory_32 : decode cX8_memory 32 = .ok (.if_icmp .ge 21, 3) := by decide +kernel
theorem dX8_memory_35 : decode cX8_memory 35 = .ok (.aload 4, 2) := by decide +kernel
theorem dX8_memory_37 : decode cX8_memory 37 = .ok (.ifnull 16, 3) := by decide +kernel
theorem dX8_memory_40 : decode cX8_memory 40 = .ok (.aload 4, 2) := by decide +kernel
theorem dX8_memory_42 : decode cX8_memory 42 = .ok (.getfield 265, 3) := by decide +kernel
theorem dX8_memory_45 : decode cX8_memory 45 = .ok (.astore 4, 2) := by decide +kernel
theorem dX8_memory_47 : decode cX8_memory 47 = .ok (.iinc 5 1, 3) := by decide +kernel
theorem dX8_memory_50 : decode cX8_memory 50 = .ok (.goto (-21), 3) := by decide +kernel
theorem dX8_memory_53 : decode cX8_memory 53 = .ok (.aload 4, 2) := by decide +kernel
theorem dX8_memory_55 : decode cX8_memory 55 = .ok (.ifnonnull 5, 3) := by decide +kernel
theorem dX8_memory_58 : decode cX8_memory 58 = .ok (.iconst (-1), 1) := by decide +kernel
theorem dX8_memory_59 : decode cX8_memory 59 = .ok (.ireturn, 1) := by decide +kernel
theorem dX8_memory_60 : decode cX8_memory 60 = .ok (.iload_n 2, 1) := by decide +kernel
theorem dX8_memory_61 : decode cX8_memory 61 = .ok (.ifCond .eq 15, 3) := by decide +kernel
theorem dX8_memory_64 : decode cX8_memory 64 = .ok (.aload 4, 2) := by decide +kernel
theorem dX8_memory_66 : decode cX8_memory 66 = .ok (.getfield 270, 3) := by decide +kernel
theorem dX8_memory_69 : decode cX8_memory 69 = .ok (.iload_n 3, 1) := by decide +kernel
theorem dX8_memory_70 : decode cX8_memory 70 = .ok (.invokevirtual 227, 3) := by decide +kernel
theorem dX8_memory_73 : decode cX8_memory 73 = .ok (.goto 12, 3) := by decide +kernel
theorem dX8_memory_76 : decode cX8_memory 76 = .ok (.aload 4, 2) := by decide +kernel
theorem dX8_memory_78 : decode cX8_memory 78 = .ok (.getfield 273, 3) := by decide +kernel
theorem dX8_memory_81 : decode cX8_memory 81 = .ok (.iload_n 3, 1) := by decide +kernel
theorem dX8_memory_82 : decode cX8_memory 82 = .ok (.invokevirtual 227, 3) := by decide +kernel
theorem dX8_memory_85 : decode cX8_memory 85 = .ok (.ireturn, 1) := by decide +kernel
theorem dX8_nowByte_0 : decode cX8_nowByte 0 = .ok (.aload_n 0, 1) := by decide +kernel
theorem dX8_nowByte_1 : decode cX8_nowByte 1 = .ok (.getfield 21, 3) := by decide +kernel
theorem dX8_nowByte_4 : decode cX8_nowByte 4 = .ok (.iload_n 1, 1) := by decide +kernel
theorem dX8_nowByte_5 : decode cX8_nowByte 5 = .ok (.invokevirtual 194, 3) := by decide +kernel
theorem dX8_nowByte_8 : decode cX8_nowByte 8 = .ok (.astore 4, 2) := by decide +kernel
theorem dX8_nowByte_10 : decode cX8_nowByte 10 = .ok (.aload 4, 2) := by decide +kernel
theorem dX8_nowByte_12 : decode cX8_nowByte 12 = .ok (.ifnonnull 15, 3) := by decide +kernel
theorem dX8_nowByte_15 : decode cX8_nowByte 15 = .ok (.aload_n 0, 1) := by decide +kernel
theorem dX8_nowByte_16 : decode cX8_nowByte 16 = .ok (.getfield 38, 3) := by decide +kernel
theorem dX8_nowByte_19 : decode cX8_nowByte 19 = .ok (.aload_n 2, 1) := by decide +kernel
theorem dX8_nowByte_20 : decode cX8_nowByte 20 = .ok (.iload_n 3, 1) := by decide +kernel
theorem dX8_nowByte_21 : decode cX8_nowByte 21 = .ok (.invokevirtual 217, 3) := by decide +kernel
theorem dX8_nowByte_24 : decode cX8_nowByte 24 = .ok (.goto 9, 3) := by decide +kernel
theorem dX8_nowByte_27 : decode cX8_nowByte 27 = .ok (.aload 4, 2) := by decide +kernel
theorem dX8_nowByte_29 : decode cX8_nowByte 29 = .ok (.iload_n 3, 1) := by decide +kernel
theorem dX8_nowByte_30 : decode cX8_nowByte 30 = .ok (.invokevirtual 227, 3) := by decide +kernel
theorem dX8_nowByte_33 : decode cX8_nowByte 33 = .ok (.ireturn, 1) := by decide +kernel
theorem dX8_nowSize_0 : decode cX8_nowSize 0 = .ok (.aload_n 0, 1) := by decide +kernel
theorem dX8_nowSize_1 : decode cX8_nowSize 1 = .ok (.getfield 21, 3) := by decide +kernel
theorem dX8_nowSize_4 : decode cX8_nowSize 4 = .ok (.iload_n 1, 1) := by decide +kernel
theorem dX8_nowSize_5 : decode cX8_nowSize 5 = .ok (.invokevirtual 194, 3) := by decide +kernel
theorem dX8_nowSize_8 : decode cX8_nowSize 8 = .ok (.astore_n 3, 1) := by decide +kernel
theorem dX8_nowSize_9 : decode cX8_nowSize 9 = .ok (.aload_n 3, 1) := by decide +kernel
theorem dX8_nowSize_10 : decode cX8_nowSize 10 = .ok (.ifnonnull 10, 3) := by decide +kernel
theorem dX8_nowSize_13 : decode cX8_nowSize 13 = .ok (.aload_n 2, 1) := by decide +kernel
theorem dX8_nowSize_14 : decode cX8_nowSize 14 = .ok (.getfield 187, 3) := by decide +kernel
theorem dX8_nowSize_17 : decode cX8_nowSize 17 = .ok (.goto 7, 3) := by decide +kernel
theorem dX8_nowSize_20 : decode cX8_nowSize 20 = .ok (.aload_n 3, 1) := by decide +kernel
theorem dX8_nowSize_21 : decode cX8_nowSize 21 = .ok (.invokevirtual 63, 3) := by decide +kernel
theorem dX8_nowSize_24 : decode cX8_nowSize 24 = .ok (.ireturn, 1) := by decide +kernel
theorem dX8_octet_0 : decode cX8_octet 0 = .ok (.aload_n 0, 1) := by decide +kernel
theorem dX8_octet_1 : decode cX8_octet 1 = .ok (.iload_n 1, 1) := by decide +kernel
theorem dX8_octet_2 : decode cX8_octet 2 = .ok (.invokevirtual 175, 3) := by decide +kernel
theorem dX8_octet_5 : decode cX8_octet 5 = .ok (.astore 4, 2) := by decide +kernel
theorem dX8_octet_7 : decode cX8_octet 7 = .ok (.iload_n 3, 1) := by decide +kernel
theorem dX8_octet_8 : decode cX8_octet 8 = .ok (.ifCond .eq 14, 3) := by decide +kernel
theorem dX8_octet_11 : decode cX8_octet 11 = .ok (.aload_n 0, 1) := by decide +kernel
theorem dX8_octet_12 : decode cX8_octet 12 = .ok (.iload_n 1, 1) := by decide +kernel
theorem dX8_octet_13 : decode cX8_octet 13 = .ok (.aload 4, 2) := by decide +kernel
theorem dX8_octet_15 : decode cX8_octet 15 = .ok (.iload_n 2, 1) := by decide +kernel
theorem dX8_octet_16 : decode cX8_octet 16 = .ok (.invokevirtual 213, 3) := by decide +kernel
theorem dX8_octet_19 : decode cX8_octet 19 = .ok (.goto 13, 3) := by decide +kernel
theorem dX8_octet_22 : decode cX8_octet 22 = .ok (.aload_n 0, 1) := by decide +kernel
theorem dX8_octet_23 : decode cX8_octet 23 = .ok (.getfield 38, 3) := by decide +kernel
theorem dX8_octet_26 : decode cX8_octet 26 = .ok (.aload 4, 2) := by decide +kernel
theorem dX8_octet_28 : decode cX8_octet 28 = .ok (.iload_n 2, 1) := by decide +kernel
theorem dX8_octet_29 : decode cX8_octet 29 = .ok (.invokevirtual 217, 3) := by decide +kernel
theorem dX8_octet_32 : decode cX8_octet 32 = .ok (.ireturn, 1) := by decide +kernel
theorem dX8_origin_0 : decode cX8_origin 0 = .ok (.aload_n 0, 1) := by decide +kernel
theorem dX8_origin_1 : decode cX8_origin 1 = .ok (.iload_n 1, 1) := by decide +kernel
theorem dX8_origin_2 : decode cX8_origin 2 = .ok (.invokevirtual 175, 3) := by decide +kernel
theorem dX8_origin_5 : decode cX8_origin 5 = .ok (.astore_n 3, 1) := by decide +kernel
theorem dX8_origin_6 : decode cX8_origin 6 = .ok (.iload_n 2, 1) := by decide +kernel
theorem dX8_origin_7 : decode cX8_origin 7 = .ok (.ifCond .lt 30, 3) := by decide +kernel
theorem dX8_origin_10 : decode cX8_origin 10 = .ok (.iload_n 2, 1) := by decide +kernel
end
/-! part 30g.dec -/
section
theorem dX8_origin_11 : decode cX8_origin 11 = .ok (.aload_n 3, 1) := by decide +kernel
theorem dX8_origin_12 : decode cX8_origin 12 = .ok (.getfield 187, 3) := by decide +kernel
theorem dX8_origin_15 : decode cX8_origin 15 = .ok (.if_icmp .ge 22, 3) := by decide +kernel
theorem dX8_origin_18 : decode cX8_origin 18 = .ok (.aload_n 0, 1) := by decide +kernel
theorem dX8_origin_19 : decode cX8_origin 19 = .ok (.getfield 38, 3) := by decide +kernel
theorem dX8_origin_22 : decode cX8_origin 22 = .ok (.getfield 221, 3) := by decide +kernel
theorem dX8_origin_25 : decode cX8_origin 25 = .ok (.aload_n 3, 1) := by decide +kernel
theorem dX8_origin_26 : decode cX8_origin 26 = .ok (.getfield 224, 3) := by decide +kernel
theorem dX8_origin_29 : decode cX8_origin 29 = .ok (.iload_n 2, 1) := by decide +kernel
theorem dX8_origin_30 : decode cX8_origin 30 = .ok (.iadd, 1) := by decide +kernel
theorem dX8_origin_31 : decode cX8_origin 31 = .ok (.invokevirtual 227, 3) := by decide +kernel
theorem dX8_origin_34 : decode cX8_origin 34 = .ok (.goto 4, 3) := by decide +kernel
theorem dX8_origin_37 : decode cX8_origin 37 = .ok (.iconst (-1), 1) := by decide +kernel
theorem dX8_origin_38 : decode cX8_origin 38 = .ok (.ireturn, 1) := by decide +kernel
theorem dX8_piece_0 : decode cX8_piece 0 = .ok (.aload_n 0, 1) := by decide +kernel
theorem dX8_piece_1 : decode cX8_piece 1 = .ok (.iload_n 1, 1) := by decide +kernel
theorem dX8_piece_2 : decode cX8_piece 2 = .ok (.invokevirtual 175, 3) := by decide +kernel
theorem dX8_piece_5 : decode cX8_piece 5 = .ok (.astore_n 3, 1) := by decide +kernel
theorem dX8_piece_6 : decode cX8_piece 6 = .ok (.iload_n 2, 1) := by decide +kernel
theorem dX8_piece_7 : decode cX8_piece 7 = .ok (.tableswitch 124 0 9 #[53, 58, 63, 68, 75, 92, 101, 108, 114, 119], 53) := by decide +kernel
theorem dX8_piece_60 : decode cX8_piece 60 = .ok (.aload_n 3, 1) := by decide +kernel
theorem dX8_piece_61 : decode cX8_piece 61 = .ok (.getfield 179, 3) := by decide +kernel
theorem dX8_piece_64 : decode cX8_piece 64 = .ok (.ireturn, 1) := by decide +kernel
theorem dX8_piece_65 : decode cX8_piece 65 = .ok (.aload_n 3, 1) := by decide +kernel
theorem dX8_piece_66 : decode cX8_piece 66 = .ok (.getfield 184, 3) := by decide +kernel
theorem dX8_piece_69 : decode cX8_piece 69 = .ok (.ireturn, 1) := by decide +kernel
theorem dX8_piece_70 : decode cX8_piece 70 = .ok (.aload_n 3, 1) := by decide +kernel
theorem dX8_piece_71 : decode cX8_piece 71 = .ok (.getfield 187, 3) := by decide +kernel
theorem dX8_piece_74 : decode cX8_piece 74 = .ok (.ireturn, 1) := by decide +kernel
theorem dX8_piece_75 : decode cX8_piece 75 = .ok (.aload_n 0, 1) := by decide +kernel
theorem dX8_piece_76 : decode cX8_piece 76 = .ok (.iload_n 1, 1) := by decide +kernel
theorem dX8_piece_77 : decode cX8_piece 77 = .ok (.aload_n 3, 1) := by decide +kernel
theorem dX8_piece_78 : decode cX8_piece 78 = .ok (.invokevirtual 190, 3) := by decide +kernel
theorem dX8_piece_81 : decode cX8_piece 81 = .ok (.ireturn, 1) := by decide +kernel
theorem dX8_piece_82 : decode cX8_piece 82 = .ok (.aload_n 0, 1) := by decide +kernel
theorem dX8_piece_83 : decode cX8_piece 83 = .ok (.getfield 21, 3) := by decide +kernel
theorem dX8_piece_86 : decode cX8_piece 86 = .ok (.iload_n 1, 1) := by decide +kernel
theorem dX8_piece_87 : decode cX8_piece 87 = .ok (.invokevirtual 194, 3) := by decide +kernel
theorem dX8_piece_90 : decode cX8_piece 90 = .ok (.ifnonnull 7, 3) := by decide +kernel
theorem dX8_piece_93 : decode cX8_piece 93 = .ok (.iconst 0, 1) := by decide +kernel
theorem dX8_piece_94 : decode cX8_piece 94 = .ok (.goto 4, 3) := by decide +kernel
theorem dX8_piece_97 : decode cX8_piece 97 = .ok (.iconst 1, 1) := by decide +kernel
theorem dX8_piece_98 : decode cX8_piece 98 = .ok (.ireturn, 1) := by decide +kernel
theorem dX8_piece_99 : decode cX8_piece 99 = .ok (.aload_n 0, 1) := by decide +kernel
theorem dX8_piece_100 : decode cX8_piece 100 = .ok (.getfield 38, 3) := by decide +kernel
theorem dX8_piece_103 : decode cX8_piece 103 = .ok (.iload_n 1, 1) := by decide +kernel
theorem dX8_piece_104 : decode cX8_piece 104 = .ok (.invokevirtual 163, 3) := by decide +kernel
theorem dX8_piece_107 : decode cX8_piece 107 = .ok (.ireturn, 1) := by decide +kernel
theorem dX8_piece_108 : decode cX8_piece 108 = .ok (.aload_n 0, 1) := by decide +kernel
theorem dX8_piece_109 : decode cX8_piece 109 = .ok (.iload_n 1, 1) := by decide +kernel
theorem dX8_piece_110 : decode cX8_piece 110 = .ok (.aload_n 3, 1) := by decide +kernel
theorem dX8_piece_111 : decode cX8_piece 111 = .ok (.invokevirtual 198, 3) := by decide +kernel
theorem dX8_piece_114 : decode cX8_piece 114 = .ok (.ireturn, 1) := by decide +kernel
theorem dX8_piece_115 : decode cX8_piece 115 = .ok (.aload_n 0, 1) := by decide +kernel
theorem dX8_piece_116 : decode cX8_piece 116 = .ok (.aload_n 3, 1) := by decide +kernel
theorem dX8_piece_117 : decode cX8_piece 117 = .ok (.invokevirtual 201, 3) := by decide +kernel
theorem dX8_piece_120 : decode cX8_piece 120 = .ok (.ireturn, 1) := by decide +kernel
theorem dX8_piece_121 : decode cX8_piece 121 = .ok (.aload_n 3, 1) := by decide +kernel
theorem dX8_piece_122 : decode cX8_piece 122 = .ok (.getfield 205, 3) := by decide +kernel
theorem dX8_piece_125 : decode cX8_piece 125 = .ok (.ireturn, 1) := by decide +kernel
theorem dX8_piece_126 : decode cX8_piece 126 = .ok (.aload_n 3, 1) := by decide +kernel
theorem dX8_piece_127 : decode cX8_piece 127 = .ok (.getfield 208, 3) := by decide +kernel
theorem dX8_piece_130 : decode cX8_piece 130 = .ok (.ireturn, 1) := by decide +kernel
theorem dX8_piece_131 : decode cX8_piece 131 = .ok (.new 142, 3) := by decide +kernel
theorem dX8_piece_134 : decode cX8_piece 134 = .ok (.dup, 1) := by decide +kernel
theorem dX8_piece_135 : decode cX8_piece 135 = .ok (.ldc 211, 2) := by decide +kernel
theorem dX8_piece_137 : decode cX8_piece 137 = .ok (.invokespecial 146, 3) := by decide +kernel
theorem dX8_piece_140 : decode cX8_piece 140 = .ok (.athrow, 1) := by decide +kernel
theorem dX8_pieceOrThrow_0 : decode cX8_pieceOrThrow 0 = .ok (.aload_n 0, 1) := by decide +kernel
theorem dX8_pieceOrThrow_1 : decode cX8_pieceOrThrow 1 = .ok (.getfield 38, 3) := by decide +kernel
theorem dX8_pieceOrThrow_4 : decode cX8_pieceOrThrow 4 = .ok (.iload_n 1, 1) := by decide +kernel
theorem dX8_pieceOrThrow_5 : decode cX8_pieceOrThrow 5 = .ok (.invokevirtual 241, 3) := by decide +kernel
theorem dX8_pieceOrThrow_8 : decode cX8_pieceOrThrow 8 = .ok (.astore_n 2, 1) := by decide +kernel
theorem dX8_pieceOrThrow_9 : decode cX8_pieceOrThrow 9 = .ok (.aload_n 2, 1) := by decide +kernel
theorem dX8_pieceOrThrow_10 : decode cX8_pieceOrThrow 10 = .ok (.ifnonnull 14, 3) := by decide +kernel
theorem dX8_pieceOrThrow_13 : decode cX8_pieceOrThrow 13 = .ok (.new 321, 3) := by decide +kernel
theorem dX8_pieceOrThrow_16 : decode cX8_pieceOrThrow 16 = .ok (.dup, 1) := by decide +kernel
theorem dX8_pieceOrThrow_17 : decode cX8_pieceOrThrow 17 = .ok (.ldc_w 323, 3) := by decide +kernel
theorem dX8_pieceOrThrow_20 : decode cX8_pieceOrThrow 20 = .ok (.invokespecial 325, 3) := by decide +kernel
theorem dX8_pieceOrThrow_23 : decode cX8_pieceOrThrow 23 = .ok (.athrow, 1) := by decide +kernel
theorem dX8_pieceOrThrow_24 : decode cX8_pieceOrThrow 24 = .ok (.aload_n 2, 1) := by decide +kernel
theorem dX8_pieceOrThrow_25 : decode cX8_pieceOrThrow 25 = .ok (.areturn, 1) := by decide +kernel
theorem dX8_rememberAhead_0 : decode cX8_rememberAhead 0 = .ok (.aload_n 0, 1) := by decide +kernel
theorem dX8_rememberAhead_1 : decode cX8_rememberAhead 1 = .ok (.getfield 123, 3) := by decide +kernel
theorem dX8_rememberAhead_4 : decode cX8_rememberAhead 4 = .ok (.aload_n 0, 1) := by decide +kernel
theorem dX8_rememberAhead_5 : decode cX8_rememberAhead 5 = .ok (.getfield 31, 3) := by decide +kernel
theorem dX8_rememberAhead_8 : decode cX8_rememberAhead 8 = .ok (.arraylength, 1) := by decide +kernel
theorem dX8_rememberAhead_9 : decode cX8_rememberAhead 9 = .ok (.if_icmp .lt 7, 3) := by decide +kernel
theorem dX8_rememberAhead_12 : decode cX8_rememberAhead 12 = .ok (.aload_n 0, 1) := by decide +kernel
theorem dX8_rememberAhead_13 : decode cX8_rememberAhead 13 = .ok (.invokevirtual 331, 3) := by decide +kernel
theorem dX8_rememberAhead_16 : decode cX8_rememberAhead 16 = .ok (.aload_n 0, 1) := by decide +kernel
theorem dX8_rememberAhead_17 : decode cX8_rememberAhead 17 = .ok (.getfield 123, 3) := by decide +kernel
theorem dX8_rememberAhead_20 : decode cX8_rememberAhead 20 = .ok (.ifCond .lt 53, 3) := by decide +kernel
theorem dX8_rememberAhead_23 : decode cX8_rememberAhead 23 = .ok (.aload_n 0, 1) := by decide +kernel
theorem dX8_rememberAhead_24 : decode cX8_rememberAhead 24 = .ok (.getfield 123, 3) := by decide +kernel
theorem dX8_rememberAhead_27 : decode cX8_rememberAhead 27 = .ok (.aload_n 0, 1) := by decide +kernel
theorem dX8_rememberAhead_28 : decode cX8_rememberAhead 28 = .ok (.getfield 31, 3) := by decide +kernel
theorem dX8_rememberAhead_31 : decode cX8_rememberAhead 31 = .ok (.arraylength, 1) := by decide +kernel
theorem dX8_rememberAhead_32 : decode cX8_rememberAhead 32 = .ok (.if_icmp .ge 41, 3) := by decide +kernel
theorem dX8_rememberAhead_35 : decode cX8_rememberAhead 35 = .ok (.aload_n 0, 1) := by decide +kernel
theorem dX8_rememberAhead_36 : decode cX8_rememberAhead 36 = .ok (.getfield 31, 3) := by decide +kernel
theorem dX8_rememberAhead_39 : decode cX8_rememberAhead 39 = .ok (.aload_n 0, 1) := by decide +kernel
theorem dX8_rememberAhead_40 : decode cX8_rememberAhead 40 = .ok (.getfield 123, 3) := by decide +kernel
theorem dX8_rememberAhead_43 : decode cX8_rememberAhead 43 = .ok (.aaload, 1) := by decide +kernel
theorem dX8_rememberAhead_44 : decode cX8_rememberAhead 44 = .ok (.ifnull 29, 3) := by decide +kernel
theorem dX8_rememberAhead_47 : decode cX8_rememberAhead 47 = .ok (.aload_n 0, 1) := by decide +kernel
theorem dX8_rememberAhead_48 : decode cX8_rememberAhead 48 = .ok (.getfield 31, 3) := by decide +kernel
theorem dX8_rememberAhead_51 : decode cX8_rememberAhead 51 = .ok (.aload_n 0, 1) := by decide +kernel
theorem dX8_rememberAhead_52 : decode cX8_rememberAhead 52 = .ok (.getfield 123, 3) := by decide +kernel
theorem dX8_rememberAhead_55 : decode cX8_rememberAhead 55 = .ok (.aaload, 1) := by decide +kernel
theorem dX8_rememberAhead_56 : decode cX8_rememberAhead 56 = .ok (.aload_n 0, 1) := by decide +kernel
theorem dX8_rememberAhead_57 : decode cX8_rememberAhead 57 = .ok (.getfield 25, 3) := by decide +kernel
theorem dX8_rememberAhead_60 : decode cX8_rememberAhead 60 = .ok (.invokevirtual 73, 3) := by decide +kernel
theorem dX8_rememberAhead_63 : decode cX8_rememberAhead 63 = .ok (.aload_n 0, 1) := by decide +kernel
theorem dX8_rememberAhead_64 : decode cX8_rememberAhead 64 = .ok (.dup, 1) := by decide +kernel
theorem dX8_rememberAhead_65 : decode cX8_rememberAhead 65 = .ok (.getfield 123, 3) := by decide +kernel
theorem dX8_rememberAhead_68 : decode cX8_rememberAhead 68 = .ok (.iconst 1, 1) := by decide +kernel
theorem dX8_rememberAhead_69 : decode cX8_rememberAhead 69 = .ok (.iadd, 1) := by decide +kernel
theorem dX8_rememberAhead_70 : decode cX8_rememberAhead 70 = .ok (.putfield 123, 3) := by decide +kernel
theorem dX8_rememberAhead_73 : decode cX8_rememberAhead 73 = .ok (.return_, 1) := by decide +kernel
theorem dX8_restore_0 : decode cX8_restore 0 = .ok (.aload_n 0, 1) := by decide +kernel
theorem dX8_restore_1 : decode cX8_restore 1 = .ok (.iconst 0, 1) := by decide +kernel
theorem dX8_restore_2 : decode cX8_restore 2 = .ok (.putfield 334, 3) := by decide +kernel
theorem dX8_restore_5 : decode cX8_restore 5 = .ok (.aload_n 0, 1) := by decide +kernel
theorem dX8_restore_6 : decode cX8_restore 6 = .ok (.getfield 21, 3) := by decide +kernel
theorem dX8_restore_9 : decode cX8_restore 9 = .ok (.aload_n 1, 1) := by decide +kernel
theorem dX8_restore_10 : decode cX8_restore 10 = .ok (.invokevirtual 73, 3) := by decide +kernel
theorem dX8_restore_13 : decode cX8_restore 13 = .ok (.aload_n 0, 1) := by decide +kernel
theorem dX8_restore_14 : decode cX8_restore 14 = .ok (.getfield 38, 3) := by decide +kernel
theorem dX8_restore_17 : decode cX8_restore 17 = .ok (.aload_n 0, 1) := by decide +kernel
theorem dX8_restore_18 : decode cX8_restore 18 = .ok (.getfield 21, 3) := by decide +kernel
theorem dX8_restore_21 : decode cX8_restore 21 = .ok (.getfield 130, 3) := by decide +kernel
theorem dX8_restore_24 : decode cX8_restore 24 = .ok (.aload_n 0, 1) := by decide +kernel
theorem dX8_restore_25 : decode cX8_restore 25 = .ok (.getfield 21, 3) := by decide +kernel
theorem dX8_restore_28 : decode cX8_restore 28 = .ok (.invokevirtual 361, 3) := by decide +kernel
theorem dX8_restore_31 : decode cX8_restore 31 = .ok (.aload_n 0, 1) := by decide +kernel
theorem dX8_restore_32 : decode cX8_restore 32 = .ok (.getfield 48, 3) := by decide +kernel
theorem dX8_restore_35 : decode cX8_restore 35 = .ok (.aload_n 0, 1) := by decide +kernel
theorem dX8_restore_36 : decode cX8_restore 36 = .ok (.getfield 21, 3) := by decide +kernel
theorem dX8_restore_39 : decode cX8_restore 39 = .ok (.aload_n 0, 1) := by decide +kernel
theorem dX8_restore_40 : decode cX8_restore 40 = .ok (.getfield 38, 3) := by decide +kernel
theorem dX8_restore_43 : decode cX8_restore 43 = .ok (.invokevirtual 365, 3) := by decide +kernel
theorem dX8_restore_46 : decode cX8_restore 46 = .ok (.pop, 1) := by decide +kernel
theorem dX8_restore_47 : decode cX8_restore 47 = .ok (.return_, 1) := by decide +kernel
theorem dX8_rule_0 : decode cX8_rule 0 = .ok (.iload_n 1, 1) := by decide +kernel
theorem dX8_rule_1 : decode cX8_rule 1 = .ok (.ifCond .eq 18, 3) := by decide +kernel
theorem dX8_rule_4 : decode cX8_rule 4 = .ok (.iload_n 1, 1) := by decide +kernel
theorem dX8_rule_5 : decode cX8_rule 5 = .ok (.iconst 1, 1) := by decide +kernel
theorem dX8_rule_6 : decode cX8_rule 6 = .ok (.if_icmp .eq 13, 3) := by decide +kernel
theorem dX8_rule_9 : decode cX8_rule 9 = .ok (.new 142, 3) := by decide +kernel
theorem dX8_rule_12 : decode cX8_rule 12 = .ok (.dup, 1) := by decide +kernel
theorem dX8_rule_13 : decode cX8_rule 13 = .ok (.ldc 144, 2) := by decide +kernel
theorem dX8_rule_15 : decode cX8_rule 15 = .ok (.invokespecial 146, 3) := by decide +kernel
theorem dX8_rule_18 : decode cX8_rule 18 = .ok (.athrow, 1) := by decide +kernel
theorem dX8_rule_19 : decode cX8_rule 19 = .ok (.iload_n 1, 1) := by decide +kernel
theorem dX8_rule_20 : decode cX8_rule 20 = .ok (.ifCond .ne 15, 3) := by decide +kernel
theorem dX8_rule_23 : decode cX8_rule 23 = .ok (.iload_n 2, 1) := by decide +kernel
theorem dX8_rule_24 : decode cX8_rule 24 = .ok (.ifCond .lt 22, 3) := by decide +kernel
theorem dX8_rule_27 : decode cX8_rule 27 = .ok (.iload_n 2, 1) := by decide +kernel
theorem dX8_rule_28 : decode cX8_rule 28 = .ok (.iconst 1, 1) := by decide +kernel
theorem dX8_rule_29 : decode cX8_rule 29 = .ok (.if_icmp .le 27, 3) := by decide +kernel
theorem dX8_rule_32 : decode cX8_rule 32 = .ok (.goto 14, 3) := by decide +kernel
theorem dX8_rule_35 : decode cX8_rule 35 = .ok (.iload_n 2, 1) := by decide +kernel
theorem dX8_rule_36 : decode cX8_rule 36 = .ok (.iconst 1, 1) := by decide +kernel
theorem dX8_rule_37 : decode cX8_rule 37 = .ok (.if_icmp .lt 9, 3) := by decide +kernel
theorem dX8_rule_40 : decode cX8_rule 40 = .ok (.iload_n 2, 1) := by decide +kernel
theorem dX8_rule_41 : decode cX8_rule 41 = .ok (.bipush 40, 2) := by decide +kernel
theorem dX8_rule_43 : decode cX8_rule 43 = .ok (.if_icmp .le 13, 3) := by decide +kernel
theorem dX8_rule_46 : decode cX8_rule 46 = .ok (.new 116, 3) := by decide +kernel
theorem dX8_rule_49 : decode cX8_rule 49 = .ok (.dup, 1) := by decide +kernel
theorem dX8_rule_50 : decode cX8_rule 50 = .ok (.ldc 147, 2) := by decide +kernel
theorem dX8_rule_52 : decode cX8_rule 52 = .ok (.invokespecial 120, 3) := by decide +kernel
theorem dX8_rule_55 : decode cX8_rule 55 = .ok (.athrow, 1) := by decide +kernel
theorem dX8_rule_56 : decode cX8_rule 56 = .ok (.aload_n 0, 1) := by decide +kernel
theorem dX8_rule_57 : decode cX8_rule 57 = .ok (.getfield 25, 3) := by decide +kernel
theorem dX8_rule_60 : decode cX8_rule 60 = .ok (.aload_n 0, 1) := by decide +kernel
theorem dX8_rule_61 : decode cX8_rule 61 = .ok (.getfield 21, 3) := by decide +kernel
theorem dX8_rule_64 : decode cX8_rule 64 = .ok (.invokevirtual 73, 3) := by decide +kernel
theorem dX8_rule_67 : decode cX8_rule 67 = .ok (.iload_n 1, 1) := by decide +kernel
theorem dX8_rule_68 : decode cX8_rule 68 = .ok (.ifCond .ne 27, 3) := by decide +kernel
theorem dX8_rule_71 : decode cX8_rule 71 = .ok (.aload_n 0, 1) := by decide +kernel
theorem dX8_rule_72 : decode cX8_rule 72 = .ok (.aload_n 0, 1) := by decide +kernel
theorem dX8_rule_73 : decode cX8_rule 73 = .ok (.iload_n 2, 1) := by decide +kernel
theorem dX8_rule_74 : decode cX8_rule 74 = .ok (.iconst 1, 1) := by decide +kernel
theorem dX8_rule_75 : decode cX8_rule 75 = .ok (.if_icmp .ne 7, 3) := by decide +kernel
theorem dX8_rule_78 : decode cX8_rule 78 = .ok (.iconst 3, 1) := by decide +kernel
theorem dX8_rule_79 : decode cX8_rule 79 = .ok (.goto 4, 3) := by decide +kernel
theorem dX8_rule_82 : decode cX8_rule 82 = .ok (.iconst 4, 1) := by decide +kernel
theorem dX8_rule_83 : decode cX8_rule 83 = .ok (.iconst 0, 1) := by decide +kernel
theorem dX8_rule_84 : decode cX8_rule 84 = .ok (.iconst 0, 1) := by decide +kernel
theorem dX8_rule_85 : decode cX8_rule 85 = .ok (.aconst_null, 1) := by decide +kernel
theorem dX8_rule_86 : decode cX8_rule 86 = .ok (.invokevirtual 103, 3) := by decide +kernel
theorem dX8_rule_89 : decode cX8_rule 89 = .ok (.invokevirtual 139, 3) := by decide +kernel
theorem dX8_rule_92 : decode cX8_rule 92 = .ok (.goto 15, 3) := by decide +kernel
theorem dX8_rule_95 : decode cX8_rule 95 = .ok (.aload_n 0, 1) := by decide +kernel
theorem dX8_rule_96 : decode cX8_rule 96 = .ok (.aload_n 0, 1) := by decide +kernel
theorem dX8_rule_97 : decode cX8_rule 97 = .ok (.iconst 5, 1) := by decide +kernel
theorem dX8_rule_98 : decode cX8_rule 98 = .ok (.iload_n 2, 1) := by decide +kernel
theorem dX8_rule_99 : decode cX8_rule 99 = .ok (.iconst 0, 1) := by decide +kernel
theorem dX8_rule_100 : decode cX8_rule 100 = .ok (.aconst_null, 1) := by decide +kernel
theorem dX8_rule_101 : decode cX8_rule 101 = .ok (.invokevirtual 103, 3) := by decide +kernel
theorem dX8_rule_104 : decode cX8_rule 104 = .ok (.invokevirtual 139, 3) := by decide +kernel
theorem dX8_rule_107 : decode cX8_rule 107 = .ok (.aload_n 0, 1) := by decide +kernel
theorem dX8_rule_108 : decode cX8_rule 108 = .ok (.getfield 38, 3) := by decide +kernel
theorem dX8_rule_111 : decode cX8_rule 111 = .ok (.invokevirtual 136, 3) := by decide +kernel
theorem dX8_rule_114 : decode cX8_rule 114 = .ok (.ireturn, 1) := by decide +kernel
theorem dX8_smallLetter_0 : decode cX8_smallLetter 0 = .ok (.iload_n 0, 1) := by decide +kernel
theorem dX8_smallLetter_1 : decode cX8_smallLetter 1 = .ok (.bipush 65, 2) := by decide +kernel
theorem dX8_smallLetter_3 : decode cX8_smallLetter 3 = .ok (.if_icmp .lt 16, 3) := by decide +kernel
theorem dX8_smallLetter_6 : decode cX8_smallLetter 6 = .ok (.iload_n 0, 1) := by decide +kernel
theorem dX8_smallLetter_7 : decode cX8_smallLetter 7 = .ok (.bipush 90, 2) := by decide +kernel
theorem dX8_smallLetter_9 : decode cX8_smallLetter 9 = .ok (.if_icmp .gt 10, 3) := by decide +kernel
theorem dX8_smallLetter_12 : decode cX8_smallLetter 12 = .ok (.iload_n 0, 1) := by decide +kernel
theorem dX8_smallLetter_13 : decode cX8_smallLetter 13 = .ok (.bipush 32, 2) := by decide +kernel
theorem dX8_smallLetter_15 : decode cX8_smallLetter 15 = .ok (.iadd, 1) := by decide +kernel
theorem dX8_smallLetter_16 : decode cX8_smallLetter 16 = .ok (.goto 4, 3) := by decide +kernel
theorem dX8_smallLetter_19 : decode cX8_smallLetter 19 = .ok (.iload_n 0, 1) := by decide +kernel
theorem dX8_smallLetter_20 : decode cX8_smallLetter 20 = .ok (.ireturn, 1) := by decide +kernel
theorem dX8_spread_0 : decode cX8_spread 0 = .ok (.aload_n 0, 1) := by decide +kernel
theorem dX8_spread_1 : decode cX8_spread 1 = .ok (.getfield 25, 3) := by decide +kernel
theorem dX8_spread_4 : decode cX8_spread 4 = .ok (.aload_n 0, 1) := by decide +kernel
theorem dX8_spread_5 : decode cX8_spread 5 = .ok (.getfield 21, 3) := by decide +kernel
theorem dX8_spread_8 : decode cX8_spread 8 = .ok (.invokevirtual 73, 3) := by decide +kernel
theorem dX8_spread_11 : decode cX8_spread 11 = .ok (.aload_n 0, 1) := by decide +kernel
theorem dX8_spread_12 : decode cX8_spread 12 = .ok (.aload_n 0, 1) := by decide +kernel
theorem dX8_spread_13 : decode cX8_spread 13 = .ok (.bipush 9, 2) := by decide +kernel
theorem dX8_spread_15 : decode cX8_spread 15 = .ok (.iload_n 1, 1) := by decide +kernel
theorem dX8_spread_16 : decode cX8_spread 16 = .ok (.iconst 0, 1) := by decide +kernel
theorem dX8_spread_17 : decode cX8_spread 17 = .ok (.aconst_null, 1) := by decide +kernel
theorem dX8_spread_18 : decode cX8_spread 18 = .ok (.invokevirtual 103, 3) := by decide +kernel
theorem dX8_spread_21 : decode cX8_spread 21 = .ok (.invokevirtual 139, 3) := by decide +kernel
theorem dX8_spread_24 : decode cX8_spread 24 = .ok (.aload_n 0, 1) := by decide +kernel
theorem dX8_spread_25 : decode cX8_spread 25 = .ok (.getfield 38, 3) := by decide +kernel
theorem dX8_spread_28 : decode cX8_spread 28 = .ok (.iload_n 1, 1) := by decide +kernel
theorem dX8_spread_29 : decode cX8_spread 29 = .ok (.invokevirtual 163, 3) := by decide +kernel
theorem dX8_spread_32 : decode cX8_spread 32 = .ok (.iconst 1, 1) := by decide +kernel
theorem dX8_spread_33 : decode cX8_spread 33 = .ok (.isub, 1) := by decide +kernel
theorem dX8_spread_34 : decode cX8_spread 34 = .ok (.ireturn, 1) := by decide +kernel
theorem dX8_spreadPiece_0 : decode cX8_spreadPiece 0 = .ok (.aload_n 0, 1) := by decide +kernel
theorem dX8_spreadPiece_1 : decode cX8_spreadPiece 1 = .ok (.getfield 38, 3) := by decide +kernel
theorem dX8_spreadPiece_4 : decode cX8_spreadPiece 4 = .ok (.iload_n 1, 1) := by decide +kernel
theorem dX8_spreadPiece_5 : decode cX8_spreadPiece 5 = .ok (.invokevirtual 241, 3) := by decide +kernel
theorem dX8_spreadPiece_8 : decode cX8_spreadPiece 8 = .ok (.ifnonnull 5, 3) := by decide +kernel
theorem dX8_spreadPiece_11 : decode cX8_spreadPiece 11 = .ok (.iconst 1, 1) := by decide +kernel
theorem dX8_spreadPiece_12 : decode cX8_spreadPiece 12 = .ok (.ireturn, 1) := by decide +kernel
theorem dX8_spreadPiece_13 : decode cX8_spreadPiece 13 = .ok (.aload_n 0, 1) := by decide +kernel
theorem dX8_spreadPiece_14 : decode cX8_spreadPiece 14 = .ok (.getfield 21, 3) := by decide +kernel
theorem dX8_spreadPiece_17 : decode cX8_spreadPiece 17 = .ok (.iload_n 1, 1) := by decide +kernel
theorem dX8_spreadPiece_18 : decode cX8_spreadPiece 18 = .ok (.invokevirtual 194, 3) := by decide +kernel
theorem dX8_spreadPiece_21 : decode cX8_spreadPiece 21 = .ok (.astore_n 2, 1) := by decide +kernel
theorem dX8_spreadPiece_22 : decode cX8_spreadPiece 22 = .ok (.aload_n 2, 1) := by decide +kernel
theorem dX8_spreadPiece_23 : decode cX8_spreadPiece 23 = .ok (.ifnonnull 5, 3) := by decide +kernel
theorem dX8_spreadPiece_26 : decode cX8_spreadPiece 26 = .ok (.iconst 4, 1) := by decide +kernel
theorem dX8_spreadPiece_27 : decode cX8_spreadPiece 27 = .ok (.ireturn, 1) := by decide +kernel
theorem dX8_spreadPiece_28 : decode cX8_spreadPiece 28 = .ok (.iconst 0, 1) := by decide +kernel
theorem dX8_spreadPiece_29 : decode cX8_spreadPiece 29 = .ok (.istore_n 3, 1) := by decide +kernel
theorem dX8_spreadPiece_30 : decode cX8_spreadPiece 30 = .ok (.iload_n 3, 1) := by decide +kernel
theorem dX8_spreadPiece_31 : decode cX8_spreadPiece 31 = .ok (.aload_n 0, 1) := by decide +kernel
theorem dX8_spreadPiece_32 : decode cX8_spreadPiece 32 = .ok (.getfield 38, 3) := by decide +kernel
theorem dX8_spreadPiece_35 : decode cX8_spreadPiece 35 = .ok (.invokevirtual 136, 3) := by decide +kernel
theorem dX8_spreadPiece_38 : decode cX8_spreadPiece 38 = .ok (.if_icmp .ge 46, 3) := by decide +kernel
theorem dX8_spreadPiece_41 : decode cX8_spreadPiece 41 = .ok (.aload_n 0, 1) := by decide +kernel
theorem dX8_spreadPiece_42 : decode cX8_spreadPiece 42 = .ok (.getfield 38, 3) := by decide +kernel
theorem dX8_spreadPiece_45 : decode cX8_spreadPiece 45 = .ok (.iload_n 1, 1) := by decide +kernel
theorem dX8_spreadPiece_46 : decode cX8_spreadPiece 46 = .ok (.iload_n 3, 1) := by decide +kernel
theorem dX8_spreadPiece_47 : decode cX8_spreadPiece 47 = .ok (.invokevirtual 243, 3) := by decide +kernel
theorem dX8_spreadPiece_50 : decode cX8_spreadPiece 50 = .ok (.ifCond .eq 28, 3) := by decide +kernel
theorem dX8_spreadPiece_53 : decode cX8_spreadPiece 53 = .ok (.aload_n 0, 1) := by decide +kernel
theorem dX8_spreadPiece_54 : decode cX8_spreadPiece 54 = .ok (.getfield 48, 3) := by decide +kernel
theorem dX8_spreadPiece_57 : decode cX8_spreadPiece 57 = .ok (.aload_n 2, 1) := by decide +kernel
theorem dX8_spreadPiece_58 : decode cX8_spreadPiece 58 = .ok (.aload_n 0, 1) := by decide +kernel
theorem dX8_spreadPiece_59 : decode cX8_spreadPiece 59 = .ok (.getfield 38, 3) := by decide +kernel
theorem dX8_spreadPiece_62 : decode cX8_spreadPiece 62 = .ok (.iload_n 3, 1) := by decide +kernel
theorem dX8_spreadPiece_63 : decode cX8_spreadPiece 63 = .ok (.invokevirtual 241, 3) := by decide +kernel
theorem dX8_spreadPiece_66 : decode cX8_spreadPiece 66 = .ok (.aload_n 0, 1) := by decide +kernel
theorem dX8_spreadPiece_67 : decode cX8_spreadPiece 67 = .ok (.getfield 21, 3) := by decide +kernel
theorem dX8_spreadPiece_70 : decode cX8_spreadPiece 70 = .ok (.invokevirtual 247, 3) := by decide +kernel
theorem dX8_spreadPiece_73 : decode cX8_spreadPiece 73 = .ok (.ifCond .ne 5, 3) := by decide +kernel
theorem dX8_spreadPiece_76 : decode cX8_spreadPiece 76 = .ok (.iconst 2, 1) := by decide +kernel
theorem dX8_spreadPiece_77 : decode cX8_spreadPiece 77 = .ok (.ireturn, 1) := by decide +kernel
theorem dX8_spreadPiece_78 : decode cX8_spreadPiece 78 = .ok (.iinc 3 1, 3) := by decide +kernel
theorem dX8_spreadPiece_81 : decode cX8_spreadPiece 81 = .ok (.goto (-51), 3) := by decide +kernel
theorem dX8_spreadPiece_84 : decode cX8_spreadPiece 84 = .ok (.iconst 0, 1) := by decide +kernel
theorem dX8_spreadPiece_85 : decode cX8_spreadPiece 85 = .ok (.istore_n 3, 1) := by decide +kernel
theorem dX8_spreadPiece_86 : decode cX8_spreadPiece 86 = .ok (.iload_n 3, 1) := by decide +kernel
theorem dX8_spreadPiece_87 : decode cX8_spreadPiece 87 = .ok (.aload_n 0, 1) := by decide +kernel
theorem dX8_spreadPiece_88 : decode cX8_spreadPiece 88 = .ok (.getfield 38, 3) := by decide +kernel
theorem dX8_spreadPiece_91 : decode cX8_spreadPiece 91 = .ok (.invokevirtual 136, 3) := by decide +kernel
theorem dX8_spreadPiece_94 : decode cX8_spreadPiece 94 = .ok (.if_icmp .ge 30, 3) := by decide +kernel
theorem dX8_spreadPiece_97 : decode cX8_spreadPiece 97 = .ok (.aload_n 0, 1) := by decide +kernel
theorem dX8_spreadPiece_98 : decode cX8_spreadPiece 98 = .ok (.getfield 38, 3) := by decide +kernel
theorem dX8_spreadPiece_101 : decode cX8_spreadPiece 101 = .ok (.iload_n 1, 1) := by decide +kernel
theorem dX8_spreadPiece_102 : decode cX8_spreadPiece 102 = .ok (.iload_n 3, 1) := by decide +kernel
theorem dX8_spreadPiece_103 : decode cX8_spreadPiece 103 = .ok (.invokevirtual 243, 3) := by decide +kernel
theorem dX8_spreadPiece_106 : decode cX8_spreadPiece 106 = .ok (.ifCond .eq 12, 3) := by decide +kernel
theorem dX8_spreadPiece_109 : decode cX8_spreadPiece 109 = .ok (.aload_n 0, 1) := by decide +kernel
theorem dX8_spreadPiece_110 : decode cX8_spreadPiece 110 = .ok (.getfield 21, 3) := by decide +kernel
theorem dX8_spreadPiece_113 : decode cX8_spreadPiece 113 = .ok (.iload_n 3, 1) := by decide +kernel
theorem dX8_spreadPiece_114 : decode cX8_spreadPiece 114 = .ok (.aload_n 2, 1) := by decide +kernel
theorem dX8_spreadPiece_115 : decode cX8_spreadPiece 115 = .ok (.invokevirtual 369, 3) := by decide +kernel
theorem dX8_spreadPiece_118 : decode cX8_spreadPiece 118 = .ok (.iinc 3 1, 3) := by decide +kernel
theorem dX8_spreadPiece_121 : decode cX8_spreadPiece 121 = .ok (.goto (-35), 3) := by decide +kernel
theorem dX8_spreadPiece_124 : decode cX8_spreadPiece 124 = .ok (.aload_n 0, 1) := by decide +kernel
theorem dX8_spreadPiece_125 : decode cX8_spreadPiece 125 = .ok (.getfield 48, 3) := by decide +kernel
theorem dX8_spreadPiece_128 : decode cX8_spreadPiece 128 = .ok (.aload_n 0, 1) := by decide +kernel
theorem dX8_spreadPiece_129 : decode cX8_spreadPiece 129 = .ok (.getfield 21, 3) := by decide +kernel
theorem dX8_spreadPiece_132 : decode cX8_spreadPiece 132 = .ok (.aload_n 0, 1) := by decide +kernel
theorem dX8_spreadPiece_133 : decode cX8_spreadPiece 133 = .ok (.getfield 38, 3) := by decide +kernel
theorem dX8_spreadPiece_136 : decode cX8_spreadPiece 136 = .ok (.invokevirtual 365, 3) := by decide +kernel
theorem dX8_spreadPiece_139 : decode cX8_spreadPiece 139 = .ok (.ifCond .eq 7, 3) := by decide +kernel
theorem dX8_spreadPiece_142 : decode cX8_spreadPiece 142 = .ok (.iconst 0, 1) := by decide +kernel
theorem dX8_spreadPiece_143 : decode cX8_spreadPiece 143 = .ok (.goto 4, 3) := by decide +kernel
theorem dX8_spreadPiece_146 : decode cX8_spreadPiece 146 = .ok (.iconst 3, 1) := by decide +kernel
theorem dX8_spreadPiece_147 : decode cX8_spreadPiece 147 = .ok (.ireturn, 1) := by decide +kernel
theorem dX8_swap_0 : decode cX8_swap 0 = .ok (.aload_n 0, 1) := by decide +kernel
theorem dX8_swap_1 : decode cX8_swap 1 = .ok (.getfield 25, 3) := by decide +kernel
theorem dX8_swap_4 : decode cX8_swap 4 = .ok (.aload_n 0, 1) := by decide +kernel
theorem dX8_swap_5 : decode cX8_swap 5 = .ok (.getfield 21, 3) := by decide +kernel
theorem dX8_swap_8 : decode cX8_swap 8 = .ok (.invokevirtual 73, 3) := by decide +kernel
theorem dX8_swap_11 : decode cX8_swap 11 = .ok (.aload_n 0, 1) := by decide +kernel
theorem dX8_swap_12 : decode cX8_swap 12 = .ok (.aload_n 0, 1) := by decide +kernel
theorem dX8_swap_13 : decode cX8_swap 13 = .ok (.bipush 10, 2) := by decide +kernel
theorem dX8_swap_15 : decode cX8_swap 15 = .ok (.iload_n 1, 1) := by decide +kernel
theorem dX8_swap_16 : decode cX8_swap 16 = .ok (.iload_n 2, 1) := by decide +kernel
theorem dX8_swap_17 : decode cX8_swap 17 = .ok (.aconst_null, 1) := by decide +kernel
theorem dX8_swap_18 : decode cX8_swap 18 = .ok (.invokevirtual 103, 3) := by decide +kernel
theorem dX8_swap_21 : decode cX8_swap 21 = .ok (.invokevirtual 139, 3) := by decide +kernel
theorem dX8_swap_24 : decode cX8_swap 24 = .ok (.aload_n 0, 1) := by decide +kernel
theorem dX8_swap_25 : decode cX8_swap 25 = .ok (.getfield 48, 3) := by decide +kernel
theorem dX8_swap_28 : decode cX8_swap 28 = .ok (.getfield 160, 3) := by decide +kernel
theorem dX8_swap_31 : decode cX8_swap 31 = .ok (.invokevirtual 63, 3) := by decide +kernel
theorem dX8_swap_34 : decode cX8_swap 34 = .ok (.ireturn, 1) := by decide +kernel
theorem dX8_swapPieces_0 : decode cX8_swapPieces 0 = .ok (.aload_n 0, 1) := by decide +kernel
theorem dX8_swapPieces_1 : decode cX8_swapPieces 1 = .ok (.getfield 38, 3) := by decide +kernel
theorem dX8_swapPieces_4 : decode cX8_swapPieces 4 = .ok (.iload_n 1, 1) := by decide +kernel
theorem dX8_swapPieces_5 : decode cX8_swapPieces 5 = .ok (.invokevirtual 241, 3) := by decide +kernel
theorem dX8_swapPieces_8 : decode cX8_swapPieces 8 = .ok (.astore_n 3, 1) := by decide +kernel
theorem dX8_swapPieces_9 : decode cX8_swapPieces 9 = .ok (.aload_n 0, 1) := by decide +kernel
theorem dX8_swapPieces_10 : decode cX8_swapPieces 10 = .ok (.getfield 38, 3) := by decide +kernel
theorem dX8_swapPieces_13 : decode cX8_swapPieces 13 = .ok (.iload_n 2, 1) := by decide +kernel
theorem dX8_swapPieces_14 : decode cX8_swapPieces 14 = .ok (.invokevirtual 241, 3) := by decide +kernel
theorem dX8_swapPieces_17 : decode cX8_swapPieces 17 = .ok (.astore 4, 2) := by decide +kernel
theorem dX8_swapPieces_19 : decode cX8_swapPieces 19 = .ok (.aload_n 3, 1) := by decide +kernel
theorem dX8_swapPieces_20 : decode cX8_swapPieces 20 = .ok (.ifnull 8, 3) := by decide +kernel
theorem dX8_swapPieces_23 : decode cX8_swapPieces 23 = .ok (.aload 4, 2) := by decide +kernel
theorem dX8_swapPieces_25 : decode cX8_swapPieces 25 = .ok (.ifnonnull 5, 3) := by decide +kernel
theorem dX8_swapPieces_28 : decode cX8_swapPieces 28 = .ok (.iconst 1, 1) := by decide +kernel
theorem dX8_swapPieces_29 : decode cX8_swapPieces 29 = .ok (.ireturn, 1) := by decide +kernel
theorem dX8_swapPieces_30 : decode cX8_swapPieces 30 = .ok (.iload_n 1, 1) := by decide +kernel
theorem dX8_swapPieces_31 : decode cX8_swapPieces 31 = .ok (.iload_n 2, 1) := by decide +kernel
theorem dX8_swapPieces_32 : decode cX8_swapPieces 32 = .ok (.if_icmp .ne 5, 3) := by decide +kernel
theorem dX8_swapPieces_35 : decode cX8_swapPieces 35 = .ok (.iconst 5, 1) := by decide +kernel
theorem dX8_swapPieces_36 : decode cX8_swapPieces 36 = .ok (.ireturn, 1) := by decide +kernel
theorem dX8_swapPieces_37 : decode cX8_swapPieces 37 = .ok (.aload_n 0, 1) := by decide +kernel
theorem dX8_swapPieces_38 : decode cX8_swapPieces 38 = .ok (.iload_n 1, 1) := by decide +kernel
theorem dX8_swapPieces_39 : decode cX8_swapPieces 39 = .ok (.aload_n 3, 1) := by decide +kernel
theorem dX8_swapPieces_40 : decode cX8_swapPieces 40 = .ok (.invokevirtual 190, 3) := by decide +kernel
theorem dX8_swapPieces_43 : decode cX8_swapPieces 43 = .ok (.bipush 60, 2) := by decide +kernel
theorem dX8_swapPieces_45 : decode cX8_swapPieces 45 = .ok (.if_icmp .gt 15, 3) := by decide +kernel
theorem dX8_swapPieces_48 : decode cX8_swapPieces 48 = .ok (.aload_n 0, 1) := by decide +kernel
theorem dX8_swapPieces_49 : decode cX8_swapPieces 49 = .ok (.iload_n 2, 1) := by decide +kernel
theorem dX8_swapPieces_50 : decode cX8_swapPieces 50 = .ok (.aload 4, 2) := by decide +kernel
theorem dX8_swapPieces_52 : decode cX8_swapPieces 52 = .ok (.invokevirtual 190, 3) := by decide +kernel
theorem dX8_swapPieces_55 : decode cX8_swapPieces 55 = .ok (.bipush 60, 2) := by decide +kernel
theorem dX8_swapPieces_57 : decode cX8_swapPieces 57 = .ok (.if_icmp .le 6, 3) := by decide +kernel
theorem dX8_swapPieces_60 : decode cX8_swapPieces 60 = .ok (.bipush 8, 2) := by decide +kernel
theorem dX8_swapPieces_62 : decode cX8_swapPieces 62 = .ok (.ireturn, 1) := by decide +kernel
theorem dX8_swapPieces_63 : decode cX8_swapPieces 63 = .ok (.aload_n 0, 1) := by decide +kernel
theorem dX8_swapPieces_64 : decode cX8_swapPieces 64 = .ok (.iload_n 1, 1) := by decide +kernel
theorem dX8_swapPieces_65 : decode cX8_swapPieces 65 = .ok (.aload_n 3, 1) := by decide +kernel
theorem dX8_swapPieces_66 : decode cX8_swapPieces 66 = .ok (.invokevirtual 378, 3) := by decide +kernel
theorem dX8_swapPieces_69 : decode cX8_swapPieces 69 = .ok (.astore 5, 2) := by decide +kernel
theorem dX8_swapPieces_71 : decode cX8_swapPieces 71 = .ok (.aload_n 0, 1) := by decide +kernel
theorem dX8_swapPieces_72 : decode cX8_swapPieces 72 = .ok (.iload_n 2, 1) := by decide +kernel
theorem dX8_swapPieces_73 : decode cX8_swapPieces 73 = .ok (.aload 4, 2) := by decide +kernel
theorem dX8_swapPieces_75 : decode cX8_swapPieces 75 = .ok (.invokevirtual 378, 3) := by decide +kernel
theorem dX8_swapPieces_78 : decode cX8_swapPieces 78 = .ok (.astore 6, 2) := by decide +kernel
theorem dX8_swapPieces_80 : decode cX8_swapPieces 80 = .ok (.aload_n 0, 1) := by decide +kernel
theorem dX8_swapPieces_81 : decode cX8_swapPieces 81 = .ok (.getfield 48, 3) := by decide +kernel
theorem dX8_swapPieces_84 : decode cX8_swapPieces 84 = .ok (.aload 6, 2) := by decide +kernel
theorem dX8_swapPieces_86 : decode cX8_swapPieces 86 = .ok (.aload_n 3, 1) := by decide +kernel
theorem dX8_swapPieces_87 : decode cX8_swapPieces 87 = .ok (.aload_n 0, 1) := by decide +kernel
theorem dX8_swapPieces_88 : decode cX8_swapPieces 88 = .ok (.getfield 21, 3) := by decide +kernel
theorem dX8_swapPieces_91 : decode cX8_swapPieces 91 = .ok (.invokevirtual 247, 3) := by decide +kernel
theorem dX8_swapPieces_94 : decode cX8_swapPieces 94 = .ok (.ifCond .eq 21, 3) := by decide +kernel
theorem dX8_swapPieces_97 : decode cX8_swapPieces 97 = .ok (.aload_n 0, 1) := by decide +kernel
theorem dX8_swapPieces_98 : decode cX8_swapPieces 98 = .ok (.getfield 48, 3) := by decide +kernel
theorem dX8_swapPieces_101 : decode cX8_swapPieces 101 = .ok (.aload 5, 2) := by decide +kernel
theorem dX8_swapPieces_103 : decode cX8_swapPieces 103 = .ok (.aload 4, 2) := by decide +kernel
theorem dX8_swapPieces_105 : decode cX8_swapPieces 105 = .ok (.aload_n 0, 1) := by decide +kernel
theorem dX8_swapPieces_106 : decode cX8_swapPieces 106 = .ok (.getfield 21, 3) := by decide +kernel
theorem dX8_swapPieces_109 : decode cX8_swapPieces 109 = .ok (.invokevirtual 247, 3) := by decide +kernel
theorem dX8_swapPieces_112 : decode cX8_swapPieces 112 = .ok (.ifCond .ne 5, 3) := by decide +kernel
theorem dX8_swapPieces_115 : decode cX8_swapPieces 115 = .ok (.iconst 2, 1) := by decide +kernel
theorem dX8_swapPieces_116 : decode cX8_swapPieces 116 = .ok (.ireturn, 1) := by decide +kernel
theorem dX8_swapPieces_117 : decode cX8_swapPieces 117 = .ok (.aload_n 0, 1) := by decide +kernel
theorem dX8_swapPieces_118 : decode cX8_swapPieces 118 = .ok (.getfield 21, 3) := by decide +kernel
theorem dX8_swapPieces_121 : decode cX8_swapPieces 121 = .ok (.iload_n 1, 1) := by decide +kernel
theorem dX8_swapPieces_122 : decode cX8_swapPieces 122 = .ok (.aload 6, 2) := by decide +kernel
theorem dX8_swapPieces_124 : decode cX8_swapPieces 124 = .ok (.invokevirtual 369, 3) := by decide +kernel
theorem dX8_swapPieces_127 : decode cX8_swapPieces 127 = .ok (.aload_n 0, 1) := by decide +kernel
theorem dX8_swapPieces_128 : decode cX8_swapPieces 128 = .ok (.getfield 21, 3) := by decide +kernel
theorem dX8_swapPieces_131 : decode cX8_swapPieces 131 = .ok (.iload_n 2, 1) := by decide +kernel
theorem dX8_swapPieces_132 : decode cX8_swapPieces 132 = .ok (.aload 5, 2) := by decide +kernel
theorem dX8_swapPieces_134 : decode cX8_swapPieces 134 = .ok (.invokevirtual 369, 3) := by decide +kernel
theorem dX8_swapPieces_137 : decode cX8_swapPieces 137 = .ok (.aload_n 0, 1) := by decide +kernel
theorem dX8_swapPieces_138 : decode cX8_swapPieces 138 = .ok (.getfield 48, 3) := by decide +kernel
theorem dX8_swapPieces_141 : decode cX8_swapPieces 141 = .ok (.aload_n 0, 1) := by decide +kernel
theorem dX8_swapPieces_142 : decode cX8_swapPieces 142 = .ok (.getfield 21, 3) := by decide +kernel
theorem dX8_swapPieces_145 : decode cX8_swapPieces 145 = .ok (.aload_n 0, 1) := by decide +kernel
theorem dX8_swapPieces_146 : decode cX8_swapPieces 146 = .ok (.getfield 38, 3) := by decide +kernel
theorem dX8_swapPieces_149 : decode cX8_swapPieces 149 = .ok (.invokevirtual 365, 3) := by decide +kernel
theorem dX8_swapPieces_152 : decode cX8_swapPieces 152 = .ok (.ifCond .eq 7, 3) := by decide +kernel
theorem dX8_swapPieces_155 : decode cX8_swapPieces 155 = .ok (.iconst 0, 1) := by decide +kernel
theorem dX8_swapPieces_156 : decode cX8_swapPieces 156 = .ok (.goto 4, 3) := by decide +kernel
theorem dX8_swapPieces_159 : decode cX8_swapPieces 159 = .ok (.iconst 3, 1) := by decide +kernel
theorem dX8_swapPieces_160 : decode cX8_swapPieces 160 = .ok (.ireturn, 1) := by decide +kernel
theorem dX8_takeTold_0 : decode cX8_takeTold 0 = .ok (.aload_n 0, 1) := by decide +kernel
theorem dX8_takeTold_1 : decode cX8_takeTold 1 = .ok (.getfield 14, 3) := by decide +kernel
theorem dX8_takeTold_4 : decode cX8_takeTold 4 = .ok (.invokevirtual 63, 3) := by decide +kernel
theorem dX8_takeTold_7 : decode cX8_takeTold 7 = .ok (.bipush 60, 2) := by decide +kernel
theorem dX8_takeTold_9 : decode cX8_takeTold 9 = .ok (.if_icmp .le 7, 3) := by decide +kernel
theorem dX8_takeTold_12 : decode cX8_takeTold 12 = .ok (.aconst_null, 1) := by decide +kernel
theorem dX8_takeTold_13 : decode cX8_takeTold 13 = .ok (.goto 18, 3) := by decide +kernel
theorem dX8_takeTold_16 : decode cX8_takeTold 16 = .ok (.aload_n 0, 1) := by decide +kernel
theorem dX8_takeTold_17 : decode cX8_takeTold 17 = .ok (.getfield 14, 3) := by decide +kernel
theorem dX8_takeTold_20 : decode cX8_takeTold 20 = .ok (.iconst 0, 1) := by decide +kernel
theorem dX8_takeTold_21 : decode cX8_takeTold 21 = .ok (.aload_n 0, 1) := by decide +kernel
theorem dX8_takeTold_22 : decode cX8_takeTold 22 = .ok (.getfield 14, 3) := by decide +kernel
theorem dX8_takeTold_25 : decode cX8_takeTold 25 = .ok (.invokevirtual 63, 3) := by decide +kernel
theorem dX8_takeTold_28 : decode cX8_takeTold 28 = .ok (.invokevirtual 126, 3) := by decide +kernel
theorem dX8_takeTold_31 : decode cX8_takeTold 31 = .ok (.astore_n 1, 1) := by decide +kernel
theorem dX8_takeTold_32 : decode cX8_takeTold 32 = .ok (.aload_n 0, 1) := by decide +kernel
theorem dX8_takeTold_33 : decode cX8_takeTold 33 = .ok (.getfield 14, 3) := by decide +kernel
theorem dX8_takeTold_36 : decode cX8_takeTold 36 = .ok (.iconst 0, 1) := by decide +kernel
theorem dX8_takeTold_37 : decode cX8_takeTold 37 = .ok (.invokevirtual 70, 3) := by decide +kernel
theorem dX8_takeTold_40 : decode cX8_takeTold 40 = .ok (.aload_n 1, 1) := by decide +kernel
theorem dX8_takeTold_41 : decode cX8_takeTold 41 = .ok (.areturn, 1) := by decide +kernel
theorem dX8_takeWord_0 : decode cX8_takeWord 0 = .ok (.aload_n 0, 1) := by decide +kernel
theorem dX8_takeWord_1 : decode cX8_takeWord 1 = .ok (.getfield 14, 3) := by decide +kernel
theorem dX8_takeWord_4 : decode cX8_takeWord 4 = .ok (.invokevirtual 317, 3) := by decide +kernel
theorem dX8_takeWord_7 : decode cX8_takeWord 7 = .ok (.ifCond .eq 21, 3) := by decide +kernel
theorem dX8_takeWord_10 : decode cX8_takeWord 10 = .ok (.aload_n 0, 1) := by decide +kernel
theorem dX8_takeWord_11 : decode cX8_takeWord 11 = .ok (.getfield 14, 3) := by decide +kernel
theorem dX8_takeWord_14 : decode cX8_takeWord 14 = .ok (.iconst 0, 1) := by decide +kernel
theorem dX8_takeWord_15 : decode cX8_takeWord 15 = .ok (.aload_n 0, 1) := by decide +kernel
theorem dX8_takeWord_16 : decode cX8_takeWord 16 = .ok (.getfield 14, 3) := by decide +kernel
theorem dX8_takeWord_19 : decode cX8_takeWord 19 = .ok (.invokevirtual 63, 3) := by decide +kernel
theorem dX8_takeWord_22 : decode cX8_takeWord 22 = .ok (.invokevirtual 126, 3) := by decide +kernel
theorem dX8_takeWord_25 : decode cX8_takeWord 25 = .ok (.goto 4, 3) := by decide +kernel
theorem dX8_takeWord_28 : decode cX8_takeWord 28 = .ok (.aconst_null, 1) := by decide +kernel
theorem dX8_takeWord_29 : decode cX8_takeWord 29 = .ok (.astore_n 1, 1) := by decide +kernel
theorem dX8_takeWord_30 : decode cX8_takeWord 30 = .ok (.aload_n 0, 1) := by decide +kernel
theorem dX8_takeWord_31 : decode cX8_takeWord 31 = .ok (.getfield 14, 3) := by decide +kernel
theorem dX8_takeWord_34 : decode cX8_takeWord 34 = .ok (.iconst 0, 1) := by decide +kernel
theorem dX8_takeWord_35 : decode cX8_takeWord 35 = .ok (.invokevirtual 70, 3) := by decide +kernel
theorem dX8_takeWord_38 : decode cX8_takeWord 38 = .ok (.aload_n 1, 1) := by decide +kernel
theorem dX8_takeWord_39 : decode cX8_takeWord 39 = .ok (.areturn, 1) := by decide +kernel
theorem dX8_tell_0 : decode cX8_tell 0 = .ok (.aload_n 0, 1) := by decide +kernel
theorem dX8_tell_1 : decode cX8_tell 1 = .ok (.invokevirtual 155, 3) := by decide +kernel
theorem dX8_tell_4 : decode cX8_tell 4 = .ok (.astore_n 2, 1) := by decide +kernel
theorem dX8_tell_5 : decode cX8_tell 5 = .ok (.aload_n 2, 1) := by decide +kernel
theorem dX8_tell_6 : decode cX8_tell 6 = .ok (.ifnonnull 13, 3) := by decide +kernel
theorem dX8_tell_9 : decode cX8_tell 9 = .ok (.new 116, 3) := by decide +kernel
theorem dX8_tell_12 : decode cX8_tell 12 = .ok (.dup, 1) := by decide +kernel
theorem dX8_tell_13 : decode cX8_tell 13 = .ok (.ldc 158, 2) := by decide +kernel
theorem dX8_tell_15 : decode cX8_tell 15 = .ok (.invokespecial 120, 3) := by decide +kernel
theorem dX8_tell_18 : decode cX8_tell 18 = .ok (.athrow, 1) := by decide +kernel
theorem dX8_tell_19 : decode cX8_tell 19 = .ok (.aload_n 0, 1) := by decide +kernel
theorem dX8_tell_20 : decode cX8_tell 20 = .ok (.getfield 25, 3) := by decide +kernel
theorem dX8_tell_23 : decode cX8_tell 23 = .ok (.aload_n 0, 1) := by decide +kernel
theorem dX8_tell_24 : decode cX8_tell 24 = .ok (.getfield 21, 3) := by decide +kernel
theorem dX8_tell_27 : decode cX8_tell 27 = .ok (.invokevirtual 73, 3) := by decide +kernel
theorem dX8_tell_30 : decode cX8_tell 30 = .ok (.aload_n 0, 1) := by decide +kernel
theorem dX8_tell_31 : decode cX8_tell 31 = .ok (.aload_n 0, 1) := by decide +kernel
theorem dX8_tell_32 : decode cX8_tell 32 = .ok (.bipush 12, 2) := by decide +kernel
theorem dX8_tell_34 : decode cX8_tell 34 = .ok (.iload_n 1, 1) := by decide +kernel
theorem dX8_tell_35 : decode cX8_tell 35 = .ok (.iconst 0, 1) := by decide +kernel
theorem dX8_tell_36 : decode cX8_tell 36 = .ok (.aload_n 2, 1) := by decide +kernel
theorem dX8_tell_37 : decode cX8_tell 37 = .ok (.invokevirtual 103, 3) := by decide +kernel
theorem dX8_tell_40 : decode cX8_tell 40 = .ok (.invokevirtual 139, 3) := by decide +kernel
theorem dX8_tell_43 : decode cX8_tell 43 = .ok (.aload_n 0, 1) := by decide +kernel
theorem dX8_tell_44 : decode cX8_tell 44 = .ok (.getfield 48, 3) := by decide +kernel
theorem dX8_tell_47 : decode cX8_tell 47 = .ok (.getfield 160, 3) := by decide +kernel
theorem dX8_tell_50 : decode cX8_tell 50 = .ok (.invokevirtual 63, 3) := by decide +kernel
theorem dX8_tell_53 : decode cX8_tell 53 = .ok (.ireturn, 1) := by decide +kernel
theorem dX8_tellPiece_0 : decode cX8_tellPiece 0 = .ok (.aload_n 0, 1) := by decide +kernel
theorem dX8_tellPiece_1 : decode cX8_tellPiece 1 = .ok (.getfield 38, 3) := by decide +kernel
theorem dX8_tellPiece_4 : decode cX8_tellPiece 4 = .ok (.iload_n 1, 1) := by decide +kernel
theorem dX8_tellPiece_5 : decode cX8_tellPiece 5 = .ok (.invokevirtual 241, 3) := by decide +kernel
theorem dX8_tellPiece_8 : decode cX8_tellPiece 8 = .ok (.astore_n 3, 1) := by decide +kernel
theorem dX8_tellPiece_9 : decode cX8_tellPiece 9 = .ok (.aload_n 3, 1) := by decide +kernel
theorem dX8_tellPiece_10 : decode cX8_tellPiece 10 = .ok (.ifnull 7, 3) := by decide +kernel
theorem dX8_tellPiece_13 : decode cX8_tellPiece 13 = .ok (.aload_n 2, 1) := by decide +kernel
theorem dX8_tellPiece_14 : decode cX8_tellPiece 14 = .ok (.ifnonnull 5, 3) := by decide +kernel
theorem dX8_tellPiece_17 : decode cX8_tellPiece 17 = .ok (.iconst 1, 1) := by decide +kernel
theorem dX8_tellPiece_18 : decode cX8_tellPiece 18 = .ok (.ireturn, 1) := by decide +kernel
theorem dX8_tellPiece_19 : decode cX8_tellPiece 19 = .ok (.aload_n 0, 1) := by decide +kernel
theorem dX8_tellPiece_20 : decode cX8_tellPiece 20 = .ok (.getfield 48, 3) := by decide +kernel
theorem dX8_tellPiece_23 : decode cX8_tellPiece 23 = .ok (.aload_n 2, 1) := by decide +kernel
theorem dX8_tellPiece_24 : decode cX8_tellPiece 24 = .ok (.aload_n 3, 1) := by decide +kernel
theorem dX8_tellPiece_25 : decode cX8_tellPiece 25 = .ok (.aload_n 0, 1) := by decide +kernel
theorem dX8_tellPiece_26 : decode cX8_tellPiece 26 = .ok (.getfield 21, 3) := by decide +kernel
theorem dX8_tellPiece_29 : decode cX8_tellPiece 29 = .ok (.invokevirtual 247, 3) := by decide +kernel
theorem dX8_tellPiece_32 : decode cX8_tellPiece 32 = .ok (.ifCond .ne 5, 3) := by decide +kernel
theorem dX8_tellPiece_35 : decode cX8_tellPiece 35 = .ok (.iconst 2, 1) := by decide +kernel
theorem dX8_tellPiece_36 : decode cX8_tellPiece 36 = .ok (.ireturn, 1) := by decide +kernel
theorem dX8_tellPiece_37 : decode cX8_tellPiece 37 = .ok (.aload_n 0, 1) := by decide +kernel
theorem dX8_tellPiece_38 : decode cX8_tellPiece 38 = .ok (.getfield 21, 3) := by decide +kernel
theorem dX8_tellPiece_41 : decode cX8_tellPiece 41 = .ok (.iload_n 1, 1) := by decide +kernel
theorem dX8_tellPiece_42 : decode cX8_tellPiece 42 = .ok (.aload_n 2, 1) := by decide +kernel
theorem dX8_tellPiece_43 : decode cX8_tellPiece 43 = .ok (.invokevirtual 369, 3) := by decide +kernel
theorem dX8_tellPiece_46 : decode cX8_tellPiece 46 = .ok (.aload_n 0, 1) := by decide +kernel
theorem dX8_tellPiece_47 : decode cX8_tellPiece 47 = .ok (.getfield 48, 3) := by decide +kernel
theorem dX8_tellPiece_50 : decode cX8_tellPiece 50 = .ok (.aload_n 0, 1) := by decide +kernel
theorem dX8_tellPiece_51 : decode cX8_tellPiece 51 = .ok (.getfield 21, 3) := by decide +kernel
theorem dX8_tellPiece_54 : decode cX8_tellPiece 54 = .ok (.aload_n 0, 1) := by decide +kernel
theorem dX8_tellPiece_55 : decode cX8_tellPiece 55 = .ok (.getfield 38, 3) := by decide +kernel
theorem dX8_tellPiece_58 : decode cX8_tellPiece 58 = .ok (.invokevirtual 365, 3) := by decide +kernel
theorem dX8_tellPiece_61 : decode cX8_tellPiece 61 = .ok (.ifCond .ne 5, 3) := by decide +kernel
theorem dX8_tellPiece_64 : decode cX8_tellPiece 64 = .ok (.iconst 3, 1) := by decide +kernel
theorem dX8_tellPiece_65 : decode cX8_tellPiece 65 = .ok (.ireturn, 1) := by decide +kernel
theorem dX8_tellPiece_66 : decode cX8_tellPiece 66 = .ok (.aload_n 3, 1) := by decide +kernel
theorem dX8_tellPiece_67 : decode cX8_tellPiece 67 = .ok (.getfield 187, 3) := by decide +kernel
theorem dX8_tellPiece_70 : decode cX8_tellPiece 70 = .ok (.bipush 60, 2) := by decide +kernel
theorem dX8_tellPiece_72 : decode cX8_tellPiece 72 = .ok (.if_icmp .gt 29, 3) := by decide +kernel
theorem dX8_tellPiece_75 : decode cX8_tellPiece 75 = .ok (.aload_n 0, 1) := by decide +kernel
theorem dX8_tellPiece_76 : decode cX8_tellPiece 76 = .ok (.getfield 21, 3) := by decide +kernel
theorem dX8_tellPiece_79 : decode cX8_tellPiece 79 = .ok (.aload_n 0, 1) := by decide +kernel
theorem dX8_tellPiece_80 : decode cX8_tellPiece 80 = .ok (.getfield 38, 3) := by decide +kernel
theorem dX8_tellPiece_83 : decode cX8_tellPiece 83 = .ok (.getfield 373, 3) := by decide +kernel
theorem dX8_tellPiece_86 : decode cX8_tellPiece 86 = .ok (.aload_n 3, 1) := by decide +kernel
theorem dX8_tellPiece_87 : decode cX8_tellPiece 87 = .ok (.getfield 224, 3) := by decide +kernel
theorem dX8_tellPiece_90 : decode cX8_tellPiece 90 = .ok (.aload_n 3, 1) := by decide +kernel
theorem dX8_tellPiece_91 : decode cX8_tellPiece 91 = .ok (.getfield 187, 3) := by decide +kernel
theorem dX8_tellPiece_94 : decode cX8_tellPiece 94 = .ok (.invokevirtual 126, 3) := by decide +kernel
theorem dX8_tellPiece_97 : decode cX8_tellPiece 97 = .ok (.aload_n 2, 1) := by decide +kernel
theorem dX8_tellPiece_98 : decode cX8_tellPiece 98 = .ok (.invokevirtual 374, 3) := by decide +kernel
theorem dX8_tellPiece_101 : decode cX8_tellPiece 101 = .ok (.iconst 0, 1) := by decide +kernel
theorem dX8_tellPiece_102 : decode cX8_tellPiece 102 = .ok (.ireturn, 1) := by decide +kernel
theorem dX8_twice_0 : decode cX8_twice 0 = .ok (.aload_n 0, 1) := by decide +kernel
theorem dX8_twice_1 : decode cX8_twice 1 = .ok (.invokevirtual 276, 3) := by decide +kernel
theorem dX8_twice_4 : decode cX8_twice 4 = .ok (.aload_n 0, 1) := by decide +kernel
theorem dX8_twice_5 : decode cX8_twice 5 = .ok (.getfield 42, 3) := by decide +kernel
theorem dX8_twice_8 : decode cX8_twice 8 = .ok (.invokevirtual 136, 3) := by decide +kernel
theorem dX8_twice_11 : decode cX8_twice 11 = .ok (.aload_n 0, 1) := by decide +kernel
theorem dX8_twice_12 : decode cX8_twice 12 = .ok (.getfield 38, 3) := by decide +kernel
theorem dX8_twice_15 : decode cX8_twice 15 = .ok (.invokevirtual 136, 3) := by decide +kernel
theorem dX8_twice_18 : decode cX8_twice 18 = .ok (.if_icmp .eq 5, 3) := by decide +kernel
theorem dX8_twice_21 : decode cX8_twice 21 = .ok (.iconst 0, 1) := by decide +kernel
theorem dX8_twice_22 : decode cX8_twice 22 = .ok (.ireturn, 1) := by decide +kernel
theorem dX8_twice_23 : decode cX8_twice 23 = .ok (.iconst 0, 1) := by decide +kernel
theorem dX8_twice_24 : decode cX8_twice 24 = .ok (.istore_n 1, 1) := by decide +kernel
theorem dX8_twice_25 : decode cX8_twice 25 = .ok (.iload_n 1, 1) := by decide +kernel
theorem dX8_twice_26 : decode cX8_twice 26 = .ok (.aload_n 0, 1) := by decide +kernel
theorem dX8_twice_27 : decode cX8_twice 27 = .ok (.getfield 38, 3) := by decide +kernel
theorem dX8_twice_30 : decode cX8_twice 30 = .ok (.invokevirtual 136, 3) := by decide +kernel
theorem dX8_twice_33 : decode cX8_twice 33 = .ok (.if_icmp .ge 47, 3) := by decide +kernel
theorem dX8_twice_36 : decode cX8_twice 36 = .ok (.aload_n 0, 1) := by decide +kernel
theorem dX8_twice_37 : decode cX8_twice 37 = .ok (.getfield 38, 3) := by decide +kernel
theorem dX8_twice_40 : decode cX8_twice 40 = .ok (.iload_n 1, 1) := by decide +kernel
theorem dX8_twice_41 : decode cX8_twice 41 = .ok (.invokevirtual 241, 3) := by decide +kernel
theorem dX8_twice_44 : decode cX8_twice 44 = .ok (.astore_n 2, 1) := by decide +kernel
theorem dX8_twice_45 : decode cX8_twice 45 = .ok (.aload_n 0, 1) := by decide +kernel
theorem dX8_twice_46 : decode cX8_twice 46 = .ok (.getfield 42, 3) := by decide +kernel
theorem dX8_twice_49 : decode cX8_twice 49 = .ok (.iload_n 1, 1) := by decide +kernel
theorem dX8_twice_50 : decode cX8_twice 50 = .ok (.invokevirtual 241, 3) := by decide +kernel
theorem dX8_twice_53 : decode cX8_twice 53 = .ok (.astore_n 3, 1) := by decide +kernel
theorem dX8_twice_54 : decode cX8_twice 54 = .ok (.aload_n 2, 1) := by decide +kernel
theorem dX8_twice_55 : decode cX8_twice 55 = .ok (.ifnull 17, 3) := by decide +kernel
theorem dX8_twice_58 : decode cX8_twice 58 = .ok (.aload_n 3, 1) := by decide +kernel
theorem dX8_twice_59 : decode cX8_twice 59 = .ok (.ifnull 13, 3) := by decide +kernel
theorem dX8_twice_62 : decode cX8_twice 62 = .ok (.aload_n 0, 1) := by decide +kernel
theorem dX8_twice_63 : decode cX8_twice 63 = .ok (.iload_n 1, 1) := by decide +kernel
theorem dX8_twice_64 : decode cX8_twice 64 = .ok (.aload_n 2, 1) := by decide +kernel
theorem dX8_twice_65 : decode cX8_twice 65 = .ok (.aload_n 3, 1) := by decide +kernel
theorem dX8_twice_66 : decode cX8_twice 66 = .ok (.invokevirtual 283, 3) := by decide +kernel
theorem dX8_twice_69 : decode cX8_twice 69 = .ok (.ifCond .ne 5, 3) := by decide +kernel
theorem dX8_twice_72 : decode cX8_twice 72 = .ok (.iconst 0, 1) := by decide +kernel
theorem dX8_twice_73 : decode cX8_twice 73 = .ok (.ireturn, 1) := by decide +kernel
theorem dX8_twice_74 : decode cX8_twice 74 = .ok (.iinc 1 1, 3) := by decide +kernel
theorem dX8_twice_77 : decode cX8_twice 77 = .ok (.goto (-52), 3) := by decide +kernel
theorem dX8_twice_80 : decode cX8_twice 80 = .ok (.iconst 1, 1) := by decide +kernel
theorem dX8_twice_81 : decode cX8_twice 81 = .ok (.ireturn, 1) := by decide +kernel
theorem dX8_undo_0 : decode cX8_undo 0 = .ok (.aload_n 0, 1) := by decide +kernel
theorem dX8_undo_1 : decode cX8_undo 1 = .ok (.getfield 123, 3) := by decide +kernel
theorem dX8_undo_4 : decode cX8_undo 4 = .ok (.iconst 1, 1) := by decide +kernel
theorem dX8_undo_5 : decode cX8_undo 5 = .ok (.if_icmp .lt 29, 3) := by decide +kernel
theorem dX8_undo_8 : decode cX8_undo 8 = .ok (.aload_n 0, 1) := by decide +kernel
theorem dX8_undo_9 : decode cX8_undo 9 = .ok (.getfield 123, 3) := by decide +kernel
theorem dX8_undo_12 : decode cX8_undo 12 = .ok (.aload_n 0, 1) := by decide +kernel
theorem dX8_undo_13 : decode cX8_undo 13 = .ok (.getfield 31, 3) := by decide +kernel
theorem dX8_undo_16 : decode cX8_undo 16 = .ok (.arraylength, 1) := by decide +kernel
theorem dX8_undo_17 : decode cX8_undo 17 = .ok (.if_icmp .gt 17, 3) := by decide +kernel
theorem dX8_undo_20 : decode cX8_undo 20 = .ok (.aload_n 0, 1) := by decide +kernel
theorem dX8_undo_21 : decode cX8_undo 21 = .ok (.getfield 31, 3) := by decide +kernel
theorem dX8_undo_24 : decode cX8_undo 24 = .ok (.aload_n 0, 1) := by decide +kernel
theorem dX8_undo_25 : decode cX8_undo 25 = .ok (.getfield 123, 3) := by decide +kernel
theorem dX8_undo_28 : decode cX8_undo 28 = .ok (.iconst 1, 1) := by decide +kernel
theorem dX8_undo_29 : decode cX8_undo 29 = .ok (.isub, 1) := by decide +kernel
end
/-! part 30h.dec -/
section
theorem dX8_undo_30 : decode cX8_undo 30 = .ok (.aaload, 1) := by decide +kernel
theorem dX8_undo_31 : decode cX8_undo 31 = .ok (.ifnonnull 13, 3) := by decide +kernel
theorem dX8_undo_34 : decode cX8_undo 34 = .ok (.new 170, 3) := by decide +kernel
theorem dX8_undo_37 : decode cX8_undo 37 = .ok (.dup, 1) := by decide +kernel
theorem dX8_undo_38 : decode cX8_undo 38 = .ok (.ldc 172, 2) := by decide +kernel
theorem dX8_undo_40 : decode cX8_undo 40 = .ok (.invokespecial 174, 3) := by decide +kernel
theorem dX8_undo_43 : decode cX8_undo 43 = .ok (.athrow, 1) := by decide +kernel
theorem dX8_undo_44 : decode cX8_undo 44 = .ok (.aload_n 0, 1) := by decide +kernel
theorem dX8_undo_45 : decode cX8_undo 45 = .ok (.dup, 1) := by decide +kernel
theorem dX8_undo_46 : decode cX8_undo 46 = .ok (.getfield 123, 3) := by decide +kernel
theorem dX8_undo_49 : decode cX8_undo 49 = .ok (.iconst 1, 1) := by decide +kernel
theorem dX8_undo_50 : decode cX8_undo 50 = .ok (.isub, 1) := by decide +kernel
theorem dX8_undo_51 : decode cX8_undo 51 = .ok (.putfield 123, 3) := by decide +kernel
theorem dX8_undo_54 : decode cX8_undo 54 = .ok (.aload_n 0, 1) := by decide +kernel
theorem dX8_undo_55 : decode cX8_undo 55 = .ok (.aload_n 0, 1) := by decide +kernel
theorem dX8_undo_56 : decode cX8_undo 56 = .ok (.getfield 31, 3) := by decide +kernel
theorem dX8_undo_59 : decode cX8_undo 59 = .ok (.aload_n 0, 1) := by decide +kernel
theorem dX8_undo_60 : decode cX8_undo 60 = .ok (.getfield 123, 3) := by decide +kernel
theorem dX8_undo_63 : decode cX8_undo 63 = .ok (.aaload, 1) := by decide +kernel
theorem dX8_undo_64 : decode cX8_undo 64 = .ok (.invokevirtual 113, 3) := by decide +kernel
theorem dX8_undo_67 : decode cX8_undo 67 = .ok (.aload_n 0, 1) := by decide +kernel
theorem dX8_undo_68 : decode cX8_undo 68 = .ok (.getfield 123, 3) := by decide +kernel
theorem dX8_undo_71 : decode cX8_undo 71 = .ok (.ireturn, 1) := by decide +kernel
theorem dX8_unlock_0 : decode cX8_unlock 0 = .ok (.aload_n 0, 1) := by decide +kernel
theorem dX8_unlock_1 : decode cX8_unlock 1 = .ok (.getfield 25, 3) := by decide +kernel
theorem dX8_unlock_4 : decode cX8_unlock 4 = .ok (.aload_n 0, 1) := by decide +kernel
theorem dX8_unlock_5 : decode cX8_unlock 5 = .ok (.getfield 21, 3) := by decide +kernel
theorem dX8_unlock_8 : decode cX8_unlock 8 = .ok (.invokevirtual 73, 3) := by decide +kernel
theorem dX8_unlock_11 : decode cX8_unlock 11 = .ok (.aload_n 0, 1) := by decide +kernel
theorem dX8_unlock_12 : decode cX8_unlock 12 = .ok (.aload_n 0, 1) := by decide +kernel
theorem dX8_unlock_13 : decode cX8_unlock 13 = .ok (.bipush 7, 2) := by decide +kernel
theorem dX8_unlock_15 : decode cX8_unlock 15 = .ok (.iconst 0, 1) := by decide +kernel
theorem dX8_unlock_16 : decode cX8_unlock 16 = .ok (.iconst 0, 1) := by decide +kernel
theorem dX8_unlock_17 : decode cX8_unlock 17 = .ok (.aconst_null, 1) := by decide +kernel
theorem dX8_unlock_18 : decode cX8_unlock 18 = .ok (.invokevirtual 103, 3) := by decide +kernel
theorem dX8_unlock_21 : decode cX8_unlock 21 = .ok (.invokevirtual 139, 3) := by decide +kernel
theorem dX8_unlock_24 : decode cX8_unlock 24 = .ok (.aload_n 0, 1) := by decide +kernel
theorem dX8_unlock_25 : decode cX8_unlock 25 = .ok (.getfield 38, 3) := by decide +kernel
theorem dX8_unlock_28 : decode cX8_unlock 28 = .ok (.invokevirtual 136, 3) := by decide +kernel
theorem dX8_unlock_31 : decode cX8_unlock 31 = .ok (.ireturn, 1) := by decide +kernel
theorem dX8_why_0 : decode cX8_why 0 = .ok (.aload_n 0, 1) := by decide +kernel
theorem dX8_why_1 : decode cX8_why 1 = .ok (.getfield 110, 3) := by decide +kernel
theorem dX8_why_4 : decode cX8_why 4 = .ok (.ireturn, 1) := by decide +kernel
theorem dX8_wipe_0 : decode cX8_wipe 0 = .ok (.aload_n 0, 1) := by decide +kernel
theorem dX8_wipe_1 : decode cX8_wipe 1 = .ok (.getfield 21, 3) := by decide +kernel
theorem dX8_wipe_4 : decode cX8_wipe 4 = .ok (.invokevirtual 167, 3) := by decide +kernel
theorem dX8_wipe_7 : decode cX8_wipe 7 = .ok (.istore_n 1, 1) := by decide +kernel
theorem dX8_wipe_8 : decode cX8_wipe 8 = .ok (.aload_n 0, 1) := by decide +kernel
theorem dX8_wipe_9 : decode cX8_wipe 9 = .ok (.getfield 25, 3) := by decide +kernel
theorem dX8_wipe_12 : decode cX8_wipe 12 = .ok (.aload_n 0, 1) := by decide +kernel
theorem dX8_wipe_13 : decode cX8_wipe 13 = .ok (.getfield 21, 3) := by decide +kernel
theorem dX8_wipe_16 : decode cX8_wipe 16 = .ok (.invokevirtual 73, 3) := by decide +kernel
theorem dX8_wipe_19 : decode cX8_wipe 19 = .ok (.aload_n 0, 1) := by decide +kernel
theorem dX8_wipe_20 : decode cX8_wipe 20 = .ok (.aload_n 0, 1) := by decide +kernel
theorem dX8_wipe_21 : decode cX8_wipe 21 = .ok (.bipush 11, 2) := by decide +kernel
theorem dX8_wipe_23 : decode cX8_wipe 23 = .ok (.iconst 0, 1) := by decide +kernel
theorem dX8_wipe_24 : decode cX8_wipe 24 = .ok (.iconst 0, 1) := by decide +kernel
theorem dX8_wipe_25 : decode cX8_wipe 25 = .ok (.aconst_null, 1) := by decide +kernel
theorem dX8_wipe_26 : decode cX8_wipe 26 = .ok (.invokevirtual 103, 3) := by decide +kernel
theorem dX8_wipe_29 : decode cX8_wipe 29 = .ok (.invokevirtual 139, 3) := by decide +kernel
theorem dX8_wipe_32 : decode cX8_wipe 32 = .ok (.iload_n 1, 1) := by decide +kernel
theorem dX8_wipe_33 : decode cX8_wipe 33 = .ok (.ireturn, 1) := by decide +kernel
theorem dX8_wipePieces_0 : decode cX8_wipePieces 0 = .ok (.aload_n 0, 1) := by decide +kernel
theorem dX8_wipePieces_1 : decode cX8_wipePieces 1 = .ok (.getfield 21, 3) := by decide +kernel
theorem dX8_wipePieces_4 : decode cX8_wipePieces 4 = .ok (.invokevirtual 167, 3) := by decide +kernel
theorem dX8_wipePieces_7 : decode cX8_wipePieces 7 = .ok (.ifCond .ne 5, 3) := by decide +kernel
theorem dX8_wipePieces_10 : decode cX8_wipePieces 10 = .ok (.iconst 4, 1) := by decide +kernel
theorem dX8_wipePieces_11 : decode cX8_wipePieces 11 = .ok (.ireturn, 1) := by decide +kernel
theorem dX8_wipePieces_12 : decode cX8_wipePieces 12 = .ok (.aload_n 0, 1) := by decide +kernel
theorem dX8_wipePieces_13 : decode cX8_wipePieces 13 = .ok (.getfield 21, 3) := by decide +kernel
theorem dX8_wipePieces_16 : decode cX8_wipePieces 16 = .ok (.invokevirtual 358, 3) := by decide +kernel
theorem dX8_wipePieces_19 : decode cX8_wipePieces 19 = .ok (.aload_n 0, 1) := by decide +kernel
theorem dX8_wipePieces_20 : decode cX8_wipePieces 20 = .ok (.getfield 48, 3) := by decide +kernel
theorem dX8_wipePieces_23 : decode cX8_wipePieces 23 = .ok (.aload_n 0, 1) := by decide +kernel
theorem dX8_wipePieces_24 : decode cX8_wipePieces 24 = .ok (.getfield 21, 3) := by decide +kernel
theorem dX8_wipePieces_27 : decode cX8_wipePieces 27 = .ok (.aload_n 0, 1) := by decide +kernel
theorem dX8_wipePieces_28 : decode cX8_wipePieces 28 = .ok (.getfield 38, 3) := by decide +kernel
theorem dX8_wipePieces_31 : decode cX8_wipePieces 31 = .ok (.invokevirtual 365, 3) := by decide +kernel
theorem dX8_wipePieces_34 : decode cX8_wipePieces 34 = .ok (.ifCond .eq 7, 3) := by decide +kernel
theorem dX8_wipePieces_37 : decode cX8_wipePieces 37 = .ok (.iconst 0, 1) := by decide +kernel
theorem dX8_wipePieces_38 : decode cX8_wipePieces 38 = .ok (.goto 4, 3) := by decide +kernel
theorem dX8_wipePieces_41 : decode cX8_wipePieces 41 = .ok (.iconst 3, 1) := by decide +kernel
theorem dX8_wipePieces_42 : decode cX8_wipePieces 42 = .ok (.ireturn, 1) := by decide +kernel
theorem dX8_would_0 : decode cX8_would 0 = .ok (.aload_n 0, 1) := by decide +kernel
theorem dX8_would_1 : decode cX8_would 1 = .ok (.invokevirtual 155, 3) := by decide +kernel
theorem dX8_would_4 : decode cX8_would 4 = .ok (.astore_n 2, 1) := by decide +kernel
theorem dX8_would_5 : decode cX8_would 5 = .ok (.aload_n 0, 1) := by decide +kernel
theorem dX8_would_6 : decode cX8_would 6 = .ok (.iload_n 1, 1) := by decide +kernel
theorem dX8_would_7 : decode cX8_would 7 = .ok (.invokevirtual 175, 3) := by decide +kernel
theorem dX8_would_10 : decode cX8_would 10 = .ok (.astore_n 3, 1) := by decide +kernel
theorem dX8_would_11 : decode cX8_would 11 = .ok (.aload_n 2, 1) := by decide +kernel
theorem dX8_would_12 : decode cX8_would 12 = .ok (.ifnonnull 13, 3) := by decide +kernel
theorem dX8_would_15 : decode cX8_would 15 = .ok (.new 116, 3) := by decide +kernel
theorem dX8_would_18 : decode cX8_would 18 = .ok (.dup, 1) := by decide +kernel
theorem dX8_would_19 : decode cX8_would 19 = .ok (.ldc 158, 2) := by decide +kernel
theorem dX8_would_21 : decode cX8_would 21 = .ok (.invokespecial 120, 3) := by decide +kernel
theorem dX8_would_24 : decode cX8_would 24 = .ok (.athrow, 1) := by decide +kernel
theorem dX8_would_25 : decode cX8_would 25 = .ok (.aload_n 0, 1) := by decide +kernel
theorem dX8_would_26 : decode cX8_would 26 = .ok (.getfield 48, 3) := by decide +kernel
theorem dX8_would_29 : decode cX8_would 29 = .ok (.aload_n 2, 1) := by decide +kernel
theorem dX8_would_30 : decode cX8_would 30 = .ok (.aload_n 3, 1) := by decide +kernel
theorem dX8_would_31 : decode cX8_would 31 = .ok (.aload_n 0, 1) := by decide +kernel
theorem dX8_would_32 : decode cX8_would 32 = .ok (.getfield 21, 3) := by decide +kernel
theorem dX8_would_35 : decode cX8_would 35 = .ok (.invokevirtual 247, 3) := by decide +kernel
theorem dX8_would_38 : decode cX8_would 38 = .ok (.ifCond .eq 16, 3) := by decide +kernel
theorem dX8_would_41 : decode cX8_would 41 = .ok (.aload_n 0, 1) := by decide +kernel
theorem dX8_would_42 : decode cX8_would 42 = .ok (.getfield 48, 3) := by decide +kernel
theorem dX8_would_45 : decode cX8_would 45 = .ok (.getfield 251, 3) := by decide +kernel
theorem dX8_would_48 : decode cX8_would 48 = .ok (.invokevirtual 63, 3) := by decide +kernel
theorem dX8_would_51 : decode cX8_would 51 = .ok (.goto 4, 3) := by decide +kernel
theorem dX8_would_54 : decode cX8_would 54 = .ok (.iconst (-1), 1) := by decide +kernel
theorem dX8_would_55 : decode cX8_would 55 = .ok (.ireturn, 1) := by decide +kernel
end
