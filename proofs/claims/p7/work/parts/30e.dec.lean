theorem dX7_copyFrom_65 : decode cX7_copyFrom 65 = .ok (.istore_n 2, 1) := by decide +kernel
theorem dX7_copyFrom_66 : decode cX7_copyFrom 66 = .ok (.iload_n 2, 1) := by decide +kernel
theorem dX7_copyFrom_67 : decode cX7_copyFrom 67 = .ok (.aload_n 0, 1) := by decide +kernel
theorem dX7_copyFrom_68 : decode cX7_copyFrom 68 = .ok (.getfield 30, 3) := by decide +kernel
theorem dX7_copyFrom_71 : decode cX7_copyFrom 71 = .ok (.arraylength, 1) := by decide +kernel
theorem dX7_copyFrom_72 : decode cX7_copyFrom 72 = .ok (.if_icmp .ge 30, 3) := by decide +kernel
theorem dX7_copyFrom_75 : decode cX7_copyFrom 75 = .ok (.iload_n 2, 1) := by decide +kernel
theorem dX7_copyFrom_76 : decode cX7_copyFrom 76 = .ok (.aload_n 1, 1) := by decide +kernel
theorem dX7_copyFrom_77 : decode cX7_copyFrom 77 = .ok (.getfield 30, 3) := by decide +kernel
theorem dX7_copyFrom_80 : decode cX7_copyFrom 80 = .ok (.arraylength, 1) := by decide +kernel
theorem dX7_copyFrom_81 : decode cX7_copyFrom 81 = .ok (.if_icmp .ge 21, 3) := by decide +kernel
theorem dX7_copyFrom_84 : decode cX7_copyFrom 84 = .ok (.aload_n 0, 1) := by decide +kernel
theorem dX7_copyFrom_85 : decode cX7_copyFrom 85 = .ok (.getfield 30, 3) := by decide +kernel
theorem dX7_copyFrom_88 : decode cX7_copyFrom 88 = .ok (.iload_n 2, 1) := by decide +kernel
theorem dX7_copyFrom_89 : decode cX7_copyFrom 89 = .ok (.aload_n 1, 1) := by decide +kernel
theorem dX7_copyFrom_90 : decode cX7_copyFrom 90 = .ok (.getfield 30, 3) := by decide +kernel
theorem dX7_copyFrom_93 : decode cX7_copyFrom 93 = .ok (.iload_n 2, 1) := by decide +kernel
theorem dX7_copyFrom_94 : decode cX7_copyFrom 94 = .ok (.aaload, 1) := by decide +kernel
theorem dX7_copyFrom_95 : decode cX7_copyFrom 95 = .ok (.aastore, 1) := by decide +kernel
theorem dX7_copyFrom_96 : decode cX7_copyFrom 96 = .ok (.iinc 2 1, 3) := by decide +kernel
theorem dX7_copyFrom_99 : decode cX7_copyFrom 99 = .ok (.goto (-33), 3) := by decide +kernel
theorem dX7_copyFrom_102 : decode cX7_copyFrom 102 = .ok (.iconst 0, 1) := by decide +kernel
theorem dX7_copyFrom_103 : decode cX7_copyFrom 103 = .ok (.istore_n 2, 1) := by decide +kernel
theorem dX7_copyFrom_104 : decode cX7_copyFrom 104 = .ok (.iload_n 2, 1) := by decide +kernel
theorem dX7_copyFrom_105 : decode cX7_copyFrom 105 = .ok (.aload_n 0, 1) := by decide +kernel
theorem dX7_copyFrom_106 : decode cX7_copyFrom 106 = .ok (.getfield 34, 3) := by decide +kernel
theorem dX7_copyFrom_109 : decode cX7_copyFrom 109 = .ok (.arraylength, 1) := by decide +kernel
theorem dX7_copyFrom_110 : decode cX7_copyFrom 110 = .ok (.if_icmp .ge 30, 3) := by decide +kernel
theorem dX7_copyFrom_113 : decode cX7_copyFrom 113 = .ok (.iload_n 2, 1) := by decide +kernel
theorem dX7_copyFrom_114 : decode cX7_copyFrom 114 = .ok (.aload_n 1, 1) := by decide +kernel
theorem dX7_copyFrom_115 : decode cX7_copyFrom 115 = .ok (.getfield 34, 3) := by decide +kernel
theorem dX7_copyFrom_118 : decode cX7_copyFrom 118 = .ok (.arraylength, 1) := by decide +kernel
theorem dX7_copyFrom_119 : decode cX7_copyFrom 119 = .ok (.if_icmp .ge 21, 3) := by decide +kernel
theorem dX7_copyFrom_122 : decode cX7_copyFrom 122 = .ok (.aload_n 0, 1) := by decide +kernel
theorem dX7_copyFrom_123 : decode cX7_copyFrom 123 = .ok (.getfield 34, 3) := by decide +kernel
theorem dX7_copyFrom_126 : decode cX7_copyFrom 126 = .ok (.iload_n 2, 1) := by decide +kernel
theorem dX7_copyFrom_127 : decode cX7_copyFrom 127 = .ok (.aload_n 1, 1) := by decide +kernel
theorem dX7_copyFrom_128 : decode cX7_copyFrom 128 = .ok (.getfield 34, 3) := by decide +kernel
theorem dX7_copyFrom_131 : decode cX7_copyFrom 131 = .ok (.iload_n 2, 1) := by decide +kernel
theorem dX7_copyFrom_132 : decode cX7_copyFrom 132 = .ok (.aaload, 1) := by decide +kernel
theorem dX7_copyFrom_133 : decode cX7_copyFrom 133 = .ok (.aastore, 1) := by decide +kernel
theorem dX7_copyFrom_134 : decode cX7_copyFrom 134 = .ok (.iinc 2 1, 3) := by decide +kernel
theorem dX7_copyFrom_137 : decode cX7_copyFrom 137 = .ok (.goto (-33), 3) := by decide +kernel
theorem dX7_copyFrom_140 : decode cX7_copyFrom 140 = .ok (.return_, 1) := by decide +kernel
theorem dX7_forgetTold_0 : decode cX7_forgetTold 0 = .ok (.iconst 0, 1) := by decide +kernel
theorem dX7_forgetTold_1 : decode cX7_forgetTold 1 = .ok (.istore_n 1, 1) := by decide +kernel
theorem dX7_forgetTold_2 : decode cX7_forgetTold 2 = .ok (.iload_n 1, 1) := by decide +kernel
theorem dX7_forgetTold_3 : decode cX7_forgetTold 3 = .ok (.aload_n 0, 1) := by decide +kernel
theorem dX7_forgetTold_4 : decode cX7_forgetTold 4 = .ok (.getfield 34, 3) := by decide +kernel
theorem dX7_forgetTold_7 : decode cX7_forgetTold 7 = .ok (.arraylength, 1) := by decide +kernel
theorem dX7_forgetTold_8 : decode cX7_forgetTold 8 = .ok (.if_icmp .ge 16, 3) := by decide +kernel
theorem dX7_forgetTold_11 : decode cX7_forgetTold 11 = .ok (.aload_n 0, 1) := by decide +kernel
theorem dX7_forgetTold_12 : decode cX7_forgetTold 12 = .ok (.getfield 34, 3) := by decide +kernel
theorem dX7_forgetTold_15 : decode cX7_forgetTold 15 = .ok (.iload_n 1, 1) := by decide +kernel
theorem dX7_forgetTold_16 : decode cX7_forgetTold 16 = .ok (.aconst_null, 1) := by decide +kernel
theorem dX7_forgetTold_17 : decode cX7_forgetTold 17 = .ok (.aastore, 1) := by decide +kernel
theorem dX7_forgetTold_18 : decode cX7_forgetTold 18 = .ok (.iinc 1 1, 3) := by decide +kernel
theorem dX7_forgetTold_21 : decode cX7_forgetTold 21 = .ok (.goto (-19), 3) := by decide +kernel
theorem dX7_forgetTold_24 : decode cX7_forgetTold 24 = .ok (.return_, 1) := by decide +kernel
theorem dX7_isLocked_0 : decode cX7_isLocked 0 = .ok (.iconst 0, 1) := by decide +kernel
theorem dX7_isLocked_1 : decode cX7_isLocked 1 = .ok (.istore_n 2, 1) := by decide +kernel
theorem dX7_isLocked_2 : decode cX7_isLocked 2 = .ok (.iload_n 2, 1) := by decide +kernel
theorem dX7_isLocked_3 : decode cX7_isLocked 3 = .ok (.aload_n 0, 1) := by decide +kernel
theorem dX7_isLocked_4 : decode cX7_isLocked 4 = .ok (.getfield 41, 3) := by decide +kernel
theorem dX7_isLocked_7 : decode cX7_isLocked 7 = .ok (.if_icmp .ge 62, 3) := by decide +kernel
theorem dX7_isLocked_10 : decode cX7_isLocked 10 = .ok (.iload_n 2, 1) := by decide +kernel
theorem dX7_isLocked_11 : decode cX7_isLocked 11 = .ok (.aload_n 0, 1) := by decide +kernel
theorem dX7_isLocked_12 : decode cX7_isLocked 12 = .ok (.getfield 30, 3) := by decide +kernel
theorem dX7_isLocked_15 : decode cX7_isLocked 15 = .ok (.arraylength, 1) := by decide +kernel
theorem dX7_isLocked_16 : decode cX7_isLocked 16 = .ok (.if_icmp .ge 53, 3) := by decide +kernel
theorem dX7_isLocked_19 : decode cX7_isLocked 19 = .ok (.aload_n 0, 1) := by decide +kernel
theorem dX7_isLocked_20 : decode cX7_isLocked 20 = .ok (.getfield 30, 3) := by decide +kernel
theorem dX7_isLocked_23 : decode cX7_isLocked 23 = .ok (.iload_n 2, 1) := by decide +kernel
theorem dX7_isLocked_24 : decode cX7_isLocked 24 = .ok (.aaload, 1) := by decide +kernel
theorem dX7_isLocked_25 : decode cX7_isLocked 25 = .ok (.astore_n 3, 1) := by decide +kernel
theorem dX7_isLocked_26 : decode cX7_isLocked 26 = .ok (.aload_n 3, 1) := by decide +kernel
theorem dX7_isLocked_27 : decode cX7_isLocked 27 = .ok (.ifnull 36, 3) := by decide +kernel
theorem dX7_isLocked_30 : decode cX7_isLocked 30 = .ok (.aload_n 3, 1) := by decide +kernel
theorem dX7_isLocked_31 : decode cX7_isLocked 31 = .ok (.invokevirtual 62, 3) := by decide +kernel
theorem dX7_isLocked_34 : decode cX7_isLocked 34 = .ok (.aload_n 1, 1) := by decide +kernel
theorem dX7_isLocked_35 : decode cX7_isLocked 35 = .ok (.getfield 70, 3) := by decide +kernel
theorem dX7_isLocked_38 : decode cX7_isLocked 38 = .ok (.if_icmp .gt 25, 3) := by decide +kernel
theorem dX7_isLocked_41 : decode cX7_isLocked 41 = .ok (.aload_n 3, 1) := by decide +kernel
theorem dX7_isLocked_42 : decode cX7_isLocked 42 = .ok (.iconst 0, 1) := by decide +kernel
theorem dX7_isLocked_43 : decode cX7_isLocked 43 = .ok (.aload_n 1, 1) := by decide +kernel
theorem dX7_isLocked_44 : decode cX7_isLocked 44 = .ok (.getfield 75, 3) := by decide +kernel
theorem dX7_isLocked_47 : decode cX7_isLocked 47 = .ok (.aload_n 1, 1) := by decide +kernel
theorem dX7_isLocked_48 : decode cX7_isLocked 48 = .ok (.getfield 78, 3) := by decide +kernel
theorem dX7_isLocked_51 : decode cX7_isLocked 51 = .ok (.aload_n 3, 1) := by decide +kernel
theorem dX7_isLocked_52 : decode cX7_isLocked 52 = .ok (.invokevirtual 62, 3) := by decide +kernel
theorem dX7_isLocked_55 : decode cX7_isLocked 55 = .ok (.invokevirtual 66, 3) := by decide +kernel
theorem dX7_isLocked_58 : decode cX7_isLocked 58 = .ok (.ifCond .eq 5, 3) := by decide +kernel
theorem dX7_isLocked_61 : decode cX7_isLocked 61 = .ok (.iconst 1, 1) := by decide +kernel
theorem dX7_isLocked_62 : decode cX7_isLocked 62 = .ok (.ireturn, 1) := by decide +kernel
theorem dX7_isLocked_63 : decode cX7_isLocked 63 = .ok (.iinc 2 1, 3) := by decide +kernel
theorem dX7_isLocked_66 : decode cX7_isLocked 66 = .ok (.goto (-64), 3) := by decide +kernel
theorem dX7_isLocked_69 : decode cX7_isLocked 69 = .ok (.iconst 0, 1) := by decide +kernel
theorem dX7_isLocked_70 : decode cX7_isLocked 70 = .ok (.ireturn, 1) := by decide +kernel
theorem dX7_setTold_0 : decode cX7_setTold 0 = .ok (.iload_n 1, 1) := by decide +kernel
theorem dX7_setTold_1 : decode cX7_setTold 1 = .ok (.ifCond .lt 19, 3) := by decide +kernel
theorem dX7_setTold_4 : decode cX7_setTold 4 = .ok (.iload_n 1, 1) := by decide +kernel
theorem dX7_setTold_5 : decode cX7_setTold 5 = .ok (.aload_n 0, 1) := by decide +kernel
theorem dX7_setTold_6 : decode cX7_setTold 6 = .ok (.getfield 34, 3) := by decide +kernel
theorem dX7_setTold_9 : decode cX7_setTold 9 = .ok (.arraylength, 1) := by decide +kernel
theorem dX7_setTold_10 : decode cX7_setTold 10 = .ok (.if_icmp .ge 10, 3) := by decide +kernel
theorem dX7_setTold_13 : decode cX7_setTold 13 = .ok (.aload_n 0, 1) := by decide +kernel
theorem dX7_setTold_14 : decode cX7_setTold 14 = .ok (.getfield 34, 3) := by decide +kernel
theorem dX7_setTold_17 : decode cX7_setTold 17 = .ok (.iload_n 1, 1) := by decide +kernel
theorem dX7_setTold_18 : decode cX7_setTold 18 = .ok (.aload_n 2, 1) := by decide +kernel
theorem dX7_setTold_19 : decode cX7_setTold 19 = .ok (.aastore, 1) := by decide +kernel
theorem dX7_setTold_20 : decode cX7_setTold 20 = .ok (.return_, 1) := by decide +kernel
theorem dX7_toldCount_0 : decode cX7_toldCount 0 = .ok (.iconst 0, 1) := by decide +kernel
theorem dX7_toldCount_1 : decode cX7_toldCount 1 = .ok (.istore_n 1, 1) := by decide +kernel
theorem dX7_toldCount_2 : decode cX7_toldCount 2 = .ok (.iconst 0, 1) := by decide +kernel
theorem dX7_toldCount_3 : decode cX7_toldCount 3 = .ok (.istore_n 2, 1) := by decide +kernel
theorem dX7_toldCount_4 : decode cX7_toldCount 4 = .ok (.iload_n 2, 1) := by decide +kernel
theorem dX7_toldCount_5 : decode cX7_toldCount 5 = .ok (.aload_n 0, 1) := by decide +kernel
theorem dX7_toldCount_6 : decode cX7_toldCount 6 = .ok (.getfield 34, 3) := by decide +kernel
theorem dX7_toldCount_9 : decode cX7_toldCount 9 = .ok (.arraylength, 1) := by decide +kernel
theorem dX7_toldCount_10 : decode cX7_toldCount 10 = .ok (.if_icmp .ge 21, 3) := by decide +kernel
theorem dX7_toldCount_13 : decode cX7_toldCount 13 = .ok (.aload_n 0, 1) := by decide +kernel
theorem dX7_toldCount_14 : decode cX7_toldCount 14 = .ok (.getfield 34, 3) := by decide +kernel
theorem dX7_toldCount_17 : decode cX7_toldCount 17 = .ok (.iload_n 2, 1) := by decide +kernel
theorem dX7_toldCount_18 : decode cX7_toldCount 18 = .ok (.aaload, 1) := by decide +kernel
theorem dX7_toldCount_19 : decode cX7_toldCount 19 = .ok (.ifnull 6, 3) := by decide +kernel
theorem dX7_toldCount_22 : decode cX7_toldCount 22 = .ok (.iinc 1 1, 3) := by decide +kernel
theorem dX7_toldCount_25 : decode cX7_toldCount 25 = .ok (.iinc 2 1, 3) := by decide +kernel
theorem dX7_toldCount_28 : decode cX7_toldCount 28 = .ok (.goto (-24), 3) := by decide +kernel
theorem dX7_toldCount_31 : decode cX7_toldCount 31 = .ok (.iload_n 1, 1) := by decide +kernel
theorem dX7_toldCount_32 : decode cX7_toldCount 32 = .ok (.ireturn, 1) := by decide +kernel
theorem dX7_toldFor_0 : decode cX7_toldFor 0 = .ok (.iload_n 1, 1) := by decide +kernel
theorem dX7_toldFor_1 : decode cX7_toldFor 1 = .ok (.ifCond .lt 21, 3) := by decide +kernel
theorem dX7_toldFor_4 : decode cX7_toldFor 4 = .ok (.iload_n 1, 1) := by decide +kernel
theorem dX7_toldFor_5 : decode cX7_toldFor 5 = .ok (.aload_n 0, 1) := by decide +kernel
theorem dX7_toldFor_6 : decode cX7_toldFor 6 = .ok (.getfield 34, 3) := by decide +kernel
theorem dX7_toldFor_9 : decode cX7_toldFor 9 = .ok (.arraylength, 1) := by decide +kernel
theorem dX7_toldFor_10 : decode cX7_toldFor 10 = .ok (.if_icmp .ge 12, 3) := by decide +kernel
theorem dX7_toldFor_13 : decode cX7_toldFor 13 = .ok (.aload_n 0, 1) := by decide +kernel
theorem dX7_toldFor_14 : decode cX7_toldFor 14 = .ok (.getfield 34, 3) := by decide +kernel
theorem dX7_toldFor_17 : decode cX7_toldFor 17 = .ok (.iload_n 1, 1) := by decide +kernel
theorem dX7_toldFor_18 : decode cX7_toldFor 18 = .ok (.aaload, 1) := by decide +kernel
theorem dX7_toldFor_19 : decode cX7_toldFor 19 = .ok (.goto 4, 3) := by decide +kernel
theorem dX7_toldFor_22 : decode cX7_toldFor 22 = .ok (.aconst_null, 1) := by decide +kernel
theorem dX7_toldFor_23 : decode cX7_toldFor 23 = .ok (.areturn, 1) := by decide +kernel
theorem dX8_acts_0 : decode cX8_acts 0 = .ok (.aload_n 0, 1) := by decide +kernel
theorem dX8_acts_1 : decode cX8_acts 1 = .ok (.getfield 25, 3) := by decide +kernel
theorem dX8_acts_4 : decode cX8_acts 4 = .ok (.aload_n 0, 1) := by decide +kernel
theorem dX8_acts_5 : decode cX8_acts 5 = .ok (.getfield 21, 3) := by decide +kernel
theorem dX8_acts_8 : decode cX8_acts 8 = .ok (.invokevirtual 73, 3) := by decide +kernel
theorem dX8_acts_11 : decode cX8_acts 11 = .ok (.aload_n 0, 1) := by decide +kernel
theorem dX8_acts_12 : decode cX8_acts 12 = .ok (.getfield 55, 3) := by decide +kernel
theorem dX8_acts_15 : decode cX8_acts 15 = .ok (.aload_n 0, 1) := by decide +kernel
theorem dX8_acts_16 : decode cX8_acts 16 = .ok (.getfield 14, 3) := by decide +kernel
theorem dX8_acts_19 : decode cX8_acts 19 = .ok (.invokevirtual 77, 3) := by decide +kernel
theorem dX8_acts_22 : decode cX8_acts 22 = .ok (.iconst 0, 1) := by decide +kernel
theorem dX8_acts_23 : decode cX8_acts 23 = .ok (.istore_n 1, 1) := by decide +kernel
theorem dX8_acts_24 : decode cX8_acts 24 = .ok (.iconst (-1), 1) := by decide +kernel
theorem dX8_acts_25 : decode cX8_acts 25 = .ok (.istore_n 2, 1) := by decide +kernel
theorem dX8_acts_26 : decode cX8_acts 26 = .ok (.iconst 0, 1) := by decide +kernel
theorem dX8_acts_27 : decode cX8_acts 27 = .ok (.istore_n 3, 1) := by decide +kernel
theorem dX8_acts_28 : decode cX8_acts 28 = .ok (.iload_n 3, 1) := by decide +kernel
theorem dX8_acts_29 : decode cX8_acts 29 = .ok (.bipush 14, 2) := by decide +kernel
theorem dX8_acts_31 : decode cX8_acts 31 = .ok (.if_icmp .gt 119, 3) := by decide +kernel
theorem dX8_acts_34 : decode cX8_acts 34 = .ok (.aload_n 0, 1) := by decide +kernel
theorem dX8_acts_35 : decode cX8_acts 35 = .ok (.getfield 55, 3) := by decide +kernel
theorem dX8_acts_38 : decode cX8_acts 38 = .ok (.getfield 81, 3) := by decide +kernel
theorem dX8_acts_41 : decode cX8_acts 41 = .ok (.ifCond .eq 109, 3) := by decide +kernel
theorem dX8_acts_44 : decode cX8_acts 44 = .ok (.iload_n 2, 1) := by decide +kernel
theorem dX8_acts_45 : decode cX8_acts 45 = .ok (.iconst (-1), 1) := by decide +kernel
theorem dX8_acts_46 : decode cX8_acts 46 = .ok (.if_icmp .ne 104, 3) := by decide +kernel
theorem dX8_acts_49 : decode cX8_acts 49 = .ok (.aload_n 0, 1) := by decide +kernel
theorem dX8_acts_50 : decode cX8_acts 50 = .ok (.getfield 55, 3) := by decide +kernel
theorem dX8_acts_53 : decode cX8_acts 53 = .ok (.getfield 85, 3) := by decide +kernel
theorem dX8_acts_56 : decode cX8_acts 56 = .ok (.istore 4, 2) := by decide +kernel
theorem dX8_acts_58 : decode cX8_acts 58 = .ok (.iload_n 3, 1) := by decide +kernel
theorem dX8_acts_59 : decode cX8_acts 59 = .ok (.bipush 14, 2) := by decide +kernel
theorem dX8_acts_61 : decode cX8_acts 61 = .ok (.if_icmp .ge 13, 3) := by decide +kernel
theorem dX8_acts_64 : decode cX8_acts 64 = .ok (.aload_n 0, 1) := by decide +kernel
theorem dX8_acts_65 : decode cX8_acts 65 = .ok (.getfield 55, 3) := by decide +kernel
theorem dX8_acts_68 : decode cX8_acts 68 = .ok (.invokevirtual 88, 3) := by decide +kernel
theorem dX8_acts_71 : decode cX8_acts 71 = .ok (.goto 5, 3) := by decide +kernel
theorem dX8_acts_74 : decode cX8_acts 74 = .ok (.iload 4, 2) := by decide +kernel
theorem dX8_acts_76 : decode cX8_acts 76 = .ok (.istore_n 2, 1) := by decide +kernel
theorem dX8_acts_77 : decode cX8_acts 77 = .ok (.iload_n 2, 1) := by decide +kernel
theorem dX8_acts_78 : decode cX8_acts 78 = .ok (.iconst (-1), 1) := by decide +kernel
theorem dX8_acts_79 : decode cX8_acts 79 = .ok (.if_icmp .ne 65, 3) := by decide +kernel
theorem dX8_acts_82 : decode cX8_acts 82 = .ok (.aload_n 0, 1) := by decide +kernel
theorem dX8_acts_83 : decode cX8_acts 83 = .ok (.aload_n 0, 1) := by decide +kernel
theorem dX8_acts_84 : decode cX8_acts 84 = .ok (.getfield 55, 3) := by decide +kernel
theorem dX8_acts_87 : decode cX8_acts 87 = .ok (.getfield 91, 3) := by decide +kernel
theorem dX8_acts_90 : decode cX8_acts 90 = .ok (.aload_n 0, 1) := by decide +kernel
theorem dX8_acts_91 : decode cX8_acts 91 = .ok (.getfield 55, 3) := by decide +kernel
theorem dX8_acts_94 : decode cX8_acts 94 = .ok (.getfield 94, 3) := by decide +kernel
theorem dX8_acts_97 : decode cX8_acts 97 = .ok (.aload_n 0, 1) := by decide +kernel
theorem dX8_acts_98 : decode cX8_acts 98 = .ok (.getfield 55, 3) := by decide +kernel
theorem dX8_acts_101 : decode cX8_acts 101 = .ok (.getfield 97, 3) := by decide +kernel
theorem dX8_acts_104 : decode cX8_acts 104 = .ok (.aload_n 0, 1) := by decide +kernel
theorem dX8_acts_105 : decode cX8_acts 105 = .ok (.getfield 55, 3) := by decide +kernel
theorem dX8_acts_108 : decode cX8_acts 108 = .ok (.getfield 100, 3) := by decide +kernel
theorem dX8_acts_111 : decode cX8_acts 111 = .ok (.invokevirtual 103, 3) := by decide +kernel
theorem dX8_acts_114 : decode cX8_acts 114 = .ok (.istore 5, 2) := by decide +kernel
theorem dX8_acts_116 : decode cX8_acts 116 = .ok (.iload 5, 2) := by decide +kernel
theorem dX8_acts_118 : decode cX8_acts 118 = .ok (.ifCond .ne 17, 3) := by decide +kernel
theorem dX8_acts_121 : decode cX8_acts 121 = .ok (.iinc 1 1, 3) := by decide +kernel
theorem dX8_acts_124 : decode cX8_acts 124 = .ok (.aload_n 0, 1) := by decide +kernel
theorem dX8_acts_125 : decode cX8_acts 125 = .ok (.getfield 55, 3) := by decide +kernel
theorem dX8_acts_128 : decode cX8_acts 128 = .ok (.invokevirtual 107, 3) := by decide +kernel
theorem dX8_acts_131 : decode cX8_acts 131 = .ok (.istore_n 2, 1) := by decide +kernel
theorem dX8_acts_132 : decode cX8_acts 132 = .ok (.goto 12, 3) := by decide +kernel
theorem dX8_acts_135 : decode cX8_acts 135 = .ok (.aload_n 0, 1) := by decide +kernel
theorem dX8_acts_136 : decode cX8_acts 136 = .ok (.iload 5, 2) := by decide +kernel
theorem dX8_acts_138 : decode cX8_acts 138 = .ok (.putfield 110, 3) := by decide +kernel
theorem dX8_acts_141 : decode cX8_acts 141 = .ok (.iload 4, 2) := by decide +kernel
theorem dX8_acts_143 : decode cX8_acts 143 = .ok (.istore_n 2, 1) := by decide +kernel
theorem dX8_acts_144 : decode cX8_acts 144 = .ok (.iinc 3 1, 3) := by decide +kernel
theorem dX8_acts_147 : decode cX8_acts 147 = .ok (.goto (-119), 3) := by decide +kernel
theorem dX8_acts_150 : decode cX8_acts 150 = .ok (.aload_n 0, 1) := by decide +kernel
theorem dX8_acts_151 : decode cX8_acts 151 = .ok (.getfield 14, 3) := by decide +kernel
theorem dX8_acts_154 : decode cX8_acts 154 = .ok (.iconst 0, 1) := by decide +kernel
theorem dX8_acts_155 : decode cX8_acts 155 = .ok (.invokevirtual 70, 3) := by decide +kernel
theorem dX8_acts_158 : decode cX8_acts 158 = .ok (.aload_n 0, 1) := by decide +kernel
theorem dX8_acts_159 : decode cX8_acts 159 = .ok (.iload_n 2, 1) := by decide +kernel
theorem dX8_acts_160 : decode cX8_acts 160 = .ok (.putfield 59, 3) := by decide +kernel
theorem dX8_acts_163 : decode cX8_acts 163 = .ok (.iload_n 2, 1) := by decide +kernel
theorem dX8_acts_164 : decode cX8_acts 164 = .ok (.iconst (-1), 1) := by decide +kernel
theorem dX8_acts_165 : decode cX8_acts 165 = .ok (.if_icmp .eq 21, 3) := by decide +kernel
theorem dX8_acts_168 : decode cX8_acts 168 = .ok (.aload_n 0, 1) := by decide +kernel
theorem dX8_acts_169 : decode cX8_acts 169 = .ok (.aload_n 0, 1) := by decide +kernel
theorem dX8_acts_170 : decode cX8_acts 170 = .ok (.getfield 25, 3) := by decide +kernel
theorem dX8_acts_173 : decode cX8_acts 173 = .ok (.invokevirtual 113, 3) := by decide +kernel
theorem dX8_acts_176 : decode cX8_acts 176 = .ok (.new 116, 3) := by decide +kernel
theorem dX8_acts_179 : decode cX8_acts 179 = .ok (.dup, 1) := by decide +kernel
theorem dX8_acts_180 : decode cX8_acts 180 = .ok (.ldc 118, 2) := by decide +kernel
theorem dX8_acts_182 : decode cX8_acts 182 = .ok (.invokespecial 120, 3) := by decide +kernel
theorem dX8_acts_185 : decode cX8_acts 185 = .ok (.athrow, 1) := by decide +kernel
theorem dX8_acts_186 : decode cX8_acts 186 = .ok (.aload_n 0, 1) := by decide +kernel
theorem dX8_acts_187 : decode cX8_acts 187 = .ok (.iload_n 1, 1) := by decide +kernel
theorem dX8_acts_188 : decode cX8_acts 188 = .ok (.ifCond .le 7, 3) := by decide +kernel
theorem dX8_acts_191 : decode cX8_acts 191 = .ok (.iconst 0, 1) := by decide +kernel
theorem dX8_acts_192 : decode cX8_acts 192 = .ok (.goto 7, 3) := by decide +kernel
theorem dX8_acts_195 : decode cX8_acts 195 = .ok (.aload_n 0, 1) := by decide +kernel
theorem dX8_acts_196 : decode cX8_acts 196 = .ok (.getfield 110, 3) := by decide +kernel
theorem dX8_acts_199 : decode cX8_acts 199 = .ok (.putfield 110, 3) := by decide +kernel
theorem dX8_acts_202 : decode cX8_acts 202 = .ok (.aload_n 0, 1) := by decide +kernel
theorem dX8_acts_203 : decode cX8_acts 203 = .ok (.iconst 0, 1) := by decide +kernel
theorem dX8_acts_204 : decode cX8_acts 204 = .ok (.putfield 123, 3) := by decide +kernel
theorem dX8_acts_207 : decode cX8_acts 207 = .ok (.iload_n 1, 1) := by decide +kernel
theorem dX8_acts_208 : decode cX8_acts 208 = .ok (.ireturn, 1) := by decide +kernel
theorem dX8_addFour_0 : decode cX8_addFour 0 = .ok (.bipush 24, 2) := by decide +kernel
theorem dX8_addFour_2 : decode cX8_addFour 2 = .ok (.istore_n 2, 1) := by decide +kernel
theorem dX8_addFour_3 : decode cX8_addFour 3 = .ok (.iload_n 2, 1) := by decide +kernel
theorem dX8_addFour_4 : decode cX8_addFour 4 = .ok (.ifCond .lt 24, 3) := by decide +kernel
theorem dX8_addFour_7 : decode cX8_addFour 7 = .ok (.aload_n 0, 1) := by decide +kernel
theorem dX8_addFour_8 : decode cX8_addFour 8 = .ok (.getfield 14, 3) := by decide +kernel
theorem dX8_addFour_11 : decode cX8_addFour 11 = .ok (.iload_n 1, 1) := by decide +kernel
theorem dX8_addFour_12 : decode cX8_addFour 12 = .ok (.iload_n 2, 1) := by decide +kernel
theorem dX8_addFour_13 : decode cX8_addFour 13 = .ok (.iushr, 1) := by decide +kernel
theorem dX8_addFour_14 : decode cX8_addFour 14 = .ok (.sipush 255, 3) := by decide +kernel
theorem dX8_addFour_17 : decode cX8_addFour 17 = .ok (.iand, 1) := by decide +kernel
theorem dX8_addFour_18 : decode cX8_addFour 18 = .ok (.invokevirtual 314, 3) := by decide +kernel
theorem dX8_addFour_21 : decode cX8_addFour 21 = .ok (.pop, 1) := by decide +kernel
theorem dX8_addFour_22 : decode cX8_addFour 22 = .ok (.iinc 2 (-8), 3) := by decide +kernel
theorem dX8_addFour_25 : decode cX8_addFour 25 = .ok (.goto (-22), 3) := by decide +kernel
theorem dX8_addFour_28 : decode cX8_addFour 28 = .ok (.return_, 1) := by decide +kernel
theorem dX8_at_0 : decode cX8_at 0 = .ok (.iload_n 2, 1) := by decide +kernel
theorem dX8_at_1 : decode cX8_at 1 = .ok (.ifCond .eq 17, 3) := by decide +kernel
theorem dX8_at_4 : decode cX8_at 4 = .ok (.aload_n 0, 1) := by decide +kernel
theorem dX8_at_5 : decode cX8_at 5 = .ok (.getfield 48, 3) := by decide +kernel
theorem dX8_at_8 : decode cX8_at 8 = .ok (.getfield 160, 3) := by decide +kernel
theorem dX8_at_11 : decode cX8_at 11 = .ok (.iload_n 1, 1) := by decide +kernel
theorem dX8_at_12 : decode cX8_at 12 = .ok (.invokevirtual 227, 3) := by decide +kernel
theorem dX8_at_15 : decode cX8_at 15 = .ok (.goto 14, 3) := by decide +kernel
theorem dX8_at_18 : decode cX8_at 18 = .ok (.aload_n 0, 1) := by decide +kernel
theorem dX8_at_19 : decode cX8_at 19 = .ok (.getfield 21, 3) := by decide +kernel
theorem dX8_at_22 : decode cX8_at 22 = .ok (.getfield 130, 3) := by decide +kernel
theorem dX8_at_25 : decode cX8_at 25 = .ok (.iload_n 1, 1) := by decide +kernel
theorem dX8_at_26 : decode cX8_at 26 = .ok (.invokevirtual 227, 3) := by decide +kernel
theorem dX8_at_29 : decode cX8_at 29 = .ok (.ireturn, 1) := by decide +kernel
theorem dX8_back_0 : decode cX8_back 0 = .ok (.aload_n 0, 1) := by decide +kernel
theorem dX8_back_1 : decode cX8_back 1 = .ok (.getfield 287, 3) := by decide +kernel
theorem dX8_back_4 : decode cX8_back 4 = .ok (.ifCond .ne 5, 3) := by decide +kernel
theorem dX8_back_7 : decode cX8_back 7 = .ok (.iconst 0, 1) := by decide +kernel
theorem dX8_back_8 : decode cX8_back 8 = .ok (.ireturn, 1) := by decide +kernel
theorem dX8_back_9 : decode cX8_back 9 = .ok (.aload_n 0, 1) := by decide +kernel
theorem dX8_back_10 : decode cX8_back 10 = .ok (.aload_n 0, 1) := by decide +kernel
theorem dX8_back_11 : decode cX8_back 11 = .ok (.getfield 28, 3) := by decide +kernel
theorem dX8_back_14 : decode cX8_back 14 = .ok (.invokevirtual 113, 3) := by decide +kernel
theorem dX8_back_17 : decode cX8_back 17 = .ok (.aload_n 0, 1) := by decide +kernel
theorem dX8_back_18 : decode cX8_back 18 = .ok (.iconst 0, 1) := by decide +kernel
theorem dX8_back_19 : decode cX8_back 19 = .ok (.putfield 123, 3) := by decide +kernel
theorem dX8_back_22 : decode cX8_back 22 = .ok (.iconst 1, 1) := by decide +kernel
theorem dX8_back_23 : decode cX8_back 23 = .ok (.ireturn, 1) := by decide +kernel
theorem dX8_copyOfNow_0 : decode cX8_copyOfNow 0 = .ok (.aload_n 0, 1) := by decide +kernel
theorem dX8_copyOfNow_1 : decode cX8_copyOfNow 1 = .ok (.getfield 21, 3) := by decide +kernel
theorem dX8_copyOfNow_4 : decode cX8_copyOfNow 4 = .ok (.iload_n 1, 1) := by decide +kernel
theorem dX8_copyOfNow_5 : decode cX8_copyOfNow 5 = .ok (.invokevirtual 194, 3) := by decide +kernel
theorem dX8_copyOfNow_8 : decode cX8_copyOfNow 8 = .ok (.astore_n 3, 1) := by decide +kernel
theorem dX8_copyOfNow_9 : decode cX8_copyOfNow 9 = .ok (.aload_n 3, 1) := by decide +kernel
theorem dX8_copyOfNow_10 : decode cX8_copyOfNow 10 = .ok (.ifnonnull 24, 3) := by decide +kernel
theorem dX8_copyOfNow_13 : decode cX8_copyOfNow 13 = .ok (.aload_n 0, 1) := by decide +kernel
theorem dX8_copyOfNow_14 : decode cX8_copyOfNow 14 = .ok (.getfield 38, 3) := by decide +kernel
theorem dX8_copyOfNow_17 : decode cX8_copyOfNow 17 = .ok (.getfield 373, 3) := by decide +kernel
theorem dX8_copyOfNow_20 : decode cX8_copyOfNow 20 = .ok (.aload_n 2, 1) := by decide +kernel
theorem dX8_copyOfNow_21 : decode cX8_copyOfNow 21 = .ok (.getfield 224, 3) := by decide +kernel
theorem dX8_copyOfNow_24 : decode cX8_copyOfNow 24 = .ok (.aload_n 2, 1) := by decide +kernel
theorem dX8_copyOfNow_25 : decode cX8_copyOfNow 25 = .ok (.getfield 187, 3) := by decide +kernel
theorem dX8_copyOfNow_28 : decode cX8_copyOfNow 28 = .ok (.invokevirtual 126, 3) := by decide +kernel
theorem dX8_copyOfNow_31 : decode cX8_copyOfNow 31 = .ok (.goto 4, 3) := by decide +kernel
theorem dX8_copyOfNow_34 : decode cX8_copyOfNow 34 = .ok (.aload_n 3, 1) := by decide +kernel
theorem dX8_copyOfNow_35 : decode cX8_copyOfNow 35 = .ok (.areturn, 1) := by decide +kernel
theorem dX8_count_0 : decode cX8_count 0 = .ok (.iload_n 1, 1) := by decide +kernel
theorem dX8_count_1 : decode cX8_count 1 = .ok (.tableswitch 214 0 14 #[75, 86, 94, 102, 110, 118, 129, 148, 164, 172, 180, 188, 193, 201, 209], 75) := by decide +kernel
theorem dX8_count_76 : decode cX8_count 76 = .ok (.aload_n 0, 1) := by decide +kernel
theorem dX8_count_77 : decode cX8_count 77 = .ok (.getfield 21, 3) := by decide +kernel
theorem dX8_count_80 : decode cX8_count 80 = .ok (.getfield 130, 3) := by decide +kernel
theorem dX8_count_83 : decode cX8_count 83 = .ok (.invokevirtual 63, 3) := by decide +kernel
theorem dX8_count_86 : decode cX8_count 86 = .ok (.ireturn, 1) := by decide +kernel
theorem dX8_count_87 : decode cX8_count 87 = .ok (.aload_n 0, 1) := by decide +kernel
theorem dX8_count_88 : decode cX8_count 88 = .ok (.getfield 21, 3) := by decide +kernel
theorem dX8_count_91 : decode cX8_count 91 = .ok (.getfield 232, 3) := by decide +kernel
theorem dX8_count_94 : decode cX8_count 94 = .ok (.ireturn, 1) := by decide +kernel
theorem dX8_count_95 : decode cX8_count 95 = .ok (.aload_n 0, 1) := by decide +kernel
theorem dX8_count_96 : decode cX8_count 96 = .ok (.getfield 21, 3) := by decide +kernel
theorem dX8_count_99 : decode cX8_count 99 = .ok (.getfield 290, 3) := by decide +kernel
theorem dX8_count_102 : decode cX8_count 102 = .ok (.ireturn, 1) := by decide +kernel
theorem dX8_count_103 : decode cX8_count 103 = .ok (.aload_n 0, 1) := by decide +kernel
theorem dX8_count_104 : decode cX8_count 104 = .ok (.getfield 38, 3) := by decide +kernel
theorem dX8_count_107 : decode cX8_count 107 = .ok (.invokevirtual 136, 3) := by decide +kernel
theorem dX8_count_110 : decode cX8_count 110 = .ok (.ireturn, 1) := by decide +kernel
theorem dX8_count_111 : decode cX8_count 111 = .ok (.aload_n 0, 1) := by decide +kernel
theorem dX8_count_112 : decode cX8_count 112 = .ok (.getfield 21, 3) := by decide +kernel
theorem dX8_count_115 : decode cX8_count 115 = .ok (.invokevirtual 167, 3) := by decide +kernel
theorem dX8_count_118 : decode cX8_count 118 = .ok (.ireturn, 1) := by decide +kernel
theorem dX8_count_119 : decode cX8_count 119 = .ok (.aload_n 0, 1) := by decide +kernel
theorem dX8_count_120 : decode cX8_count 120 = .ok (.getfield 48, 3) := by decide +kernel
theorem dX8_count_123 : decode cX8_count 123 = .ok (.getfield 160, 3) := by decide +kernel
theorem dX8_count_126 : decode cX8_count 126 = .ok (.invokevirtual 63, 3) := by decide +kernel
theorem dX8_count_129 : decode cX8_count 129 = .ok (.ireturn, 1) := by decide +kernel
theorem dX8_count_130 : decode cX8_count 130 = .ok (.aload_n 0, 1) := by decide +kernel
theorem dX8_count_131 : decode cX8_count 131 = .ok (.getfield 21, 3) := by decide +kernel
theorem dX8_count_134 : decode cX8_count 134 = .ok (.getfield 130, 3) := by decide +kernel
theorem dX8_count_137 : decode cX8_count 137 = .ok (.invokevirtual 63, 3) := by decide +kernel
theorem dX8_count_140 : decode cX8_count 140 = .ok (.aload_n 0, 1) := by decide +kernel
theorem dX8_count_141 : decode cX8_count 141 = .ok (.getfield 38, 3) := by decide +kernel
theorem dX8_count_144 : decode cX8_count 144 = .ok (.invokevirtual 293, 3) := by decide +kernel
theorem dX8_count_147 : decode cX8_count 147 = .ok (.isub, 1) := by decide +kernel
theorem dX8_count_148 : decode cX8_count 148 = .ok (.ireturn, 1) := by decide +kernel
theorem dX8_count_149 : decode cX8_count 149 = .ok (.aload_n 0, 1) := by decide +kernel
theorem dX8_count_150 : decode cX8_count 150 = .ok (.getfield 21, 3) := by decide +kernel
theorem dX8_count_153 : decode cX8_count 153 = .ok (.getfield 296, 3) := by decide +kernel
theorem dX8_count_156 : decode cX8_count 156 = .ok (.ifCond .eq 7, 3) := by decide +kernel
theorem dX8_count_159 : decode cX8_count 159 = .ok (.iconst 1, 1) := by decide +kernel
theorem dX8_count_160 : decode cX8_count 160 = .ok (.goto 4, 3) := by decide +kernel
theorem dX8_count_163 : decode cX8_count 163 = .ok (.iconst 0, 1) := by decide +kernel
theorem dX8_count_164 : decode cX8_count 164 = .ok (.ireturn, 1) := by decide +kernel
theorem dX8_count_165 : decode cX8_count 165 = .ok (.aload_n 0, 1) := by decide +kernel
theorem dX8_count_166 : decode cX8_count 166 = .ok (.getfield 21, 3) := by decide +kernel
theorem dX8_count_169 : decode cX8_count 169 = .ok (.getfield 299, 3) := by decide +kernel
theorem dX8_count_172 : decode cX8_count 172 = .ok (.ireturn, 1) := by decide +kernel
theorem dX8_count_173 : decode cX8_count 173 = .ok (.aload_n 0, 1) := by decide +kernel
theorem dX8_count_174 : decode cX8_count 174 = .ok (.getfield 21, 3) := by decide +kernel
theorem dX8_count_177 : decode cX8_count 177 = .ok (.getfield 302, 3) := by decide +kernel
theorem dX8_count_180 : decode cX8_count 180 = .ok (.ireturn, 1) := by decide +kernel
theorem dX8_count_181 : decode cX8_count 181 = .ok (.aload_n 0, 1) := by decide +kernel
theorem dX8_count_182 : decode cX8_count 182 = .ok (.getfield 38, 3) := by decide +kernel
theorem dX8_count_185 : decode cX8_count 185 = .ok (.invokevirtual 305, 3) := by decide +kernel
theorem dX8_count_188 : decode cX8_count 188 = .ok (.ireturn, 1) := by decide +kernel
theorem dX8_count_189 : decode cX8_count 189 = .ok (.aload_n 0, 1) := by decide +kernel
theorem dX8_count_190 : decode cX8_count 190 = .ok (.invokevirtual 308, 3) := by decide +kernel
theorem dX8_count_193 : decode cX8_count 193 = .ok (.ireturn, 1) := by decide +kernel
theorem dX8_count_194 : decode cX8_count 194 = .ok (.aload_n 0, 1) := by decide +kernel
theorem dX8_count_195 : decode cX8_count 195 = .ok (.getfield 21, 3) := by decide +kernel
theorem dX8_count_198 : decode cX8_count 198 = .ok (.getfield 258, 3) := by decide +kernel
theorem dX8_count_201 : decode cX8_count 201 = .ok (.ireturn, 1) := by decide +kernel
theorem dX8_count_202 : decode cX8_count 202 = .ok (.aload_n 0, 1) := by decide +kernel
theorem dX8_count_203 : decode cX8_count 203 = .ok (.getfield 38, 3) := by decide +kernel
theorem dX8_count_206 : decode cX8_count 206 = .ok (.invokevirtual 311, 3) := by decide +kernel
theorem dX8_count_209 : decode cX8_count 209 = .ok (.ireturn, 1) := by decide +kernel
theorem dX8_count_210 : decode cX8_count 210 = .ok (.aload_n 0, 1) := by decide +kernel
theorem dX8_count_211 : decode cX8_count 211 = .ok (.getfield 123, 3) := by decide +kernel
theorem dX8_count_214 : decode cX8_count 214 = .ok (.ireturn, 1) := by decide +kernel
theorem dX8_count_215 : decode cX8_count 215 = .ok (.iconst (-1), 1) := by decide +kernel
theorem dX8_count_216 : decode cX8_count 216 = .ok (.ireturn, 1) := by decide +kernel
theorem dX8_countAllWords_0 : decode cX8_countAllWords 0 = .ok (.iconst 0, 1) := by decide +kernel
theorem dX8_countAllWords_1 : decode cX8_countAllWords 1 = .ok (.istore_n 1, 1) := by decide +kernel
theorem dX8_countAllWords_2 : decode cX8_countAllWords 2 = .ok (.iconst 0, 1) := by decide +kernel
theorem dX8_countAllWords_3 : decode cX8_countAllWords 3 = .ok (.istore_n 2, 1) := by decide +kernel
theorem dX8_countAllWords_4 : decode cX8_countAllWords 4 = .ok (.iload_n 2, 1) := by decide +kernel
theorem dX8_countAllWords_5 : decode cX8_countAllWords 5 = .ok (.aload_n 0, 1) := by decide +kernel
theorem dX8_countAllWords_6 : decode cX8_countAllWords 6 = .ok (.getfield 38, 3) := by decide +kernel
theorem dX8_countAllWords_9 : decode cX8_countAllWords 9 = .ok (.invokevirtual 136, 3) := by decide +kernel
theorem dX8_countAllWords_12 : decode cX8_countAllWords 12 = .ok (.if_icmp .ge 31, 3) := by decide +kernel
theorem dX8_countAllWords_15 : decode cX8_countAllWords 15 = .ok (.aload_n 0, 1) := by decide +kernel
theorem dX8_countAllWords_16 : decode cX8_countAllWords 16 = .ok (.getfield 38, 3) := by decide +kernel
theorem dX8_countAllWords_19 : decode cX8_countAllWords 19 = .ok (.iload_n 2, 1) := by decide +kernel
theorem dX8_countAllWords_20 : decode cX8_countAllWords 20 = .ok (.invokevirtual 241, 3) := by decide +kernel
theorem dX8_countAllWords_23 : decode cX8_countAllWords 23 = .ok (.astore_n 3, 1) := by decide +kernel
theorem dX8_countAllWords_24 : decode cX8_countAllWords 24 = .ok (.aload_n 3, 1) := by decide +kernel
theorem dX8_countAllWords_25 : decode cX8_countAllWords 25 = .ok (.ifnull 12, 3) := by decide +kernel
theorem dX8_countAllWords_28 : decode cX8_countAllWords 28 = .ok (.iload_n 1, 1) := by decide +kernel
theorem dX8_countAllWords_29 : decode cX8_countAllWords 29 = .ok (.aload_n 0, 1) := by decide +kernel
theorem dX8_countAllWords_30 : decode cX8_countAllWords 30 = .ok (.iload_n 2, 1) := by decide +kernel
theorem dX8_countAllWords_31 : decode cX8_countAllWords 31 = .ok (.aload_n 3, 1) := by decide +kernel
theorem dX8_countAllWords_32 : decode cX8_countAllWords 32 = .ok (.invokevirtual 198, 3) := by decide +kernel
theorem dX8_countAllWords_35 : decode cX8_countAllWords 35 = .ok (.iadd, 1) := by decide +kernel
theorem dX8_countAllWords_36 : decode cX8_countAllWords 36 = .ok (.istore_n 1, 1) := by decide +kernel
theorem dX8_countAllWords_37 : decode cX8_countAllWords 37 = .ok (.iinc 2 1, 3) := by decide +kernel
theorem dX8_countAllWords_40 : decode cX8_countAllWords 40 = .ok (.goto (-36), 3) := by decide +kernel
theorem dX8_countAllWords_43 : decode cX8_countAllWords 43 = .ok (.iload_n 1, 1) := by decide +kernel
theorem dX8_countAllWords_44 : decode cX8_countAllWords 44 = .ok (.ireturn, 1) := by decide +kernel
theorem dX8_countWords_0 : decode cX8_countWords 0 = .ok (.aload_n 0, 1) := by decide +kernel
theorem dX8_countWords_1 : decode cX8_countWords 1 = .ok (.getfield 21, 3) := by decide +kernel
theorem dX8_countWords_4 : decode cX8_countWords 4 = .ok (.iload_n 1, 1) := by decide +kernel
theorem dX8_countWords_5 : decode cX8_countWords 5 = .ok (.invokevirtual 194, 3) := by decide +kernel
theorem dX8_countWords_8 : decode cX8_countWords 8 = .ok (.astore_n 3, 1) := by decide +kernel
theorem dX8_countWords_9 : decode cX8_countWords 9 = .ok (.aload_n 3, 1) := by decide +kernel
theorem dX8_countWords_10 : decode cX8_countWords 10 = .ok (.ifnonnull 24, 3) := by decide +kernel
theorem dX8_countWords_13 : decode cX8_countWords 13 = .ok (.aload_n 0, 1) := by decide +kernel
theorem dX8_countWords_14 : decode cX8_countWords 14 = .ok (.getfield 38, 3) := by decide +kernel
theorem dX8_countWords_17 : decode cX8_countWords 17 = .ok (.getfield 373, 3) := by decide +kernel
theorem dX8_countWords_20 : decode cX8_countWords 20 = .ok (.aload_n 2, 1) := by decide +kernel
theorem dX8_countWords_21 : decode cX8_countWords 21 = .ok (.getfield 224, 3) := by decide +kernel
theorem dX8_countWords_24 : decode cX8_countWords 24 = .ok (.aload_n 2, 1) := by decide +kernel
theorem dX8_countWords_25 : decode cX8_countWords 25 = .ok (.getfield 187, 3) := by decide +kernel
theorem dX8_countWords_28 : decode cX8_countWords 28 = .ok (.invokevirtual 386, 3) := by decide +kernel
theorem dX8_countWords_31 : decode cX8_countWords 31 = .ok (.goto 12, 3) := by decide +kernel
theorem dX8_countWords_34 : decode cX8_countWords 34 = .ok (.aload_n 3, 1) := by decide +kernel
theorem dX8_countWords_35 : decode cX8_countWords 35 = .ok (.iconst 0, 1) := by decide +kernel
theorem dX8_countWords_36 : decode cX8_countWords 36 = .ok (.aload_n 3, 1) := by decide +kernel
theorem dX8_countWords_37 : decode cX8_countWords 37 = .ok (.invokevirtual 63, 3) := by decide +kernel
theorem dX8_countWords_40 : decode cX8_countWords 40 = .ok (.invokevirtual 386, 3) := by decide +kernel
theorem dX8_countWords_43 : decode cX8_countWords 43 = .ok (.ireturn, 1) := by decide +kernel
theorem dX8_cutAgain_0 : decode cX8_cutAgain 0 = .ok (.aload_n 0, 1) := by decide +kernel
theorem dX8_cutAgain_1 : decode cX8_cutAgain 1 = .ok (.getfield 334, 3) := by decide +kernel
theorem dX8_cutAgain_4 : decode cX8_cutAgain 4 = .ok (.ifCond .ne 26, 3) := by decide +kernel
theorem dX8_cutAgain_7 : decode cX8_cutAgain 7 = .ok (.aload_n 0, 1) := by decide +kernel
theorem dX8_cutAgain_8 : decode cX8_cutAgain 8 = .ok (.getfield 42, 3) := by decide +kernel
theorem dX8_cutAgain_11 : decode cX8_cutAgain 11 = .ok (.aload_n 0, 1) := by decide +kernel
theorem dX8_cutAgain_12 : decode cX8_cutAgain 12 = .ok (.getfield 48, 3) := by decide +kernel
theorem dX8_cutAgain_15 : decode cX8_cutAgain 15 = .ok (.getfield 160, 3) := by decide +kernel
theorem dX8_cutAgain_18 : decode cX8_cutAgain 18 = .ok (.aload_n 0, 1) := by decide +kernel
theorem dX8_cutAgain_19 : decode cX8_cutAgain 19 = .ok (.getfield 21, 3) := by decide +kernel
theorem dX8_cutAgain_22 : decode cX8_cutAgain 22 = .ok (.invokevirtual 361, 3) := by decide +kernel
theorem dX8_cutAgain_25 : decode cX8_cutAgain 25 = .ok (.aload_n 0, 1) := by decide +kernel
theorem dX8_cutAgain_26 : decode cX8_cutAgain 26 = .ok (.iconst 1, 1) := by decide +kernel
theorem dX8_cutAgain_27 : decode cX8_cutAgain 27 = .ok (.putfield 334, 3) := by decide +kernel
theorem dX8_cutAgain_30 : decode cX8_cutAgain 30 = .ok (.return_, 1) := by decide +kernel
theorem dX8_cutAnew_0 : decode cX8_cutAnew 0 = .ok (.aload_n 0, 1) := by decide +kernel
theorem dX8_cutAnew_1 : decode cX8_cutAnew 1 = .ok (.iconst 0, 1) := by decide +kernel
theorem dX8_cutAnew_2 : decode cX8_cutAnew 2 = .ok (.putfield 334, 3) := by decide +kernel
theorem dX8_cutAnew_5 : decode cX8_cutAnew 5 = .ok (.aload_n 0, 1) := by decide +kernel
theorem dX8_cutAnew_6 : decode cX8_cutAnew 6 = .ok (.getfield 21, 3) := by decide +kernel
theorem dX8_cutAnew_9 : decode cX8_cutAnew 9 = .ok (.invokevirtual 358, 3) := by decide +kernel
theorem dX8_cutAnew_12 : decode cX8_cutAnew 12 = .ok (.aload_n 0, 1) := by decide +kernel
theorem dX8_cutAnew_13 : decode cX8_cutAnew 13 = .ok (.getfield 38, 3) := by decide +kernel
theorem dX8_cutAnew_16 : decode cX8_cutAnew 16 = .ok (.aload_n 0, 1) := by decide +kernel
theorem dX8_cutAnew_17 : decode cX8_cutAnew 17 = .ok (.getfield 21, 3) := by decide +kernel
theorem dX8_cutAnew_20 : decode cX8_cutAnew 20 = .ok (.getfield 130, 3) := by decide +kernel
theorem dX8_cutAnew_23 : decode cX8_cutAnew 23 = .ok (.aload_n 0, 1) := by decide +kernel
theorem dX8_cutAnew_24 : decode cX8_cutAnew 24 = .ok (.getfield 21, 3) := by decide +kernel
theorem dX8_cutAnew_27 : decode cX8_cutAnew 27 = .ok (.invokevirtual 361, 3) := by decide +kernel
theorem dX8_cutAnew_30 : decode cX8_cutAnew 30 = .ok (.aload_n 0, 1) := by decide +kernel
theorem dX8_cutAnew_31 : decode cX8_cutAnew 31 = .ok (.getfield 48, 3) := by decide +kernel
theorem dX8_cutAnew_34 : decode cX8_cutAnew 34 = .ok (.aload_n 0, 1) := by decide +kernel
theorem dX8_cutAnew_35 : decode cX8_cutAnew 35 = .ok (.getfield 21, 3) := by decide +kernel
theorem dX8_cutAnew_38 : decode cX8_cutAnew 38 = .ok (.aload_n 0, 1) := by decide +kernel
theorem dX8_cutAnew_39 : decode cX8_cutAnew 39 = .ok (.getfield 38, 3) := by decide +kernel
theorem dX8_cutAnew_42 : decode cX8_cutAnew 42 = .ok (.invokevirtual 365, 3) := by decide +kernel
theorem dX8_cutAnew_45 : decode cX8_cutAnew 45 = .ok (.pop, 1) := by decide +kernel
theorem dX8_cutAnew_46 : decode cX8_cutAnew 46 = .ok (.iconst 0, 1) := by decide +kernel
theorem dX8_cutAnew_47 : decode cX8_cutAnew 47 = .ok (.ireturn, 1) := by decide +kernel
theorem dX8_doAct_0 : decode cX8_doAct 0 = .ok (.aload_n 0, 1) := by decide +kernel
theorem dX8_doAct_1 : decode cX8_doAct 1 = .ok (.iconst 0, 1) := by decide +kernel
theorem dX8_doAct_2 : decode cX8_doAct 2 = .ok (.putfield 334, 3) := by decide +kernel
theorem dX8_doAct_5 : decode cX8_doAct 5 = .ok (.iload_n 1, 1) := by decide +kernel
theorem dX8_doAct_6 : decode cX8_doAct 6 = .ok (.tableswitch 203 0 11 #[62, 75, 88, 101, 114, 127, 140, 166, 179, 185, 191, 198], 62) := by decide +kernel
theorem dX8_doAct_68 : decode cX8_doAct 68 = .ok (.aload_n 0, 1) := by decide +kernel
theorem dX8_doAct_69 : decode cX8_doAct 69 = .ok (.getfield 21, 3) := by decide +kernel
theorem dX8_doAct_72 : decode cX8_doAct 72 = .ok (.iload_n 2, 1) := by decide +kernel
theorem dX8_doAct_73 : decode cX8_doAct 73 = .ok (.putfield 232, 3) := by decide +kernel
theorem dX8_doAct_76 : decode cX8_doAct 76 = .ok (.aload_n 0, 1) := by decide +kernel
theorem dX8_doAct_77 : decode cX8_doAct 77 = .ok (.invokevirtual 133, 3) := by decide +kernel
theorem dX8_doAct_80 : decode cX8_doAct 80 = .ok (.ireturn, 1) := by decide +kernel
theorem dX8_doAct_81 : decode cX8_doAct 81 = .ok (.aload_n 0, 1) := by decide +kernel
theorem dX8_doAct_82 : decode cX8_doAct 82 = .ok (.getfield 21, 3) := by decide +kernel
theorem dX8_doAct_85 : decode cX8_doAct 85 = .ok (.iload_n 2, 1) := by decide +kernel
theorem dX8_doAct_86 : decode cX8_doAct 86 = .ok (.putfield 290, 3) := by decide +kernel
theorem dX8_doAct_89 : decode cX8_doAct 89 = .ok (.aload_n 0, 1) := by decide +kernel
theorem dX8_doAct_90 : decode cX8_doAct 90 = .ok (.invokevirtual 133, 3) := by decide +kernel
theorem dX8_doAct_93 : decode cX8_doAct 93 = .ok (.ireturn, 1) := by decide +kernel
theorem dX8_doAct_94 : decode cX8_doAct 94 = .ok (.aload_n 0, 1) := by decide +kernel
theorem dX8_doAct_95 : decode cX8_doAct 95 = .ok (.getfield 21, 3) := by decide +kernel
theorem dX8_doAct_98 : decode cX8_doAct 98 = .ok (.iconst (-1), 1) := by decide +kernel
theorem dX8_doAct_99 : decode cX8_doAct 99 = .ok (.putfield 290, 3) := by decide +kernel
theorem dX8_doAct_102 : decode cX8_doAct 102 = .ok (.aload_n 0, 1) := by decide +kernel
theorem dX8_doAct_103 : decode cX8_doAct 103 = .ok (.invokevirtual 133, 3) := by decide +kernel
theorem dX8_doAct_106 : decode cX8_doAct 106 = .ok (.ireturn, 1) := by decide +kernel
theorem dX8_doAct_107 : decode cX8_doAct 107 = .ok (.aload_n 0, 1) := by decide +kernel
theorem dX8_doAct_108 : decode cX8_doAct 108 = .ok (.getfield 21, 3) := by decide +kernel
theorem dX8_doAct_111 : decode cX8_doAct 111 = .ok (.iconst 1, 1) := by decide +kernel
theorem dX8_doAct_112 : decode cX8_doAct 112 = .ok (.putfield 296, 3) := by decide +kernel
theorem dX8_doAct_115 : decode cX8_doAct 115 = .ok (.aload_n 0, 1) := by decide +kernel
theorem dX8_doAct_116 : decode cX8_doAct 116 = .ok (.invokevirtual 133, 3) := by decide +kernel
theorem dX8_doAct_119 : decode cX8_doAct 119 = .ok (.ireturn, 1) := by decide +kernel
theorem dX8_doAct_120 : decode cX8_doAct 120 = .ok (.aload_n 0, 1) := by decide +kernel
theorem dX8_doAct_121 : decode cX8_doAct 121 = .ok (.getfield 21, 3) := by decide +kernel
theorem dX8_doAct_124 : decode cX8_doAct 124 = .ok (.iconst 0, 1) := by decide +kernel
theorem dX8_doAct_125 : decode cX8_doAct 125 = .ok (.putfield 296, 3) := by decide +kernel
theorem dX8_doAct_128 : decode cX8_doAct 128 = .ok (.aload_n 0, 1) := by decide +kernel
theorem dX8_doAct_129 : decode cX8_doAct 129 = .ok (.invokevirtual 133, 3) := by decide +kernel
theorem dX8_doAct_132 : decode cX8_doAct 132 = .ok (.ireturn, 1) := by decide +kernel
theorem dX8_doAct_133 : decode cX8_doAct 133 = .ok (.aload_n 0, 1) := by decide +kernel
theorem dX8_doAct_134 : decode cX8_doAct 134 = .ok (.getfield 21, 3) := by decide +kernel
theorem dX8_doAct_137 : decode cX8_doAct 137 = .ok (.iload_n 2, 1) := by decide +kernel
theorem dX8_doAct_138 : decode cX8_doAct 138 = .ok (.putfield 299, 3) := by decide +kernel
theorem dX8_doAct_141 : decode cX8_doAct 141 = .ok (.aload_n 0, 1) := by decide +kernel
theorem dX8_doAct_142 : decode cX8_doAct 142 = .ok (.invokevirtual 133, 3) := by decide +kernel
theorem dX8_doAct_145 : decode cX8_doAct 145 = .ok (.ireturn, 1) := by decide +kernel
theorem dX8_doAct_146 : decode cX8_doAct 146 = .ok (.aload_n 0, 1) := by decide +kernel
theorem dX8_doAct_147 : decode cX8_doAct 147 = .ok (.getfield 21, 3) := by decide +kernel
theorem dX8_doAct_150 : decode cX8_doAct 150 = .ok (.aload 4, 2) := by decide +kernel
theorem dX8_doAct_152 : decode cX8_doAct 152 = .ok (.invokevirtual 337, 3) := by decide +kernel
theorem dX8_doAct_155 : decode cX8_doAct 155 = .ok (.istore 5, 2) := by decide +kernel
theorem dX8_doAct_157 : decode cX8_doAct 157 = .ok (.iload 5, 2) := by decide +kernel
theorem dX8_doAct_159 : decode cX8_doAct 159 = .ok (.ifCond .ne 10, 3) := by decide +kernel
theorem dX8_doAct_162 : decode cX8_doAct 162 = .ok (.aload_n 0, 1) := by decide +kernel
theorem dX8_doAct_163 : decode cX8_doAct 163 = .ok (.invokevirtual 133, 3) := by decide +kernel
theorem dX8_doAct_166 : decode cX8_doAct 166 = .ok (.goto 5, 3) := by decide +kernel
theorem dX8_doAct_169 : decode cX8_doAct 169 = .ok (.iload 5, 2) := by decide +kernel
theorem dX8_doAct_171 : decode cX8_doAct 171 = .ok (.ireturn, 1) := by decide +kernel
theorem dX8_doAct_172 : decode cX8_doAct 172 = .ok (.aload_n 0, 1) := by decide +kernel
theorem dX8_doAct_173 : decode cX8_doAct 173 = .ok (.getfield 21, 3) := by decide +kernel
theorem dX8_doAct_176 : decode cX8_doAct 176 = .ok (.iconst 0, 1) := by decide +kernel
theorem dX8_doAct_177 : decode cX8_doAct 177 = .ok (.putfield 302, 3) := by decide +kernel
theorem dX8_doAct_180 : decode cX8_doAct 180 = .ok (.aload_n 0, 1) := by decide +kernel
theorem dX8_doAct_181 : decode cX8_doAct 181 = .ok (.invokevirtual 133, 3) := by decide +kernel
theorem dX8_doAct_184 : decode cX8_doAct 184 = .ok (.ireturn, 1) := by decide +kernel
theorem dX8_doAct_185 : decode cX8_doAct 185 = .ok (.aload_n 0, 1) := by decide +kernel
theorem dX8_doAct_186 : decode cX8_doAct 186 = .ok (.iload_n 2, 1) := by decide +kernel
theorem dX8_doAct_187 : decode cX8_doAct 187 = .ok (.invokevirtual 341, 3) := by decide +kernel
theorem dX8_doAct_190 : decode cX8_doAct 190 = .ok (.ireturn, 1) := by decide +kernel
theorem dX8_doAct_191 : decode cX8_doAct 191 = .ok (.aload_n 0, 1) := by decide +kernel
theorem dX8_doAct_192 : decode cX8_doAct 192 = .ok (.iload_n 2, 1) := by decide +kernel
theorem dX8_doAct_193 : decode cX8_doAct 193 = .ok (.invokevirtual 344, 3) := by decide +kernel
theorem dX8_doAct_196 : decode cX8_doAct 196 = .ok (.ireturn, 1) := by decide +kernel
theorem dX8_doAct_197 : decode cX8_doAct 197 = .ok (.aload_n 0, 1) := by decide +kernel
theorem dX8_doAct_198 : decode cX8_doAct 198 = .ok (.iload_n 2, 1) := by decide +kernel
theorem dX8_doAct_199 : decode cX8_doAct 199 = .ok (.iload_n 3, 1) := by decide +kernel
theorem dX8_doAct_200 : decode cX8_doAct 200 = .ok (.invokevirtual 347, 3) := by decide +kernel
theorem dX8_doAct_203 : decode cX8_doAct 203 = .ok (.ireturn, 1) := by decide +kernel
theorem dX8_doAct_204 : decode cX8_doAct 204 = .ok (.aload_n 0, 1) := by decide +kernel
theorem dX8_doAct_205 : decode cX8_doAct 205 = .ok (.invokevirtual 351, 3) := by decide +kernel
theorem dX8_doAct_208 : decode cX8_doAct 208 = .ok (.ireturn, 1) := by decide +kernel
theorem dX8_doAct_209 : decode cX8_doAct 209 = .ok (.aload_n 0, 1) := by decide +kernel
theorem dX8_doAct_210 : decode cX8_doAct 210 = .ok (.iload_n 2, 1) := by decide +kernel
theorem dX8_doAct_211 : decode cX8_doAct 211 = .ok (.aload 4, 2) := by decide +kernel
theorem dX8_doAct_213 : decode cX8_doAct 213 = .ok (.invokevirtual 354, 3) := by decide +kernel
theorem dX8_doAct_216 : decode cX8_doAct 216 = .ok (.ireturn, 1) := by decide +kernel
theorem dX8_end_0 : decode cX8_end 0 = .ok (.iload_n 1, 1) := by decide +kernel
theorem dX8_end_1 : decode cX8_end 1 = .ok (.ifCond .lt 14, 3) := by decide +kernel
theorem dX8_end_4 : decode cX8_end 4 = .ok (.iload_n 1, 1) := by decide +kernel
theorem dX8_end_5 : decode cX8_end 5 = .ok (.aload_n 0, 1) := by decide +kernel
theorem dX8_end_6 : decode cX8_end 6 = .ok (.getfield 14, 3) := by decide +kernel
theorem dX8_end_9 : decode cX8_end 9 = .ok (.invokevirtual 63, 3) := by decide +kernel
theorem dX8_end_12 : decode cX8_end 12 = .ok (.if_icmp .le 5, 3) := by decide +kernel
theorem dX8_end_15 : decode cX8_end 15 = .ok (.iconst 0, 1) := by decide +kernel
theorem dX8_end_16 : decode cX8_end 16 = .ok (.ireturn, 1) := by decide +kernel
theorem dX8_end_17 : decode cX8_end 17 = .ok (.aload_n 0, 1) := by decide +kernel
theorem dX8_end_18 : decode cX8_end 18 = .ok (.getfield 14, 3) := by decide +kernel
theorem dX8_end_21 : decode cX8_end 21 = .ok (.iload_n 1, 1) := by decide +kernel
theorem dX8_end_22 : decode cX8_end 22 = .ok (.invokevirtual 70, 3) := by decide +kernel
theorem dX8_end_25 : decode cX8_end 25 = .ok (.iconst 1, 1) := by decide +kernel
theorem dX8_end_26 : decode cX8_end 26 = .ok (.ireturn, 1) := by decide +kernel
theorem dX8_fault_0 : decode cX8_fault 0 = .ok (.aload_n 0, 1) := by decide +kernel
theorem dX8_fault_1 : decode cX8_fault 1 = .ok (.getfield 59, 3) := by decide +kernel
theorem dX8_fault_4 : decode cX8_fault 4 = .ok (.ireturn, 1) := by decide +kernel
theorem dX8_feed_0 : decode cX8_feed 0 = .ok (.aload_n 0, 1) := by decide +kernel
theorem dX8_feed_1 : decode cX8_feed 1 = .ok (.getfield 14, 3) := by decide +kernel
theorem dX8_feed_4 : decode cX8_feed 4 = .ok (.invokevirtual 63, 3) := by decide +kernel
theorem dX8_feed_7 : decode cX8_feed 7 = .ok (.bipush 20, 2) := by decide +kernel
theorem dX8_feed_9 : decode cX8_feed 9 = .ok (.iadd, 1) := by decide +kernel
theorem dX8_feed_10 : decode cX8_feed 10 = .ok (.sipush 400, 3) := by decide +kernel
theorem dX8_feed_13 : decode cX8_feed 13 = .ok (.if_icmp .le 5, 3) := by decide +kernel
theorem dX8_feed_16 : decode cX8_feed 16 = .ok (.iconst (-1), 1) := by decide +kernel
theorem dX8_feed_17 : decode cX8_feed 17 = .ok (.ireturn, 1) := by decide +kernel
theorem dX8_feed_18 : decode cX8_feed 18 = .ok (.aload_n 0, 1) := by decide +kernel
theorem dX8_feed_19 : decode cX8_feed 19 = .ok (.iload_n 1, 1) := by decide +kernel
theorem dX8_feed_20 : decode cX8_feed 20 = .ok (.invokevirtual 67, 3) := by decide +kernel
theorem dX8_feed_23 : decode cX8_feed 23 = .ok (.aload_n 0, 1) := by decide +kernel
theorem dX8_feed_24 : decode cX8_feed 24 = .ok (.iload_n 2, 1) := by decide +kernel
theorem dX8_feed_25 : decode cX8_feed 25 = .ok (.invokevirtual 67, 3) := by decide +kernel
theorem dX8_feed_28 : decode cX8_feed 28 = .ok (.aload_n 0, 1) := by decide +kernel
theorem dX8_feed_29 : decode cX8_feed 29 = .ok (.iload_n 3, 1) := by decide +kernel
theorem dX8_feed_30 : decode cX8_feed 30 = .ok (.invokevirtual 67, 3) := by decide +kernel
theorem dX8_feed_33 : decode cX8_feed 33 = .ok (.aload_n 0, 1) := by decide +kernel
theorem dX8_feed_34 : decode cX8_feed 34 = .ok (.iload 4, 2) := by decide +kernel
theorem dX8_feed_36 : decode cX8_feed 36 = .ok (.invokevirtual 67, 3) := by decide +kernel
theorem dX8_feed_39 : decode cX8_feed 39 = .ok (.aload_n 0, 1) := by decide +kernel
theorem dX8_feed_40 : decode cX8_feed 40 = .ok (.iload 5, 2) := by decide +kernel
theorem dX8_feed_42 : decode cX8_feed 42 = .ok (.invokevirtual 67, 3) := by decide +kernel
