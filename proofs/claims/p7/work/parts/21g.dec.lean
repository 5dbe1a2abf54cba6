theorem dX9_ruleText_20 : decode cX9_ruleText 20 = .ok (.invokevirtual 361, 3) := by decide +kernel
theorem dX9_ruleText_23 : decode cX9_ruleText 23 = .ok (.goto 4, 3) := by decide +kernel
theorem dX9_ruleText_26 : decode cX9_ruleText 26 = .ok (.iconst 0, 1) := by decide +kernel
theorem dX9_ruleText_27 : decode cX9_ruleText 27 = .ok (.ireturn, 1) := by decide +kernel
theorem dX9_rules_0 : decode cX9_rules 0 = .ok (.aload_n 0, 1) := by decide +kernel
theorem dX9_rules_1 : decode cX9_rules 1 = .ok (.getfield 7, 3) := by decide +kernel
theorem dX9_rules_4 : decode cX9_rules 4 = .ok (.iload_n 1, 1) := by decide +kernel
theorem dX9_rules_5 : decode cX9_rules 5 = .ok (.iload_n 2, 1) := by decide +kernel
theorem dX9_rules_6 : decode cX9_rules 6 = .ok (.iastore, 1) := by decide +kernel
theorem dX9_rules_7 : decode cX9_rules 7 = .ok (.aload_n 0, 1) := by decide +kernel
theorem dX9_rules_8 : decode cX9_rules 8 = .ok (.invokevirtual 322, 3) := by decide +kernel
theorem dX9_rules_11 : decode cX9_rules 11 = .ok (.iconst 0, 1) := by decide +kernel
theorem dX9_rules_12 : decode cX9_rules 12 = .ok (.ireturn, 1) := by decide +kernel
theorem dX9_skeleton_0 : decode cX9_skeleton 0 = .ok (.aload_n 0, 1) := by decide +kernel
theorem dX9_skeleton_1 : decode cX9_skeleton 1 = .ok (.getfield 7, 3) := by decide +kernel
theorem dX9_skeleton_4 : decode cX9_skeleton 4 = .ok (.iconst 0, 1) := by decide +kernel
theorem dX9_skeleton_5 : decode cX9_skeleton 5 = .ok (.iaload, 1) := by decide +kernel
theorem dX9_skeleton_6 : decode cX9_skeleton 6 = .ok (.istore_n 1, 1) := by decide +kernel
theorem dX9_skeleton_7 : decode cX9_skeleton 7 = .ok (.iconst 0, 1) := by decide +kernel
theorem dX9_skeleton_8 : decode cX9_skeleton 8 = .ok (.istore_n 2, 1) := by decide +kernel
theorem dX9_skeleton_9 : decode cX9_skeleton 9 = .ok (.iload_n 2, 1) := by decide +kernel
theorem dX9_skeleton_10 : decode cX9_skeleton 10 = .ok (.aload_n 0, 1) := by decide +kernel
theorem dX9_skeleton_11 : decode cX9_skeleton 11 = .ok (.getfield 204, 3) := by decide +kernel
theorem dX9_skeleton_14 : decode cX9_skeleton 14 = .ok (.if_icmp .ge 25, 3) := by decide +kernel
theorem dX9_skeleton_17 : decode cX9_skeleton 17 = .ok (.iload_n 1, 1) := by decide +kernel
theorem dX9_skeleton_18 : decode cX9_skeleton 18 = .ok (.aload_n 0, 1) := by decide +kernel
theorem dX9_skeleton_19 : decode cX9_skeleton 19 = .ok (.getfield 84, 3) := by decide +kernel
theorem dX9_skeleton_22 : decode cX9_skeleton 22 = .ok (.iload_n 2, 1) := by decide +kernel
theorem dX9_skeleton_23 : decode cX9_skeleton 23 = .ok (.iaload, 1) := by decide +kernel
theorem dX9_skeleton_24 : decode cX9_skeleton 24 = .ok (.aload_n 0, 1) := by decide +kernel
theorem dX9_skeleton_25 : decode cX9_skeleton 25 = .ok (.getfield 81, 3) := by decide +kernel
theorem dX9_skeleton_28 : decode cX9_skeleton 28 = .ok (.iload_n 2, 1) := by decide +kernel
theorem dX9_skeleton_29 : decode cX9_skeleton 29 = .ok (.iaload, 1) := by decide +kernel
theorem dX9_skeleton_30 : decode cX9_skeleton 30 = .ok (.isub, 1) := by decide +kernel
theorem dX9_skeleton_31 : decode cX9_skeleton 31 = .ok (.isub, 1) := by decide +kernel
theorem dX9_skeleton_32 : decode cX9_skeleton 32 = .ok (.istore_n 1, 1) := by decide +kernel
theorem dX9_skeleton_33 : decode cX9_skeleton 33 = .ok (.iinc 2 1, 3) := by decide +kernel
theorem dX9_skeleton_36 : decode cX9_skeleton 36 = .ok (.goto (-27), 3) := by decide +kernel
theorem dX9_skeleton_39 : decode cX9_skeleton 39 = .ok (.iload_n 1, 1) := by decide +kernel
theorem dX9_skeleton_40 : decode cX9_skeleton 40 = .ok (.ireturn, 1) := by decide +kernel
theorem dX9_spread_0 : decode cX9_spread 0 = .ok (.aload_n 0, 1) := by decide +kernel
theorem dX9_spread_1 : decode cX9_spread 1 = .ok (.invokevirtual 420, 3) := by decide +kernel
theorem dX9_spread_4 : decode cX9_spread 4 = .ok (.aload_n 0, 1) := by decide +kernel
theorem dX9_spread_5 : decode cX9_spread 5 = .ok (.aload_n 0, 1) := by decide +kernel
theorem dX9_spread_6 : decode cX9_spread 6 = .ok (.iload_n 1, 1) := by decide +kernel
theorem dX9_spread_7 : decode cX9_spread 7 = .ok (.invokevirtual 370, 3) := by decide +kernel
theorem dX9_spread_10 : decode cX9_spread 10 = .ok (.iconst 1, 1) := by decide +kernel
theorem dX9_spread_11 : decode cX9_spread 11 = .ok (.invokevirtual 429, 3) := by decide +kernel
theorem dX9_spread_14 : decode cX9_spread 14 = .ok (.ifCond .eq 10, 3) := by decide +kernel
theorem dX9_spread_17 : decode cX9_spread 17 = .ok (.aload_n 0, 1) := by decide +kernel
theorem dX9_spread_18 : decode cX9_spread 18 = .ok (.getfield 306, 3) := by decide +kernel
theorem dX9_spread_21 : decode cX9_spread 21 = .ok (.goto 4, 3) := by decide +kernel
theorem dX9_spread_24 : decode cX9_spread 24 = .ok (.iconst 0, 1) := by decide +kernel
theorem dX9_spread_25 : decode cX9_spread 25 = .ok (.ireturn, 1) := by decide +kernel
theorem dX9_spread0_0 : decode cX9_spread0 0 = .ok (.aload_n 0, 1) := by decide +kernel
theorem dX9_spread0_1 : decode cX9_spread0 1 = .ok (.iconst 0, 1) := by decide +kernel
theorem dX9_spread0_2 : decode cX9_spread0 2 = .ok (.putfield 306, 3) := by decide +kernel
theorem dX9_spread0_5 : decode cX9_spread0 5 = .ok (.aload_n 0, 1) := by decide +kernel
theorem dX9_spread0_6 : decode cX9_spread0 6 = .ok (.iload_n 1, 1) := by decide +kernel
theorem dX9_spread0_7 : decode cX9_spread0 7 = .ok (.invokevirtual 293, 3) := by decide +kernel
theorem dX9_spread0_10 : decode cX9_spread0 10 = .ok (.ifCond .ne 5, 3) := by decide +kernel
theorem dX9_spread0_13 : decode cX9_spread0 13 = .ok (.iconst 1, 1) := by decide +kernel
theorem dX9_spread0_14 : decode cX9_spread0 14 = .ok (.ireturn, 1) := by decide +kernel
theorem dX9_spread0_15 : decode cX9_spread0 15 = .ok (.aload_n 0, 1) := by decide +kernel
theorem dX9_spread0_16 : decode cX9_spread0 16 = .ok (.iload_n 1, 1) := by decide +kernel
theorem dX9_spread0_17 : decode cX9_spread0 17 = .ok (.invokevirtual 247, 3) := by decide +kernel
theorem dX9_spread0_20 : decode cX9_spread0 20 = .ok (.iconst (-1), 1) := by decide +kernel
theorem dX9_spread0_21 : decode cX9_spread0 21 = .ok (.if_icmp .ne 5, 3) := by decide +kernel
theorem dX9_spread0_24 : decode cX9_spread0 24 = .ok (.iconst 4, 1) := by decide +kernel
theorem dX9_spread0_25 : decode cX9_spread0 25 = .ok (.ireturn, 1) := by decide +kernel
theorem dX9_spread0_26 : decode cX9_spread0 26 = .ok (.aload_n 0, 1) := by decide +kernel
theorem dX9_spread0_27 : decode cX9_spread0 27 = .ok (.iload_n 1, 1) := by decide +kernel
theorem dX9_spread0_28 : decode cX9_spread0 28 = .ok (.invokevirtual 247, 3) := by decide +kernel
theorem dX9_spread0_31 : decode cX9_spread0 31 = .ok (.istore_n 2, 1) := by decide +kernel
theorem dX9_spread0_32 : decode cX9_spread0 32 = .ok (.aload_n 0, 1) := by decide +kernel
theorem dX9_spread0_33 : decode cX9_spread0 33 = .ok (.iload_n 1, 1) := by decide +kernel
theorem dX9_spread0_34 : decode cX9_spread0 34 = .ok (.invokevirtual 283, 3) := by decide +kernel
theorem dX9_spread0_37 : decode cX9_spread0 37 = .ok (.iconst 0, 1) := by decide +kernel
theorem dX9_spread0_38 : decode cX9_spread0 38 = .ok (.istore_n 3, 1) := by decide +kernel
theorem dX9_spread0_39 : decode cX9_spread0 39 = .ok (.iload_n 3, 1) := by decide +kernel
theorem dX9_spread0_40 : decode cX9_spread0 40 = .ok (.aload_n 0, 1) := by decide +kernel
theorem dX9_spread0_41 : decode cX9_spread0 41 = .ok (.getfield 204, 3) := by decide +kernel
theorem dX9_spread0_44 : decode cX9_spread0 44 = .ok (.if_icmp .ge 54, 3) := by decide +kernel
theorem dX9_spread0_47 : decode cX9_spread0 47 = .ok (.aload_n 0, 1) := by decide +kernel
theorem dX9_spread0_48 : decode cX9_spread0 48 = .ok (.iload_n 1, 1) := by decide +kernel
theorem dX9_spread0_49 : decode cX9_spread0 49 = .ok (.iload_n 3, 1) := by decide +kernel
theorem dX9_spread0_50 : decode cX9_spread0 50 = .ok (.invokevirtual 309, 3) := by decide +kernel
theorem dX9_spread0_53 : decode cX9_spread0 53 = .ok (.ifCond .eq 39, 3) := by decide +kernel
theorem dX9_spread0_56 : decode cX9_spread0 56 = .ok (.iload_n 3, 1) := by decide +kernel
theorem dX9_spread0_57 : decode cX9_spread0 57 = .ok (.iload_n 1, 1) := by decide +kernel
theorem dX9_spread0_58 : decode cX9_spread0 58 = .ok (.if_icmp .ne 6, 3) := by decide +kernel
theorem dX9_spread0_61 : decode cX9_spread0 61 = .ok (.goto 31, 3) := by decide +kernel
theorem dX9_spread0_64 : decode cX9_spread0 64 = .ok (.aload_n 0, 1) := by decide +kernel
theorem dX9_spread0_65 : decode cX9_spread0 65 = .ok (.iload_n 3, 1) := by decide +kernel
theorem dX9_spread0_66 : decode cX9_spread0 66 = .ok (.iload_n 2, 1) := by decide +kernel
theorem dX9_spread0_67 : decode cX9_spread0 67 = .ok (.invokevirtual 287, 3) := by decide +kernel
theorem dX9_spread0_70 : decode cX9_spread0 70 = .ok (.iconst (-1), 1) := by decide +kernel
theorem dX9_spread0_71 : decode cX9_spread0 71 = .ok (.if_icmp .ne 5, 3) := by decide +kernel
theorem dX9_spread0_74 : decode cX9_spread0 74 = .ok (.iconst 2, 1) := by decide +kernel
theorem dX9_spread0_75 : decode cX9_spread0 75 = .ok (.ireturn, 1) := by decide +kernel
theorem dX9_spread0_76 : decode cX9_spread0 76 = .ok (.aload_n 0, 1) := by decide +kernel
theorem dX9_spread0_77 : decode cX9_spread0 77 = .ok (.iload_n 3, 1) := by decide +kernel
theorem dX9_spread0_78 : decode cX9_spread0 78 = .ok (.iload_n 2, 1) := by decide +kernel
theorem dX9_spread0_79 : decode cX9_spread0 79 = .ok (.invokevirtual 296, 3) := by decide +kernel
theorem dX9_spread0_82 : decode cX9_spread0 82 = .ok (.aload_n 0, 1) := by decide +kernel
theorem dX9_spread0_83 : decode cX9_spread0 83 = .ok (.dup, 1) := by decide +kernel
theorem dX9_spread0_84 : decode cX9_spread0 84 = .ok (.getfield 306, 3) := by decide +kernel
theorem dX9_spread0_87 : decode cX9_spread0 87 = .ok (.iconst 1, 1) := by decide +kernel
theorem dX9_spread0_88 : decode cX9_spread0 88 = .ok (.iadd, 1) := by decide +kernel
theorem dX9_spread0_89 : decode cX9_spread0 89 = .ok (.putfield 306, 3) := by decide +kernel
theorem dX9_spread0_92 : decode cX9_spread0 92 = .ok (.iinc 3 1, 3) := by decide +kernel
theorem dX9_spread0_95 : decode cX9_spread0 95 = .ok (.goto (-56), 3) := by decide +kernel
theorem dX9_spread0_98 : decode cX9_spread0 98 = .ok (.aload_n 0, 1) := by decide +kernel
theorem dX9_spread0_99 : decode cX9_spread0 99 = .ok (.invokevirtual 300, 3) := by decide +kernel
theorem dX9_spread0_102 : decode cX9_spread0 102 = .ok (.sipush 600, 3) := by decide +kernel
theorem dX9_spread0_105 : decode cX9_spread0 105 = .ok (.if_icmp .le 7, 3) := by decide +kernel
theorem dX9_spread0_108 : decode cX9_spread0 108 = .ok (.iconst 3, 1) := by decide +kernel
theorem dX9_spread0_109 : decode cX9_spread0 109 = .ok (.goto 4, 3) := by decide +kernel
theorem dX9_spread0_112 : decode cX9_spread0 112 = .ok (.iconst 0, 1) := by decide +kernel
theorem dX9_spread0_113 : decode cX9_spread0 113 = .ok (.ireturn, 1) := by decide +kernel
theorem dX9_stands_0 : decode cX9_stands 0 = .ok (.iload_n 2, 1) := by decide +kernel
theorem dX9_stands_1 : decode cX9_stands 1 = .ok (.iload_n 1, 1) := by decide +kernel
theorem dX9_stands_2 : decode cX9_stands 2 = .ok (.isub, 1) := by decide +kernel
theorem dX9_stands_3 : decode cX9_stands 3 = .ok (.aload_n 3, 1) := by decide +kernel
theorem dX9_stands_4 : decode cX9_stands 4 = .ok (.invokevirtual 173, 3) := by decide +kernel
theorem dX9_stands_7 : decode cX9_stands 7 = .ok (.if_icmp .ge 5, 3) := by decide +kernel
theorem dX9_stands_10 : decode cX9_stands 10 = .ok (.iconst 0, 1) := by decide +kernel
theorem dX9_stands_11 : decode cX9_stands 11 = .ok (.ireturn, 1) := by decide +kernel
theorem dX9_stands_12 : decode cX9_stands 12 = .ok (.iconst 0, 1) := by decide +kernel
theorem dX9_stands_13 : decode cX9_stands 13 = .ok (.istore 4, 2) := by decide +kernel
theorem dX9_stands_15 : decode cX9_stands 15 = .ok (.iload 4, 2) := by decide +kernel
theorem dX9_stands_17 : decode cX9_stands 17 = .ok (.aload_n 3, 1) := by decide +kernel
theorem dX9_stands_18 : decode cX9_stands 18 = .ok (.invokevirtual 173, 3) := by decide +kernel
theorem dX9_stands_21 : decode cX9_stands 21 = .ok (.if_icmp .ge 26, 3) := by decide +kernel
theorem dX9_stands_24 : decode cX9_stands 24 = .ok (.aload_n 0, 1) := by decide +kernel
theorem dX9_stands_25 : decode cX9_stands 25 = .ok (.iload_n 1, 1) := by decide +kernel
theorem dX9_stands_26 : decode cX9_stands 26 = .ok (.iload 4, 2) := by decide +kernel
theorem dX9_stands_28 : decode cX9_stands 28 = .ok (.iadd, 1) := by decide +kernel
theorem dX9_stands_29 : decode cX9_stands 29 = .ok (.iaload, 1) := by decide +kernel
theorem dX9_stands_30 : decode cX9_stands 30 = .ok (.aload_n 3, 1) := by decide +kernel
theorem dX9_stands_31 : decode cX9_stands 31 = .ok (.iload 4, 2) := by decide +kernel
theorem dX9_stands_33 : decode cX9_stands 33 = .ok (.invokevirtual 179, 3) := by decide +kernel
theorem dX9_stands_36 : decode cX9_stands 36 = .ok (.if_icmp .eq 5, 3) := by decide +kernel
theorem dX9_stands_39 : decode cX9_stands 39 = .ok (.iconst 0, 1) := by decide +kernel
theorem dX9_stands_40 : decode cX9_stands 40 = .ok (.ireturn, 1) := by decide +kernel
theorem dX9_stands_41 : decode cX9_stands 41 = .ok (.iinc 4 1, 3) := by decide +kernel
theorem dX9_stands_44 : decode cX9_stands 44 = .ok (.goto (-29), 3) := by decide +kernel
theorem dX9_stands_47 : decode cX9_stands 47 = .ok (.iconst 1, 1) := by decide +kernel
theorem dX9_stands_48 : decode cX9_stands 48 = .ok (.ireturn, 1) := by decide +kernel
theorem dX9_swap_0 : decode cX9_swap 0 = .ok (.aload_n 0, 1) := by decide +kernel
theorem dX9_swap_1 : decode cX9_swap 1 = .ok (.invokevirtual 420, 3) := by decide +kernel
theorem dX9_swap_4 : decode cX9_swap 4 = .ok (.aload_n 0, 1) := by decide +kernel
theorem dX9_swap_5 : decode cX9_swap 5 = .ok (.aload_n 0, 1) := by decide +kernel
theorem dX9_swap_6 : decode cX9_swap 6 = .ok (.iload_n 1, 1) := by decide +kernel
theorem dX9_swap_7 : decode cX9_swap 7 = .ok (.iload_n 2, 1) := by decide +kernel
theorem dX9_swap_8 : decode cX9_swap 8 = .ok (.invokevirtual 364, 3) := by decide +kernel
theorem dX9_swap_11 : decode cX9_swap 11 = .ok (.iconst 1, 1) := by decide +kernel
theorem dX9_swap_12 : decode cX9_swap 12 = .ok (.invokevirtual 429, 3) := by decide +kernel
theorem dX9_swap_15 : decode cX9_swap 15 = .ok (.ifCond .eq 10, 3) := by decide +kernel
theorem dX9_swap_18 : decode cX9_swap 18 = .ok (.aload_n 0, 1) := by decide +kernel
theorem dX9_swap_19 : decode cX9_swap 19 = .ok (.invokevirtual 300, 3) := by decide +kernel
theorem dX9_swap_22 : decode cX9_swap 22 = .ok (.goto 4, 3) := by decide +kernel
theorem dX9_swap_25 : decode cX9_swap 25 = .ok (.iconst 0, 1) := by decide +kernel
theorem dX9_swap_26 : decode cX9_swap 26 = .ok (.ireturn, 1) := by decide +kernel
theorem dX9_swap0_0 : decode cX9_swap0 0 = .ok (.aload_n 0, 1) := by decide +kernel
theorem dX9_swap0_1 : decode cX9_swap0 1 = .ok (.iload_n 1, 1) := by decide +kernel
theorem dX9_swap0_2 : decode cX9_swap0 2 = .ok (.invokevirtual 293, 3) := by decide +kernel
theorem dX9_swap0_5 : decode cX9_swap0 5 = .ok (.ifCond .eq 11, 3) := by decide +kernel
theorem dX9_swap0_8 : decode cX9_swap0 8 = .ok (.aload_n 0, 1) := by decide +kernel
theorem dX9_swap0_9 : decode cX9_swap0 9 = .ok (.iload_n 2, 1) := by decide +kernel
theorem dX9_swap0_10 : decode cX9_swap0 10 = .ok (.invokevirtual 293, 3) := by decide +kernel
theorem dX9_swap0_13 : decode cX9_swap0 13 = .ok (.ifCond .ne 5, 3) := by decide +kernel
theorem dX9_swap0_16 : decode cX9_swap0 16 = .ok (.iconst 1, 1) := by decide +kernel
theorem dX9_swap0_17 : decode cX9_swap0 17 = .ok (.ireturn, 1) := by decide +kernel
theorem dX9_swap0_18 : decode cX9_swap0 18 = .ok (.iload_n 1, 1) := by decide +kernel
theorem dX9_swap0_19 : decode cX9_swap0 19 = .ok (.iload_n 2, 1) := by decide +kernel
theorem dX9_swap0_20 : decode cX9_swap0 20 = .ok (.if_icmp .ne 5, 3) := by decide +kernel
theorem dX9_swap0_23 : decode cX9_swap0 23 = .ok (.iconst 5, 1) := by decide +kernel
theorem dX9_swap0_24 : decode cX9_swap0 24 = .ok (.ireturn, 1) := by decide +kernel
theorem dX9_swap0_25 : decode cX9_swap0 25 = .ok (.aload_n 0, 1) := by decide +kernel
theorem dX9_swap0_26 : decode cX9_swap0 26 = .ok (.iload_n 1, 1) := by decide +kernel
theorem dX9_swap0_27 : decode cX9_swap0 27 = .ok (.invokevirtual 313, 3) := by decide +kernel
theorem dX9_swap0_30 : decode cX9_swap0 30 = .ok (.istore_n 3, 1) := by decide +kernel
theorem dX9_swap0_31 : decode cX9_swap0 31 = .ok (.aload_n 0, 1) := by decide +kernel
theorem dX9_swap0_32 : decode cX9_swap0 32 = .ok (.iload_n 2, 1) := by decide +kernel
theorem dX9_swap0_33 : decode cX9_swap0 33 = .ok (.invokevirtual 313, 3) := by decide +kernel
theorem dX9_swap0_36 : decode cX9_swap0 36 = .ok (.istore 4, 2) := by decide +kernel
theorem dX9_swap0_38 : decode cX9_swap0 38 = .ok (.iload_n 3, 1) := by decide +kernel
theorem dX9_swap0_39 : decode cX9_swap0 39 = .ok (.bipush 60, 2) := by decide +kernel
theorem dX9_swap0_41 : decode cX9_swap0 41 = .ok (.if_icmp .gt 10, 3) := by decide +kernel
theorem dX9_swap0_44 : decode cX9_swap0 44 = .ok (.iload 4, 2) := by decide +kernel
theorem dX9_swap0_46 : decode cX9_swap0 46 = .ok (.bipush 60, 2) := by decide +kernel
theorem dX9_swap0_48 : decode cX9_swap0 48 = .ok (.if_icmp .le 6, 3) := by decide +kernel
theorem dX9_swap0_51 : decode cX9_swap0 51 = .ok (.bipush 8, 2) := by decide +kernel
theorem dX9_swap0_53 : decode cX9_swap0 53 = .ok (.ireturn, 1) := by decide +kernel
theorem dX9_swap0_54 : decode cX9_swap0 54 = .ok (.iconst 0, 1) := by decide +kernel
theorem dX9_swap0_55 : decode cX9_swap0 55 = .ok (.istore 5, 2) := by decide +kernel
theorem dX9_swap0_57 : decode cX9_swap0 57 = .ok (.iload 5, 2) := by decide +kernel
theorem dX9_swap0_59 : decode cX9_swap0 59 = .ok (.iload_n 3, 1) := by decide +kernel
theorem dX9_swap0_60 : decode cX9_swap0 60 = .ok (.if_icmp .ge 23, 3) := by decide +kernel
theorem dX9_swap0_63 : decode cX9_swap0 63 = .ok (.aload_n 0, 1) := by decide +kernel
theorem dX9_swap0_64 : decode cX9_swap0 64 = .ok (.getfield 135, 3) := by decide +kernel
theorem dX9_swap0_67 : decode cX9_swap0 67 = .ok (.iload 5, 2) := by decide +kernel
theorem dX9_swap0_69 : decode cX9_swap0 69 = .ok (.aload_n 0, 1) := by decide +kernel
theorem dX9_swap0_70 : decode cX9_swap0 70 = .ok (.iload_n 1, 1) := by decide +kernel
theorem dX9_swap0_71 : decode cX9_swap0 71 = .ok (.iload 5, 2) := by decide +kernel
theorem dX9_swap0_73 : decode cX9_swap0 73 = .ok (.invokevirtual 316, 3) := by decide +kernel
theorem dX9_swap0_76 : decode cX9_swap0 76 = .ok (.iastore, 1) := by decide +kernel
theorem dX9_swap0_77 : decode cX9_swap0 77 = .ok (.iinc 5 1, 3) := by decide +kernel
theorem dX9_swap0_80 : decode cX9_swap0 80 = .ok (.goto (-23), 3) := by decide +kernel
theorem dX9_swap0_83 : decode cX9_swap0 83 = .ok (.iconst 0, 1) := by decide +kernel
theorem dX9_swap0_84 : decode cX9_swap0 84 = .ok (.istore 5, 2) := by decide +kernel
theorem dX9_swap0_86 : decode cX9_swap0 86 = .ok (.iload 5, 2) := by decide +kernel
theorem dX9_swap0_88 : decode cX9_swap0 88 = .ok (.iload 4, 2) := by decide +kernel
theorem dX9_swap0_90 : decode cX9_swap0 90 = .ok (.if_icmp .ge 23, 3) := by decide +kernel
theorem dX9_swap0_93 : decode cX9_swap0 93 = .ok (.aload_n 0, 1) := by decide +kernel
theorem dX9_swap0_94 : decode cX9_swap0 94 = .ok (.getfield 132, 3) := by decide +kernel
theorem dX9_swap0_97 : decode cX9_swap0 97 = .ok (.iload 5, 2) := by decide +kernel
theorem dX9_swap0_99 : decode cX9_swap0 99 = .ok (.aload_n 0, 1) := by decide +kernel
theorem dX9_swap0_100 : decode cX9_swap0 100 = .ok (.iload_n 2, 1) := by decide +kernel
theorem dX9_swap0_101 : decode cX9_swap0 101 = .ok (.iload 5, 2) := by decide +kernel
theorem dX9_swap0_103 : decode cX9_swap0 103 = .ok (.invokevirtual 316, 3) := by decide +kernel
theorem dX9_swap0_106 : decode cX9_swap0 106 = .ok (.iastore, 1) := by decide +kernel
theorem dX9_swap0_107 : decode cX9_swap0 107 = .ok (.iinc 5 1, 3) := by decide +kernel
theorem dX9_swap0_110 : decode cX9_swap0 110 = .ok (.goto (-24), 3) := by decide +kernel
theorem dX9_swap0_113 : decode cX9_swap0 113 = .ok (.aload_n 0, 1) := by decide +kernel
theorem dX9_swap0_114 : decode cX9_swap0 114 = .ok (.iload_n 1, 1) := by decide +kernel
theorem dX9_swap0_115 : decode cX9_swap0 115 = .ok (.iload 4, 2) := by decide +kernel
theorem dX9_swap0_117 : decode cX9_swap0 117 = .ok (.invokevirtual 287, 3) := by decide +kernel
theorem dX9_swap0_120 : decode cX9_swap0 120 = .ok (.iconst (-1), 1) := by decide +kernel
theorem dX9_swap0_121 : decode cX9_swap0 121 = .ok (.if_icmp .ne 5, 3) := by decide +kernel
theorem dX9_swap0_124 : decode cX9_swap0 124 = .ok (.iconst 2, 1) := by decide +kernel
theorem dX9_swap0_125 : decode cX9_swap0 125 = .ok (.ireturn, 1) := by decide +kernel
theorem dX9_swap0_126 : decode cX9_swap0 126 = .ok (.aload_n 0, 1) := by decide +kernel
theorem dX9_swap0_127 : decode cX9_swap0 127 = .ok (.iload_n 1, 1) := by decide +kernel
theorem dX9_swap0_128 : decode cX9_swap0 128 = .ok (.iload 4, 2) := by decide +kernel
theorem dX9_swap0_130 : decode cX9_swap0 130 = .ok (.invokevirtual 296, 3) := by decide +kernel
theorem dX9_swap0_133 : decode cX9_swap0 133 = .ok (.iconst 0, 1) := by decide +kernel
theorem dX9_swap0_134 : decode cX9_swap0 134 = .ok (.istore 5, 2) := by decide +kernel
theorem dX9_swap0_136 : decode cX9_swap0 136 = .ok (.iload 5, 2) := by decide +kernel
theorem dX9_swap0_138 : decode cX9_swap0 138 = .ok (.iload_n 3, 1) := by decide +kernel
theorem dX9_swap0_139 : decode cX9_swap0 139 = .ok (.if_icmp .ge 23, 3) := by decide +kernel
theorem dX9_swap0_142 : decode cX9_swap0 142 = .ok (.aload_n 0, 1) := by decide +kernel
theorem dX9_swap0_143 : decode cX9_swap0 143 = .ok (.getfield 132, 3) := by decide +kernel
theorem dX9_swap0_146 : decode cX9_swap0 146 = .ok (.iload 5, 2) := by decide +kernel
theorem dX9_swap0_148 : decode cX9_swap0 148 = .ok (.aload_n 0, 1) := by decide +kernel
theorem dX9_swap0_149 : decode cX9_swap0 149 = .ok (.getfield 135, 3) := by decide +kernel
theorem dX9_swap0_152 : decode cX9_swap0 152 = .ok (.iload 5, 2) := by decide +kernel
theorem dX9_swap0_154 : decode cX9_swap0 154 = .ok (.iaload, 1) := by decide +kernel
theorem dX9_swap0_155 : decode cX9_swap0 155 = .ok (.iastore, 1) := by decide +kernel
theorem dX9_swap0_156 : decode cX9_swap0 156 = .ok (.iinc 5 1, 3) := by decide +kernel
theorem dX9_swap0_159 : decode cX9_swap0 159 = .ok (.goto (-23), 3) := by decide +kernel
theorem dX9_swap0_162 : decode cX9_swap0 162 = .ok (.aload_n 0, 1) := by decide +kernel
theorem dX9_swap0_163 : decode cX9_swap0 163 = .ok (.iload_n 2, 1) := by decide +kernel
theorem dX9_swap0_164 : decode cX9_swap0 164 = .ok (.iload_n 3, 1) := by decide +kernel
theorem dX9_swap0_165 : decode cX9_swap0 165 = .ok (.invokevirtual 287, 3) := by decide +kernel
theorem dX9_swap0_168 : decode cX9_swap0 168 = .ok (.iconst (-1), 1) := by decide +kernel
theorem dX9_swap0_169 : decode cX9_swap0 169 = .ok (.if_icmp .ne 5, 3) := by decide +kernel
theorem dX9_swap0_172 : decode cX9_swap0 172 = .ok (.iconst 2, 1) := by decide +kernel
theorem dX9_swap0_173 : decode cX9_swap0 173 = .ok (.ireturn, 1) := by decide +kernel
theorem dX9_swap0_174 : decode cX9_swap0 174 = .ok (.aload_n 0, 1) := by decide +kernel
theorem dX9_swap0_175 : decode cX9_swap0 175 = .ok (.iload_n 2, 1) := by decide +kernel
theorem dX9_swap0_176 : decode cX9_swap0 176 = .ok (.iload_n 3, 1) := by decide +kernel
theorem dX9_swap0_177 : decode cX9_swap0 177 = .ok (.invokevirtual 296, 3) := by decide +kernel
theorem dX9_swap0_180 : decode cX9_swap0 180 = .ok (.aload_n 0, 1) := by decide +kernel
theorem dX9_swap0_181 : decode cX9_swap0 181 = .ok (.invokevirtual 300, 3) := by decide +kernel
theorem dX9_swap0_184 : decode cX9_swap0 184 = .ok (.sipush 600, 3) := by decide +kernel
theorem dX9_swap0_187 : decode cX9_swap0 187 = .ok (.if_icmp .le 7, 3) := by decide +kernel
theorem dX9_swap0_190 : decode cX9_swap0 190 = .ok (.iconst 3, 1) := by decide +kernel
theorem dX9_swap0_191 : decode cX9_swap0 191 = .ok (.goto 4, 3) := by decide +kernel
theorem dX9_swap0_194 : decode cX9_swap0 194 = .ok (.iconst 0, 1) := by decide +kernel
theorem dX9_swap0_195 : decode cX9_swap0 195 = .ok (.ireturn, 1) := by decide +kernel
theorem dX9_swapText_0 : decode cX9_swapText 0 = .ok (.aload_n 0, 1) := by decide +kernel
theorem dX9_swapText_1 : decode cX9_swapText 1 = .ok (.iconst 0, 1) := by decide +kernel
theorem dX9_swapText_2 : decode cX9_swapText 2 = .ok (.bipush 39, 2) := by decide +kernel
theorem dX9_swapText_4 : decode cX9_swapText 4 = .ok (.invokevirtual 358, 3) := by decide +kernel
theorem dX9_swapText_7 : decode cX9_swapText 7 = .ok (.istore_n 1, 1) := by decide +kernel
theorem dX9_swapText_8 : decode cX9_swapText 8 = .ok (.aload_n 0, 1) := by decide +kernel
theorem dX9_swapText_9 : decode cX9_swapText 9 = .ok (.iconst 0, 1) := by decide +kernel
theorem dX9_swapText_10 : decode cX9_swapText 10 = .ok (.bipush 39, 2) := by decide +kernel
theorem dX9_swapText_12 : decode cX9_swapText 12 = .ok (.invokevirtual 358, 3) := by decide +kernel
theorem dX9_swapText_15 : decode cX9_swapText 15 = .ok (.istore_n 2, 1) := by decide +kernel
theorem dX9_swapText_16 : decode cX9_swapText 16 = .ok (.aload_n 0, 1) := by decide +kernel
theorem dX9_swapText_17 : decode cX9_swapText 17 = .ok (.getfield 26, 3) := by decide +kernel
theorem dX9_swapText_20 : decode cX9_swapText 20 = .ok (.iconst (-1), 1) := by decide +kernel
theorem dX9_swapText_21 : decode cX9_swapText 21 = .ok (.if_icmp .ne 12, 3) := by decide +kernel
theorem dX9_swapText_24 : decode cX9_swapText 24 = .ok (.aload_n 0, 1) := by decide +kernel
theorem dX9_swapText_25 : decode cX9_swapText 25 = .ok (.iload_n 1, 1) := by decide +kernel
theorem dX9_swapText_26 : decode cX9_swapText 26 = .ok (.iload_n 2, 1) := by decide +kernel
theorem dX9_swapText_27 : decode cX9_swapText 27 = .ok (.invokevirtual 364, 3) := by decide +kernel
theorem dX9_swapText_30 : decode cX9_swapText 30 = .ok (.goto 4, 3) := by decide +kernel
theorem dX9_swapText_33 : decode cX9_swapText 33 = .ok (.iconst 0, 1) := by decide +kernel
theorem dX9_swapText_34 : decode cX9_swapText 34 = .ok (.ireturn, 1) := by decide +kernel
theorem dX9_takes_0 : decode cX9_takes 0 = .ok (.aload_n 0, 1) := by decide +kernel
theorem dX9_takes_1 : decode cX9_takes 1 = .ok (.iload_n 1, 1) := by decide +kernel
theorem dX9_takes_2 : decode cX9_takes 2 = .ok (.invokevirtual 210, 3) := by decide +kernel
theorem dX9_takes_5 : decode cX9_takes 5 = .ok (.ifCond .ne 13, 3) := by decide +kernel
theorem dX9_takes_8 : decode cX9_takes 8 = .ok (.aload_n 0, 1) := by decide +kernel
theorem dX9_takes_9 : decode cX9_takes 9 = .ok (.aload_n 2, 1) := by decide +kernel
theorem dX9_takes_10 : decode cX9_takes 10 = .ok (.iload 5, 2) := by decide +kernel
theorem dX9_takes_12 : decode cX9_takes 12 = .ok (.invokevirtual 213, 3) := by decide +kernel
theorem dX9_takes_15 : decode cX9_takes 15 = .ok (.ifCond .ne 4, 3) := by decide +kernel
theorem dX9_takes_18 : decode cX9_takes 18 = .ok (.return_, 1) := by decide +kernel
theorem dX9_takes_19 : decode cX9_takes 19 = .ok (.aload_n 0, 1) := by decide +kernel
theorem dX9_takes_20 : decode cX9_takes 20 = .ok (.getfield 204, 3) := by decide +kernel
theorem dX9_takes_23 : decode cX9_takes 23 = .ok (.istore 8, 2) := by decide +kernel
theorem dX9_takes_25 : decode cX9_takes 25 = .ok (.aload_n 0, 1) := by decide +kernel
theorem dX9_takes_26 : decode cX9_takes 26 = .ok (.getfield 81, 3) := by decide +kernel
theorem dX9_takes_29 : decode cX9_takes 29 = .ok (.iload 8, 2) := by decide +kernel
theorem dX9_takes_31 : decode cX9_takes 31 = .ok (.aload_n 3, 1) := by decide +kernel
theorem dX9_takes_32 : decode cX9_takes 32 = .ok (.iconst 0, 1) := by decide +kernel
theorem dX9_takes_33 : decode cX9_takes 33 = .ok (.iaload, 1) := by decide +kernel
theorem dX9_takes_34 : decode cX9_takes 34 = .ok (.iastore, 1) := by decide +kernel
theorem dX9_takes_35 : decode cX9_takes 35 = .ok (.aload_n 0, 1) := by decide +kernel
theorem dX9_takes_36 : decode cX9_takes 36 = .ok (.getfield 84, 3) := by decide +kernel
theorem dX9_takes_39 : decode cX9_takes 39 = .ok (.iload 8, 2) := by decide +kernel
theorem dX9_takes_41 : decode cX9_takes 41 = .ok (.aload 4, 2) := by decide +kernel
theorem dX9_takes_43 : decode cX9_takes 43 = .ok (.iload 5, 2) := by decide +kernel
theorem dX9_takes_45 : decode cX9_takes 45 = .ok (.iconst 1, 1) := by decide +kernel
theorem dX9_takes_46 : decode cX9_takes 46 = .ok (.isub, 1) := by decide +kernel
theorem dX9_takes_47 : decode cX9_takes 47 = .ok (.iaload, 1) := by decide +kernel
theorem dX9_takes_48 : decode cX9_takes 48 = .ok (.iastore, 1) := by decide +kernel
theorem dX9_takes_49 : decode cX9_takes 49 = .ok (.aload_n 0, 1) := by decide +kernel
theorem dX9_takes_50 : decode cX9_takes 50 = .ok (.getfield 87, 3) := by decide +kernel
theorem dX9_takes_53 : decode cX9_takes 53 = .ok (.iload 8, 2) := by decide +kernel
theorem dX9_takes_55 : decode cX9_takes 55 = .ok (.aload_n 0, 1) := by decide +kernel
theorem dX9_takes_56 : decode cX9_takes 56 = .ok (.getfield 45, 3) := by decide +kernel
theorem dX9_takes_59 : decode cX9_takes 59 = .ok (.iload_n 1, 1) := by decide +kernel
theorem dX9_takes_60 : decode cX9_takes 60 = .ok (.iaload, 1) := by decide +kernel
theorem dX9_takes_61 : decode cX9_takes 61 = .ok (.iastore, 1) := by decide +kernel
theorem dX9_takes_62 : decode cX9_takes 62 = .ok (.aload_n 0, 1) := by decide +kernel
theorem dX9_takes_63 : decode cX9_takes 63 = .ok (.getfield 90, 3) := by decide +kernel
theorem dX9_takes_66 : decode cX9_takes 66 = .ok (.iload 8, 2) := by decide +kernel
theorem dX9_takes_68 : decode cX9_takes 68 = .ok (.iload 7, 2) := by decide +kernel
theorem dX9_takes_70 : decode cX9_takes 70 = .ok (.iastore, 1) := by decide +kernel
theorem dX9_takes_71 : decode cX9_takes 71 = .ok (.aload_n 0, 1) := by decide +kernel
theorem dX9_takes_72 : decode cX9_takes 72 = .ok (.getfield 93, 3) := by decide +kernel
theorem dX9_takes_75 : decode cX9_takes 75 = .ok (.iload 8, 2) := by decide +kernel
theorem dX9_takes_77 : decode cX9_takes 77 = .ok (.iload 6, 2) := by decide +kernel
theorem dX9_takes_79 : decode cX9_takes 79 = .ok (.ifCond .eq 7, 3) := by decide +kernel
theorem dX9_takes_82 : decode cX9_takes 82 = .ok (.iconst 1, 1) := by decide +kernel
theorem dX9_takes_83 : decode cX9_takes 83 = .ok (.goto 4, 3) := by decide +kernel
theorem dX9_takes_86 : decode cX9_takes 86 = .ok (.iconst 0, 1) := by decide +kernel
theorem dX9_takes_87 : decode cX9_takes 87 = .ok (.iastore, 1) := by decide +kernel
theorem dX9_takes_88 : decode cX9_takes 88 = .ok (.aload_n 0, 1) := by decide +kernel
theorem dX9_takes_89 : decode cX9_takes 89 = .ok (.getfield 96, 3) := by decide +kernel
theorem dX9_takes_92 : decode cX9_takes 92 = .ok (.iload 8, 2) := by decide +kernel
theorem dX9_takes_94 : decode cX9_takes 94 = .ok (.aload_n 0, 1) := by decide +kernel
theorem dX9_takes_95 : decode cX9_takes 95 = .ok (.getfield 48, 3) := by decide +kernel
theorem dX9_takes_98 : decode cX9_takes 98 = .ok (.iload_n 1, 1) := by decide +kernel
theorem dX9_takes_99 : decode cX9_takes 99 = .ok (.iaload, 1) := by decide +kernel
theorem dX9_takes_100 : decode cX9_takes 100 = .ok (.iastore, 1) := by decide +kernel
theorem dX9_takes_101 : decode cX9_takes 101 = .ok (.aload_n 0, 1) := by decide +kernel
theorem dX9_takes_102 : decode cX9_takes 102 = .ok (.getfield 99, 3) := by decide +kernel
theorem dX9_takes_105 : decode cX9_takes 105 = .ok (.iload 8, 2) := by decide +kernel
theorem dX9_takes_107 : decode cX9_takes 107 = .ok (.aload_n 0, 1) := by decide +kernel
theorem dX9_takes_108 : decode cX9_takes 108 = .ok (.getfield 51, 3) := by decide +kernel
theorem dX9_takes_111 : decode cX9_takes 111 = .ok (.iload_n 1, 1) := by decide +kernel
theorem dX9_takes_112 : decode cX9_takes 112 = .ok (.iaload, 1) := by decide +kernel
theorem dX9_takes_113 : decode cX9_takes 113 = .ok (.iastore, 1) := by decide +kernel
theorem dX9_takes_114 : decode cX9_takes 114 = .ok (.aload_n 0, 1) := by decide +kernel
theorem dX9_takes_115 : decode cX9_takes 115 = .ok (.getfield 102, 3) := by decide +kernel
theorem dX9_takes_118 : decode cX9_takes 118 = .ok (.iload 8, 2) := by decide +kernel
theorem dX9_takes_120 : decode cX9_takes 120 = .ok (.aload_n 0, 1) := by decide +kernel
theorem dX9_takes_121 : decode cX9_takes 121 = .ok (.getfield 217, 3) := by decide +kernel
theorem dX9_takes_124 : decode cX9_takes 124 = .ok (.iastore, 1) := by decide +kernel
theorem dX9_takes_125 : decode cX9_takes 125 = .ok (.aload_n 0, 1) := by decide +kernel
theorem dX9_takes_126 : decode cX9_takes 126 = .ok (.getfield 105, 3) := by decide +kernel
theorem dX9_takes_129 : decode cX9_takes 129 = .ok (.iload 8, 2) := by decide +kernel
theorem dX9_takes_131 : decode cX9_takes 131 = .ok (.iload 5, 2) := by decide +kernel
theorem dX9_takes_133 : decode cX9_takes 133 = .ok (.iastore, 1) := by decide +kernel
theorem dX9_takes_134 : decode cX9_takes 134 = .ok (.iconst 0, 1) := by decide +kernel
theorem dX9_takes_135 : decode cX9_takes 135 = .ok (.istore 9, 2) := by decide +kernel
theorem dX9_takes_137 : decode cX9_takes 137 = .ok (.iload 9, 2) := by decide +kernel
theorem dX9_takes_139 : decode cX9_takes 139 = .ok (.iload 5, 2) := by decide +kernel
theorem dX9_takes_141 : decode cX9_takes 141 = .ok (.if_icmp .ge 45, 3) := by decide +kernel
theorem dX9_takes_144 : decode cX9_takes 144 = .ok (.aload_n 0, 1) := by decide +kernel
theorem dX9_takes_145 : decode cX9_takes 145 = .ok (.getfield 108, 3) := by decide +kernel
theorem dX9_takes_148 : decode cX9_takes 148 = .ok (.aload_n 0, 1) := by decide +kernel
theorem dX9_takes_149 : decode cX9_takes 149 = .ok (.getfield 217, 3) := by decide +kernel
theorem dX9_takes_152 : decode cX9_takes 152 = .ok (.aload_n 2, 1) := by decide +kernel
theorem dX9_takes_153 : decode cX9_takes 153 = .ok (.iload 9, 2) := by decide +kernel
theorem dX9_takes_155 : decode cX9_takes 155 = .ok (.iaload, 1) := by decide +kernel
theorem dX9_takes_156 : decode cX9_takes 156 = .ok (.iastore, 1) := by decide +kernel
theorem dX9_takes_157 : decode cX9_takes 157 = .ok (.aload_n 0, 1) := by decide +kernel
theorem dX9_takes_158 : decode cX9_takes 158 = .ok (.getfield 111, 3) := by decide +kernel
theorem dX9_takes_161 : decode cX9_takes 161 = .ok (.aload_n 0, 1) := by decide +kernel
theorem dX9_takes_162 : decode cX9_takes 162 = .ok (.getfield 217, 3) := by decide +kernel
theorem dX9_takes_165 : decode cX9_takes 165 = .ok (.aload_n 3, 1) := by decide +kernel
theorem dX9_takes_166 : decode cX9_takes 166 = .ok (.iload 9, 2) := by decide +kernel
theorem dX9_takes_168 : decode cX9_takes 168 = .ok (.iaload, 1) := by decide +kernel
theorem dX9_takes_169 : decode cX9_takes 169 = .ok (.iastore, 1) := by decide +kernel
theorem dX9_takes_170 : decode cX9_takes 170 = .ok (.aload_n 0, 1) := by decide +kernel
theorem dX9_takes_171 : decode cX9_takes 171 = .ok (.dup, 1) := by decide +kernel
theorem dX9_takes_172 : decode cX9_takes 172 = .ok (.getfield 217, 3) := by decide +kernel
theorem dX9_takes_175 : decode cX9_takes 175 = .ok (.iconst 1, 1) := by decide +kernel
theorem dX9_takes_176 : decode cX9_takes 176 = .ok (.iadd, 1) := by decide +kernel
theorem dX9_takes_177 : decode cX9_takes 177 = .ok (.putfield 217, 3) := by decide +kernel
theorem dX9_takes_180 : decode cX9_takes 180 = .ok (.iinc 9 1, 3) := by decide +kernel
theorem dX9_takes_183 : decode cX9_takes 183 = .ok (.goto (-46), 3) := by decide +kernel
theorem dX9_takes_186 : decode cX9_takes 186 = .ok (.aload_n 0, 1) := by decide +kernel
theorem dX9_takes_187 : decode cX9_takes 187 = .ok (.dup, 1) := by decide +kernel
theorem dX9_takes_188 : decode cX9_takes 188 = .ok (.getfield 204, 3) := by decide +kernel
theorem dX9_takes_191 : decode cX9_takes 191 = .ok (.iconst 1, 1) := by decide +kernel
theorem dX9_takes_192 : decode cX9_takes 192 = .ok (.iadd, 1) := by decide +kernel
theorem dX9_takes_193 : decode cX9_takes 193 = .ok (.putfield 204, 3) := by decide +kernel
theorem dX9_takes_196 : decode cX9_takes 196 = .ok (.return_, 1) := by decide +kernel
theorem dX9_tell_0 : decode cX9_tell 0 = .ok (.aload_n 0, 1) := by decide +kernel
theorem dX9_tell_1 : decode cX9_tell 1 = .ok (.invokevirtual 435, 3) := by decide +kernel
theorem dX9_tell_4 : decode cX9_tell 4 = .ok (.istore_n 2, 1) := by decide +kernel
theorem dX9_tell_5 : decode cX9_tell 5 = .ok (.aload_n 0, 1) := by decide +kernel
theorem dX9_tell_6 : decode cX9_tell 6 = .ok (.iload_n 2, 1) := by decide +kernel
theorem dX9_tell_7 : decode cX9_tell 7 = .ok (.bipush 60, 2) := by decide +kernel
theorem dX9_tell_9 : decode cX9_tell 9 = .ok (.if_icmp .le 7, 3) := by decide +kernel
theorem dX9_tell_12 : decode cX9_tell 12 = .ok (.iconst 1, 1) := by decide +kernel
theorem dX9_tell_13 : decode cX9_tell 13 = .ok (.goto 4, 3) := by decide +kernel
theorem dX9_tell_16 : decode cX9_tell 16 = .ok (.iconst 0, 1) := by decide +kernel
theorem dX9_tell_17 : decode cX9_tell 17 = .ok (.putfield 138, 3) := by decide +kernel
theorem dX9_tell_20 : decode cX9_tell 20 = .ok (.aload_n 0, 1) := by decide +kernel
theorem dX9_tell_21 : decode cX9_tell 21 = .ok (.getfield 138, 3) := by decide +kernel
theorem dX9_tell_24 : decode cX9_tell 24 = .ok (.ifCond .le 5, 3) := by decide +kernel
theorem dX9_tell_27 : decode cX9_tell 27 = .ok (.iconst 0, 1) := by decide +kernel
theorem dX9_tell_28 : decode cX9_tell 28 = .ok (.ireturn, 1) := by decide +kernel
theorem dX9_tell_29 : decode cX9_tell 29 = .ok (.aload_n 0, 1) := by decide +kernel
theorem dX9_tell_30 : decode cX9_tell 30 = .ok (.invokevirtual 420, 3) := by decide +kernel
theorem dX9_tell_33 : decode cX9_tell 33 = .ok (.aload_n 0, 1) := by decide +kernel
theorem dX9_tell_34 : decode cX9_tell 34 = .ok (.aload_n 0, 1) := by decide +kernel
theorem dX9_tell_35 : decode cX9_tell 35 = .ok (.iload_n 1, 1) := by decide +kernel
theorem dX9_tell_36 : decode cX9_tell 36 = .ok (.iload_n 2, 1) := by decide +kernel
theorem dX9_tell_37 : decode cX9_tell 37 = .ok (.invokevirtual 438, 3) := by decide +kernel
theorem dX9_tell_40 : decode cX9_tell 40 = .ok (.iconst 2, 1) := by decide +kernel
theorem dX9_tell_41 : decode cX9_tell 41 = .ok (.invokevirtual 429, 3) := by decide +kernel
theorem dX9_tell_44 : decode cX9_tell 44 = .ok (.ifCond .eq 10, 3) := by decide +kernel
theorem dX9_tell_47 : decode cX9_tell 47 = .ok (.aload_n 0, 1) := by decide +kernel
theorem dX9_tell_48 : decode cX9_tell 48 = .ok (.invokevirtual 300, 3) := by decide +kernel
theorem dX9_tell_51 : decode cX9_tell 51 = .ok (.goto 4, 3) := by decide +kernel
theorem dX9_tell_54 : decode cX9_tell 54 = .ok (.iconst 0, 1) := by decide +kernel
theorem dX9_tell_55 : decode cX9_tell 55 = .ok (.ireturn, 1) := by decide +kernel
theorem dX9_tell0_0 : decode cX9_tell0 0 = .ok (.aload_n 0, 1) := by decide +kernel
theorem dX9_tell0_1 : decode cX9_tell0 1 = .ok (.iload_n 1, 1) := by decide +kernel
theorem dX9_tell0_2 : decode cX9_tell0 2 = .ok (.invokevirtual 293, 3) := by decide +kernel
theorem dX9_tell0_5 : decode cX9_tell0 5 = .ok (.ifCond .ne 5, 3) := by decide +kernel
theorem dX9_tell0_8 : decode cX9_tell0 8 = .ok (.iconst 1, 1) := by decide +kernel
theorem dX9_tell0_9 : decode cX9_tell0 9 = .ok (.ireturn, 1) := by decide +kernel
theorem dX9_tell0_10 : decode cX9_tell0 10 = .ok (.aload_n 0, 1) := by decide +kernel
theorem dX9_tell0_11 : decode cX9_tell0 11 = .ok (.iload_n 1, 1) := by decide +kernel
theorem dX9_tell0_12 : decode cX9_tell0 12 = .ok (.iload_n 2, 1) := by decide +kernel
theorem dX9_tell0_13 : decode cX9_tell0 13 = .ok (.invokevirtual 287, 3) := by decide +kernel
theorem dX9_tell0_16 : decode cX9_tell0 16 = .ok (.iconst (-1), 1) := by decide +kernel
theorem dX9_tell0_17 : decode cX9_tell0 17 = .ok (.if_icmp .ne 5, 3) := by decide +kernel
theorem dX9_tell0_20 : decode cX9_tell0 20 = .ok (.iconst 2, 1) := by decide +kernel
theorem dX9_tell0_21 : decode cX9_tell0 21 = .ok (.ireturn, 1) := by decide +kernel
theorem dX9_tell0_22 : decode cX9_tell0 22 = .ok (.aload_n 0, 1) := by decide +kernel
theorem dX9_tell0_23 : decode cX9_tell0 23 = .ok (.iload_n 1, 1) := by decide +kernel
theorem dX9_tell0_24 : decode cX9_tell0 24 = .ok (.iload_n 2, 1) := by decide +kernel
theorem dX9_tell0_25 : decode cX9_tell0 25 = .ok (.invokevirtual 296, 3) := by decide +kernel
theorem dX9_tell0_28 : decode cX9_tell0 28 = .ok (.aload_n 0, 1) := by decide +kernel
theorem dX9_tell0_29 : decode cX9_tell0 29 = .ok (.invokevirtual 300, 3) := by decide +kernel
theorem dX9_tell0_32 : decode cX9_tell0 32 = .ok (.sipush 600, 3) := by decide +kernel
theorem dX9_tell0_35 : decode cX9_tell0 35 = .ok (.if_icmp .le 5, 3) := by decide +kernel
theorem dX9_tell0_38 : decode cX9_tell0 38 = .ok (.iconst 3, 1) := by decide +kernel
theorem dX9_tell0_39 : decode cX9_tell0 39 = .ok (.ireturn, 1) := by decide +kernel
theorem dX9_tell0_40 : decode cX9_tell0 40 = .ok (.aload_n 0, 1) := by decide +kernel
theorem dX9_tell0_41 : decode cX9_tell0 41 = .ok (.iload_n 1, 1) := by decide +kernel
theorem dX9_tell0_42 : decode cX9_tell0 42 = .ok (.invokevirtual 283, 3) := by decide +kernel
theorem dX9_tell0_45 : decode cX9_tell0 45 = .ok (.aload_n 0, 1) := by decide +kernel
theorem dX9_tell0_46 : decode cX9_tell0 46 = .ok (.iload_n 1, 1) := by decide +kernel
theorem dX9_tell0_47 : decode cX9_tell0 47 = .ok (.iload_n 2, 1) := by decide +kernel
theorem dX9_tell0_48 : decode cX9_tell0 48 = .ok (.invokevirtual 303, 3) := by decide +kernel
theorem dX9_tell0_51 : decode cX9_tell0 51 = .ok (.iconst 0, 1) := by decide +kernel
theorem dX9_tell0_52 : decode cX9_tell0 52 = .ok (.ireturn, 1) := by decide +kernel
theorem dX9_tells_0 : decode cX9_tells 0 = .ok (.aload_n 0, 1) := by decide +kernel
theorem dX9_tells_1 : decode cX9_tells 1 = .ok (.getfield 7, 3) := by decide +kernel
theorem dX9_tells_4 : decode cX9_tells 4 = .ok (.sipush 443, 3) := by decide +kernel
theorem dX9_tells_7 : decode cX9_tells 7 = .ok (.bipush 61, 2) := by decide +kernel
theorem dX9_tells_9 : decode cX9_tells 9 = .ok (.iload_n 1, 1) := by decide +kernel
theorem dX9_tells_10 : decode cX9_tells 10 = .ok (.imul, 1) := by decide +kernel
theorem dX9_tells_11 : decode cX9_tells 11 = .ok (.iadd, 1) := by decide +kernel
theorem dX9_tells_12 : decode cX9_tells 12 = .ok (.iload_n 2, 1) := by decide +kernel
theorem dX9_tells_13 : decode cX9_tells 13 = .ok (.iastore, 1) := by decide +kernel
theorem dX9_tells_14 : decode cX9_tells 14 = .ok (.iconst 0, 1) := by decide +kernel
theorem dX9_tells_15 : decode cX9_tells 15 = .ok (.istore_n 3, 1) := by decide +kernel
theorem dX9_tells_16 : decode cX9_tells 16 = .ok (.iload_n 3, 1) := by decide +kernel
theorem dX9_tells_17 : decode cX9_tells 17 = .ok (.iload_n 2, 1) := by decide +kernel
theorem dX9_tells_18 : decode cX9_tells 18 = .ok (.if_icmp .ge 32, 3) := by decide +kernel
theorem dX9_tells_21 : decode cX9_tells 21 = .ok (.aload_n 0, 1) := by decide +kernel
theorem dX9_tells_22 : decode cX9_tells 22 = .ok (.getfield 7, 3) := by decide +kernel
theorem dX9_tells_25 : decode cX9_tells 25 = .ok (.sipush 443, 3) := by decide +kernel
theorem dX9_tells_28 : decode cX9_tells 28 = .ok (.bipush 61, 2) := by decide +kernel
theorem dX9_tells_30 : decode cX9_tells 30 = .ok (.iload_n 1, 1) := by decide +kernel
theorem dX9_tells_31 : decode cX9_tells 31 = .ok (.imul, 1) := by decide +kernel
theorem dX9_tells_32 : decode cX9_tells 32 = .ok (.iadd, 1) := by decide +kernel
theorem dX9_tells_33 : decode cX9_tells 33 = .ok (.iconst 1, 1) := by decide +kernel
theorem dX9_tells_34 : decode cX9_tells 34 = .ok (.iadd, 1) := by decide +kernel
theorem dX9_tells_35 : decode cX9_tells 35 = .ok (.iload_n 3, 1) := by decide +kernel
theorem dX9_tells_36 : decode cX9_tells 36 = .ok (.iadd, 1) := by decide +kernel
theorem dX9_tells_37 : decode cX9_tells 37 = .ok (.aload_n 0, 1) := by decide +kernel
theorem dX9_tells_38 : decode cX9_tells 38 = .ok (.getfield 132, 3) := by decide +kernel
theorem dX9_tells_41 : decode cX9_tells 41 = .ok (.iload_n 3, 1) := by decide +kernel
theorem dX9_tells_42 : decode cX9_tells 42 = .ok (.iaload, 1) := by decide +kernel
theorem dX9_tells_43 : decode cX9_tells 43 = .ok (.iastore, 1) := by decide +kernel
theorem dX9_tells_44 : decode cX9_tells 44 = .ok (.iinc 3 1, 3) := by decide +kernel
theorem dX9_tells_47 : decode cX9_tells 47 = .ok (.goto (-31), 3) := by decide +kernel
theorem dX9_tells_50 : decode cX9_tells 50 = .ok (.return_, 1) := by decide +kernel
theorem dX9_toldAt_0 : decode cX9_toldAt 0 = .ok (.aload_n 0, 1) := by decide +kernel
theorem dX9_toldAt_1 : decode cX9_toldAt 1 = .ok (.getfield 7, 3) := by decide +kernel
theorem dX9_toldAt_4 : decode cX9_toldAt 4 = .ok (.sipush 443, 3) := by decide +kernel
theorem dX9_toldAt_7 : decode cX9_toldAt 7 = .ok (.bipush 61, 2) := by decide +kernel
theorem dX9_toldAt_9 : decode cX9_toldAt 9 = .ok (.iload_n 1, 1) := by decide +kernel
theorem dX9_toldAt_10 : decode cX9_toldAt 10 = .ok (.imul, 1) := by decide +kernel
theorem dX9_toldAt_11 : decode cX9_toldAt 11 = .ok (.iadd, 1) := by decide +kernel
theorem dX9_toldAt_12 : decode cX9_toldAt 12 = .ok (.iconst 1, 1) := by decide +kernel
theorem dX9_toldAt_13 : decode cX9_toldAt 13 = .ok (.iadd, 1) := by decide +kernel
theorem dX9_toldAt_14 : decode cX9_toldAt 14 = .ok (.iload_n 2, 1) := by decide +kernel
theorem dX9_toldAt_15 : decode cX9_toldAt 15 = .ok (.iadd, 1) := by decide +kernel
theorem dX9_toldAt_16 : decode cX9_toldAt 16 = .ok (.iaload, 1) := by decide +kernel
theorem dX9_toldAt_17 : decode cX9_toldAt 17 = .ok (.ireturn, 1) := by decide +kernel
theorem dX9_toldMany_0 : decode cX9_toldMany 0 = .ok (.iconst 0, 1) := by decide +kernel
theorem dX9_toldMany_1 : decode cX9_toldMany 1 = .ok (.istore_n 1, 1) := by decide +kernel
theorem dX9_toldMany_2 : decode cX9_toldMany 2 = .ok (.iconst 0, 1) := by decide +kernel
theorem dX9_toldMany_3 : decode cX9_toldMany 3 = .ok (.istore_n 2, 1) := by decide +kernel
theorem dX9_toldMany_4 : decode cX9_toldMany 4 = .ok (.iload_n 2, 1) := by decide +kernel
theorem dX9_toldMany_5 : decode cX9_toldMany 5 = .ok (.aload_n 0, 1) := by decide +kernel
theorem dX9_toldMany_6 : decode cX9_toldMany 6 = .ok (.getfield 204, 3) := by decide +kernel
theorem dX9_toldMany_9 : decode cX9_toldMany 9 = .ok (.if_icmp .ge 26, 3) := by decide +kernel
theorem dX9_toldMany_12 : decode cX9_toldMany 12 = .ok (.iload_n 1, 1) := by decide +kernel
theorem dX9_toldMany_13 : decode cX9_toldMany 13 = .ok (.aload_n 0, 1) := by decide +kernel
theorem dX9_toldMany_14 : decode cX9_toldMany 14 = .ok (.iload_n 2, 1) := by decide +kernel
theorem dX9_toldMany_15 : decode cX9_toldMany 15 = .ok (.invokevirtual 247, 3) := by decide +kernel
theorem dX9_toldMany_18 : decode cX9_toldMany 18 = .ok (.iconst (-1), 1) := by decide +kernel
theorem dX9_toldMany_19 : decode cX9_toldMany 19 = .ok (.if_icmp .ne 7, 3) := by decide +kernel
theorem dX9_toldMany_22 : decode cX9_toldMany 22 = .ok (.iconst 0, 1) := by decide +kernel
theorem dX9_toldMany_23 : decode cX9_toldMany 23 = .ok (.goto 4, 3) := by decide +kernel
theorem dX9_toldMany_26 : decode cX9_toldMany 26 = .ok (.iconst 1, 1) := by decide +kernel
theorem dX9_toldMany_27 : decode cX9_toldMany 27 = .ok (.iadd, 1) := by decide +kernel
theorem dX9_toldMany_28 : decode cX9_toldMany 28 = .ok (.istore_n 1, 1) := by decide +kernel
theorem dX9_toldMany_29 : decode cX9_toldMany 29 = .ok (.iinc 2 1, 3) := by decide +kernel
theorem dX9_toldMany_32 : decode cX9_toldMany 32 = .ok (.goto (-28), 3) := by decide +kernel
theorem dX9_toldMany_35 : decode cX9_toldMany 35 = .ok (.iload_n 1, 1) := by decide +kernel
theorem dX9_toldMany_36 : decode cX9_toldMany 36 = .ok (.ireturn, 1) := by decide +kernel
theorem dX9_toldOf_0 : decode cX9_toldOf 0 = .ok (.aload_n 0, 1) := by decide +kernel
theorem dX9_toldOf_1 : decode cX9_toldOf 1 = .ok (.getfield 7, 3) := by decide +kernel
theorem dX9_toldOf_4 : decode cX9_toldOf 4 = .ok (.sipush 443, 3) := by decide +kernel
theorem dX9_toldOf_7 : decode cX9_toldOf 7 = .ok (.bipush 61, 2) := by decide +kernel
theorem dX9_toldOf_9 : decode cX9_toldOf 9 = .ok (.iload_n 1, 1) := by decide +kernel
theorem dX9_toldOf_10 : decode cX9_toldOf 10 = .ok (.imul, 1) := by decide +kernel
theorem dX9_toldOf_11 : decode cX9_toldOf 11 = .ok (.iadd, 1) := by decide +kernel
theorem dX9_toldOf_12 : decode cX9_toldOf 12 = .ok (.iaload, 1) := by decide +kernel
theorem dX9_toldOf_13 : decode cX9_toldOf 13 = .ok (.ireturn, 1) := by decide +kernel
theorem dX9_took_0 : decode cX9_took 0 = .ok (.aload_n 0, 1) := by decide +kernel
theorem dX9_took_1 : decode cX9_took 1 = .ok (.getfield 337, 3) := by decide +kernel
theorem dX9_took_4 : decode cX9_took 4 = .ok (.istore_n 1, 1) := by decide +kernel
theorem dX9_took_5 : decode cX9_took 5 = .ok (.aload_n 0, 1) := by decide +kernel
theorem dX9_took_6 : decode cX9_took 6 = .ok (.iconst 0, 1) := by decide +kernel
theorem dX9_took_7 : decode cX9_took 7 = .ok (.putfield 337, 3) := by decide +kernel
theorem dX9_took_10 : decode cX9_took 10 = .ok (.iload_n 1, 1) := by decide +kernel
theorem dX9_took_11 : decode cX9_took 11 = .ok (.ireturn, 1) := by decide +kernel
theorem dX9_tookTold_0 : decode cX9_tookTold 0 = .ok (.aload_n 0, 1) := by decide +kernel
theorem dX9_tookTold_1 : decode cX9_tookTold 1 = .ok (.invokevirtual 426, 3) := by decide +kernel
theorem dX9_tookTold_4 : decode cX9_tookTold 4 = .ok (.istore_n 1, 1) := by decide +kernel
theorem dX9_tookTold_5 : decode cX9_tookTold 5 = .ok (.iconst 0, 1) := by decide +kernel
theorem dX9_tookTold_6 : decode cX9_tookTold 6 = .ok (.istore_n 2, 1) := by decide +kernel
theorem dX9_tookTold_7 : decode cX9_tookTold 7 = .ok (.iload_n 2, 1) := by decide +kernel
theorem dX9_tookTold_8 : decode cX9_tookTold 8 = .ok (.iload_n 1, 1) := by decide +kernel
theorem dX9_tookTold_9 : decode cX9_tookTold 9 = .ok (.if_icmp .ge 27, 3) := by decide +kernel
theorem dX9_tookTold_12 : decode cX9_tookTold 12 = .ok (.iload_n 1, 1) := by decide +kernel
theorem dX9_tookTold_13 : decode cX9_tookTold 13 = .ok (.bipush 60, 2) := by decide +kernel
theorem dX9_tookTold_15 : decode cX9_tookTold 15 = .ok (.if_icmp .gt 21, 3) := by decide +kernel
theorem dX9_tookTold_18 : decode cX9_tookTold 18 = .ok (.aload_n 0, 1) := by decide +kernel
theorem dX9_tookTold_19 : decode cX9_tookTold 19 = .ok (.getfield 132, 3) := by decide +kernel
theorem dX9_tookTold_22 : decode cX9_tookTold 22 = .ok (.iload_n 2, 1) := by decide +kernel
theorem dX9_tookTold_23 : decode cX9_tookTold 23 = .ok (.aload_n 0, 1) := by decide +kernel
theorem dX9_tookTold_24 : decode cX9_tookTold 24 = .ok (.getfield 23, 3) := by decide +kernel
theorem dX9_tookTold_27 : decode cX9_tookTold 27 = .ok (.iload_n 2, 1) := by decide +kernel
theorem dX9_tookTold_28 : decode cX9_tookTold 28 = .ok (.iaload, 1) := by decide +kernel
theorem dX9_tookTold_29 : decode cX9_tookTold 29 = .ok (.iastore, 1) := by decide +kernel
theorem dX9_tookTold_30 : decode cX9_tookTold 30 = .ok (.iinc 2 1, 3) := by decide +kernel
theorem dX9_tookTold_33 : decode cX9_tookTold 33 = .ok (.goto (-26), 3) := by decide +kernel
theorem dX9_tookTold_36 : decode cX9_tookTold 36 = .ok (.iload_n 1, 1) := by decide +kernel
theorem dX9_tookTold_37 : decode cX9_tookTold 37 = .ok (.ireturn, 1) := by decide +kernel
theorem dX9_twice_0 : decode cX9_twice 0 = .ok (.aload_n 0, 1) := by decide +kernel
theorem dX9_twice_1 : decode cX9_twice 1 = .ok (.iconst 0, 1) := by decide +kernel
theorem dX9_twice_2 : decode cX9_twice 2 = .ok (.putfield 138, 3) := by decide +kernel
theorem dX9_twice_5 : decode cX9_twice 5 = .ok (.aload_n 0, 1) := by decide +kernel
theorem dX9_twice_6 : decode cX9_twice 6 = .ok (.invokevirtual 462, 3) := by decide +kernel
theorem dX9_twice_9 : decode cX9_twice 9 = .ok (.aload_n 0, 1) := by decide +kernel
theorem dX9_twice_10 : decode cX9_twice 10 = .ok (.getfield 204, 3) := by decide +kernel
theorem dX9_twice_13 : decode cX9_twice 13 = .ok (.aload_n 0, 1) := by decide +kernel
theorem dX9_twice_14 : decode cX9_twice 14 = .ok (.getfield 459, 3) := by decide +kernel
theorem dX9_twice_17 : decode cX9_twice 17 = .ok (.if_icmp .ne 7, 3) := by decide +kernel
theorem dX9_twice_20 : decode cX9_twice 20 = .ok (.iconst 1, 1) := by decide +kernel
theorem dX9_twice_21 : decode cX9_twice 21 = .ok (.goto 4, 3) := by decide +kernel
theorem dX9_twice_24 : decode cX9_twice 24 = .ok (.iconst 0, 1) := by decide +kernel
theorem dX9_twice_25 : decode cX9_twice 25 = .ok (.istore_n 1, 1) := by decide +kernel
theorem dX9_twice_26 : decode cX9_twice 26 = .ok (.iconst 0, 1) := by decide +kernel
theorem dX9_twice_27 : decode cX9_twice 27 = .ok (.istore_n 2, 1) := by decide +kernel
theorem dX9_twice_28 : decode cX9_twice 28 = .ok (.iload_n 2, 1) := by decide +kernel
theorem dX9_twice_29 : decode cX9_twice 29 = .ok (.aload_n 0, 1) := by decide +kernel
theorem dX9_twice_30 : decode cX9_twice 30 = .ok (.getfield 459, 3) := by decide +kernel
theorem dX9_twice_33 : decode cX9_twice 33 = .ok (.if_icmp .ge 20, 3) := by decide +kernel
