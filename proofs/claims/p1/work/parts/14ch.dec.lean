theorem dX9_octet_25 : decode cX9_octet 25 = .ok (.ireturn, 1) := by decide +kernel
theorem dX9_origin_0 : decode cX9_origin 0 = .ok (.aload_n 0, 1) := by decide +kernel
theorem dX9_origin_1 : decode cX9_origin 1 = .ok (.aload_n 0, 1) := by decide +kernel
theorem dX9_origin_2 : decode cX9_origin 2 = .ok (.iload_n 1, 1) := by decide +kernel
theorem dX9_origin_3 : decode cX9_origin 3 = .ok (.invokevirtual 293, 3) := by decide +kernel
theorem dX9_origin_6 : decode cX9_origin 6 = .ok (.ifCond .eq 7, 3) := by decide +kernel
theorem dX9_origin_13 : decode cX9_origin 13 = .ok (.iconst 1, 1) := by decide +kernel
theorem dX9_origin_14 : decode cX9_origin 14 = .ok (.putfield 138, 3) := by decide +kernel
theorem dX9_origin_17 : decode cX9_origin 17 = .ok (.aload_n 0, 1) := by decide +kernel
theorem dX9_origin_18 : decode cX9_origin 18 = .ok (.getfield 138, 3) := by decide +kernel
theorem dX9_origin_21 : decode cX9_origin 21 = .ok (.ifCond .le 5, 3) := by decide +kernel
theorem dX9_origin_24 : decode cX9_origin 24 = .ok (.iconst 0, 1) := by decide +kernel
theorem dX9_origin_25 : decode cX9_origin 25 = .ok (.ireturn, 1) := by decide +kernel
theorem dX9_piece_0 : decode cX9_piece 0 = .ok (.aload_n 0, 1) := by decide +kernel
theorem dX9_piece_1 : decode cX9_piece 1 = .ok (.aload_n 0, 1) := by decide +kernel
theorem dX9_piece_2 : decode cX9_piece 2 = .ok (.iload_n 1, 1) := by decide +kernel
theorem dX9_piece_3 : decode cX9_piece 3 = .ok (.invokevirtual 293, 3) := by decide +kernel
theorem dX9_piece_6 : decode cX9_piece 6 = .ok (.ifCond .ne 7, 3) := by decide +kernel
theorem dX9_piece_9 : decode cX9_piece 9 = .ok (.iconst 1, 1) := by decide +kernel
theorem dX9_piece_10 : decode cX9_piece 10 = .ok (.goto 18, 3) := by decide +kernel
theorem dX9_piece_28 : decode cX9_piece 28 = .ok (.putfield 138, 3) := by decide +kernel
theorem dX9_piece_31 : decode cX9_piece 31 = .ok (.aload_n 0, 1) := by decide +kernel
theorem dX9_piece_32 : decode cX9_piece 32 = .ok (.getfield 138, 3) := by decide +kernel
theorem dX9_piece_35 : decode cX9_piece 35 = .ok (.ifCond .le 5, 3) := by decide +kernel
theorem dX9_piece_38 : decode cX9_piece 38 = .ok (.iconst 0, 1) := by decide +kernel
theorem dX9_piece_39 : decode cX9_piece 39 = .ok (.ireturn, 1) := by decide +kernel
theorem dX9_putsAside_0 : decode cX9_putsAside 0 = .ok (.iconst 0, 1) := by decide +kernel
theorem dX9_putsAside_1 : decode cX9_putsAside 1 = .ok (.istore_n 1, 1) := by decide +kernel
theorem dX9_putsAside_2 : decode cX9_putsAside 2 = .ok (.iload_n 1, 1) := by decide +kernel
theorem dX9_putsAside_3 : decode cX9_putsAside 3 = .ok (.sipush 4347, 3) := by decide +kernel
theorem dX9_putsAside_6 : decode cX9_putsAside 6 = .ok (.if_icmp .ge 21, 3) := by decide +kernel
theorem dX9_putsAside_9 : decode cX9_putsAside 9 = .ok (.aload_n 0, 1) := by decide +kernel
theorem dX9_putsAside_10 : decode cX9_putsAside 10 = .ok (.getfield 13, 3) := by decide +kernel
theorem dX9_putsAside_13 : decode cX9_putsAside 13 = .ok (.iload_n 1, 1) := by decide +kernel
theorem dX9_putsAside_14 : decode cX9_putsAside 14 = .ok (.aload_n 0, 1) := by decide +kernel
theorem dX9_putsAside_15 : decode cX9_putsAside 15 = .ok (.getfield 7, 3) := by decide +kernel
theorem dX9_putsAside_18 : decode cX9_putsAside 18 = .ok (.iload_n 1, 1) := by decide +kernel
theorem dX9_putsAside_19 : decode cX9_putsAside 19 = .ok (.iaload, 1) := by decide +kernel
theorem dX9_putsAside_20 : decode cX9_putsAside 20 = .ok (.iastore, 1) := by decide +kernel
theorem dX9_putsAside_21 : decode cX9_putsAside 21 = .ok (.iinc 1 1, 3) := by decide +kernel
theorem dX9_putsAside_24 : decode cX9_putsAside 24 = .ok (.goto (-22), 3) := by decide +kernel
theorem dX9_putsAside_27 : decode cX9_putsAside 27 = .ok (.return_, 1) := by decide +kernel
theorem dX9_putsBack_0 : decode cX9_putsBack 0 = .ok (.iconst 0, 1) := by decide +kernel
theorem dX9_putsBack_1 : decode cX9_putsBack 1 = .ok (.istore_n 1, 1) := by decide +kernel
theorem dX9_putsBack_2 : decode cX9_putsBack 2 = .ok (.iload_n 1, 1) := by decide +kernel
theorem dX9_putsBack_3 : decode cX9_putsBack 3 = .ok (.sipush 4347, 3) := by decide +kernel
theorem dX9_putsBack_6 : decode cX9_putsBack 6 = .ok (.if_icmp .ge 21, 3) := by decide +kernel
theorem dX9_putsBack_9 : decode cX9_putsBack 9 = .ok (.aload_n 0, 1) := by decide +kernel
theorem dX9_putsBack_10 : decode cX9_putsBack 10 = .ok (.getfield 7, 3) := by decide +kernel
theorem dX9_putsBack_13 : decode cX9_putsBack 13 = .ok (.iload_n 1, 1) := by decide +kernel
theorem dX9_putsBack_14 : decode cX9_putsBack 14 = .ok (.aload_n 0, 1) := by decide +kernel
theorem dX9_putsBack_15 : decode cX9_putsBack 15 = .ok (.getfield 13, 3) := by decide +kernel
theorem dX9_putsBack_18 : decode cX9_putsBack 18 = .ok (.iload_n 1, 1) := by decide +kernel
theorem dX9_putsBack_19 : decode cX9_putsBack 19 = .ok (.iaload, 1) := by decide +kernel
theorem dX9_putsBack_20 : decode cX9_putsBack 20 = .ok (.iastore, 1) := by decide +kernel
theorem dX9_putsBack_21 : decode cX9_putsBack 21 = .ok (.iinc 1 1, 3) := by decide +kernel
theorem dX9_putsBack_24 : decode cX9_putsBack 24 = .ok (.goto (-22), 3) := by decide +kernel
theorem dX9_putsBack_27 : decode cX9_putsBack 27 = .ok (.aload_n 0, 1) := by decide +kernel
theorem dX9_putsBack_28 : decode cX9_putsBack 28 = .ok (.invokevirtual 244, 3) := by decide +kernel
theorem dX9_putsBack_31 : decode cX9_putsBack 31 = .ok (.return_, 1) := by decide +kernel
theorem dX9_remembers_0 : decode cX9_remembers 0 = .ok (.aload_n 0, 1) := by decide +kernel
theorem dX9_remembers_1 : decode cX9_remembers 1 = .ok (.getfield 325, 3) := by decide +kernel
theorem dX9_remembers_4 : decode cX9_remembers 4 = .ok (.bipush 8, 2) := by decide +kernel
theorem dX9_remembers_6 : decode cX9_remembers 6 = .ok (.if_icmp .ne 44, 3) := by decide +kernel
theorem dX9_remembers_50 : decode cX9_remembers 50 = .ok (.iconst 0, 1) := by decide +kernel
theorem dX9_remembers_51 : decode cX9_remembers 51 = .ok (.istore_n 1, 1) := by decide +kernel
theorem dX9_remembers_52 : decode cX9_remembers 52 = .ok (.iload_n 1, 1) := by decide +kernel
theorem dX9_remembers_53 : decode cX9_remembers 53 = .ok (.sipush 4347, 3) := by decide +kernel
theorem dX9_remembers_56 : decode cX9_remembers 56 = .ok (.if_icmp .ge 30, 3) := by decide +kernel
theorem dX9_remembers_59 : decode cX9_remembers 59 = .ok (.aload_n 0, 1) := by decide +kernel
theorem dX9_remembers_60 : decode cX9_remembers 60 = .ok (.getfield 20, 3) := by decide +kernel
theorem dX9_remembers_63 : decode cX9_remembers 63 = .ok (.sipush 4347, 3) := by decide +kernel
theorem dX9_remembers_66 : decode cX9_remembers 66 = .ok (.aload_n 0, 1) := by decide +kernel
theorem dX9_remembers_67 : decode cX9_remembers 67 = .ok (.getfield 325, 3) := by decide +kernel
theorem dX9_remembers_70 : decode cX9_remembers 70 = .ok (.imul, 1) := by decide +kernel
theorem dX9_remembers_71 : decode cX9_remembers 71 = .ok (.iload_n 1, 1) := by decide +kernel
theorem dX9_remembers_72 : decode cX9_remembers 72 = .ok (.iadd, 1) := by decide +kernel
theorem dX9_remembers_73 : decode cX9_remembers 73 = .ok (.aload_n 0, 1) := by decide +kernel
theorem dX9_remembers_74 : decode cX9_remembers 74 = .ok (.getfield 13, 3) := by decide +kernel
theorem dX9_remembers_77 : decode cX9_remembers 77 = .ok (.iload_n 1, 1) := by decide +kernel
theorem dX9_remembers_78 : decode cX9_remembers 78 = .ok (.iaload, 1) := by decide +kernel
theorem dX9_remembers_79 : decode cX9_remembers 79 = .ok (.iastore, 1) := by decide +kernel
theorem dX9_remembers_80 : decode cX9_remembers 80 = .ok (.iinc 1 1, 3) := by decide +kernel
theorem dX9_remembers_83 : decode cX9_remembers 83 = .ok (.goto (-31), 3) := by decide +kernel
theorem dX9_remembers_86 : decode cX9_remembers 86 = .ok (.aload_n 0, 1) := by decide +kernel
theorem dX9_remembers_87 : decode cX9_remembers 87 = .ok (.dup, 1) := by decide +kernel
theorem dX9_remembers_88 : decode cX9_remembers 88 = .ok (.getfield 325, 3) := by decide +kernel
theorem dX9_remembers_91 : decode cX9_remembers 91 = .ok (.iconst 1, 1) := by decide +kernel
theorem dX9_remembers_92 : decode cX9_remembers 92 = .ok (.iadd, 1) := by decide +kernel
theorem dX9_remembers_93 : decode cX9_remembers 93 = .ok (.putfield 325, 3) := by decide +kernel
theorem dX9_remembers_96 : decode cX9_remembers 96 = .ok (.return_, 1) := by decide +kernel
theorem dX9_rule_0 : decode cX9_rule 0 = .ok (.aload_n 0, 1) := by decide +kernel
theorem dX9_rule_1 : decode cX9_rule 1 = .ok (.iload_n 1, 1) := by decide +kernel
theorem dX9_rule_2 : decode cX9_rule 2 = .ok (.iconst 0, 1) := by decide +kernel
theorem dX9_rule_3 : decode cX9_rule 3 = .ok (.iconst 1, 1) := by decide +kernel
theorem dX9_rule_4 : decode cX9_rule 4 = .ok (.invokestatic 141, 3) := by decide +kernel
theorem dX9_rule_7 : decode cX9_rule 7 = .ok (.ifCond .ne 7, 3) := by decide +kernel
theorem dX9_rule_10 : decode cX9_rule 10 = .ok (.iconst 1, 1) := by decide +kernel
theorem dX9_rule_11 : decode cX9_rule 11 = .ok (.goto 26, 3) := by decide +kernel
theorem dX9_rule_14 : decode cX9_rule 14 = .ok (.iload_n 2, 1) := by decide +kernel
theorem dX9_rule_15 : decode cX9_rule 15 = .ok (.iload_n 1, 1) := by decide +kernel
theorem dX9_rule_16 : decode cX9_rule 16 = .ok (.iload_n 1, 1) := by decide +kernel
theorem dX9_rule_17 : decode cX9_rule 17 = .ok (.ifCond .ne 7, 3) := by decide +kernel
theorem dX9_rule_20 : decode cX9_rule 20 = .ok (.iconst 1, 1) := by decide +kernel
theorem dX9_rule_21 : decode cX9_rule 21 = .ok (.goto 5, 3) := by decide +kernel
theorem dX9_rule_24 : decode cX9_rule 24 = .ok (.bipush 40, 2) := by decide +kernel
theorem dX9_rule_26 : decode cX9_rule 26 = .ok (.invokestatic 141, 3) := by decide +kernel
theorem dX9_rule_29 : decode cX9_rule 29 = .ok (.ifCond .ne 7, 3) := by decide +kernel
theorem dX9_rule_32 : decode cX9_rule 32 = .ok (.iconst 2, 1) := by decide +kernel
theorem dX9_rule_33 : decode cX9_rule 33 = .ok (.goto 4, 3) := by decide +kernel
theorem dX9_rule_36 : decode cX9_rule 36 = .ok (.iconst 0, 1) := by decide +kernel
theorem dX9_rule_37 : decode cX9_rule 37 = .ok (.putfield 138, 3) := by decide +kernel
theorem dX9_rule_40 : decode cX9_rule 40 = .ok (.aload_n 0, 1) := by decide +kernel
theorem dX9_rule_41 : decode cX9_rule 41 = .ok (.getfield 138, 3) := by decide +kernel
theorem dX9_rule_44 : decode cX9_rule 44 = .ok (.ifCond .le 5, 3) := by decide +kernel
theorem dX9_rule_47 : decode cX9_rule 47 = .ok (.iconst 0, 1) := by decide +kernel
theorem dX9_rule_48 : decode cX9_rule 48 = .ok (.ireturn, 1) := by decide +kernel
theorem dX9_rule_49 : decode cX9_rule 49 = .ok (.aload_n 0, 1) := by decide +kernel
theorem dX9_rule_50 : decode cX9_rule 50 = .ok (.invokevirtual 420, 3) := by decide +kernel
theorem dX9_rule_53 : decode cX9_rule 53 = .ok (.aload_n 0, 1) := by decide +kernel
theorem dX9_rule_54 : decode cX9_rule 54 = .ok (.aload_n 0, 1) := by decide +kernel
theorem dX9_rule_55 : decode cX9_rule 55 = .ok (.iload_n 1, 1) := by decide +kernel
theorem dX9_rule_56 : decode cX9_rule 56 = .ok (.ifCond .ne 7, 3) := by decide +kernel
theorem dX9_rule_59 : decode cX9_rule 59 = .ok (.iconst 3, 1) := by decide +kernel
theorem dX9_rule_60 : decode cX9_rule 60 = .ok (.goto 4, 3) := by decide +kernel
theorem dX9_rule_63 : decode cX9_rule 63 = .ok (.iconst 4, 1) := by decide +kernel
theorem dX9_rule_64 : decode cX9_rule 64 = .ok (.iload_n 2, 1) := by decide +kernel
theorem dX9_rule_65 : decode cX9_rule 65 = .ok (.invokevirtual 361, 3) := by decide +kernel
theorem dX9_rule_68 : decode cX9_rule 68 = .ok (.iconst 0, 1) := by decide +kernel
theorem dX9_rule_69 : decode cX9_rule 69 = .ok (.invokevirtual 429, 3) := by decide +kernel
theorem dX9_rule_72 : decode cX9_rule 72 = .ok (.ifCond .eq 10, 3) := by decide +kernel
theorem dX9_rule_75 : decode cX9_rule 75 = .ok (.aload_n 0, 1) := by decide +kernel
theorem dX9_rule_76 : decode cX9_rule 76 = .ok (.getfield 204, 3) := by decide +kernel
theorem dX9_rule_79 : decode cX9_rule 79 = .ok (.goto 4, 3) := by decide +kernel
theorem dX9_rule_83 : decode cX9_rule 83 = .ok (.ireturn, 1) := by decide +kernel
theorem dX9_rules_0 : decode cX9_rules 0 = .ok (.aload_n 0, 1) := by decide +kernel
theorem dX9_rules_1 : decode cX9_rules 1 = .ok (.getfield 7, 3) := by decide +kernel
theorem dX9_rules_4 : decode cX9_rules 4 = .ok (.iload_n 1, 1) := by decide +kernel
theorem dX9_rules_5 : decode cX9_rules 5 = .ok (.iload_n 2, 1) := by decide +kernel
theorem dX9_rules_6 : decode cX9_rules 6 = .ok (.iastore, 1) := by decide +kernel
theorem dX9_rules_7 : decode cX9_rules 7 = .ok (.aload_n 0, 1) := by decide +kernel
theorem dX9_rules_8 : decode cX9_rules 8 = .ok (.invokevirtual 322, 3) := by decide +kernel
theorem dX9_rules_11 : decode cX9_rules 11 = .ok (.iconst 0, 1) := by decide +kernel
theorem dX9_rules_12 : decode cX9_rules 12 = .ok (.ireturn, 1) := by decide +kernel
theorem dX9_skeleton_0 : decode cX9_skeleton 0 = .ok (.aload_n 0, 1) := by decide +kernel
theorem dX9_skeleton_1 : decode cX9_skeleton 1 = .ok (.getfield 7, 3) := by decide +kernel
theorem dX9_skeleton_4 : decode cX9_skeleton 4 = .ok (.iconst 0, 1) := by decide +kernel
theorem dX9_skeleton_5 : decode cX9_skeleton 5 = .ok (.iaload, 1) := by decide +kernel
theorem dX9_skeleton_6 : decode cX9_skeleton 6 = .ok (.istore_n 1, 1) := by decide +kernel
theorem dX9_skeleton_7 : decode cX9_skeleton 7 = .ok (.iconst 0, 1) := by decide +kernel
theorem dX9_skeleton_8 : decode cX9_skeleton 8 = .ok (.istore_n 2, 1) := by decide +kernel
theorem dX9_skeleton_9 : decode cX9_skeleton 9 = .ok (.iload_n 2, 1) := by decide +kernel
theorem dX9_skeleton_10 : decode cX9_skeleton 10 = .ok (.aload_n 0, 1) := by decide +kernel
theorem dX9_skeleton_11 : decode cX9_skeleton 11 = .ok (.getfield 204, 3) := by decide +kernel
theorem dX9_skeleton_14 : decode cX9_skeleton 14 = .ok (.if_icmp .ge 25, 3) := by decide +kernel
theorem dX9_skeleton_39 : decode cX9_skeleton 39 = .ok (.iload_n 1, 1) := by decide +kernel
theorem dX9_skeleton_40 : decode cX9_skeleton 40 = .ok (.ireturn, 1) := by decide +kernel
theorem dX9_spread_0 : decode cX9_spread 0 = .ok (.aload_n 0, 1) := by decide +kernel
theorem dX9_spread_1 : decode cX9_spread 1 = .ok (.invokevirtual 420, 3) := by decide +kernel
theorem dX9_spread_4 : decode cX9_spread 4 = .ok (.aload_n 0, 1) := by decide +kernel
theorem dX9_spread_5 : decode cX9_spread 5 = .ok (.aload_n 0, 1) := by decide +kernel
theorem dX9_spread_6 : decode cX9_spread 6 = .ok (.iload_n 1, 1) := by decide +kernel
theorem dX9_spread_7 : decode cX9_spread 7 = .ok (.invokevirtual 370, 3) := by decide +kernel
theorem dX9_spread_10 : decode cX9_spread 10 = .ok (.iconst 1, 1) := by decide +kernel
theorem dX9_spread_11 : decode cX9_spread 11 = .ok (.invokevirtual 429, 3) := by decide +kernel
theorem dX9_spread_14 : decode cX9_spread 14 = .ok (.ifCond .eq 10, 3) := by decide +kernel
theorem dX9_spread_24 : decode cX9_spread 24 = .ok (.iconst 0, 1) := by decide +kernel
theorem dX9_spread_25 : decode cX9_spread 25 = .ok (.ireturn, 1) := by decide +kernel
theorem dX9_spread0_0 : decode cX9_spread0 0 = .ok (.aload_n 0, 1) := by decide +kernel
theorem dX9_spread0_1 : decode cX9_spread0 1 = .ok (.iconst 0, 1) := by decide +kernel
theorem dX9_spread0_2 : decode cX9_spread0 2 = .ok (.putfield 306, 3) := by decide +kernel
theorem dX9_spread0_5 : decode cX9_spread0 5 = .ok (.aload_n 0, 1) := by decide +kernel
theorem dX9_spread0_6 : decode cX9_spread0 6 = .ok (.iload_n 1, 1) := by decide +kernel
theorem dX9_spread0_7 : decode cX9_spread0 7 = .ok (.invokevirtual 293, 3) := by decide +kernel
theorem dX9_spread0_10 : decode cX9_spread0 10 = .ok (.ifCond .ne 5, 3) := by decide +kernel
theorem dX9_spread0_13 : decode cX9_spread0 13 = .ok (.iconst 1, 1) := by decide +kernel
theorem dX9_spread0_14 : decode cX9_spread0 14 = .ok (.ireturn, 1) := by decide +kernel
theorem dX9_swap_0 : decode cX9_swap 0 = .ok (.aload_n 0, 1) := by decide +kernel
theorem dX9_swap_1 : decode cX9_swap 1 = .ok (.invokevirtual 420, 3) := by decide +kernel
theorem dX9_swap_4 : decode cX9_swap 4 = .ok (.aload_n 0, 1) := by decide +kernel
theorem dX9_swap_5 : decode cX9_swap 5 = .ok (.aload_n 0, 1) := by decide +kernel
theorem dX9_swap_6 : decode cX9_swap 6 = .ok (.iload_n 1, 1) := by decide +kernel
theorem dX9_swap_7 : decode cX9_swap 7 = .ok (.iload_n 2, 1) := by decide +kernel
theorem dX9_swap_8 : decode cX9_swap 8 = .ok (.invokevirtual 364, 3) := by decide +kernel
theorem dX9_swap_11 : decode cX9_swap 11 = .ok (.iconst 1, 1) := by decide +kernel
theorem dX9_swap_12 : decode cX9_swap 12 = .ok (.invokevirtual 429, 3) := by decide +kernel
theorem dX9_swap_15 : decode cX9_swap 15 = .ok (.ifCond .eq 10, 3) := by decide +kernel
theorem dX9_swap_25 : decode cX9_swap 25 = .ok (.iconst 0, 1) := by decide +kernel
theorem dX9_swap_26 : decode cX9_swap 26 = .ok (.ireturn, 1) := by decide +kernel
theorem dX9_swap0_0 : decode cX9_swap0 0 = .ok (.aload_n 0, 1) := by decide +kernel
theorem dX9_swap0_1 : decode cX9_swap0 1 = .ok (.iload_n 1, 1) := by decide +kernel
theorem dX9_swap0_2 : decode cX9_swap0 2 = .ok (.invokevirtual 293, 3) := by decide +kernel
theorem dX9_swap0_5 : decode cX9_swap0 5 = .ok (.ifCond .eq 11, 3) := by decide +kernel
theorem dX9_swap0_16 : decode cX9_swap0 16 = .ok (.iconst 1, 1) := by decide +kernel
theorem dX9_swap0_17 : decode cX9_swap0 17 = .ok (.ireturn, 1) := by decide +kernel
theorem dX9_tell_0 : decode cX9_tell 0 = .ok (.aload_n 0, 1) := by decide +kernel
theorem dX9_tell_1 : decode cX9_tell 1 = .ok (.invokevirtual 435, 3) := by decide +kernel
theorem dX9_tell_4 : decode cX9_tell 4 = .ok (.istore_n 2, 1) := by decide +kernel
theorem dX9_tell_5 : decode cX9_tell 5 = .ok (.aload_n 0, 1) := by decide +kernel
theorem dX9_tell_6 : decode cX9_tell 6 = .ok (.iload_n 2, 1) := by decide +kernel
theorem dX9_tell_7 : decode cX9_tell 7 = .ok (.bipush 60, 2) := by decide +kernel
theorem dX9_tell_9 : decode cX9_tell 9 = .ok (.if_icmp .le 7, 3) := by decide +kernel
theorem dX9_tell_16 : decode cX9_tell 16 = .ok (.iconst 0, 1) := by decide +kernel
theorem dX9_tell_17 : decode cX9_tell 17 = .ok (.putfield 138, 3) := by decide +kernel
theorem dX9_tell_20 : decode cX9_tell 20 = .ok (.aload_n 0, 1) := by decide +kernel
theorem dX9_tell_21 : decode cX9_tell 21 = .ok (.getfield 138, 3) := by decide +kernel
theorem dX9_tell_24 : decode cX9_tell 24 = .ok (.ifCond .le 5, 3) := by decide +kernel
theorem dX9_tell_29 : decode cX9_tell 29 = .ok (.aload_n 0, 1) := by decide +kernel
theorem dX9_tell_30 : decode cX9_tell 30 = .ok (.invokevirtual 420, 3) := by decide +kernel
theorem dX9_tell_33 : decode cX9_tell 33 = .ok (.aload_n 0, 1) := by decide +kernel
theorem dX9_tell_34 : decode cX9_tell 34 = .ok (.aload_n 0, 1) := by decide +kernel
theorem dX9_tell_35 : decode cX9_tell 35 = .ok (.iload_n 1, 1) := by decide +kernel
theorem dX9_tell_36 : decode cX9_tell 36 = .ok (.iload_n 2, 1) := by decide +kernel
theorem dX9_tell_37 : decode cX9_tell 37 = .ok (.invokevirtual 438, 3) := by decide +kernel
theorem dX9_tell_40 : decode cX9_tell 40 = .ok (.iconst 2, 1) := by decide +kernel
theorem dX9_tell_41 : decode cX9_tell 41 = .ok (.invokevirtual 429, 3) := by decide +kernel
theorem dX9_tell_44 : decode cX9_tell 44 = .ok (.ifCond .eq 10, 3) := by decide +kernel
theorem dX9_tell_54 : decode cX9_tell 54 = .ok (.iconst 0, 1) := by decide +kernel
theorem dX9_tell_55 : decode cX9_tell 55 = .ok (.ireturn, 1) := by decide +kernel
theorem dX9_tell0_0 : decode cX9_tell0 0 = .ok (.aload_n 0, 1) := by decide +kernel
theorem dX9_tell0_1 : decode cX9_tell0 1 = .ok (.iload_n 1, 1) := by decide +kernel
theorem dX9_tell0_2 : decode cX9_tell0 2 = .ok (.invokevirtual 293, 3) := by decide +kernel
theorem dX9_tell0_5 : decode cX9_tell0 5 = .ok (.ifCond .ne 5, 3) := by decide +kernel
theorem dX9_tell0_8 : decode cX9_tell0 8 = .ok (.iconst 1, 1) := by decide +kernel
theorem dX9_tell0_9 : decode cX9_tell0 9 = .ok (.ireturn, 1) := by decide +kernel
theorem dX9_thrown_0 : decode cX9_thrown 0 = .ok (.aload_n 0, 1) := by decide +kernel
theorem dX9_thrown_1 : decode cX9_thrown 1 = .ok (.getfield 138, 3) := by decide +kernel
theorem dX9_thrown_4 : decode cX9_thrown 4 = .ok (.ireturn, 1) := by decide +kernel
theorem dX9_toldMany_0 : decode cX9_toldMany 0 = .ok (.iconst 0, 1) := by decide +kernel
theorem dX9_toldMany_1 : decode cX9_toldMany 1 = .ok (.istore_n 1, 1) := by decide +kernel
theorem dX9_toldMany_2 : decode cX9_toldMany 2 = .ok (.iconst 0, 1) := by decide +kernel
theorem dX9_toldMany_3 : decode cX9_toldMany 3 = .ok (.istore_n 2, 1) := by decide +kernel
theorem dX9_toldMany_4 : decode cX9_toldMany 4 = .ok (.iload_n 2, 1) := by decide +kernel
theorem dX9_toldMany_5 : decode cX9_toldMany 5 = .ok (.aload_n 0, 1) := by decide +kernel
theorem dX9_toldMany_6 : decode cX9_toldMany 6 = .ok (.getfield 204, 3) := by decide +kernel
theorem dX9_toldMany_9 : decode cX9_toldMany 9 = .ok (.if_icmp .ge 26, 3) := by decide +kernel
theorem dX9_toldMany_35 : decode cX9_toldMany 35 = .ok (.iload_n 1, 1) := by decide +kernel
theorem dX9_toldMany_36 : decode cX9_toldMany 36 = .ok (.ireturn, 1) := by decide +kernel
theorem dX9_took_0 : decode cX9_took 0 = .ok (.aload_n 0, 1) := by decide +kernel
theorem dX9_took_1 : decode cX9_took 1 = .ok (.getfield 337, 3) := by decide +kernel
theorem dX9_took_4 : decode cX9_took 4 = .ok (.istore_n 1, 1) := by decide +kernel
theorem dX9_took_5 : decode cX9_took 5 = .ok (.aload_n 0, 1) := by decide +kernel
theorem dX9_took_6 : decode cX9_took 6 = .ok (.iconst 0, 1) := by decide +kernel
theorem dX9_took_7 : decode cX9_took 7 = .ok (.putfield 337, 3) := by decide +kernel
theorem dX9_took_10 : decode cX9_took 10 = .ok (.iload_n 1, 1) := by decide +kernel
theorem dX9_took_11 : decode cX9_took 11 = .ok (.ireturn, 1) := by decide +kernel
theorem dX9_tookTold_0 : decode cX9_tookTold 0 = .ok (.aload_n 0, 1) := by decide +kernel
theorem dX9_tookTold_1 : decode cX9_tookTold 1 = .ok (.invokevirtual 426, 3) := by decide +kernel
theorem dX9_tookTold_4 : decode cX9_tookTold 4 = .ok (.istore_n 1, 1) := by decide +kernel
theorem dX9_tookTold_5 : decode cX9_tookTold 5 = .ok (.iconst 0, 1) := by decide +kernel
theorem dX9_tookTold_6 : decode cX9_tookTold 6 = .ok (.istore_n 2, 1) := by decide +kernel
theorem dX9_tookTold_7 : decode cX9_tookTold 7 = .ok (.iload_n 2, 1) := by decide +kernel
theorem dX9_tookTold_8 : decode cX9_tookTold 8 = .ok (.iload_n 1, 1) := by decide +kernel
theorem dX9_tookTold_9 : decode cX9_tookTold 9 = .ok (.if_icmp .ge 27, 3) := by decide +kernel
theorem dX9_tookTold_36 : decode cX9_tookTold 36 = .ok (.iload_n 1, 1) := by decide +kernel
theorem dX9_tookTold_37 : decode cX9_tookTold 37 = .ok (.ireturn, 1) := by decide +kernel
theorem dX9_twice_0 : decode cX9_twice 0 = .ok (.aload_n 0, 1) := by decide +kernel
theorem dX9_twice_1 : decode cX9_twice 1 = .ok (.iconst 0, 1) := by decide +kernel
theorem dX9_twice_2 : decode cX9_twice 2 = .ok (.putfield 138, 3) := by decide +kernel
theorem dX9_twice_5 : decode cX9_twice 5 = .ok (.aload_n 0, 1) := by decide +kernel
theorem dX9_twice_6 : decode cX9_twice 6 = .ok (.invokevirtual 462, 3) := by decide +kernel
theorem dX9_twice_9 : decode cX9_twice 9 = .ok (.aload_n 0, 1) := by decide +kernel
theorem dX9_twice_10 : decode cX9_twice 10 = .ok (.getfield 204, 3) := by decide +kernel
theorem dX9_twice_13 : decode cX9_twice 13 = .ok (.aload_n 0, 1) := by decide +kernel
theorem dX9_twice_14 : decode cX9_twice 14 = .ok (.getfield 459, 3) := by decide +kernel
theorem dX9_twice_17 : decode cX9_twice 17 = .ok (.if_icmp .ne 7, 3) := by decide +kernel
theorem dX9_twice_20 : decode cX9_twice 20 = .ok (.iconst 1, 1) := by decide +kernel
theorem dX9_twice_21 : decode cX9_twice 21 = .ok (.goto 4, 3) := by decide +kernel
theorem dX9_twice_25 : decode cX9_twice 25 = .ok (.istore_n 1, 1) := by decide +kernel
theorem dX9_twice_26 : decode cX9_twice 26 = .ok (.iconst 0, 1) := by decide +kernel
theorem dX9_twice_27 : decode cX9_twice 27 = .ok (.istore_n 2, 1) := by decide +kernel
theorem dX9_twice_28 : decode cX9_twice 28 = .ok (.iload_n 2, 1) := by decide +kernel
theorem dX9_twice_29 : decode cX9_twice 29 = .ok (.aload_n 0, 1) := by decide +kernel
theorem dX9_twice_30 : decode cX9_twice 30 = .ok (.getfield 459, 3) := by decide +kernel
theorem dX9_twice_33 : decode cX9_twice 33 = .ok (.if_icmp .ge 20, 3) := by decide +kernel
theorem dX9_twice_53 : decode cX9_twice 53 = .ok (.aload_n 0, 1) := by decide +kernel
theorem dX9_twice_54 : decode cX9_twice 54 = .ok (.invokevirtual 244, 3) := by decide +kernel
theorem dX9_twice_57 : decode cX9_twice 57 = .ok (.iload_n 1, 1) := by decide +kernel
theorem dX9_twice_58 : decode cX9_twice 58 = .ok (.ireturn, 1) := by decide +kernel
theorem dX9_undo_0 : decode cX9_undo 0 = .ok (.aload_n 0, 1) := by decide +kernel
theorem dX9_undo_1 : decode cX9_undo 1 = .ok (.aload_n 0, 1) := by decide +kernel
theorem dX9_undo_2 : decode cX9_undo 2 = .ok (.getfield 325, 3) := by decide +kernel
theorem dX9_undo_5 : decode cX9_undo 5 = .ok (.ifCond .ne 7, 3) := by decide +kernel
theorem dX9_undo_8 : decode cX9_undo 8 = .ok (.iconst 1, 1) := by decide +kernel
theorem dX9_undo_9 : decode cX9_undo 9 = .ok (.goto 4, 3) := by decide +kernel
theorem dX9_undo_13 : decode cX9_undo 13 = .ok (.putfield 138, 3) := by decide +kernel
theorem dX9_undo_16 : decode cX9_undo 16 = .ok (.aload_n 0, 1) := by decide +kernel
theorem dX9_undo_17 : decode cX9_undo 17 = .ok (.getfield 138, 3) := by decide +kernel
theorem dX9_undo_20 : decode cX9_undo 20 = .ok (.ifCond .le 5, 3) := by decide +kernel
theorem dX9_undo_23 : decode cX9_undo 23 = .ok (.iconst 0, 1) := by decide +kernel
theorem dX9_undo_24 : decode cX9_undo 24 = .ok (.ireturn, 1) := by decide +kernel
theorem dX9_unlikeTexts_0 : decode cX9_unlikeTexts 0 = .ok (.iconst 0, 1) := by decide +kernel
theorem dX9_unlikeTexts_1 : decode cX9_unlikeTexts 1 = .ok (.istore_n 1, 1) := by decide +kernel
theorem dX9_unlikeTexts_2 : decode cX9_unlikeTexts 2 = .ok (.iconst 0, 1) := by decide +kernel
theorem dX9_unlikeTexts_3 : decode cX9_unlikeTexts 3 = .ok (.istore_n 2, 1) := by decide +kernel
theorem dX9_unlikeTexts_4 : decode cX9_unlikeTexts 4 = .ok (.iload_n 2, 1) := by decide +kernel
theorem dX9_unlikeTexts_5 : decode cX9_unlikeTexts 5 = .ok (.aload_n 0, 1) := by decide +kernel
theorem dX9_unlikeTexts_6 : decode cX9_unlikeTexts 6 = .ok (.getfield 204, 3) := by decide +kernel
theorem dX9_unlikeTexts_9 : decode cX9_unlikeTexts 9 = .ok (.if_icmp .ge 58, 3) := by decide +kernel
theorem dX9_unlikeTexts_67 : decode cX9_unlikeTexts 67 = .ok (.iload_n 1, 1) := by decide +kernel
theorem dX9_unlikeTexts_68 : decode cX9_unlikeTexts 68 = .ok (.ireturn, 1) := by decide +kernel
theorem dX9_unlock_0 : decode cX9_unlock 0 = .ok (.aload_n 0, 1) := by decide +kernel
theorem dX9_unlock_1 : decode cX9_unlock 1 = .ok (.invokevirtual 420, 3) := by decide +kernel
theorem dX9_unlock_4 : decode cX9_unlock 4 = .ok (.aload_n 0, 1) := by decide +kernel
theorem dX9_unlock_5 : decode cX9_unlock 5 = .ok (.aload_n 0, 1) := by decide +kernel
theorem dX9_unlock_6 : decode cX9_unlock 6 = .ok (.invokevirtual 399, 3) := by decide +kernel
theorem dX9_unlock_9 : decode cX9_unlock 9 = .ok (.iconst 0, 1) := by decide +kernel
theorem dX9_unlock_10 : decode cX9_unlock 10 = .ok (.invokevirtual 429, 3) := by decide +kernel
theorem dX9_unlock_13 : decode cX9_unlock 13 = .ok (.ifCond .eq 10, 3) := by decide +kernel
theorem dX9_unlock_16 : decode cX9_unlock 16 = .ok (.aload_n 0, 1) := by decide +kernel
theorem dX9_unlock_17 : decode cX9_unlock 17 = .ok (.getfield 204, 3) := by decide +kernel
theorem dX9_unlock_20 : decode cX9_unlock 20 = .ok (.goto 4, 3) := by decide +kernel
theorem dX9_unlock_24 : decode cX9_unlock 24 = .ok (.ireturn, 1) := by decide +kernel
theorem dX9_unlocks_0 : decode cX9_unlocks 0 = .ok (.aload_n 0, 1) := by decide +kernel
theorem dX9_unlocks_1 : decode cX9_unlocks 1 = .ok (.getfield 7, 3) := by decide +kernel
theorem dX9_unlocks_4 : decode cX9_unlocks 4 = .ok (.iconst 5, 1) := by decide +kernel
theorem dX9_unlocks_5 : decode cX9_unlocks 5 = .ok (.iconst 0, 1) := by decide +kernel
theorem dX9_unlocks_6 : decode cX9_unlocks 6 = .ok (.iastore, 1) := by decide +kernel
theorem dX9_unlocks_7 : decode cX9_unlocks 7 = .ok (.aload_n 0, 1) := by decide +kernel
theorem dX9_unlocks_8 : decode cX9_unlocks 8 = .ok (.invokevirtual 322, 3) := by decide +kernel
theorem dX9_unlocks_11 : decode cX9_unlocks 11 = .ok (.iconst 0, 1) := by decide +kernel
theorem dX9_unlocks_12 : decode cX9_unlocks 12 = .ok (.ireturn, 1) := by decide +kernel
theorem dX9_why_0 : decode cX9_why 0 = .ok (.aload_n 0, 1) := by decide +kernel
theorem dX9_why_1 : decode cX9_why 1 = .ok (.iconst 0, 1) := by decide +kernel
theorem dX9_why_2 : decode cX9_why 2 = .ok (.putfield 138, 3) := by decide +kernel
theorem dX9_why_5 : decode cX9_why 5 = .ok (.aload_n 0, 1) := by decide +kernel
theorem dX9_why_6 : decode cX9_why 6 = .ok (.getfield 328, 3) := by decide +kernel
theorem dX9_why_9 : decode cX9_why 9 = .ok (.ireturn, 1) := by decide +kernel
theorem dX9_wipe_0 : decode cX9_wipe 0 = .ok (.aload_n 0, 1) := by decide +kernel
theorem dX9_wipe_1 : decode cX9_wipe 1 = .ok (.invokevirtual 420, 3) := by decide +kernel
theorem dX9_wipe_4 : decode cX9_wipe 4 = .ok (.aload_n 0, 1) := by decide +kernel
theorem dX9_wipe_5 : decode cX9_wipe 5 = .ok (.invokevirtual 319, 3) := by decide +kernel
theorem dX9_wipe_8 : decode cX9_wipe 8 = .ok (.istore_n 1, 1) := by decide +kernel
theorem dX9_wipe_9 : decode cX9_wipe 9 = .ok (.aload_n 0, 1) := by decide +kernel
theorem dX9_wipe_10 : decode cX9_wipe 10 = .ok (.aload_n 0, 1) := by decide +kernel
theorem dX9_wipe_11 : decode cX9_wipe 11 = .ok (.invokevirtual 417, 3) := by decide +kernel
theorem dX9_wipe_14 : decode cX9_wipe 14 = .ok (.iconst 1, 1) := by decide +kernel
theorem dX9_wipe_15 : decode cX9_wipe 15 = .ok (.invokevirtual 429, 3) := by decide +kernel
theorem dX9_wipe_18 : decode cX9_wipe 18 = .ok (.ifCond .eq 7, 3) := by decide +kernel
theorem dX9_wipe_25 : decode cX9_wipe 25 = .ok (.iconst 0, 1) := by decide +kernel
theorem dX9_wipe_26 : decode cX9_wipe 26 = .ok (.ireturn, 1) := by decide +kernel
theorem dX9_wipe0_0 : decode cX9_wipe0 0 = .ok (.aload_n 0, 1) := by decide +kernel
theorem dX9_wipe0_1 : decode cX9_wipe0 1 = .ok (.invokevirtual 319, 3) := by decide +kernel
theorem dX9_wipe0_4 : decode cX9_wipe0 4 = .ok (.ifCond .ne 5, 3) := by decide +kernel
theorem dX9_wipe0_7 : decode cX9_wipe0 7 = .ok (.iconst 4, 1) := by decide +kernel
theorem dX9_wipe0_8 : decode cX9_wipe0 8 = .ok (.ireturn, 1) := by decide +kernel
theorem dX9_would_0 : decode cX9_would 0 = .ok (.aload_n 0, 1) := by decide +kernel
theorem dX9_would_1 : decode cX9_would 1 = .ok (.invokevirtual 435, 3) := by decide +kernel
theorem dX9_would_4 : decode cX9_would 4 = .ok (.istore_n 2, 1) := by decide +kernel
theorem dX9_would_5 : decode cX9_would 5 = .ok (.aload_n 0, 1) := by decide +kernel
theorem dX9_would_6 : decode cX9_would 6 = .ok (.aload_n 0, 1) := by decide +kernel
theorem dX9_would_7 : decode cX9_would 7 = .ok (.iload_n 1, 1) := by decide +kernel
theorem dX9_would_8 : decode cX9_would 8 = .ok (.invokevirtual 293, 3) := by decide +kernel
theorem dX9_would_11 : decode cX9_would 11 = .ok (.ifCond .ne 7, 3) := by decide +kernel
theorem dX9_would_14 : decode cX9_would 14 = .ok (.iconst 1, 1) := by decide +kernel
theorem dX9_would_15 : decode cX9_would 15 = .ok (.goto 14, 3) := by decide +kernel
theorem dX9_would_29 : decode cX9_would 29 = .ok (.putfield 138, 3) := by decide +kernel
theorem dX9_would_32 : decode cX9_would 32 = .ok (.aload_n 0, 1) := by decide +kernel
theorem dX9_would_33 : decode cX9_would 33 = .ok (.getfield 138, 3) := by decide +kernel
theorem dX9_would_36 : decode cX9_would 36 = .ok (.ifCond .le 7, 3) := by decide +kernel
theorem dX9_would_39 : decode cX9_would 39 = .ok (.iconst 0, 1) := by decide +kernel
theorem dX9_would_40 : decode cX9_would 40 = .ok (.goto 9, 3) := by decide +kernel
theorem dX9_would_49 : decode cX9_would 49 = .ok (.ireturn, 1) := by decide +kernel
