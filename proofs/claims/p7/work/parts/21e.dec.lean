theorem dX9_isWord_33 : decode cX9_isWord 33 = .ok (.iinc 3 1, 3) := by decide +kernel
theorem dX9_isWord_36 : decode cX9_isWord 36 = .ok (.goto (-26), 3) := by decide +kernel
theorem dX9_isWord_39 : decode cX9_isWord 39 = .ok (.iload_n 2, 1) := by decide +kernel
theorem dX9_isWord_40 : decode cX9_isWord 40 = .ok (.ireturn, 1) := by decide +kernel
theorem dX9_kept_0 : decode cX9_kept 0 = .ok (.aload_n 0, 1) := by decide +kernel
theorem dX9_kept_1 : decode cX9_kept 1 = .ok (.aload_n 0, 1) := by decide +kernel
theorem dX9_kept_2 : decode cX9_kept 2 = .ok (.iload_n 1, 1) := by decide +kernel
theorem dX9_kept_3 : decode cX9_kept 3 = .ok (.invokevirtual 293, 3) := by decide +kernel
theorem dX9_kept_6 : decode cX9_kept 6 = .ok (.ifCond .eq 7, 3) := by decide +kernel
theorem dX9_kept_9 : decode cX9_kept 9 = .ok (.iconst 0, 1) := by decide +kernel
theorem dX9_kept_10 : decode cX9_kept 10 = .ok (.goto 4, 3) := by decide +kernel
theorem dX9_kept_13 : decode cX9_kept 13 = .ok (.iconst 1, 1) := by decide +kernel
theorem dX9_kept_14 : decode cX9_kept 14 = .ok (.putfield 138, 3) := by decide +kernel
theorem dX9_kept_17 : decode cX9_kept 17 = .ok (.aload_n 0, 1) := by decide +kernel
theorem dX9_kept_18 : decode cX9_kept 18 = .ok (.getfield 138, 3) := by decide +kernel
theorem dX9_kept_21 : decode cX9_kept 21 = .ok (.ifCond .le 5, 3) := by decide +kernel
theorem dX9_kept_24 : decode cX9_kept 24 = .ok (.iconst 0, 1) := by decide +kernel
theorem dX9_kept_25 : decode cX9_kept 25 = .ok (.ireturn, 1) := by decide +kernel
theorem dX9_kept_26 : decode cX9_kept 26 = .ok (.aload_n 0, 1) := by decide +kernel
theorem dX9_kept_27 : decode cX9_kept 27 = .ok (.invokevirtual 462, 3) := by decide +kernel
theorem dX9_kept_30 : decode cX9_kept 30 = .ok (.aload_n 0, 1) := by decide +kernel
theorem dX9_kept_31 : decode cX9_kept 31 = .ok (.iload_n 1, 1) := by decide +kernel
theorem dX9_kept_32 : decode cX9_kept 32 = .ok (.invokevirtual 247, 3) := by decide +kernel
theorem dX9_kept_35 : decode cX9_kept 35 = .ok (.iconst (-1), 1) := by decide +kernel
theorem dX9_kept_36 : decode cX9_kept 36 = .ok (.if_icmp .eq 23, 3) := by decide +kernel
theorem dX9_kept_39 : decode cX9_kept 39 = .ok (.aload_n 0, 1) := by decide +kernel
theorem dX9_kept_40 : decode cX9_kept 40 = .ok (.getfield 120, 3) := by decide +kernel
theorem dX9_kept_43 : decode cX9_kept 43 = .ok (.aload_n 0, 1) := by decide +kernel
theorem dX9_kept_44 : decode cX9_kept 44 = .ok (.getfield 129, 3) := by decide +kernel
theorem dX9_kept_47 : decode cX9_kept 47 = .ok (.iload_n 1, 1) := by decide +kernel
theorem dX9_kept_48 : decode cX9_kept 48 = .ok (.iaload, 1) := by decide +kernel
theorem dX9_kept_49 : decode cX9_kept 49 = .ok (.iaload, 1) := by decide +kernel
theorem dX9_kept_50 : decode cX9_kept 50 = .ok (.bipush 34, 2) := by decide +kernel
theorem dX9_kept_52 : decode cX9_kept 52 = .ok (.if_icmp .ne 7, 3) := by decide +kernel
theorem dX9_kept_55 : decode cX9_kept 55 = .ok (.iconst 1, 1) := by decide +kernel
theorem dX9_kept_56 : decode cX9_kept 56 = .ok (.goto 4, 3) := by decide +kernel
theorem dX9_kept_59 : decode cX9_kept 59 = .ok (.iconst 0, 1) := by decide +kernel
theorem dX9_kept_60 : decode cX9_kept 60 = .ok (.istore_n 2, 1) := by decide +kernel
theorem dX9_kept_61 : decode cX9_kept 61 = .ok (.iconst 0, 1) := by decide +kernel
theorem dX9_kept_62 : decode cX9_kept 62 = .ok (.istore_n 3, 1) := by decide +kernel
theorem dX9_kept_63 : decode cX9_kept 63 = .ok (.iconst 0, 1) := by decide +kernel
theorem dX9_kept_64 : decode cX9_kept 64 = .ok (.istore 4, 2) := by decide +kernel
theorem dX9_kept_66 : decode cX9_kept 66 = .ok (.iload 4, 2) := by decide +kernel
theorem dX9_kept_68 : decode cX9_kept 68 = .ok (.aload_n 0, 1) := by decide +kernel
theorem dX9_kept_69 : decode cX9_kept 69 = .ok (.getfield 204, 3) := by decide +kernel
theorem dX9_kept_72 : decode cX9_kept 72 = .ok (.if_icmp .ge 67, 3) := by decide +kernel
theorem dX9_kept_75 : decode cX9_kept 75 = .ok (.iload_n 3, 1) := by decide +kernel
theorem dX9_kept_76 : decode cX9_kept 76 = .ok (.ifCond .ne 51, 3) := by decide +kernel
theorem dX9_kept_79 : decode cX9_kept 79 = .ok (.aload_n 0, 1) := by decide +kernel
theorem dX9_kept_80 : decode cX9_kept 80 = .ok (.getfield 81, 3) := by decide +kernel
theorem dX9_kept_83 : decode cX9_kept 83 = .ok (.iload 4, 2) := by decide +kernel
theorem dX9_kept_85 : decode cX9_kept 85 = .ok (.iaload, 1) := by decide +kernel
theorem dX9_kept_86 : decode cX9_kept 86 = .ok (.aload_n 0, 1) := by decide +kernel
theorem dX9_kept_87 : decode cX9_kept 87 = .ok (.getfield 129, 3) := by decide +kernel
theorem dX9_kept_90 : decode cX9_kept 90 = .ok (.iload_n 1, 1) := by decide +kernel
theorem dX9_kept_91 : decode cX9_kept 91 = .ok (.iaload, 1) := by decide +kernel
theorem dX9_kept_92 : decode cX9_kept 92 = .ok (.if_icmp .eq 25, 3) := by decide +kernel
theorem dX9_kept_95 : decode cX9_kept 95 = .ok (.iload_n 2, 1) := by decide +kernel
theorem dX9_kept_96 : decode cX9_kept 96 = .ok (.ifCond .eq 35, 3) := by decide +kernel
theorem dX9_kept_99 : decode cX9_kept 99 = .ok (.aload_n 0, 1) := by decide +kernel
theorem dX9_kept_100 : decode cX9_kept 100 = .ok (.getfield 81, 3) := by decide +kernel
theorem dX9_kept_103 : decode cX9_kept 103 = .ok (.iload 4, 2) := by decide +kernel
theorem dX9_kept_105 : decode cX9_kept 105 = .ok (.iaload, 1) := by decide +kernel
theorem dX9_kept_106 : decode cX9_kept 106 = .ok (.aload_n 0, 1) := by decide +kernel
theorem dX9_kept_107 : decode cX9_kept 107 = .ok (.getfield 129, 3) := by decide +kernel
theorem dX9_kept_110 : decode cX9_kept 110 = .ok (.iload_n 1, 1) := by decide +kernel
theorem dX9_kept_111 : decode cX9_kept 111 = .ok (.iaload, 1) := by decide +kernel
theorem dX9_kept_112 : decode cX9_kept 112 = .ok (.iconst 1, 1) := by decide +kernel
theorem dX9_kept_113 : decode cX9_kept 113 = .ok (.iadd, 1) := by decide +kernel
theorem dX9_kept_114 : decode cX9_kept 114 = .ok (.if_icmp .ne 17, 3) := by decide +kernel
theorem dX9_kept_117 : decode cX9_kept 117 = .ok (.aload_n 0, 1) := by decide +kernel
theorem dX9_kept_118 : decode cX9_kept 118 = .ok (.iload 4, 2) := by decide +kernel
theorem dX9_kept_120 : decode cX9_kept 120 = .ok (.iload_n 1, 1) := by decide +kernel
theorem dX9_kept_121 : decode cX9_kept 121 = .ok (.invokevirtual 465, 3) := by decide +kernel
theorem dX9_kept_124 : decode cX9_kept 124 = .ok (.ifCond .eq 7, 3) := by decide +kernel
theorem dX9_kept_127 : decode cX9_kept 127 = .ok (.iconst 1, 1) := by decide +kernel
theorem dX9_kept_128 : decode cX9_kept 128 = .ok (.goto 4, 3) := by decide +kernel
theorem dX9_kept_131 : decode cX9_kept 131 = .ok (.iconst 0, 1) := by decide +kernel
theorem dX9_kept_132 : decode cX9_kept 132 = .ok (.istore_n 3, 1) := by decide +kernel
theorem dX9_kept_133 : decode cX9_kept 133 = .ok (.iinc 4 1, 3) := by decide +kernel
theorem dX9_kept_136 : decode cX9_kept 136 = .ok (.goto (-70), 3) := by decide +kernel
theorem dX9_kept_139 : decode cX9_kept 139 = .ok (.aload_n 0, 1) := by decide +kernel
theorem dX9_kept_140 : decode cX9_kept 140 = .ok (.invokevirtual 244, 3) := by decide +kernel
theorem dX9_kept_143 : decode cX9_kept 143 = .ok (.iload_n 3, 1) := by decide +kernel
theorem dX9_kept_144 : decode cX9_kept 144 = .ok (.ireturn, 1) := by decide +kernel
theorem dX9_key_0 : decode cX9_key 0 = .ok (.aload_n 0, 1) := by decide +kernel
theorem dX9_key_1 : decode cX9_key 1 = .ok (.aload_n 0, 1) := by decide +kernel
theorem dX9_key_2 : decode cX9_key 2 = .ok (.iload_n 1, 1) := by decide +kernel
theorem dX9_key_3 : decode cX9_key 3 = .ok (.invokevirtual 293, 3) := by decide +kernel
theorem dX9_key_6 : decode cX9_key 6 = .ok (.ifCond .ne 7, 3) := by decide +kernel
theorem dX9_key_9 : decode cX9_key 9 = .ok (.iconst 1, 1) := by decide +kernel
theorem dX9_key_10 : decode cX9_key 10 = .ok (.goto 17, 3) := by decide +kernel
theorem dX9_key_13 : decode cX9_key 13 = .ok (.iload_n 2, 1) := by decide +kernel
theorem dX9_key_14 : decode cX9_key 14 = .ok (.iconst 0, 1) := by decide +kernel
theorem dX9_key_15 : decode cX9_key 15 = .ok (.iconst 1, 1) := by decide +kernel
theorem dX9_key_16 : decode cX9_key 16 = .ok (.invokestatic 141, 3) := by decide +kernel
theorem dX9_key_19 : decode cX9_key 19 = .ok (.ifCond .ne 7, 3) := by decide +kernel
theorem dX9_key_22 : decode cX9_key 22 = .ok (.iconst 2, 1) := by decide +kernel
theorem dX9_key_23 : decode cX9_key 23 = .ok (.goto 4, 3) := by decide +kernel
theorem dX9_key_26 : decode cX9_key 26 = .ok (.iconst 0, 1) := by decide +kernel
theorem dX9_key_27 : decode cX9_key 27 = .ok (.putfield 138, 3) := by decide +kernel
theorem dX9_key_30 : decode cX9_key 30 = .ok (.aload_n 0, 1) := by decide +kernel
theorem dX9_key_31 : decode cX9_key 31 = .ok (.getfield 138, 3) := by decide +kernel
theorem dX9_key_34 : decode cX9_key 34 = .ok (.ifCond .le 5, 3) := by decide +kernel
theorem dX9_key_37 : decode cX9_key 37 = .ok (.iconst 0, 1) := by decide +kernel
theorem dX9_key_38 : decode cX9_key 38 = .ok (.ireturn, 1) := by decide +kernel
theorem dX9_key_39 : decode cX9_key 39 = .ok (.aload_n 0, 1) := by decide +kernel
theorem dX9_key_40 : decode cX9_key 40 = .ok (.getfield 7, 3) := by decide +kernel
theorem dX9_key_43 : decode cX9_key 43 = .ok (.iconst 1, 1) := by decide +kernel
theorem dX9_key_44 : decode cX9_key 44 = .ok (.iaload, 1) := by decide +kernel
theorem dX9_key_45 : decode cX9_key 45 = .ok (.ifCond .eq 5, 3) := by decide +kernel
theorem dX9_key_48 : decode cX9_key 48 = .ok (.iconst (-1), 1) := by decide +kernel
theorem dX9_key_49 : decode cX9_key 49 = .ok (.ireturn, 1) := by decide +kernel
theorem dX9_key_50 : decode cX9_key 50 = .ok (.iload_n 2, 1) := by decide +kernel
theorem dX9_key_51 : decode cX9_key 51 = .ok (.ifCond .ne 12, 3) := by decide +kernel
theorem dX9_key_54 : decode cX9_key 54 = .ok (.aload_n 0, 1) := by decide +kernel
theorem dX9_key_55 : decode cX9_key 55 = .ok (.getfield 96, 3) := by decide +kernel
theorem dX9_key_58 : decode cX9_key 58 = .ok (.iload_n 1, 1) := by decide +kernel
theorem dX9_key_59 : decode cX9_key 59 = .ok (.iaload, 1) := by decide +kernel
theorem dX9_key_60 : decode cX9_key 60 = .ok (.goto 9, 3) := by decide +kernel
theorem dX9_key_63 : decode cX9_key 63 = .ok (.aload_n 0, 1) := by decide +kernel
theorem dX9_key_64 : decode cX9_key 64 = .ok (.getfield 99, 3) := by decide +kernel
theorem dX9_key_67 : decode cX9_key 67 = .ok (.iload_n 1, 1) := by decide +kernel
theorem dX9_key_68 : decode cX9_key 68 = .ok (.iaload, 1) := by decide +kernel
theorem dX9_key_69 : decode cX9_key 69 = .ok (.ireturn, 1) := by decide +kernel
theorem dX9_kind_0 : decode cX9_kind 0 = .ok (.aload_n 0, 1) := by decide +kernel
theorem dX9_kind_1 : decode cX9_kind 1 = .ok (.iload_n 1, 1) := by decide +kernel
theorem dX9_kind_2 : decode cX9_kind 2 = .ok (.iload_n 2, 1) := by decide +kernel
theorem dX9_kind_3 : decode cX9_kind 3 = .ok (.ifCond .eq 7, 3) := by decide +kernel
theorem dX9_kind_6 : decode cX9_kind 6 = .ok (.iconst (-1), 1) := by decide +kernel
theorem dX9_kind_7 : decode cX9_kind 7 = .ok (.goto 4, 3) := by decide +kernel
theorem dX9_kind_10 : decode cX9_kind 10 = .ok (.iconst 0, 1) := by decide +kernel
theorem dX9_kind_11 : decode cX9_kind 11 = .ok (.iconst 3, 1) := by decide +kernel
theorem dX9_kind_12 : decode cX9_kind 12 = .ok (.invokestatic 141, 3) := by decide +kernel
theorem dX9_kind_15 : decode cX9_kind 15 = .ok (.ifCond .eq 7, 3) := by decide +kernel
theorem dX9_kind_18 : decode cX9_kind 18 = .ok (.iconst 0, 1) := by decide +kernel
theorem dX9_kind_19 : decode cX9_kind 19 = .ok (.goto 4, 3) := by decide +kernel
theorem dX9_kind_22 : decode cX9_kind 22 = .ok (.iconst 1, 1) := by decide +kernel
theorem dX9_kind_23 : decode cX9_kind 23 = .ok (.putfield 138, 3) := by decide +kernel
theorem dX9_kind_26 : decode cX9_kind 26 = .ok (.aload_n 0, 1) := by decide +kernel
theorem dX9_kind_27 : decode cX9_kind 27 = .ok (.getfield 138, 3) := by decide +kernel
theorem dX9_kind_30 : decode cX9_kind 30 = .ok (.ifCond .le 5, 3) := by decide +kernel
theorem dX9_kind_33 : decode cX9_kind 33 = .ok (.iconst 0, 1) := by decide +kernel
theorem dX9_kind_34 : decode cX9_kind 34 = .ok (.ireturn, 1) := by decide +kernel
theorem dX9_kind_35 : decode cX9_kind 35 = .ok (.aload_n 0, 1) := by decide +kernel
theorem dX9_kind_36 : decode cX9_kind 36 = .ok (.invokevirtual 420, 3) := by decide +kernel
theorem dX9_kind_39 : decode cX9_kind 39 = .ok (.aload_n 0, 1) := by decide +kernel
theorem dX9_kind_40 : decode cX9_kind 40 = .ok (.aload_n 0, 1) := by decide +kernel
theorem dX9_kind_41 : decode cX9_kind 41 = .ok (.iload_n 2, 1) := by decide +kernel
theorem dX9_kind_42 : decode cX9_kind 42 = .ok (.ifCond .eq 7, 3) := by decide +kernel
theorem dX9_kind_45 : decode cX9_kind 45 = .ok (.iconst 2, 1) := by decide +kernel
theorem dX9_kind_46 : decode cX9_kind 46 = .ok (.goto 4, 3) := by decide +kernel
theorem dX9_kind_49 : decode cX9_kind 49 = .ok (.iconst 1, 1) := by decide +kernel
theorem dX9_kind_50 : decode cX9_kind 50 = .ok (.iload_n 1, 1) := by decide +kernel
theorem dX9_kind_51 : decode cX9_kind 51 = .ok (.invokevirtual 361, 3) := by decide +kernel
theorem dX9_kind_54 : decode cX9_kind 54 = .ok (.iconst 0, 1) := by decide +kernel
theorem dX9_kind_55 : decode cX9_kind 55 = .ok (.invokevirtual 429, 3) := by decide +kernel
theorem dX9_kind_58 : decode cX9_kind 58 = .ok (.ifCond .eq 10, 3) := by decide +kernel
theorem dX9_kind_61 : decode cX9_kind 61 = .ok (.aload_n 0, 1) := by decide +kernel
theorem dX9_kind_62 : decode cX9_kind 62 = .ok (.getfield 204, 3) := by decide +kernel
theorem dX9_kind_65 : decode cX9_kind 65 = .ok (.goto 4, 3) := by decide +kernel
theorem dX9_kind_68 : decode cX9_kind 68 = .ok (.iconst 0, 1) := by decide +kernel
theorem dX9_kind_69 : decode cX9_kind 69 = .ok (.ireturn, 1) := by decide +kernel
theorem dX9_knownOf_0 : decode cX9_knownOf 0 = .ok (.iconst 0, 1) := by decide +kernel
theorem dX9_knownOf_1 : decode cX9_knownOf 1 = .ok (.istore_n 2, 1) := by decide +kernel
theorem dX9_knownOf_2 : decode cX9_knownOf 2 = .ok (.iload_n 2, 1) := by decide +kernel
theorem dX9_knownOf_3 : decode cX9_knownOf 3 = .ok (.aload_n 0, 1) := by decide +kernel
theorem dX9_knownOf_4 : decode cX9_knownOf 4 = .ok (.getfield 7, 3) := by decide +kernel
theorem dX9_knownOf_7 : decode cX9_knownOf 7 = .ok (.bipush 42, 2) := by decide +kernel
theorem dX9_knownOf_9 : decode cX9_knownOf 9 = .ok (.iaload, 1) := by decide +kernel
theorem dX9_knownOf_10 : decode cX9_knownOf 10 = .ok (.if_icmp .ge 107, 3) := by decide +kernel
theorem dX9_knownOf_13 : decode cX9_knownOf 13 = .ok (.sipush 2883, 3) := by decide +kernel
theorem dX9_knownOf_16 : decode cX9_knownOf 16 = .ok (.bipush 122, 2) := by decide +kernel
theorem dX9_knownOf_18 : decode cX9_knownOf 18 = .ok (.iload_n 2, 1) := by decide +kernel
theorem dX9_knownOf_19 : decode cX9_knownOf 19 = .ok (.imul, 1) := by decide +kernel
theorem dX9_knownOf_20 : decode cX9_knownOf 20 = .ok (.iadd, 1) := by decide +kernel
theorem dX9_knownOf_21 : decode cX9_knownOf 21 = .ok (.istore_n 3, 1) := by decide +kernel
theorem dX9_knownOf_22 : decode cX9_knownOf 22 = .ok (.aload_n 0, 1) := by decide +kernel
theorem dX9_knownOf_23 : decode cX9_knownOf 23 = .ok (.getfield 7, 3) := by decide +kernel
theorem dX9_knownOf_26 : decode cX9_knownOf 26 = .ok (.iload_n 3, 1) := by decide +kernel
theorem dX9_knownOf_27 : decode cX9_knownOf 27 = .ok (.iaload, 1) := by decide +kernel
theorem dX9_knownOf_28 : decode cX9_knownOf 28 = .ok (.aload_n 0, 1) := by decide +kernel
theorem dX9_knownOf_29 : decode cX9_knownOf 29 = .ok (.getfield 105, 3) := by decide +kernel
theorem dX9_knownOf_32 : decode cX9_knownOf 32 = .ok (.iload_n 1, 1) := by decide +kernel
theorem dX9_knownOf_33 : decode cX9_knownOf 33 = .ok (.iaload, 1) := by decide +kernel
theorem dX9_knownOf_34 : decode cX9_knownOf 34 = .ok (.if_icmp .ne 7, 3) := by decide +kernel
theorem dX9_knownOf_37 : decode cX9_knownOf 37 = .ok (.iconst 1, 1) := by decide +kernel
theorem dX9_knownOf_38 : decode cX9_knownOf 38 = .ok (.goto 4, 3) := by decide +kernel
theorem dX9_knownOf_41 : decode cX9_knownOf 41 = .ok (.iconst 0, 1) := by decide +kernel
theorem dX9_knownOf_42 : decode cX9_knownOf 42 = .ok (.istore 4, 2) := by decide +kernel
theorem dX9_knownOf_44 : decode cX9_knownOf 44 = .ok (.iconst 0, 1) := by decide +kernel
theorem dX9_knownOf_45 : decode cX9_knownOf 45 = .ok (.istore 5, 2) := by decide +kernel
theorem dX9_knownOf_47 : decode cX9_knownOf 47 = .ok (.iload 5, 2) := by decide +kernel
theorem dX9_knownOf_49 : decode cX9_knownOf 49 = .ok (.aload_n 0, 1) := by decide +kernel
theorem dX9_knownOf_50 : decode cX9_knownOf 50 = .ok (.getfield 105, 3) := by decide +kernel
theorem dX9_knownOf_53 : decode cX9_knownOf 53 = .ok (.iload_n 1, 1) := by decide +kernel
theorem dX9_knownOf_54 : decode cX9_knownOf 54 = .ok (.iaload, 1) := by decide +kernel
theorem dX9_knownOf_55 : decode cX9_knownOf 55 = .ok (.if_icmp .ge 49, 3) := by decide +kernel
theorem dX9_knownOf_58 : decode cX9_knownOf 58 = .ok (.iload 4, 2) := by decide +kernel
theorem dX9_knownOf_60 : decode cX9_knownOf 60 = .ok (.ifCond .eq 44, 3) := by decide +kernel
theorem dX9_knownOf_63 : decode cX9_knownOf 63 = .ok (.aload_n 0, 1) := by decide +kernel
theorem dX9_knownOf_64 : decode cX9_knownOf 64 = .ok (.getfield 7, 3) := by decide +kernel
theorem dX9_knownOf_67 : decode cX9_knownOf 67 = .ok (.iload_n 3, 1) := by decide +kernel
theorem dX9_knownOf_68 : decode cX9_knownOf 68 = .ok (.iconst 1, 1) := by decide +kernel
theorem dX9_knownOf_69 : decode cX9_knownOf 69 = .ok (.iadd, 1) := by decide +kernel
theorem dX9_knownOf_70 : decode cX9_knownOf 70 = .ok (.iload 5, 2) := by decide +kernel
theorem dX9_knownOf_72 : decode cX9_knownOf 72 = .ok (.iadd, 1) := by decide +kernel
theorem dX9_knownOf_73 : decode cX9_knownOf 73 = .ok (.iaload, 1) := by decide +kernel
theorem dX9_knownOf_74 : decode cX9_knownOf 74 = .ok (.aload_n 0, 1) := by decide +kernel
theorem dX9_knownOf_75 : decode cX9_knownOf 75 = .ok (.getfield 108, 3) := by decide +kernel
theorem dX9_knownOf_78 : decode cX9_knownOf 78 = .ok (.aload_n 0, 1) := by decide +kernel
theorem dX9_knownOf_79 : decode cX9_knownOf 79 = .ok (.getfield 102, 3) := by decide +kernel
theorem dX9_knownOf_82 : decode cX9_knownOf 82 = .ok (.iload_n 1, 1) := by decide +kernel
theorem dX9_knownOf_83 : decode cX9_knownOf 83 = .ok (.iaload, 1) := by decide +kernel
theorem dX9_knownOf_84 : decode cX9_knownOf 84 = .ok (.iload 5, 2) := by decide +kernel
theorem dX9_knownOf_86 : decode cX9_knownOf 86 = .ok (.iadd, 1) := by decide +kernel
theorem dX9_knownOf_87 : decode cX9_knownOf 87 = .ok (.iaload, 1) := by decide +kernel
theorem dX9_knownOf_88 : decode cX9_knownOf 88 = .ok (.if_icmp .ne 7, 3) := by decide +kernel
theorem dX9_knownOf_91 : decode cX9_knownOf 91 = .ok (.iconst 1, 1) := by decide +kernel
theorem dX9_knownOf_92 : decode cX9_knownOf 92 = .ok (.goto 4, 3) := by decide +kernel
theorem dX9_knownOf_95 : decode cX9_knownOf 95 = .ok (.iconst 0, 1) := by decide +kernel
theorem dX9_knownOf_96 : decode cX9_knownOf 96 = .ok (.istore 4, 2) := by decide +kernel
theorem dX9_knownOf_98 : decode cX9_knownOf 98 = .ok (.iinc 5 1, 3) := by decide +kernel
theorem dX9_knownOf_101 : decode cX9_knownOf 101 = .ok (.goto (-54), 3) := by decide +kernel
theorem dX9_knownOf_104 : decode cX9_knownOf 104 = .ok (.iload 4, 2) := by decide +kernel
theorem dX9_knownOf_106 : decode cX9_knownOf 106 = .ok (.ifCond .eq 5, 3) := by decide +kernel
theorem dX9_knownOf_109 : decode cX9_knownOf 109 = .ok (.iload_n 2, 1) := by decide +kernel
theorem dX9_knownOf_110 : decode cX9_knownOf 110 = .ok (.ireturn, 1) := by decide +kernel
theorem dX9_knownOf_111 : decode cX9_knownOf 111 = .ok (.iinc 2 1, 3) := by decide +kernel
theorem dX9_knownOf_114 : decode cX9_knownOf 114 = .ok (.goto (-112), 3) := by decide +kernel
theorem dX9_knownOf_117 : decode cX9_knownOf 117 = .ok (.iconst (-1), 1) := by decide +kernel
theorem dX9_knownOf_118 : decode cX9_knownOf 118 = .ok (.ireturn, 1) := by decide +kernel
theorem dX9_like_0 : decode cX9_like 0 = .ok (.aload_n 0, 1) := by decide +kernel
theorem dX9_like_1 : decode cX9_like 1 = .ok (.aload_n 0, 1) := by decide +kernel
theorem dX9_like_2 : decode cX9_like 2 = .ok (.iload_n 1, 1) := by decide +kernel
theorem dX9_like_3 : decode cX9_like 3 = .ok (.invokevirtual 293, 3) := by decide +kernel
theorem dX9_like_6 : decode cX9_like 6 = .ok (.ifCond .eq 7, 3) := by decide +kernel
theorem dX9_like_9 : decode cX9_like 9 = .ok (.iconst 0, 1) := by decide +kernel
theorem dX9_like_10 : decode cX9_like 10 = .ok (.goto 4, 3) := by decide +kernel
theorem dX9_like_13 : decode cX9_like 13 = .ok (.iconst 1, 1) := by decide +kernel
theorem dX9_like_14 : decode cX9_like 14 = .ok (.putfield 138, 3) := by decide +kernel
theorem dX9_like_17 : decode cX9_like 17 = .ok (.aload_n 0, 1) := by decide +kernel
theorem dX9_like_18 : decode cX9_like 18 = .ok (.getfield 138, 3) := by decide +kernel
theorem dX9_like_21 : decode cX9_like 21 = .ok (.ifCond .le 5, 3) := by decide +kernel
theorem dX9_like_24 : decode cX9_like 24 = .ok (.iconst 0, 1) := by decide +kernel
theorem dX9_like_25 : decode cX9_like 25 = .ok (.ireturn, 1) := by decide +kernel
theorem dX9_like_26 : decode cX9_like 26 = .ok (.iconst 0, 1) := by decide +kernel
theorem dX9_like_27 : decode cX9_like 27 = .ok (.istore_n 3, 1) := by decide +kernel
theorem dX9_like_28 : decode cX9_like 28 = .ok (.iconst 0, 1) := by decide +kernel
theorem dX9_like_29 : decode cX9_like 29 = .ok (.istore 4, 2) := by decide +kernel
theorem dX9_like_31 : decode cX9_like 31 = .ok (.iload 4, 2) := by decide +kernel
theorem dX9_like_33 : decode cX9_like 33 = .ok (.aload_n 0, 1) := by decide +kernel
theorem dX9_like_34 : decode cX9_like 34 = .ok (.getfield 204, 3) := by decide +kernel
theorem dX9_like_37 : decode cX9_like 37 = .ok (.if_icmp .ge 33, 3) := by decide +kernel
theorem dX9_like_40 : decode cX9_like 40 = .ok (.aload_n 0, 1) := by decide +kernel
theorem dX9_like_41 : decode cX9_like 41 = .ok (.iload_n 1, 1) := by decide +kernel
theorem dX9_like_42 : decode cX9_like 42 = .ok (.iload 4, 2) := by decide +kernel
theorem dX9_like_44 : decode cX9_like 44 = .ok (.invokevirtual 309, 3) := by decide +kernel
theorem dX9_like_47 : decode cX9_like 47 = .ok (.ifCond .ne 6, 3) := by decide +kernel
theorem dX9_like_50 : decode cX9_like 50 = .ok (.goto 14, 3) := by decide +kernel
theorem dX9_like_53 : decode cX9_like 53 = .ok (.iload_n 3, 1) := by decide +kernel
theorem dX9_like_54 : decode cX9_like 54 = .ok (.iload_n 2, 1) := by decide +kernel
theorem dX9_like_55 : decode cX9_like 55 = .ok (.if_icmp .ne 6, 3) := by decide +kernel
theorem dX9_like_58 : decode cX9_like 58 = .ok (.iload 4, 2) := by decide +kernel
theorem dX9_like_60 : decode cX9_like 60 = .ok (.ireturn, 1) := by decide +kernel
theorem dX9_like_61 : decode cX9_like 61 = .ok (.iinc 3 1, 3) := by decide +kernel
theorem dX9_like_64 : decode cX9_like 64 = .ok (.iinc 4 1, 3) := by decide +kernel
theorem dX9_like_67 : decode cX9_like 67 = .ok (.goto (-36), 3) := by decide +kernel
theorem dX9_like_70 : decode cX9_like 70 = .ok (.iconst (-1), 1) := by decide +kernel
theorem dX9_like_71 : decode cX9_like 71 = .ok (.ireturn, 1) := by decide +kernel
theorem dX9_likeMany_0 : decode cX9_likeMany 0 = .ok (.iconst 0, 1) := by decide +kernel
theorem dX9_likeMany_1 : decode cX9_likeMany 1 = .ok (.istore_n 2, 1) := by decide +kernel
theorem dX9_likeMany_2 : decode cX9_likeMany 2 = .ok (.iconst 0, 1) := by decide +kernel
theorem dX9_likeMany_3 : decode cX9_likeMany 3 = .ok (.istore_n 3, 1) := by decide +kernel
theorem dX9_likeMany_4 : decode cX9_likeMany 4 = .ok (.iload_n 3, 1) := by decide +kernel
theorem dX9_likeMany_5 : decode cX9_likeMany 5 = .ok (.aload_n 0, 1) := by decide +kernel
theorem dX9_likeMany_6 : decode cX9_likeMany 6 = .ok (.getfield 204, 3) := by decide +kernel
theorem dX9_likeMany_9 : decode cX9_likeMany 9 = .ok (.if_icmp .ge 26, 3) := by decide +kernel
theorem dX9_likeMany_12 : decode cX9_likeMany 12 = .ok (.iload_n 2, 1) := by decide +kernel
theorem dX9_likeMany_13 : decode cX9_likeMany 13 = .ok (.aload_n 0, 1) := by decide +kernel
theorem dX9_likeMany_14 : decode cX9_likeMany 14 = .ok (.iload_n 1, 1) := by decide +kernel
theorem dX9_likeMany_15 : decode cX9_likeMany 15 = .ok (.iload_n 3, 1) := by decide +kernel
theorem dX9_likeMany_16 : decode cX9_likeMany 16 = .ok (.invokevirtual 309, 3) := by decide +kernel
theorem dX9_likeMany_19 : decode cX9_likeMany 19 = .ok (.ifCond .eq 7, 3) := by decide +kernel
theorem dX9_likeMany_22 : decode cX9_likeMany 22 = .ok (.iconst 1, 1) := by decide +kernel
theorem dX9_likeMany_23 : decode cX9_likeMany 23 = .ok (.goto 4, 3) := by decide +kernel
theorem dX9_likeMany_26 : decode cX9_likeMany 26 = .ok (.iconst 0, 1) := by decide +kernel
theorem dX9_likeMany_27 : decode cX9_likeMany 27 = .ok (.iadd, 1) := by decide +kernel
theorem dX9_likeMany_28 : decode cX9_likeMany 28 = .ok (.istore_n 2, 1) := by decide +kernel
theorem dX9_likeMany_29 : decode cX9_likeMany 29 = .ok (.iinc 3 1, 3) := by decide +kernel
theorem dX9_likeMany_32 : decode cX9_likeMany 32 = .ok (.goto (-28), 3) := by decide +kernel
theorem dX9_likeMany_35 : decode cX9_likeMany 35 = .ok (.iload_n 2, 1) := by decide +kernel
theorem dX9_likeMany_36 : decode cX9_likeMany 36 = .ok (.ireturn, 1) := by decide +kernel
theorem dX9_lock_0 : decode cX9_lock 0 = .ok (.aload_n 0, 1) := by decide +kernel
theorem dX9_lock_1 : decode cX9_lock 1 = .ok (.invokevirtual 426, 3) := by decide +kernel
theorem dX9_lock_4 : decode cX9_lock 4 = .ok (.istore_n 1, 1) := by decide +kernel
theorem dX9_lock_5 : decode cX9_lock 5 = .ok (.aload_n 0, 1) := by decide +kernel
theorem dX9_lock_6 : decode cX9_lock 6 = .ok (.aload_n 0, 1) := by decide +kernel
theorem dX9_lock_7 : decode cX9_lock 7 = .ok (.iload_n 1, 1) := by decide +kernel
theorem dX9_lock_8 : decode cX9_lock 8 = .ok (.invokevirtual 432, 3) := by decide +kernel
theorem dX9_lock_11 : decode cX9_lock 11 = .ok (.ifCond .eq 7, 3) := by decide +kernel
theorem dX9_lock_14 : decode cX9_lock 14 = .ok (.iconst 0, 1) := by decide +kernel
theorem dX9_lock_15 : decode cX9_lock 15 = .ok (.goto 4, 3) := by decide +kernel
theorem dX9_lock_18 : decode cX9_lock 18 = .ok (.iconst 1, 1) := by decide +kernel
theorem dX9_lock_19 : decode cX9_lock 19 = .ok (.putfield 138, 3) := by decide +kernel
theorem dX9_lock_22 : decode cX9_lock 22 = .ok (.aload_n 0, 1) := by decide +kernel
theorem dX9_lock_23 : decode cX9_lock 23 = .ok (.getfield 138, 3) := by decide +kernel
theorem dX9_lock_26 : decode cX9_lock 26 = .ok (.ifCond .le 5, 3) := by decide +kernel
theorem dX9_lock_29 : decode cX9_lock 29 = .ok (.iconst 0, 1) := by decide +kernel
theorem dX9_lock_30 : decode cX9_lock 30 = .ok (.ireturn, 1) := by decide +kernel
theorem dX9_lock_31 : decode cX9_lock 31 = .ok (.aload_n 0, 1) := by decide +kernel
theorem dX9_lock_32 : decode cX9_lock 32 = .ok (.invokevirtual 420, 3) := by decide +kernel
theorem dX9_lock_35 : decode cX9_lock 35 = .ok (.aload_n 0, 1) := by decide +kernel
theorem dX9_lock_36 : decode cX9_lock 36 = .ok (.aload_n 0, 1) := by decide +kernel
theorem dX9_lock_37 : decode cX9_lock 37 = .ok (.iconst 0, 1) := by decide +kernel
theorem dX9_lock_38 : decode cX9_lock 38 = .ok (.iload_n 1, 1) := by decide +kernel
theorem dX9_lock_39 : decode cX9_lock 39 = .ok (.invokevirtual 355, 3) := by decide +kernel
theorem dX9_lock_42 : decode cX9_lock 42 = .ok (.iconst 2, 1) := by decide +kernel
theorem dX9_lock_43 : decode cX9_lock 43 = .ok (.invokevirtual 429, 3) := by decide +kernel
theorem dX9_lock_46 : decode cX9_lock 46 = .ok (.ifCond .eq 10, 3) := by decide +kernel
theorem dX9_lock_49 : decode cX9_lock 49 = .ok (.aload_n 0, 1) := by decide +kernel
theorem dX9_lock_50 : decode cX9_lock 50 = .ok (.getfield 204, 3) := by decide +kernel
theorem dX9_lock_53 : decode cX9_lock 53 = .ok (.goto 4, 3) := by decide +kernel
theorem dX9_lock_56 : decode cX9_lock 56 = .ok (.iconst 0, 1) := by decide +kernel
theorem dX9_lock_57 : decode cX9_lock 57 = .ok (.ireturn, 1) := by decide +kernel
theorem dX9_lock0_0 : decode cX9_lock0 0 = .ok (.aload_n 0, 1) := by decide +kernel
theorem dX9_lock0_1 : decode cX9_lock0 1 = .ok (.getfield 7, 3) := by decide +kernel
theorem dX9_lock0_4 : decode cX9_lock0 4 = .ok (.iconst 5, 1) := by decide +kernel
theorem dX9_lock0_5 : decode cX9_lock0 5 = .ok (.iaload, 1) := by decide +kernel
theorem dX9_lock0_6 : decode cX9_lock0 6 = .ok (.iconst 4, 1) := by decide +kernel
theorem dX9_lock0_7 : decode cX9_lock0 7 = .ok (.if_icmp .ne 6, 3) := by decide +kernel
theorem dX9_lock0_10 : decode cX9_lock0 10 = .ok (.bipush 6, 2) := by decide +kernel
theorem dX9_lock0_12 : decode cX9_lock0 12 = .ok (.ireturn, 1) := by decide +kernel
theorem dX9_lock0_13 : decode cX9_lock0 13 = .ok (.iconst 0, 1) := by decide +kernel
theorem dX9_lock0_14 : decode cX9_lock0 14 = .ok (.istore_n 3, 1) := by decide +kernel
theorem dX9_lock0_15 : decode cX9_lock0 15 = .ok (.iload_n 3, 1) := by decide +kernel
theorem dX9_lock0_16 : decode cX9_lock0 16 = .ok (.aload_n 0, 1) := by decide +kernel
theorem dX9_lock0_17 : decode cX9_lock0 17 = .ok (.getfield 7, 3) := by decide +kernel
theorem dX9_lock0_20 : decode cX9_lock0 20 = .ok (.iconst 5, 1) := by decide +kernel
theorem dX9_lock0_21 : decode cX9_lock0 21 = .ok (.iaload, 1) := by decide +kernel
theorem dX9_lock0_22 : decode cX9_lock0 22 = .ok (.if_icmp .ge 96, 3) := by decide +kernel
theorem dX9_lock0_25 : decode cX9_lock0 25 = .ok (.aload_n 0, 1) := by decide +kernel
theorem dX9_lock0_26 : decode cX9_lock0 26 = .ok (.getfield 7, 3) := by decide +kernel
theorem dX9_lock0_29 : decode cX9_lock0 29 = .ok (.bipush 6, 2) := by decide +kernel
theorem dX9_lock0_31 : decode cX9_lock0 31 = .ok (.bipush 9, 2) := by decide +kernel
theorem dX9_lock0_33 : decode cX9_lock0 33 = .ok (.iload_n 3, 1) := by decide +kernel
theorem dX9_lock0_34 : decode cX9_lock0 34 = .ok (.imul, 1) := by decide +kernel
theorem dX9_lock0_35 : decode cX9_lock0 35 = .ok (.iadd, 1) := by decide +kernel
theorem dX9_lock0_36 : decode cX9_lock0 36 = .ok (.iaload, 1) := by decide +kernel
theorem dX9_lock0_37 : decode cX9_lock0 37 = .ok (.iload_n 2, 1) := by decide +kernel
theorem dX9_lock0_38 : decode cX9_lock0 38 = .ok (.if_icmp .ne 7, 3) := by decide +kernel
theorem dX9_lock0_41 : decode cX9_lock0 41 = .ok (.iconst 1, 1) := by decide +kernel
theorem dX9_lock0_42 : decode cX9_lock0 42 = .ok (.goto 4, 3) := by decide +kernel
theorem dX9_lock0_45 : decode cX9_lock0 45 = .ok (.iconst 0, 1) := by decide +kernel
theorem dX9_lock0_46 : decode cX9_lock0 46 = .ok (.istore 4, 2) := by decide +kernel
theorem dX9_lock0_48 : decode cX9_lock0 48 = .ok (.iconst 0, 1) := by decide +kernel
theorem dX9_lock0_49 : decode cX9_lock0 49 = .ok (.istore 5, 2) := by decide +kernel
theorem dX9_lock0_51 : decode cX9_lock0 51 = .ok (.iload 5, 2) := by decide +kernel
theorem dX9_lock0_53 : decode cX9_lock0 53 = .ok (.iload_n 2, 1) := by decide +kernel
theorem dX9_lock0_54 : decode cX9_lock0 54 = .ok (.if_icmp .ge 50, 3) := by decide +kernel
theorem dX9_lock0_57 : decode cX9_lock0 57 = .ok (.iload 4, 2) := by decide +kernel
theorem dX9_lock0_59 : decode cX9_lock0 59 = .ok (.ifCond .eq 45, 3) := by decide +kernel
theorem dX9_lock0_62 : decode cX9_lock0 62 = .ok (.aload_n 0, 1) := by decide +kernel
theorem dX9_lock0_63 : decode cX9_lock0 63 = .ok (.getfield 7, 3) := by decide +kernel
theorem dX9_lock0_66 : decode cX9_lock0 66 = .ok (.bipush 6, 2) := by decide +kernel
theorem dX9_lock0_68 : decode cX9_lock0 68 = .ok (.bipush 9, 2) := by decide +kernel
theorem dX9_lock0_70 : decode cX9_lock0 70 = .ok (.iload_n 3, 1) := by decide +kernel
theorem dX9_lock0_71 : decode cX9_lock0 71 = .ok (.imul, 1) := by decide +kernel
theorem dX9_lock0_72 : decode cX9_lock0 72 = .ok (.iadd, 1) := by decide +kernel
theorem dX9_lock0_73 : decode cX9_lock0 73 = .ok (.iconst 1, 1) := by decide +kernel
theorem dX9_lock0_74 : decode cX9_lock0 74 = .ok (.iadd, 1) := by decide +kernel
theorem dX9_lock0_75 : decode cX9_lock0 75 = .ok (.iload 5, 2) := by decide +kernel
theorem dX9_lock0_77 : decode cX9_lock0 77 = .ok (.iadd, 1) := by decide +kernel
theorem dX9_lock0_78 : decode cX9_lock0 78 = .ok (.iaload, 1) := by decide +kernel
theorem dX9_lock0_79 : decode cX9_lock0 79 = .ok (.aload_n 0, 1) := by decide +kernel
theorem dX9_lock0_80 : decode cX9_lock0 80 = .ok (.getfield 23, 3) := by decide +kernel
theorem dX9_lock0_83 : decode cX9_lock0 83 = .ok (.iload_n 1, 1) := by decide +kernel
theorem dX9_lock0_84 : decode cX9_lock0 84 = .ok (.iload 5, 2) := by decide +kernel
theorem dX9_lock0_86 : decode cX9_lock0 86 = .ok (.iadd, 1) := by decide +kernel
theorem dX9_lock0_87 : decode cX9_lock0 87 = .ok (.iaload, 1) := by decide +kernel
theorem dX9_lock0_88 : decode cX9_lock0 88 = .ok (.if_icmp .ne 7, 3) := by decide +kernel
theorem dX9_lock0_91 : decode cX9_lock0 91 = .ok (.iconst 1, 1) := by decide +kernel
theorem dX9_lock0_92 : decode cX9_lock0 92 = .ok (.goto 4, 3) := by decide +kernel
theorem dX9_lock0_95 : decode cX9_lock0 95 = .ok (.iconst 0, 1) := by decide +kernel
theorem dX9_lock0_96 : decode cX9_lock0 96 = .ok (.istore 4, 2) := by decide +kernel
theorem dX9_lock0_98 : decode cX9_lock0 98 = .ok (.iinc 5 1, 3) := by decide +kernel
theorem dX9_lock0_101 : decode cX9_lock0 101 = .ok (.goto (-50), 3) := by decide +kernel
theorem dX9_lock0_104 : decode cX9_lock0 104 = .ok (.iload 4, 2) := by decide +kernel
theorem dX9_lock0_106 : decode cX9_lock0 106 = .ok (.ifCond .eq 6, 3) := by decide +kernel
theorem dX9_lock0_109 : decode cX9_lock0 109 = .ok (.bipush 7, 2) := by decide +kernel
theorem dX9_lock0_111 : decode cX9_lock0 111 = .ok (.ireturn, 1) := by decide +kernel
theorem dX9_lock0_112 : decode cX9_lock0 112 = .ok (.iinc 3 1, 3) := by decide +kernel
theorem dX9_lock0_115 : decode cX9_lock0 115 = .ok (.goto (-100), 3) := by decide +kernel
theorem dX9_lock0_118 : decode cX9_lock0 118 = .ok (.bipush 6, 2) := by decide +kernel
theorem dX9_lock0_120 : decode cX9_lock0 120 = .ok (.bipush 9, 2) := by decide +kernel
theorem dX9_lock0_122 : decode cX9_lock0 122 = .ok (.aload_n 0, 1) := by decide +kernel
theorem dX9_lock0_123 : decode cX9_lock0 123 = .ok (.getfield 7, 3) := by decide +kernel
theorem dX9_lock0_126 : decode cX9_lock0 126 = .ok (.iconst 5, 1) := by decide +kernel
theorem dX9_lock0_127 : decode cX9_lock0 127 = .ok (.iaload, 1) := by decide +kernel
theorem dX9_lock0_128 : decode cX9_lock0 128 = .ok (.imul, 1) := by decide +kernel
theorem dX9_lock0_129 : decode cX9_lock0 129 = .ok (.iadd, 1) := by decide +kernel
theorem dX9_lock0_130 : decode cX9_lock0 130 = .ok (.istore_n 3, 1) := by decide +kernel
theorem dX9_lock0_131 : decode cX9_lock0 131 = .ok (.aload_n 0, 1) := by decide +kernel
theorem dX9_lock0_132 : decode cX9_lock0 132 = .ok (.getfield 7, 3) := by decide +kernel
theorem dX9_lock0_135 : decode cX9_lock0 135 = .ok (.iload_n 3, 1) := by decide +kernel
theorem dX9_lock0_136 : decode cX9_lock0 136 = .ok (.iload_n 2, 1) := by decide +kernel
theorem dX9_lock0_137 : decode cX9_lock0 137 = .ok (.iastore, 1) := by decide +kernel
theorem dX9_lock0_138 : decode cX9_lock0 138 = .ok (.iconst 0, 1) := by decide +kernel
theorem dX9_lock0_139 : decode cX9_lock0 139 = .ok (.istore 4, 2) := by decide +kernel
theorem dX9_lock0_141 : decode cX9_lock0 141 = .ok (.iload 4, 2) := by decide +kernel
theorem dX9_lock0_143 : decode cX9_lock0 143 = .ok (.iload_n 2, 1) := by decide +kernel
theorem dX9_lock0_144 : decode cX9_lock0 144 = .ok (.if_icmp .ge 29, 3) := by decide +kernel
theorem dX9_lock0_147 : decode cX9_lock0 147 = .ok (.aload_n 0, 1) := by decide +kernel
theorem dX9_lock0_148 : decode cX9_lock0 148 = .ok (.getfield 7, 3) := by decide +kernel
theorem dX9_lock0_151 : decode cX9_lock0 151 = .ok (.iload_n 3, 1) := by decide +kernel
theorem dX9_lock0_152 : decode cX9_lock0 152 = .ok (.iconst 1, 1) := by decide +kernel
theorem dX9_lock0_153 : decode cX9_lock0 153 = .ok (.iadd, 1) := by decide +kernel
theorem dX9_lock0_154 : decode cX9_lock0 154 = .ok (.iload 4, 2) := by decide +kernel
theorem dX9_lock0_156 : decode cX9_lock0 156 = .ok (.iadd, 1) := by decide +kernel
theorem dX9_lock0_157 : decode cX9_lock0 157 = .ok (.aload_n 0, 1) := by decide +kernel
theorem dX9_lock0_158 : decode cX9_lock0 158 = .ok (.getfield 23, 3) := by decide +kernel
theorem dX9_lock0_161 : decode cX9_lock0 161 = .ok (.iload_n 1, 1) := by decide +kernel
theorem dX9_lock0_162 : decode cX9_lock0 162 = .ok (.iload 4, 2) := by decide +kernel
theorem dX9_lock0_164 : decode cX9_lock0 164 = .ok (.iadd, 1) := by decide +kernel
theorem dX9_lock0_165 : decode cX9_lock0 165 = .ok (.iaload, 1) := by decide +kernel
theorem dX9_lock0_166 : decode cX9_lock0 166 = .ok (.iastore, 1) := by decide +kernel
theorem dX9_lock0_167 : decode cX9_lock0 167 = .ok (.iinc 4 1, 3) := by decide +kernel
theorem dX9_lock0_170 : decode cX9_lock0 170 = .ok (.goto (-29), 3) := by decide +kernel
theorem dX9_lock0_173 : decode cX9_lock0 173 = .ok (.aload_n 0, 1) := by decide +kernel
theorem dX9_lock0_174 : decode cX9_lock0 174 = .ok (.getfield 7, 3) := by decide +kernel
theorem dX9_lock0_177 : decode cX9_lock0 177 = .ok (.iconst 5, 1) := by decide +kernel
theorem dX9_lock0_178 : decode cX9_lock0 178 = .ok (.dup2, 1) := by decide +kernel
theorem dX9_lock0_179 : decode cX9_lock0 179 = .ok (.iaload, 1) := by decide +kernel
theorem dX9_lock0_180 : decode cX9_lock0 180 = .ok (.iconst 1, 1) := by decide +kernel
theorem dX9_lock0_181 : decode cX9_lock0 181 = .ok (.iadd, 1) := by decide +kernel
theorem dX9_lock0_182 : decode cX9_lock0 182 = .ok (.iastore, 1) := by decide +kernel
theorem dX9_lock0_183 : decode cX9_lock0 183 = .ok (.aload_n 0, 1) := by decide +kernel
theorem dX9_lock0_184 : decode cX9_lock0 184 = .ok (.invokevirtual 322, 3) := by decide +kernel
theorem dX9_lock0_187 : decode cX9_lock0 187 = .ok (.iconst 0, 1) := by decide +kernel
theorem dX9_lock0_188 : decode cX9_lock0 188 = .ok (.ireturn, 1) := by decide +kernel
theorem dX9_lockText_0 : decode cX9_lockText 0 = .ok (.aload_n 0, 1) := by decide +kernel
theorem dX9_lockText_1 : decode cX9_lockText 1 = .ok (.invokevirtual 349, 3) := by decide +kernel
theorem dX9_lockText_4 : decode cX9_lockText 4 = .ok (.istore_n 1, 1) := by decide +kernel
theorem dX9_lockText_5 : decode cX9_lockText 5 = .ok (.iload_n 1, 1) := by decide +kernel
theorem dX9_lockText_6 : decode cX9_lockText 6 = .ok (.aload_n 0, 1) := by decide +kernel
theorem dX9_lockText_7 : decode cX9_lockText 7 = .ok (.getfield 340, 3) := by decide +kernel
theorem dX9_lockText_10 : decode cX9_lockText 10 = .ok (.isub, 1) := by decide +kernel
theorem dX9_lockText_11 : decode cX9_lockText 11 = .ok (.istore_n 2, 1) := by decide +kernel
theorem dX9_lockText_12 : decode cX9_lockText 12 = .ok (.iload_n 2, 1) := by decide +kernel
theorem dX9_lockText_13 : decode cX9_lockText 13 = .ok (.iconst 1, 1) := by decide +kernel
theorem dX9_lockText_14 : decode cX9_lockText 14 = .ok (.bipush 8, 2) := by decide +kernel
theorem dX9_lockText_16 : decode cX9_lockText 16 = .ok (.invokestatic 141, 3) := by decide +kernel
theorem dX9_lockText_19 : decode cX9_lockText 19 = .ok (.ifCond .ne 11, 3) := by decide +kernel
theorem dX9_lockText_22 : decode cX9_lockText 22 = .ok (.aload_n 0, 1) := by decide +kernel
theorem dX9_lockText_23 : decode cX9_lockText 23 = .ok (.aload_n 0, 1) := by decide +kernel
theorem dX9_lockText_24 : decode cX9_lockText 24 = .ok (.getfield 340, 3) := by decide +kernel
theorem dX9_lockText_27 : decode cX9_lockText 27 = .ok (.invokevirtual 352, 3) := by decide +kernel
theorem dX9_lockText_30 : decode cX9_lockText 30 = .ok (.aload_n 0, 1) := by decide +kernel
theorem dX9_lockText_31 : decode cX9_lockText 31 = .ok (.getfield 26, 3) := by decide +kernel
theorem dX9_lockText_34 : decode cX9_lockText 34 = .ok (.iconst (-1), 1) := by decide +kernel
theorem dX9_lockText_35 : decode cX9_lockText 35 = .ok (.if_icmp .eq 5, 3) := by decide +kernel
theorem dX9_lockText_38 : decode cX9_lockText 38 = .ok (.iconst 0, 1) := by decide +kernel
theorem dX9_lockText_39 : decode cX9_lockText 39 = .ok (.ireturn, 1) := by decide +kernel
theorem dX9_lockText_40 : decode cX9_lockText 40 = .ok (.aload_n 0, 1) := by decide +kernel
theorem dX9_lockText_41 : decode cX9_lockText 41 = .ok (.getfield 340, 3) := by decide +kernel
theorem dX9_lockText_44 : decode cX9_lockText 44 = .ok (.istore_n 3, 1) := by decide +kernel
theorem dX9_lockText_45 : decode cX9_lockText 45 = .ok (.aload_n 0, 1) := by decide +kernel
theorem dX9_lockText_46 : decode cX9_lockText 46 = .ok (.iload_n 1, 1) := by decide +kernel
theorem dX9_lockText_47 : decode cX9_lockText 47 = .ok (.putfield 340, 3) := by decide +kernel
theorem dX9_lockText_50 : decode cX9_lockText 50 = .ok (.aload_n 0, 1) := by decide +kernel
theorem dX9_lockText_51 : decode cX9_lockText 51 = .ok (.iload_n 3, 1) := by decide +kernel
theorem dX9_lockText_52 : decode cX9_lockText 52 = .ok (.iload_n 2, 1) := by decide +kernel
theorem dX9_lockText_53 : decode cX9_lockText 53 = .ok (.invokevirtual 355, 3) := by decide +kernel
theorem dX9_lockText_56 : decode cX9_lockText 56 = .ok (.ireturn, 1) := by decide +kernel
theorem dX9_longest_0 : decode cX9_longest 0 = .ok (.iconst 0, 1) := by decide +kernel
theorem dX9_longest_1 : decode cX9_longest 1 = .ok (.istore_n 1, 1) := by decide +kernel
theorem dX9_longest_2 : decode cX9_longest 2 = .ok (.iconst 0, 1) := by decide +kernel
theorem dX9_longest_3 : decode cX9_longest 3 = .ok (.istore_n 2, 1) := by decide +kernel
theorem dX9_longest_4 : decode cX9_longest 4 = .ok (.iload_n 2, 1) := by decide +kernel
theorem dX9_longest_5 : decode cX9_longest 5 = .ok (.aload_n 0, 1) := by decide +kernel
theorem dX9_longest_6 : decode cX9_longest 6 = .ok (.getfield 204, 3) := by decide +kernel
theorem dX9_longest_9 : decode cX9_longest 9 = .ok (.if_icmp .ge 26, 3) := by decide +kernel
theorem dX9_longest_12 : decode cX9_longest 12 = .ok (.aload_n 0, 1) := by decide +kernel
theorem dX9_longest_13 : decode cX9_longest 13 = .ok (.getfield 105, 3) := by decide +kernel
theorem dX9_longest_16 : decode cX9_longest 16 = .ok (.iload_n 2, 1) := by decide +kernel
theorem dX9_longest_17 : decode cX9_longest 17 = .ok (.iaload, 1) := by decide +kernel
theorem dX9_longest_18 : decode cX9_longest 18 = .ok (.iload_n 1, 1) := by decide +kernel
theorem dX9_longest_19 : decode cX9_longest 19 = .ok (.if_icmp .le 10, 3) := by decide +kernel
theorem dX9_longest_22 : decode cX9_longest 22 = .ok (.aload_n 0, 1) := by decide +kernel
theorem dX9_longest_23 : decode cX9_longest 23 = .ok (.getfield 105, 3) := by decide +kernel
theorem dX9_longest_26 : decode cX9_longest 26 = .ok (.iload_n 2, 1) := by decide +kernel
theorem dX9_longest_27 : decode cX9_longest 27 = .ok (.iaload, 1) := by decide +kernel
theorem dX9_longest_28 : decode cX9_longest 28 = .ok (.istore_n 1, 1) := by decide +kernel
theorem dX9_longest_29 : decode cX9_longest 29 = .ok (.iinc 2 1, 3) := by decide +kernel
theorem dX9_longest_32 : decode cX9_longest 32 = .ok (.goto (-28), 3) := by decide +kernel
theorem dX9_longest_35 : decode cX9_longest 35 = .ok (.iload_n 1, 1) := by decide +kernel
theorem dX9_longest_36 : decode cX9_longest 36 = .ok (.ireturn, 1) := by decide +kernel
theorem dX9_means_0 : decode cX9_means 0 = .ok (.aload_n 0, 1) := by decide +kernel
theorem dX9_means_1 : decode cX9_means 1 = .ok (.aload_n 3, 1) := by decide +kernel
theorem dX9_means_2 : decode cX9_means 2 = .ok (.iload 4, 2) := by decide +kernel
theorem dX9_means_4 : decode cX9_means 4 = .ok (.iaload, 1) := by decide +kernel
theorem dX9_means_5 : decode cX9_means 5 = .ok (.putfield 183, 3) := by decide +kernel
theorem dX9_means_8 : decode cX9_means 8 = .ok (.iload_n 1, 1) := by decide +kernel
theorem dX9_means_9 : decode cX9_means 9 = .ok (.iconst 1, 1) := by decide +kernel
theorem dX9_means_10 : decode cX9_means 10 = .ok (.if_icmp .ne 42, 3) := by decide +kernel
theorem dX9_means_13 : decode cX9_means 13 = .ok (.iload_n 2, 1) := by decide +kernel
theorem dX9_means_14 : decode cX9_means 14 = .ok (.ifCond .eq 36, 3) := by decide +kernel
theorem dX9_means_17 : decode cX9_means 17 = .ok (.aload_n 3, 1) := by decide +kernel
theorem dX9_means_18 : decode cX9_means 18 = .ok (.iload 4, 2) := by decide +kernel
theorem dX9_means_20 : decode cX9_means 20 = .ok (.iaload, 1) := by decide +kernel
theorem dX9_means_21 : decode cX9_means 21 = .ok (.bipush 34, 2) := by decide +kernel
theorem dX9_means_23 : decode cX9_means 23 = .ok (.if_icmp .ne 27, 3) := by decide +kernel
theorem dX9_means_26 : decode cX9_means 26 = .ok (.iload 4, 2) := by decide +kernel
theorem dX9_means_28 : decode cX9_means 28 = .ok (.iconst 1, 1) := by decide +kernel
theorem dX9_means_29 : decode cX9_means 29 = .ok (.iadd, 1) := by decide +kernel
theorem dX9_means_30 : decode cX9_means 30 = .ok (.iload 5, 2) := by decide +kernel
theorem dX9_means_32 : decode cX9_means 32 = .ok (.if_icmp .ge 18, 3) := by decide +kernel
theorem dX9_means_35 : decode cX9_means 35 = .ok (.aload_n 3, 1) := by decide +kernel
theorem dX9_means_36 : decode cX9_means 36 = .ok (.iload 4, 2) := by decide +kernel
theorem dX9_means_38 : decode cX9_means 38 = .ok (.iconst 1, 1) := by decide +kernel
theorem dX9_means_39 : decode cX9_means 39 = .ok (.iadd, 1) := by decide +kernel
theorem dX9_means_40 : decode cX9_means 40 = .ok (.iaload, 1) := by decide +kernel
theorem dX9_means_41 : decode cX9_means 41 = .ok (.bipush 34, 2) := by decide +kernel
theorem dX9_means_43 : decode cX9_means 43 = .ok (.if_icmp .ne 7, 3) := by decide +kernel
theorem dX9_means_46 : decode cX9_means 46 = .ok (.iconst 2, 1) := by decide +kernel
theorem dX9_means_47 : decode cX9_means 47 = .ok (.goto 4, 3) := by decide +kernel
theorem dX9_means_50 : decode cX9_means 50 = .ok (.iconst 1, 1) := by decide +kernel
theorem dX9_means_51 : decode cX9_means 51 = .ok (.ireturn, 1) := by decide +kernel
theorem dX9_means_52 : decode cX9_means 52 = .ok (.iload_n 1, 1) := by decide +kernel
theorem dX9_means_53 : decode cX9_means 53 = .ok (.iconst 2, 1) := by decide +kernel
theorem dX9_means_54 : decode cX9_means 54 = .ok (.if_icmp .ne 79, 3) := by decide +kernel
theorem dX9_means_57 : decode cX9_means 57 = .ok (.aload_n 3, 1) := by decide +kernel
theorem dX9_means_58 : decode cX9_means 58 = .ok (.iload 4, 2) := by decide +kernel
theorem dX9_means_60 : decode cX9_means 60 = .ok (.iload 5, 2) := by decide +kernel
theorem dX9_means_62 : decode cX9_means 62 = .ok (.ldc 186, 2) := by decide +kernel
theorem dX9_means_64 : decode cX9_means 64 = .ok (.invokestatic 188, 3) := by decide +kernel
theorem dX9_means_67 : decode cX9_means 67 = .ok (.ifCond .eq 12, 3) := by decide +kernel
theorem dX9_means_70 : decode cX9_means 70 = .ok (.aload_n 0, 1) := by decide +kernel
theorem dX9_means_71 : decode cX9_means 71 = .ok (.bipush 60, 2) := by decide +kernel
theorem dX9_means_73 : decode cX9_means 73 = .ok (.putfield 183, 3) := by decide +kernel
theorem dX9_means_76 : decode cX9_means 76 = .ok (.goto 40, 3) := by decide +kernel
theorem dX9_means_79 : decode cX9_means 79 = .ok (.aload_n 3, 1) := by decide +kernel
theorem dX9_means_80 : decode cX9_means 80 = .ok (.iload 4, 2) := by decide +kernel
theorem dX9_means_82 : decode cX9_means 82 = .ok (.iload 5, 2) := by decide +kernel
theorem dX9_means_84 : decode cX9_means 84 = .ok (.ldc 192, 2) := by decide +kernel
theorem dX9_means_86 : decode cX9_means 86 = .ok (.invokestatic 188, 3) := by decide +kernel
theorem dX9_means_89 : decode cX9_means 89 = .ok (.ifCond .eq 12, 3) := by decide +kernel
theorem dX9_means_92 : decode cX9_means 92 = .ok (.aload_n 0, 1) := by decide +kernel
theorem dX9_means_93 : decode cX9_means 93 = .ok (.bipush 62, 2) := by decide +kernel
theorem dX9_means_95 : decode cX9_means 95 = .ok (.putfield 183, 3) := by decide +kernel
theorem dX9_means_98 : decode cX9_means 98 = .ok (.goto 18, 3) := by decide +kernel
theorem dX9_means_101 : decode cX9_means 101 = .ok (.aload_n 3, 1) := by decide +kernel
theorem dX9_means_102 : decode cX9_means 102 = .ok (.iload 4, 2) := by decide +kernel
theorem dX9_means_104 : decode cX9_means 104 = .ok (.iload 5, 2) := by decide +kernel
theorem dX9_means_106 : decode cX9_means 106 = .ok (.ldc 194, 2) := by decide +kernel
theorem dX9_means_108 : decode cX9_means 108 = .ok (.invokestatic 188, 3) := by decide +kernel
theorem dX9_means_111 : decode cX9_means 111 = .ok (.ifCond .eq 5, 3) := by decide +kernel
theorem dX9_means_114 : decode cX9_means 114 = .ok (.iconst 5, 1) := by decide +kernel
theorem dX9_means_115 : decode cX9_means 115 = .ok (.ireturn, 1) := by decide +kernel
theorem dX9_means_116 : decode cX9_means 116 = .ok (.aload_n 0, 1) := by decide +kernel
theorem dX9_means_117 : decode cX9_means 117 = .ok (.getfield 183, 3) := by decide +kernel
theorem dX9_means_120 : decode cX9_means 120 = .ok (.aload_n 3, 1) := by decide +kernel
theorem dX9_means_121 : decode cX9_means 121 = .ok (.iload 4, 2) := by decide +kernel
theorem dX9_means_123 : decode cX9_means 123 = .ok (.iaload, 1) := by decide +kernel
theorem dX9_means_124 : decode cX9_means 124 = .ok (.if_icmp .eq 7, 3) := by decide +kernel
theorem dX9_means_127 : decode cX9_means 127 = .ok (.iconst 4, 1) := by decide +kernel
theorem dX9_means_128 : decode cX9_means 128 = .ok (.goto 4, 3) := by decide +kernel
theorem dX9_means_131 : decode cX9_means 131 = .ok (.iconst 1, 1) := by decide +kernel
theorem dX9_means_132 : decode cX9_means 132 = .ok (.ireturn, 1) := by decide +kernel
theorem dX9_means_133 : decode cX9_means 133 = .ok (.aload_n 3, 1) := by decide +kernel
theorem dX9_means_134 : decode cX9_means 134 = .ok (.iload 4, 2) := by decide +kernel
theorem dX9_means_136 : decode cX9_means 136 = .ok (.iaload, 1) := by decide +kernel
theorem dX9_means_137 : decode cX9_means 137 = .ok (.bipush 92, 2) := by decide +kernel
theorem dX9_means_139 : decode cX9_means 139 = .ok (.if_icmp .ne 26, 3) := by decide +kernel
theorem dX9_means_142 : decode cX9_means 142 = .ok (.iload 4, 2) := by decide +kernel
theorem dX9_means_144 : decode cX9_means 144 = .ok (.iconst 1, 1) := by decide +kernel
theorem dX9_means_145 : decode cX9_means 145 = .ok (.iadd, 1) := by decide +kernel
theorem dX9_means_146 : decode cX9_means 146 = .ok (.iload 5, 2) := by decide +kernel
theorem dX9_means_148 : decode cX9_means 148 = .ok (.if_icmp .ge 17, 3) := by decide +kernel
theorem dX9_means_151 : decode cX9_means 151 = .ok (.aload_n 0, 1) := by decide +kernel
theorem dX9_means_152 : decode cX9_means 152 = .ok (.iload_n 1, 1) := by decide +kernel
theorem dX9_means_153 : decode cX9_means 153 = .ok (.aload_n 3, 1) := by decide +kernel
theorem dX9_means_154 : decode cX9_means 154 = .ok (.iload 4, 2) := by decide +kernel
theorem dX9_means_156 : decode cX9_means 156 = .ok (.iconst 1, 1) := by decide +kernel
theorem dX9_means_157 : decode cX9_means 157 = .ok (.iadd, 1) := by decide +kernel
theorem dX9_means_158 : decode cX9_means 158 = .ok (.iaload, 1) := by decide +kernel
theorem dX9_means_159 : decode cX9_means 159 = .ok (.invokevirtual 196, 3) := by decide +kernel
theorem dX9_means_162 : decode cX9_means 162 = .ok (.goto 4, 3) := by decide +kernel
theorem dX9_means_165 : decode cX9_means 165 = .ok (.iconst (-1), 1) := by decide +kernel
theorem dX9_means_166 : decode cX9_means 166 = .ok (.istore 6, 2) := by decide +kernel
theorem dX9_means_168 : decode cX9_means 168 = .ok (.iload 6, 2) := by decide +kernel
theorem dX9_means_170 : decode cX9_means 170 = .ok (.iconst (-1), 1) := by decide +kernel
theorem dX9_means_171 : decode cX9_means 171 = .ok (.if_icmp .ne 5, 3) := by decide +kernel
theorem dX9_means_174 : decode cX9_means 174 = .ok (.iconst 1, 1) := by decide +kernel
theorem dX9_means_175 : decode cX9_means 175 = .ok (.ireturn, 1) := by decide +kernel
theorem dX9_means_176 : decode cX9_means 176 = .ok (.aload_n 0, 1) := by decide +kernel
theorem dX9_means_177 : decode cX9_means 177 = .ok (.iload 6, 2) := by decide +kernel
theorem dX9_means_179 : decode cX9_means 179 = .ok (.putfield 183, 3) := by decide +kernel
theorem dX9_means_182 : decode cX9_means 182 = .ok (.iconst 2, 1) := by decide +kernel
theorem dX9_means_183 : decode cX9_means 183 = .ok (.ireturn, 1) := by decide +kernel
