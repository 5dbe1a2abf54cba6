theorem dX1_hasLikeAhead_9 : decode cX1_hasLikeAhead 9 = .ok (.iload_n 2, 1) := by decide +kernel
theorem dX1_hasLikeAhead_10 : decode cX1_hasLikeAhead 10 = .ok (.invokevirtual 161, 3) := by decide +kernel
theorem dX1_hasLikeAhead_13 : decode cX1_hasLikeAhead 13 = .ok (.ifCond .eq 5, 3) := by decide +kernel
theorem dX1_hasLikeAhead_16 : decode cX1_hasLikeAhead 16 = .ok (.iconst 1, 1) := by decide +kernel
theorem dX1_hasLikeAhead_17 : decode cX1_hasLikeAhead 17 = .ok (.ireturn, 1) := by decide +kernel
theorem dX1_hasLikeAhead_18 : decode cX1_hasLikeAhead 18 = .ok (.iinc 2 1, 3) := by decide +kernel
theorem dX1_hasLikeAhead_21 : decode cX1_hasLikeAhead 21 = .ok (.goto (-19), 3) := by decide +kernel
theorem dX1_hasLikeAhead_24 : decode cX1_hasLikeAhead 24 = .ok (.iconst 0, 1) := by decide +kernel
theorem dX1_hasLikeAhead_25 : decode cX1_hasLikeAhead 25 = .ok (.ireturn, 1) := by decide +kernel
theorem dX1_likeCount_0 : decode cX1_likeCount 0 = .ok (.iconst 0, 1) := by decide +kernel
theorem dX1_likeCount_1 : decode cX1_likeCount 1 = .ok (.istore_n 2, 1) := by decide +kernel
theorem dX1_likeCount_2 : decode cX1_likeCount 2 = .ok (.iconst 0, 1) := by decide +kernel
theorem dX1_likeCount_3 : decode cX1_likeCount 3 = .ok (.istore_n 3, 1) := by decide +kernel
theorem dX1_likeCount_4 : decode cX1_likeCount 4 = .ok (.iload_n 3, 1) := by decide +kernel
theorem dX1_likeCount_5 : decode cX1_likeCount 5 = .ok (.aload_n 0, 1) := by decide +kernel
theorem dX1_likeCount_6 : decode cX1_likeCount 6 = .ok (.getfield 46, 3) := by decide +kernel
theorem dX1_likeCount_9 : decode cX1_likeCount 9 = .ok (.if_icmp .ge 21, 3) := by decide +kernel
theorem dX1_likeCount_12 : decode cX1_likeCount 12 = .ok (.aload_n 0, 1) := by decide +kernel
theorem dX1_likeCount_13 : decode cX1_likeCount 13 = .ok (.iload_n 1, 1) := by decide +kernel
theorem dX1_likeCount_14 : decode cX1_likeCount 14 = .ok (.iload_n 3, 1) := by decide +kernel
theorem dX1_likeCount_15 : decode cX1_likeCount 15 = .ok (.invokevirtual 161, 3) := by decide +kernel
theorem dX1_likeCount_18 : decode cX1_likeCount 18 = .ok (.ifCond .eq 6, 3) := by decide +kernel
theorem dX1_likeCount_21 : decode cX1_likeCount 21 = .ok (.iinc 2 1, 3) := by decide +kernel
theorem dX1_likeCount_24 : decode cX1_likeCount 24 = .ok (.iinc 3 1, 3) := by decide +kernel
theorem dX1_likeCount_27 : decode cX1_likeCount 27 = .ok (.goto (-23), 3) := by decide +kernel
theorem dX1_likeCount_30 : decode cX1_likeCount 30 = .ok (.iload_n 2, 1) := by decide +kernel
theorem dX1_likeCount_31 : decode cX1_likeCount 31 = .ok (.ireturn, 1) := by decide +kernel
theorem dX1_longestText_0 : decode cX1_longestText 0 = .ok (.iconst 0, 1) := by decide +kernel
theorem dX1_longestText_1 : decode cX1_longestText 1 = .ok (.istore_n 1, 1) := by decide +kernel
theorem dX1_longestText_2 : decode cX1_longestText 2 = .ok (.iconst 0, 1) := by decide +kernel
theorem dX1_longestText_3 : decode cX1_longestText 3 = .ok (.istore_n 2, 1) := by decide +kernel
theorem dX1_longestText_4 : decode cX1_longestText 4 = .ok (.iload_n 2, 1) := by decide +kernel
theorem dX1_longestText_5 : decode cX1_longestText 5 = .ok (.aload_n 0, 1) := by decide +kernel
theorem dX1_longestText_6 : decode cX1_longestText 6 = .ok (.getfield 46, 3) := by decide +kernel
theorem dX1_longestText_9 : decode cX1_longestText 9 = .ok (.if_icmp .ge 32, 3) := by decide +kernel
theorem dX1_longestText_12 : decode cX1_longestText 12 = .ok (.aload_n 0, 1) := by decide +kernel
theorem dX1_longestText_13 : decode cX1_longestText 13 = .ok (.iload_n 2, 1) := by decide +kernel
theorem dX1_longestText_14 : decode cX1_longestText 14 = .ok (.invokevirtual 154, 3) := by decide +kernel
theorem dX1_longestText_17 : decode cX1_longestText 17 = .ok (.astore_n 3, 1) := by decide +kernel
theorem dX1_longestText_18 : decode cX1_longestText 18 = .ok (.aload_n 3, 1) := by decide +kernel
theorem dX1_longestText_19 : decode cX1_longestText 19 = .ok (.ifnonnull 7, 3) := by decide +kernel
theorem dX1_longestText_22 : decode cX1_longestText 22 = .ok (.iload_n 1, 1) := by decide +kernel
theorem dX1_longestText_23 : decode cX1_longestText 23 = .ok (.goto 11, 3) := by decide +kernel
theorem dX1_longestText_26 : decode cX1_longestText 26 = .ok (.iload_n 1, 1) := by decide +kernel
theorem dX1_longestText_27 : decode cX1_longestText 27 = .ok (.aload_n 3, 1) := by decide +kernel
theorem dX1_longestText_28 : decode cX1_longestText 28 = .ok (.getfield 133, 3) := by decide +kernel
theorem dX1_longestText_31 : decode cX1_longestText 31 = .ok (.invokestatic 108, 3) := by decide +kernel
theorem dX1_longestText_34 : decode cX1_longestText 34 = .ok (.istore_n 1, 1) := by decide +kernel
theorem dX1_longestText_35 : decode cX1_longestText 35 = .ok (.iinc 2 1, 3) := by decide +kernel
theorem dX1_longestText_38 : decode cX1_longestText 38 = .ok (.goto (-34), 3) := by decide +kernel
theorem dX1_longestText_41 : decode cX1_longestText 41 = .ok (.iload_n 1, 1) := by decide +kernel
theorem dX1_longestText_42 : decode cX1_longestText 42 = .ok (.ireturn, 1) := by decide +kernel
theorem dX1_readOuter_0 : decode cX1_readOuter 0 = .ok (.aload_n 0, 1) := by decide +kernel
theorem dX1_readOuter_1 : decode cX1_readOuter 1 = .ok (.getfield 32, 3) := by decide +kernel
theorem dX1_readOuter_4 : decode cX1_readOuter 4 = .ok (.getfield 81, 3) := by decide +kernel
theorem dX1_readOuter_7 : decode cX1_readOuter 7 = .ok (.istore_n 3, 1) := by decide +kernel
theorem dX1_readOuter_8 : decode cX1_readOuter 8 = .ok (.iload_n 3, 1) := by decide +kernel
theorem dX1_readOuter_9 : decode cX1_readOuter 9 = .ok (.aload_n 0, 1) := by decide +kernel
theorem dX1_readOuter_10 : decode cX1_readOuter 10 = .ok (.getfield 32, 3) := by decide +kernel
theorem dX1_readOuter_13 : decode cX1_readOuter 13 = .ok (.getfield 84, 3) := by decide +kernel
theorem dX1_readOuter_16 : decode cX1_readOuter 16 = .ok (.if_icmp .ge 46, 3) := by decide +kernel
theorem dX1_readOuter_19 : decode cX1_readOuter 19 = .ok (.aload_n 0, 1) := by decide +kernel
theorem dX1_readOuter_20 : decode cX1_readOuter 20 = .ok (.getfield 32, 3) := by decide +kernel
theorem dX1_readOuter_23 : decode cX1_readOuter 23 = .ok (.iload_n 3, 1) := by decide +kernel
theorem dX1_readOuter_24 : decode cX1_readOuter 24 = .ok (.invokevirtual 95, 3) := by decide +kernel
theorem dX1_readOuter_27 : decode cX1_readOuter 27 = .ok (.aload_n 1, 1) := by decide +kernel
theorem dX1_readOuter_28 : decode cX1_readOuter 28 = .ok (.aload_n 0, 1) := by decide +kernel
theorem dX1_readOuter_29 : decode cX1_readOuter 29 = .ok (.getfield 32, 3) := by decide +kernel
theorem dX1_readOuter_32 : decode cX1_readOuter 32 = .ok (.getfield 98, 3) := by decide +kernel
theorem dX1_readOuter_35 : decode cX1_readOuter 35 = .ok (.invokevirtual 101, 3) := by decide +kernel
theorem dX1_readOuter_38 : decode cX1_readOuter 38 = .ok (.pop, 1) := by decide +kernel
theorem dX1_readOuter_39 : decode cX1_readOuter 39 = .ok (.aload_n 2, 1) := by decide +kernel
theorem dX1_readOuter_40 : decode cX1_readOuter 40 = .ok (.iload_n 3, 1) := by decide +kernel
theorem dX1_readOuter_41 : decode cX1_readOuter 41 = .ok (.invokevirtual 101, 3) := by decide +kernel
theorem dX1_readOuter_44 : decode cX1_readOuter 44 = .ok (.pop, 1) := by decide +kernel
theorem dX1_readOuter_45 : decode cX1_readOuter 45 = .ok (.iload_n 3, 1) := by decide +kernel
theorem dX1_readOuter_46 : decode cX1_readOuter 46 = .ok (.iconst 1, 1) := by decide +kernel
theorem dX1_readOuter_47 : decode cX1_readOuter 47 = .ok (.aload_n 0, 1) := by decide +kernel
theorem dX1_readOuter_48 : decode cX1_readOuter 48 = .ok (.getfield 32, 3) := by decide +kernel
theorem dX1_readOuter_51 : decode cX1_readOuter 51 = .ok (.getfield 105, 3) := by decide +kernel
theorem dX1_readOuter_54 : decode cX1_readOuter 54 = .ok (.invokestatic 108, 3) := by decide +kernel
theorem dX1_readOuter_57 : decode cX1_readOuter 57 = .ok (.iadd, 1) := by decide +kernel
theorem dX1_readOuter_58 : decode cX1_readOuter 58 = .ok (.istore_n 3, 1) := by decide +kernel
theorem dX1_readOuter_59 : decode cX1_readOuter 59 = .ok (.goto (-51), 3) := by decide +kernel
theorem dX1_readOuter_62 : decode cX1_readOuter 62 = .ok (.return_, 1) := by decide +kernel
theorem dX1_settle_0 : decode cX1_settle 0 = .ok (.aload_n 0, 1) := by decide +kernel
theorem dX1_settle_1 : decode cX1_settle 1 = .ok (.getfield 46, 3) := by decide +kernel
theorem dX1_settle_4 : decode cX1_settle 4 = .ok (.ifCond .lt 27, 3) := by decide +kernel
theorem dX1_settle_7 : decode cX1_settle 7 = .ok (.aload_n 0, 1) := by decide +kernel
theorem dX1_settle_8 : decode cX1_settle 8 = .ok (.getfield 46, 3) := by decide +kernel
theorem dX1_settle_11 : decode cX1_settle 11 = .ok (.aload_n 0, 1) := by decide +kernel
theorem dX1_settle_12 : decode cX1_settle 12 = .ok (.getfield 41, 3) := by decide +kernel
theorem dX1_settle_15 : decode cX1_settle 15 = .ok (.arraylength, 1) := by decide +kernel
theorem dX1_settle_16 : decode cX1_settle 16 = .ok (.if_icmp .ge 15, 3) := by decide +kernel
theorem dX1_settle_19 : decode cX1_settle 19 = .ok (.aload_n 0, 1) := by decide +kernel
theorem dX1_settle_20 : decode cX1_settle 20 = .ok (.getfield 41, 3) := by decide +kernel
theorem dX1_settle_23 : decode cX1_settle 23 = .ok (.aload_n 0, 1) := by decide +kernel
theorem dX1_settle_24 : decode cX1_settle 24 = .ok (.getfield 46, 3) := by decide +kernel
theorem dX1_settle_27 : decode cX1_settle 27 = .ok (.aaload, 1) := by decide +kernel
theorem dX1_settle_28 : decode cX1_settle 28 = .ok (.goto 4, 3) := by decide +kernel
theorem dX1_settle_31 : decode cX1_settle 31 = .ok (.aconst_null, 1) := by decide +kernel
theorem dX1_settle_32 : decode cX1_settle 32 = .ok (.astore 5, 2) := by decide +kernel
theorem dX1_settle_34 : decode cX1_settle 34 = .ok (.aload_n 0, 1) := by decide +kernel
theorem dX1_settle_35 : decode cX1_settle 35 = .ok (.getfield 14, 3) := by decide +kernel
theorem dX1_settle_38 : decode cX1_settle 38 = .ok (.invokevirtual 73, 3) := by decide +kernel
theorem dX1_settle_41 : decode cX1_settle 41 = .ok (.iload_n 2, 1) := by decide +kernel
theorem dX1_settle_42 : decode cX1_settle 42 = .ok (.isub, 1) := by decide +kernel
theorem dX1_settle_43 : decode cX1_settle 43 = .ok (.istore 6, 2) := by decide +kernel
theorem dX1_settle_45 : decode cX1_settle 45 = .ok (.aload 5, 2) := by decide +kernel
theorem dX1_settle_47 : decode cX1_settle 47 = .ok (.ifnull 30, 3) := by decide +kernel
theorem dX1_settle_50 : decode cX1_settle 50 = .ok (.iload 6, 2) := by decide +kernel
theorem dX1_settle_52 : decode cX1_settle 52 = .ok (.aload_n 1, 1) := by decide +kernel
theorem dX1_settle_53 : decode cX1_settle 53 = .ok (.getfield 118, 3) := by decide +kernel
theorem dX1_settle_56 : decode cX1_settle 56 = .ok (.if_icmp .lt 21, 3) := by decide +kernel
theorem dX1_settle_59 : decode cX1_settle 59 = .ok (.aload_n 1, 1) := by decide +kernel
theorem dX1_settle_60 : decode cX1_settle 60 = .ok (.getfield 121, 3) := by decide +kernel
theorem dX1_settle_63 : decode cX1_settle 63 = .ok (.ifCond .eq 31, 3) := by decide +kernel
theorem dX1_settle_66 : decode cX1_settle 66 = .ok (.aload_n 0, 1) := by decide +kernel
theorem dX1_settle_67 : decode cX1_settle 67 = .ok (.getfield 14, 3) := by decide +kernel
theorem dX1_settle_70 : decode cX1_settle 70 = .ok (.iload_n 2, 1) := by decide +kernel
theorem dX1_settle_71 : decode cX1_settle 71 = .ok (.invokevirtual 125, 3) := by decide +kernel
theorem dX1_settle_74 : decode cX1_settle 74 = .ok (.ifCond .ne 20, 3) := by decide +kernel
theorem dX1_settle_77 : decode cX1_settle 77 = .ok (.aload_n 0, 1) := by decide +kernel
theorem dX1_settle_78 : decode cX1_settle 78 = .ok (.getfield 14, 3) := by decide +kernel
theorem dX1_settle_81 : decode cX1_settle 81 = .ok (.iload_n 2, 1) := by decide +kernel
theorem dX1_settle_82 : decode cX1_settle 82 = .ok (.invokevirtual 50, 3) := by decide +kernel
theorem dX1_settle_85 : decode cX1_settle 85 = .ok (.aload_n 0, 1) := by decide +kernel
theorem dX1_settle_86 : decode cX1_settle 86 = .ok (.getfield 20, 3) := by decide +kernel
theorem dX1_settle_89 : decode cX1_settle 89 = .ok (.iload_n 2, 1) := by decide +kernel
theorem dX1_settle_90 : decode cX1_settle 90 = .ok (.invokevirtual 50, 3) := by decide +kernel
theorem dX1_settle_93 : decode cX1_settle 93 = .ok (.return_, 1) := by decide +kernel
theorem dX1_settle_94 : decode cX1_settle 94 = .ok (.aload_n 0, 1) := by decide +kernel
theorem dX1_settle_95 : decode cX1_settle 95 = .ok (.dup, 1) := by decide +kernel
theorem dX1_settle_96 : decode cX1_settle 96 = .ok (.getfield 46, 3) := by decide +kernel
theorem dX1_settle_99 : decode cX1_settle 99 = .ok (.iconst 1, 1) := by decide +kernel
theorem dX1_settle_100 : decode cX1_settle 100 = .ok (.iadd, 1) := by decide +kernel
theorem dX1_settle_101 : decode cX1_settle 101 = .ok (.putfield 46, 3) := by decide +kernel
theorem dX1_settle_104 : decode cX1_settle 104 = .ok (.aload 5, 2) := by decide +kernel
theorem dX1_settle_106 : decode cX1_settle 106 = .ok (.iload_n 3, 1) := by decide +kernel
theorem dX1_settle_107 : decode cX1_settle 107 = .ok (.putfield 128, 3) := by decide +kernel
theorem dX1_settle_110 : decode cX1_settle 110 = .ok (.aload 5, 2) := by decide +kernel
theorem dX1_settle_112 : decode cX1_settle 112 = .ok (.iload 4, 2) := by decide +kernel
theorem dX1_settle_114 : decode cX1_settle 114 = .ok (.putfield 129, 3) := by decide +kernel
theorem dX1_settle_117 : decode cX1_settle 117 = .ok (.aload 5, 2) := by decide +kernel
theorem dX1_settle_119 : decode cX1_settle 119 = .ok (.iload_n 2, 1) := by decide +kernel
theorem dX1_settle_120 : decode cX1_settle 120 = .ok (.putfield 130, 3) := by decide +kernel
theorem dX1_settle_123 : decode cX1_settle 123 = .ok (.aload 5, 2) := by decide +kernel
theorem dX1_settle_125 : decode cX1_settle 125 = .ok (.iload 6, 2) := by decide +kernel
theorem dX1_settle_127 : decode cX1_settle 127 = .ok (.putfield 133, 3) := by decide +kernel
theorem dX1_settle_130 : decode cX1_settle 130 = .ok (.aload 5, 2) := by decide +kernel
theorem dX1_settle_132 : decode cX1_settle 132 = .ok (.aload_n 0, 1) := by decide +kernel
theorem dX1_settle_133 : decode cX1_settle 133 = .ok (.getfield 32, 3) := by decide +kernel
theorem dX1_settle_136 : decode cX1_settle 136 = .ok (.getfield 136, 3) := by decide +kernel
theorem dX1_settle_139 : decode cX1_settle 139 = .ok (.putfield 139, 3) := by decide +kernel
theorem dX1_settle_142 : decode cX1_settle 142 = .ok (.aload 5, 2) := by decide +kernel
theorem dX1_settle_144 : decode cX1_settle 144 = .ok (.aload_n 0, 1) := by decide +kernel
theorem dX1_settle_145 : decode cX1_settle 145 = .ok (.getfield 32, 3) := by decide +kernel
theorem dX1_settle_148 : decode cX1_settle 148 = .ok (.getfield 140, 3) := by decide +kernel
theorem dX1_settle_151 : decode cX1_settle 151 = .ok (.putfield 143, 3) := by decide +kernel
theorem dX1_settle_154 : decode cX1_settle 154 = .ok (.aload 5, 2) := by decide +kernel
theorem dX1_settle_156 : decode cX1_settle 156 = .ok (.aload_n 0, 1) := by decide +kernel
theorem dX1_settle_157 : decode cX1_settle 157 = .ok (.getfield 32, 3) := by decide +kernel
theorem dX1_settle_160 : decode cX1_settle 160 = .ok (.getfield 144, 3) := by decide +kernel
theorem dX1_settle_163 : decode cX1_settle 163 = .ok (.putfield 147, 3) := by decide +kernel
theorem dX1_settle_166 : decode cX1_settle 166 = .ok (.aload 5, 2) := by decide +kernel
theorem dX1_settle_168 : decode cX1_settle 168 = .ok (.aload_n 1, 1) := by decide +kernel
theorem dX1_settle_169 : decode cX1_settle 169 = .ok (.getfield 70, 3) := by decide +kernel
theorem dX1_settle_172 : decode cX1_settle 172 = .ok (.iconst 1, 1) := by decide +kernel
theorem dX1_settle_173 : decode cX1_settle 173 = .ok (.if_icmp .ne 17, 3) := by decide +kernel
theorem dX1_settle_176 : decode cX1_settle 176 = .ok (.aload_n 0, 1) := by decide +kernel
theorem dX1_settle_177 : decode cX1_settle 177 = .ok (.getfield 36, 3) := by decide +kernel
theorem dX1_settle_180 : decode cX1_settle 180 = .ok (.getfield 144, 3) := by decide +kernel
theorem dX1_settle_183 : decode cX1_settle 183 = .ok (.ifCond .eq 7, 3) := by decide +kernel
theorem dX1_settle_186 : decode cX1_settle 186 = .ok (.iconst 1, 1) := by decide +kernel
theorem dX1_settle_187 : decode cX1_settle 187 = .ok (.goto 4, 3) := by decide +kernel
theorem dX1_settle_190 : decode cX1_settle 190 = .ok (.iconst 0, 1) := by decide +kernel
theorem dX1_settle_191 : decode cX1_settle 191 = .ok (.putfield 148, 3) := by decide +kernel
theorem dX1_settle_194 : decode cX1_settle 194 = .ok (.aload 5, 2) := by decide +kernel
theorem dX1_settle_196 : decode cX1_settle 196 = .ok (.iload_n 3, 1) := by decide +kernel
theorem dX1_settle_197 : decode cX1_settle 197 = .ok (.aload_n 0, 1) := by decide +kernel
theorem dX1_settle_198 : decode cX1_settle 198 = .ok (.getfield 32, 3) := by decide +kernel
theorem dX1_settle_201 : decode cX1_settle 201 = .ok (.getfield 81, 3) := by decide +kernel
theorem dX1_settle_204 : decode cX1_settle 204 = .ok (.if_icmp .ne 7, 3) := by decide +kernel
theorem dX1_settle_207 : decode cX1_settle 207 = .ok (.iconst 1, 1) := by decide +kernel
theorem dX1_settle_208 : decode cX1_settle 208 = .ok (.goto 4, 3) := by decide +kernel
theorem dX1_settle_211 : decode cX1_settle 211 = .ok (.iconst 0, 1) := by decide +kernel
theorem dX1_settle_212 : decode cX1_settle 212 = .ok (.putfield 151, 3) := by decide +kernel
theorem dX1_settle_215 : decode cX1_settle 215 = .ok (.return_, 1) := by decide +kernel
theorem dX1_size_0 : decode cX1_size 0 = .ok (.aload_n 0, 1) := by decide +kernel
theorem dX1_size_1 : decode cX1_size 1 = .ok (.getfield 46, 3) := by decide +kernel
theorem dX1_size_4 : decode cX1_size 4 = .ok (.ireturn, 1) := by decide +kernel
theorem dX1_takeWithin_0 : decode cX1_takeWithin 0 = .ok (.aload_n 0, 1) := by decide +kernel
theorem dX1_takeWithin_1 : decode cX1_takeWithin 1 = .ok (.getfield 36, 3) := by decide +kernel
theorem dX1_takeWithin_4 : decode cX1_takeWithin 4 = .ok (.aload_n 0, 1) := by decide +kernel
theorem dX1_takeWithin_5 : decode cX1_takeWithin 5 = .ok (.getfield 23, 3) := by decide +kernel
theorem dX1_takeWithin_8 : decode cX1_takeWithin 8 = .ok (.aload_n 1, 1) := by decide +kernel
theorem dX1_takeWithin_9 : decode cX1_takeWithin 9 = .ok (.getfield 70, 3) := by decide +kernel
theorem dX1_takeWithin_12 : decode cX1_takeWithin 12 = .ok (.invokevirtual 58, 3) := by decide +kernel
theorem dX1_takeWithin_15 : decode cX1_takeWithin 15 = .ok (.iconst 0, 1) := by decide +kernel
theorem dX1_takeWithin_16 : decode cX1_takeWithin 16 = .ok (.istore_n 2, 1) := by decide +kernel
theorem dX1_takeWithin_17 : decode cX1_takeWithin 17 = .ok (.iload_n 2, 1) := by decide +kernel
theorem dX1_takeWithin_18 : decode cX1_takeWithin 18 = .ok (.sipush 600, 3) := by decide +kernel
theorem dX1_takeWithin_21 : decode cX1_takeWithin 21 = .ok (.if_icmp .gt 185, 3) := by decide +kernel
theorem dX1_takeWithin_24 : decode cX1_takeWithin 24 = .ok (.aload_n 0, 1) := by decide +kernel
theorem dX1_takeWithin_25 : decode cX1_takeWithin 25 = .ok (.getfield 46, 3) := by decide +kernel
theorem dX1_takeWithin_28 : decode cX1_takeWithin 28 = .ok (.aload_n 0, 1) := by decide +kernel
theorem dX1_takeWithin_29 : decode cX1_takeWithin 29 = .ok (.getfield 41, 3) := by decide +kernel
theorem dX1_takeWithin_32 : decode cX1_takeWithin 32 = .ok (.arraylength, 1) := by decide +kernel
theorem dX1_takeWithin_33 : decode cX1_takeWithin 33 = .ok (.if_icmp .ge 173, 3) := by decide +kernel
theorem dX1_takeWithin_36 : decode cX1_takeWithin 36 = .ok (.aload_n 0, 1) := by decide +kernel
theorem dX1_takeWithin_37 : decode cX1_takeWithin 37 = .ok (.getfield 36, 3) := by decide +kernel
theorem dX1_takeWithin_40 : decode cX1_takeWithin 40 = .ok (.invokevirtual 62, 3) := by decide +kernel
theorem dX1_takeWithin_43 : decode cX1_takeWithin 43 = .ok (.ifCond .eq 163, 3) := by decide +kernel
theorem dX1_takeWithin_46 : decode cX1_takeWithin 46 = .ok (.aload_n 0, 1) := by decide +kernel
theorem dX1_takeWithin_47 : decode cX1_takeWithin 47 = .ok (.getfield 14, 3) := by decide +kernel
theorem dX1_takeWithin_50 : decode cX1_takeWithin 50 = .ok (.invokevirtual 73, 3) := by decide +kernel
theorem dX1_takeWithin_53 : decode cX1_takeWithin 53 = .ok (.istore_n 3, 1) := by decide +kernel
theorem dX1_takeWithin_54 : decode cX1_takeWithin 54 = .ok (.aload_n 0, 1) := by decide +kernel
theorem dX1_takeWithin_55 : decode cX1_takeWithin 55 = .ok (.getfield 36, 3) := by decide +kernel
theorem dX1_takeWithin_58 : decode cX1_takeWithin 58 = .ok (.getfield 81, 3) := by decide +kernel
theorem dX1_takeWithin_61 : decode cX1_takeWithin 61 = .ok (.istore 4, 2) := by decide +kernel
theorem dX1_takeWithin_63 : decode cX1_takeWithin 63 = .ok (.iload 4, 2) := by decide +kernel
theorem dX1_takeWithin_65 : decode cX1_takeWithin 65 = .ok (.aload_n 0, 1) := by decide +kernel
theorem dX1_takeWithin_66 : decode cX1_takeWithin 66 = .ok (.getfield 36, 3) := by decide +kernel
theorem dX1_takeWithin_69 : decode cX1_takeWithin 69 = .ok (.getfield 84, 3) := by decide +kernel
theorem dX1_takeWithin_72 : decode cX1_takeWithin 72 = .ok (.if_icmp .ge 63, 3) := by decide +kernel
theorem dX1_takeWithin_75 : decode cX1_takeWithin 75 = .ok (.aload_n 0, 1) := by decide +kernel
theorem dX1_takeWithin_76 : decode cX1_takeWithin 76 = .ok (.getfield 36, 3) := by decide +kernel
theorem dX1_takeWithin_79 : decode cX1_takeWithin 79 = .ok (.iload 4, 2) := by decide +kernel
theorem dX1_takeWithin_81 : decode cX1_takeWithin 81 = .ok (.invokevirtual 95, 3) := by decide +kernel
theorem dX1_takeWithin_84 : decode cX1_takeWithin 84 = .ok (.aload_n 0, 1) := by decide +kernel
theorem dX1_takeWithin_85 : decode cX1_takeWithin 85 = .ok (.getfield 14, 3) := by decide +kernel
theorem dX1_takeWithin_88 : decode cX1_takeWithin 88 = .ok (.aload_n 0, 1) := by decide +kernel
theorem dX1_takeWithin_89 : decode cX1_takeWithin 89 = .ok (.getfield 36, 3) := by decide +kernel
theorem dX1_takeWithin_92 : decode cX1_takeWithin 92 = .ok (.getfield 98, 3) := by decide +kernel
theorem dX1_takeWithin_95 : decode cX1_takeWithin 95 = .ok (.invokevirtual 101, 3) := by decide +kernel
theorem dX1_takeWithin_98 : decode cX1_takeWithin 98 = .ok (.pop, 1) := by decide +kernel
theorem dX1_takeWithin_99 : decode cX1_takeWithin 99 = .ok (.aload_n 0, 1) := by decide +kernel
theorem dX1_takeWithin_100 : decode cX1_takeWithin 100 = .ok (.getfield 20, 3) := by decide +kernel
theorem dX1_takeWithin_103 : decode cX1_takeWithin 103 = .ok (.aload_n 0, 1) := by decide +kernel
theorem dX1_takeWithin_104 : decode cX1_takeWithin 104 = .ok (.getfield 26, 3) := by decide +kernel
theorem dX1_takeWithin_107 : decode cX1_takeWithin 107 = .ok (.iload 4, 2) := by decide +kernel
theorem dX1_takeWithin_109 : decode cX1_takeWithin 109 = .ok (.invokevirtual 114, 3) := by decide +kernel
theorem dX1_takeWithin_112 : decode cX1_takeWithin 112 = .ok (.invokevirtual 101, 3) := by decide +kernel
theorem dX1_takeWithin_115 : decode cX1_takeWithin 115 = .ok (.pop, 1) := by decide +kernel
theorem dX1_takeWithin_116 : decode cX1_takeWithin 116 = .ok (.iload 4, 2) := by decide +kernel
theorem dX1_takeWithin_118 : decode cX1_takeWithin 118 = .ok (.iconst 1, 1) := by decide +kernel
theorem dX1_takeWithin_119 : decode cX1_takeWithin 119 = .ok (.aload_n 0, 1) := by decide +kernel
theorem dX1_takeWithin_120 : decode cX1_takeWithin 120 = .ok (.getfield 36, 3) := by decide +kernel
theorem dX1_takeWithin_123 : decode cX1_takeWithin 123 = .ok (.getfield 105, 3) := by decide +kernel
theorem dX1_takeWithin_126 : decode cX1_takeWithin 126 = .ok (.invokestatic 108, 3) := by decide +kernel
theorem dX1_takeWithin_129 : decode cX1_takeWithin 129 = .ok (.iadd, 1) := by decide +kernel
theorem dX1_takeWithin_130 : decode cX1_takeWithin 130 = .ok (.istore 4, 2) := by decide +kernel
theorem dX1_takeWithin_132 : decode cX1_takeWithin 132 = .ok (.goto (-69), 3) := by decide +kernel
theorem dX1_takeWithin_135 : decode cX1_takeWithin 135 = .ok (.aload_n 0, 1) := by decide +kernel
theorem dX1_takeWithin_136 : decode cX1_takeWithin 136 = .ok (.getfield 36, 3) := by decide +kernel
theorem dX1_takeWithin_139 : decode cX1_takeWithin 139 = .ok (.getfield 84, 3) := by decide +kernel
theorem dX1_takeWithin_142 : decode cX1_takeWithin 142 = .ok (.aload_n 0, 1) := by decide +kernel
theorem dX1_takeWithin_143 : decode cX1_takeWithin 143 = .ok (.getfield 23, 3) := by decide +kernel
theorem dX1_takeWithin_146 : decode cX1_takeWithin 146 = .ok (.invokevirtual 73, 3) := by decide +kernel
theorem dX1_takeWithin_149 : decode cX1_takeWithin 149 = .ok (.if_icmp .ge 20, 3) := by decide +kernel
theorem dX1_takeWithin_152 : decode cX1_takeWithin 152 = .ok (.aload_n 0, 1) := by decide +kernel
theorem dX1_takeWithin_153 : decode cX1_takeWithin 153 = .ok (.getfield 26, 3) := by decide +kernel
theorem dX1_takeWithin_156 : decode cX1_takeWithin 156 = .ok (.aload_n 0, 1) := by decide +kernel
theorem dX1_takeWithin_157 : decode cX1_takeWithin 157 = .ok (.getfield 36, 3) := by decide +kernel
theorem dX1_takeWithin_160 : decode cX1_takeWithin 160 = .ok (.getfield 84, 3) := by decide +kernel
theorem dX1_takeWithin_163 : decode cX1_takeWithin 163 = .ok (.invokevirtual 114, 3) := by decide +kernel
theorem dX1_takeWithin_166 : decode cX1_takeWithin 166 = .ok (.goto 10, 3) := by decide +kernel
theorem dX1_takeWithin_169 : decode cX1_takeWithin 169 = .ok (.aload_n 0, 1) := by decide +kernel
theorem dX1_takeWithin_170 : decode cX1_takeWithin 170 = .ok (.getfield 32, 3) := by decide +kernel
theorem dX1_takeWithin_173 : decode cX1_takeWithin 173 = .ok (.getfield 84, 3) := by decide +kernel
theorem dX1_takeWithin_176 : decode cX1_takeWithin 176 = .ok (.istore 4, 2) := by decide +kernel
theorem dX1_takeWithin_178 : decode cX1_takeWithin 178 = .ok (.aload_n 0, 1) := by decide +kernel
theorem dX1_takeWithin_179 : decode cX1_takeWithin 179 = .ok (.aload_n 1, 1) := by decide +kernel
theorem dX1_takeWithin_180 : decode cX1_takeWithin 180 = .ok (.iload_n 3, 1) := by decide +kernel
theorem dX1_takeWithin_181 : decode cX1_takeWithin 181 = .ok (.aload_n 0, 1) := by decide +kernel
theorem dX1_takeWithin_182 : decode cX1_takeWithin 182 = .ok (.getfield 26, 3) := by decide +kernel
theorem dX1_takeWithin_185 : decode cX1_takeWithin 185 = .ok (.aload_n 0, 1) := by decide +kernel
theorem dX1_takeWithin_186 : decode cX1_takeWithin 186 = .ok (.getfield 36, 3) := by decide +kernel
theorem dX1_takeWithin_189 : decode cX1_takeWithin 189 = .ok (.getfield 81, 3) := by decide +kernel
theorem dX1_takeWithin_192 : decode cX1_takeWithin 192 = .ok (.invokevirtual 114, 3) := by decide +kernel
theorem dX1_takeWithin_195 : decode cX1_takeWithin 195 = .ok (.iload 4, 2) := by decide +kernel
theorem dX1_takeWithin_197 : decode cX1_takeWithin 197 = .ok (.invokevirtual 87, 3) := by decide +kernel
theorem dX1_takeWithin_200 : decode cX1_takeWithin 200 = .ok (.iinc 2 1, 3) := by decide +kernel
theorem dX1_takeWithin_203 : decode cX1_takeWithin 203 = .ok (.goto (-186), 3) := by decide +kernel
theorem dX1_takeWithin_206 : decode cX1_takeWithin 206 = .ok (.return_, 1) := by decide +kernel
theorem dX1_textByte_0 : decode cX1_textByte 0 = .ok (.iload_n 2, 1) := by decide +kernel
theorem dX1_textByte_1 : decode cX1_textByte 1 = .ok (.ifCond .lt 27, 3) := by decide +kernel
theorem dX1_textByte_4 : decode cX1_textByte 4 = .ok (.iload_n 2, 1) := by decide +kernel
theorem dX1_textByte_5 : decode cX1_textByte 5 = .ok (.aload_n 1, 1) := by decide +kernel
theorem dX1_textByte_6 : decode cX1_textByte 6 = .ok (.getfield 133, 3) := by decide +kernel
theorem dX1_textByte_9 : decode cX1_textByte 9 = .ok (.if_icmp .ge 19, 3) := by decide +kernel
theorem dX1_textByte_12 : decode cX1_textByte 12 = .ok (.aload_n 0, 1) := by decide +kernel
theorem dX1_textByte_13 : decode cX1_textByte 13 = .ok (.getfield 14, 3) := by decide +kernel
theorem dX1_textByte_16 : decode cX1_textByte 16 = .ok (.aload_n 1, 1) := by decide +kernel
theorem dX1_textByte_17 : decode cX1_textByte 17 = .ok (.getfield 130, 3) := by decide +kernel
theorem dX1_textByte_20 : decode cX1_textByte 20 = .ok (.iload_n 2, 1) := by decide +kernel
theorem dX1_textByte_21 : decode cX1_textByte 21 = .ok (.iadd, 1) := by decide +kernel
theorem dX1_textByte_22 : decode cX1_textByte 22 = .ok (.invokevirtual 114, 3) := by decide +kernel
theorem dX1_textByte_25 : decode cX1_textByte 25 = .ok (.goto 4, 3) := by decide +kernel
theorem dX1_textByte_28 : decode cX1_textByte 28 = .ok (.iconst (-1), 1) := by decide +kernel
theorem dX1_textByte_29 : decode cX1_textByte 29 = .ok (.ireturn, 1) := by decide +kernel
theorem dX1_unlikeCount_0 : decode cX1_unlikeCount 0 = .ok (.iconst 0, 1) := by decide +kernel
theorem dX1_unlikeCount_1 : decode cX1_unlikeCount 1 = .ok (.istore_n 1, 1) := by decide +kernel
theorem dX1_unlikeCount_2 : decode cX1_unlikeCount 2 = .ok (.iconst 0, 1) := by decide +kernel
theorem dX1_unlikeCount_3 : decode cX1_unlikeCount 3 = .ok (.istore_n 2, 1) := by decide +kernel
theorem dX1_unlikeCount_4 : decode cX1_unlikeCount 4 = .ok (.iload_n 2, 1) := by decide +kernel
theorem dX1_unlikeCount_5 : decode cX1_unlikeCount 5 = .ok (.aload_n 0, 1) := by decide +kernel
theorem dX1_unlikeCount_6 : decode cX1_unlikeCount 6 = .ok (.getfield 46, 3) := by decide +kernel
theorem dX1_unlikeCount_9 : decode cX1_unlikeCount 9 = .ok (.if_icmp .ge 20, 3) := by decide +kernel
theorem dX1_unlikeCount_12 : decode cX1_unlikeCount 12 = .ok (.aload_n 0, 1) := by decide +kernel
theorem dX1_unlikeCount_13 : decode cX1_unlikeCount 13 = .ok (.iload_n 2, 1) := by decide +kernel
theorem dX1_unlikeCount_14 : decode cX1_unlikeCount 14 = .ok (.invokevirtual 165, 3) := by decide +kernel
theorem dX1_unlikeCount_17 : decode cX1_unlikeCount 17 = .ok (.ifCond .ne 6, 3) := by decide +kernel
theorem dX1_unlikeCount_20 : decode cX1_unlikeCount 20 = .ok (.iinc 1 1, 3) := by decide +kernel
theorem dX1_unlikeCount_23 : decode cX1_unlikeCount 23 = .ok (.iinc 2 1, 3) := by decide +kernel
theorem dX1_unlikeCount_26 : decode cX1_unlikeCount 26 = .ok (.goto (-22), 3) := by decide +kernel
theorem dX1_unlikeCount_29 : decode cX1_unlikeCount 29 = .ok (.iload_n 1, 1) := by decide +kernel
theorem dX1_unlikeCount_30 : decode cX1_unlikeCount 30 = .ok (.ireturn, 1) := by decide +kernel
theorem dX2_init_0 : decode cX2_init 0 = .ok (.aload_n 0, 1) := by decide +kernel
theorem dX2_init_1 : decode cX2_init 1 = .ok (.invokespecial 1, 3) := by decide +kernel
theorem dX2_init_4 : decode cX2_init 4 = .ok (.aload_n 0, 1) := by decide +kernel
theorem dX2_init_5 : decode cX2_init 5 = .ok (.aload_n 1, 1) := by decide +kernel
theorem dX2_init_6 : decode cX2_init 6 = .ok (.putfield 7, 3) := by decide +kernel
theorem dX2_init_9 : decode cX2_init 9 = .ok (.aload_n 0, 1) := by decide +kernel
theorem dX2_init_10 : decode cX2_init 10 = .ok (.aload_n 2, 1) := by decide +kernel
theorem dX2_init_11 : decode cX2_init 11 = .ok (.putfield 13, 3) := by decide +kernel
theorem dX2_init_14 : decode cX2_init 14 = .ok (.aload_n 0, 1) := by decide +kernel
theorem dX2_init_15 : decode cX2_init 15 = .ok (.aload_n 3, 1) := by decide +kernel
theorem dX2_init_16 : decode cX2_init 16 = .ok (.putfield 16, 3) := by decide +kernel
theorem dX2_init_19 : decode cX2_init 19 = .ok (.return_, 1) := by decide +kernel
theorem dX3_mayBeginInBuilt_0 : decode cX3_mayBeginInBuilt 0 = .ok (.iload_n 1, 1) := by decide +kernel
theorem dX3_mayBeginInBuilt_1 : decode cX3_mayBeginInBuilt 1 = .ok (.aload_n 0, 1) := by decide +kernel
theorem dX3_mayBeginInBuilt_2 : decode cX3_mayBeginInBuilt 2 = .ok (.getfield 7, 3) := by decide +kernel
theorem dX3_mayBeginInBuilt_5 : decode cX3_mayBeginInBuilt 5 = .ok (.if_icmp .eq 23, 3) := by decide +kernel
theorem dX3_mayBeginInBuilt_8 : decode cX3_mayBeginInBuilt 8 = .ok (.aload_n 0, 1) := by decide +kernel
theorem dX3_mayBeginInBuilt_9 : decode cX3_mayBeginInBuilt 9 = .ok (.getfield 13, 3) := by decide +kernel
theorem dX3_mayBeginInBuilt_12 : decode cX3_mayBeginInBuilt 12 = .ok (.ifCond .le 20, 3) := by decide +kernel
theorem dX3_mayBeginInBuilt_15 : decode cX3_mayBeginInBuilt 15 = .ok (.iload_n 1, 1) := by decide +kernel
theorem dX3_mayBeginInBuilt_16 : decode cX3_mayBeginInBuilt 16 = .ok (.aload_n 0, 1) := by decide +kernel
theorem dX3_mayBeginInBuilt_17 : decode cX3_mayBeginInBuilt 17 = .ok (.getfield 7, 3) := by decide +kernel
theorem dX3_mayBeginInBuilt_20 : decode cX3_mayBeginInBuilt 20 = .ok (.aload_n 0, 1) := by decide +kernel
theorem dX3_mayBeginInBuilt_21 : decode cX3_mayBeginInBuilt 21 = .ok (.getfield 13, 3) := by decide +kernel
theorem dX3_mayBeginInBuilt_24 : decode cX3_mayBeginInBuilt 24 = .ok (.iadd, 1) := by decide +kernel
theorem dX3_mayBeginInBuilt_25 : decode cX3_mayBeginInBuilt 25 = .ok (.if_icmp .ne 7, 3) := by decide +kernel
theorem dX3_mayBeginInBuilt_28 : decode cX3_mayBeginInBuilt 28 = .ok (.iconst 1, 1) := by decide +kernel
theorem dX3_mayBeginInBuilt_29 : decode cX3_mayBeginInBuilt 29 = .ok (.goto 4, 3) := by decide +kernel
theorem dX3_mayBeginInBuilt_32 : decode cX3_mayBeginInBuilt 32 = .ok (.iconst 0, 1) := by decide +kernel
theorem dX3_mayBeginInBuilt_33 : decode cX3_mayBeginInBuilt 33 = .ok (.ireturn, 1) := by decide +kernel
theorem dX4_actNamed_0 : decode cX4_actNamed 0 = .ok (.iconst 0, 1) := by decide +kernel
theorem dX4_actNamed_1 : decode cX4_actNamed 1 = .ok (.istore_n 3, 1) := by decide +kernel
theorem dX4_actNamed_2 : decode cX4_actNamed 2 = .ok (.iload_n 3, 1) := by decide +kernel
theorem dX4_actNamed_3 : decode cX4_actNamed 3 = .ok (.bipush 11, 2) := by decide +kernel
theorem dX4_actNamed_5 : decode cX4_actNamed 5 = .ok (.if_icmp .gt 27, 3) := by decide +kernel
theorem dX4_actNamed_8 : decode cX4_actNamed 8 = .ok (.aload_n 0, 1) := by decide +kernel
theorem dX4_actNamed_9 : decode cX4_actNamed 9 = .ok (.getfield 14, 3) := by decide +kernel
theorem dX4_actNamed_12 : decode cX4_actNamed 12 = .ok (.iload_n 1, 1) := by decide +kernel
theorem dX4_actNamed_13 : decode cX4_actNamed 13 = .ok (.iload_n 2, 1) := by decide +kernel
theorem dX4_actNamed_14 : decode cX4_actNamed 14 = .ok (.iload_n 3, 1) := by decide +kernel
theorem dX4_actNamed_15 : decode cX4_actNamed 15 = .ok (.invokestatic 58, 3) := by decide +kernel
theorem dX4_actNamed_18 : decode cX4_actNamed 18 = .ok (.invokevirtual 62, 3) := by decide +kernel
theorem dX4_actNamed_21 : decode cX4_actNamed 21 = .ok (.ifCond .eq 5, 3) := by decide +kernel
theorem dX4_actNamed_24 : decode cX4_actNamed 24 = .ok (.iload_n 3, 1) := by decide +kernel
theorem dX4_actNamed_25 : decode cX4_actNamed 25 = .ok (.ireturn, 1) := by decide +kernel
theorem dX4_actNamed_26 : decode cX4_actNamed 26 = .ok (.iinc 3 1, 3) := by decide +kernel
theorem dX4_actNamed_29 : decode cX4_actNamed 29 = .ok (.goto (-27), 3) := by decide +kernel
theorem dX4_actNamed_32 : decode cX4_actNamed 32 = .ok (.iconst (-1), 1) := by decide +kernel
theorem dX4_actNamed_33 : decode cX4_actNamed 33 = .ok (.ireturn, 1) := by decide +kernel
theorem dX4_lettersEnd_0 : decode cX4_lettersEnd 0 = .ok (.aload_n 0, 1) := by decide +kernel
theorem dX4_lettersEnd_1 : decode cX4_lettersEnd 1 = .ok (.getfield 28, 3) := by decide +kernel
theorem dX4_lettersEnd_4 : decode cX4_lettersEnd 4 = .ok (.istore_n 1, 1) := by decide +kernel
theorem dX4_lettersEnd_5 : decode cX4_lettersEnd 5 = .ok (.iload_n 1, 1) := by decide +kernel
theorem dX4_lettersEnd_6 : decode cX4_lettersEnd 6 = .ok (.aload_n 0, 1) := by decide +kernel
theorem dX4_lettersEnd_7 : decode cX4_lettersEnd 7 = .ok (.getfield 14, 3) := by decide +kernel
theorem dX4_lettersEnd_10 : decode cX4_lettersEnd 10 = .ok (.invokevirtual 20, 3) := by decide +kernel
theorem dX4_lettersEnd_13 : decode cX4_lettersEnd 13 = .ok (.if_icmp .ge 37, 3) := by decide +kernel
theorem dX4_lettersEnd_16 : decode cX4_lettersEnd 16 = .ok (.aload_n 0, 1) := by decide +kernel
theorem dX4_lettersEnd_17 : decode cX4_lettersEnd 17 = .ok (.getfield 14, 3) := by decide +kernel
theorem dX4_lettersEnd_20 : decode cX4_lettersEnd 20 = .ok (.iload_n 1, 1) := by decide +kernel
theorem dX4_lettersEnd_21 : decode cX4_lettersEnd 21 = .ok (.invokevirtual 36, 3) := by decide +kernel
theorem dX4_lettersEnd_24 : decode cX4_lettersEnd 24 = .ok (.bipush 97, 2) := by decide +kernel
theorem dX4_lettersEnd_26 : decode cX4_lettersEnd 26 = .ok (.if_icmp .lt 16, 3) := by decide +kernel
theorem dX4_lettersEnd_29 : decode cX4_lettersEnd 29 = .ok (.aload_n 0, 1) := by decide +kernel
theorem dX4_lettersEnd_30 : decode cX4_lettersEnd 30 = .ok (.getfield 14, 3) := by decide +kernel
theorem dX4_lettersEnd_33 : decode cX4_lettersEnd 33 = .ok (.iload_n 1, 1) := by decide +kernel
theorem dX4_lettersEnd_34 : decode cX4_lettersEnd 34 = .ok (.invokevirtual 36, 3) := by decide +kernel
theorem dX4_lettersEnd_37 : decode cX4_lettersEnd 37 = .ok (.bipush 122, 2) := by decide +kernel
theorem dX4_lettersEnd_39 : decode cX4_lettersEnd 39 = .ok (.if_icmp .le 5, 3) := by decide +kernel
theorem dX4_lettersEnd_42 : decode cX4_lettersEnd 42 = .ok (.iload_n 1, 1) := by decide +kernel
theorem dX4_lettersEnd_43 : decode cX4_lettersEnd 43 = .ok (.ireturn, 1) := by decide +kernel
theorem dX4_lettersEnd_44 : decode cX4_lettersEnd 44 = .ok (.iinc 1 1, 3) := by decide +kernel
theorem dX4_lettersEnd_47 : decode cX4_lettersEnd 47 = .ok (.goto (-42), 3) := by decide +kernel
theorem dX4_lettersEnd_50 : decode cX4_lettersEnd 50 = .ok (.aload_n 0, 1) := by decide +kernel
theorem dX4_lettersEnd_51 : decode cX4_lettersEnd 51 = .ok (.getfield 14, 3) := by decide +kernel
theorem dX4_lettersEnd_54 : decode cX4_lettersEnd 54 = .ok (.invokevirtual 20, 3) := by decide +kernel
theorem dX4_lettersEnd_57 : decode cX4_lettersEnd 57 = .ok (.ireturn, 1) := by decide +kernel
theorem dX4_nameOf_0 : decode cX4_nameOf 0 = .ok (.iload_n 0, 1) := by decide +kernel
theorem dX4_nameOf_1 : decode cX4_nameOf 1 = .ok (.tableswitch 92 0 10 #[59, 62, 65, 68, 71, 74, 77, 80, 83, 86, 89], 59) := by decide +kernel
theorem dX4_nameOf_60 : decode cX4_nameOf 60 = .ok (.ldc 66, 2) := by decide +kernel
theorem dX4_nameOf_62 : decode cX4_nameOf 62 = .ok (.areturn, 1) := by decide +kernel
theorem dX4_nameOf_63 : decode cX4_nameOf 63 = .ok (.ldc 68, 2) := by decide +kernel
theorem dX4_nameOf_65 : decode cX4_nameOf 65 = .ok (.areturn, 1) := by decide +kernel
theorem dX4_nameOf_66 : decode cX4_nameOf 66 = .ok (.ldc 70, 2) := by decide +kernel
theorem dX4_nameOf_68 : decode cX4_nameOf 68 = .ok (.areturn, 1) := by decide +kernel
theorem dX4_nameOf_69 : decode cX4_nameOf 69 = .ok (.ldc 72, 2) := by decide +kernel
theorem dX4_nameOf_71 : decode cX4_nameOf 71 = .ok (.areturn, 1) := by decide +kernel
theorem dX4_nameOf_72 : decode cX4_nameOf 72 = .ok (.ldc 74, 2) := by decide +kernel
theorem dX4_nameOf_74 : decode cX4_nameOf 74 = .ok (.areturn, 1) := by decide +kernel
theorem dX4_nameOf_75 : decode cX4_nameOf 75 = .ok (.ldc 76, 2) := by decide +kernel
theorem dX4_nameOf_77 : decode cX4_nameOf 77 = .ok (.areturn, 1) := by decide +kernel
theorem dX4_nameOf_78 : decode cX4_nameOf 78 = .ok (.ldc 78, 2) := by decide +kernel
theorem dX4_nameOf_80 : decode cX4_nameOf 80 = .ok (.areturn, 1) := by decide +kernel
theorem dX4_nameOf_81 : decode cX4_nameOf 81 = .ok (.ldc 80, 2) := by decide +kernel
theorem dX4_nameOf_83 : decode cX4_nameOf 83 = .ok (.areturn, 1) := by decide +kernel
theorem dX4_nameOf_84 : decode cX4_nameOf 84 = .ok (.ldc 82, 2) := by decide +kernel
theorem dX4_nameOf_86 : decode cX4_nameOf 86 = .ok (.areturn, 1) := by decide +kernel
theorem dX4_nameOf_87 : decode cX4_nameOf 87 = .ok (.ldc 84, 2) := by decide +kernel
theorem dX4_nameOf_89 : decode cX4_nameOf 89 = .ok (.areturn, 1) := by decide +kernel
theorem dX4_nameOf_90 : decode cX4_nameOf 90 = .ok (.ldc 86, 2) := by decide +kernel
theorem dX4_nameOf_92 : decode cX4_nameOf 92 = .ok (.areturn, 1) := by decide +kernel
theorem dX4_nameOf_93 : decode cX4_nameOf 93 = .ok (.ldc 88, 2) := by decide +kernel
theorem dX4_nameOf_95 : decode cX4_nameOf 95 = .ok (.areturn, 1) := by decide +kernel
theorem dX4_readAct_0 : decode cX4_readAct 0 = .ok (.aload_n 0, 1) := by decide +kernel
theorem dX4_readAct_1 : decode cX4_readAct 1 = .ok (.getfield 28, 3) := by decide +kernel
theorem dX4_readAct_4 : decode cX4_readAct 4 = .ok (.istore_n 1, 1) := by decide +kernel
theorem dX4_readAct_5 : decode cX4_readAct 5 = .ok (.aload_n 0, 1) := by decide +kernel
theorem dX4_readAct_6 : decode cX4_readAct 6 = .ok (.aload_n 0, 1) := by decide +kernel
theorem dX4_readAct_7 : decode cX4_readAct 7 = .ok (.invokevirtual 40, 3) := by decide +kernel
theorem dX4_readAct_10 : decode cX4_readAct 10 = .ok (.putfield 28, 3) := by decide +kernel
theorem dX4_readAct_13 : decode cX4_readAct 13 = .ok (.aload_n 0, 1) := by decide +kernel
theorem dX4_readAct_14 : decode cX4_readAct 14 = .ok (.aload_n 0, 1) := by decide +kernel
theorem dX4_readAct_15 : decode cX4_readAct 15 = .ok (.iload_n 1, 1) := by decide +kernel
theorem dX4_readAct_16 : decode cX4_readAct 16 = .ok (.aload_n 0, 1) := by decide +kernel
theorem dX4_readAct_17 : decode cX4_readAct 17 = .ok (.getfield 28, 3) := by decide +kernel
theorem dX4_readAct_20 : decode cX4_readAct 20 = .ok (.iload_n 1, 1) := by decide +kernel
theorem dX4_readAct_21 : decode cX4_readAct 21 = .ok (.isub, 1) := by decide +kernel
theorem dX4_readAct_22 : decode cX4_readAct 22 = .ok (.invokevirtual 43, 3) := by decide +kernel
theorem dX4_readAct_25 : decode cX4_readAct 25 = .ok (.putfield 46, 3) := by decide +kernel
theorem dX4_readAct_28 : decode cX4_readAct 28 = .ok (.aload_n 0, 1) := by decide +kernel
theorem dX4_readAct_29 : decode cX4_readAct 29 = .ok (.getfield 46, 3) := by decide +kernel
theorem dX4_readAct_32 : decode cX4_readAct 32 = .ok (.tableswitch 116 (-1) 10 #[64, 66, 66, 116, 116, 116, 73, 111, 116, 81, 81, 89], 64) := by decide +kernel
theorem dX4_readAct_96 : decode cX4_readAct 96 = .ok (.iload_n 1, 1) := by decide +kernel
theorem dX4_readAct_97 : decode cX4_readAct 97 = .ok (.ireturn, 1) := by decide +kernel
theorem dX4_readAct_98 : decode cX4_readAct 98 = .ok (.aload_n 0, 1) := by decide +kernel
theorem dX4_readAct_99 : decode cX4_readAct 99 = .ok (.iconst 0, 1) := by decide +kernel
theorem dX4_readAct_100 : decode cX4_readAct 100 = .ok (.iconst 3, 1) := by decide +kernel
theorem dX4_readAct_101 : decode cX4_readAct 101 = .ok (.invokevirtual 49, 3) := by decide +kernel
theorem dX4_readAct_104 : decode cX4_readAct 104 = .ok (.ireturn, 1) := by decide +kernel
theorem dX4_readAct_105 : decode cX4_readAct 105 = .ok (.aload_n 0, 1) := by decide +kernel
theorem dX4_readAct_106 : decode cX4_readAct 106 = .ok (.iconst 1, 1) := by decide +kernel
theorem dX4_readAct_107 : decode cX4_readAct 107 = .ok (.bipush 40, 2) := by decide +kernel
theorem dX4_readAct_109 : decode cX4_readAct 109 = .ok (.invokevirtual 49, 3) := by decide +kernel
theorem dX4_readAct_112 : decode cX4_readAct 112 = .ok (.ireturn, 1) := by decide +kernel
theorem dX4_readAct_113 : decode cX4_readAct 113 = .ok (.aload_n 0, 1) := by decide +kernel
theorem dX4_readAct_114 : decode cX4_readAct 114 = .ok (.iconst 0, 1) := by decide +kernel
theorem dX4_readAct_115 : decode cX4_readAct 115 = .ok (.bipush 39, 2) := by decide +kernel
theorem dX4_readAct_117 : decode cX4_readAct 117 = .ok (.invokevirtual 49, 3) := by decide +kernel
theorem dX4_readAct_120 : decode cX4_readAct 120 = .ok (.ireturn, 1) := by decide +kernel
theorem dX4_readAct_121 : decode cX4_readAct 121 = .ok (.aload_n 0, 1) := by decide +kernel
theorem dX4_readAct_122 : decode cX4_readAct 122 = .ok (.iconst 0, 1) := by decide +kernel
theorem dX4_readAct_123 : decode cX4_readAct 123 = .ok (.bipush 39, 2) := by decide +kernel
theorem dX4_readAct_125 : decode cX4_readAct 125 = .ok (.invokevirtual 49, 3) := by decide +kernel
theorem dX4_readAct_128 : decode cX4_readAct 128 = .ok (.istore_n 2, 1) := by decide +kernel
theorem dX4_readAct_129 : decode cX4_readAct 129 = .ok (.iload_n 2, 1) := by decide +kernel
theorem dX4_readAct_130 : decode cX4_readAct 130 = .ok (.iconst (-1), 1) := by decide +kernel
theorem dX4_readAct_131 : decode cX4_readAct 131 = .ok (.if_icmp .ne 10, 3) := by decide +kernel
theorem dX4_readAct_134 : decode cX4_readAct 134 = .ok (.aload_n 0, 1) := by decide +kernel
theorem dX4_readAct_135 : decode cX4_readAct 135 = .ok (.invokevirtual 52, 3) := by decide +kernel
theorem dX4_readAct_138 : decode cX4_readAct 138 = .ok (.goto 4, 3) := by decide +kernel
theorem dX4_readAct_141 : decode cX4_readAct 141 = .ok (.iload_n 2, 1) := by decide +kernel
theorem dX4_readAct_142 : decode cX4_readAct 142 = .ok (.ireturn, 1) := by decide +kernel
theorem dX4_readAct_143 : decode cX4_readAct 143 = .ok (.aload_n 0, 1) := by decide +kernel
theorem dX4_readAct_144 : decode cX4_readAct 144 = .ok (.invokevirtual 55, 3) := by decide +kernel
theorem dX4_readAct_147 : decode cX4_readAct 147 = .ok (.ireturn, 1) := by decide +kernel
theorem dX4_readAct_148 : decode cX4_readAct 148 = .ok (.iconst (-1), 1) := by decide +kernel
theorem dX4_readAct_149 : decode cX4_readAct 149 = .ok (.ireturn, 1) := by decide +kernel
theorem dX4_readBehindAct_0 : decode cX4_readBehindAct 0 = .ok (.aload_n 0, 1) := by decide +kernel
theorem dX4_readBehindAct_1 : decode cX4_readBehindAct 1 = .ok (.aload_n 0, 1) := by decide +kernel
theorem dX4_readBehindAct_2 : decode cX4_readBehindAct 2 = .ok (.getfield 14, 3) := by decide +kernel
theorem dX4_readBehindAct_5 : decode cX4_readBehindAct 5 = .ok (.aload_n 0, 1) := by decide +kernel
theorem dX4_readBehindAct_6 : decode cX4_readBehindAct 6 = .ok (.getfield 28, 3) := by decide +kernel
theorem dX4_readBehindAct_9 : decode cX4_readBehindAct 9 = .ok (.aload_n 0, 1) := by decide +kernel
theorem dX4_readBehindAct_10 : decode cX4_readBehindAct 10 = .ok (.getfield 14, 3) := by decide +kernel
theorem dX4_readBehindAct_13 : decode cX4_readBehindAct 13 = .ok (.invokevirtual 20, 3) := by decide +kernel
theorem dX4_readBehindAct_16 : decode cX4_readBehindAct 16 = .ok (.invokevirtual 24, 3) := by decide +kernel
theorem dX4_readBehindAct_19 : decode cX4_readBehindAct 19 = .ok (.putfield 28, 3) := by decide +kernel
theorem dX4_readBehindAct_22 : decode cX4_readBehindAct 22 = .ok (.aload_n 0, 1) := by decide +kernel
theorem dX4_readBehindAct_23 : decode cX4_readBehindAct 23 = .ok (.aload_n 0, 1) := by decide +kernel
theorem dX4_readBehindAct_24 : decode cX4_readBehindAct 24 = .ok (.getfield 28, 3) := by decide +kernel
theorem dX4_readBehindAct_27 : decode cX4_readBehindAct 27 = .ok (.aload_n 0, 1) := by decide +kernel
theorem dX4_readBehindAct_28 : decode cX4_readBehindAct 28 = .ok (.getfield 14, 3) := by decide +kernel
theorem dX4_readBehindAct_31 : decode cX4_readBehindAct 31 = .ok (.invokevirtual 20, 3) := by decide +kernel
theorem dX4_readBehindAct_34 : decode cX4_readBehindAct 34 = .ok (.if_icmp .ge 7, 3) := by decide +kernel
theorem dX4_readBehindAct_37 : decode cX4_readBehindAct 37 = .ok (.iconst 1, 1) := by decide +kernel
theorem dX4_readBehindAct_38 : decode cX4_readBehindAct 38 = .ok (.goto 4, 3) := by decide +kernel
theorem dX4_readBehindAct_41 : decode cX4_readBehindAct 41 = .ok (.iconst 0, 1) := by decide +kernel
theorem dX4_readBehindAct_42 : decode cX4_readBehindAct 42 = .ok (.putfield 32, 3) := by decide +kernel
theorem dX4_readBehindAct_45 : decode cX4_readBehindAct 45 = .ok (.aload_n 0, 1) := by decide +kernel
theorem dX4_readBehindAct_46 : decode cX4_readBehindAct 46 = .ok (.getfield 32, 3) := by decide +kernel
theorem dX4_readBehindAct_49 : decode cX4_readBehindAct 49 = .ok (.ifCond .eq 24, 3) := by decide +kernel
theorem dX4_readBehindAct_52 : decode cX4_readBehindAct 52 = .ok (.aload_n 0, 1) := by decide +kernel
theorem dX4_readBehindAct_53 : decode cX4_readBehindAct 53 = .ok (.getfield 14, 3) := by decide +kernel
theorem dX4_readBehindAct_56 : decode cX4_readBehindAct 56 = .ok (.aload_n 0, 1) := by decide +kernel
theorem dX4_readBehindAct_57 : decode cX4_readBehindAct 57 = .ok (.getfield 28, 3) := by decide +kernel
theorem dX4_readBehindAct_60 : decode cX4_readBehindAct 60 = .ok (.invokevirtual 36, 3) := by decide +kernel
theorem dX4_readBehindAct_63 : decode cX4_readBehindAct 63 = .ok (.bipush 59, 2) := by decide +kernel
theorem dX4_readBehindAct_65 : decode cX4_readBehindAct 65 = .ok (.if_icmp .eq 8, 3) := by decide +kernel
theorem dX4_readBehindAct_68 : decode cX4_readBehindAct 68 = .ok (.aload_n 0, 1) := by decide +kernel
theorem dX4_readBehindAct_69 : decode cX4_readBehindAct 69 = .ok (.getfield 28, 3) := by decide +kernel
theorem dX4_readBehindAct_72 : decode cX4_readBehindAct 72 = .ok (.ireturn, 1) := by decide +kernel
theorem dX4_readBehindAct_73 : decode cX4_readBehindAct 73 = .ok (.aload_n 0, 1) := by decide +kernel
theorem dX4_readBehindAct_74 : decode cX4_readBehindAct 74 = .ok (.aload_n 0, 1) := by decide +kernel
theorem dX4_readBehindAct_75 : decode cX4_readBehindAct 75 = .ok (.getfield 14, 3) := by decide +kernel
theorem dX4_readBehindAct_78 : decode cX4_readBehindAct 78 = .ok (.aload_n 0, 1) := by decide +kernel
theorem dX4_readBehindAct_79 : decode cX4_readBehindAct 79 = .ok (.getfield 28, 3) := by decide +kernel
theorem dX4_readBehindAct_82 : decode cX4_readBehindAct 82 = .ok (.iconst 1, 1) := by decide +kernel
theorem dX4_readBehindAct_83 : decode cX4_readBehindAct 83 = .ok (.iadd, 1) := by decide +kernel
theorem dX4_readBehindAct_84 : decode cX4_readBehindAct 84 = .ok (.aload_n 0, 1) := by decide +kernel
theorem dX4_readBehindAct_85 : decode cX4_readBehindAct 85 = .ok (.getfield 14, 3) := by decide +kernel
theorem dX4_readBehindAct_88 : decode cX4_readBehindAct 88 = .ok (.invokevirtual 20, 3) := by decide +kernel
theorem dX4_readBehindAct_91 : decode cX4_readBehindAct 91 = .ok (.invokevirtual 24, 3) := by decide +kernel
theorem dX4_readBehindAct_94 : decode cX4_readBehindAct 94 = .ok (.putfield 28, 3) := by decide +kernel
theorem dX4_readBehindAct_97 : decode cX4_readBehindAct 97 = .ok (.iconst (-1), 1) := by decide +kernel
theorem dX4_readBehindAct_98 : decode cX4_readBehindAct 98 = .ok (.ireturn, 1) := by decide +kernel
theorem dX4_readFirst_0 : decode cX4_readFirst 0 = .ok (.aload_n 0, 1) := by decide +kernel
theorem dX4_readFirst_1 : decode cX4_readFirst 1 = .ok (.iload_n 1, 1) := by decide +kernel
theorem dX4_readFirst_2 : decode cX4_readFirst 2 = .ok (.iload_n 2, 1) := by decide +kernel
theorem dX4_readFirst_3 : decode cX4_readFirst 3 = .ok (.invokevirtual 90, 3) := by decide +kernel
theorem dX4_readFirst_6 : decode cX4_readFirst 6 = .ok (.istore_n 3, 1) := by decide +kernel
theorem dX4_readFirst_7 : decode cX4_readFirst 7 = .ok (.aload_n 0, 1) := by decide +kernel
theorem dX4_readFirst_8 : decode cX4_readFirst 8 = .ok (.aload_n 0, 1) := by decide +kernel
theorem dX4_readFirst_9 : decode cX4_readFirst 9 = .ok (.getfield 93, 3) := by decide +kernel
theorem dX4_readFirst_12 : decode cX4_readFirst 12 = .ok (.putfield 96, 3) := by decide +kernel
theorem dX4_readFirst_15 : decode cX4_readFirst 15 = .ok (.iload_n 3, 1) := by decide +kernel
theorem dX4_readFirst_16 : decode cX4_readFirst 16 = .ok (.ireturn, 1) := by decide +kernel
theorem dX4_readNumber_0 : decode cX4_readNumber 0 = .ok (.aload_n 0, 1) := by decide +kernel
theorem dX4_readNumber_1 : decode cX4_readNumber 1 = .ok (.getfield 14, 3) := by decide +kernel
theorem dX4_readNumber_4 : decode cX4_readNumber 4 = .ok (.aload_n 0, 1) := by decide +kernel
theorem dX4_readNumber_5 : decode cX4_readNumber 5 = .ok (.getfield 28, 3) := by decide +kernel
theorem dX4_readNumber_8 : decode cX4_readNumber 8 = .ok (.aload_n 0, 1) := by decide +kernel
theorem dX4_readNumber_9 : decode cX4_readNumber 9 = .ok (.getfield 14, 3) := by decide +kernel
theorem dX4_readNumber_12 : decode cX4_readNumber 12 = .ok (.invokevirtual 20, 3) := by decide +kernel
theorem dX4_readNumber_15 : decode cX4_readNumber 15 = .ok (.invokevirtual 24, 3) := by decide +kernel
theorem dX4_readNumber_18 : decode cX4_readNumber 18 = .ok (.istore_n 3, 1) := by decide +kernel
theorem dX4_readNumber_19 : decode cX4_readNumber 19 = .ok (.iconst 0, 1) := by decide +kernel
theorem dX4_readNumber_20 : decode cX4_readNumber 20 = .ok (.istore 4, 2) := by decide +kernel
theorem dX4_readNumber_22 : decode cX4_readNumber 22 = .ok (.aload_n 0, 1) := by decide +kernel
theorem dX4_readNumber_23 : decode cX4_readNumber 23 = .ok (.iconst 0, 1) := by decide +kernel
theorem dX4_readNumber_24 : decode cX4_readNumber 24 = .ok (.putfield 93, 3) := by decide +kernel
theorem dX4_readNumber_27 : decode cX4_readNumber 27 = .ok (.iload_n 3, 1) := by decide +kernel
theorem dX4_readNumber_28 : decode cX4_readNumber 28 = .ok (.istore 5, 2) := by decide +kernel
theorem dX4_readNumber_30 : decode cX4_readNumber 30 = .ok (.iload 5, 2) := by decide +kernel
theorem dX4_readNumber_32 : decode cX4_readNumber 32 = .ok (.aload_n 0, 1) := by decide +kernel
theorem dX4_readNumber_33 : decode cX4_readNumber 33 = .ok (.getfield 14, 3) := by decide +kernel
theorem dX4_readNumber_36 : decode cX4_readNumber 36 = .ok (.invokevirtual 20, 3) := by decide +kernel
theorem dX4_readNumber_39 : decode cX4_readNumber 39 = .ok (.if_icmp .ge 77, 3) := by decide +kernel
theorem dX4_readNumber_42 : decode cX4_readNumber 42 = .ok (.aload_n 0, 1) := by decide +kernel
theorem dX4_readNumber_43 : decode cX4_readNumber 43 = .ok (.getfield 14, 3) := by decide +kernel
theorem dX4_readNumber_46 : decode cX4_readNumber 46 = .ok (.iload 5, 2) := by decide +kernel
theorem dX4_readNumber_48 : decode cX4_readNumber 48 = .ok (.invokevirtual 36, 3) := by decide +kernel
theorem dX4_readNumber_51 : decode cX4_readNumber 51 = .ok (.bipush 48, 2) := by decide +kernel
theorem dX4_readNumber_53 : decode cX4_readNumber 53 = .ok (.if_icmp .lt 63, 3) := by decide +kernel
theorem dX4_readNumber_56 : decode cX4_readNumber 56 = .ok (.aload_n 0, 1) := by decide +kernel
theorem dX4_readNumber_57 : decode cX4_readNumber 57 = .ok (.getfield 14, 3) := by decide +kernel
theorem dX4_readNumber_60 : decode cX4_readNumber 60 = .ok (.iload 5, 2) := by decide +kernel
theorem dX4_readNumber_62 : decode cX4_readNumber 62 = .ok (.invokevirtual 36, 3) := by decide +kernel
theorem dX4_readNumber_65 : decode cX4_readNumber 65 = .ok (.bipush 57, 2) := by decide +kernel
theorem dX4_readNumber_67 : decode cX4_readNumber 67 = .ok (.if_icmp .gt 49, 3) := by decide +kernel
theorem dX4_readNumber_70 : decode cX4_readNumber 70 = .ok (.iinc 4 1, 3) := by decide +kernel
theorem dX4_readNumber_73 : decode cX4_readNumber 73 = .ok (.aload_n 0, 1) := by decide +kernel
theorem dX4_readNumber_74 : decode cX4_readNumber 74 = .ok (.iload 4, 2) := by decide +kernel
theorem dX4_readNumber_76 : decode cX4_readNumber 76 = .ok (.iconst 2, 1) := by decide +kernel
theorem dX4_readNumber_77 : decode cX4_readNumber 77 = .ok (.if_icmp .le 10, 3) := by decide +kernel
theorem dX4_readNumber_80 : decode cX4_readNumber 80 = .ok (.aload_n 0, 1) := by decide +kernel
theorem dX4_readNumber_81 : decode cX4_readNumber 81 = .ok (.getfield 93, 3) := by decide +kernel
theorem dX4_readNumber_84 : decode cX4_readNumber 84 = .ok (.goto 23, 3) := by decide +kernel
theorem dX4_readNumber_87 : decode cX4_readNumber 87 = .ok (.aload_n 0, 1) := by decide +kernel
theorem dX4_readNumber_88 : decode cX4_readNumber 88 = .ok (.getfield 93, 3) := by decide +kernel
theorem dX4_readNumber_91 : decode cX4_readNumber 91 = .ok (.bipush 10, 2) := by decide +kernel
theorem dX4_readNumber_93 : decode cX4_readNumber 93 = .ok (.imul, 1) := by decide +kernel
theorem dX4_readNumber_94 : decode cX4_readNumber 94 = .ok (.aload_n 0, 1) := by decide +kernel
theorem dX4_readNumber_95 : decode cX4_readNumber 95 = .ok (.getfield 14, 3) := by decide +kernel
theorem dX4_readNumber_98 : decode cX4_readNumber 98 = .ok (.iload 5, 2) := by decide +kernel
theorem dX4_readNumber_100 : decode cX4_readNumber 100 = .ok (.invokevirtual 36, 3) := by decide +kernel
theorem dX4_readNumber_103 : decode cX4_readNumber 103 = .ok (.iadd, 1) := by decide +kernel
theorem dX4_readNumber_104 : decode cX4_readNumber 104 = .ok (.bipush 48, 2) := by decide +kernel
theorem dX4_readNumber_106 : decode cX4_readNumber 106 = .ok (.isub, 1) := by decide +kernel
theorem dX4_readNumber_107 : decode cX4_readNumber 107 = .ok (.putfield 93, 3) := by decide +kernel
theorem dX4_readNumber_110 : decode cX4_readNumber 110 = .ok (.iinc 5 1, 3) := by decide +kernel
theorem dX4_readNumber_113 : decode cX4_readNumber 113 = .ok (.goto (-83), 3) := by decide +kernel
theorem dX4_readNumber_116 : decode cX4_readNumber 116 = .ok (.aload_n 0, 1) := by decide +kernel
theorem dX4_readNumber_117 : decode cX4_readNumber 117 = .ok (.iload_n 3, 1) := by decide +kernel
theorem dX4_readNumber_118 : decode cX4_readNumber 118 = .ok (.iload 4, 2) := by decide +kernel
theorem dX4_readNumber_120 : decode cX4_readNumber 120 = .ok (.iadd, 1) := by decide +kernel
theorem dX4_readNumber_121 : decode cX4_readNumber 121 = .ok (.putfield 28, 3) := by decide +kernel
theorem dX4_readNumber_124 : decode cX4_readNumber 124 = .ok (.iload 4, 2) := by decide +kernel
theorem dX4_readNumber_126 : decode cX4_readNumber 126 = .ok (.iconst 1, 1) := by decide +kernel
theorem dX4_readNumber_127 : decode cX4_readNumber 127 = .ok (.if_icmp .lt 29, 3) := by decide +kernel
theorem dX4_readNumber_130 : decode cX4_readNumber 130 = .ok (.iload 4, 2) := by decide +kernel
theorem dX4_readNumber_132 : decode cX4_readNumber 132 = .ok (.iconst 2, 1) := by decide +kernel
