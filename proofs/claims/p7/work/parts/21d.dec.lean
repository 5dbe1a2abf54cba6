theorem dX9_file_28 : decode cX9_file 28 = .ok (.bipush 43, 2) := by decide +kernel
theorem dX9_file_30 : decode cX9_file 30 = .ok (.iload_n 2, 1) := by decide +kernel
theorem dX9_file_31 : decode cX9_file 31 = .ok (.iadd, 1) := by decide +kernel
theorem dX9_file_32 : decode cX9_file 32 = .ok (.aload_n 0, 1) := by decide +kernel
theorem dX9_file_33 : decode cX9_file 33 = .ok (.getfield 23, 3) := by decide +kernel
theorem dX9_file_36 : decode cX9_file 36 = .ok (.iload_n 2, 1) := by decide +kernel
theorem dX9_file_37 : decode cX9_file 37 = .ok (.iaload, 1) := by decide +kernel
theorem dX9_file_38 : decode cX9_file 38 = .ok (.iastore, 1) := by decide +kernel
theorem dX9_file_39 : decode cX9_file 39 = .ok (.iinc 2 1, 3) := by decide +kernel
theorem dX9_file_42 : decode cX9_file 42 = .ok (.goto (-23), 3) := by decide +kernel
theorem dX9_file_45 : decode cX9_file 45 = .ok (.aload_n 0, 1) := by decide +kernel
theorem dX9_file_46 : decode cX9_file 46 = .ok (.invokevirtual 322, 3) := by decide +kernel
theorem dX9_file_49 : decode cX9_file 49 = .ok (.aload_n 0, 1) := by decide +kernel
theorem dX9_file_50 : decode cX9_file 50 = .ok (.iconst 0, 1) := by decide +kernel
theorem dX9_file_51 : decode cX9_file 51 = .ok (.putfield 325, 3) := by decide +kernel
theorem dX9_file_54 : decode cX9_file 54 = .ok (.aload_n 0, 1) := by decide +kernel
theorem dX9_file_55 : decode cX9_file 55 = .ok (.getfield 204, 3) := by decide +kernel
theorem dX9_file_58 : decode cX9_file 58 = .ok (.ireturn, 1) := by decide +kernel
theorem dX9_finds_0 : decode cX9_finds 0 = .ok (.iload 4, 2) := by decide +kernel
theorem dX9_finds_2 : decode cX9_finds 2 = .ok (.iload 5, 2) := by decide +kernel
theorem dX9_finds_4 : decode cX9_finds 4 = .ok (.if_icmp .lt 4, 3) := by decide +kernel
theorem dX9_finds_7 : decode cX9_finds 7 = .ok (.return_, 1) := by decide +kernel
theorem dX9_finds_8 : decode cX9_finds 8 = .ok (.aload_n 1, 1) := by decide +kernel
theorem dX9_finds_9 : decode cX9_finds 9 = .ok (.aload_n 0, 1) := by decide +kernel
theorem dX9_finds_10 : decode cX9_finds 10 = .ok (.getfield 145, 3) := by decide +kernel
theorem dX9_finds_13 : decode cX9_finds 13 = .ok (.iload 4, 2) := by decide +kernel
theorem dX9_finds_15 : decode cX9_finds 15 = .ok (.iastore, 1) := by decide +kernel
theorem dX9_finds_16 : decode cX9_finds 16 = .ok (.aload_n 2, 1) := by decide +kernel
theorem dX9_finds_17 : decode cX9_finds 17 = .ok (.aload_n 0, 1) := by decide +kernel
theorem dX9_finds_18 : decode cX9_finds 18 = .ok (.getfield 145, 3) := by decide +kernel
theorem dX9_finds_21 : decode cX9_finds 21 = .ok (.iload 5, 2) := by decide +kernel
theorem dX9_finds_23 : decode cX9_finds 23 = .ok (.iastore, 1) := by decide +kernel
theorem dX9_finds_24 : decode cX9_finds 24 = .ok (.aload_n 3, 1) := by decide +kernel
theorem dX9_finds_25 : decode cX9_finds 25 = .ok (.aload_n 0, 1) := by decide +kernel
theorem dX9_finds_26 : decode cX9_finds 26 = .ok (.getfield 145, 3) := by decide +kernel
theorem dX9_finds_29 : decode cX9_finds 29 = .ok (.iload 6, 2) := by decide +kernel
theorem dX9_finds_31 : decode cX9_finds 31 = .ok (.ifCond .eq 7, 3) := by decide +kernel
theorem dX9_finds_34 : decode cX9_finds 34 = .ok (.iconst 1, 1) := by decide +kernel
theorem dX9_finds_35 : decode cX9_finds 35 = .ok (.goto 4, 3) := by decide +kernel
theorem dX9_finds_38 : decode cX9_finds 38 = .ok (.iconst 0, 1) := by decide +kernel
theorem dX9_finds_39 : decode cX9_finds 39 = .ok (.iastore, 1) := by decide +kernel
theorem dX9_finds_40 : decode cX9_finds 40 = .ok (.aload_n 0, 1) := by decide +kernel
theorem dX9_finds_41 : decode cX9_finds 41 = .ok (.dup, 1) := by decide +kernel
theorem dX9_finds_42 : decode cX9_finds 42 = .ok (.getfield 145, 3) := by decide +kernel
theorem dX9_finds_45 : decode cX9_finds 45 = .ok (.iconst 1, 1) := by decide +kernel
theorem dX9_finds_46 : decode cX9_finds 46 = .ok (.iadd, 1) := by decide +kernel
theorem dX9_finds_47 : decode cX9_finds 47 = .ok (.putfield 145, 3) := by decide +kernel
theorem dX9_finds_50 : decode cX9_finds 50 = .ok (.return_, 1) := by decide +kernel
theorem dX9_found_0 : decode cX9_found 0 = .ok (.aload_n 0, 1) := by decide +kernel
theorem dX9_found_1 : decode cX9_found 1 = .ok (.invokevirtual 426, 3) := by decide +kernel
theorem dX9_found_4 : decode cX9_found 4 = .ok (.istore_n 1, 1) := by decide +kernel
theorem dX9_found_5 : decode cX9_found 5 = .ok (.aload_n 0, 1) := by decide +kernel
theorem dX9_found_6 : decode cX9_found 6 = .ok (.aload_n 0, 1) := by decide +kernel
theorem dX9_found_7 : decode cX9_found 7 = .ok (.iload_n 1, 1) := by decide +kernel
theorem dX9_found_8 : decode cX9_found 8 = .ok (.invokevirtual 432, 3) := by decide +kernel
theorem dX9_found_11 : decode cX9_found 11 = .ok (.ifCond .eq 7, 3) := by decide +kernel
theorem dX9_found_14 : decode cX9_found 14 = .ok (.iconst 0, 1) := by decide +kernel
theorem dX9_found_15 : decode cX9_found 15 = .ok (.goto 4, 3) := by decide +kernel
theorem dX9_found_18 : decode cX9_found 18 = .ok (.iconst 1, 1) := by decide +kernel
theorem dX9_found_19 : decode cX9_found 19 = .ok (.putfield 138, 3) := by decide +kernel
theorem dX9_found_22 : decode cX9_found 22 = .ok (.aload_n 0, 1) := by decide +kernel
theorem dX9_found_23 : decode cX9_found 23 = .ok (.getfield 138, 3) := by decide +kernel
theorem dX9_found_26 : decode cX9_found 26 = .ok (.ifCond .le 5, 3) := by decide +kernel
theorem dX9_found_29 : decode cX9_found 29 = .ok (.lconst 0, 1) := by decide +kernel
theorem dX9_found_30 : decode cX9_found 30 = .ok (.lreturn, 1) := by decide +kernel
theorem dX9_found_31 : decode cX9_found 31 = .ok (.lconst 0, 1) := by decide +kernel
theorem dX9_found_32 : decode cX9_found 32 = .ok (.lstore_n 2, 1) := by decide +kernel
theorem dX9_found_33 : decode cX9_found 33 = .ok (.iconst 0, 1) := by decide +kernel
theorem dX9_found_34 : decode cX9_found 34 = .ok (.istore 4, 2) := by decide +kernel
theorem dX9_found_36 : decode cX9_found 36 = .ok (.iload 4, 2) := by decide +kernel
theorem dX9_found_38 : decode cX9_found 38 = .ok (.aload_n 0, 1) := by decide +kernel
theorem dX9_found_39 : decode cX9_found 39 = .ok (.getfield 204, 3) := by decide +kernel
theorem dX9_found_42 : decode cX9_found 42 = .ok (.if_icmp .ge 30, 3) := by decide +kernel
theorem dX9_found_45 : decode cX9_found 45 = .ok (.lload_n 2, 1) := by decide +kernel
theorem dX9_found_46 : decode cX9_found 46 = .ok (.aload_n 0, 1) := by decide +kernel
theorem dX9_found_47 : decode cX9_found 47 = .ok (.iload 4, 2) := by decide +kernel
theorem dX9_found_49 : decode cX9_found 49 = .ok (.iload_n 1, 1) := by decide +kernel
theorem dX9_found_50 : decode cX9_found 50 = .ok (.invokevirtual 456, 3) := by decide +kernel
theorem dX9_found_53 : decode cX9_found 53 = .ok (.ifCond .eq 10, 3) := by decide +kernel
theorem dX9_found_56 : decode cX9_found 56 = .ok (.lconst 1, 1) := by decide +kernel
theorem dX9_found_57 : decode cX9_found 57 = .ok (.iload 4, 2) := by decide +kernel
theorem dX9_found_59 : decode cX9_found 59 = .ok (.lshl, 1) := by decide +kernel
theorem dX9_found_60 : decode cX9_found 60 = .ok (.goto 4, 3) := by decide +kernel
theorem dX9_found_63 : decode cX9_found 63 = .ok (.lconst 0, 1) := by decide +kernel
theorem dX9_found_64 : decode cX9_found 64 = .ok (.lor, 1) := by decide +kernel
theorem dX9_found_65 : decode cX9_found 65 = .ok (.lstore_n 2, 1) := by decide +kernel
theorem dX9_found_66 : decode cX9_found 66 = .ok (.iinc 4 1, 3) := by decide +kernel
theorem dX9_found_69 : decode cX9_found 69 = .ok (.goto (-33), 3) := by decide +kernel
theorem dX9_found_72 : decode cX9_found 72 = .ok (.lload_n 2, 1) := by decide +kernel
theorem dX9_found_73 : decode cX9_found 73 = .ok (.lreturn, 1) := by decide +kernel
theorem dX9_free_0 : decode cX9_free 0 = .ok (.aload_n 0, 1) := by decide +kernel
theorem dX9_free_1 : decode cX9_free 1 = .ok (.invokevirtual 420, 3) := by decide +kernel
theorem dX9_free_4 : decode cX9_free 4 = .ok (.aload_n 0, 1) := by decide +kernel
theorem dX9_free_5 : decode cX9_free 5 = .ok (.aload_n 0, 1) := by decide +kernel
theorem dX9_free_6 : decode cX9_free 6 = .ok (.iload_n 1, 1) := by decide +kernel
theorem dX9_free_7 : decode cX9_free 7 = .ok (.invokevirtual 367, 3) := by decide +kernel
theorem dX9_free_10 : decode cX9_free 10 = .ok (.iconst 1, 1) := by decide +kernel
theorem dX9_free_11 : decode cX9_free 11 = .ok (.invokevirtual 429, 3) := by decide +kernel
theorem dX9_free_14 : decode cX9_free 14 = .ok (.ifCond .eq 10, 3) := by decide +kernel
theorem dX9_free_17 : decode cX9_free 17 = .ok (.aload_n 0, 1) := by decide +kernel
theorem dX9_free_18 : decode cX9_free 18 = .ok (.invokevirtual 300, 3) := by decide +kernel
theorem dX9_free_21 : decode cX9_free 21 = .ok (.goto 4, 3) := by decide +kernel
theorem dX9_free_24 : decode cX9_free 24 = .ok (.iconst 0, 1) := by decide +kernel
theorem dX9_free_25 : decode cX9_free 25 = .ok (.ireturn, 1) := by decide +kernel
theorem dX9_free0_0 : decode cX9_free0 0 = .ok (.aload_n 0, 1) := by decide +kernel
theorem dX9_free0_1 : decode cX9_free0 1 = .ok (.iload_n 1, 1) := by decide +kernel
theorem dX9_free0_2 : decode cX9_free0 2 = .ok (.invokevirtual 293, 3) := by decide +kernel
theorem dX9_free0_5 : decode cX9_free0 5 = .ok (.ifCond .ne 5, 3) := by decide +kernel
theorem dX9_free0_8 : decode cX9_free0 8 = .ok (.iconst 1, 1) := by decide +kernel
theorem dX9_free0_9 : decode cX9_free0 9 = .ok (.ireturn, 1) := by decide +kernel
theorem dX9_free0_10 : decode cX9_free0 10 = .ok (.aload_n 0, 1) := by decide +kernel
theorem dX9_free0_11 : decode cX9_free0 11 = .ok (.iload_n 1, 1) := by decide +kernel
theorem dX9_free0_12 : decode cX9_free0 12 = .ok (.invokevirtual 247, 3) := by decide +kernel
theorem dX9_free0_15 : decode cX9_free0 15 = .ok (.iconst (-1), 1) := by decide +kernel
theorem dX9_free0_16 : decode cX9_free0 16 = .ok (.if_icmp .ne 5, 3) := by decide +kernel
theorem dX9_free0_19 : decode cX9_free0 19 = .ok (.iconst 4, 1) := by decide +kernel
theorem dX9_free0_20 : decode cX9_free0 20 = .ok (.ireturn, 1) := by decide +kernel
theorem dX9_free0_21 : decode cX9_free0 21 = .ok (.aload_n 0, 1) := by decide +kernel
theorem dX9_free0_22 : decode cX9_free0 22 = .ok (.getfield 7, 3) := by decide +kernel
theorem dX9_free0_25 : decode cX9_free0 25 = .ok (.sipush 443, 3) := by decide +kernel
theorem dX9_free0_28 : decode cX9_free0 28 = .ok (.bipush 61, 2) := by decide +kernel
theorem dX9_free0_30 : decode cX9_free0 30 = .ok (.iload_n 1, 1) := by decide +kernel
theorem dX9_free0_31 : decode cX9_free0 31 = .ok (.imul, 1) := by decide +kernel
theorem dX9_free0_32 : decode cX9_free0 32 = .ok (.iadd, 1) := by decide +kernel
theorem dX9_free0_33 : decode cX9_free0 33 = .ok (.iconst (-1), 1) := by decide +kernel
theorem dX9_free0_34 : decode cX9_free0 34 = .ok (.iastore, 1) := by decide +kernel
theorem dX9_free0_35 : decode cX9_free0 35 = .ok (.aload_n 0, 1) := by decide +kernel
theorem dX9_free0_36 : decode cX9_free0 36 = .ok (.invokevirtual 300, 3) := by decide +kernel
theorem dX9_free0_39 : decode cX9_free0 39 = .ok (.sipush 600, 3) := by decide +kernel
theorem dX9_free0_42 : decode cX9_free0 42 = .ok (.if_icmp .le 7, 3) := by decide +kernel
theorem dX9_free0_45 : decode cX9_free0 45 = .ok (.iconst 3, 1) := by decide +kernel
theorem dX9_free0_46 : decode cX9_free0 46 = .ok (.goto 4, 3) := by decide +kernel
theorem dX9_free0_49 : decode cX9_free0 49 = .ok (.iconst 0, 1) := by decide +kernel
theorem dX9_free0_50 : decode cX9_free0 50 = .ok (.ireturn, 1) := by decide +kernel
theorem dX9_has_0 : decode cX9_has 0 = .ok (.aload_n 0, 1) := by decide +kernel
theorem dX9_has_1 : decode cX9_has 1 = .ok (.invokevirtual 349, 3) := by decide +kernel
theorem dX9_has_4 : decode cX9_has 4 = .ok (.istore_n 2, 1) := by decide +kernel
theorem dX9_has_5 : decode cX9_has 5 = .ok (.aload_n 0, 1) := by decide +kernel
theorem dX9_has_6 : decode cX9_has 6 = .ok (.getfield 26, 3) := by decide +kernel
theorem dX9_has_9 : decode cX9_has 9 = .ok (.iconst (-1), 1) := by decide +kernel
theorem dX9_has_10 : decode cX9_has 10 = .ok (.if_icmp .ne 16, 3) := by decide +kernel
theorem dX9_has_13 : decode cX9_has 13 = .ok (.iload_n 2, 1) := by decide +kernel
theorem dX9_has_14 : decode cX9_has 14 = .ok (.aload_n 0, 1) := by decide +kernel
theorem dX9_has_15 : decode cX9_has 15 = .ok (.getfield 340, 3) := by decide +kernel
theorem dX9_has_18 : decode cX9_has 18 = .ok (.isub, 1) := by decide +kernel
theorem dX9_has_19 : decode cX9_has 19 = .ok (.aload_n 1, 1) := by decide +kernel
theorem dX9_has_20 : decode cX9_has 20 = .ok (.invokevirtual 173, 3) := by decide +kernel
theorem dX9_has_23 : decode cX9_has 23 = .ok (.if_icmp .eq 5, 3) := by decide +kernel
theorem dX9_has_26 : decode cX9_has 26 = .ok (.iconst 0, 1) := by decide +kernel
theorem dX9_has_27 : decode cX9_has 27 = .ok (.ireturn, 1) := by decide +kernel
theorem dX9_has_28 : decode cX9_has 28 = .ok (.iconst 0, 1) := by decide +kernel
theorem dX9_has_29 : decode cX9_has 29 = .ok (.istore_n 3, 1) := by decide +kernel
theorem dX9_has_30 : decode cX9_has 30 = .ok (.iload_n 3, 1) := by decide +kernel
theorem dX9_has_31 : decode cX9_has 31 = .ok (.aload_n 1, 1) := by decide +kernel
theorem dX9_has_32 : decode cX9_has 32 = .ok (.invokevirtual 173, 3) := by decide +kernel
theorem dX9_has_35 : decode cX9_has 35 = .ok (.if_icmp .ge 30, 3) := by decide +kernel
theorem dX9_has_38 : decode cX9_has 38 = .ok (.aload_n 0, 1) := by decide +kernel
theorem dX9_has_39 : decode cX9_has 39 = .ok (.getfield 23, 3) := by decide +kernel
theorem dX9_has_42 : decode cX9_has 42 = .ok (.aload_n 0, 1) := by decide +kernel
theorem dX9_has_43 : decode cX9_has 43 = .ok (.getfield 340, 3) := by decide +kernel
theorem dX9_has_46 : decode cX9_has 46 = .ok (.iload_n 3, 1) := by decide +kernel
theorem dX9_has_47 : decode cX9_has 47 = .ok (.iadd, 1) := by decide +kernel
theorem dX9_has_48 : decode cX9_has 48 = .ok (.iaload, 1) := by decide +kernel
theorem dX9_has_49 : decode cX9_has 49 = .ok (.aload_n 1, 1) := by decide +kernel
theorem dX9_has_50 : decode cX9_has 50 = .ok (.iload_n 3, 1) := by decide +kernel
theorem dX9_has_51 : decode cX9_has 51 = .ok (.invokevirtual 179, 3) := by decide +kernel
theorem dX9_has_54 : decode cX9_has 54 = .ok (.if_icmp .eq 5, 3) := by decide +kernel
theorem dX9_has_57 : decode cX9_has 57 = .ok (.iconst 0, 1) := by decide +kernel
theorem dX9_has_58 : decode cX9_has 58 = .ok (.ireturn, 1) := by decide +kernel
theorem dX9_has_59 : decode cX9_has 59 = .ok (.iinc 3 1, 3) := by decide +kernel
theorem dX9_has_62 : decode cX9_has 62 = .ok (.goto (-32), 3) := by decide +kernel
theorem dX9_has_65 : decode cX9_has 65 = .ok (.aload_n 0, 1) := by decide +kernel
theorem dX9_has_66 : decode cX9_has 66 = .ok (.iload_n 2, 1) := by decide +kernel
theorem dX9_has_67 : decode cX9_has 67 = .ok (.putfield 340, 3) := by decide +kernel
theorem dX9_has_70 : decode cX9_has 70 = .ok (.iconst 1, 1) := by decide +kernel
theorem dX9_has_71 : decode cX9_has 71 = .ok (.ireturn, 1) := by decide +kernel
theorem dX9_hasSign_0 : decode cX9_hasSign 0 = .ok (.iconst 0, 1) := by decide +kernel
theorem dX9_hasSign_1 : decode cX9_hasSign 1 = .ok (.istore_n 2, 1) := by decide +kernel
theorem dX9_hasSign_2 : decode cX9_hasSign 2 = .ok (.iload_n 2, 1) := by decide +kernel
theorem dX9_hasSign_3 : decode cX9_hasSign 3 = .ok (.iload_n 1, 1) := by decide +kernel
theorem dX9_hasSign_4 : decode cX9_hasSign 4 = .ok (.if_icmp .ge 35, 3) := by decide +kernel
theorem dX9_hasSign_7 : decode cX9_hasSign 7 = .ok (.aload_n 0, 1) := by decide +kernel
theorem dX9_hasSign_8 : decode cX9_hasSign 8 = .ok (.iload_n 2, 1) := by decide +kernel
theorem dX9_hasSign_9 : decode cX9_hasSign 9 = .ok (.iaload, 1) := by decide +kernel
theorem dX9_hasSign_10 : decode cX9_hasSign 10 = .ok (.bipush 44, 2) := by decide +kernel
theorem dX9_hasSign_12 : decode cX9_hasSign 12 = .ok (.if_icmp .eq 19, 3) := by decide +kernel
theorem dX9_hasSign_15 : decode cX9_hasSign 15 = .ok (.aload_n 0, 1) := by decide +kernel
theorem dX9_hasSign_16 : decode cX9_hasSign 16 = .ok (.iload_n 2, 1) := by decide +kernel
theorem dX9_hasSign_17 : decode cX9_hasSign 17 = .ok (.iaload, 1) := by decide +kernel
theorem dX9_hasSign_18 : decode cX9_hasSign 18 = .ok (.bipush 34, 2) := by decide +kernel
theorem dX9_hasSign_20 : decode cX9_hasSign 20 = .ok (.if_icmp .eq 11, 3) := by decide +kernel
theorem dX9_hasSign_23 : decode cX9_hasSign 23 = .ok (.aload_n 0, 1) := by decide +kernel
theorem dX9_hasSign_24 : decode cX9_hasSign 24 = .ok (.iload_n 2, 1) := by decide +kernel
theorem dX9_hasSign_25 : decode cX9_hasSign 25 = .ok (.iaload, 1) := by decide +kernel
theorem dX9_hasSign_26 : decode cX9_hasSign 26 = .ok (.bipush 10, 2) := by decide +kernel
theorem dX9_hasSign_28 : decode cX9_hasSign 28 = .ok (.if_icmp .ne 5, 3) := by decide +kernel
theorem dX9_hasSign_31 : decode cX9_hasSign 31 = .ok (.iconst 1, 1) := by decide +kernel
theorem dX9_hasSign_32 : decode cX9_hasSign 32 = .ok (.ireturn, 1) := by decide +kernel
theorem dX9_hasSign_33 : decode cX9_hasSign 33 = .ok (.iinc 2 1, 3) := by decide +kernel
theorem dX9_hasSign_36 : decode cX9_hasSign 36 = .ok (.goto (-34), 3) := by decide +kernel
theorem dX9_hasSign_39 : decode cX9_hasSign 39 = .ok (.iconst 0, 1) := by decide +kernel
theorem dX9_hasSign_40 : decode cX9_hasSign 40 = .ok (.ireturn, 1) := by decide +kernel
theorem dX9_hasWord_0 : decode cX9_hasWord 0 = .ok (.iconst 0, 1) := by decide +kernel
theorem dX9_hasWord_1 : decode cX9_hasWord 1 = .ok (.istore_n 3, 1) := by decide +kernel
theorem dX9_hasWord_2 : decode cX9_hasWord 2 = .ok (.iload_n 3, 1) := by decide +kernel
theorem dX9_hasWord_3 : decode cX9_hasWord 3 = .ok (.iload_n 2, 1) := by decide +kernel
theorem dX9_hasWord_4 : decode cX9_hasWord 4 = .ok (.iadd, 1) := by decide +kernel
theorem dX9_hasWord_5 : decode cX9_hasWord 5 = .ok (.aload_n 0, 1) := by decide +kernel
theorem dX9_hasWord_6 : decode cX9_hasWord 6 = .ok (.iload_n 1, 1) := by decide +kernel
theorem dX9_hasWord_7 : decode cX9_hasWord 7 = .ok (.invokevirtual 313, 3) := by decide +kernel
theorem dX9_hasWord_10 : decode cX9_hasWord 10 = .ok (.if_icmp .gt 89, 3) := by decide +kernel
theorem dX9_hasWord_13 : decode cX9_hasWord 13 = .ok (.iconst 1, 1) := by decide +kernel
theorem dX9_hasWord_14 : decode cX9_hasWord 14 = .ok (.istore 4, 2) := by decide +kernel
theorem dX9_hasWord_16 : decode cX9_hasWord 16 = .ok (.iconst 0, 1) := by decide +kernel
theorem dX9_hasWord_17 : decode cX9_hasWord 17 = .ok (.istore 5, 2) := by decide +kernel
theorem dX9_hasWord_19 : decode cX9_hasWord 19 = .ok (.iload 5, 2) := by decide +kernel
theorem dX9_hasWord_21 : decode cX9_hasWord 21 = .ok (.iload_n 2, 1) := by decide +kernel
theorem dX9_hasWord_22 : decode cX9_hasWord 22 = .ok (.if_icmp .ge 64, 3) := by decide +kernel
theorem dX9_hasWord_25 : decode cX9_hasWord 25 = .ok (.iload 4, 2) := by decide +kernel
theorem dX9_hasWord_27 : decode cX9_hasWord 27 = .ok (.ifCond .eq 59, 3) := by decide +kernel
theorem dX9_hasWord_30 : decode cX9_hasWord 30 = .ok (.aload_n 0, 1) := by decide +kernel
theorem dX9_hasWord_31 : decode cX9_hasWord 31 = .ok (.iload_n 1, 1) := by decide +kernel
theorem dX9_hasWord_32 : decode cX9_hasWord 32 = .ok (.iload_n 3, 1) := by decide +kernel
theorem dX9_hasWord_33 : decode cX9_hasWord 33 = .ok (.iload 5, 2) := by decide +kernel
theorem dX9_hasWord_35 : decode cX9_hasWord 35 = .ok (.iadd, 1) := by decide +kernel
theorem dX9_hasWord_36 : decode cX9_hasWord 36 = .ok (.invokevirtual 316, 3) := by decide +kernel
theorem dX9_hasWord_39 : decode cX9_hasWord 39 = .ok (.istore 6, 2) := by decide +kernel
theorem dX9_hasWord_41 : decode cX9_hasWord 41 = .ok (.aload_n 0, 1) := by decide +kernel
theorem dX9_hasWord_42 : decode cX9_hasWord 42 = .ok (.getfield 23, 3) := by decide +kernel
theorem dX9_hasWord_45 : decode cX9_hasWord 45 = .ok (.iload 5, 2) := by decide +kernel
theorem dX9_hasWord_47 : decode cX9_hasWord 47 = .ok (.iaload, 1) := by decide +kernel
theorem dX9_hasWord_48 : decode cX9_hasWord 48 = .ok (.iload 6, 2) := by decide +kernel
theorem dX9_hasWord_50 : decode cX9_hasWord 50 = .ok (.bipush 65, 2) := by decide +kernel
theorem dX9_hasWord_52 : decode cX9_hasWord 52 = .ok (.bipush 90, 2) := by decide +kernel
theorem dX9_hasWord_54 : decode cX9_hasWord 54 = .ok (.invokestatic 141, 3) := by decide +kernel
theorem dX9_hasWord_57 : decode cX9_hasWord 57 = .ok (.ifCond .eq 11, 3) := by decide +kernel
theorem dX9_hasWord_60 : decode cX9_hasWord 60 = .ok (.iload 6, 2) := by decide +kernel
theorem dX9_hasWord_62 : decode cX9_hasWord 62 = .ok (.bipush 32, 2) := by decide +kernel
theorem dX9_hasWord_64 : decode cX9_hasWord 64 = .ok (.iadd, 1) := by decide +kernel
theorem dX9_hasWord_65 : decode cX9_hasWord 65 = .ok (.goto 5, 3) := by decide +kernel
theorem dX9_hasWord_68 : decode cX9_hasWord 68 = .ok (.iload 6, 2) := by decide +kernel
theorem dX9_hasWord_70 : decode cX9_hasWord 70 = .ok (.if_icmp .ne 7, 3) := by decide +kernel
theorem dX9_hasWord_73 : decode cX9_hasWord 73 = .ok (.iconst 1, 1) := by decide +kernel
theorem dX9_hasWord_74 : decode cX9_hasWord 74 = .ok (.goto 4, 3) := by decide +kernel
theorem dX9_hasWord_77 : decode cX9_hasWord 77 = .ok (.iconst 0, 1) := by decide +kernel
theorem dX9_hasWord_78 : decode cX9_hasWord 78 = .ok (.istore 4, 2) := by decide +kernel
theorem dX9_hasWord_80 : decode cX9_hasWord 80 = .ok (.iinc 5 1, 3) := by decide +kernel
theorem dX9_hasWord_83 : decode cX9_hasWord 83 = .ok (.goto (-64), 3) := by decide +kernel
theorem dX9_hasWord_86 : decode cX9_hasWord 86 = .ok (.iload 4, 2) := by decide +kernel
theorem dX9_hasWord_88 : decode cX9_hasWord 88 = .ok (.ifCond .eq 5, 3) := by decide +kernel
theorem dX9_hasWord_91 : decode cX9_hasWord 91 = .ok (.iconst 1, 1) := by decide +kernel
theorem dX9_hasWord_92 : decode cX9_hasWord 92 = .ok (.ireturn, 1) := by decide +kernel
theorem dX9_hasWord_93 : decode cX9_hasWord 93 = .ok (.iinc 3 1, 3) := by decide +kernel
theorem dX9_hasWord_96 : decode cX9_hasWord 96 = .ok (.goto (-94), 3) := by decide +kernel
theorem dX9_hasWord_99 : decode cX9_hasWord 99 = .ok (.iconst 0, 1) := by decide +kernel
theorem dX9_hasWord_100 : decode cX9_hasWord 100 = .ok (.ireturn, 1) := by decide +kernel
theorem dX9_here_0 : decode cX9_here 0 = .ok (.aload_n 0, 1) := by decide +kernel
theorem dX9_here_1 : decode cX9_here 1 = .ok (.getfield 340, 3) := by decide +kernel
theorem dX9_here_4 : decode cX9_here 4 = .ok (.aload_n 0, 1) := by decide +kernel
theorem dX9_here_5 : decode cX9_here 5 = .ok (.getfield 343, 3) := by decide +kernel
theorem dX9_here_8 : decode cX9_here 8 = .ok (.if_icmp .ge 30, 3) := by decide +kernel
theorem dX9_here_11 : decode cX9_here 11 = .ok (.aload_n 0, 1) := by decide +kernel
theorem dX9_here_12 : decode cX9_here 12 = .ok (.getfield 23, 3) := by decide +kernel
theorem dX9_here_15 : decode cX9_here 15 = .ok (.aload_n 0, 1) := by decide +kernel
theorem dX9_here_16 : decode cX9_here 16 = .ok (.getfield 340, 3) := by decide +kernel
theorem dX9_here_19 : decode cX9_here 19 = .ok (.iaload, 1) := by decide +kernel
theorem dX9_here_20 : decode cX9_here 20 = .ok (.bipush 32, 2) := by decide +kernel
theorem dX9_here_22 : decode cX9_here 22 = .ok (.if_icmp .ne 16, 3) := by decide +kernel
theorem dX9_here_25 : decode cX9_here 25 = .ok (.aload_n 0, 1) := by decide +kernel
theorem dX9_here_26 : decode cX9_here 26 = .ok (.dup, 1) := by decide +kernel
theorem dX9_here_27 : decode cX9_here 27 = .ok (.getfield 340, 3) := by decide +kernel
theorem dX9_here_30 : decode cX9_here 30 = .ok (.iconst 1, 1) := by decide +kernel
theorem dX9_here_31 : decode cX9_here 31 = .ok (.iadd, 1) := by decide +kernel
theorem dX9_here_32 : decode cX9_here 32 = .ok (.putfield 340, 3) := by decide +kernel
theorem dX9_here_35 : decode cX9_here 35 = .ok (.goto (-35), 3) := by decide +kernel
theorem dX9_here_38 : decode cX9_here 38 = .ok (.aload_n 0, 1) := by decide +kernel
theorem dX9_here_39 : decode cX9_here 39 = .ok (.getfield 340, 3) := by decide +kernel
theorem dX9_here_42 : decode cX9_here 42 = .ok (.ireturn, 1) := by decide +kernel
theorem dX9_holder_0 : decode cX9_holder 0 = .ok (.aload_n 0, 1) := by decide +kernel
theorem dX9_holder_1 : decode cX9_holder 1 = .ok (.iconst 0, 1) := by decide +kernel
theorem dX9_holder_2 : decode cX9_holder 2 = .ok (.putfield 138, 3) := by decide +kernel
theorem dX9_holder_5 : decode cX9_holder 5 = .ok (.iconst 0, 1) := by decide +kernel
theorem dX9_holder_6 : decode cX9_holder 6 = .ok (.istore_n 2, 1) := by decide +kernel
theorem dX9_holder_7 : decode cX9_holder 7 = .ok (.iload_n 2, 1) := by decide +kernel
theorem dX9_holder_8 : decode cX9_holder 8 = .ok (.aload_n 0, 1) := by decide +kernel
theorem dX9_holder_9 : decode cX9_holder 9 = .ok (.getfield 204, 3) := by decide +kernel
theorem dX9_holder_12 : decode cX9_holder 12 = .ok (.if_icmp .ge 32, 3) := by decide +kernel
theorem dX9_holder_15 : decode cX9_holder 15 = .ok (.iload_n 1, 1) := by decide +kernel
theorem dX9_holder_16 : decode cX9_holder 16 = .ok (.aload_n 0, 1) := by decide +kernel
theorem dX9_holder_17 : decode cX9_holder 17 = .ok (.getfield 81, 3) := by decide +kernel
theorem dX9_holder_20 : decode cX9_holder 20 = .ok (.iload_n 2, 1) := by decide +kernel
theorem dX9_holder_21 : decode cX9_holder 21 = .ok (.iaload, 1) := by decide +kernel
theorem dX9_holder_22 : decode cX9_holder 22 = .ok (.aload_n 0, 1) := by decide +kernel
theorem dX9_holder_23 : decode cX9_holder 23 = .ok (.getfield 84, 3) := by decide +kernel
theorem dX9_holder_26 : decode cX9_holder 26 = .ok (.iload_n 2, 1) := by decide +kernel
theorem dX9_holder_27 : decode cX9_holder 27 = .ok (.iaload, 1) := by decide +kernel
theorem dX9_holder_28 : decode cX9_holder 28 = .ok (.iconst 1, 1) := by decide +kernel
theorem dX9_holder_29 : decode cX9_holder 29 = .ok (.isub, 1) := by decide +kernel
theorem dX9_holder_30 : decode cX9_holder 30 = .ok (.invokestatic 141, 3) := by decide +kernel
theorem dX9_holder_33 : decode cX9_holder 33 = .ok (.ifCond .eq 5, 3) := by decide +kernel
theorem dX9_holder_36 : decode cX9_holder 36 = .ok (.iload_n 2, 1) := by decide +kernel
theorem dX9_holder_37 : decode cX9_holder 37 = .ok (.ireturn, 1) := by decide +kernel
theorem dX9_holder_38 : decode cX9_holder 38 = .ok (.iinc 2 1, 3) := by decide +kernel
theorem dX9_holder_41 : decode cX9_holder 41 = .ok (.goto (-34), 3) := by decide +kernel
theorem dX9_holder_44 : decode cX9_holder 44 = .ok (.iconst (-1), 1) := by decide +kernel
theorem dX9_holder_45 : decode cX9_holder 45 = .ok (.ireturn, 1) := by decide +kernel
theorem dX9_holdsTold_0 : decode cX9_holdsTold 0 = .ok (.iconst 0, 1) := by decide +kernel
theorem dX9_holdsTold_1 : decode cX9_holdsTold 1 = .ok (.istore_n 2, 1) := by decide +kernel
theorem dX9_holdsTold_2 : decode cX9_holdsTold 2 = .ok (.iload_n 2, 1) := by decide +kernel
theorem dX9_holdsTold_3 : decode cX9_holdsTold 3 = .ok (.aload_n 0, 1) := by decide +kernel
theorem dX9_holdsTold_4 : decode cX9_holdsTold 4 = .ok (.iload_n 1, 1) := by decide +kernel
theorem dX9_holdsTold_5 : decode cX9_holdsTold 5 = .ok (.invokevirtual 247, 3) := by decide +kernel
theorem dX9_holdsTold_8 : decode cX9_holdsTold 8 = .ok (.if_icmp .ge 21, 3) := by decide +kernel
theorem dX9_holdsTold_11 : decode cX9_holdsTold 11 = .ok (.aload_n 0, 1) := by decide +kernel
theorem dX9_holdsTold_12 : decode cX9_holdsTold 12 = .ok (.getfield 132, 3) := by decide +kernel
theorem dX9_holdsTold_15 : decode cX9_holdsTold 15 = .ok (.iload_n 2, 1) := by decide +kernel
theorem dX9_holdsTold_16 : decode cX9_holdsTold 16 = .ok (.aload_n 0, 1) := by decide +kernel
theorem dX9_holdsTold_17 : decode cX9_holdsTold 17 = .ok (.iload_n 1, 1) := by decide +kernel
theorem dX9_holdsTold_18 : decode cX9_holdsTold 18 = .ok (.iload_n 2, 1) := by decide +kernel
theorem dX9_holdsTold_19 : decode cX9_holdsTold 19 = .ok (.invokevirtual 251, 3) := by decide +kernel
theorem dX9_holdsTold_22 : decode cX9_holdsTold 22 = .ok (.iastore, 1) := by decide +kernel
theorem dX9_holdsTold_23 : decode cX9_holdsTold 23 = .ok (.iinc 2 1, 3) := by decide +kernel
theorem dX9_holdsTold_26 : decode cX9_holdsTold 26 = .ok (.goto (-24), 3) := by decide +kernel
theorem dX9_holdsTold_29 : decode cX9_holdsTold 29 = .ok (.return_, 1) := by decide +kernel
theorem dX9_image_0 : decode cX9_image 0 = .ok (.aload_n 0, 1) := by decide +kernel
theorem dX9_image_1 : decode cX9_image 1 = .ok (.iconst 0, 1) := by decide +kernel
theorem dX9_image_2 : decode cX9_image 2 = .ok (.putfield 138, 3) := by decide +kernel
theorem dX9_image_5 : decode cX9_image 5 = .ok (.iconst 0, 1) := by decide +kernel
theorem dX9_image_6 : decode cX9_image 6 = .ok (.istore_n 1, 1) := by decide +kernel
theorem dX9_image_7 : decode cX9_image 7 = .ok (.iload_n 1, 1) := by decide +kernel
theorem dX9_image_8 : decode cX9_image 8 = .ok (.sipush 4347, 3) := by decide +kernel
theorem dX9_image_11 : decode cX9_image 11 = .ok (.if_icmp .ge 21, 3) := by decide +kernel
theorem dX9_image_14 : decode cX9_image 14 = .ok (.aload_n 0, 1) := by decide +kernel
theorem dX9_image_15 : decode cX9_image 15 = .ok (.getfield 16, 3) := by decide +kernel
theorem dX9_image_18 : decode cX9_image 18 = .ok (.iload_n 1, 1) := by decide +kernel
theorem dX9_image_19 : decode cX9_image 19 = .ok (.aload_n 0, 1) := by decide +kernel
theorem dX9_image_20 : decode cX9_image 20 = .ok (.getfield 7, 3) := by decide +kernel
theorem dX9_image_23 : decode cX9_image 23 = .ok (.iload_n 1, 1) := by decide +kernel
theorem dX9_image_24 : decode cX9_image 24 = .ok (.iaload, 1) := by decide +kernel
theorem dX9_image_25 : decode cX9_image 25 = .ok (.iastore, 1) := by decide +kernel
theorem dX9_image_26 : decode cX9_image 26 = .ok (.iinc 1 1, 3) := by decide +kernel
theorem dX9_image_29 : decode cX9_image 29 = .ok (.goto (-22), 3) := by decide +kernel
theorem dX9_image_32 : decode cX9_image 32 = .ok (.aload_n 0, 1) := by decide +kernel
theorem dX9_image_33 : decode cX9_image 33 = .ok (.iconst 1, 1) := by decide +kernel
theorem dX9_image_34 : decode cX9_image 34 = .ok (.putfield 468, 3) := by decide +kernel
theorem dX9_image_37 : decode cX9_image 37 = .ok (.return_, 1) := by decide +kernel
theorem dX9_isBare_0 : decode cX9_isBare 0 = .ok (.iload_n 0, 1) := by decide +kernel
theorem dX9_isBare_1 : decode cX9_isBare 1 = .ok (.bipush 32, 2) := by decide +kernel
theorem dX9_isBare_3 : decode cX9_isBare 3 = .ok (.if_icmp .eq 9, 3) := by decide +kernel
theorem dX9_isBare_6 : decode cX9_isBare 6 = .ok (.iload_n 0, 1) := by decide +kernel
theorem dX9_isBare_7 : decode cX9_isBare 7 = .ok (.bipush 10, 2) := by decide +kernel
theorem dX9_isBare_9 : decode cX9_isBare 9 = .ok (.if_icmp .ne 7, 3) := by decide +kernel
theorem dX9_isBare_12 : decode cX9_isBare 12 = .ok (.iconst 1, 1) := by decide +kernel
theorem dX9_isBare_13 : decode cX9_isBare 13 = .ok (.goto 4, 3) := by decide +kernel
theorem dX9_isBare_16 : decode cX9_isBare 16 = .ok (.iconst 0, 1) := by decide +kernel
theorem dX9_isBare_17 : decode cX9_isBare 17 = .ok (.ireturn, 1) := by decide +kernel
theorem dX9_isDone_0 : decode cX9_isDone 0 = .ok (.aload_n 0, 1) := by decide +kernel
theorem dX9_isDone_1 : decode cX9_isDone 1 = .ok (.iload_n 1, 1) := by decide +kernel
theorem dX9_isDone_2 : decode cX9_isDone 2 = .ok (.putfield 328, 3) := by decide +kernel
theorem dX9_isDone_5 : decode cX9_isDone 5 = .ok (.aload_n 0, 1) := by decide +kernel
theorem dX9_isDone_6 : decode cX9_isDone 6 = .ok (.iload_n 1, 1) := by decide +kernel
theorem dX9_isDone_7 : decode cX9_isDone 7 = .ok (.ifCond .le 7, 3) := by decide +kernel
theorem dX9_isDone_10 : decode cX9_isDone 10 = .ok (.iload_n 2, 1) := by decide +kernel
theorem dX9_isDone_11 : decode cX9_isDone 11 = .ok (.goto 4, 3) := by decide +kernel
theorem dX9_isDone_14 : decode cX9_isDone 14 = .ok (.iconst 0, 1) := by decide +kernel
theorem dX9_isDone_15 : decode cX9_isDone 15 = .ok (.putfield 138, 3) := by decide +kernel
theorem dX9_isDone_18 : decode cX9_isDone 18 = .ok (.iload_n 1, 1) := by decide +kernel
theorem dX9_isDone_19 : decode cX9_isDone 19 = .ok (.ifCond .ne 10, 3) := by decide +kernel
theorem dX9_isDone_22 : decode cX9_isDone 22 = .ok (.aload_n 0, 1) := by decide +kernel
theorem dX9_isDone_23 : decode cX9_isDone 23 = .ok (.invokevirtual 331, 3) := by decide +kernel
theorem dX9_isDone_26 : decode cX9_isDone 26 = .ok (.goto 7, 3) := by decide +kernel
theorem dX9_isDone_29 : decode cX9_isDone 29 = .ok (.aload_n 0, 1) := by decide +kernel
theorem dX9_isDone_30 : decode cX9_isDone 30 = .ok (.invokevirtual 334, 3) := by decide +kernel
theorem dX9_isDone_33 : decode cX9_isDone 33 = .ok (.iload_n 1, 1) := by decide +kernel
theorem dX9_isDone_34 : decode cX9_isDone 34 = .ok (.ifCond .ne 7, 3) := by decide +kernel
theorem dX9_isDone_37 : decode cX9_isDone 37 = .ok (.iconst 1, 1) := by decide +kernel
theorem dX9_isDone_38 : decode cX9_isDone 38 = .ok (.goto 4, 3) := by decide +kernel
theorem dX9_isDone_41 : decode cX9_isDone 41 = .ok (.iconst 0, 1) := by decide +kernel
theorem dX9_isDone_42 : decode cX9_isDone 42 = .ok (.ireturn, 1) := by decide +kernel
theorem dX9_isIn_0 : decode cX9_isIn 0 = .ok (.iload_n 0, 1) := by decide +kernel
theorem dX9_isIn_1 : decode cX9_isIn 1 = .ok (.iload_n 1, 1) := by decide +kernel
theorem dX9_isIn_2 : decode cX9_isIn 2 = .ok (.if_icmp .lt 12, 3) := by decide +kernel
theorem dX9_isIn_5 : decode cX9_isIn 5 = .ok (.iload_n 0, 1) := by decide +kernel
theorem dX9_isIn_6 : decode cX9_isIn 6 = .ok (.iload_n 2, 1) := by decide +kernel
theorem dX9_isIn_7 : decode cX9_isIn 7 = .ok (.if_icmp .gt 7, 3) := by decide +kernel
theorem dX9_isIn_10 : decode cX9_isIn 10 = .ok (.iconst 1, 1) := by decide +kernel
theorem dX9_isIn_11 : decode cX9_isIn 11 = .ok (.goto 4, 3) := by decide +kernel
theorem dX9_isIn_14 : decode cX9_isIn 14 = .ok (.iconst 0, 1) := by decide +kernel
theorem dX9_isIn_15 : decode cX9_isIn 15 = .ok (.ireturn, 1) := by decide +kernel
theorem dX9_isLetter_0 : decode cX9_isLetter 0 = .ok (.iload_n 0, 1) := by decide +kernel
theorem dX9_isLetter_1 : decode cX9_isLetter 1 = .ok (.bipush 97, 2) := by decide +kernel
theorem dX9_isLetter_3 : decode cX9_isLetter 3 = .ok (.bipush 122, 2) := by decide +kernel
theorem dX9_isLetter_5 : decode cX9_isLetter 5 = .ok (.invokestatic 141, 3) := by decide +kernel
theorem dX9_isLetter_8 : decode cX9_isLetter 8 = .ok (.ifCond .ne 14, 3) := by decide +kernel
theorem dX9_isLetter_11 : decode cX9_isLetter 11 = .ok (.iload_n 0, 1) := by decide +kernel
theorem dX9_isLetter_12 : decode cX9_isLetter 12 = .ok (.bipush 65, 2) := by decide +kernel
theorem dX9_isLetter_14 : decode cX9_isLetter 14 = .ok (.bipush 90, 2) := by decide +kernel
theorem dX9_isLetter_16 : decode cX9_isLetter 16 = .ok (.invokestatic 141, 3) := by decide +kernel
theorem dX9_isLetter_19 : decode cX9_isLetter 19 = .ok (.ifCond .eq 7, 3) := by decide +kernel
theorem dX9_isLetter_22 : decode cX9_isLetter 22 = .ok (.iconst 1, 1) := by decide +kernel
theorem dX9_isLetter_23 : decode cX9_isLetter 23 = .ok (.goto 4, 3) := by decide +kernel
theorem dX9_isLetter_26 : decode cX9_isLetter 26 = .ok (.iconst 0, 1) := by decide +kernel
theorem dX9_isLetter_27 : decode cX9_isLetter 27 = .ok (.ireturn, 1) := by decide +kernel
theorem dX9_isLocked_0 : decode cX9_isLocked 0 = .ok (.aload_n 0, 1) := by decide +kernel
theorem dX9_isLocked_1 : decode cX9_isLocked 1 = .ok (.getfield 7, 3) := by decide +kernel
theorem dX9_isLocked_4 : decode cX9_isLocked 4 = .ok (.iconst 1, 1) := by decide +kernel
theorem dX9_isLocked_5 : decode cX9_isLocked 5 = .ok (.iaload, 1) := by decide +kernel
theorem dX9_isLocked_6 : decode cX9_isLocked 6 = .ok (.ifCond .eq 5, 3) := by decide +kernel
theorem dX9_isLocked_9 : decode cX9_isLocked 9 = .ok (.iconst 0, 1) := by decide +kernel
theorem dX9_isLocked_10 : decode cX9_isLocked 10 = .ok (.ireturn, 1) := by decide +kernel
theorem dX9_isLocked_11 : decode cX9_isLocked 11 = .ok (.iconst 0, 1) := by decide +kernel
theorem dX9_isLocked_12 : decode cX9_isLocked 12 = .ok (.istore_n 2, 1) := by decide +kernel
theorem dX9_isLocked_13 : decode cX9_isLocked 13 = .ok (.iload_n 2, 1) := by decide +kernel
theorem dX9_isLocked_14 : decode cX9_isLocked 14 = .ok (.aload_n 0, 1) := by decide +kernel
theorem dX9_isLocked_15 : decode cX9_isLocked 15 = .ok (.getfield 7, 3) := by decide +kernel
theorem dX9_isLocked_18 : decode cX9_isLocked 18 = .ok (.iconst 5, 1) := by decide +kernel
theorem dX9_isLocked_19 : decode cX9_isLocked 19 = .ok (.iaload, 1) := by decide +kernel
theorem dX9_isLocked_20 : decode cX9_isLocked 20 = .ok (.if_icmp .ge 107, 3) := by decide +kernel
theorem dX9_isLocked_23 : decode cX9_isLocked 23 = .ok (.aload_n 0, 1) := by decide +kernel
theorem dX9_isLocked_24 : decode cX9_isLocked 24 = .ok (.getfield 7, 3) := by decide +kernel
theorem dX9_isLocked_27 : decode cX9_isLocked 27 = .ok (.bipush 6, 2) := by decide +kernel
theorem dX9_isLocked_29 : decode cX9_isLocked 29 = .ok (.bipush 9, 2) := by decide +kernel
theorem dX9_isLocked_31 : decode cX9_isLocked 31 = .ok (.iload_n 2, 1) := by decide +kernel
theorem dX9_isLocked_32 : decode cX9_isLocked 32 = .ok (.imul, 1) := by decide +kernel
theorem dX9_isLocked_33 : decode cX9_isLocked 33 = .ok (.iadd, 1) := by decide +kernel
theorem dX9_isLocked_34 : decode cX9_isLocked 34 = .ok (.iaload, 1) := by decide +kernel
theorem dX9_isLocked_35 : decode cX9_isLocked 35 = .ok (.istore_n 3, 1) := by decide +kernel
theorem dX9_isLocked_36 : decode cX9_isLocked 36 = .ok (.iload_n 3, 1) := by decide +kernel
theorem dX9_isLocked_37 : decode cX9_isLocked 37 = .ok (.aload_n 0, 1) := by decide +kernel
theorem dX9_isLocked_38 : decode cX9_isLocked 38 = .ok (.getfield 51, 3) := by decide +kernel
theorem dX9_isLocked_41 : decode cX9_isLocked 41 = .ok (.iload_n 1, 1) := by decide +kernel
theorem dX9_isLocked_42 : decode cX9_isLocked 42 = .ok (.iaload, 1) := by decide +kernel
theorem dX9_isLocked_43 : decode cX9_isLocked 43 = .ok (.if_icmp .gt 7, 3) := by decide +kernel
theorem dX9_isLocked_46 : decode cX9_isLocked 46 = .ok (.iconst 1, 1) := by decide +kernel
theorem dX9_isLocked_47 : decode cX9_isLocked 47 = .ok (.goto 4, 3) := by decide +kernel
theorem dX9_isLocked_50 : decode cX9_isLocked 50 = .ok (.iconst 0, 1) := by decide +kernel
theorem dX9_isLocked_51 : decode cX9_isLocked 51 = .ok (.istore 4, 2) := by decide +kernel
theorem dX9_isLocked_53 : decode cX9_isLocked 53 = .ok (.iconst 0, 1) := by decide +kernel
theorem dX9_isLocked_54 : decode cX9_isLocked 54 = .ok (.istore 5, 2) := by decide +kernel
theorem dX9_isLocked_56 : decode cX9_isLocked 56 = .ok (.iload 5, 2) := by decide +kernel
theorem dX9_isLocked_58 : decode cX9_isLocked 58 = .ok (.iload_n 3, 1) := by decide +kernel
theorem dX9_isLocked_59 : decode cX9_isLocked 59 = .ok (.if_icmp .ge 55, 3) := by decide +kernel
theorem dX9_isLocked_62 : decode cX9_isLocked 62 = .ok (.iload 4, 2) := by decide +kernel
theorem dX9_isLocked_64 : decode cX9_isLocked 64 = .ok (.ifCond .eq 50, 3) := by decide +kernel
theorem dX9_isLocked_67 : decode cX9_isLocked 67 = .ok (.aload_n 0, 1) := by decide +kernel
theorem dX9_isLocked_68 : decode cX9_isLocked 68 = .ok (.getfield 30, 3) := by decide +kernel
theorem dX9_isLocked_71 : decode cX9_isLocked 71 = .ok (.aload_n 0, 1) := by decide +kernel
theorem dX9_isLocked_72 : decode cX9_isLocked 72 = .ok (.getfield 48, 3) := by decide +kernel
theorem dX9_isLocked_75 : decode cX9_isLocked 75 = .ok (.iload_n 1, 1) := by decide +kernel
theorem dX9_isLocked_76 : decode cX9_isLocked 76 = .ok (.iaload, 1) := by decide +kernel
theorem dX9_isLocked_77 : decode cX9_isLocked 77 = .ok (.iload 5, 2) := by decide +kernel
theorem dX9_isLocked_79 : decode cX9_isLocked 79 = .ok (.iadd, 1) := by decide +kernel
theorem dX9_isLocked_80 : decode cX9_isLocked 80 = .ok (.iaload, 1) := by decide +kernel
theorem dX9_isLocked_81 : decode cX9_isLocked 81 = .ok (.aload_n 0, 1) := by decide +kernel
theorem dX9_isLocked_82 : decode cX9_isLocked 82 = .ok (.getfield 7, 3) := by decide +kernel
theorem dX9_isLocked_85 : decode cX9_isLocked 85 = .ok (.bipush 6, 2) := by decide +kernel
theorem dX9_isLocked_87 : decode cX9_isLocked 87 = .ok (.bipush 9, 2) := by decide +kernel
theorem dX9_isLocked_89 : decode cX9_isLocked 89 = .ok (.iload_n 2, 1) := by decide +kernel
theorem dX9_isLocked_90 : decode cX9_isLocked 90 = .ok (.imul, 1) := by decide +kernel
theorem dX9_isLocked_91 : decode cX9_isLocked 91 = .ok (.iadd, 1) := by decide +kernel
theorem dX9_isLocked_92 : decode cX9_isLocked 92 = .ok (.iconst 1, 1) := by decide +kernel
theorem dX9_isLocked_93 : decode cX9_isLocked 93 = .ok (.iadd, 1) := by decide +kernel
theorem dX9_isLocked_94 : decode cX9_isLocked 94 = .ok (.iload 5, 2) := by decide +kernel
theorem dX9_isLocked_96 : decode cX9_isLocked 96 = .ok (.iadd, 1) := by decide +kernel
theorem dX9_isLocked_97 : decode cX9_isLocked 97 = .ok (.iaload, 1) := by decide +kernel
theorem dX9_isLocked_98 : decode cX9_isLocked 98 = .ok (.if_icmp .ne 7, 3) := by decide +kernel
theorem dX9_isLocked_101 : decode cX9_isLocked 101 = .ok (.iconst 1, 1) := by decide +kernel
theorem dX9_isLocked_102 : decode cX9_isLocked 102 = .ok (.goto 4, 3) := by decide +kernel
theorem dX9_isLocked_105 : decode cX9_isLocked 105 = .ok (.iconst 0, 1) := by decide +kernel
theorem dX9_isLocked_106 : decode cX9_isLocked 106 = .ok (.istore 4, 2) := by decide +kernel
theorem dX9_isLocked_108 : decode cX9_isLocked 108 = .ok (.iinc 5 1, 3) := by decide +kernel
theorem dX9_isLocked_111 : decode cX9_isLocked 111 = .ok (.goto (-55), 3) := by decide +kernel
theorem dX9_isLocked_114 : decode cX9_isLocked 114 = .ok (.iload 4, 2) := by decide +kernel
theorem dX9_isLocked_116 : decode cX9_isLocked 116 = .ok (.ifCond .eq 5, 3) := by decide +kernel
theorem dX9_isLocked_119 : decode cX9_isLocked 119 = .ok (.iconst 1, 1) := by decide +kernel
theorem dX9_isLocked_120 : decode cX9_isLocked 120 = .ok (.ireturn, 1) := by decide +kernel
theorem dX9_isLocked_121 : decode cX9_isLocked 121 = .ok (.iinc 2 1, 3) := by decide +kernel
theorem dX9_isLocked_124 : decode cX9_isLocked 124 = .ok (.goto (-111), 3) := by decide +kernel
theorem dX9_isLocked_127 : decode cX9_isLocked 127 = .ok (.iconst 0, 1) := by decide +kernel
theorem dX9_isLocked_128 : decode cX9_isLocked 128 = .ok (.ireturn, 1) := by decide +kernel
theorem dX9_isNow_0 : decode cX9_isNow 0 = .ok (.aload_n 0, 1) := by decide +kernel
theorem dX9_isNow_1 : decode cX9_isNow 1 = .ok (.getfield 105, 3) := by decide +kernel
theorem dX9_isNow_4 : decode cX9_isNow 4 = .ok (.iload_n 1, 1) := by decide +kernel
theorem dX9_isNow_5 : decode cX9_isNow 5 = .ok (.iaload, 1) := by decide +kernel
theorem dX9_isNow_6 : decode cX9_isNow 6 = .ok (.aload_n 0, 1) := by decide +kernel
theorem dX9_isNow_7 : decode cX9_isNow 7 = .ok (.getfield 126, 3) := by decide +kernel
theorem dX9_isNow_10 : decode cX9_isNow 10 = .ok (.iload_n 2, 1) := by decide +kernel
theorem dX9_isNow_11 : decode cX9_isNow 11 = .ok (.iconst 1, 1) := by decide +kernel
theorem dX9_isNow_12 : decode cX9_isNow 12 = .ok (.iadd, 1) := by decide +kernel
theorem dX9_isNow_13 : decode cX9_isNow 13 = .ok (.iaload, 1) := by decide +kernel
theorem dX9_isNow_14 : decode cX9_isNow 14 = .ok (.aload_n 0, 1) := by decide +kernel
theorem dX9_isNow_15 : decode cX9_isNow 15 = .ok (.getfield 126, 3) := by decide +kernel
theorem dX9_isNow_18 : decode cX9_isNow 18 = .ok (.iload_n 2, 1) := by decide +kernel
theorem dX9_isNow_19 : decode cX9_isNow 19 = .ok (.iaload, 1) := by decide +kernel
theorem dX9_isNow_20 : decode cX9_isNow 20 = .ok (.isub, 1) := by decide +kernel
theorem dX9_isNow_21 : decode cX9_isNow 21 = .ok (.if_icmp .ne 7, 3) := by decide +kernel
theorem dX9_isNow_24 : decode cX9_isNow 24 = .ok (.iconst 1, 1) := by decide +kernel
theorem dX9_isNow_25 : decode cX9_isNow 25 = .ok (.goto 4, 3) := by decide +kernel
theorem dX9_isNow_28 : decode cX9_isNow 28 = .ok (.iconst 0, 1) := by decide +kernel
theorem dX9_isNow_29 : decode cX9_isNow 29 = .ok (.istore_n 3, 1) := by decide +kernel
theorem dX9_isNow_30 : decode cX9_isNow 30 = .ok (.iconst 0, 1) := by decide +kernel
theorem dX9_isNow_31 : decode cX9_isNow 31 = .ok (.istore 4, 2) := by decide +kernel
theorem dX9_isNow_33 : decode cX9_isNow 33 = .ok (.iload 4, 2) := by decide +kernel
theorem dX9_isNow_35 : decode cX9_isNow 35 = .ok (.aload_n 0, 1) := by decide +kernel
theorem dX9_isNow_36 : decode cX9_isNow 36 = .ok (.getfield 105, 3) := by decide +kernel
theorem dX9_isNow_39 : decode cX9_isNow 39 = .ok (.iload_n 1, 1) := by decide +kernel
theorem dX9_isNow_40 : decode cX9_isNow 40 = .ok (.iaload, 1) := by decide +kernel
theorem dX9_isNow_41 : decode cX9_isNow 41 = .ok (.if_icmp .ge 50, 3) := by decide +kernel
theorem dX9_isNow_44 : decode cX9_isNow 44 = .ok (.iload_n 3, 1) := by decide +kernel
theorem dX9_isNow_45 : decode cX9_isNow 45 = .ok (.ifCond .eq 46, 3) := by decide +kernel
theorem dX9_isNow_48 : decode cX9_isNow 48 = .ok (.aload_n 0, 1) := by decide +kernel
theorem dX9_isNow_49 : decode cX9_isNow 49 = .ok (.getfield 108, 3) := by decide +kernel
theorem dX9_isNow_52 : decode cX9_isNow 52 = .ok (.aload_n 0, 1) := by decide +kernel
theorem dX9_isNow_53 : decode cX9_isNow 53 = .ok (.getfield 102, 3) := by decide +kernel
theorem dX9_isNow_56 : decode cX9_isNow 56 = .ok (.iload_n 1, 1) := by decide +kernel
theorem dX9_isNow_57 : decode cX9_isNow 57 = .ok (.iaload, 1) := by decide +kernel
theorem dX9_isNow_58 : decode cX9_isNow 58 = .ok (.iload 4, 2) := by decide +kernel
theorem dX9_isNow_60 : decode cX9_isNow 60 = .ok (.iadd, 1) := by decide +kernel
theorem dX9_isNow_61 : decode cX9_isNow 61 = .ok (.iaload, 1) := by decide +kernel
theorem dX9_isNow_62 : decode cX9_isNow 62 = .ok (.aload_n 0, 1) := by decide +kernel
theorem dX9_isNow_63 : decode cX9_isNow 63 = .ok (.getfield 123, 3) := by decide +kernel
theorem dX9_isNow_66 : decode cX9_isNow 66 = .ok (.aload_n 0, 1) := by decide +kernel
theorem dX9_isNow_67 : decode cX9_isNow 67 = .ok (.getfield 126, 3) := by decide +kernel
theorem dX9_isNow_70 : decode cX9_isNow 70 = .ok (.iload_n 2, 1) := by decide +kernel
theorem dX9_isNow_71 : decode cX9_isNow 71 = .ok (.iaload, 1) := by decide +kernel
theorem dX9_isNow_72 : decode cX9_isNow 72 = .ok (.iload 4, 2) := by decide +kernel
theorem dX9_isNow_74 : decode cX9_isNow 74 = .ok (.iadd, 1) := by decide +kernel
theorem dX9_isNow_75 : decode cX9_isNow 75 = .ok (.iaload, 1) := by decide +kernel
theorem dX9_isNow_76 : decode cX9_isNow 76 = .ok (.if_icmp .ne 7, 3) := by decide +kernel
theorem dX9_isNow_79 : decode cX9_isNow 79 = .ok (.iconst 1, 1) := by decide +kernel
theorem dX9_isNow_80 : decode cX9_isNow 80 = .ok (.goto 4, 3) := by decide +kernel
theorem dX9_isNow_83 : decode cX9_isNow 83 = .ok (.iconst 0, 1) := by decide +kernel
theorem dX9_isNow_84 : decode cX9_isNow 84 = .ok (.istore_n 3, 1) := by decide +kernel
theorem dX9_isNow_85 : decode cX9_isNow 85 = .ok (.iinc 4 1, 3) := by decide +kernel
theorem dX9_isNow_88 : decode cX9_isNow 88 = .ok (.goto (-55), 3) := by decide +kernel
theorem dX9_isNow_91 : decode cX9_isNow 91 = .ok (.iload_n 3, 1) := by decide +kernel
theorem dX9_isNow_92 : decode cX9_isNow 92 = .ok (.ireturn, 1) := by decide +kernel
theorem dX9_isPiece_0 : decode cX9_isPiece 0 = .ok (.iload_n 2, 1) := by decide +kernel
theorem dX9_isPiece_1 : decode cX9_isPiece 1 = .ok (.aload_n 0, 1) := by decide +kernel
theorem dX9_isPiece_2 : decode cX9_isPiece 2 = .ok (.getfield 7, 3) := by decide +kernel
theorem dX9_isPiece_5 : decode cX9_isPiece 5 = .ok (.iconst 4, 1) := by decide +kernel
theorem dX9_isPiece_6 : decode cX9_isPiece 6 = .ok (.iaload, 1) := by decide +kernel
theorem dX9_isPiece_7 : decode cX9_isPiece 7 = .ok (.if_icmp .lt 12, 3) := by decide +kernel
theorem dX9_isPiece_10 : decode cX9_isPiece 10 = .ok (.aload_n 0, 1) := by decide +kernel
theorem dX9_isPiece_11 : decode cX9_isPiece 11 = .ok (.getfield 204, 3) := by decide +kernel
theorem dX9_isPiece_14 : decode cX9_isPiece 14 = .ok (.bipush 40, 2) := by decide +kernel
theorem dX9_isPiece_16 : decode cX9_isPiece 16 = .ok (.if_icmp .ne 5, 3) := by decide +kernel
theorem dX9_isPiece_19 : decode cX9_isPiece 19 = .ok (.iconst 0, 1) := by decide +kernel
theorem dX9_isPiece_20 : decode cX9_isPiece 20 = .ok (.ireturn, 1) := by decide +kernel
theorem dX9_isPiece_21 : decode cX9_isPiece 21 = .ok (.aload_n 0, 1) := by decide +kernel
theorem dX9_isPiece_22 : decode cX9_isPiece 22 = .ok (.getfield 7, 3) := by decide +kernel
theorem dX9_isPiece_25 : decode cX9_isPiece 25 = .ok (.iconst 3, 1) := by decide +kernel
theorem dX9_isPiece_26 : decode cX9_isPiece 26 = .ok (.iaload, 1) := by decide +kernel
theorem dX9_isPiece_27 : decode cX9_isPiece 27 = .ok (.ifCond .ne 5, 3) := by decide +kernel
theorem dX9_isPiece_30 : decode cX9_isPiece 30 = .ok (.iconst 1, 1) := by decide +kernel
theorem dX9_isPiece_31 : decode cX9_isPiece 31 = .ok (.ireturn, 1) := by decide +kernel
theorem dX9_isPiece_32 : decode cX9_isPiece 32 = .ok (.iconst 0, 1) := by decide +kernel
theorem dX9_isPiece_33 : decode cX9_isPiece 33 = .ok (.istore_n 3, 1) := by decide +kernel
theorem dX9_isPiece_34 : decode cX9_isPiece 34 = .ok (.iload_n 3, 1) := by decide +kernel
theorem dX9_isPiece_35 : decode cX9_isPiece 35 = .ok (.iload_n 2, 1) := by decide +kernel
theorem dX9_isPiece_36 : decode cX9_isPiece 36 = .ok (.if_icmp .ge 20, 3) := by decide +kernel
theorem dX9_isPiece_39 : decode cX9_isPiece 39 = .ok (.aload_n 1, 1) := by decide +kernel
theorem dX9_isPiece_40 : decode cX9_isPiece 40 = .ok (.iload_n 3, 1) := by decide +kernel
theorem dX9_isPiece_41 : decode cX9_isPiece 41 = .ok (.iaload, 1) := by decide +kernel
theorem dX9_isPiece_42 : decode cX9_isPiece 42 = .ok (.invokestatic 207, 3) := by decide +kernel
theorem dX9_isPiece_45 : decode cX9_isPiece 45 = .ok (.ifCond .eq 5, 3) := by decide +kernel
theorem dX9_isPiece_48 : decode cX9_isPiece 48 = .ok (.iconst 1, 1) := by decide +kernel
theorem dX9_isPiece_49 : decode cX9_isPiece 49 = .ok (.ireturn, 1) := by decide +kernel
theorem dX9_isPiece_50 : decode cX9_isPiece 50 = .ok (.iinc 3 1, 3) := by decide +kernel
theorem dX9_isPiece_53 : decode cX9_isPiece 53 = .ok (.goto (-19), 3) := by decide +kernel
theorem dX9_isPiece_56 : decode cX9_isPiece 56 = .ok (.iconst 0, 1) := by decide +kernel
theorem dX9_isPiece_57 : decode cX9_isPiece 57 = .ok (.ireturn, 1) := by decide +kernel
theorem dX9_isPieceThere_0 : decode cX9_isPieceThere 0 = .ok (.iload_n 1, 1) := by decide +kernel
theorem dX9_isPieceThere_1 : decode cX9_isPieceThere 1 = .ok (.iconst 0, 1) := by decide +kernel
theorem dX9_isPieceThere_2 : decode cX9_isPieceThere 2 = .ok (.aload_n 0, 1) := by decide +kernel
theorem dX9_isPieceThere_3 : decode cX9_isPieceThere 3 = .ok (.getfield 204, 3) := by decide +kernel
theorem dX9_isPieceThere_6 : decode cX9_isPieceThere 6 = .ok (.iconst 1, 1) := by decide +kernel
theorem dX9_isPieceThere_7 : decode cX9_isPieceThere 7 = .ok (.isub, 1) := by decide +kernel
theorem dX9_isPieceThere_8 : decode cX9_isPieceThere 8 = .ok (.invokestatic 141, 3) := by decide +kernel
theorem dX9_isPieceThere_11 : decode cX9_isPieceThere 11 = .ok (.ireturn, 1) := by decide +kernel
theorem dX9_isWord_0 : decode cX9_isWord 0 = .ok (.iload_n 1, 1) := by decide +kernel
theorem dX9_isWord_1 : decode cX9_isWord 1 = .ok (.iconst 1, 1) := by decide +kernel
theorem dX9_isWord_2 : decode cX9_isWord 2 = .ok (.bipush 8, 2) := by decide +kernel
theorem dX9_isWord_4 : decode cX9_isWord 4 = .ok (.invokestatic 141, 3) := by decide +kernel
theorem dX9_isWord_7 : decode cX9_isWord 7 = .ok (.istore_n 2, 1) := by decide +kernel
theorem dX9_isWord_8 : decode cX9_isWord 8 = .ok (.iconst 0, 1) := by decide +kernel
theorem dX9_isWord_9 : decode cX9_isWord 9 = .ok (.istore_n 3, 1) := by decide +kernel
theorem dX9_isWord_10 : decode cX9_isWord 10 = .ok (.iload_n 3, 1) := by decide +kernel
theorem dX9_isWord_11 : decode cX9_isWord 11 = .ok (.iload_n 1, 1) := by decide +kernel
theorem dX9_isWord_12 : decode cX9_isWord 12 = .ok (.if_icmp .ge 27, 3) := by decide +kernel
theorem dX9_isWord_15 : decode cX9_isWord 15 = .ok (.iload_n 2, 1) := by decide +kernel
theorem dX9_isWord_16 : decode cX9_isWord 16 = .ok (.ifCond .eq 23, 3) := by decide +kernel
theorem dX9_isWord_19 : decode cX9_isWord 19 = .ok (.aload_n 0, 1) := by decide +kernel
theorem dX9_isWord_20 : decode cX9_isWord 20 = .ok (.getfield 23, 3) := by decide +kernel
theorem dX9_isWord_23 : decode cX9_isWord 23 = .ok (.iload_n 3, 1) := by decide +kernel
theorem dX9_isWord_24 : decode cX9_isWord 24 = .ok (.iaload, 1) := by decide +kernel
theorem dX9_isWord_25 : decode cX9_isWord 25 = .ok (.bipush 97, 2) := by decide +kernel
theorem dX9_isWord_27 : decode cX9_isWord 27 = .ok (.bipush 122, 2) := by decide +kernel
theorem dX9_isWord_29 : decode cX9_isWord 29 = .ok (.invokestatic 141, 3) := by decide +kernel
theorem dX9_isWord_32 : decode cX9_isWord 32 = .ok (.istore_n 2, 1) := by decide +kernel
