theorem dX9_cutsFile_17 : decode cX9_cutsFile 17 = .ok (.if_icmp .ge 24, 3) := by decide +kernel
theorem dX9_cutsFile_41 : decode cX9_cutsFile 41 = .ok (.aload_n 0, 1) := by decide +kernel
theorem dX9_cutsFile_42 : decode cX9_cutsFile 42 = .ok (.invokevirtual 241, 3) := by decide +kernel
theorem dX9_cutsFile_45 : decode cX9_cutsFile 45 = .ok (.return_, 1) := by decide +kernel
theorem dX9_cutsLines_0 : decode cX9_cutsLines 0 = .ok (.iconst 0, 1) := by decide +kernel
theorem dX9_cutsLines_1 : decode cX9_cutsLines 1 = .ok (.istore 6, 2) := by decide +kernel
theorem dX9_cutsLines_3 : decode cX9_cutsLines 3 = .ok (.iload 6, 2) := by decide +kernel
theorem dX9_cutsLines_5 : decode cX9_cutsLines 5 = .ok (.iload_n 2, 1) := by decide +kernel
theorem dX9_cutsLines_6 : decode cX9_cutsLines 6 = .ok (.if_icmp .ge 202, 3) := by decide +kernel
theorem dX9_cutsLines_208 : decode cX9_cutsLines 208 = .ok (.return_, 1) := by decide +kernel
theorem dX9_cutsMarkup_0 : decode cX9_cutsMarkup 0 = .ok (.iconst 0, 1) := by decide +kernel
theorem dX9_cutsMarkup_1 : decode cX9_cutsMarkup 1 = .ok (.istore 6, 2) := by decide +kernel
theorem dX9_cutsMarkup_3 : decode cX9_cutsMarkup 3 = .ok (.iload 6, 2) := by decide +kernel
theorem dX9_cutsMarkup_5 : decode cX9_cutsMarkup 5 = .ok (.iload_n 2, 1) := by decide +kernel
theorem dX9_cutsMarkup_6 : decode cX9_cutsMarkup 6 = .ok (.if_icmp .ge 104, 3) := by decide +kernel
theorem dX9_cutsMarkup_110 : decode cX9_cutsMarkup 110 = .ok (.return_, 1) := by decide +kernel
theorem dX9_cutsQuotes_0 : decode cX9_cutsQuotes 0 = .ok (.aload_n 1, 1) := by decide +kernel
theorem dX9_cutsQuotes_1 : decode cX9_cutsQuotes 1 = .ok (.iload_n 2, 1) := by decide +kernel
theorem dX9_cutsQuotes_2 : decode cX9_cutsQuotes 2 = .ok (.iconst 0, 1) := by decide +kernel
theorem dX9_cutsQuotes_3 : decode cX9_cutsQuotes 3 = .ok (.bipush 34, 2) := by decide +kernel
theorem dX9_cutsQuotes_5 : decode cX9_cutsQuotes 5 = .ok (.bipush 34, 2) := by decide +kernel
theorem dX9_cutsQuotes_7 : decode cX9_cutsQuotes 7 = .ok (.invokestatic 148, 3) := by decide +kernel
theorem dX9_cutsQuotes_10 : decode cX9_cutsQuotes 10 = .ok (.istore 6, 2) := by decide +kernel
theorem dX9_cutsQuotes_12 : decode cX9_cutsQuotes 12 = .ok (.iload 6, 2) := by decide +kernel
theorem dX9_cutsQuotes_14 : decode cX9_cutsQuotes 14 = .ok (.iload_n 2, 1) := by decide +kernel
theorem dX9_cutsQuotes_15 : decode cX9_cutsQuotes 15 = .ok (.if_icmp .ge 151, 3) := by decide +kernel
theorem dX9_cutsQuotes_166 : decode cX9_cutsQuotes 166 = .ok (.return_, 1) := by decide +kernel
theorem dX9_cutsTable_0 : decode cX9_cutsTable 0 = .ok (.iconst 0, 1) := by decide +kernel
theorem dX9_cutsTable_1 : decode cX9_cutsTable 1 = .ok (.istore 6, 2) := by decide +kernel
theorem dX9_cutsTable_3 : decode cX9_cutsTable 3 = .ok (.iload 6, 2) := by decide +kernel
theorem dX9_cutsTable_5 : decode cX9_cutsTable 5 = .ok (.iload_n 2, 1) := by decide +kernel
theorem dX9_cutsTable_6 : decode cX9_cutsTable 6 = .ok (.if_icmp .ge 154, 3) := by decide +kernel
theorem dX9_cutsTable_160 : decode cX9_cutsTable 160 = .ok (.return_, 1) := by decide +kernel
theorem dX9_end_0 : decode cX9_end 0 = .ok (.aload_n 0, 1) := by decide +kernel
theorem dX9_end_1 : decode cX9_end 1 = .ok (.iconst 0, 1) := by decide +kernel
theorem dX9_end_2 : decode cX9_end 2 = .ok (.putfield 138, 3) := by decide +kernel
theorem dX9_end_5 : decode cX9_end 5 = .ok (.iload_n 1, 1) := by decide +kernel
theorem dX9_end_6 : decode cX9_end 6 = .ok (.iconst 0, 1) := by decide +kernel
theorem dX9_end_7 : decode cX9_end 7 = .ok (.aload_n 0, 1) := by decide +kernel
theorem dX9_end_8 : decode cX9_end 8 = .ok (.getfield 337, 3) := by decide +kernel
theorem dX9_end_11 : decode cX9_end 11 = .ok (.invokestatic 141, 3) := by decide +kernel
theorem dX9_end_14 : decode cX9_end 14 = .ok (.ifCond .ne 5, 3) := by decide +kernel
theorem dX9_end_17 : decode cX9_end 17 = .ok (.iconst 0, 1) := by decide +kernel
theorem dX9_end_18 : decode cX9_end 18 = .ok (.ireturn, 1) := by decide +kernel
theorem dX9_end_19 : decode cX9_end 19 = .ok (.aload_n 0, 1) := by decide +kernel
theorem dX9_end_20 : decode cX9_end 20 = .ok (.iload_n 1, 1) := by decide +kernel
theorem dX9_end_21 : decode cX9_end 21 = .ok (.putfield 337, 3) := by decide +kernel
theorem dX9_end_24 : decode cX9_end 24 = .ok (.iconst 1, 1) := by decide +kernel
theorem dX9_end_25 : decode cX9_end 25 = .ok (.ireturn, 1) := by decide +kernel
theorem dX9_endOf_0 : decode cX9_endOf 0 = .ok (.iload_n 2, 1) := by decide +kernel
theorem dX9_endOf_1 : decode cX9_endOf 1 = .ok (.istore 5, 2) := by decide +kernel
theorem dX9_endOf_3 : decode cX9_endOf 3 = .ok (.iload 5, 2) := by decide +kernel
theorem dX9_endOf_5 : decode cX9_endOf 5 = .ok (.iload_n 1, 1) := by decide +kernel
theorem dX9_endOf_6 : decode cX9_endOf 6 = .ok (.if_icmp .ge 26, 3) := by decide +kernel
theorem dX9_endOf_32 : decode cX9_endOf 32 = .ok (.iload 5, 2) := by decide +kernel
theorem dX9_endOf_34 : decode cX9_endOf 34 = .ok (.ireturn, 1) := by decide +kernel
theorem dX9_fault_0 : decode cX9_fault 0 = .ok (.aload_n 0, 1) := by decide +kernel
theorem dX9_fault_1 : decode cX9_fault 1 = .ok (.iconst 0, 1) := by decide +kernel
theorem dX9_fault_2 : decode cX9_fault 2 = .ok (.putfield 138, 3) := by decide +kernel
theorem dX9_fault_5 : decode cX9_fault 5 = .ok (.aload_n 0, 1) := by decide +kernel
theorem dX9_fault_6 : decode cX9_fault 6 = .ok (.getfield 26, 3) := by decide +kernel
theorem dX9_fault_9 : decode cX9_fault 9 = .ok (.ireturn, 1) := by decide +kernel
theorem dX9_feed_0 : decode cX9_feed 0 = .ok (.aload_n 0, 1) := by decide +kernel
theorem dX9_feed_1 : decode cX9_feed 1 = .ok (.iconst 0, 1) := by decide +kernel
theorem dX9_feed_2 : decode cX9_feed 2 = .ok (.putfield 138, 3) := by decide +kernel
theorem dX9_feed_5 : decode cX9_feed 5 = .ok (.aload_n 0, 1) := by decide +kernel
theorem dX9_feed_6 : decode cX9_feed 6 = .ok (.getfield 337, 3) := by decide +kernel
theorem dX9_feed_9 : decode cX9_feed 9 = .ok (.bipush 20, 2) := by decide +kernel
theorem dX9_feed_11 : decode cX9_feed 11 = .ok (.iadd, 1) := by decide +kernel
theorem dX9_feed_12 : decode cX9_feed 12 = .ok (.sipush 400, 3) := by decide +kernel
theorem dX9_feed_15 : decode cX9_feed 15 = .ok (.if_icmp .le 5, 3) := by decide +kernel
theorem dX9_feed_20 : decode cX9_feed 20 = .ok (.iconst 0, 1) := by decide +kernel
theorem dX9_feed_21 : decode cX9_feed 21 = .ok (.istore 6, 2) := by decide +kernel
theorem dX9_feed_23 : decode cX9_feed 23 = .ok (.iload 6, 2) := by decide +kernel
theorem dX9_feed_25 : decode cX9_feed 25 = .ok (.bipush 20, 2) := by decide +kernel
theorem dX9_feed_27 : decode cX9_feed 27 = .ok (.if_icmp .ge 93, 3) := by decide +kernel
theorem dX9_feed_30 : decode cX9_feed 30 = .ok (.iload 6, 2) := by decide +kernel
theorem dX9_feed_32 : decode cX9_feed 32 = .ok (.iconst 4, 1) := by decide +kernel
theorem dX9_feed_33 : decode cX9_feed 33 = .ok (.if_icmp .ge 7, 3) := by decide +kernel
theorem dX9_feed_36 : decode cX9_feed 36 = .ok (.iload_n 1, 1) := by decide +kernel
theorem dX9_feed_37 : decode cX9_feed 37 = .ok (.goto 39, 3) := by decide +kernel
theorem dX9_feed_40 : decode cX9_feed 40 = .ok (.iload 6, 2) := by decide +kernel
theorem dX9_feed_42 : decode cX9_feed 42 = .ok (.bipush 8, 2) := by decide +kernel
theorem dX9_feed_44 : decode cX9_feed 44 = .ok (.if_icmp .ge 7, 3) := by decide +kernel
theorem dX9_feed_47 : decode cX9_feed 47 = .ok (.iload_n 2, 1) := by decide +kernel
theorem dX9_feed_48 : decode cX9_feed 48 = .ok (.goto 28, 3) := by decide +kernel
theorem dX9_feed_51 : decode cX9_feed 51 = .ok (.iload 6, 2) := by decide +kernel
theorem dX9_feed_53 : decode cX9_feed 53 = .ok (.bipush 12, 2) := by decide +kernel
theorem dX9_feed_55 : decode cX9_feed 55 = .ok (.if_icmp .ge 7, 3) := by decide +kernel
theorem dX9_feed_58 : decode cX9_feed 58 = .ok (.iload_n 3, 1) := by decide +kernel
theorem dX9_feed_59 : decode cX9_feed 59 = .ok (.goto 17, 3) := by decide +kernel
theorem dX9_feed_62 : decode cX9_feed 62 = .ok (.iload 6, 2) := by decide +kernel
theorem dX9_feed_64 : decode cX9_feed 64 = .ok (.bipush 16, 2) := by decide +kernel
theorem dX9_feed_66 : decode cX9_feed 66 = .ok (.if_icmp .ge 8, 3) := by decide +kernel
theorem dX9_feed_69 : decode cX9_feed 69 = .ok (.iload 4, 2) := by decide +kernel
theorem dX9_feed_71 : decode cX9_feed 71 = .ok (.goto 5, 3) := by decide +kernel
theorem dX9_feed_74 : decode cX9_feed 74 = .ok (.iload 5, 2) := by decide +kernel
theorem dX9_feed_76 : decode cX9_feed 76 = .ok (.istore 7, 2) := by decide +kernel
theorem dX9_feed_78 : decode cX9_feed 78 = .ok (.aload_n 0, 1) := by decide +kernel
theorem dX9_feed_79 : decode cX9_feed 79 = .ok (.getfield 23, 3) := by decide +kernel
theorem dX9_feed_82 : decode cX9_feed 82 = .ok (.aload_n 0, 1) := by decide +kernel
theorem dX9_feed_83 : decode cX9_feed 83 = .ok (.getfield 337, 3) := by decide +kernel
theorem dX9_feed_86 : decode cX9_feed 86 = .ok (.iload 7, 2) := by decide +kernel
theorem dX9_feed_88 : decode cX9_feed 88 = .ok (.bipush 24, 2) := by decide +kernel
theorem dX9_feed_90 : decode cX9_feed 90 = .ok (.bipush 8, 2) := by decide +kernel
theorem dX9_feed_92 : decode cX9_feed 92 = .ok (.iload 6, 2) := by decide +kernel
theorem dX9_feed_94 : decode cX9_feed 94 = .ok (.iconst 4, 1) := by decide +kernel
theorem dX9_feed_95 : decode cX9_feed 95 = .ok (.irem, 1) := by decide +kernel
theorem dX9_feed_96 : decode cX9_feed 96 = .ok (.imul, 1) := by decide +kernel
theorem dX9_feed_97 : decode cX9_feed 97 = .ok (.isub, 1) := by decide +kernel
theorem dX9_feed_98 : decode cX9_feed 98 = .ok (.iushr, 1) := by decide +kernel
theorem dX9_feed_99 : decode cX9_feed 99 = .ok (.sipush 255, 3) := by decide +kernel
theorem dX9_feed_102 : decode cX9_feed 102 = .ok (.iand, 1) := by decide +kernel
theorem dX9_feed_103 : decode cX9_feed 103 = .ok (.iastore, 1) := by decide +kernel
theorem dX9_feed_104 : decode cX9_feed 104 = .ok (.aload_n 0, 1) := by decide +kernel
theorem dX9_feed_105 : decode cX9_feed 105 = .ok (.dup, 1) := by decide +kernel
theorem dX9_feed_106 : decode cX9_feed 106 = .ok (.getfield 337, 3) := by decide +kernel
theorem dX9_feed_109 : decode cX9_feed 109 = .ok (.iconst 1, 1) := by decide +kernel
theorem dX9_feed_110 : decode cX9_feed 110 = .ok (.iadd, 1) := by decide +kernel
theorem dX9_feed_111 : decode cX9_feed 111 = .ok (.putfield 337, 3) := by decide +kernel
theorem dX9_feed_114 : decode cX9_feed 114 = .ok (.iinc 6 1, 3) := by decide +kernel
theorem dX9_feed_117 : decode cX9_feed 117 = .ok (.goto (-94), 3) := by decide +kernel
theorem dX9_feed_120 : decode cX9_feed 120 = .ok (.aload_n 0, 1) := by decide +kernel
theorem dX9_feed_121 : decode cX9_feed 121 = .ok (.getfield 337, 3) := by decide +kernel
theorem dX9_feed_124 : decode cX9_feed 124 = .ok (.ireturn, 1) := by decide +kernel
theorem dX9_file_0 : decode cX9_file 0 = .ok (.aload_n 0, 1) := by decide +kernel
theorem dX9_file_1 : decode cX9_file 1 = .ok (.iconst 0, 1) := by decide +kernel
theorem dX9_file_2 : decode cX9_file 2 = .ok (.putfield 138, 3) := by decide +kernel
theorem dX9_file_5 : decode cX9_file 5 = .ok (.aload_n 0, 1) := by decide +kernel
theorem dX9_file_6 : decode cX9_file 6 = .ok (.invokevirtual 426, 3) := by decide +kernel
theorem dX9_file_9 : decode cX9_file 9 = .ok (.istore_n 1, 1) := by decide +kernel
theorem dX9_file_10 : decode cX9_file 10 = .ok (.aload_n 0, 1) := by decide +kernel
theorem dX9_file_11 : decode cX9_file 11 = .ok (.getfield 7, 3) := by decide +kernel
theorem dX9_file_14 : decode cX9_file 14 = .ok (.iconst 0, 1) := by decide +kernel
theorem dX9_file_15 : decode cX9_file 15 = .ok (.iload_n 1, 1) := by decide +kernel
theorem dX9_file_16 : decode cX9_file 16 = .ok (.iastore, 1) := by decide +kernel
theorem dX9_file_17 : decode cX9_file 17 = .ok (.iconst 0, 1) := by decide +kernel
theorem dX9_file_18 : decode cX9_file 18 = .ok (.istore_n 2, 1) := by decide +kernel
theorem dX9_file_19 : decode cX9_file 19 = .ok (.iload_n 2, 1) := by decide +kernel
theorem dX9_file_20 : decode cX9_file 20 = .ok (.iload_n 1, 1) := by decide +kernel
theorem dX9_file_21 : decode cX9_file 21 = .ok (.if_icmp .ge 24, 3) := by decide +kernel
theorem dX9_file_45 : decode cX9_file 45 = .ok (.aload_n 0, 1) := by decide +kernel
theorem dX9_file_46 : decode cX9_file 46 = .ok (.invokevirtual 322, 3) := by decide +kernel
theorem dX9_file_49 : decode cX9_file 49 = .ok (.aload_n 0, 1) := by decide +kernel
theorem dX9_file_50 : decode cX9_file 50 = .ok (.iconst 0, 1) := by decide +kernel
theorem dX9_file_51 : decode cX9_file 51 = .ok (.putfield 325, 3) := by decide +kernel
theorem dX9_file_54 : decode cX9_file 54 = .ok (.aload_n 0, 1) := by decide +kernel
theorem dX9_file_55 : decode cX9_file 55 = .ok (.getfield 204, 3) := by decide +kernel
theorem dX9_file_58 : decode cX9_file 58 = .ok (.ireturn, 1) := by decide +kernel
theorem dX9_found_0 : decode cX9_found 0 = .ok (.aload_n 0, 1) := by decide +kernel
theorem dX9_found_1 : decode cX9_found 1 = .ok (.invokevirtual 426, 3) := by decide +kernel
theorem dX9_found_4 : decode cX9_found 4 = .ok (.istore_n 1, 1) := by decide +kernel
theorem dX9_found_5 : decode cX9_found 5 = .ok (.aload_n 0, 1) := by decide +kernel
theorem dX9_found_6 : decode cX9_found 6 = .ok (.aload_n 0, 1) := by decide +kernel
theorem dX9_found_7 : decode cX9_found 7 = .ok (.iload_n 1, 1) := by decide +kernel
theorem dX9_found_8 : decode cX9_found 8 = .ok (.invokevirtual 432, 3) := by decide +kernel
theorem dX9_found_11 : decode cX9_found 11 = .ok (.ifCond .eq 7, 3) := by decide +kernel
theorem dX9_found_18 : decode cX9_found 18 = .ok (.iconst 1, 1) := by decide +kernel
theorem dX9_found_19 : decode cX9_found 19 = .ok (.putfield 138, 3) := by decide +kernel
theorem dX9_found_22 : decode cX9_found 22 = .ok (.aload_n 0, 1) := by decide +kernel
theorem dX9_found_23 : decode cX9_found 23 = .ok (.getfield 138, 3) := by decide +kernel
theorem dX9_found_26 : decode cX9_found 26 = .ok (.ifCond .le 5, 3) := by decide +kernel
theorem dX9_found_29 : decode cX9_found 29 = .ok (.lconst 0, 1) := by decide +kernel
theorem dX9_found_30 : decode cX9_found 30 = .ok (.lreturn, 1) := by decide +kernel
theorem dX9_free_0 : decode cX9_free 0 = .ok (.aload_n 0, 1) := by decide +kernel
theorem dX9_free_1 : decode cX9_free 1 = .ok (.invokevirtual 420, 3) := by decide +kernel
theorem dX9_free_4 : decode cX9_free 4 = .ok (.aload_n 0, 1) := by decide +kernel
theorem dX9_free_5 : decode cX9_free 5 = .ok (.aload_n 0, 1) := by decide +kernel
theorem dX9_free_6 : decode cX9_free 6 = .ok (.iload_n 1, 1) := by decide +kernel
theorem dX9_free_7 : decode cX9_free 7 = .ok (.invokevirtual 367, 3) := by decide +kernel
theorem dX9_free_10 : decode cX9_free 10 = .ok (.iconst 1, 1) := by decide +kernel
theorem dX9_free_11 : decode cX9_free 11 = .ok (.invokevirtual 429, 3) := by decide +kernel
theorem dX9_free_14 : decode cX9_free 14 = .ok (.ifCond .eq 10, 3) := by decide +kernel
theorem dX9_free_24 : decode cX9_free 24 = .ok (.iconst 0, 1) := by decide +kernel
theorem dX9_free_25 : decode cX9_free 25 = .ok (.ireturn, 1) := by decide +kernel
theorem dX9_free0_0 : decode cX9_free0 0 = .ok (.aload_n 0, 1) := by decide +kernel
theorem dX9_free0_1 : decode cX9_free0 1 = .ok (.iload_n 1, 1) := by decide +kernel
theorem dX9_free0_2 : decode cX9_free0 2 = .ok (.invokevirtual 293, 3) := by decide +kernel
theorem dX9_free0_5 : decode cX9_free0 5 = .ok (.ifCond .ne 5, 3) := by decide +kernel
theorem dX9_free0_8 : decode cX9_free0 8 = .ok (.iconst 1, 1) := by decide +kernel
theorem dX9_free0_9 : decode cX9_free0 9 = .ok (.ireturn, 1) := by decide +kernel
theorem dX9_here_0 : decode cX9_here 0 = .ok (.aload_n 0, 1) := by decide +kernel
theorem dX9_here_1 : decode cX9_here 1 = .ok (.getfield 340, 3) := by decide +kernel
theorem dX9_here_4 : decode cX9_here 4 = .ok (.aload_n 0, 1) := by decide +kernel
theorem dX9_here_5 : decode cX9_here 5 = .ok (.getfield 343, 3) := by decide +kernel
theorem dX9_here_8 : decode cX9_here 8 = .ok (.if_icmp .ge 30, 3) := by decide +kernel
theorem dX9_here_38 : decode cX9_here 38 = .ok (.aload_n 0, 1) := by decide +kernel
theorem dX9_here_39 : decode cX9_here 39 = .ok (.getfield 340, 3) := by decide +kernel
theorem dX9_here_42 : decode cX9_here 42 = .ok (.ireturn, 1) := by decide +kernel
theorem dX9_holder_0 : decode cX9_holder 0 = .ok (.aload_n 0, 1) := by decide +kernel
theorem dX9_holder_1 : decode cX9_holder 1 = .ok (.iconst 0, 1) := by decide +kernel
theorem dX9_holder_2 : decode cX9_holder 2 = .ok (.putfield 138, 3) := by decide +kernel
theorem dX9_holder_5 : decode cX9_holder 5 = .ok (.iconst 0, 1) := by decide +kernel
theorem dX9_holder_6 : decode cX9_holder 6 = .ok (.istore_n 2, 1) := by decide +kernel
theorem dX9_holder_7 : decode cX9_holder 7 = .ok (.iload_n 2, 1) := by decide +kernel
theorem dX9_holder_8 : decode cX9_holder 8 = .ok (.aload_n 0, 1) := by decide +kernel
theorem dX9_holder_9 : decode cX9_holder 9 = .ok (.getfield 204, 3) := by decide +kernel
theorem dX9_holder_12 : decode cX9_holder 12 = .ok (.if_icmp .ge 32, 3) := by decide +kernel
theorem dX9_holder_44 : decode cX9_holder 44 = .ok (.iconst (-1), 1) := by decide +kernel
theorem dX9_holder_45 : decode cX9_holder 45 = .ok (.ireturn, 1) := by decide +kernel
theorem dX9_image_0 : decode cX9_image 0 = .ok (.aload_n 0, 1) := by decide +kernel
theorem dX9_image_1 : decode cX9_image 1 = .ok (.iconst 0, 1) := by decide +kernel
theorem dX9_image_2 : decode cX9_image 2 = .ok (.putfield 138, 3) := by decide +kernel
theorem dX9_image_5 : decode cX9_image 5 = .ok (.iconst 0, 1) := by decide +kernel
theorem dX9_image_6 : decode cX9_image 6 = .ok (.istore_n 1, 1) := by decide +kernel
theorem dX9_image_7 : decode cX9_image 7 = .ok (.iload_n 1, 1) := by decide +kernel
theorem dX9_image_8 : decode cX9_image 8 = .ok (.sipush 4347, 3) := by decide +kernel
theorem dX9_image_11 : decode cX9_image 11 = .ok (.if_icmp .ge 21, 3) := by decide +kernel
theorem dX9_image_14 : decode cX9_image 14 = .ok (.aload_n 0, 1) := by decide +kernel
theorem dX9_image_15 : decode cX9_image 15 = .ok (.getfield 16, 3) := by decide +kernel
theorem dX9_image_18 : decode cX9_image 18 = .ok (.iload_n 1, 1) := by decide +kernel
theorem dX9_image_19 : decode cX9_image 19 = .ok (.aload_n 0, 1) := by decide +kernel
theorem dX9_image_20 : decode cX9_image 20 = .ok (.getfield 7, 3) := by decide +kernel
theorem dX9_image_23 : decode cX9_image 23 = .ok (.iload_n 1, 1) := by decide +kernel
theorem dX9_image_24 : decode cX9_image 24 = .ok (.iaload, 1) := by decide +kernel
theorem dX9_image_25 : decode cX9_image 25 = .ok (.iastore, 1) := by decide +kernel
theorem dX9_image_26 : decode cX9_image 26 = .ok (.iinc 1 1, 3) := by decide +kernel
theorem dX9_image_29 : decode cX9_image 29 = .ok (.goto (-22), 3) := by decide +kernel
theorem dX9_image_32 : decode cX9_image 32 = .ok (.aload_n 0, 1) := by decide +kernel
theorem dX9_image_33 : decode cX9_image 33 = .ok (.iconst 1, 1) := by decide +kernel
theorem dX9_image_34 : decode cX9_image 34 = .ok (.putfield 468, 3) := by decide +kernel
theorem dX9_image_37 : decode cX9_image 37 = .ok (.return_, 1) := by decide +kernel
theorem dX9_isDone_0 : decode cX9_isDone 0 = .ok (.aload_n 0, 1) := by decide +kernel
theorem dX9_isDone_1 : decode cX9_isDone 1 = .ok (.iload_n 1, 1) := by decide +kernel
theorem dX9_isDone_2 : decode cX9_isDone 2 = .ok (.putfield 328, 3) := by decide +kernel
theorem dX9_isDone_5 : decode cX9_isDone 5 = .ok (.aload_n 0, 1) := by decide +kernel
theorem dX9_isDone_6 : decode cX9_isDone 6 = .ok (.iload_n 1, 1) := by decide +kernel
theorem dX9_isDone_7 : decode cX9_isDone 7 = .ok (.ifCond .le 7, 3) := by decide +kernel
theorem dX9_isDone_10 : decode cX9_isDone 10 = .ok (.iload_n 2, 1) := by decide +kernel
theorem dX9_isDone_11 : decode cX9_isDone 11 = .ok (.goto 4, 3) := by decide +kernel
theorem dX9_isDone_14 : decode cX9_isDone 14 = .ok (.iconst 0, 1) := by decide +kernel
theorem dX9_isDone_15 : decode cX9_isDone 15 = .ok (.putfield 138, 3) := by decide +kernel
theorem dX9_isDone_18 : decode cX9_isDone 18 = .ok (.iload_n 1, 1) := by decide +kernel
theorem dX9_isDone_19 : decode cX9_isDone 19 = .ok (.ifCond .ne 10, 3) := by decide +kernel
theorem dX9_isDone_22 : decode cX9_isDone 22 = .ok (.aload_n 0, 1) := by decide +kernel
theorem dX9_isDone_23 : decode cX9_isDone 23 = .ok (.invokevirtual 331, 3) := by decide +kernel
theorem dX9_isDone_26 : decode cX9_isDone 26 = .ok (.goto 7, 3) := by decide +kernel
theorem dX9_isDone_29 : decode cX9_isDone 29 = .ok (.aload_n 0, 1) := by decide +kernel
theorem dX9_isDone_30 : decode cX9_isDone 30 = .ok (.invokevirtual 334, 3) := by decide +kernel
theorem dX9_isDone_33 : decode cX9_isDone 33 = .ok (.iload_n 1, 1) := by decide +kernel
theorem dX9_isDone_34 : decode cX9_isDone 34 = .ok (.ifCond .ne 7, 3) := by decide +kernel
theorem dX9_isDone_37 : decode cX9_isDone 37 = .ok (.iconst 1, 1) := by decide +kernel
theorem dX9_isDone_38 : decode cX9_isDone 38 = .ok (.goto 4, 3) := by decide +kernel
theorem dX9_isDone_41 : decode cX9_isDone 41 = .ok (.iconst 0, 1) := by decide +kernel
theorem dX9_isDone_42 : decode cX9_isDone 42 = .ok (.ireturn, 1) := by decide +kernel
theorem dX9_isIn_0 : decode cX9_isIn 0 = .ok (.iload_n 0, 1) := by decide +kernel
theorem dX9_isIn_1 : decode cX9_isIn 1 = .ok (.iload_n 1, 1) := by decide +kernel
theorem dX9_isIn_2 : decode cX9_isIn 2 = .ok (.if_icmp .lt 12, 3) := by decide +kernel
theorem dX9_isIn_5 : decode cX9_isIn 5 = .ok (.iload_n 0, 1) := by decide +kernel
theorem dX9_isIn_6 : decode cX9_isIn 6 = .ok (.iload_n 2, 1) := by decide +kernel
theorem dX9_isIn_7 : decode cX9_isIn 7 = .ok (.if_icmp .gt 7, 3) := by decide +kernel
theorem dX9_isIn_10 : decode cX9_isIn 10 = .ok (.iconst 1, 1) := by decide +kernel
theorem dX9_isIn_11 : decode cX9_isIn 11 = .ok (.goto 4, 3) := by decide +kernel
theorem dX9_isIn_14 : decode cX9_isIn 14 = .ok (.iconst 0, 1) := by decide +kernel
theorem dX9_isIn_15 : decode cX9_isIn 15 = .ok (.ireturn, 1) := by decide +kernel
theorem dX9_isPieceThere_0 : decode cX9_isPieceThere 0 = .ok (.iload_n 1, 1) := by decide +kernel
theorem dX9_isPieceThere_1 : decode cX9_isPieceThere 1 = .ok (.iconst 0, 1) := by decide +kernel
theorem dX9_isPieceThere_2 : decode cX9_isPieceThere 2 = .ok (.aload_n 0, 1) := by decide +kernel
theorem dX9_isPieceThere_3 : decode cX9_isPieceThere 3 = .ok (.getfield 204, 3) := by decide +kernel
theorem dX9_isPieceThere_6 : decode cX9_isPieceThere 6 = .ok (.iconst 1, 1) := by decide +kernel
theorem dX9_isPieceThere_7 : decode cX9_isPieceThere 7 = .ok (.isub, 1) := by decide +kernel
theorem dX9_isPieceThere_8 : decode cX9_isPieceThere 8 = .ok (.invokestatic 141, 3) := by decide +kernel
theorem dX9_isPieceThere_11 : decode cX9_isPieceThere 11 = .ok (.ireturn, 1) := by decide +kernel
theorem dX9_isWord_0 : decode cX9_isWord 0 = .ok (.iload_n 1, 1) := by decide +kernel
theorem dX9_isWord_1 : decode cX9_isWord 1 = .ok (.iconst 1, 1) := by decide +kernel
theorem dX9_isWord_2 : decode cX9_isWord 2 = .ok (.bipush 8, 2) := by decide +kernel
theorem dX9_isWord_4 : decode cX9_isWord 4 = .ok (.invokestatic 141, 3) := by decide +kernel
theorem dX9_isWord_7 : decode cX9_isWord 7 = .ok (.istore_n 2, 1) := by decide +kernel
theorem dX9_isWord_8 : decode cX9_isWord 8 = .ok (.iconst 0, 1) := by decide +kernel
theorem dX9_isWord_9 : decode cX9_isWord 9 = .ok (.istore_n 3, 1) := by decide +kernel
theorem dX9_isWord_10 : decode cX9_isWord 10 = .ok (.iload_n 3, 1) := by decide +kernel
theorem dX9_isWord_11 : decode cX9_isWord 11 = .ok (.iload_n 1, 1) := by decide +kernel
theorem dX9_isWord_12 : decode cX9_isWord 12 = .ok (.if_icmp .ge 27, 3) := by decide +kernel
theorem dX9_isWord_39 : decode cX9_isWord 39 = .ok (.iload_n 2, 1) := by decide +kernel
theorem dX9_isWord_40 : decode cX9_isWord 40 = .ok (.ireturn, 1) := by decide +kernel
theorem dX9_kept_0 : decode cX9_kept 0 = .ok (.aload_n 0, 1) := by decide +kernel
theorem dX9_kept_1 : decode cX9_kept 1 = .ok (.aload_n 0, 1) := by decide +kernel
theorem dX9_kept_2 : decode cX9_kept 2 = .ok (.iload_n 1, 1) := by decide +kernel
theorem dX9_kept_3 : decode cX9_kept 3 = .ok (.invokevirtual 293, 3) := by decide +kernel
theorem dX9_kept_6 : decode cX9_kept 6 = .ok (.ifCond .eq 7, 3) := by decide +kernel
theorem dX9_kept_13 : decode cX9_kept 13 = .ok (.iconst 1, 1) := by decide +kernel
theorem dX9_kept_14 : decode cX9_kept 14 = .ok (.putfield 138, 3) := by decide +kernel
theorem dX9_kept_17 : decode cX9_kept 17 = .ok (.aload_n 0, 1) := by decide +kernel
theorem dX9_kept_18 : decode cX9_kept 18 = .ok (.getfield 138, 3) := by decide +kernel
theorem dX9_kept_21 : decode cX9_kept 21 = .ok (.ifCond .le 5, 3) := by decide +kernel
theorem dX9_kept_24 : decode cX9_kept 24 = .ok (.iconst 0, 1) := by decide +kernel
theorem dX9_kept_25 : decode cX9_kept 25 = .ok (.ireturn, 1) := by decide +kernel
theorem dX9_key_0 : decode cX9_key 0 = .ok (.aload_n 0, 1) := by decide +kernel
theorem dX9_key_1 : decode cX9_key 1 = .ok (.aload_n 0, 1) := by decide +kernel
theorem dX9_key_2 : decode cX9_key 2 = .ok (.iload_n 1, 1) := by decide +kernel
theorem dX9_key_3 : decode cX9_key 3 = .ok (.invokevirtual 293, 3) := by decide +kernel
theorem dX9_key_6 : decode cX9_key 6 = .ok (.ifCond .ne 7, 3) := by decide +kernel
theorem dX9_key_9 : decode cX9_key 9 = .ok (.iconst 1, 1) := by decide +kernel
theorem dX9_key_10 : decode cX9_key 10 = .ok (.goto 17, 3) := by decide +kernel
theorem dX9_key_27 : decode cX9_key 27 = .ok (.putfield 138, 3) := by decide +kernel
theorem dX9_key_30 : decode cX9_key 30 = .ok (.aload_n 0, 1) := by decide +kernel
theorem dX9_key_31 : decode cX9_key 31 = .ok (.getfield 138, 3) := by decide +kernel
theorem dX9_key_34 : decode cX9_key 34 = .ok (.ifCond .le 5, 3) := by decide +kernel
theorem dX9_key_37 : decode cX9_key 37 = .ok (.iconst 0, 1) := by decide +kernel
theorem dX9_key_38 : decode cX9_key 38 = .ok (.ireturn, 1) := by decide +kernel
theorem dX9_kind_0 : decode cX9_kind 0 = .ok (.aload_n 0, 1) := by decide +kernel
theorem dX9_kind_1 : decode cX9_kind 1 = .ok (.iload_n 1, 1) := by decide +kernel
theorem dX9_kind_2 : decode cX9_kind 2 = .ok (.iload_n 2, 1) := by decide +kernel
theorem dX9_kind_3 : decode cX9_kind 3 = .ok (.ifCond .eq 7, 3) := by decide +kernel
theorem dX9_kind_6 : decode cX9_kind 6 = .ok (.iconst (-1), 1) := by decide +kernel
theorem dX9_kind_7 : decode cX9_kind 7 = .ok (.goto 4, 3) := by decide +kernel
theorem dX9_kind_10 : decode cX9_kind 10 = .ok (.iconst 0, 1) := by decide +kernel
theorem dX9_kind_11 : decode cX9_kind 11 = .ok (.iconst 3, 1) := by decide +kernel
theorem dX9_kind_12 : decode cX9_kind 12 = .ok (.invokestatic 141, 3) := by decide +kernel
theorem dX9_kind_15 : decode cX9_kind 15 = .ok (.ifCond .eq 7, 3) := by decide +kernel
theorem dX9_kind_18 : decode cX9_kind 18 = .ok (.iconst 0, 1) := by decide +kernel
theorem dX9_kind_19 : decode cX9_kind 19 = .ok (.goto 4, 3) := by decide +kernel
theorem dX9_kind_22 : decode cX9_kind 22 = .ok (.iconst 1, 1) := by decide +kernel
theorem dX9_kind_23 : decode cX9_kind 23 = .ok (.putfield 138, 3) := by decide +kernel
theorem dX9_kind_26 : decode cX9_kind 26 = .ok (.aload_n 0, 1) := by decide +kernel
theorem dX9_kind_27 : decode cX9_kind 27 = .ok (.getfield 138, 3) := by decide +kernel
theorem dX9_kind_30 : decode cX9_kind 30 = .ok (.ifCond .le 5, 3) := by decide +kernel
theorem dX9_kind_33 : decode cX9_kind 33 = .ok (.iconst 0, 1) := by decide +kernel
theorem dX9_kind_34 : decode cX9_kind 34 = .ok (.ireturn, 1) := by decide +kernel
theorem dX9_kind_35 : decode cX9_kind 35 = .ok (.aload_n 0, 1) := by decide +kernel
theorem dX9_kind_36 : decode cX9_kind 36 = .ok (.invokevirtual 420, 3) := by decide +kernel
theorem dX9_kind_39 : decode cX9_kind 39 = .ok (.aload_n 0, 1) := by decide +kernel
theorem dX9_kind_40 : decode cX9_kind 40 = .ok (.aload_n 0, 1) := by decide +kernel
theorem dX9_kind_41 : decode cX9_kind 41 = .ok (.iload_n 2, 1) := by decide +kernel
theorem dX9_kind_42 : decode cX9_kind 42 = .ok (.ifCond .eq 7, 3) := by decide +kernel
theorem dX9_kind_45 : decode cX9_kind 45 = .ok (.iconst 2, 1) := by decide +kernel
theorem dX9_kind_46 : decode cX9_kind 46 = .ok (.goto 4, 3) := by decide +kernel
theorem dX9_kind_49 : decode cX9_kind 49 = .ok (.iconst 1, 1) := by decide +kernel
theorem dX9_kind_50 : decode cX9_kind 50 = .ok (.iload_n 1, 1) := by decide +kernel
theorem dX9_kind_51 : decode cX9_kind 51 = .ok (.invokevirtual 361, 3) := by decide +kernel
theorem dX9_kind_54 : decode cX9_kind 54 = .ok (.iconst 0, 1) := by decide +kernel
theorem dX9_kind_55 : decode cX9_kind 55 = .ok (.invokevirtual 429, 3) := by decide +kernel
theorem dX9_kind_58 : decode cX9_kind 58 = .ok (.ifCond .eq 10, 3) := by decide +kernel
theorem dX9_kind_61 : decode cX9_kind 61 = .ok (.aload_n 0, 1) := by decide +kernel
theorem dX9_kind_62 : decode cX9_kind 62 = .ok (.getfield 204, 3) := by decide +kernel
theorem dX9_kind_65 : decode cX9_kind 65 = .ok (.goto 4, 3) := by decide +kernel
theorem dX9_kind_69 : decode cX9_kind 69 = .ok (.ireturn, 1) := by decide +kernel
theorem dX9_like_0 : decode cX9_like 0 = .ok (.aload_n 0, 1) := by decide +kernel
theorem dX9_like_1 : decode cX9_like 1 = .ok (.aload_n 0, 1) := by decide +kernel
theorem dX9_like_2 : decode cX9_like 2 = .ok (.iload_n 1, 1) := by decide +kernel
theorem dX9_like_3 : decode cX9_like 3 = .ok (.invokevirtual 293, 3) := by decide +kernel
theorem dX9_like_6 : decode cX9_like 6 = .ok (.ifCond .eq 7, 3) := by decide +kernel
theorem dX9_like_13 : decode cX9_like 13 = .ok (.iconst 1, 1) := by decide +kernel
theorem dX9_like_14 : decode cX9_like 14 = .ok (.putfield 138, 3) := by decide +kernel
theorem dX9_like_17 : decode cX9_like 17 = .ok (.aload_n 0, 1) := by decide +kernel
theorem dX9_like_18 : decode cX9_like 18 = .ok (.getfield 138, 3) := by decide +kernel
theorem dX9_like_21 : decode cX9_like 21 = .ok (.ifCond .le 5, 3) := by decide +kernel
theorem dX9_like_24 : decode cX9_like 24 = .ok (.iconst 0, 1) := by decide +kernel
theorem dX9_like_25 : decode cX9_like 25 = .ok (.ireturn, 1) := by decide +kernel
theorem dX9_lock_0 : decode cX9_lock 0 = .ok (.aload_n 0, 1) := by decide +kernel
theorem dX9_lock_1 : decode cX9_lock 1 = .ok (.invokevirtual 426, 3) := by decide +kernel
theorem dX9_lock_4 : decode cX9_lock 4 = .ok (.istore_n 1, 1) := by decide +kernel
theorem dX9_lock_5 : decode cX9_lock 5 = .ok (.aload_n 0, 1) := by decide +kernel
theorem dX9_lock_6 : decode cX9_lock 6 = .ok (.aload_n 0, 1) := by decide +kernel
theorem dX9_lock_7 : decode cX9_lock 7 = .ok (.iload_n 1, 1) := by decide +kernel
theorem dX9_lock_8 : decode cX9_lock 8 = .ok (.invokevirtual 432, 3) := by decide +kernel
theorem dX9_lock_11 : decode cX9_lock 11 = .ok (.ifCond .eq 7, 3) := by decide +kernel
theorem dX9_lock_18 : decode cX9_lock 18 = .ok (.iconst 1, 1) := by decide +kernel
theorem dX9_lock_19 : decode cX9_lock 19 = .ok (.putfield 138, 3) := by decide +kernel
theorem dX9_lock_22 : decode cX9_lock 22 = .ok (.aload_n 0, 1) := by decide +kernel
theorem dX9_lock_23 : decode cX9_lock 23 = .ok (.getfield 138, 3) := by decide +kernel
theorem dX9_lock_26 : decode cX9_lock 26 = .ok (.ifCond .le 5, 3) := by decide +kernel
theorem dX9_lock_29 : decode cX9_lock 29 = .ok (.iconst 0, 1) := by decide +kernel
theorem dX9_lock_30 : decode cX9_lock 30 = .ok (.ireturn, 1) := by decide +kernel
theorem dX9_longest_0 : decode cX9_longest 0 = .ok (.iconst 0, 1) := by decide +kernel
theorem dX9_longest_1 : decode cX9_longest 1 = .ok (.istore_n 1, 1) := by decide +kernel
theorem dX9_longest_2 : decode cX9_longest 2 = .ok (.iconst 0, 1) := by decide +kernel
theorem dX9_longest_3 : decode cX9_longest 3 = .ok (.istore_n 2, 1) := by decide +kernel
theorem dX9_longest_4 : decode cX9_longest 4 = .ok (.iload_n 2, 1) := by decide +kernel
theorem dX9_longest_5 : decode cX9_longest 5 = .ok (.aload_n 0, 1) := by decide +kernel
theorem dX9_longest_6 : decode cX9_longest 6 = .ok (.getfield 204, 3) := by decide +kernel
theorem dX9_longest_9 : decode cX9_longest 9 = .ok (.if_icmp .ge 26, 3) := by decide +kernel
theorem dX9_longest_35 : decode cX9_longest 35 = .ok (.iload_n 1, 1) := by decide +kernel
theorem dX9_longest_36 : decode cX9_longest 36 = .ok (.ireturn, 1) := by decide +kernel
theorem dX9_memory_0 : decode cX9_memory 0 = .ok (.aload_n 0, 1) := by decide +kernel
theorem dX9_memory_1 : decode cX9_memory 1 = .ok (.iconst 0, 1) := by decide +kernel
theorem dX9_memory_2 : decode cX9_memory 2 = .ok (.putfield 138, 3) := by decide +kernel
theorem dX9_memory_5 : decode cX9_memory 5 = .ok (.iload_n 1, 1) := by decide +kernel
theorem dX9_memory_6 : decode cX9_memory 6 = .ok (.iconst 0, 1) := by decide +kernel
theorem dX9_memory_7 : decode cX9_memory 7 = .ok (.aload_n 0, 1) := by decide +kernel
theorem dX9_memory_8 : decode cX9_memory 8 = .ok (.getfield 7, 3) := by decide +kernel
theorem dX9_memory_11 : decode cX9_memory 11 = .ok (.bipush 42, 2) := by decide +kernel
theorem dX9_memory_13 : decode cX9_memory 13 = .ok (.iaload, 1) := by decide +kernel
theorem dX9_memory_14 : decode cX9_memory 14 = .ok (.iconst 1, 1) := by decide +kernel
theorem dX9_memory_15 : decode cX9_memory 15 = .ok (.isub, 1) := by decide +kernel
theorem dX9_memory_16 : decode cX9_memory 16 = .ok (.invokestatic 141, 3) := by decide +kernel
theorem dX9_memory_19 : decode cX9_memory 19 = .ok (.ifCond .ne 5, 3) := by decide +kernel
theorem dX9_memory_22 : decode cX9_memory 22 = .ok (.iconst (-1), 1) := by decide +kernel
theorem dX9_memory_23 : decode cX9_memory 23 = .ok (.ireturn, 1) := by decide +kernel
theorem dX9_octet_0 : decode cX9_octet 0 = .ok (.aload_n 0, 1) := by decide +kernel
theorem dX9_octet_1 : decode cX9_octet 1 = .ok (.aload_n 0, 1) := by decide +kernel
theorem dX9_octet_2 : decode cX9_octet 2 = .ok (.iload_n 1, 1) := by decide +kernel
theorem dX9_octet_3 : decode cX9_octet 3 = .ok (.invokevirtual 293, 3) := by decide +kernel
theorem dX9_octet_6 : decode cX9_octet 6 = .ok (.ifCond .eq 7, 3) := by decide +kernel
theorem dX9_octet_13 : decode cX9_octet 13 = .ok (.iconst 1, 1) := by decide +kernel
theorem dX9_octet_14 : decode cX9_octet 14 = .ok (.putfield 138, 3) := by decide +kernel
theorem dX9_octet_17 : decode cX9_octet 17 = .ok (.aload_n 0, 1) := by decide +kernel
theorem dX9_octet_18 : decode cX9_octet 18 = .ok (.getfield 138, 3) := by decide +kernel
theorem dX9_octet_21 : decode cX9_octet 21 = .ok (.ifCond .le 5, 3) := by decide +kernel
theorem dX9_octet_24 : decode cX9_octet 24 = .ok (.iconst 0, 1) := by decide +kernel
