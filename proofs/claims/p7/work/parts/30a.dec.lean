theorem kb_11 : (Int8.ofInt 11).toInt32 = 11 := by decide
theorem kb_103 : (Int8.ofInt 103).toInt32 = 103 := by decide
theorem kb_108 : (Int8.ofInt 108).toInt32 = 108 := by decide
theorem kb_109 : (Int8.ofInt 109).toInt32 = 109 := by decide
theorem kb_112 : (Int8.ofInt 112).toInt32 = 112 := by decide
theorem ki_m8 : Int32.ofInt (-8) = (-8) := by decide
theorem dX0_addDoubled_0 : decode cX0_addDoubled 0 = .ok (.iload_n 0, 1) := by decide +kernel
theorem dX0_addDoubled_1 : decode cX0_addDoubled 1 = .ok (.bipush 34, 2) := by decide +kernel
theorem dX0_addDoubled_3 : decode cX0_addDoubled 3 = .ok (.if_icmp .ne 10, 3) := by decide +kernel
theorem dX0_addDoubled_6 : decode cX0_addDoubled 6 = .ok (.aload_n 1, 1) := by decide +kernel
theorem dX0_addDoubled_7 : decode cX0_addDoubled 7 = .ok (.bipush 34, 2) := by decide +kernel
theorem dX0_addDoubled_9 : decode cX0_addDoubled 9 = .ok (.invokevirtual 93, 3) := by decide +kernel
theorem dX0_addDoubled_12 : decode cX0_addDoubled 12 = .ok (.pop, 1) := by decide +kernel
theorem dX0_addDoubled_13 : decode cX0_addDoubled 13 = .ok (.aload_n 1, 1) := by decide +kernel
theorem dX0_addDoubled_14 : decode cX0_addDoubled 14 = .ok (.iload_n 0, 1) := by decide +kernel
theorem dX0_addDoubled_15 : decode cX0_addDoubled 15 = .ok (.invokevirtual 93, 3) := by decide +kernel
theorem dX0_addDoubled_18 : decode cX0_addDoubled 18 = .ok (.pop, 1) := by decide +kernel
theorem dX0_addDoubled_19 : decode cX0_addDoubled 19 = .ok (.return_, 1) := by decide +kernel
theorem dX0_addEscaped_0 : decode cX0_addEscaped 0 = .ok (.iconst 0, 1) := by decide +kernel
theorem dX0_addEscaped_1 : decode cX0_addEscaped 1 = .ok (.istore 4, 2) := by decide +kernel
theorem dX0_addEscaped_3 : decode cX0_addEscaped 3 = .ok (.iload 4, 2) := by decide +kernel
theorem dX0_addEscaped_5 : decode cX0_addEscaped 5 = .ok (.aload_n 0, 1) := by decide +kernel
theorem dX0_addEscaped_6 : decode cX0_addEscaped 6 = .ok (.invokevirtual 57, 3) := by decide +kernel
theorem dX0_addEscaped_9 : decode cX0_addEscaped 9 = .ok (.if_icmp .ge 106, 3) := by decide +kernel
theorem dX0_addEscaped_12 : decode cX0_addEscaped 12 = .ok (.aload_n 0, 1) := by decide +kernel
theorem dX0_addEscaped_13 : decode cX0_addEscaped 13 = .ok (.iload 4, 2) := by decide +kernel
theorem dX0_addEscaped_15 : decode cX0_addEscaped 15 = .ok (.invokevirtual 104, 3) := by decide +kernel
theorem dX0_addEscaped_18 : decode cX0_addEscaped 18 = .ok (.istore 5, 2) := by decide +kernel
theorem dX0_addEscaped_20 : decode cX0_addEscaped 20 = .ok (.iload_n 2, 1) := by decide +kernel
theorem dX0_addEscaped_21 : decode cX0_addEscaped 21 = .ok (.tableswitch 81 0 3 #[31, 54, 63, 72], 31) := by decide +kernel
theorem dX0_addEscaped_52 : decode cX0_addEscaped 52 = .ok (.iload 5, 2) := by decide +kernel
theorem dX0_addEscaped_54 : decode cX0_addEscaped 54 = .ok (.aload_n 1, 1) := by decide +kernel
theorem dX0_addEscaped_55 : decode cX0_addEscaped 55 = .ok (.iload_n 3, 1) := by decide +kernel
theorem dX0_addEscaped_56 : decode cX0_addEscaped 56 = .ok (.ifCond .eq 12, 3) := by decide +kernel
theorem dX0_addEscaped_59 : decode cX0_addEscaped 59 = .ok (.iload 4, 2) := by decide +kernel
theorem dX0_addEscaped_61 : decode cX0_addEscaped 61 = .ok (.ifCond .ne 7, 3) := by decide +kernel
theorem dX0_addEscaped_64 : decode cX0_addEscaped 64 = .ok (.iconst 1, 1) := by decide +kernel
theorem dX0_addEscaped_65 : decode cX0_addEscaped 65 = .ok (.goto 4, 3) := by decide +kernel
theorem dX0_addEscaped_68 : decode cX0_addEscaped 68 = .ok (.iconst 0, 1) := by decide +kernel
theorem dX0_addEscaped_69 : decode cX0_addEscaped 69 = .ok (.invokestatic 107, 3) := by decide +kernel
theorem dX0_addEscaped_72 : decode cX0_addEscaped 72 = .ok (.goto 37, 3) := by decide +kernel
theorem dX0_addEscaped_75 : decode cX0_addEscaped 75 = .ok (.iload 5, 2) := by decide +kernel
theorem dX0_addEscaped_77 : decode cX0_addEscaped 77 = .ok (.aload_n 1, 1) := by decide +kernel
theorem dX0_addEscaped_78 : decode cX0_addEscaped 78 = .ok (.invokestatic 111, 3) := by decide +kernel
theorem dX0_addEscaped_81 : decode cX0_addEscaped 81 = .ok (.goto 28, 3) := by decide +kernel
theorem dX0_addEscaped_84 : decode cX0_addEscaped 84 = .ok (.iload 5, 2) := by decide +kernel
theorem dX0_addEscaped_86 : decode cX0_addEscaped 86 = .ok (.aload_n 1, 1) := by decide +kernel
theorem dX0_addEscaped_87 : decode cX0_addEscaped 87 = .ok (.invokestatic 115, 3) := by decide +kernel
theorem dX0_addEscaped_90 : decode cX0_addEscaped 90 = .ok (.goto 19, 3) := by decide +kernel
theorem dX0_addEscaped_93 : decode cX0_addEscaped 93 = .ok (.iload 5, 2) := by decide +kernel
theorem dX0_addEscaped_95 : decode cX0_addEscaped 95 = .ok (.aload_n 1, 1) := by decide +kernel
theorem dX0_addEscaped_96 : decode cX0_addEscaped 96 = .ok (.invokestatic 118, 3) := by decide +kernel
theorem dX0_addEscaped_99 : decode cX0_addEscaped 99 = .ok (.goto 10, 3) := by decide +kernel
theorem dX0_addEscaped_102 : decode cX0_addEscaped 102 = .ok (.aload_n 1, 1) := by decide +kernel
theorem dX0_addEscaped_103 : decode cX0_addEscaped 103 = .ok (.iload 5, 2) := by decide +kernel
theorem dX0_addEscaped_105 : decode cX0_addEscaped 105 = .ok (.invokevirtual 93, 3) := by decide +kernel
theorem dX0_addEscaped_108 : decode cX0_addEscaped 108 = .ok (.pop, 1) := by decide +kernel
theorem dX0_addEscaped_109 : decode cX0_addEscaped 109 = .ok (.iinc 4 1, 3) := by decide +kernel
theorem dX0_addEscaped_112 : decode cX0_addEscaped 112 = .ok (.goto (-109), 3) := by decide +kernel
theorem dX0_addEscaped_115 : decode cX0_addEscaped 115 = .ok (.return_, 1) := by decide +kernel
theorem dX0_addInLine_0 : decode cX0_addInLine 0 = .ok (.iload_n 0, 1) := by decide +kernel
theorem dX0_addInLine_1 : decode cX0_addInLine 1 = .ok (.bipush 92, 2) := by decide +kernel
theorem dX0_addInLine_3 : decode cX0_addInLine 3 = .ok (.if_icmp .eq 25, 3) := by decide +kernel
theorem dX0_addInLine_6 : decode cX0_addInLine 6 = .ok (.iload_n 0, 1) := by decide +kernel
theorem dX0_addInLine_7 : decode cX0_addInLine 7 = .ok (.bipush 10, 2) := by decide +kernel
theorem dX0_addInLine_9 : decode cX0_addInLine 9 = .ok (.if_icmp .eq 19, 3) := by decide +kernel
theorem dX0_addInLine_12 : decode cX0_addInLine 12 = .ok (.iload_n 0, 1) := by decide +kernel
theorem dX0_addInLine_13 : decode cX0_addInLine 13 = .ok (.bipush 9, 2) := by decide +kernel
theorem dX0_addInLine_15 : decode cX0_addInLine 15 = .ok (.if_icmp .eq 13, 3) := by decide +kernel
theorem dX0_addInLine_18 : decode cX0_addInLine 18 = .ok (.iload_n 0, 1) := by decide +kernel
theorem dX0_addInLine_19 : decode cX0_addInLine 19 = .ok (.bipush 32, 2) := by decide +kernel
theorem dX0_addInLine_21 : decode cX0_addInLine 21 = .ok (.if_icmp .ne 14, 3) := by decide +kernel
theorem dX0_addInLine_24 : decode cX0_addInLine 24 = .ok (.iload_n 2, 1) := by decide +kernel
theorem dX0_addInLine_25 : decode cX0_addInLine 25 = .ok (.ifCond .eq 10, 3) := by decide +kernel
theorem dX0_addInLine_28 : decode cX0_addInLine 28 = .ok (.aload_n 1, 1) := by decide +kernel
theorem dX0_addInLine_29 : decode cX0_addInLine 29 = .ok (.bipush 92, 2) := by decide +kernel
theorem dX0_addInLine_31 : decode cX0_addInLine 31 = .ok (.invokevirtual 93, 3) := by decide +kernel
theorem dX0_addInLine_34 : decode cX0_addInLine 34 = .ok (.pop, 1) := by decide +kernel
theorem dX0_addInLine_35 : decode cX0_addInLine 35 = .ok (.aload_n 1, 1) := by decide +kernel
theorem dX0_addInLine_36 : decode cX0_addInLine 36 = .ok (.iload_n 0, 1) := by decide +kernel
theorem dX0_addInLine_37 : decode cX0_addInLine 37 = .ok (.bipush 10, 2) := by decide +kernel
theorem dX0_addInLine_39 : decode cX0_addInLine 39 = .ok (.if_icmp .ne 8, 3) := by decide +kernel
theorem dX0_addInLine_42 : decode cX0_addInLine 42 = .ok (.bipush 110, 2) := by decide +kernel
theorem dX0_addInLine_44 : decode cX0_addInLine 44 = .ok (.goto 15, 3) := by decide +kernel
theorem dX0_addInLine_47 : decode cX0_addInLine 47 = .ok (.iload_n 0, 1) := by decide +kernel
theorem dX0_addInLine_48 : decode cX0_addInLine 48 = .ok (.bipush 9, 2) := by decide +kernel
theorem dX0_addInLine_50 : decode cX0_addInLine 50 = .ok (.if_icmp .ne 8, 3) := by decide +kernel
theorem dX0_addInLine_53 : decode cX0_addInLine 53 = .ok (.bipush 116, 2) := by decide +kernel
theorem dX0_addInLine_55 : decode cX0_addInLine 55 = .ok (.goto 4, 3) := by decide +kernel
theorem dX0_addInLine_58 : decode cX0_addInLine 58 = .ok (.iload_n 0, 1) := by decide +kernel
theorem dX0_addInLine_59 : decode cX0_addInLine 59 = .ok (.invokevirtual 93, 3) := by decide +kernel
theorem dX0_addInLine_62 : decode cX0_addInLine 62 = .ok (.pop, 1) := by decide +kernel
theorem dX0_addInLine_63 : decode cX0_addInLine 63 = .ok (.return_, 1) := by decide +kernel
theorem dX0_addInMarkup_0 : decode cX0_addInMarkup 0 = .ok (.iload_n 0, 1) := by decide +kernel
theorem dX0_addInMarkup_1 : decode cX0_addInMarkup 1 = .ok (.bipush 60, 2) := by decide +kernel
theorem dX0_addInMarkup_3 : decode cX0_addInMarkup 3 = .ok (.if_icmp .eq 22, 3) := by decide +kernel
theorem dX0_addInMarkup_6 : decode cX0_addInMarkup 6 = .ok (.iload_n 0, 1) := by decide +kernel
theorem dX0_addInMarkup_7 : decode cX0_addInMarkup 7 = .ok (.bipush 62, 2) := by decide +kernel
theorem dX0_addInMarkup_9 : decode cX0_addInMarkup 9 = .ok (.if_icmp .eq 16, 3) := by decide +kernel
theorem dX0_addInMarkup_12 : decode cX0_addInMarkup 12 = .ok (.iload_n 0, 1) := by decide +kernel
theorem dX0_addInMarkup_13 : decode cX0_addInMarkup 13 = .ok (.bipush 38, 2) := by decide +kernel
theorem dX0_addInMarkup_15 : decode cX0_addInMarkup 15 = .ok (.if_icmp .eq 10, 3) := by decide +kernel
theorem dX0_addInMarkup_18 : decode cX0_addInMarkup 18 = .ok (.aload_n 1, 1) := by decide +kernel
theorem dX0_addInMarkup_19 : decode cX0_addInMarkup 19 = .ok (.iload_n 0, 1) := by decide +kernel
theorem dX0_addInMarkup_20 : decode cX0_addInMarkup 20 = .ok (.invokevirtual 93, 3) := by decide +kernel
theorem dX0_addInMarkup_23 : decode cX0_addInMarkup 23 = .ok (.pop, 1) := by decide +kernel
theorem dX0_addInMarkup_24 : decode cX0_addInMarkup 24 = .ok (.return_, 1) := by decide +kernel
theorem dX0_addInMarkup_25 : decode cX0_addInMarkup 25 = .ok (.aload_n 1, 1) := by decide +kernel
theorem dX0_addInMarkup_26 : decode cX0_addInMarkup 26 = .ok (.bipush 38, 2) := by decide +kernel
theorem dX0_addInMarkup_28 : decode cX0_addInMarkup 28 = .ok (.invokevirtual 93, 3) := by decide +kernel
theorem dX0_addInMarkup_31 : decode cX0_addInMarkup 31 = .ok (.pop, 1) := by decide +kernel
theorem dX0_addInMarkup_32 : decode cX0_addInMarkup 32 = .ok (.iload_n 0, 1) := by decide +kernel
theorem dX0_addInMarkup_33 : decode cX0_addInMarkup 33 = .ok (.bipush 38, 2) := by decide +kernel
theorem dX0_addInMarkup_35 : decode cX0_addInMarkup 35 = .ok (.if_icmp .ne 27, 3) := by decide +kernel
theorem dX0_addInMarkup_38 : decode cX0_addInMarkup 38 = .ok (.aload_n 1, 1) := by decide +kernel
theorem dX0_addInMarkup_39 : decode cX0_addInMarkup 39 = .ok (.bipush 97, 2) := by decide +kernel
theorem dX0_addInMarkup_41 : decode cX0_addInMarkup 41 = .ok (.invokevirtual 93, 3) := by decide +kernel
theorem dX0_addInMarkup_44 : decode cX0_addInMarkup 44 = .ok (.pop, 1) := by decide +kernel
theorem dX0_addInMarkup_45 : decode cX0_addInMarkup 45 = .ok (.aload_n 1, 1) := by decide +kernel
theorem dX0_addInMarkup_46 : decode cX0_addInMarkup 46 = .ok (.bipush 109, 2) := by decide +kernel
theorem dX0_addInMarkup_48 : decode cX0_addInMarkup 48 = .ok (.invokevirtual 93, 3) := by decide +kernel
theorem dX0_addInMarkup_51 : decode cX0_addInMarkup 51 = .ok (.pop, 1) := by decide +kernel
theorem dX0_addInMarkup_52 : decode cX0_addInMarkup 52 = .ok (.aload_n 1, 1) := by decide +kernel
theorem dX0_addInMarkup_53 : decode cX0_addInMarkup 53 = .ok (.bipush 112, 2) := by decide +kernel
theorem dX0_addInMarkup_55 : decode cX0_addInMarkup 55 = .ok (.invokevirtual 93, 3) := by decide +kernel
theorem dX0_addInMarkup_58 : decode cX0_addInMarkup 58 = .ok (.pop, 1) := by decide +kernel
theorem dX0_addInMarkup_59 : decode cX0_addInMarkup 59 = .ok (.goto 28, 3) := by decide +kernel
theorem dX0_addInMarkup_62 : decode cX0_addInMarkup 62 = .ok (.aload_n 1, 1) := by decide +kernel
theorem dX0_addInMarkup_63 : decode cX0_addInMarkup 63 = .ok (.iload_n 0, 1) := by decide +kernel
theorem dX0_addInMarkup_64 : decode cX0_addInMarkup 64 = .ok (.bipush 60, 2) := by decide +kernel
theorem dX0_addInMarkup_66 : decode cX0_addInMarkup 66 = .ok (.if_icmp .ne 8, 3) := by decide +kernel
theorem dX0_addInMarkup_69 : decode cX0_addInMarkup 69 = .ok (.bipush 108, 2) := by decide +kernel
theorem dX0_addInMarkup_71 : decode cX0_addInMarkup 71 = .ok (.goto 5, 3) := by decide +kernel
theorem dX0_addInMarkup_74 : decode cX0_addInMarkup 74 = .ok (.bipush 103, 2) := by decide +kernel
theorem dX0_addInMarkup_76 : decode cX0_addInMarkup 76 = .ok (.invokevirtual 93, 3) := by decide +kernel
theorem dX0_addInMarkup_79 : decode cX0_addInMarkup 79 = .ok (.pop, 1) := by decide +kernel
theorem dX0_addInMarkup_80 : decode cX0_addInMarkup 80 = .ok (.aload_n 1, 1) := by decide +kernel
theorem dX0_addInMarkup_81 : decode cX0_addInMarkup 81 = .ok (.bipush 116, 2) := by decide +kernel
theorem dX0_addInMarkup_83 : decode cX0_addInMarkup 83 = .ok (.invokevirtual 93, 3) := by decide +kernel
theorem dX0_addInMarkup_86 : decode cX0_addInMarkup 86 = .ok (.pop, 1) := by decide +kernel
theorem dX0_addInMarkup_87 : decode cX0_addInMarkup 87 = .ok (.aload_n 1, 1) := by decide +kernel
theorem dX0_addInMarkup_88 : decode cX0_addInMarkup 88 = .ok (.bipush 59, 2) := by decide +kernel
theorem dX0_addInMarkup_90 : decode cX0_addInMarkup 90 = .ok (.invokevirtual 93, 3) := by decide +kernel
theorem dX0_addInMarkup_93 : decode cX0_addInMarkup 93 = .ok (.pop, 1) := by decide +kernel
theorem dX0_addInMarkup_94 : decode cX0_addInMarkup 94 = .ok (.return_, 1) := by decide +kernel
theorem dX0_addInQuotes_0 : decode cX0_addInQuotes 0 = .ok (.iload_n 0, 1) := by decide +kernel
theorem dX0_addInQuotes_1 : decode cX0_addInQuotes 1 = .ok (.bipush 92, 2) := by decide +kernel
theorem dX0_addInQuotes_3 : decode cX0_addInQuotes 3 = .ok (.if_icmp .eq 21, 3) := by decide +kernel
theorem dX0_addInQuotes_6 : decode cX0_addInQuotes 6 = .ok (.iload_n 0, 1) := by decide +kernel
theorem dX0_addInQuotes_7 : decode cX0_addInQuotes 7 = .ok (.bipush 10, 2) := by decide +kernel
theorem dX0_addInQuotes_9 : decode cX0_addInQuotes 9 = .ok (.if_icmp .eq 15, 3) := by decide +kernel
theorem dX0_addInQuotes_12 : decode cX0_addInQuotes 12 = .ok (.iload_n 0, 1) := by decide +kernel
theorem dX0_addInQuotes_13 : decode cX0_addInQuotes 13 = .ok (.bipush 9, 2) := by decide +kernel
theorem dX0_addInQuotes_15 : decode cX0_addInQuotes 15 = .ok (.if_icmp .eq 9, 3) := by decide +kernel
theorem dX0_addInQuotes_18 : decode cX0_addInQuotes 18 = .ok (.iload_n 0, 1) := by decide +kernel
theorem dX0_addInQuotes_19 : decode cX0_addInQuotes 19 = .ok (.bipush 34, 2) := by decide +kernel
theorem dX0_addInQuotes_21 : decode cX0_addInQuotes 21 = .ok (.if_icmp .ne 10, 3) := by decide +kernel
theorem dX0_addInQuotes_24 : decode cX0_addInQuotes 24 = .ok (.aload_n 1, 1) := by decide +kernel
theorem dX0_addInQuotes_25 : decode cX0_addInQuotes 25 = .ok (.bipush 92, 2) := by decide +kernel
theorem dX0_addInQuotes_27 : decode cX0_addInQuotes 27 = .ok (.invokevirtual 93, 3) := by decide +kernel
theorem dX0_addInQuotes_30 : decode cX0_addInQuotes 30 = .ok (.pop, 1) := by decide +kernel
theorem dX0_addInQuotes_31 : decode cX0_addInQuotes 31 = .ok (.aload_n 1, 1) := by decide +kernel
theorem dX0_addInQuotes_32 : decode cX0_addInQuotes 32 = .ok (.iload_n 0, 1) := by decide +kernel
theorem dX0_addInQuotes_33 : decode cX0_addInQuotes 33 = .ok (.bipush 10, 2) := by decide +kernel
theorem dX0_addInQuotes_35 : decode cX0_addInQuotes 35 = .ok (.if_icmp .ne 8, 3) := by decide +kernel
theorem dX0_addInQuotes_38 : decode cX0_addInQuotes 38 = .ok (.bipush 110, 2) := by decide +kernel
theorem dX0_addInQuotes_40 : decode cX0_addInQuotes 40 = .ok (.goto 15, 3) := by decide +kernel
theorem dX0_addInQuotes_43 : decode cX0_addInQuotes 43 = .ok (.iload_n 0, 1) := by decide +kernel
theorem dX0_addInQuotes_44 : decode cX0_addInQuotes 44 = .ok (.bipush 9, 2) := by decide +kernel
theorem dX0_addInQuotes_46 : decode cX0_addInQuotes 46 = .ok (.if_icmp .ne 8, 3) := by decide +kernel
theorem dX0_addInQuotes_49 : decode cX0_addInQuotes 49 = .ok (.bipush 116, 2) := by decide +kernel
theorem dX0_addInQuotes_51 : decode cX0_addInQuotes 51 = .ok (.goto 4, 3) := by decide +kernel
theorem dX0_addInQuotes_54 : decode cX0_addInQuotes 54 = .ok (.iload_n 0, 1) := by decide +kernel
theorem dX0_addInQuotes_55 : decode cX0_addInQuotes 55 = .ok (.invokevirtual 93, 3) := by decide +kernel
theorem dX0_addInQuotes_58 : decode cX0_addInQuotes 58 = .ok (.pop, 1) := by decide +kernel
theorem dX0_addInQuotes_59 : decode cX0_addInQuotes 59 = .ok (.return_, 1) := by decide +kernel
theorem dX0_escape_0 : decode cX0_escape 0 = .ok (.aload_n 2, 1) := by decide +kernel
theorem dX0_escape_1 : decode cX0_escape 1 = .ok (.ifnonnull 5, 3) := by decide +kernel
theorem dX0_escape_4 : decode cX0_escape 4 = .ok (.iconst 0, 1) := by decide +kernel
theorem dX0_escape_5 : decode cX0_escape 5 = .ok (.ireturn, 1) := by decide +kernel
theorem dX0_escape_6 : decode cX0_escape 6 = .ok (.aload_n 0, 1) := by decide +kernel
theorem dX0_escape_7 : decode cX0_escape 7 = .ok (.iconst 0, 1) := by decide +kernel
theorem dX0_escape_8 : decode cX0_escape 8 = .ok (.putfield 72, 3) := by decide +kernel
theorem dX0_escape_11 : decode cX0_escape 11 = .ok (.aload_n 0, 1) := by decide +kernel
theorem dX0_escape_12 : decode cX0_escape 12 = .ok (.getfield 23, 3) := by decide +kernel
theorem dX0_escape_15 : decode cX0_escape 15 = .ok (.iconst 0, 1) := by decide +kernel
theorem dX0_escape_16 : decode cX0_escape 16 = .ok (.invokevirtual 26, 3) := by decide +kernel
theorem dX0_escape_19 : decode cX0_escape 19 = .ok (.aload_n 0, 1) := by decide +kernel
theorem dX0_escape_20 : decode cX0_escape 20 = .ok (.getfield 20, 3) := by decide +kernel
theorem dX0_escape_23 : decode cX0_escape 23 = .ok (.iconst 0, 1) := by decide +kernel
theorem dX0_escape_24 : decode cX0_escape 24 = .ok (.invokevirtual 26, 3) := by decide +kernel
theorem dX0_escape_27 : decode cX0_escape 27 = .ok (.aload_n 3, 1) := by decide +kernel
theorem dX0_escape_28 : decode cX0_escape 28 = .ok (.getfield 76, 3) := by decide +kernel
theorem dX0_escape_31 : decode cX0_escape 31 = .ok (.iconst 1, 1) := by decide +kernel
theorem dX0_escape_32 : decode cX0_escape 32 = .ok (.if_icmp .ne 14, 3) := by decide +kernel
theorem dX0_escape_35 : decode cX0_escape 35 = .ok (.aload_n 2, 1) := by decide +kernel
theorem dX0_escape_36 : decode cX0_escape 36 = .ok (.getfield 79, 3) := by decide +kernel
theorem dX0_escape_39 : decode cX0_escape 39 = .ok (.ifCond .ne 7, 3) := by decide +kernel
theorem dX0_escape_42 : decode cX0_escape 42 = .ok (.iconst 1, 1) := by decide +kernel
theorem dX0_escape_43 : decode cX0_escape 43 = .ok (.goto 4, 3) := by decide +kernel
theorem dX0_escape_46 : decode cX0_escape 46 = .ok (.iconst 0, 1) := by decide +kernel
theorem dX0_escape_47 : decode cX0_escape 47 = .ok (.istore 4, 2) := by decide +kernel
theorem dX0_escape_49 : decode cX0_escape 49 = .ok (.aload_n 3, 1) := by decide +kernel
theorem dX0_escape_50 : decode cX0_escape 50 = .ok (.getfield 83, 3) := by decide +kernel
theorem dX0_escape_53 : decode cX0_escape 53 = .ok (.iconst 1, 1) := by decide +kernel
theorem dX0_escape_54 : decode cX0_escape 54 = .ok (.if_icmp .ne 14, 3) := by decide +kernel
theorem dX0_escape_57 : decode cX0_escape 57 = .ok (.aload_n 2, 1) := by decide +kernel
theorem dX0_escape_58 : decode cX0_escape 58 = .ok (.getfield 86, 3) := by decide +kernel
theorem dX0_escape_61 : decode cX0_escape 61 = .ok (.ifCond .ne 7, 3) := by decide +kernel
theorem dX0_escape_64 : decode cX0_escape 64 = .ok (.iconst 1, 1) := by decide +kernel
theorem dX0_escape_65 : decode cX0_escape 65 = .ok (.goto 4, 3) := by decide +kernel
theorem dX0_escape_68 : decode cX0_escape 68 = .ok (.iconst 0, 1) := by decide +kernel
theorem dX0_escape_69 : decode cX0_escape 69 = .ok (.istore 5, 2) := by decide +kernel
theorem dX0_escape_71 : decode cX0_escape 71 = .ok (.iload 5, 2) := by decide +kernel
theorem dX0_escape_73 : decode cX0_escape 73 = .ok (.ifCond .eq 68, 3) := by decide +kernel
theorem dX0_escape_76 : decode cX0_escape 76 = .ok (.aload_n 1, 1) := by decide +kernel
theorem dX0_escape_77 : decode cX0_escape 77 = .ok (.invokevirtual 89, 3) := by decide +kernel
theorem dX0_escape_80 : decode cX0_escape 80 = .ok (.ifCond .eq 61, 3) := by decide +kernel
theorem dX0_escape_83 : decode cX0_escape 83 = .ok (.aload_n 0, 1) := by decide +kernel
theorem dX0_escape_84 : decode cX0_escape 84 = .ok (.getfield 23, 3) := by decide +kernel
theorem dX0_escape_87 : decode cX0_escape 87 = .ok (.bipush 34, 2) := by decide +kernel
theorem dX0_escape_89 : decode cX0_escape 89 = .ok (.invokevirtual 93, 3) := by decide +kernel
theorem dX0_escape_92 : decode cX0_escape 92 = .ok (.pop, 1) := by decide +kernel
theorem dX0_escape_93 : decode cX0_escape 93 = .ok (.aload_n 1, 1) := by decide +kernel
theorem dX0_escape_94 : decode cX0_escape 94 = .ok (.aload_n 0, 1) := by decide +kernel
theorem dX0_escape_95 : decode cX0_escape 95 = .ok (.getfield 23, 3) := by decide +kernel
theorem dX0_escape_98 : decode cX0_escape 98 = .ok (.iconst 1, 1) := by decide +kernel
theorem dX0_escape_99 : decode cX0_escape 99 = .ok (.iconst 0, 1) := by decide +kernel
theorem dX0_escape_100 : decode cX0_escape 100 = .ok (.invokestatic 97, 3) := by decide +kernel
theorem dX0_escape_103 : decode cX0_escape 103 = .ok (.aload_n 0, 1) := by decide +kernel
theorem dX0_escape_104 : decode cX0_escape 104 = .ok (.getfield 23, 3) := by decide +kernel
theorem dX0_escape_107 : decode cX0_escape 107 = .ok (.bipush 34, 2) := by decide +kernel
theorem dX0_escape_109 : decode cX0_escape 109 = .ok (.invokevirtual 93, 3) := by decide +kernel
theorem dX0_escape_112 : decode cX0_escape 112 = .ok (.pop, 1) := by decide +kernel
theorem dX0_escape_113 : decode cX0_escape 113 = .ok (.aload_n 0, 1) := by decide +kernel
theorem dX0_escape_114 : decode cX0_escape 114 = .ok (.aload_n 3, 1) := by decide +kernel
theorem dX0_escape_115 : decode cX0_escape 115 = .ok (.getfield 76, 3) := by decide +kernel
theorem dX0_escape_118 : decode cX0_escape 118 = .ok (.iconst 1, 1) := by decide +kernel
theorem dX0_escape_119 : decode cX0_escape 119 = .ok (.if_icmp .eq 11, 3) := by decide +kernel
theorem dX0_escape_122 : decode cX0_escape 122 = .ok (.aload_n 3, 1) := by decide +kernel
theorem dX0_escape_123 : decode cX0_escape 123 = .ok (.getfield 76, 3) := by decide +kernel
theorem dX0_escape_126 : decode cX0_escape 126 = .ok (.iconst 3, 1) := by decide +kernel
theorem dX0_escape_127 : decode cX0_escape 127 = .ok (.if_icmp .ne 7, 3) := by decide +kernel
theorem dX0_escape_130 : decode cX0_escape 130 = .ok (.iconst 2, 1) := by decide +kernel
theorem dX0_escape_131 : decode cX0_escape 131 = .ok (.goto 4, 3) := by decide +kernel
theorem dX0_escape_134 : decode cX0_escape 134 = .ok (.iconst 1, 1) := by decide +kernel
theorem dX0_escape_135 : decode cX0_escape 135 = .ok (.putfield 72, 3) := by decide +kernel
theorem dX0_escape_138 : decode cX0_escape 138 = .ok (.goto 25, 3) := by decide +kernel
theorem dX0_escape_141 : decode cX0_escape 141 = .ok (.aload_n 1, 1) := by decide +kernel
theorem dX0_escape_142 : decode cX0_escape 142 = .ok (.aload_n 0, 1) := by decide +kernel
theorem dX0_escape_143 : decode cX0_escape 143 = .ok (.getfield 23, 3) := by decide +kernel
theorem dX0_escape_146 : decode cX0_escape 146 = .ok (.iload 5, 2) := by decide +kernel
theorem dX0_escape_148 : decode cX0_escape 148 = .ok (.ifCond .eq 7, 3) := by decide +kernel
theorem dX0_escape_151 : decode cX0_escape 151 = .ok (.iconst (-1), 1) := by decide +kernel
theorem dX0_escape_152 : decode cX0_escape 152 = .ok (.goto 7, 3) := by decide +kernel
theorem dX0_escape_155 : decode cX0_escape 155 = .ok (.aload_n 3, 1) := by decide +kernel
theorem dX0_escape_156 : decode cX0_escape 156 = .ok (.getfield 83, 3) := by decide +kernel
theorem dX0_escape_159 : decode cX0_escape 159 = .ok (.iconst 1, 1) := by decide +kernel
theorem dX0_escape_160 : decode cX0_escape 160 = .ok (.invokestatic 97, 3) := by decide +kernel
theorem dX0_escape_163 : decode cX0_escape 163 = .ok (.iload 4, 2) := by decide +kernel
theorem dX0_escape_165 : decode cX0_escape 165 = .ok (.ifCond .ne 24, 3) := by decide +kernel
theorem dX0_escape_168 : decode cX0_escape 168 = .ok (.aload_n 0, 1) := by decide +kernel
theorem dX0_escape_169 : decode cX0_escape 169 = .ok (.getfield 23, 3) := by decide +kernel
theorem dX0_escape_172 : decode cX0_escape 172 = .ok (.aload_n 0, 1) := by decide +kernel
theorem dX0_escape_173 : decode cX0_escape 173 = .ok (.getfield 20, 3) := by decide +kernel
theorem dX0_escape_176 : decode cX0_escape 176 = .ok (.aload_n 3, 1) := by decide +kernel
theorem dX0_escape_177 : decode cX0_escape 177 = .ok (.getfield 76, 3) := by decide +kernel
theorem dX0_escape_180 : decode cX0_escape 180 = .ok (.aload_n 2, 1) := by decide +kernel
theorem dX0_escape_181 : decode cX0_escape 181 = .ok (.getfield 101, 3) := by decide +kernel
theorem dX0_escape_184 : decode cX0_escape 184 = .ok (.invokestatic 97, 3) := by decide +kernel
theorem dX0_escape_187 : decode cX0_escape 187 = .ok (.iconst 1, 1) := by decide +kernel
theorem dX0_escape_188 : decode cX0_escape 188 = .ok (.ireturn, 1) := by decide +kernel
theorem dX0_escape_189 : decode cX0_escape 189 = .ok (.aload_n 0, 1) := by decide +kernel
theorem dX0_escape_190 : decode cX0_escape 190 = .ok (.getfield 23, 3) := by decide +kernel
theorem dX0_escape_193 : decode cX0_escape 193 = .ok (.invokevirtual 89, 3) := by decide +kernel
theorem dX0_escape_196 : decode cX0_escape 196 = .ok (.ifCond .ne 23, 3) := by decide +kernel
theorem dX0_escape_199 : decode cX0_escape 199 = .ok (.aload_n 0, 1) := by decide +kernel
theorem dX0_escape_200 : decode cX0_escape 200 = .ok (.getfield 20, 3) := by decide +kernel
theorem dX0_escape_203 : decode cX0_escape 203 = .ok (.aload_n 0, 1) := by decide +kernel
theorem dX0_escape_204 : decode cX0_escape 204 = .ok (.getfield 23, 3) := by decide +kernel
theorem dX0_escape_207 : decode cX0_escape 207 = .ok (.iconst 0, 1) := by decide +kernel
theorem dX0_escape_208 : decode cX0_escape 208 = .ok (.aload_n 0, 1) := by decide +kernel
theorem dX0_escape_209 : decode cX0_escape 209 = .ok (.getfield 23, 3) := by decide +kernel
theorem dX0_escape_212 : decode cX0_escape 212 = .ok (.invokevirtual 57, 3) := by decide +kernel
theorem dX0_escape_215 : decode cX0_escape 215 = .ok (.invokevirtual 50, 3) := by decide +kernel
theorem dX0_escape_218 : decode cX0_escape 218 = .ok (.ireturn, 1) := by decide +kernel
theorem dX0_escape_219 : decode cX0_escape 219 = .ok (.aload_n 0, 1) := by decide +kernel
theorem dX0_escape_220 : decode cX0_escape 220 = .ok (.iconst 1, 1) := by decide +kernel
theorem dX0_escape_221 : decode cX0_escape 221 = .ok (.putfield 72, 3) := by decide +kernel
theorem dX0_escape_224 : decode cX0_escape 224 = .ok (.aload_n 0, 1) := by decide +kernel
theorem dX0_escape_225 : decode cX0_escape 225 = .ok (.getfield 20, 3) := by decide +kernel
theorem dX0_escape_228 : decode cX0_escape 228 = .ok (.bipush 34, 2) := by decide +kernel
theorem dX0_escape_230 : decode cX0_escape 230 = .ok (.invokevirtual 93, 3) := by decide +kernel
theorem dX0_escape_233 : decode cX0_escape 233 = .ok (.pop, 1) := by decide +kernel
theorem dX0_escape_234 : decode cX0_escape 234 = .ok (.aload_n 0, 1) := by decide +kernel
theorem dX0_escape_235 : decode cX0_escape 235 = .ok (.getfield 23, 3) := by decide +kernel
theorem dX0_escape_238 : decode cX0_escape 238 = .ok (.aload_n 0, 1) := by decide +kernel
theorem dX0_escape_239 : decode cX0_escape 239 = .ok (.getfield 20, 3) := by decide +kernel
theorem dX0_escape_242 : decode cX0_escape 242 = .ok (.iconst 1, 1) := by decide +kernel
theorem dX0_escape_243 : decode cX0_escape 243 = .ok (.iconst 0, 1) := by decide +kernel
theorem dX0_escape_244 : decode cX0_escape 244 = .ok (.invokestatic 97, 3) := by decide +kernel
theorem dX0_escape_247 : decode cX0_escape 247 = .ok (.aload_n 0, 1) := by decide +kernel
theorem dX0_escape_248 : decode cX0_escape 248 = .ok (.getfield 20, 3) := by decide +kernel
theorem dX0_escape_251 : decode cX0_escape 251 = .ok (.bipush 34, 2) := by decide +kernel
theorem dX0_escape_253 : decode cX0_escape 253 = .ok (.invokevirtual 93, 3) := by decide +kernel
theorem dX0_escape_256 : decode cX0_escape 256 = .ok (.pop, 1) := by decide +kernel
theorem dX0_escape_257 : decode cX0_escape 257 = .ok (.aload_n 3, 1) := by decide +kernel
theorem dX0_escape_258 : decode cX0_escape 258 = .ok (.getfield 83, 3) := by decide +kernel
theorem dX0_escape_261 : decode cX0_escape 261 = .ok (.iconst (-1), 1) := by decide +kernel
theorem dX0_escape_262 : decode cX0_escape 262 = .ok (.if_icmp .ne 7, 3) := by decide +kernel
theorem dX0_escape_265 : decode cX0_escape 265 = .ok (.iconst 1, 1) := by decide +kernel
theorem dX0_escape_266 : decode cX0_escape 266 = .ok (.goto 4, 3) := by decide +kernel
theorem dX0_escape_269 : decode cX0_escape 269 = .ok (.iconst 0, 1) := by decide +kernel
theorem dX0_escape_270 : decode cX0_escape 270 = .ok (.ireturn, 1) := by decide +kernel
theorem dX0_make_0 : decode cX0_make 0 = .ok (.aload_n 0, 1) := by decide +kernel
theorem dX0_make_1 : decode cX0_make 1 = .ok (.getfield 14, 3) := by decide +kernel
theorem dX0_make_4 : decode cX0_make 4 = .ok (.iconst 0, 1) := by decide +kernel
theorem dX0_make_5 : decode cX0_make 5 = .ok (.invokevirtual 26, 3) := by decide +kernel
theorem dX0_make_8 : decode cX0_make 8 = .ok (.iconst 0, 1) := by decide +kernel
theorem dX0_make_9 : decode cX0_make 9 = .ok (.istore_n 3, 1) := by decide +kernel
theorem dX0_make_10 : decode cX0_make 10 = .ok (.iconst 1, 1) := by decide +kernel
theorem dX0_make_11 : decode cX0_make 11 = .ok (.istore 4, 2) := by decide +kernel
theorem dX0_make_13 : decode cX0_make 13 = .ok (.iconst 0, 1) := by decide +kernel
theorem dX0_make_14 : decode cX0_make 14 = .ok (.istore 5, 2) := by decide +kernel
theorem dX0_make_16 : decode cX0_make 16 = .ok (.iload 5, 2) := by decide +kernel
theorem dX0_make_18 : decode cX0_make 18 = .ok (.aload_n 2, 1) := by decide +kernel
theorem dX0_make_19 : decode cX0_make 19 = .ok (.invokevirtual 29, 3) := by decide +kernel
theorem dX0_make_22 : decode cX0_make 22 = .ok (.if_icmp .ge 189, 3) := by decide +kernel
theorem dX0_make_25 : decode cX0_make 25 = .ok (.iload 4, 2) := by decide +kernel
theorem dX0_make_27 : decode cX0_make 27 = .ok (.ifCond .eq 184, 3) := by decide +kernel
theorem dX0_make_30 : decode cX0_make 30 = .ok (.aload_n 2, 1) := by decide +kernel
theorem dX0_make_31 : decode cX0_make 31 = .ok (.iload 5, 2) := by decide +kernel
theorem dX0_make_33 : decode cX0_make 33 = .ok (.invokevirtual 35, 3) := by decide +kernel
theorem dX0_make_36 : decode cX0_make 36 = .ok (.astore 6, 2) := by decide +kernel
theorem dX0_make_38 : decode cX0_make 38 = .ok (.aload 6, 2) := by decide +kernel
theorem dX0_make_40 : decode cX0_make 40 = .ok (.ifnonnull 6, 3) := by decide +kernel
theorem dX0_make_43 : decode cX0_make 43 = .ok (.goto 168, 3) := by decide +kernel
theorem dX0_make_46 : decode cX0_make 46 = .ok (.aload_n 0, 1) := by decide +kernel
theorem dX0_make_47 : decode cX0_make 47 = .ok (.getfield 14, 3) := by decide +kernel
theorem dX0_make_50 : decode cX0_make 50 = .ok (.aload_n 1, 1) := by decide +kernel
theorem dX0_make_51 : decode cX0_make 51 = .ok (.getfield 39, 3) := by decide +kernel
theorem dX0_make_54 : decode cX0_make 54 = .ok (.iload_n 3, 1) := by decide +kernel
theorem dX0_make_55 : decode cX0_make 55 = .ok (.aload 6, 2) := by decide +kernel
theorem dX0_make_57 : decode cX0_make 57 = .ok (.getfield 44, 3) := by decide +kernel
theorem dX0_make_60 : decode cX0_make 60 = .ok (.invokevirtual 50, 3) := by decide +kernel
theorem dX0_make_63 : decode cX0_make 63 = .ok (.istore 4, 2) := by decide +kernel
theorem dX0_make_65 : decode cX0_make 65 = .ok (.aload 6, 2) := by decide +kernel
theorem dX0_make_67 : decode cX0_make 67 = .ok (.getfield 54, 3) := by decide +kernel
theorem dX0_make_70 : decode cX0_make 70 = .ok (.istore_n 3, 1) := by decide +kernel
theorem dX0_make_71 : decode cX0_make 71 = .ok (.aload 6, 2) := by decide +kernel
theorem dX0_make_73 : decode cX0_make 73 = .ok (.aload_n 0, 1) := by decide +kernel
theorem dX0_make_74 : decode cX0_make 74 = .ok (.getfield 14, 3) := by decide +kernel
theorem dX0_make_77 : decode cX0_make 77 = .ok (.invokevirtual 57, 3) := by decide +kernel
theorem dX0_make_80 : decode cX0_make 80 = .ok (.putfield 58, 3) := by decide +kernel
theorem dX0_make_83 : decode cX0_make 83 = .ok (.aload_n 1, 1) := by decide +kernel
theorem dX0_make_84 : decode cX0_make 84 = .ok (.iload 5, 2) := by decide +kernel
theorem dX0_make_86 : decode cX0_make 86 = .ok (.invokevirtual 61, 3) := by decide +kernel
theorem dX0_make_89 : decode cX0_make 89 = .ok (.astore 7, 2) := by decide +kernel
theorem dX0_make_91 : decode cX0_make 91 = .ok (.aload 7, 2) := by decide +kernel
theorem dX0_make_93 : decode cX0_make 93 = .ok (.ifnonnull 32, 3) := by decide +kernel
theorem dX0_make_96 : decode cX0_make 96 = .ok (.iload 4, 2) := by decide +kernel
theorem dX0_make_98 : decode cX0_make 98 = .ok (.aload_n 0, 1) := by decide +kernel
theorem dX0_make_99 : decode cX0_make 99 = .ok (.getfield 14, 3) := by decide +kernel
theorem dX0_make_102 : decode cX0_make 102 = .ok (.aload_n 1, 1) := by decide +kernel
theorem dX0_make_103 : decode cX0_make 103 = .ok (.getfield 39, 3) := by decide +kernel
theorem dX0_make_106 : decode cX0_make 106 = .ok (.aload 6, 2) := by decide +kernel
theorem dX0_make_108 : decode cX0_make 108 = .ok (.getfield 44, 3) := by decide +kernel
theorem dX0_make_111 : decode cX0_make 111 = .ok (.aload 6, 2) := by decide +kernel
theorem dX0_make_113 : decode cX0_make 113 = .ok (.getfield 54, 3) := by decide +kernel
theorem dX0_make_116 : decode cX0_make 116 = .ok (.invokevirtual 50, 3) := by decide +kernel
theorem dX0_make_119 : decode cX0_make 119 = .ok (.iand, 1) := by decide +kernel
theorem dX0_make_120 : decode cX0_make 120 = .ok (.istore 4, 2) := by decide +kernel
theorem dX0_make_122 : decode cX0_make 122 = .ok (.goto 47, 3) := by decide +kernel
theorem dX0_make_125 : decode cX0_make 125 = .ok (.iload 4, 2) := by decide +kernel
theorem dX0_make_127 : decode cX0_make 127 = .ok (.aload_n 0, 1) := by decide +kernel
theorem dX0_make_128 : decode cX0_make 128 = .ok (.aload 7, 2) := by decide +kernel
theorem dX0_make_130 : decode cX0_make 130 = .ok (.aload 6, 2) := by decide +kernel
theorem dX0_make_132 : decode cX0_make 132 = .ok (.aload_n 1, 1) := by decide +kernel
theorem dX0_make_133 : decode cX0_make 133 = .ok (.invokevirtual 65, 3) := by decide +kernel
theorem dX0_make_136 : decode cX0_make 136 = .ok (.ifCond .eq 29, 3) := by decide +kernel
theorem dX0_make_139 : decode cX0_make 139 = .ok (.aload_n 0, 1) := by decide +kernel
theorem dX0_make_140 : decode cX0_make 140 = .ok (.getfield 14, 3) := by decide +kernel
theorem dX0_make_143 : decode cX0_make 143 = .ok (.aload_n 0, 1) := by decide +kernel
theorem dX0_make_144 : decode cX0_make 144 = .ok (.getfield 20, 3) := by decide +kernel
theorem dX0_make_147 : decode cX0_make 147 = .ok (.iconst 0, 1) := by decide +kernel
theorem dX0_make_148 : decode cX0_make 148 = .ok (.aload_n 0, 1) := by decide +kernel
theorem dX0_make_149 : decode cX0_make 149 = .ok (.getfield 20, 3) := by decide +kernel
theorem dX0_make_152 : decode cX0_make 152 = .ok (.invokevirtual 57, 3) := by decide +kernel
theorem dX0_make_155 : decode cX0_make 155 = .ok (.invokevirtual 50, 3) := by decide +kernel
theorem dX0_make_158 : decode cX0_make 158 = .ok (.ifCond .eq 7, 3) := by decide +kernel
theorem dX0_make_161 : decode cX0_make 161 = .ok (.iconst 1, 1) := by decide +kernel
theorem dX0_make_162 : decode cX0_make 162 = .ok (.goto 4, 3) := by decide +kernel
theorem dX0_make_165 : decode cX0_make 165 = .ok (.iconst 0, 1) := by decide +kernel
theorem dX0_make_166 : decode cX0_make 166 = .ok (.iand, 1) := by decide +kernel
theorem dX0_make_167 : decode cX0_make 167 = .ok (.istore 4, 2) := by decide +kernel
theorem dX0_make_169 : decode cX0_make 169 = .ok (.aload 6, 2) := by decide +kernel
theorem dX0_make_171 : decode cX0_make 171 = .ok (.aload_n 0, 1) := by decide +kernel
theorem dX0_make_172 : decode cX0_make 172 = .ok (.getfield 14, 3) := by decide +kernel
theorem dX0_make_175 : decode cX0_make 175 = .ok (.invokevirtual 57, 3) := by decide +kernel
theorem dX0_make_178 : decode cX0_make 178 = .ok (.aload 6, 2) := by decide +kernel
theorem dX0_make_180 : decode cX0_make 180 = .ok (.getfield 58, 3) := by decide +kernel
theorem dX0_make_183 : decode cX0_make 183 = .ok (.isub, 1) := by decide +kernel
theorem dX0_make_184 : decode cX0_make 184 = .ok (.putfield 69, 3) := by decide +kernel
theorem dX0_make_187 : decode cX0_make 187 = .ok (.aload 6, 2) := by decide +kernel
theorem dX0_make_189 : decode cX0_make 189 = .ok (.aload 7, 2) := by decide +kernel
theorem dX0_make_191 : decode cX0_make 191 = .ok (.ifnonnull 7, 3) := by decide +kernel
theorem dX0_make_194 : decode cX0_make 194 = .ok (.iconst 0, 1) := by decide +kernel
theorem dX0_make_195 : decode cX0_make 195 = .ok (.goto 7, 3) := by decide +kernel
theorem dX0_make_198 : decode cX0_make 198 = .ok (.aload_n 0, 1) := by decide +kernel
theorem dX0_make_199 : decode cX0_make 199 = .ok (.getfield 72, 3) := by decide +kernel
theorem dX0_make_202 : decode cX0_make 202 = .ok (.putfield 75, 3) := by decide +kernel
theorem dX0_make_205 : decode cX0_make 205 = .ok (.iinc 5 1, 3) := by decide +kernel
theorem dX0_make_208 : decode cX0_make 208 = .ok (.goto (-192), 3) := by decide +kernel
theorem dX0_make_211 : decode cX0_make 211 = .ok (.iload 4, 2) := by decide +kernel
theorem dX0_make_213 : decode cX0_make 213 = .ok (.ifCond .eq 29, 3) := by decide +kernel
theorem dX0_make_216 : decode cX0_make 216 = .ok (.aload_n 0, 1) := by decide +kernel
theorem dX0_make_217 : decode cX0_make 217 = .ok (.getfield 14, 3) := by decide +kernel
theorem dX0_make_220 : decode cX0_make 220 = .ok (.aload_n 1, 1) := by decide +kernel
theorem dX0_make_221 : decode cX0_make 221 = .ok (.getfield 39, 3) := by decide +kernel
theorem dX0_make_224 : decode cX0_make 224 = .ok (.iload_n 3, 1) := by decide +kernel
theorem dX0_make_225 : decode cX0_make 225 = .ok (.aload_n 1, 1) := by decide +kernel
theorem dX0_make_226 : decode cX0_make 226 = .ok (.getfield 39, 3) := by decide +kernel
theorem dX0_make_229 : decode cX0_make 229 = .ok (.invokevirtual 57, 3) := by decide +kernel
theorem dX0_make_232 : decode cX0_make 232 = .ok (.invokevirtual 50, 3) := by decide +kernel
theorem dX0_make_235 : decode cX0_make 235 = .ok (.ifCond .eq 7, 3) := by decide +kernel
theorem dX0_make_238 : decode cX0_make 238 = .ok (.iconst 1, 1) := by decide +kernel
theorem dX0_make_239 : decode cX0_make 239 = .ok (.goto 4, 3) := by decide +kernel
theorem dX0_make_242 : decode cX0_make 242 = .ok (.iconst 0, 1) := by decide +kernel
theorem dX0_make_243 : decode cX0_make 243 = .ok (.ireturn, 1) := by decide +kernel
theorem dX1_areLike_0 : decode cX1_areLike 0 = .ok (.aload_n 0, 1) := by decide +kernel
theorem dX1_areLike_1 : decode cX1_areLike 1 = .ok (.iload_n 1, 1) := by decide +kernel
theorem dX1_areLike_2 : decode cX1_areLike 2 = .ok (.invokevirtual 154, 3) := by decide +kernel
theorem dX1_areLike_5 : decode cX1_areLike 5 = .ok (.astore_n 3, 1) := by decide +kernel
theorem dX1_areLike_6 : decode cX1_areLike 6 = .ok (.aload_n 0, 1) := by decide +kernel
theorem dX1_areLike_7 : decode cX1_areLike 7 = .ok (.iload_n 2, 1) := by decide +kernel
theorem dX1_areLike_8 : decode cX1_areLike 8 = .ok (.invokevirtual 154, 3) := by decide +kernel
theorem dX1_areLike_11 : decode cX1_areLike 11 = .ok (.astore 4, 2) := by decide +kernel
theorem dX1_areLike_13 : decode cX1_areLike 13 = .ok (.aload_n 3, 1) := by decide +kernel
theorem dX1_areLike_14 : decode cX1_areLike 14 = .ok (.ifnull 51, 3) := by decide +kernel
theorem dX1_areLike_17 : decode cX1_areLike 17 = .ok (.aload 4, 2) := by decide +kernel
theorem dX1_areLike_19 : decode cX1_areLike 19 = .ok (.ifnull 46, 3) := by decide +kernel
theorem dX1_areLike_22 : decode cX1_areLike 22 = .ok (.aload_n 3, 1) := by decide +kernel
theorem dX1_areLike_23 : decode cX1_areLike 23 = .ok (.getfield 133, 3) := by decide +kernel
theorem dX1_areLike_26 : decode cX1_areLike 26 = .ok (.aload 4, 2) := by decide +kernel
theorem dX1_areLike_28 : decode cX1_areLike 28 = .ok (.getfield 133, 3) := by decide +kernel
theorem dX1_areLike_31 : decode cX1_areLike 31 = .ok (.if_icmp .ne 34, 3) := by decide +kernel
theorem dX1_areLike_34 : decode cX1_areLike 34 = .ok (.aload_n 0, 1) := by decide +kernel
theorem dX1_areLike_35 : decode cX1_areLike 35 = .ok (.getfield 14, 3) := by decide +kernel
theorem dX1_areLike_38 : decode cX1_areLike 38 = .ok (.aload_n 3, 1) := by decide +kernel
theorem dX1_areLike_39 : decode cX1_areLike 39 = .ok (.getfield 130, 3) := by decide +kernel
theorem dX1_areLike_42 : decode cX1_areLike 42 = .ok (.aload_n 0, 1) := by decide +kernel
theorem dX1_areLike_43 : decode cX1_areLike 43 = .ok (.getfield 14, 3) := by decide +kernel
theorem dX1_areLike_46 : decode cX1_areLike 46 = .ok (.aload 4, 2) := by decide +kernel
theorem dX1_areLike_48 : decode cX1_areLike 48 = .ok (.getfield 130, 3) := by decide +kernel
theorem dX1_areLike_51 : decode cX1_areLike 51 = .ok (.aload_n 3, 1) := by decide +kernel
theorem dX1_areLike_52 : decode cX1_areLike 52 = .ok (.getfield 133, 3) := by decide +kernel
theorem dX1_areLike_55 : decode cX1_areLike 55 = .ok (.invokevirtual 157, 3) := by decide +kernel
theorem dX1_areLike_58 : decode cX1_areLike 58 = .ok (.ifCond .eq 7, 3) := by decide +kernel
theorem dX1_areLike_61 : decode cX1_areLike 61 = .ok (.iconst 1, 1) := by decide +kernel
theorem dX1_areLike_62 : decode cX1_areLike 62 = .ok (.goto 4, 3) := by decide +kernel
theorem dX1_areLike_65 : decode cX1_areLike 65 = .ok (.iconst 0, 1) := by decide +kernel
theorem dX1_areLike_66 : decode cX1_areLike 66 = .ok (.ireturn, 1) := by decide +kernel
theorem dX1_bytesInPieces_0 : decode cX1_bytesInPieces 0 = .ok (.iconst 0, 1) := by decide +kernel
theorem dX1_bytesInPieces_1 : decode cX1_bytesInPieces 1 = .ok (.istore_n 1, 1) := by decide +kernel
theorem dX1_bytesInPieces_2 : decode cX1_bytesInPieces 2 = .ok (.iconst 0, 1) := by decide +kernel
theorem dX1_bytesInPieces_3 : decode cX1_bytesInPieces 3 = .ok (.istore_n 2, 1) := by decide +kernel
theorem dX1_bytesInPieces_4 : decode cX1_bytesInPieces 4 = .ok (.iload_n 2, 1) := by decide +kernel
theorem dX1_bytesInPieces_5 : decode cX1_bytesInPieces 5 = .ok (.aload_n 0, 1) := by decide +kernel
theorem dX1_bytesInPieces_6 : decode cX1_bytesInPieces 6 = .ok (.getfield 46, 3) := by decide +kernel
theorem dX1_bytesInPieces_9 : decode cX1_bytesInPieces 9 = .ok (.if_icmp .ge 35, 3) := by decide +kernel
theorem dX1_bytesInPieces_12 : decode cX1_bytesInPieces 12 = .ok (.aload_n 0, 1) := by decide +kernel
theorem dX1_bytesInPieces_13 : decode cX1_bytesInPieces 13 = .ok (.iload_n 2, 1) := by decide +kernel
theorem dX1_bytesInPieces_14 : decode cX1_bytesInPieces 14 = .ok (.invokevirtual 154, 3) := by decide +kernel
theorem dX1_bytesInPieces_17 : decode cX1_bytesInPieces 17 = .ok (.astore_n 3, 1) := by decide +kernel
theorem dX1_bytesInPieces_18 : decode cX1_bytesInPieces 18 = .ok (.iload_n 1, 1) := by decide +kernel
theorem dX1_bytesInPieces_19 : decode cX1_bytesInPieces 19 = .ok (.aload_n 3, 1) := by decide +kernel
theorem dX1_bytesInPieces_20 : decode cX1_bytesInPieces 20 = .ok (.ifnonnull 7, 3) := by decide +kernel
theorem dX1_bytesInPieces_23 : decode cX1_bytesInPieces 23 = .ok (.iconst 0, 1) := by decide +kernel
theorem dX1_bytesInPieces_24 : decode cX1_bytesInPieces 24 = .ok (.goto 12, 3) := by decide +kernel
theorem dX1_bytesInPieces_27 : decode cX1_bytesInPieces 27 = .ok (.aload_n 3, 1) := by decide +kernel
theorem dX1_bytesInPieces_28 : decode cX1_bytesInPieces 28 = .ok (.getfield 129, 3) := by decide +kernel
theorem dX1_bytesInPieces_31 : decode cX1_bytesInPieces 31 = .ok (.aload_n 3, 1) := by decide +kernel
theorem dX1_bytesInPieces_32 : decode cX1_bytesInPieces 32 = .ok (.getfield 128, 3) := by decide +kernel
theorem dX1_bytesInPieces_35 : decode cX1_bytesInPieces 35 = .ok (.isub, 1) := by decide +kernel
theorem dX1_bytesInPieces_36 : decode cX1_bytesInPieces 36 = .ok (.iadd, 1) := by decide +kernel
theorem dX1_bytesInPieces_37 : decode cX1_bytesInPieces 37 = .ok (.istore_n 1, 1) := by decide +kernel
theorem dX1_bytesInPieces_38 : decode cX1_bytesInPieces 38 = .ok (.iinc 2 1, 3) := by decide +kernel
theorem dX1_bytesInPieces_41 : decode cX1_bytesInPieces 41 = .ok (.goto (-37), 3) := by decide +kernel
theorem dX1_bytesInPieces_44 : decode cX1_bytesInPieces 44 = .ok (.iload_n 1, 1) := by decide +kernel
theorem dX1_bytesInPieces_45 : decode cX1_bytesInPieces 45 = .ok (.ireturn, 1) := by decide +kernel
theorem dX1_find_0 : decode cX1_find 0 = .ok (.aload_n 0, 1) := by decide +kernel
theorem dX1_find_1 : decode cX1_find 1 = .ok (.iconst 0, 1) := by decide +kernel
theorem dX1_find_2 : decode cX1_find 2 = .ok (.putfield 46, 3) := by decide +kernel
theorem dX1_find_5 : decode cX1_find 5 = .ok (.aload_n 0, 1) := by decide +kernel
theorem dX1_find_6 : decode cX1_find 6 = .ok (.getfield 14, 3) := by decide +kernel
theorem dX1_find_9 : decode cX1_find 9 = .ok (.iconst 0, 1) := by decide +kernel
theorem dX1_find_10 : decode cX1_find 10 = .ok (.invokevirtual 50, 3) := by decide +kernel
theorem dX1_find_13 : decode cX1_find 13 = .ok (.aload_n 0, 1) := by decide +kernel
theorem dX1_find_14 : decode cX1_find 14 = .ok (.getfield 20, 3) := by decide +kernel
theorem dX1_find_17 : decode cX1_find 17 = .ok (.iconst 0, 1) := by decide +kernel
theorem dX1_find_18 : decode cX1_find 18 = .ok (.invokevirtual 50, 3) := by decide +kernel
theorem dX1_find_21 : decode cX1_find 21 = .ok (.aload_n 0, 1) := by decide +kernel
theorem dX1_find_22 : decode cX1_find 22 = .ok (.getfield 32, 3) := by decide +kernel
theorem dX1_find_25 : decode cX1_find 25 = .ok (.aload_n 1, 1) := by decide +kernel
theorem dX1_find_26 : decode cX1_find 26 = .ok (.aload_n 2, 1) := by decide +kernel
theorem dX1_find_27 : decode cX1_find 27 = .ok (.getfield 53, 3) := by decide +kernel
theorem dX1_find_30 : decode cX1_find 30 = .ok (.invokevirtual 58, 3) := by decide +kernel
theorem dX1_find_33 : decode cX1_find 33 = .ok (.iconst 0, 1) := by decide +kernel
theorem dX1_find_34 : decode cX1_find 34 = .ok (.istore_n 3, 1) := by decide +kernel
theorem dX1_find_35 : decode cX1_find 35 = .ok (.iload_n 3, 1) := by decide +kernel
theorem dX1_find_36 : decode cX1_find 36 = .ok (.sipush 600, 3) := by decide +kernel
theorem dX1_find_39 : decode cX1_find 39 = .ok (.if_icmp .gt 135, 3) := by decide +kernel
theorem dX1_find_42 : decode cX1_find 42 = .ok (.aload_n 0, 1) := by decide +kernel
theorem dX1_find_43 : decode cX1_find 43 = .ok (.getfield 46, 3) := by decide +kernel
theorem dX1_find_46 : decode cX1_find 46 = .ok (.aload_n 0, 1) := by decide +kernel
theorem dX1_find_47 : decode cX1_find 47 = .ok (.getfield 41, 3) := by decide +kernel
theorem dX1_find_50 : decode cX1_find 50 = .ok (.arraylength, 1) := by decide +kernel
theorem dX1_find_51 : decode cX1_find 51 = .ok (.if_icmp .ge 123, 3) := by decide +kernel
theorem dX1_find_54 : decode cX1_find 54 = .ok (.aload_n 0, 1) := by decide +kernel
theorem dX1_find_55 : decode cX1_find 55 = .ok (.getfield 32, 3) := by decide +kernel
theorem dX1_find_58 : decode cX1_find 58 = .ok (.invokevirtual 62, 3) := by decide +kernel
theorem dX1_find_61 : decode cX1_find 61 = .ok (.ifCond .eq 113, 3) := by decide +kernel
theorem dX1_find_64 : decode cX1_find 64 = .ok (.aload_n 2, 1) := by decide +kernel
theorem dX1_find_65 : decode cX1_find 65 = .ok (.getfield 53, 3) := by decide +kernel
theorem dX1_find_68 : decode cX1_find 68 = .ok (.ifCond .ne 14, 3) := by decide +kernel
theorem dX1_find_71 : decode cX1_find 71 = .ok (.aload_n 2, 1) := by decide +kernel
theorem dX1_find_72 : decode cX1_find 72 = .ok (.aload_n 0, 1) := by decide +kernel
theorem dX1_find_73 : decode cX1_find 73 = .ok (.getfield 32, 3) := by decide +kernel
theorem dX1_find_76 : decode cX1_find 76 = .ok (.invokevirtual 66, 3) := by decide +kernel
theorem dX1_find_79 : decode cX1_find 79 = .ok (.ifCond .ne 89, 3) := by decide +kernel
theorem dX1_find_82 : decode cX1_find 82 = .ok (.aload_n 2, 1) := by decide +kernel
theorem dX1_find_83 : decode cX1_find 83 = .ok (.getfield 70, 3) := by decide +kernel
theorem dX1_find_86 : decode cX1_find 86 = .ok (.iconst (-1), 1) := by decide +kernel
theorem dX1_find_87 : decode cX1_find 87 = .ok (.if_icmp .ne 48, 3) := by decide +kernel
theorem dX1_find_90 : decode cX1_find 90 = .ok (.aload_n 0, 1) := by decide +kernel
theorem dX1_find_91 : decode cX1_find 91 = .ok (.getfield 14, 3) := by decide +kernel
theorem dX1_find_94 : decode cX1_find 94 = .ok (.invokevirtual 73, 3) := by decide +kernel
theorem dX1_find_97 : decode cX1_find 97 = .ok (.istore 4, 2) := by decide +kernel
theorem dX1_find_99 : decode cX1_find 99 = .ok (.aload_n 0, 1) := by decide +kernel
theorem dX1_find_100 : decode cX1_find 100 = .ok (.aload_n 0, 1) := by decide +kernel
theorem dX1_find_101 : decode cX1_find 101 = .ok (.getfield 14, 3) := by decide +kernel
theorem dX1_find_104 : decode cX1_find 104 = .ok (.aload_n 0, 1) := by decide +kernel
theorem dX1_find_105 : decode cX1_find 105 = .ok (.getfield 20, 3) := by decide +kernel
theorem dX1_find_108 : decode cX1_find 108 = .ok (.invokevirtual 77, 3) := by decide +kernel
theorem dX1_find_111 : decode cX1_find 111 = .ok (.aload_n 0, 1) := by decide +kernel
theorem dX1_find_112 : decode cX1_find 112 = .ok (.aload_n 2, 1) := by decide +kernel
theorem dX1_find_113 : decode cX1_find 113 = .ok (.iload 4, 2) := by decide +kernel
theorem dX1_find_115 : decode cX1_find 115 = .ok (.aload_n 0, 1) := by decide +kernel
theorem dX1_find_116 : decode cX1_find 116 = .ok (.getfield 32, 3) := by decide +kernel
theorem dX1_find_119 : decode cX1_find 119 = .ok (.getfield 81, 3) := by decide +kernel
theorem dX1_find_122 : decode cX1_find 122 = .ok (.aload_n 0, 1) := by decide +kernel
theorem dX1_find_123 : decode cX1_find 123 = .ok (.getfield 32, 3) := by decide +kernel
theorem dX1_find_126 : decode cX1_find 126 = .ok (.getfield 84, 3) := by decide +kernel
theorem dX1_find_129 : decode cX1_find 129 = .ok (.invokevirtual 87, 3) := by decide +kernel
theorem dX1_find_132 : decode cX1_find 132 = .ok (.goto 36, 3) := by decide +kernel
theorem dX1_find_135 : decode cX1_find 135 = .ok (.aload_n 0, 1) := by decide +kernel
theorem dX1_find_136 : decode cX1_find 136 = .ok (.getfield 23, 3) := by decide +kernel
theorem dX1_find_139 : decode cX1_find 139 = .ok (.iconst 0, 1) := by decide +kernel
theorem dX1_find_140 : decode cX1_find 140 = .ok (.invokevirtual 50, 3) := by decide +kernel
theorem dX1_find_143 : decode cX1_find 143 = .ok (.aload_n 0, 1) := by decide +kernel
theorem dX1_find_144 : decode cX1_find 144 = .ok (.getfield 26, 3) := by decide +kernel
theorem dX1_find_147 : decode cX1_find 147 = .ok (.iconst 0, 1) := by decide +kernel
theorem dX1_find_148 : decode cX1_find 148 = .ok (.invokevirtual 50, 3) := by decide +kernel
theorem dX1_find_151 : decode cX1_find 151 = .ok (.aload_n 0, 1) := by decide +kernel
theorem dX1_find_152 : decode cX1_find 152 = .ok (.aload_n 0, 1) := by decide +kernel
theorem dX1_find_153 : decode cX1_find 153 = .ok (.getfield 23, 3) := by decide +kernel
theorem dX1_find_156 : decode cX1_find 156 = .ok (.aload_n 0, 1) := by decide +kernel
theorem dX1_find_157 : decode cX1_find 157 = .ok (.getfield 26, 3) := by decide +kernel
theorem dX1_find_160 : decode cX1_find 160 = .ok (.invokevirtual 77, 3) := by decide +kernel
theorem dX1_find_163 : decode cX1_find 163 = .ok (.aload_n 0, 1) := by decide +kernel
theorem dX1_find_164 : decode cX1_find 164 = .ok (.aload_n 2, 1) := by decide +kernel
theorem dX1_find_165 : decode cX1_find 165 = .ok (.invokevirtual 91, 3) := by decide +kernel
theorem dX1_find_168 : decode cX1_find 168 = .ok (.iinc 3 1, 3) := by decide +kernel
theorem dX1_find_171 : decode cX1_find 171 = .ok (.goto (-136), 3) := by decide +kernel
theorem dX1_find_174 : decode cX1_find 174 = .ok (.return_, 1) := by decide +kernel
theorem dX1_get_0 : decode cX1_get 0 = .ok (.iload_n 1, 1) := by decide +kernel
theorem dX1_get_1 : decode cX1_get 1 = .ok (.ifCond .lt 29, 3) := by decide +kernel
theorem dX1_get_4 : decode cX1_get 4 = .ok (.iload_n 1, 1) := by decide +kernel
theorem dX1_get_5 : decode cX1_get 5 = .ok (.aload_n 0, 1) := by decide +kernel
theorem dX1_get_6 : decode cX1_get 6 = .ok (.getfield 46, 3) := by decide +kernel
theorem dX1_get_9 : decode cX1_get 9 = .ok (.if_icmp .ge 21, 3) := by decide +kernel
theorem dX1_get_12 : decode cX1_get 12 = .ok (.iload_n 1, 1) := by decide +kernel
theorem dX1_get_13 : decode cX1_get 13 = .ok (.aload_n 0, 1) := by decide +kernel
theorem dX1_get_14 : decode cX1_get 14 = .ok (.getfield 41, 3) := by decide +kernel
theorem dX1_get_17 : decode cX1_get 17 = .ok (.arraylength, 1) := by decide +kernel
theorem dX1_get_18 : decode cX1_get 18 = .ok (.if_icmp .ge 12, 3) := by decide +kernel
theorem dX1_get_21 : decode cX1_get 21 = .ok (.aload_n 0, 1) := by decide +kernel
theorem dX1_get_22 : decode cX1_get 22 = .ok (.getfield 41, 3) := by decide +kernel
theorem dX1_get_25 : decode cX1_get 25 = .ok (.iload_n 1, 1) := by decide +kernel
theorem dX1_get_26 : decode cX1_get 26 = .ok (.aaload, 1) := by decide +kernel
theorem dX1_get_27 : decode cX1_get 27 = .ok (.goto 4, 3) := by decide +kernel
theorem dX1_get_30 : decode cX1_get 30 = .ok (.aconst_null, 1) := by decide +kernel
theorem dX1_get_31 : decode cX1_get 31 = .ok (.areturn, 1) := by decide +kernel
theorem dX1_hasLikeAhead_0 : decode cX1_hasLikeAhead 0 = .ok (.iconst 0, 1) := by decide +kernel
theorem dX1_hasLikeAhead_1 : decode cX1_hasLikeAhead 1 = .ok (.istore_n 2, 1) := by decide +kernel
theorem dX1_hasLikeAhead_2 : decode cX1_hasLikeAhead 2 = .ok (.iload_n 2, 1) := by decide +kernel
theorem dX1_hasLikeAhead_3 : decode cX1_hasLikeAhead 3 = .ok (.iload_n 1, 1) := by decide +kernel
theorem dX1_hasLikeAhead_4 : decode cX1_hasLikeAhead 4 = .ok (.if_icmp .ge 20, 3) := by decide +kernel
theorem dX1_hasLikeAhead_7 : decode cX1_hasLikeAhead 7 = .ok (.aload_n 0, 1) := by decide +kernel
theorem dX1_hasLikeAhead_8 : decode cX1_hasLikeAhead 8 = .ok (.iload_n 1, 1) := by decide +kernel
