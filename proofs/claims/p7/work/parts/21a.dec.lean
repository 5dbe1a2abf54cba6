theorem kb_6 : (Int8.ofInt 6).toInt32 = 6 := by decide
theorem kb_7 : (Int8.ofInt 7).toInt32 = 7 := by decide
theorem kb_8 : (Int8.ofInt 8).toInt32 = 8 := by decide
theorem kb_9 : (Int8.ofInt 9).toInt32 = 9 := by decide
theorem kb_10 : (Int8.ofInt 10).toInt32 = 10 := by decide
theorem kb_12 : (Int8.ofInt 12).toInt32 = 12 := by decide
theorem kb_14 : (Int8.ofInt 14).toInt32 = 14 := by decide
theorem kb_16 : (Int8.ofInt 16).toInt32 = 16 := by decide
theorem kb_20 : (Int8.ofInt 20).toInt32 = 20 := by decide
theorem kb_24 : (Int8.ofInt 24).toInt32 = 24 := by decide
theorem kb_32 : (Int8.ofInt 32).toInt32 = 32 := by decide
theorem kb_34 : (Int8.ofInt 34).toInt32 = 34 := by decide
theorem kb_35 : (Int8.ofInt 35).toInt32 = 35 := by decide
theorem kb_38 : (Int8.ofInt 38).toInt32 = 38 := by decide
theorem kb_39 : (Int8.ofInt 39).toInt32 = 39 := by decide
theorem kb_40 : (Int8.ofInt 40).toInt32 = 40 := by decide
theorem kb_42 : (Int8.ofInt 42).toInt32 = 42 := by decide
theorem kb_43 : (Int8.ofInt 43).toInt32 = 43 := by decide
theorem kb_44 : (Int8.ofInt 44).toInt32 = 44 := by decide
theorem kb_48 : (Int8.ofInt 48).toInt32 = 48 := by decide
theorem kb_57 : (Int8.ofInt 57).toInt32 = 57 := by decide
theorem kb_58 : (Int8.ofInt 58).toInt32 = 58 := by decide
theorem kb_59 : (Int8.ofInt 59).toInt32 = 59 := by decide
theorem kb_60 : (Int8.ofInt 60).toInt32 = 60 := by decide
theorem kb_61 : (Int8.ofInt 61).toInt32 = 61 := by decide
theorem kb_62 : (Int8.ofInt 62).toInt32 = 62 := by decide
theorem kb_65 : (Int8.ofInt 65).toInt32 = 65 := by decide
theorem kb_90 : (Int8.ofInt 90).toInt32 = 90 := by decide
theorem kb_92 : (Int8.ofInt 92).toInt32 = 92 := by decide
theorem kb_97 : (Int8.ofInt 97).toInt32 = 97 := by decide
theorem kb_110 : (Int8.ofInt 110).toInt32 = 110 := by decide
theorem kb_116 : (Int8.ofInt 116).toInt32 = 116 := by decide
theorem kb_122 : (Int8.ofInt 122).toInt32 = 122 := by decide
theorem ki_m1 : Int32.ofInt (-1) = (-1) := by decide
theorem ki_0 : Int32.ofInt 0 = 0 := by decide
theorem ki_1 : Int32.ofInt 1 = 1 := by decide
theorem ki_2 : Int32.ofInt 2 = 2 := by decide
theorem ki_3 : Int32.ofInt 3 = 3 := by decide
theorem ki_4 : Int32.ofInt 4 = 4 := by decide
theorem ki_5 : Int32.ofInt 5 = 5 := by decide
theorem ks_255 : (Int16.ofInt 255).toInt32 = 255 := by decide
theorem ks_400 : (Int16.ofInt 400).toInt32 = 400 := by decide
theorem ks_443 : (Int16.ofInt 443).toInt32 = 443 := by decide
theorem ks_600 : (Int16.ofInt 600).toInt32 = 600 := by decide
theorem ks_700 : (Int16.ofInt 700).toInt32 = 700 := by decide
theorem ks_2883 : (Int16.ofInt 2883).toInt32 = 2883 := by decide
theorem ks_2884 : (Int16.ofInt 2884).toInt32 = 2884 := by decide
theorem ks_2944 : (Int16.ofInt 2944).toInt32 = 2944 := by decide
theorem ks_2945 : (Int16.ofInt 2945).toInt32 = 2945 := by decide
theorem ks_3005 : (Int16.ofInt 3005).toInt32 = 3005 := by decide
theorem ks_4346 : (Int16.ofInt 4346).toInt32 = 4346 := by decide
theorem ks_4347 : (Int16.ofInt 4347).toInt32 = 4347 := by decide
theorem ks_30429 : (Int16.ofInt 30429).toInt32 = 30429 := by decide
theorem dX9_act_0 : decode cX9_act 0 = .ok (.aload_n 0, 1) := by decide +kernel
theorem dX9_act_1 : decode cX9_act 1 = .ok (.invokevirtual 346, 3) := by decide +kernel
theorem dX9_act_4 : decode cX9_act 4 = .ok (.istore_n 1, 1) := by decide +kernel
theorem dX9_act_5 : decode cX9_act 5 = .ok (.iconst 0, 1) := by decide +kernel
theorem dX9_act_6 : decode cX9_act 6 = .ok (.istore_n 2, 1) := by decide +kernel
theorem dX9_act_7 : decode cX9_act 7 = .ok (.aload_n 0, 1) := by decide +kernel
theorem dX9_act_8 : decode cX9_act 8 = .ok (.ldc_w 373, 3) := by decide +kernel
theorem dX9_act_11 : decode cX9_act 11 = .ok (.invokevirtual 375, 3) := by decide +kernel
theorem dX9_act_14 : decode cX9_act 14 = .ok (.ifCond .eq 14, 3) := by decide +kernel
theorem dX9_act_17 : decode cX9_act 17 = .ok (.aload_n 0, 1) := by decide +kernel
theorem dX9_act_18 : decode cX9_act 18 = .ok (.iconst 1, 1) := by decide +kernel
theorem dX9_act_19 : decode cX9_act 19 = .ok (.iconst 0, 1) := by decide +kernel
theorem dX9_act_20 : decode cX9_act 20 = .ok (.iconst 3, 1) := by decide +kernel
theorem dX9_act_21 : decode cX9_act 21 = .ok (.invokevirtual 379, 3) := by decide +kernel
theorem dX9_act_24 : decode cX9_act 24 = .ok (.istore_n 2, 1) := by decide +kernel
theorem dX9_act_25 : decode cX9_act 25 = .ok (.goto 221, 3) := by decide +kernel
theorem dX9_act_28 : decode cX9_act 28 = .ok (.aload_n 0, 1) := by decide +kernel
theorem dX9_act_29 : decode cX9_act 29 = .ok (.ldc_w 383, 3) := by decide +kernel
theorem dX9_act_32 : decode cX9_act 32 = .ok (.invokevirtual 375, 3) := by decide +kernel
theorem dX9_act_35 : decode cX9_act 35 = .ok (.ifCond .eq 14, 3) := by decide +kernel
theorem dX9_act_38 : decode cX9_act 38 = .ok (.aload_n 0, 1) := by decide +kernel
theorem dX9_act_39 : decode cX9_act 39 = .ok (.iconst 2, 1) := by decide +kernel
theorem dX9_act_40 : decode cX9_act 40 = .ok (.iconst 0, 1) := by decide +kernel
theorem dX9_act_41 : decode cX9_act 41 = .ok (.iconst 3, 1) := by decide +kernel
theorem dX9_act_42 : decode cX9_act 42 = .ok (.invokevirtual 379, 3) := by decide +kernel
theorem dX9_act_45 : decode cX9_act 45 = .ok (.istore_n 2, 1) := by decide +kernel
theorem dX9_act_46 : decode cX9_act 46 = .ok (.goto 200, 3) := by decide +kernel
theorem dX9_act_49 : decode cX9_act 49 = .ok (.aload_n 0, 1) := by decide +kernel
theorem dX9_act_50 : decode cX9_act 50 = .ok (.ldc_w 385, 3) := by decide +kernel
theorem dX9_act_53 : decode cX9_act 53 = .ok (.invokevirtual 375, 3) := by decide +kernel
theorem dX9_act_56 : decode cX9_act 56 = .ok (.ifCond .eq 13, 3) := by decide +kernel
theorem dX9_act_59 : decode cX9_act 59 = .ok (.aload_n 0, 1) := by decide +kernel
theorem dX9_act_60 : decode cX9_act 60 = .ok (.iconst 2, 1) := by decide +kernel
theorem dX9_act_61 : decode cX9_act 61 = .ok (.iconst (-1), 1) := by decide +kernel
theorem dX9_act_62 : decode cX9_act 62 = .ok (.invokevirtual 361, 3) := by decide +kernel
theorem dX9_act_65 : decode cX9_act 65 = .ok (.istore_n 2, 1) := by decide +kernel
theorem dX9_act_66 : decode cX9_act 66 = .ok (.goto 180, 3) := by decide +kernel
theorem dX9_act_69 : decode cX9_act 69 = .ok (.aload_n 0, 1) := by decide +kernel
theorem dX9_act_70 : decode cX9_act 70 = .ok (.ldc_w 386, 3) := by decide +kernel
theorem dX9_act_73 : decode cX9_act 73 = .ok (.invokevirtual 375, 3) := by decide +kernel
theorem dX9_act_76 : decode cX9_act 76 = .ok (.ifCond .eq 13, 3) := by decide +kernel
theorem dX9_act_79 : decode cX9_act 79 = .ok (.aload_n 0, 1) := by decide +kernel
theorem dX9_act_80 : decode cX9_act 80 = .ok (.iconst 3, 1) := by decide +kernel
theorem dX9_act_81 : decode cX9_act 81 = .ok (.iconst 1, 1) := by decide +kernel
theorem dX9_act_82 : decode cX9_act 82 = .ok (.invokevirtual 361, 3) := by decide +kernel
theorem dX9_act_85 : decode cX9_act 85 = .ok (.istore_n 2, 1) := by decide +kernel
theorem dX9_act_86 : decode cX9_act 86 = .ok (.goto 160, 3) := by decide +kernel
theorem dX9_act_89 : decode cX9_act 89 = .ok (.aload_n 0, 1) := by decide +kernel
theorem dX9_act_90 : decode cX9_act 90 = .ok (.ldc_w 388, 3) := by decide +kernel
theorem dX9_act_93 : decode cX9_act 93 = .ok (.invokevirtual 375, 3) := by decide +kernel
theorem dX9_act_96 : decode cX9_act 96 = .ok (.ifCond .eq 13, 3) := by decide +kernel
theorem dX9_act_99 : decode cX9_act 99 = .ok (.aload_n 0, 1) := by decide +kernel
theorem dX9_act_100 : decode cX9_act 100 = .ok (.iconst 3, 1) := by decide +kernel
theorem dX9_act_101 : decode cX9_act 101 = .ok (.iconst 0, 1) := by decide +kernel
theorem dX9_act_102 : decode cX9_act 102 = .ok (.invokevirtual 361, 3) := by decide +kernel
theorem dX9_act_105 : decode cX9_act 105 = .ok (.istore_n 2, 1) := by decide +kernel
theorem dX9_act_106 : decode cX9_act 106 = .ok (.goto 140, 3) := by decide +kernel
theorem dX9_act_109 : decode cX9_act 109 = .ok (.aload_n 0, 1) := by decide +kernel
theorem dX9_act_110 : decode cX9_act 110 = .ok (.ldc_w 390, 3) := by decide +kernel
theorem dX9_act_113 : decode cX9_act 113 = .ok (.invokevirtual 375, 3) := by decide +kernel
theorem dX9_act_116 : decode cX9_act 116 = .ok (.ifCond .eq 15, 3) := by decide +kernel
theorem dX9_act_119 : decode cX9_act 119 = .ok (.aload_n 0, 1) := by decide +kernel
theorem dX9_act_120 : decode cX9_act 120 = .ok (.iconst 4, 1) := by decide +kernel
theorem dX9_act_121 : decode cX9_act 121 = .ok (.iconst 1, 1) := by decide +kernel
theorem dX9_act_122 : decode cX9_act 122 = .ok (.bipush 40, 2) := by decide +kernel
theorem dX9_act_124 : decode cX9_act 124 = .ok (.invokevirtual 379, 3) := by decide +kernel
theorem dX9_act_127 : decode cX9_act 127 = .ok (.istore_n 2, 1) := by decide +kernel
theorem dX9_act_128 : decode cX9_act 128 = .ok (.goto 118, 3) := by decide +kernel
theorem dX9_act_131 : decode cX9_act 131 = .ok (.aload_n 0, 1) := by decide +kernel
theorem dX9_act_132 : decode cX9_act 132 = .ok (.ldc_w 392, 3) := by decide +kernel
theorem dX9_act_135 : decode cX9_act 135 = .ok (.invokevirtual 375, 3) := by decide +kernel
theorem dX9_act_138 : decode cX9_act 138 = .ok (.ifCond .eq 11, 3) := by decide +kernel
theorem dX9_act_141 : decode cX9_act 141 = .ok (.aload_n 0, 1) := by decide +kernel
theorem dX9_act_142 : decode cX9_act 142 = .ok (.invokevirtual 394, 3) := by decide +kernel
theorem dX9_act_145 : decode cX9_act 145 = .ok (.istore_n 2, 1) := by decide +kernel
theorem dX9_act_146 : decode cX9_act 146 = .ok (.goto 100, 3) := by decide +kernel
theorem dX9_act_149 : decode cX9_act 149 = .ok (.aload_n 0, 1) := by decide +kernel
theorem dX9_act_150 : decode cX9_act 150 = .ok (.ldc_w 397, 3) := by decide +kernel
theorem dX9_act_153 : decode cX9_act 153 = .ok (.invokevirtual 375, 3) := by decide +kernel
theorem dX9_act_156 : decode cX9_act 156 = .ok (.ifCond .eq 11, 3) := by decide +kernel
theorem dX9_act_159 : decode cX9_act 159 = .ok (.aload_n 0, 1) := by decide +kernel
theorem dX9_act_160 : decode cX9_act 160 = .ok (.invokevirtual 399, 3) := by decide +kernel
theorem dX9_act_163 : decode cX9_act 163 = .ok (.istore_n 2, 1) := by decide +kernel
theorem dX9_act_164 : decode cX9_act 164 = .ok (.goto 82, 3) := by decide +kernel
theorem dX9_act_167 : decode cX9_act 167 = .ok (.aload_n 0, 1) := by decide +kernel
theorem dX9_act_168 : decode cX9_act 168 = .ok (.ldc_w 402, 3) := by decide +kernel
theorem dX9_act_171 : decode cX9_act 171 = .ok (.invokevirtual 375, 3) := by decide +kernel
theorem dX9_act_174 : decode cX9_act 174 = .ok (.ifCond .eq 12, 3) := by decide +kernel
theorem dX9_act_177 : decode cX9_act 177 = .ok (.aload_n 0, 1) := by decide +kernel
theorem dX9_act_178 : decode cX9_act 178 = .ok (.iconst 1, 1) := by decide +kernel
theorem dX9_act_179 : decode cX9_act 179 = .ok (.invokevirtual 404, 3) := by decide +kernel
theorem dX9_act_182 : decode cX9_act 182 = .ok (.istore_n 2, 1) := by decide +kernel
theorem dX9_act_183 : decode cX9_act 183 = .ok (.goto 63, 3) := by decide +kernel
theorem dX9_act_186 : decode cX9_act 186 = .ok (.aload_n 0, 1) := by decide +kernel
theorem dX9_act_187 : decode cX9_act 187 = .ok (.ldc_w 408, 3) := by decide +kernel
theorem dX9_act_190 : decode cX9_act 190 = .ok (.invokevirtual 375, 3) := by decide +kernel
theorem dX9_act_193 : decode cX9_act 193 = .ok (.ifCond .eq 12, 3) := by decide +kernel
theorem dX9_act_196 : decode cX9_act 196 = .ok (.aload_n 0, 1) := by decide +kernel
theorem dX9_act_197 : decode cX9_act 197 = .ok (.iconst 0, 1) := by decide +kernel
theorem dX9_act_198 : decode cX9_act 198 = .ok (.invokevirtual 404, 3) := by decide +kernel
theorem dX9_act_201 : decode cX9_act 201 = .ok (.istore_n 2, 1) := by decide +kernel
theorem dX9_act_202 : decode cX9_act 202 = .ok (.goto 44, 3) := by decide +kernel
theorem dX9_act_205 : decode cX9_act 205 = .ok (.aload_n 0, 1) := by decide +kernel
theorem dX9_act_206 : decode cX9_act 206 = .ok (.ldc_w 410, 3) := by decide +kernel
theorem dX9_act_209 : decode cX9_act 209 = .ok (.invokevirtual 375, 3) := by decide +kernel
theorem dX9_act_212 : decode cX9_act 212 = .ok (.ifCond .eq 11, 3) := by decide +kernel
theorem dX9_act_215 : decode cX9_act 215 = .ok (.aload_n 0, 1) := by decide +kernel
theorem dX9_act_216 : decode cX9_act 216 = .ok (.invokevirtual 412, 3) := by decide +kernel
theorem dX9_act_219 : decode cX9_act 219 = .ok (.istore_n 2, 1) := by decide +kernel
theorem dX9_act_220 : decode cX9_act 220 = .ok (.goto 26, 3) := by decide +kernel
theorem dX9_act_223 : decode cX9_act 223 = .ok (.aload_n 0, 1) := by decide +kernel
theorem dX9_act_224 : decode cX9_act 224 = .ok (.ldc_w 415, 3) := by decide +kernel
theorem dX9_act_227 : decode cX9_act 227 = .ok (.invokevirtual 375, 3) := by decide +kernel
theorem dX9_act_230 : decode cX9_act 230 = .ok (.ifCond .eq 11, 3) := by decide +kernel
theorem dX9_act_233 : decode cX9_act 233 = .ok (.aload_n 0, 1) := by decide +kernel
theorem dX9_act_234 : decode cX9_act 234 = .ok (.invokevirtual 417, 3) := by decide +kernel
theorem dX9_act_237 : decode cX9_act 237 = .ok (.istore_n 2, 1) := by decide +kernel
theorem dX9_act_238 : decode cX9_act 238 = .ok (.goto 8, 3) := by decide +kernel
theorem dX9_act_241 : decode cX9_act 241 = .ok (.aload_n 0, 1) := by decide +kernel
theorem dX9_act_242 : decode cX9_act 242 = .ok (.iload_n 1, 1) := by decide +kernel
theorem dX9_act_243 : decode cX9_act 243 = .ok (.invokevirtual 352, 3) := by decide +kernel
theorem dX9_act_246 : decode cX9_act 246 = .ok (.aload_n 0, 1) := by decide +kernel
theorem dX9_act_247 : decode cX9_act 247 = .ok (.getfield 26, 3) := by decide +kernel
theorem dX9_act_250 : decode cX9_act 250 = .ok (.iconst (-1), 1) := by decide +kernel
theorem dX9_act_251 : decode cX9_act 251 = .ok (.if_icmp .eq 5, 3) := by decide +kernel
theorem dX9_act_254 : decode cX9_act 254 = .ok (.iconst 0, 1) := by decide +kernel
theorem dX9_act_255 : decode cX9_act 255 = .ok (.ireturn, 1) := by decide +kernel
theorem dX9_act_256 : decode cX9_act 256 = .ok (.iload_n 2, 1) := by decide +kernel
theorem dX9_act_257 : decode cX9_act 257 = .ok (.ifCond .le 8, 3) := by decide +kernel
theorem dX9_act_260 : decode cX9_act 260 = .ok (.aload_n 0, 1) := by decide +kernel
theorem dX9_act_261 : decode cX9_act 261 = .ok (.iload_n 1, 1) := by decide +kernel
theorem dX9_act_262 : decode cX9_act 262 = .ok (.invokevirtual 352, 3) := by decide +kernel
theorem dX9_act_265 : decode cX9_act 265 = .ok (.iload_n 2, 1) := by decide +kernel
theorem dX9_act_266 : decode cX9_act 266 = .ok (.ireturn, 1) := by decide +kernel
theorem dX9_acts_0 : decode cX9_acts 0 = .ok (.aload_n 0, 1) := by decide +kernel
theorem dX9_acts_1 : decode cX9_acts 1 = .ok (.iconst (-1), 1) := by decide +kernel
theorem dX9_acts_2 : decode cX9_acts 2 = .ok (.putfield 26, 3) := by decide +kernel
theorem dX9_acts_5 : decode cX9_acts 5 = .ok (.aload_n 0, 1) := by decide +kernel
theorem dX9_acts_6 : decode cX9_acts 6 = .ok (.aload_n 0, 1) := by decide +kernel
theorem dX9_acts_7 : decode cX9_acts 7 = .ok (.getfield 337, 3) := by decide +kernel
theorem dX9_acts_10 : decode cX9_acts 10 = .ok (.putfield 343, 3) := by decide +kernel
theorem dX9_acts_13 : decode cX9_acts 13 = .ok (.aload_n 0, 1) := by decide +kernel
theorem dX9_acts_14 : decode cX9_acts 14 = .ok (.iconst 0, 1) := by decide +kernel
theorem dX9_acts_15 : decode cX9_acts 15 = .ok (.putfield 337, 3) := by decide +kernel
theorem dX9_acts_18 : decode cX9_acts 18 = .ok (.aload_n 0, 1) := by decide +kernel
theorem dX9_acts_19 : decode cX9_acts 19 = .ok (.iconst 0, 1) := by decide +kernel
theorem dX9_acts_20 : decode cX9_acts 20 = .ok (.putfield 340, 3) := by decide +kernel
theorem dX9_acts_23 : decode cX9_acts 23 = .ok (.aload_n 0, 1) := by decide +kernel
theorem dX9_acts_24 : decode cX9_acts 24 = .ok (.invokevirtual 420, 3) := by decide +kernel
theorem dX9_acts_27 : decode cX9_acts 27 = .ok (.iconst 0, 1) := by decide +kernel
theorem dX9_acts_28 : decode cX9_acts 28 = .ok (.istore_n 1, 1) := by decide +kernel
theorem dX9_acts_29 : decode cX9_acts 29 = .ok (.iconst 0, 1) := by decide +kernel
theorem dX9_acts_30 : decode cX9_acts 30 = .ok (.istore_n 2, 1) := by decide +kernel
theorem dX9_acts_31 : decode cX9_acts 31 = .ok (.aload_n 0, 1) := by decide +kernel
theorem dX9_acts_32 : decode cX9_acts 32 = .ok (.invokevirtual 346, 3) := by decide +kernel
theorem dX9_acts_35 : decode cX9_acts 35 = .ok (.aload_n 0, 1) := by decide +kernel
theorem dX9_acts_36 : decode cX9_acts 36 = .ok (.getfield 343, 3) := by decide +kernel
theorem dX9_acts_39 : decode cX9_acts 39 = .ok (.if_icmp .ge 7, 3) := by decide +kernel
theorem dX9_acts_42 : decode cX9_acts 42 = .ok (.iconst 1, 1) := by decide +kernel
theorem dX9_acts_43 : decode cX9_acts 43 = .ok (.goto 4, 3) := by decide +kernel
theorem dX9_acts_46 : decode cX9_acts 46 = .ok (.iconst 0, 1) := by decide +kernel
theorem dX9_acts_47 : decode cX9_acts 47 = .ok (.istore_n 3, 1) := by decide +kernel
theorem dX9_acts_48 : decode cX9_acts 48 = .ok (.iload_n 3, 1) := by decide +kernel
theorem dX9_acts_49 : decode cX9_acts 49 = .ok (.ifCond .eq 105, 3) := by decide +kernel
theorem dX9_acts_52 : decode cX9_acts 52 = .ok (.aload_n 0, 1) := by decide +kernel
theorem dX9_acts_53 : decode cX9_acts 53 = .ok (.getfield 26, 3) := by decide +kernel
theorem dX9_acts_56 : decode cX9_acts 56 = .ok (.iconst (-1), 1) := by decide +kernel
theorem dX9_acts_57 : decode cX9_acts 57 = .ok (.if_icmp .ne 97, 3) := by decide +kernel
theorem dX9_acts_60 : decode cX9_acts 60 = .ok (.iload_n 1, 1) := by decide +kernel
theorem dX9_acts_61 : decode cX9_acts 61 = .ok (.bipush 14, 2) := by decide +kernel
theorem dX9_acts_63 : decode cX9_acts 63 = .ok (.if_icmp .ne 11, 3) := by decide +kernel
theorem dX9_acts_66 : decode cX9_acts 66 = .ok (.aload_n 0, 1) := by decide +kernel
theorem dX9_acts_67 : decode cX9_acts 67 = .ok (.aload_n 0, 1) := by decide +kernel
theorem dX9_acts_68 : decode cX9_acts 68 = .ok (.invokevirtual 346, 3) := by decide +kernel
theorem dX9_acts_71 : decode cX9_acts 71 = .ok (.invokevirtual 352, 3) := by decide +kernel
theorem dX9_acts_74 : decode cX9_acts 74 = .ok (.aload_n 0, 1) := by decide +kernel
theorem dX9_acts_75 : decode cX9_acts 75 = .ok (.getfield 26, 3) := by decide +kernel
theorem dX9_acts_78 : decode cX9_acts 78 = .ok (.iconst (-1), 1) := by decide +kernel
theorem dX9_acts_79 : decode cX9_acts 79 = .ok (.if_icmp .ne 8, 3) := by decide +kernel
theorem dX9_acts_82 : decode cX9_acts 82 = .ok (.aload_n 0, 1) := by decide +kernel
theorem dX9_acts_83 : decode cX9_acts 83 = .ok (.invokevirtual 423, 3) := by decide +kernel
theorem dX9_acts_86 : decode cX9_acts 86 = .ok (.istore_n 2, 1) := by decide +kernel
theorem dX9_acts_87 : decode cX9_acts 87 = .ok (.iinc 1 1, 3) := by decide +kernel
theorem dX9_acts_90 : decode cX9_acts 90 = .ok (.aload_n 0, 1) := by decide +kernel
theorem dX9_acts_91 : decode cX9_acts 91 = .ok (.invokevirtual 346, 3) := by decide +kernel
theorem dX9_acts_94 : decode cX9_acts 94 = .ok (.aload_n 0, 1) := by decide +kernel
theorem dX9_acts_95 : decode cX9_acts 95 = .ok (.getfield 343, 3) := by decide +kernel
theorem dX9_acts_98 : decode cX9_acts 98 = .ok (.if_icmp .ge 7, 3) := by decide +kernel
theorem dX9_acts_101 : decode cX9_acts 101 = .ok (.iconst 1, 1) := by decide +kernel
theorem dX9_acts_102 : decode cX9_acts 102 = .ok (.goto 4, 3) := by decide +kernel
theorem dX9_acts_105 : decode cX9_acts 105 = .ok (.iconst 0, 1) := by decide +kernel
theorem dX9_acts_106 : decode cX9_acts 106 = .ok (.istore_n 3, 1) := by decide +kernel
theorem dX9_acts_107 : decode cX9_acts 107 = .ok (.iload_n 3, 1) := by decide +kernel
theorem dX9_acts_108 : decode cX9_acts 108 = .ok (.ifCond .eq (-60), 3) := by decide +kernel
theorem dX9_acts_111 : decode cX9_acts 111 = .ok (.aload_n 0, 1) := by decide +kernel
theorem dX9_acts_112 : decode cX9_acts 112 = .ok (.getfield 26, 3) := by decide +kernel
theorem dX9_acts_115 : decode cX9_acts 115 = .ok (.iconst (-1), 1) := by decide +kernel
theorem dX9_acts_116 : decode cX9_acts 116 = .ok (.if_icmp .ne (-68), 3) := by decide +kernel
theorem dX9_acts_119 : decode cX9_acts 119 = .ok (.aload_n 0, 1) := by decide +kernel
theorem dX9_acts_120 : decode cX9_acts 120 = .ok (.getfield 23, 3) := by decide +kernel
theorem dX9_acts_123 : decode cX9_acts 123 = .ok (.aload_n 0, 1) := by decide +kernel
theorem dX9_acts_124 : decode cX9_acts 124 = .ok (.getfield 340, 3) := by decide +kernel
theorem dX9_acts_127 : decode cX9_acts 127 = .ok (.iaload, 1) := by decide +kernel
theorem dX9_acts_128 : decode cX9_acts 128 = .ok (.bipush 59, 2) := by decide +kernel
theorem dX9_acts_130 : decode cX9_acts 130 = .ok (.if_icmp .eq 11, 3) := by decide +kernel
theorem dX9_acts_133 : decode cX9_acts 133 = .ok (.aload_n 0, 1) := by decide +kernel
theorem dX9_acts_134 : decode cX9_acts 134 = .ok (.aload_n 0, 1) := by decide +kernel
theorem dX9_acts_135 : decode cX9_acts 135 = .ok (.getfield 340, 3) := by decide +kernel
theorem dX9_acts_138 : decode cX9_acts 138 = .ok (.invokevirtual 352, 3) := by decide +kernel
theorem dX9_acts_141 : decode cX9_acts 141 = .ok (.aload_n 0, 1) := by decide +kernel
theorem dX9_acts_142 : decode cX9_acts 142 = .ok (.dup, 1) := by decide +kernel
theorem dX9_acts_143 : decode cX9_acts 143 = .ok (.getfield 340, 3) := by decide +kernel
theorem dX9_acts_146 : decode cX9_acts 146 = .ok (.iconst 1, 1) := by decide +kernel
theorem dX9_acts_147 : decode cX9_acts 147 = .ok (.iadd, 1) := by decide +kernel
theorem dX9_acts_148 : decode cX9_acts 148 = .ok (.putfield 340, 3) := by decide +kernel
theorem dX9_acts_151 : decode cX9_acts 151 = .ok (.goto (-103), 3) := by decide +kernel
theorem dX9_acts_154 : decode cX9_acts 154 = .ok (.aload_n 0, 1) := by decide +kernel
theorem dX9_acts_155 : decode cX9_acts 155 = .ok (.aload_n 0, 1) := by decide +kernel
theorem dX9_acts_156 : decode cX9_acts 156 = .ok (.getfield 26, 3) := by decide +kernel
theorem dX9_acts_159 : decode cX9_acts 159 = .ok (.iconst (-1), 1) := by decide +kernel
theorem dX9_acts_160 : decode cX9_acts 160 = .ok (.if_icmp .ne 7, 3) := by decide +kernel
theorem dX9_acts_163 : decode cX9_acts 163 = .ok (.iconst 0, 1) := by decide +kernel
theorem dX9_acts_164 : decode cX9_acts 164 = .ok (.goto 4, 3) := by decide +kernel
theorem dX9_acts_167 : decode cX9_acts 167 = .ok (.iconst 1, 1) := by decide +kernel
theorem dX9_acts_168 : decode cX9_acts 168 = .ok (.putfield 138, 3) := by decide +kernel
theorem dX9_acts_171 : decode cX9_acts 171 = .ok (.aload_n 0, 1) := by decide +kernel
theorem dX9_acts_172 : decode cX9_acts 172 = .ok (.getfield 138, 3) := by decide +kernel
theorem dX9_acts_175 : decode cX9_acts 175 = .ok (.ifCond .ne 26, 3) := by decide +kernel
theorem dX9_acts_178 : decode cX9_acts 178 = .ok (.aload_n 0, 1) := by decide +kernel
theorem dX9_acts_179 : decode cX9_acts 179 = .ok (.iload_n 1, 1) := by decide +kernel
theorem dX9_acts_180 : decode cX9_acts 180 = .ok (.ifCond .le 7, 3) := by decide +kernel
theorem dX9_acts_183 : decode cX9_acts 183 = .ok (.iconst 0, 1) := by decide +kernel
theorem dX9_acts_184 : decode cX9_acts 184 = .ok (.goto 7, 3) := by decide +kernel
theorem dX9_acts_187 : decode cX9_acts 187 = .ok (.aload_n 0, 1) := by decide +kernel
theorem dX9_acts_188 : decode cX9_acts 188 = .ok (.getfield 328, 3) := by decide +kernel
theorem dX9_acts_191 : decode cX9_acts 191 = .ok (.putfield 328, 3) := by decide +kernel
theorem dX9_acts_194 : decode cX9_acts 194 = .ok (.aload_n 0, 1) := by decide +kernel
theorem dX9_acts_195 : decode cX9_acts 195 = .ok (.iconst 0, 1) := by decide +kernel
theorem dX9_acts_196 : decode cX9_acts 196 = .ok (.putfield 325, 3) := by decide +kernel
theorem dX9_acts_199 : decode cX9_acts 199 = .ok (.iload_n 1, 1) := by decide +kernel
theorem dX9_acts_200 : decode cX9_acts 200 = .ok (.ireturn, 1) := by decide +kernel
theorem dX9_acts_201 : decode cX9_acts 201 = .ok (.aload_n 0, 1) := by decide +kernel
theorem dX9_acts_202 : decode cX9_acts 202 = .ok (.iload_n 2, 1) := by decide +kernel
theorem dX9_acts_203 : decode cX9_acts 203 = .ok (.ifCond .le 7, 3) := by decide +kernel
theorem dX9_acts_206 : decode cX9_acts 206 = .ok (.iload_n 2, 1) := by decide +kernel
theorem dX9_acts_207 : decode cX9_acts 207 = .ok (.goto 7, 3) := by decide +kernel
theorem dX9_acts_210 : decode cX9_acts 210 = .ok (.aload_n 0, 1) := by decide +kernel
theorem dX9_acts_211 : decode cX9_acts 211 = .ok (.getfield 328, 3) := by decide +kernel
theorem dX9_acts_214 : decode cX9_acts 214 = .ok (.putfield 328, 3) := by decide +kernel
theorem dX9_acts_217 : decode cX9_acts 217 = .ok (.aload_n 0, 1) := by decide +kernel
theorem dX9_acts_218 : decode cX9_acts 218 = .ok (.invokevirtual 334, 3) := by decide +kernel
theorem dX9_acts_221 : decode cX9_acts 221 = .ok (.iconst 0, 1) := by decide +kernel
theorem dX9_acts_222 : decode cX9_acts 222 = .ok (.ireturn, 1) := by decide +kernel
theorem dX9_allWords_0 : decode cX9_allWords 0 = .ok (.iconst 0, 1) := by decide +kernel
theorem dX9_allWords_1 : decode cX9_allWords 1 = .ok (.istore_n 1, 1) := by decide +kernel
theorem dX9_allWords_2 : decode cX9_allWords 2 = .ok (.iconst 0, 1) := by decide +kernel
theorem dX9_allWords_3 : decode cX9_allWords 3 = .ok (.istore_n 2, 1) := by decide +kernel
theorem dX9_allWords_4 : decode cX9_allWords 4 = .ok (.iload_n 2, 1) := by decide +kernel
theorem dX9_allWords_5 : decode cX9_allWords 5 = .ok (.aload_n 0, 1) := by decide +kernel
theorem dX9_allWords_6 : decode cX9_allWords 6 = .ok (.getfield 204, 3) := by decide +kernel
theorem dX9_allWords_9 : decode cX9_allWords 9 = .ok (.if_icmp .ge 17, 3) := by decide +kernel
theorem dX9_allWords_12 : decode cX9_allWords 12 = .ok (.iload_n 1, 1) := by decide +kernel
theorem dX9_allWords_13 : decode cX9_allWords 13 = .ok (.aload_n 0, 1) := by decide +kernel
theorem dX9_allWords_14 : decode cX9_allWords 14 = .ok (.iload_n 2, 1) := by decide +kernel
theorem dX9_allWords_15 : decode cX9_allWords 15 = .ok (.invokevirtual 447, 3) := by decide +kernel
theorem dX9_allWords_18 : decode cX9_allWords 18 = .ok (.iadd, 1) := by decide +kernel
theorem dX9_allWords_19 : decode cX9_allWords 19 = .ok (.istore_n 1, 1) := by decide +kernel
theorem dX9_allWords_20 : decode cX9_allWords 20 = .ok (.iinc 2 1, 3) := by decide +kernel
theorem dX9_allWords_23 : decode cX9_allWords 23 = .ok (.goto (-19), 3) := by decide +kernel
theorem dX9_allWords_26 : decode cX9_allWords 26 = .ok (.iload_n 1, 1) := by decide +kernel
theorem dX9_allWords_27 : decode cX9_allWords 27 = .ok (.ireturn, 1) := by decide +kernel
theorem dX9_areLike_0 : decode cX9_areLike 0 = .ok (.aload_n 0, 1) := by decide +kernel
theorem dX9_areLike_1 : decode cX9_areLike 1 = .ok (.getfield 105, 3) := by decide +kernel
theorem dX9_areLike_4 : decode cX9_areLike 4 = .ok (.iload_n 1, 1) := by decide +kernel
theorem dX9_areLike_5 : decode cX9_areLike 5 = .ok (.iaload, 1) := by decide +kernel
theorem dX9_areLike_6 : decode cX9_areLike 6 = .ok (.aload_n 0, 1) := by decide +kernel
theorem dX9_areLike_7 : decode cX9_areLike 7 = .ok (.getfield 105, 3) := by decide +kernel
theorem dX9_areLike_10 : decode cX9_areLike 10 = .ok (.iload_n 2, 1) := by decide +kernel
theorem dX9_areLike_11 : decode cX9_areLike 11 = .ok (.iaload, 1) := by decide +kernel
theorem dX9_areLike_12 : decode cX9_areLike 12 = .ok (.if_icmp .ne 7, 3) := by decide +kernel
theorem dX9_areLike_15 : decode cX9_areLike 15 = .ok (.iconst 1, 1) := by decide +kernel
theorem dX9_areLike_16 : decode cX9_areLike 16 = .ok (.goto 4, 3) := by decide +kernel
theorem dX9_areLike_19 : decode cX9_areLike 19 = .ok (.iconst 0, 1) := by decide +kernel
theorem dX9_areLike_20 : decode cX9_areLike 20 = .ok (.istore_n 3, 1) := by decide +kernel
theorem dX9_areLike_21 : decode cX9_areLike 21 = .ok (.iconst 0, 1) := by decide +kernel
theorem dX9_areLike_22 : decode cX9_areLike 22 = .ok (.istore 4, 2) := by decide +kernel
theorem dX9_areLike_24 : decode cX9_areLike 24 = .ok (.iload 4, 2) := by decide +kernel
theorem dX9_areLike_26 : decode cX9_areLike 26 = .ok (.aload_n 0, 1) := by decide +kernel
theorem dX9_areLike_27 : decode cX9_areLike 27 = .ok (.getfield 105, 3) := by decide +kernel
theorem dX9_areLike_30 : decode cX9_areLike 30 = .ok (.iload_n 1, 1) := by decide +kernel
theorem dX9_areLike_31 : decode cX9_areLike 31 = .ok (.iaload, 1) := by decide +kernel
theorem dX9_areLike_32 : decode cX9_areLike 32 = .ok (.if_icmp .ge 50, 3) := by decide +kernel
theorem dX9_areLike_35 : decode cX9_areLike 35 = .ok (.iload_n 3, 1) := by decide +kernel
theorem dX9_areLike_36 : decode cX9_areLike 36 = .ok (.ifCond .eq 46, 3) := by decide +kernel
theorem dX9_areLike_39 : decode cX9_areLike 39 = .ok (.aload_n 0, 1) := by decide +kernel
theorem dX9_areLike_40 : decode cX9_areLike 40 = .ok (.getfield 108, 3) := by decide +kernel
theorem dX9_areLike_43 : decode cX9_areLike 43 = .ok (.aload_n 0, 1) := by decide +kernel
theorem dX9_areLike_44 : decode cX9_areLike 44 = .ok (.getfield 102, 3) := by decide +kernel
theorem dX9_areLike_47 : decode cX9_areLike 47 = .ok (.iload_n 1, 1) := by decide +kernel
theorem dX9_areLike_48 : decode cX9_areLike 48 = .ok (.iaload, 1) := by decide +kernel
theorem dX9_areLike_49 : decode cX9_areLike 49 = .ok (.iload 4, 2) := by decide +kernel
theorem dX9_areLike_51 : decode cX9_areLike 51 = .ok (.iadd, 1) := by decide +kernel
theorem dX9_areLike_52 : decode cX9_areLike 52 = .ok (.iaload, 1) := by decide +kernel
theorem dX9_areLike_53 : decode cX9_areLike 53 = .ok (.aload_n 0, 1) := by decide +kernel
theorem dX9_areLike_54 : decode cX9_areLike 54 = .ok (.getfield 108, 3) := by decide +kernel
theorem dX9_areLike_57 : decode cX9_areLike 57 = .ok (.aload_n 0, 1) := by decide +kernel
theorem dX9_areLike_58 : decode cX9_areLike 58 = .ok (.getfield 102, 3) := by decide +kernel
theorem dX9_areLike_61 : decode cX9_areLike 61 = .ok (.iload_n 2, 1) := by decide +kernel
theorem dX9_areLike_62 : decode cX9_areLike 62 = .ok (.iaload, 1) := by decide +kernel
theorem dX9_areLike_63 : decode cX9_areLike 63 = .ok (.iload 4, 2) := by decide +kernel
theorem dX9_areLike_65 : decode cX9_areLike 65 = .ok (.iadd, 1) := by decide +kernel
theorem dX9_areLike_66 : decode cX9_areLike 66 = .ok (.iaload, 1) := by decide +kernel
theorem dX9_areLike_67 : decode cX9_areLike 67 = .ok (.if_icmp .ne 7, 3) := by decide +kernel
theorem dX9_areLike_70 : decode cX9_areLike 70 = .ok (.iconst 1, 1) := by decide +kernel
theorem dX9_areLike_71 : decode cX9_areLike 71 = .ok (.goto 4, 3) := by decide +kernel
theorem dX9_areLike_74 : decode cX9_areLike 74 = .ok (.iconst 0, 1) := by decide +kernel
theorem dX9_areLike_75 : decode cX9_areLike 75 = .ok (.istore_n 3, 1) := by decide +kernel
theorem dX9_areLike_76 : decode cX9_areLike 76 = .ok (.iinc 4 1, 3) := by decide +kernel
theorem dX9_areLike_79 : decode cX9_areLike 79 = .ok (.goto (-55), 3) := by decide +kernel
theorem dX9_areLike_82 : decode cX9_areLike 82 = .ok (.iload_n 3, 1) := by decide +kernel
theorem dX9_areLike_83 : decode cX9_areLike 83 = .ok (.ireturn, 1) := by decide +kernel
theorem dX9_at_0 : decode cX9_at 0 = .ok (.aload_n 0, 1) := by decide +kernel
theorem dX9_at_1 : decode cX9_at 1 = .ok (.iconst 0, 1) := by decide +kernel
theorem dX9_at_2 : decode cX9_at 2 = .ok (.putfield 138, 3) := by decide +kernel
theorem dX9_at_5 : decode cX9_at 5 = .ok (.iload_n 2, 1) := by decide +kernel
theorem dX9_at_6 : decode cX9_at 6 = .ok (.ifCond .ne 33, 3) := by decide +kernel
theorem dX9_at_9 : decode cX9_at 9 = .ok (.iload_n 1, 1) := by decide +kernel
theorem dX9_at_10 : decode cX9_at 10 = .ok (.iconst 0, 1) := by decide +kernel
theorem dX9_at_11 : decode cX9_at 11 = .ok (.aload_n 0, 1) := by decide +kernel
theorem dX9_at_12 : decode cX9_at 12 = .ok (.getfield 7, 3) := by decide +kernel
theorem dX9_at_15 : decode cX9_at 15 = .ok (.iconst 0, 1) := by decide +kernel
theorem dX9_at_16 : decode cX9_at 16 = .ok (.iaload, 1) := by decide +kernel
theorem dX9_at_17 : decode cX9_at 17 = .ok (.iconst 1, 1) := by decide +kernel
theorem dX9_at_18 : decode cX9_at 18 = .ok (.isub, 1) := by decide +kernel
theorem dX9_at_19 : decode cX9_at 19 = .ok (.invokestatic 141, 3) := by decide +kernel
theorem dX9_at_22 : decode cX9_at 22 = .ok (.ifCond .eq 15, 3) := by decide +kernel
theorem dX9_at_25 : decode cX9_at 25 = .ok (.aload_n 0, 1) := by decide +kernel
theorem dX9_at_26 : decode cX9_at 26 = .ok (.getfield 7, 3) := by decide +kernel
theorem dX9_at_29 : decode cX9_at 29 = .ok (.bipush 43, 2) := by decide +kernel
theorem dX9_at_31 : decode cX9_at 31 = .ok (.iload_n 1, 1) := by decide +kernel
theorem dX9_at_32 : decode cX9_at 32 = .ok (.iadd, 1) := by decide +kernel
theorem dX9_at_33 : decode cX9_at 33 = .ok (.iaload, 1) := by decide +kernel
theorem dX9_at_34 : decode cX9_at 34 = .ok (.goto 4, 3) := by decide +kernel
theorem dX9_at_37 : decode cX9_at 37 = .ok (.iconst (-1), 1) := by decide +kernel
theorem dX9_at_38 : decode cX9_at 38 = .ok (.ireturn, 1) := by decide +kernel
theorem dX9_at_39 : decode cX9_at 39 = .ok (.aload_n 0, 1) := by decide +kernel
theorem dX9_at_40 : decode cX9_at 40 = .ok (.invokevirtual 441, 3) := by decide +kernel
theorem dX9_at_43 : decode cX9_at 43 = .ok (.istore_n 3, 1) := by decide +kernel
theorem dX9_at_44 : decode cX9_at 44 = .ok (.iload_n 1, 1) := by decide +kernel
theorem dX9_at_45 : decode cX9_at 45 = .ok (.iconst 0, 1) := by decide +kernel
theorem dX9_at_46 : decode cX9_at 46 = .ok (.iload_n 3, 1) := by decide +kernel
theorem dX9_at_47 : decode cX9_at 47 = .ok (.iconst 1, 1) := by decide +kernel
theorem dX9_at_48 : decode cX9_at 48 = .ok (.isub, 1) := by decide +kernel
theorem dX9_at_49 : decode cX9_at 49 = .ok (.invokestatic 141, 3) := by decide +kernel
theorem dX9_at_52 : decode cX9_at 52 = .ok (.ifCond .eq 12, 3) := by decide +kernel
theorem dX9_at_55 : decode cX9_at 55 = .ok (.aload_n 0, 1) := by decide +kernel
theorem dX9_at_56 : decode cX9_at 56 = .ok (.getfield 120, 3) := by decide +kernel
theorem dX9_at_59 : decode cX9_at 59 = .ok (.iload_n 1, 1) := by decide +kernel
theorem dX9_at_60 : decode cX9_at 60 = .ok (.iaload, 1) := by decide +kernel
theorem dX9_at_61 : decode cX9_at 61 = .ok (.goto 4, 3) := by decide +kernel
theorem dX9_at_64 : decode cX9_at 64 = .ok (.iconst (-1), 1) := by decide +kernel
theorem dX9_at_65 : decode cX9_at 65 = .ok (.ireturn, 1) := by decide +kernel
theorem dX9_back_0 : decode cX9_back 0 = .ok (.aload_n 0, 1) := by decide +kernel
theorem dX9_back_1 : decode cX9_back 1 = .ok (.iconst 0, 1) := by decide +kernel
theorem dX9_back_2 : decode cX9_back 2 = .ok (.putfield 138, 3) := by decide +kernel
theorem dX9_back_5 : decode cX9_back 5 = .ok (.aload_n 0, 1) := by decide +kernel
theorem dX9_back_6 : decode cX9_back 6 = .ok (.getfield 468, 3) := by decide +kernel
theorem dX9_back_9 : decode cX9_back 9 = .ok (.ifCond .ne 5, 3) := by decide +kernel
theorem dX9_back_12 : decode cX9_back 12 = .ok (.iconst 0, 1) := by decide +kernel
theorem dX9_back_13 : decode cX9_back 13 = .ok (.ireturn, 1) := by decide +kernel
theorem dX9_back_14 : decode cX9_back 14 = .ok (.iconst 0, 1) := by decide +kernel
theorem dX9_back_15 : decode cX9_back 15 = .ok (.istore_n 1, 1) := by decide +kernel
theorem dX9_back_16 : decode cX9_back 16 = .ok (.iload_n 1, 1) := by decide +kernel
theorem dX9_back_17 : decode cX9_back 17 = .ok (.sipush 4347, 3) := by decide +kernel
theorem dX9_back_20 : decode cX9_back 20 = .ok (.if_icmp .ge 21, 3) := by decide +kernel
theorem dX9_back_23 : decode cX9_back 23 = .ok (.aload_n 0, 1) := by decide +kernel
theorem dX9_back_24 : decode cX9_back 24 = .ok (.getfield 7, 3) := by decide +kernel
theorem dX9_back_27 : decode cX9_back 27 = .ok (.iload_n 1, 1) := by decide +kernel
theorem dX9_back_28 : decode cX9_back 28 = .ok (.aload_n 0, 1) := by decide +kernel
theorem dX9_back_29 : decode cX9_back 29 = .ok (.getfield 16, 3) := by decide +kernel
theorem dX9_back_32 : decode cX9_back 32 = .ok (.iload_n 1, 1) := by decide +kernel
theorem dX9_back_33 : decode cX9_back 33 = .ok (.iaload, 1) := by decide +kernel
theorem dX9_back_34 : decode cX9_back 34 = .ok (.iastore, 1) := by decide +kernel
theorem dX9_back_35 : decode cX9_back 35 = .ok (.iinc 1 1, 3) := by decide +kernel
theorem dX9_back_38 : decode cX9_back 38 = .ok (.goto (-22), 3) := by decide +kernel
theorem dX9_back_41 : decode cX9_back 41 = .ok (.aload_n 0, 1) := by decide +kernel
theorem dX9_back_42 : decode cX9_back 42 = .ok (.invokevirtual 244, 3) := by decide +kernel
theorem dX9_back_45 : decode cX9_back 45 = .ok (.aload_n 0, 1) := by decide +kernel
theorem dX9_back_46 : decode cX9_back 46 = .ok (.iconst 0, 1) := by decide +kernel
theorem dX9_back_47 : decode cX9_back 47 = .ok (.putfield 325, 3) := by decide +kernel
theorem dX9_back_50 : decode cX9_back 50 = .ok (.iconst 1, 1) := by decide +kernel
theorem dX9_back_51 : decode cX9_back 51 = .ok (.ireturn, 1) := by decide +kernel
theorem dX9_backMeaning_0 : decode cX9_backMeaning 0 = .ok (.iload_n 2, 1) := by decide +kernel
theorem dX9_backMeaning_1 : decode cX9_backMeaning 1 = .ok (.bipush 110, 2) := by decide +kernel
theorem dX9_backMeaning_3 : decode cX9_backMeaning 3 = .ok (.if_icmp .ne 6, 3) := by decide +kernel
theorem dX9_backMeaning_6 : decode cX9_backMeaning 6 = .ok (.bipush 10, 2) := by decide +kernel
theorem dX9_backMeaning_8 : decode cX9_backMeaning 8 = .ok (.ireturn, 1) := by decide +kernel
theorem dX9_backMeaning_9 : decode cX9_backMeaning 9 = .ok (.iload_n 2, 1) := by decide +kernel
theorem dX9_backMeaning_10 : decode cX9_backMeaning 10 = .ok (.bipush 116, 2) := by decide +kernel
theorem dX9_backMeaning_12 : decode cX9_backMeaning 12 = .ok (.if_icmp .ne 6, 3) := by decide +kernel
theorem dX9_backMeaning_15 : decode cX9_backMeaning 15 = .ok (.bipush 9, 2) := by decide +kernel
theorem dX9_backMeaning_17 : decode cX9_backMeaning 17 = .ok (.ireturn, 1) := by decide +kernel
theorem dX9_backMeaning_18 : decode cX9_backMeaning 18 = .ok (.iload_n 2, 1) := by decide +kernel
theorem dX9_backMeaning_19 : decode cX9_backMeaning 19 = .ok (.bipush 92, 2) := by decide +kernel
theorem dX9_backMeaning_21 : decode cX9_backMeaning 21 = .ok (.if_icmp .ne 6, 3) := by decide +kernel
theorem dX9_backMeaning_24 : decode cX9_backMeaning 24 = .ok (.bipush 92, 2) := by decide +kernel
theorem dX9_backMeaning_26 : decode cX9_backMeaning 26 = .ok (.ireturn, 1) := by decide +kernel
theorem dX9_backMeaning_27 : decode cX9_backMeaning 27 = .ok (.iload_n 2, 1) := by decide +kernel
theorem dX9_backMeaning_28 : decode cX9_backMeaning 28 = .ok (.bipush 32, 2) := by decide +kernel
theorem dX9_backMeaning_30 : decode cX9_backMeaning 30 = .ok (.if_icmp .ne 10, 3) := by decide +kernel
theorem dX9_backMeaning_33 : decode cX9_backMeaning 33 = .ok (.iload_n 1, 1) := by decide +kernel
theorem dX9_backMeaning_34 : decode cX9_backMeaning 34 = .ok (.ifCond .ne 6, 3) := by decide +kernel
theorem dX9_backMeaning_37 : decode cX9_backMeaning 37 = .ok (.bipush 32, 2) := by decide +kernel
theorem dX9_backMeaning_39 : decode cX9_backMeaning 39 = .ok (.ireturn, 1) := by decide +kernel
theorem dX9_backMeaning_40 : decode cX9_backMeaning 40 = .ok (.iload_n 2, 1) := by decide +kernel
theorem dX9_backMeaning_41 : decode cX9_backMeaning 41 = .ok (.bipush 34, 2) := by decide +kernel
theorem dX9_backMeaning_43 : decode cX9_backMeaning 43 = .ok (.if_icmp .ne 13, 3) := by decide +kernel
theorem dX9_backMeaning_46 : decode cX9_backMeaning 46 = .ok (.iload_n 1, 1) := by decide +kernel
theorem dX9_backMeaning_47 : decode cX9_backMeaning 47 = .ok (.iconst 3, 1) := by decide +kernel
theorem dX9_backMeaning_48 : decode cX9_backMeaning 48 = .ok (.if_icmp .ne 8, 3) := by decide +kernel
theorem dX9_backMeaning_51 : decode cX9_backMeaning 51 = .ok (.bipush 34, 2) := by decide +kernel
theorem dX9_backMeaning_53 : decode cX9_backMeaning 53 = .ok (.goto 4, 3) := by decide +kernel
theorem dX9_backMeaning_56 : decode cX9_backMeaning 56 = .ok (.iconst (-1), 1) := by decide +kernel
theorem dX9_backMeaning_57 : decode cX9_backMeaning 57 = .ok (.ireturn, 1) := by decide +kernel
theorem dX9_builds_0 : decode cX9_builds 0 = .ok (.iconst 0, 1) := by decide +kernel
theorem dX9_builds_1 : decode cX9_builds 1 = .ok (.istore_n 1, 1) := by decide +kernel
theorem dX9_builds_2 : decode cX9_builds 2 = .ok (.iconst 0, 1) := by decide +kernel
theorem dX9_builds_3 : decode cX9_builds 3 = .ok (.istore_n 2, 1) := by decide +kernel
theorem dX9_builds_4 : decode cX9_builds 4 = .ok (.iconst 0, 1) := by decide +kernel
theorem dX9_builds_5 : decode cX9_builds 5 = .ok (.istore_n 3, 1) := by decide +kernel
theorem dX9_builds_6 : decode cX9_builds 6 = .ok (.iload_n 3, 1) := by decide +kernel
theorem dX9_builds_7 : decode cX9_builds 7 = .ok (.aload_n 0, 1) := by decide +kernel
theorem dX9_builds_8 : decode cX9_builds 8 = .ok (.getfield 204, 3) := by decide +kernel
theorem dX9_builds_11 : decode cX9_builds 11 = .ok (.if_icmp .ge 125, 3) := by decide +kernel
theorem dX9_builds_14 : decode cX9_builds 14 = .ok (.iload_n 2, 1) := by decide +kernel
theorem dX9_builds_15 : decode cX9_builds 15 = .ok (.aload_n 0, 1) := by decide +kernel
theorem dX9_builds_16 : decode cX9_builds 16 = .ok (.getfield 81, 3) := by decide +kernel
theorem dX9_builds_19 : decode cX9_builds 19 = .ok (.iload_n 3, 1) := by decide +kernel
theorem dX9_builds_20 : decode cX9_builds 20 = .ok (.iaload, 1) := by decide +kernel
theorem dX9_builds_21 : decode cX9_builds 21 = .ok (.if_icmp .ge 27, 3) := by decide +kernel
theorem dX9_builds_24 : decode cX9_builds 24 = .ok (.aload_n 0, 1) := by decide +kernel
theorem dX9_builds_25 : decode cX9_builds 25 = .ok (.getfield 120, 3) := by decide +kernel
theorem dX9_builds_28 : decode cX9_builds 28 = .ok (.iload_n 1, 1) := by decide +kernel
theorem dX9_builds_29 : decode cX9_builds 29 = .ok (.aload_n 0, 1) := by decide +kernel
theorem dX9_builds_30 : decode cX9_builds 30 = .ok (.getfield 7, 3) := by decide +kernel
theorem dX9_builds_33 : decode cX9_builds 33 = .ok (.bipush 43, 2) := by decide +kernel
theorem dX9_builds_35 : decode cX9_builds 35 = .ok (.iload_n 2, 1) := by decide +kernel
theorem dX9_builds_36 : decode cX9_builds 36 = .ok (.iadd, 1) := by decide +kernel
theorem dX9_builds_37 : decode cX9_builds 37 = .ok (.iaload, 1) := by decide +kernel
theorem dX9_builds_38 : decode cX9_builds 38 = .ok (.iastore, 1) := by decide +kernel
theorem dX9_builds_39 : decode cX9_builds 39 = .ok (.iinc 1 1, 3) := by decide +kernel
theorem dX9_builds_42 : decode cX9_builds 42 = .ok (.iinc 2 1, 3) := by decide +kernel
theorem dX9_builds_45 : decode cX9_builds 45 = .ok (.goto (-31), 3) := by decide +kernel
theorem dX9_builds_48 : decode cX9_builds 48 = .ok (.aload_n 0, 1) := by decide +kernel
theorem dX9_builds_49 : decode cX9_builds 49 = .ok (.getfield 129, 3) := by decide +kernel
theorem dX9_builds_52 : decode cX9_builds 52 = .ok (.iload_n 3, 1) := by decide +kernel
theorem dX9_builds_53 : decode cX9_builds 53 = .ok (.iload_n 1, 1) := by decide +kernel
theorem dX9_builds_54 : decode cX9_builds 54 = .ok (.iastore, 1) := by decide +kernel
theorem dX9_builds_55 : decode cX9_builds 55 = .ok (.aload_n 0, 1) := by decide +kernel
theorem dX9_builds_56 : decode cX9_builds 56 = .ok (.iload_n 3, 1) := by decide +kernel
theorem dX9_builds_57 : decode cX9_builds 57 = .ok (.invokevirtual 290, 3) := by decide +kernel
theorem dX9_builds_60 : decode cX9_builds 60 = .ok (.istore 4, 2) := by decide +kernel
theorem dX9_builds_62 : decode cX9_builds 62 = .ok (.iconst 0, 1) := by decide +kernel
theorem dX9_builds_63 : decode cX9_builds 63 = .ok (.istore 5, 2) := by decide +kernel
theorem dX9_builds_65 : decode cX9_builds 65 = .ok (.iload 5, 2) := by decide +kernel
theorem dX9_builds_67 : decode cX9_builds 67 = .ok (.iload 4, 2) := by decide +kernel
theorem dX9_builds_69 : decode cX9_builds 69 = .ok (.if_icmp .ge 49, 3) := by decide +kernel
theorem dX9_builds_72 : decode cX9_builds 72 = .ok (.aload_n 0, 1) := by decide +kernel
theorem dX9_builds_73 : decode cX9_builds 73 = .ok (.getfield 120, 3) := by decide +kernel
theorem dX9_builds_76 : decode cX9_builds 76 = .ok (.iload_n 1, 1) := by decide +kernel
theorem dX9_builds_77 : decode cX9_builds 77 = .ok (.iload 5, 2) := by decide +kernel
theorem dX9_builds_79 : decode cX9_builds 79 = .ok (.iadd, 1) := by decide +kernel
theorem dX9_builds_80 : decode cX9_builds 80 = .ok (.aload_n 0, 1) := by decide +kernel
theorem dX9_builds_81 : decode cX9_builds 81 = .ok (.iload_n 3, 1) := by decide +kernel
theorem dX9_builds_82 : decode cX9_builds 82 = .ok (.invokevirtual 247, 3) := by decide +kernel
theorem dX9_builds_85 : decode cX9_builds 85 = .ok (.iconst (-1), 1) := by decide +kernel
theorem dX9_builds_86 : decode cX9_builds 86 = .ok (.if_icmp .ne 18, 3) := by decide +kernel
theorem dX9_builds_89 : decode cX9_builds 89 = .ok (.aload_n 0, 1) := by decide +kernel
theorem dX9_builds_90 : decode cX9_builds 90 = .ok (.getfield 7, 3) := by decide +kernel
theorem dX9_builds_93 : decode cX9_builds 93 = .ok (.bipush 43, 2) := by decide +kernel
theorem dX9_builds_95 : decode cX9_builds 95 = .ok (.iload_n 2, 1) := by decide +kernel
theorem dX9_builds_96 : decode cX9_builds 96 = .ok (.iadd, 1) := by decide +kernel
theorem dX9_builds_97 : decode cX9_builds 97 = .ok (.iload 5, 2) := by decide +kernel
theorem dX9_builds_99 : decode cX9_builds 99 = .ok (.iadd, 1) := by decide +kernel
theorem dX9_builds_100 : decode cX9_builds 100 = .ok (.iaload, 1) := by decide +kernel
theorem dX9_builds_101 : decode cX9_builds 101 = .ok (.goto 10, 3) := by decide +kernel
theorem dX9_builds_104 : decode cX9_builds 104 = .ok (.aload_n 0, 1) := by decide +kernel
theorem dX9_builds_105 : decode cX9_builds 105 = .ok (.getfield 117, 3) := by decide +kernel
theorem dX9_builds_108 : decode cX9_builds 108 = .ok (.iload 5, 2) := by decide +kernel
theorem dX9_builds_110 : decode cX9_builds 110 = .ok (.iaload, 1) := by decide +kernel
theorem dX9_builds_111 : decode cX9_builds 111 = .ok (.iastore, 1) := by decide +kernel
theorem dX9_builds_112 : decode cX9_builds 112 = .ok (.iinc 5 1, 3) := by decide +kernel
theorem dX9_builds_115 : decode cX9_builds 115 = .ok (.goto (-50), 3) := by decide +kernel
theorem dX9_builds_118 : decode cX9_builds 118 = .ok (.iload_n 1, 1) := by decide +kernel
theorem dX9_builds_119 : decode cX9_builds 119 = .ok (.iload 4, 2) := by decide +kernel
theorem dX9_builds_121 : decode cX9_builds 121 = .ok (.iadd, 1) := by decide +kernel
theorem dX9_builds_122 : decode cX9_builds 122 = .ok (.istore_n 1, 1) := by decide +kernel
theorem dX9_builds_123 : decode cX9_builds 123 = .ok (.aload_n 0, 1) := by decide +kernel
theorem dX9_builds_124 : decode cX9_builds 124 = .ok (.getfield 84, 3) := by decide +kernel
theorem dX9_builds_127 : decode cX9_builds 127 = .ok (.iload_n 3, 1) := by decide +kernel
theorem dX9_builds_128 : decode cX9_builds 128 = .ok (.iaload, 1) := by decide +kernel
theorem dX9_builds_129 : decode cX9_builds 129 = .ok (.istore_n 2, 1) := by decide +kernel
theorem dX9_builds_130 : decode cX9_builds 130 = .ok (.iinc 3 1, 3) := by decide +kernel
theorem dX9_builds_133 : decode cX9_builds 133 = .ok (.goto (-127), 3) := by decide +kernel
theorem dX9_builds_136 : decode cX9_builds 136 = .ok (.iload_n 2, 1) := by decide +kernel
theorem dX9_builds_137 : decode cX9_builds 137 = .ok (.aload_n 0, 1) := by decide +kernel
theorem dX9_builds_138 : decode cX9_builds 138 = .ok (.getfield 7, 3) := by decide +kernel
theorem dX9_builds_141 : decode cX9_builds 141 = .ok (.iconst 0, 1) := by decide +kernel
theorem dX9_builds_142 : decode cX9_builds 142 = .ok (.iaload, 1) := by decide +kernel
theorem dX9_builds_143 : decode cX9_builds 143 = .ok (.if_icmp .ge 27, 3) := by decide +kernel
theorem dX9_builds_146 : decode cX9_builds 146 = .ok (.aload_n 0, 1) := by decide +kernel
theorem dX9_builds_147 : decode cX9_builds 147 = .ok (.getfield 120, 3) := by decide +kernel
theorem dX9_builds_150 : decode cX9_builds 150 = .ok (.iload_n 1, 1) := by decide +kernel
theorem dX9_builds_151 : decode cX9_builds 151 = .ok (.aload_n 0, 1) := by decide +kernel
theorem dX9_builds_152 : decode cX9_builds 152 = .ok (.getfield 7, 3) := by decide +kernel
theorem dX9_builds_155 : decode cX9_builds 155 = .ok (.bipush 43, 2) := by decide +kernel
theorem dX9_builds_157 : decode cX9_builds 157 = .ok (.iload_n 2, 1) := by decide +kernel
theorem dX9_builds_158 : decode cX9_builds 158 = .ok (.iadd, 1) := by decide +kernel
theorem dX9_builds_159 : decode cX9_builds 159 = .ok (.iaload, 1) := by decide +kernel
theorem dX9_builds_160 : decode cX9_builds 160 = .ok (.iastore, 1) := by decide +kernel
theorem dX9_builds_161 : decode cX9_builds 161 = .ok (.iinc 1 1, 3) := by decide +kernel
theorem dX9_builds_164 : decode cX9_builds 164 = .ok (.iinc 2 1, 3) := by decide +kernel
theorem dX9_builds_167 : decode cX9_builds 167 = .ok (.goto (-31), 3) := by decide +kernel
theorem dX9_builds_170 : decode cX9_builds 170 = .ok (.iload_n 1, 1) := by decide +kernel
theorem dX9_builds_171 : decode cX9_builds 171 = .ok (.ireturn, 1) := by decide +kernel
theorem dX9_builtBegin_0 : decode cX9_builtBegin 0 = .ok (.aload_n 0, 1) := by decide +kernel
theorem dX9_builtBegin_1 : decode cX9_builtBegin 1 = .ok (.invokevirtual 441, 3) := by decide +kernel
theorem dX9_builtBegin_4 : decode cX9_builtBegin 4 = .ok (.istore_n 2, 1) := by decide +kernel
theorem dX9_builtBegin_5 : decode cX9_builtBegin 5 = .ok (.aload_n 0, 1) := by decide +kernel
theorem dX9_builtBegin_6 : decode cX9_builtBegin 6 = .ok (.getfield 129, 3) := by decide +kernel
theorem dX9_builtBegin_9 : decode cX9_builtBegin 9 = .ok (.iload_n 1, 1) := by decide +kernel
theorem dX9_builtBegin_10 : decode cX9_builtBegin 10 = .ok (.iaload, 1) := by decide +kernel
theorem dX9_builtBegin_11 : decode cX9_builtBegin 11 = .ok (.ireturn, 1) := by decide +kernel
theorem dX9_builtMany_0 : decode cX9_builtMany 0 = .ok (.aload_n 0, 1) := by decide +kernel
theorem dX9_builtMany_1 : decode cX9_builtMany 1 = .ok (.getfield 7, 3) := by decide +kernel
theorem dX9_builtMany_4 : decode cX9_builtMany 4 = .ok (.iconst 0, 1) := by decide +kernel
theorem dX9_builtMany_5 : decode cX9_builtMany 5 = .ok (.iaload, 1) := by decide +kernel
theorem dX9_builtMany_6 : decode cX9_builtMany 6 = .ok (.istore_n 1, 1) := by decide +kernel
theorem dX9_builtMany_7 : decode cX9_builtMany 7 = .ok (.iconst 0, 1) := by decide +kernel
theorem dX9_builtMany_8 : decode cX9_builtMany 8 = .ok (.istore_n 2, 1) := by decide +kernel
theorem dX9_builtMany_9 : decode cX9_builtMany 9 = .ok (.iload_n 2, 1) := by decide +kernel
theorem dX9_builtMany_10 : decode cX9_builtMany 10 = .ok (.aload_n 0, 1) := by decide +kernel
theorem dX9_builtMany_11 : decode cX9_builtMany 11 = .ok (.getfield 204, 3) := by decide +kernel
theorem dX9_builtMany_14 : decode cX9_builtMany 14 = .ok (.if_icmp .ge 31, 3) := by decide +kernel
theorem dX9_builtMany_17 : decode cX9_builtMany 17 = .ok (.iload_n 1, 1) := by decide +kernel
theorem dX9_builtMany_18 : decode cX9_builtMany 18 = .ok (.aload_n 0, 1) := by decide +kernel
theorem dX9_builtMany_19 : decode cX9_builtMany 19 = .ok (.iload_n 2, 1) := by decide +kernel
