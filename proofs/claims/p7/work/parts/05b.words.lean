set_option maxRecDepth 100000 in
theorem gf_X9_42 : GF RX9 42 9 18 := ⟨(RX9, TX9, 60), rfl, uw9, by decide, (ALLW_c5 202 rfl rfl)⟩
set_option maxRecDepth 100000 in
theorem gf_X9_45 : GF RX9 45 9 19 := ⟨(RX9, TX9, 60), rfl, uw9, by decide, (ALLW_c5 203 rfl rfl)⟩
set_option maxRecDepth 100000 in
theorem gf_X9_48 : GF RX9 48 9 20 := ⟨(RX9, TX9, 60), rfl, uw9, by decide, (ALLW_c5 204 rfl rfl)⟩
set_option maxRecDepth 100000 in
theorem gf_X9_51 : GF RX9 51 9 21 := ⟨(RX9, TX9, 60), rfl, uw9, by decide, (ALLW_c5 205 rfl rfl)⟩
set_option maxRecDepth 100000 in
theorem gf_X9_227 : GF RX9 227 9 22 := ⟨(RX9, TX9, 60), rfl, uw9, by decide, (ALLW_c5 206 rfl rfl)⟩
set_option maxRecDepth 100000 in
theorem gf_X9_54 : GF RX9 54 9 23 := ⟨(RX9, TX9, 60), rfl, uw9, by decide, (ALLW_c5 207 rfl rfl)⟩
set_option maxRecDepth 100000 in
theorem gf_X9_57 : GF RX9 57 9 24 := ⟨(RX9, TX9, 60), rfl, uw9, by decide, (ALLW_c5 208 rfl rfl)⟩
set_option maxRecDepth 100000 in
theorem gf_X9_60 : GF RX9 60 9 25 := ⟨(RX9, TX9, 60), rfl, uw9, by decide, (ALLW_c5 209 rfl rfl)⟩
set_option maxRecDepth 100000 in
theorem gf_X9_234 : GF RX9 234 9 26 := ⟨(RX9, TX9, 60), rfl, uw9, by decide, (ALLW_c5 210 rfl rfl)⟩
set_option maxRecDepth 100000 in
theorem gf_X9_63 : GF RX9 63 9 27 := ⟨(RX9, TX9, 60), rfl, uw9, by decide, (ALLW_c5 211 rfl rfl)⟩
set_option maxRecDepth 100000 in
theorem gf_X9_66 : GF RX9 66 9 28 := ⟨(RX9, TX9, 60), rfl, uw9, by decide, (ALLW_c5 212 rfl rfl)⟩
set_option maxRecDepth 100000 in
theorem gf_X9_69 : GF RX9 69 9 29 := ⟨(RX9, TX9, 60), rfl, uw9, by decide, (ALLW_c5 213 rfl rfl)⟩
set_option maxRecDepth 100000 in
theorem gf_X9_72 : GF RX9 72 9 30 := ⟨(RX9, TX9, 60), rfl, uw9, by decide, (ALLW_c5 214 rfl rfl)⟩
set_option maxRecDepth 100000 in
theorem gf_X9_75 : GF RX9 75 9 31 := ⟨(RX9, TX9, 60), rfl, uw9, by decide, (ALLW_c5 215 rfl rfl)⟩
set_option maxRecDepth 100000 in
theorem gf_X9_78 : GF RX9 78 9 32 := ⟨(RX9, TX9, 60), rfl, uw9, by decide, (ALLW_c5 216 rfl rfl)⟩
set_option maxRecDepth 100000 in
theorem gf_X9_204 : GF RX9 204 9 33 := ⟨(RX9, TX9, 60), rfl, uw9, by decide, (ALLW_c5 217 rfl rfl)⟩
set_option maxRecDepth 100000 in
theorem gf_X9_81 : GF RX9 81 9 34 := ⟨(RX9, TX9, 60), rfl, uw9, by decide, (ALLW_c5 218 rfl rfl)⟩
set_option maxRecDepth 100000 in
theorem gf_X9_84 : GF RX9 84 9 35 := ⟨(RX9, TX9, 60), rfl, uw9, by decide, (ALLW_c5 219 rfl rfl)⟩
set_option maxRecDepth 100000 in
theorem gf_X9_87 : GF RX9 87 9 36 := ⟨(RX9, TX9, 60), rfl, uw9, by decide, (ALLW_c5 220 rfl rfl)⟩
set_option maxRecDepth 100000 in
theorem gf_X9_90 : GF RX9 90 9 37 := ⟨(RX9, TX9, 60), rfl, uw9, by decide, (ALLW_c5 221 rfl rfl)⟩
set_option maxRecDepth 100000 in
theorem gf_X9_93 : GF RX9 93 9 38 := ⟨(RX9, TX9, 60), rfl, uw9, by decide, (ALLW_c5 222 rfl rfl)⟩
set_option maxRecDepth 100000 in
theorem gf_X9_96 : GF RX9 96 9 39 := ⟨(RX9, TX9, 60), rfl, uw9, by decide, (ALLW_c5 223 rfl rfl)⟩
set_option maxRecDepth 100000 in
theorem gf_X9_99 : GF RX9 99 9 40 := ⟨(RX9, TX9, 60), rfl, uw9, by decide, (ALLW_c5 224 rfl rfl)⟩
set_option maxRecDepth 100000 in
theorem gf_X9_102 : GF RX9 102 9 41 := ⟨(RX9, TX9, 60), rfl, uw9, by decide, (ALLW_c5 225 rfl rfl)⟩
set_option maxRecDepth 100000 in
theorem gf_X9_105 : GF RX9 105 9 42 := ⟨(RX9, TX9, 60), rfl, uw9, by decide, (ALLW_c5 226 rfl rfl)⟩
set_option maxRecDepth 100000 in
theorem gf_X9_108 : GF RX9 108 9 43 := ⟨(RX9, TX9, 60), rfl, uw9, by decide, (ALLW_c5 227 rfl rfl)⟩
set_option maxRecDepth 100000 in
theorem gf_X9_111 : GF RX9 111 9 44 := ⟨(RX9, TX9, 60), rfl, uw9, by decide, (ALLW_c5 228 rfl rfl)⟩
set_option maxRecDepth 100000 in
theorem gf_X9_217 : GF RX9 217 9 45 := ⟨(RX9, TX9, 60), rfl, uw9, by decide, (ALLW_c5 229 rfl rfl)⟩
set_option maxRecDepth 100000 in
theorem gf_X9_114 : GF RX9 114 9 46 := ⟨(RX9, TX9, 60), rfl, uw9, by decide, (ALLW_c5 230 rfl rfl)⟩
set_option maxRecDepth 100000 in
theorem gf_X9_117 : GF RX9 117 9 47 := ⟨(RX9, TX9, 60), rfl, uw9, by decide, (ALLW_c5 231 rfl rfl)⟩
set_option maxRecDepth 100000 in
theorem gf_X9_120 : GF RX9 120 9 49 := ⟨(RX9, TX9, 60), rfl, uw9, by decide, (ALLW_c5 232 rfl rfl)⟩
set_option maxRecDepth 100000 in
theorem gf_X9_123 : GF RX9 123 9 50 := ⟨(RX9, TX9, 60), rfl, uw9, by decide, (ALLW_c5 233 rfl rfl)⟩
set_option maxRecDepth 100000 in
theorem gf_X9_126 : GF RX9 126 9 51 := ⟨(RX9, TX9, 60), rfl, uw9, by decide, (ALLW_c5 234 rfl rfl)⟩
set_option maxRecDepth 100000 in
theorem gf_X9_129 : GF RX9 129 9 52 := ⟨(RX9, TX9, 60), rfl, uw9, by decide, (ALLW_c5 235 rfl rfl)⟩
set_option maxRecDepth 100000 in
theorem gf_X9_132 : GF RX9 132 9 53 := ⟨(RX9, TX9, 60), rfl, uw9, by decide, (ALLW_c5 236 rfl rfl)⟩
set_option maxRecDepth 100000 in
theorem gf_X9_145 : GF RX9 145 9 54 := ⟨(RX9, TX9, 60), rfl, uw9, by decide, (ALLW_c5 237 rfl rfl)⟩
set_option maxRecDepth 100000 in
theorem gf_X9_183 : GF RX9 183 9 55 := ⟨(RX9, TX9, 60), rfl, uw9, by decide, (ALLW_c5 238 rfl rfl)⟩
set_option maxRecDepth 100000 in
theorem gf_X9_254 : GF RX9 254 9 56 := ⟨(RX9, TX9, 60), rfl, uw9, by decide, (ALLW_c5 239 rfl rfl)⟩
set_option maxRecDepth 100000 in
theorem gf_X9_306 : GF RX9 306 9 57 := ⟨(RX9, TX9, 60), rfl, uw9, by decide, (ALLW_c6 0 rfl rfl)⟩
set_option maxRecDepth 100000 in
theorem gf_X9_135 : GF RX9 135 9 58 := ⟨(RX9, TX9, 60), rfl, uw9, by decide, (ALLW_c6 1 rfl rfl)⟩
set_option maxRecDepth 100000 in
theorem gf_X9_459 : GF RX9 459 9 59 := ⟨(RX9, TX9, 60), rfl, uw9, by decide, (ALLW_c6 2 rfl rfl)⟩
theorem fi0_0 : isFin RX0 0 0 := ⟨(RX0, TX0, 4), rfl, rfl, rfl⟩
theorem fi0_1 : isFin RX0 0 1 := ⟨(RX0, TX0, 4), rfl, rfl, rfl⟩
theorem fi0_2 : isFin RX0 0 2 := ⟨(RX0, TX0, 4), rfl, rfl, rfl⟩
theorem nf0_3 : noFin 0 3 := ⟨(RX0, TX0, 4), rfl, rfl⟩
theorem fi1_0 : isFin RX1 1 0 := ⟨(RX1, TX1, 8), rfl, rfl, rfl⟩
theorem fi1_1 : isFin RX1 1 1 := ⟨(RX1, TX1, 8), rfl, rfl, rfl⟩
theorem fi1_2 : isFin RX1 1 2 := ⟨(RX1, TX1, 8), rfl, rfl, rfl⟩
theorem nf1_3 : noFin 1 3 := ⟨(RX1, TX1, 8), rfl, rfl⟩
theorem fi1_4 : isFin RX1 1 4 := ⟨(RX1, TX1, 8), rfl, rfl, rfl⟩
theorem fi1_5 : isFin RX1 1 5 := ⟨(RX1, TX1, 8), rfl, rfl, rfl⟩
theorem fi1_6 : isFin RX1 1 6 := ⟨(RX1, TX1, 8), rfl, rfl, rfl⟩
theorem fi1_7 : isFin RX1 1 7 := ⟨(RX1, TX1, 8), rfl, rfl, rfl⟩
theorem fi2_0 : isFin RX2 2 0 := ⟨(RX2, TX2, 3), rfl, rfl, rfl⟩
theorem fi2_1 : isFin RX2 2 1 := ⟨(RX2, TX2, 3), rfl, rfl, rfl⟩
theorem fi2_2 : isFin RX2 2 2 := ⟨(RX2, TX2, 3), rfl, rfl, rfl⟩
theorem nf3_0 : noFin 3 0 := ⟨(RX3, TX3, 12), rfl, rfl⟩
theorem nf3_1 : noFin 3 1 := ⟨(RX3, TX3, 12), rfl, rfl⟩
theorem nf3_2 : noFin 3 2 := ⟨(RX3, TX3, 12), rfl, rfl⟩
theorem nf3_3 : noFin 3 3 := ⟨(RX3, TX3, 12), rfl, rfl⟩
theorem nf3_4 : noFin 3 4 := ⟨(RX3, TX3, 12), rfl, rfl⟩
theorem nf3_5 : noFin 3 5 := ⟨(RX3, TX3, 12), rfl, rfl⟩
theorem nf3_6 : noFin 3 6 := ⟨(RX3, TX3, 12), rfl, rfl⟩
theorem nf3_7 : noFin 3 7 := ⟨(RX3, TX3, 12), rfl, rfl⟩
theorem nf3_8 : noFin 3 8 := ⟨(RX3, TX3, 12), rfl, rfl⟩
theorem nf3_9 : noFin 3 9 := ⟨(RX3, TX3, 12), rfl, rfl⟩
theorem nf3_10 : noFin 3 10 := ⟨(RX3, TX3, 12), rfl, rfl⟩
theorem nf3_11 : noFin 3 11 := ⟨(RX3, TX3, 12), rfl, rfl⟩
theorem nf4_0 : noFin 4 0 := ⟨(RX4, TX4, 8), rfl, rfl⟩
theorem nf4_1 : noFin 4 1 := ⟨(RX4, TX4, 8), rfl, rfl⟩
theorem nf4_2 : noFin 4 2 := ⟨(RX4, TX4, 8), rfl, rfl⟩
theorem nf4_3 : noFin 4 3 := ⟨(RX4, TX4, 8), rfl, rfl⟩
theorem nf4_4 : noFin 4 4 := ⟨(RX4, TX4, 8), rfl, rfl⟩
theorem nf4_5 : noFin 4 5 := ⟨(RX4, TX4, 8), rfl, rfl⟩
theorem nf4_6 : noFin 4 6 := ⟨(RX4, TX4, 8), rfl, rfl⟩
theorem nf4_7 : noFin 4 7 := ⟨(RX4, TX4, 8), rfl, rfl⟩
theorem fi5_0 : isFin RX5 5 0 := ⟨(RX5, TX5, 2), rfl, rfl, rfl⟩
theorem nf5_1 : noFin 5 1 := ⟨(RX5, TX5, 2), rfl, rfl⟩
theorem nf6_0 : noFin 6 0 := ⟨(RX6, TX6, 10), rfl, rfl⟩
theorem nf6_1 : noFin 6 1 := ⟨(RX6, TX6, 10), rfl, rfl⟩
theorem nf6_2 : noFin 6 2 := ⟨(RX6, TX6, 10), rfl, rfl⟩
theorem nf6_3 : noFin 6 3 := ⟨(RX6, TX6, 10), rfl, rfl⟩
theorem nf6_4 : noFin 6 4 := ⟨(RX6, TX6, 10), rfl, rfl⟩
theorem nf6_5 : noFin 6 5 := ⟨(RX6, TX6, 10), rfl, rfl⟩
theorem nf6_6 : noFin 6 6 := ⟨(RX6, TX6, 10), rfl, rfl⟩
theorem nf6_7 : noFin 6 7 := ⟨(RX6, TX6, 10), rfl, rfl⟩
theorem nf6_8 : noFin 6 8 := ⟨(RX6, TX6, 10), rfl, rfl⟩
theorem nf6_9 : noFin 6 9 := ⟨(RX6, TX6, 10), rfl, rfl⟩
theorem nf7_0 : noFin 7 0 := ⟨(RX7, TX7, 10), rfl, rfl⟩
theorem nf7_1 : noFin 7 1 := ⟨(RX7, TX7, 10), rfl, rfl⟩
theorem nf7_2 : noFin 7 2 := ⟨(RX7, TX7, 10), rfl, rfl⟩
theorem nf7_3 : noFin 7 3 := ⟨(RX7, TX7, 10), rfl, rfl⟩
theorem nf7_4 : noFin 7 4 := ⟨(RX7, TX7, 10), rfl, rfl⟩
theorem nf7_5 : noFin 7 5 := ⟨(RX7, TX7, 10), rfl, rfl⟩
theorem nf7_6 : noFin 7 6 := ⟨(RX7, TX7, 10), rfl, rfl⟩
theorem nf7_7 : noFin 7 7 := ⟨(RX7, TX7, 10), rfl, rfl⟩
theorem fi7_8 : isFin RX7 7 8 := ⟨(RX7, TX7, 10), rfl, rfl, rfl⟩
theorem fi7_9 : isFin RX7 7 9 := ⟨(RX7, TX7, 10), rfl, rfl, rfl⟩
theorem fi8_0 : isFin RX8 8 0 := ⟨(RX8, TX8, 14), rfl, rfl, rfl⟩
theorem fi8_1 : isFin RX8 8 1 := ⟨(RX8, TX8, 14), rfl, rfl, rfl⟩
theorem fi8_2 : isFin RX8 8 2 := ⟨(RX8, TX8, 14), rfl, rfl, rfl⟩
theorem fi8_3 : isFin RX8 8 3 := ⟨(RX8, TX8, 14), rfl, rfl, rfl⟩
theorem fi8_4 : isFin RX8 8 4 := ⟨(RX8, TX8, 14), rfl, rfl, rfl⟩
theorem fi8_5 : isFin RX8 8 5 := ⟨(RX8, TX8, 14), rfl, rfl, rfl⟩
theorem fi8_6 : isFin RX8 8 6 := ⟨(RX8, TX8, 14), rfl, rfl, rfl⟩
theorem fi8_7 : isFin RX8 8 7 := ⟨(RX8, TX8, 14), rfl, rfl, rfl⟩
theorem fi8_8 : isFin RX8 8 8 := ⟨(RX8, TX8, 14), rfl, rfl, rfl⟩
theorem nf8_9 : noFin 8 9 := ⟨(RX8, TX8, 14), rfl, rfl⟩
theorem nf8_10 : noFin 8 10 := ⟨(RX8, TX8, 14), rfl, rfl⟩
theorem nf8_11 : noFin 8 11 := ⟨(RX8, TX8, 14), rfl, rfl⟩
theorem nf8_12 : noFin 8 12 := ⟨(RX8, TX8, 14), rfl, rfl⟩
theorem nf8_13 : noFin 8 13 := ⟨(RX8, TX8, 14), rfl, rfl⟩
theorem nf9_0 : noFin 9 0 := ⟨(RX9, TX9, 60), rfl, rfl⟩
theorem fi9_1 : isFin RX9 9 1 := ⟨(RX9, TX9, 60), rfl, rfl, rfl⟩
theorem fi9_2 : isFin RX9 9 2 := ⟨(RX9, TX9, 60), rfl, rfl, rfl⟩
theorem fi9_3 : isFin RX9 9 3 := ⟨(RX9, TX9, 60), rfl, rfl, rfl⟩
theorem fi9_4 : isFin RX9 9 4 := ⟨(RX9, TX9, 60), rfl, rfl, rfl⟩
theorem nf9_5 : noFin 9 5 := ⟨(RX9, TX9, 60), rfl, rfl⟩
theorem nf9_6 : noFin 9 6 := ⟨(RX9, TX9, 60), rfl, rfl⟩
theorem nf9_7 : noFin 9 7 := ⟨(RX9, TX9, 60), rfl, rfl⟩
theorem fi9_8 : isFin RX9 9 8 := ⟨(RX9, TX9, 60), rfl, rfl, rfl⟩
theorem nf9_9 : noFin 9 9 := ⟨(RX9, TX9, 60), rfl, rfl⟩
theorem nf9_10 : noFin 9 10 := ⟨(RX9, TX9, 60), rfl, rfl⟩
theorem nf9_11 : noFin 9 11 := ⟨(RX9, TX9, 60), rfl, rfl⟩
theorem nf9_12 : noFin 9 12 := ⟨(RX9, TX9, 60), rfl, rfl⟩
theorem fi9_13 : isFin RX9 9 13 := ⟨(RX9, TX9, 60), rfl, rfl, rfl⟩
theorem fi9_14 : isFin RX9 9 14 := ⟨(RX9, TX9, 60), rfl, rfl, rfl⟩
theorem fi9_15 : isFin RX9 9 15 := ⟨(RX9, TX9, 60), rfl, rfl, rfl⟩
theorem nf9_16 : noFin 9 16 := ⟨(RX9, TX9, 60), rfl, rfl⟩
theorem fi9_17 : isFin RX9 9 17 := ⟨(RX9, TX9, 60), rfl, rfl, rfl⟩
theorem fi9_18 : isFin RX9 9 18 := ⟨(RX9, TX9, 60), rfl, rfl, rfl⟩
theorem fi9_19 : isFin RX9 9 19 := ⟨(RX9, TX9, 60), rfl, rfl, rfl⟩
theorem fi9_20 : isFin RX9 9 20 := ⟨(RX9, TX9, 60), rfl, rfl, rfl⟩
theorem fi9_21 : isFin RX9 9 21 := ⟨(RX9, TX9, 60), rfl, rfl, rfl⟩
theorem nf9_22 : noFin 9 22 := ⟨(RX9, TX9, 60), rfl, rfl⟩
theorem fi9_23 : isFin RX9 9 23 := ⟨(RX9, TX9, 60), rfl, rfl, rfl⟩
theorem fi9_24 : isFin RX9 9 24 := ⟨(RX9, TX9, 60), rfl, rfl, rfl⟩
theorem fi9_25 : isFin RX9 9 25 := ⟨(RX9, TX9, 60), rfl, rfl, rfl⟩
theorem nf9_26 : noFin 9 26 := ⟨(RX9, TX9, 60), rfl, rfl⟩
theorem fi9_27 : isFin RX9 9 27 := ⟨(RX9, TX9, 60), rfl, rfl, rfl⟩
theorem fi9_28 : isFin RX9 9 28 := ⟨(RX9, TX9, 60), rfl, rfl, rfl⟩
theorem fi9_29 : isFin RX9 9 29 := ⟨(RX9, TX9, 60), rfl, rfl, rfl⟩
theorem fi9_30 : isFin RX9 9 30 := ⟨(RX9, TX9, 60), rfl, rfl, rfl⟩
theorem fi9_31 : isFin RX9 9 31 := ⟨(RX9, TX9, 60), rfl, rfl, rfl⟩
theorem fi9_32 : isFin RX9 9 32 := ⟨(RX9, TX9, 60), rfl, rfl, rfl⟩
theorem nf9_33 : noFin 9 33 := ⟨(RX9, TX9, 60), rfl, rfl⟩
theorem fi9_34 : isFin RX9 9 34 := ⟨(RX9, TX9, 60), rfl, rfl, rfl⟩
theorem fi9_35 : isFin RX9 9 35 := ⟨(RX9, TX9, 60), rfl, rfl, rfl⟩
theorem fi9_36 : isFin RX9 9 36 := ⟨(RX9, TX9, 60), rfl, rfl, rfl⟩
theorem fi9_37 : isFin RX9 9 37 := ⟨(RX9, TX9, 60), rfl, rfl, rfl⟩
theorem fi9_38 : isFin RX9 9 38 := ⟨(RX9, TX9, 60), rfl, rfl, rfl⟩
theorem fi9_39 : isFin RX9 9 39 := ⟨(RX9, TX9, 60), rfl, rfl, rfl⟩
theorem fi9_40 : isFin RX9 9 40 := ⟨(RX9, TX9, 60), rfl, rfl, rfl⟩
theorem fi9_41 : isFin RX9 9 41 := ⟨(RX9, TX9, 60), rfl, rfl, rfl⟩
theorem fi9_42 : isFin RX9 9 42 := ⟨(RX9, TX9, 60), rfl, rfl, rfl⟩
theorem fi9_43 : isFin RX9 9 43 := ⟨(RX9, TX9, 60), rfl, rfl, rfl⟩
theorem fi9_44 : isFin RX9 9 44 := ⟨(RX9, TX9, 60), rfl, rfl, rfl⟩
theorem nf9_45 : noFin 9 45 := ⟨(RX9, TX9, 60), rfl, rfl⟩
theorem fi9_46 : isFin RX9 9 46 := ⟨(RX9, TX9, 60), rfl, rfl, rfl⟩
theorem fi9_47 : isFin RX9 9 47 := ⟨(RX9, TX9, 60), rfl, rfl, rfl⟩
theorem nf9_48 : noFin 9 48 := ⟨(RX9, TX9, 60), rfl, rfl⟩
theorem fi9_49 : isFin RX9 9 49 := ⟨(RX9, TX9, 60), rfl, rfl, rfl⟩
theorem fi9_50 : isFin RX9 9 50 := ⟨(RX9, TX9, 60), rfl, rfl, rfl⟩
theorem fi9_51 : isFin RX9 9 51 := ⟨(RX9, TX9, 60), rfl, rfl, rfl⟩
theorem fi9_52 : isFin RX9 9 52 := ⟨(RX9, TX9, 60), rfl, rfl, rfl⟩
theorem fi9_53 : isFin RX9 9 53 := ⟨(RX9, TX9, 60), rfl, rfl, rfl⟩
theorem nf9_54 : noFin 9 54 := ⟨(RX9, TX9, 60), rfl, rfl⟩
theorem nf9_55 : noFin 9 55 := ⟨(RX9, TX9, 60), rfl, rfl⟩
theorem nf9_56 : noFin 9 56 := ⟨(RX9, TX9, 60), rfl, rfl⟩
theorem nf9_57 : noFin 9 57 := ⟨(RX9, TX9, 60), rfl, rfl⟩
