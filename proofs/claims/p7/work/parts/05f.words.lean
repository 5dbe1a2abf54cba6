set_option maxRecDepth 100000 in
theorem mv_L_34 : MV RL 34 yX8_free cX8_free 2 (some .int) 1 := ⟨(ALLW_c5 29 rfl rfl), (ALLW_c5 30 rfl rfl), (ALLW_c5 31 rfl rfl), (ALLW_c1 1 rfl rfl), k_X8_free, ⟨by decide +kernel, by decide +kernel, by decide +kernel⟩⟩
set_option maxRecDepth 100000 in
theorem mw_L_131 : MSW RL 131 yL_spread cL_spread 4 (some .int) [(0, 9, 12, 28)] 3 := ⟨(ALLW_c5 33 rfl rfl), (ALLW_c5 34 rfl rfl), (ALLW_c1 0 rfl rfl), (ALLW_c5 35 rfl rfl), ⟨by decide +kernel, by decide +kernel, by decide +kernel⟩⟩
set_option maxRecDepth 100000 in
theorem mv_L_37 : MV RL 37 yX8_spread cX8_spread 2 (some .int) 1 := ⟨(ALLW_c5 36 rfl rfl), (ALLW_c5 37 rfl rfl), (ALLW_c5 38 rfl rfl), (ALLW_c1 1 rfl rfl), k_X8_spread, ⟨by decide +kernel, by decide +kernel, by decide +kernel⟩⟩
set_option maxRecDepth 100000 in
theorem mv_X8_163 : MV RX8 163 yX1_likeCount cX1_likeCount 4 (some .int) 1 := ⟨(ALLW_c5 40 rfl rfl), (ALLW_c5 41 rfl rfl), (ALLW_c5 42 rfl rfl), (ALLW_c1 4 rfl rfl), k_X1_likeCount, ⟨by decide +kernel, by decide +kernel, by decide +kernel⟩⟩
set_option maxRecDepth 100000 in
theorem mw_L_134 : MSW RL 134 yL_swap cL_swap 5 (some .int) [(0, 10, 13, 28)] 4 := ⟨(ALLW_c5 44 rfl rfl), (ALLW_c5 45 rfl rfl), (ALLW_c1 0 rfl rfl), (ALLW_c5 46 rfl rfl), ⟨by decide +kernel, by decide +kernel, by decide +kernel⟩⟩
set_option maxRecDepth 100000 in
theorem mv_L_40 : MV RL 40 yX8_swap cX8_swap 3 (some .int) 2 := ⟨(ALLW_c5 47 rfl rfl), (ALLW_c5 48 rfl rfl), (ALLW_c5 49 rfl rfl), (ALLW_c1 1 rfl rfl), k_X8_swap, ⟨by decide +kernel, by decide +kernel, by decide +kernel⟩⟩
set_option maxRecDepth 100000 in
theorem mw_L_137 : MSW RL 137 yL_wipe cL_wipe 3 (some .int) [(0, 8, 11, 28)] 2 := ⟨(ALLW_c5 51 rfl rfl), (ALLW_c5 52 rfl rfl), (ALLW_c1 0 rfl rfl), (ALLW_c5 53 rfl rfl), ⟨by decide +kernel, by decide +kernel, by decide +kernel⟩⟩
set_option maxRecDepth 100000 in
theorem mv_L_43 : MV RL 43 yX8_wipe cX8_wipe 2 (some .int) 0 := ⟨(ALLW_c5 54 rfl rfl), (ALLW_c5 55 rfl rfl), (ALLW_c5 56 rfl rfl), (ALLW_c1 1 rfl rfl), k_X8_wipe, ⟨by decide +kernel, by decide +kernel, by decide +kernel⟩⟩
set_option maxRecDepth 100000 in
theorem mw_L_140 : MSW RL 140 yL_undo cL_undo 3 (some .int) [(0, 8, 11, 28)] 2 := ⟨(ALLW_c5 58 rfl rfl), (ALLW_c5 59 rfl rfl), (ALLW_c1 0 rfl rfl), (ALLW_c5 60 rfl rfl), ⟨by decide +kernel, by decide +kernel, by decide +kernel⟩⟩
set_option maxRecDepth 100000 in
theorem mv_L_46 : MV RL 46 yX8_undo cX8_undo 1 (some .int) 0 := ⟨(ALLW_c5 61 rfl rfl), (ALLW_c5 62 rfl rfl), (ALLW_c5 63 rfl rfl), (ALLW_c1 1 rfl rfl), k_X8_undo, ⟨by decide +kernel, by decide +kernel, by decide +kernel⟩⟩
set_option maxRecDepth 100000 in
theorem mw_L_143 : MSW RL 143 yL_piece cL_piece 5 (some .int) [(0, 10, 13, 52), (0, 10, 17, 23)] 4 := ⟨(ALLW_c5 66 rfl rfl), (ALLW_c5 67 rfl rfl), (ALLW_c1 0 rfl rfl), (ALLW_c5 68 rfl rfl), ⟨by decide +kernel, by decide +kernel, by decide +kernel⟩⟩
set_option maxRecDepth 100000 in
theorem mv_L_49 : MV RL 49 yX8_piece cX8_piece 4 (some .int) 2 := ⟨(ALLW_c5 70 rfl rfl), (ALLW_c5 71 rfl rfl), (ALLW_c5 72 rfl rfl), (ALLW_c1 1 rfl rfl), k_X8_piece, ⟨by decide +kernel, by decide +kernel, by decide +kernel⟩⟩
set_option maxRecDepth 100000 in
theorem mv_X8_175 : MV RX8 175 yX8_pieceOrThrow cX8_pieceOrThrow 3 (some (.object "PieceFiles$Piece")) 1 := ⟨(ALLW_c5 74 rfl rfl), (ALLW_c5 76 rfl rfl), (ALLW_s 37 (by decide +kernel) (by decide +kernel)), (ALLW_c1 1 rfl rfl), k_X8_pieceOrThrow, ⟨by decide +kernel, by decide +kernel, by decide +kernel⟩⟩
set_option maxRecDepth 100000 in
theorem mv_X8_201 : MV RX8 201 yX8_knownPair cX8_knownPair 4 (some .int) 1 := ⟨(ALLW_c5 94 rfl rfl), (ALLW_c5 96 rfl rfl), (ALLW_s 38 (by decide +kernel) (by decide +kernel)), (ALLW_c1 1 rfl rfl), k_X8_knownPair, ⟨by decide +kernel, by decide +kernel, by decide +kernel⟩⟩
set_option maxRecDepth 100000 in
theorem mw_L_146 : MSW RL 146 yL_octet cL_octet 6 (some .int) [(0, 12, 15, 52)] 5 := ⟨(ALLW_c5 99 rfl rfl), (ALLW_c5 100 rfl rfl), (ALLW_c1 0 rfl rfl), (ALLW_c5 101 rfl rfl), ⟨by decide +kernel, by decide +kernel, by decide +kernel⟩⟩
set_option maxRecDepth 100000 in
theorem mv_L_54 : MV RL 54 yX8_octet cX8_octet 5 (some .int) 3 := ⟨(ALLW_c5 102 rfl rfl), (ALLW_c5 103 rfl rfl), (ALLW_c5 104 rfl rfl), (ALLW_c1 1 rfl rfl), k_X8_octet, ⟨by decide +kernel, by decide +kernel, by decide +kernel⟩⟩
set_option maxRecDepth 100000 in
theorem mv_X8_213 : MV RX8 213 yX8_nowByte cX8_nowByte 5 (some .int) 3 := ⟨(ALLW_c5 106 rfl rfl), (ALLW_c5 108 rfl rfl), (ALLW_s 39 (by decide +kernel) (by decide +kernel)), (ALLW_c1 1 rfl rfl), k_X8_nowByte, ⟨by decide +kernel, by decide +kernel, by decide +kernel⟩⟩
set_option maxRecDepth 100000 in
theorem mv_X8_217 : MV RX8 217 yX1_textByte cX1_textByte 3 (some .int) 2 := ⟨(ALLW_c5 110 rfl rfl), (ALLW_c5 111 rfl rfl), (ALLW_c5 112 rfl rfl), (ALLW_c1 4 rfl rfl), k_X1_textByte, ⟨by decide +kernel, by decide +kernel, by decide +kernel⟩⟩
set_option maxRecDepth 100000 in
theorem mw_L_150 : MSW RL 150 yL_origin cL_origin 5 (some .int) [(0, 10, 13, 52)] 4 := ⟨(ALLW_c5 114 rfl rfl), (ALLW_c5 115 rfl rfl), (ALLW_c1 0 rfl rfl), (ALLW_c5 116 rfl rfl), ⟨by decide +kernel, by decide +kernel, by decide +kernel⟩⟩
set_option maxRecDepth 100000 in
theorem mv_L_58 : MV RL 58 yX8_origin cX8_origin 4 (some .int) 2 := ⟨(ALLW_c5 117 rfl rfl), (ALLW_c5 118 rfl rfl), (ALLW_c5 119 rfl rfl), (ALLW_c1 1 rfl rfl), k_X8_origin, ⟨by decide +kernel, by decide +kernel, by decide +kernel⟩⟩
set_option maxRecDepth 100000 in
theorem mw_L_153 : MSW RL 153 yL_key cL_key 5 (some .int) [(0, 10, 13, 52), (0, 10, 17, 23)] 4 := ⟨(ALLW_c5 121 rfl rfl), (ALLW_c5 122 rfl rfl), (ALLW_c1 0 rfl rfl), (ALLW_c5 123 rfl rfl), ⟨by decide +kernel, by decide +kernel, by decide +kernel⟩⟩
set_option maxRecDepth 100000 in
theorem mv_L_61 : MV RL 61 yX8_key cX8_key 4 (some .int) 2 := ⟨(ALLW_c5 124 rfl rfl), (ALLW_c5 125 rfl rfl), (ALLW_c5 126 rfl rfl), (ALLW_c1 1 rfl rfl), k_X8_key, ⟨by decide +kernel, by decide +kernel, by decide +kernel⟩⟩
set_option maxRecDepth 100000 in
theorem mw_L_164 : MSW RL 164 yL_like cL_like 5 (some .int) [(0, 10, 13, 52)] 4 := ⟨(ALLW_c5 129 rfl rfl), (ALLW_c5 130 rfl rfl), (ALLW_c1 0 rfl rfl), (ALLW_c5 131 rfl rfl), ⟨by decide +kernel, by decide +kernel, by decide +kernel⟩⟩
set_option maxRecDepth 100000 in
theorem mv_L_64 : MV RL 64 yX8_like cX8_like 5 (some .int) 2 := ⟨(ALLW_c5 132 rfl rfl), (ALLW_c5 133 rfl rfl), (ALLW_c5 134 rfl rfl), (ALLW_c1 1 rfl rfl), k_X8_like, ⟨by decide +kernel, by decide +kernel, by decide +kernel⟩⟩
set_option maxRecDepth 100000 in
theorem mw_L_167 : MSW RL 167 yL_would cL_would 4 (some .int) [(0, 9, 12, 52), (0, 9, 15, 13)] 3 := ⟨(ALLW_c5 136 rfl rfl), (ALLW_c5 137 rfl rfl), (ALLW_c1 0 rfl rfl), (ALLW_c5 138 rfl rfl), ⟨by decide +kernel, by decide +kernel, by decide +kernel⟩⟩
set_option maxRecDepth 100000 in
theorem mv_L_67 : MV RL 67 yX8_would cX8_would 4 (some .int) 1 := ⟨(ALLW_c5 139 rfl rfl), (ALLW_c5 140 rfl rfl), (ALLW_c5 141 rfl rfl), (ALLW_c1 1 rfl rfl), k_X8_would, ⟨by decide +kernel, by decide +kernel, by decide +kernel⟩⟩
set_option maxRecDepth 100000 in
theorem mw_L_170 : MSW RL 170 yL_found cL_found 3 (some .int) [(0, 7, 10, 13)] 2 := ⟨(ALLW_c5 143 rfl rfl), (ALLW_c5 144 rfl rfl), (ALLW_c1 0 rfl rfl), (ALLW_c5 145 rfl rfl), ⟨by decide +kernel, by decide +kernel, by decide +kernel⟩⟩
set_option maxRecDepth 100000 in
theorem mv_L_70 : MV RL 70 yX8_found cX8_found 5 (some .long) 0 := ⟨(ALLW_c5 146 rfl rfl), (ALLW_c5 147 rfl rfl), (ALLW_c5 148 rfl rfl), (ALLW_c1 1 rfl rfl), k_X8_found, ⟨by decide +kernel, by decide +kernel, by decide +kernel⟩⟩
set_option maxRecDepth 100000 in
theorem mv_X8_254 : MV RX8 254 yX8_hasWord cX8_hasWord 5 (some .boolean) 2 := ⟨(ALLW_c5 150 rfl rfl), (ALLW_c5 152 rfl rfl), (ALLW_s 40 (by decide +kernel) (by decide +kernel)), (ALLW_c1 1 rfl rfl), k_X8_hasWord, ⟨by decide +kernel, by decide +kernel, by decide +kernel⟩⟩
set_option maxRecDepth 100000 in
theorem mv_X8_388 : MV RX8 388 yX5_hasWord cX5_hasWord 5 (some .boolean) 3 := ⟨(ALLW_c5 154 rfl rfl), (ALLW_c5 155 rfl rfl), (ALLW_c5 156 rfl rfl), (ALLW_c1 2 rfl rfl), k_X5_hasWord, ⟨by decide +kernel, by decide +kernel, by decide +kernel⟩⟩
set_option maxRecDepth 100000 in
theorem mv_X5_37 : MV RX5 37 yX5_size cX5_size 1 (some .int) 0 := ⟨(ALLW_c5 158 rfl rfl), (ALLW_c2 114 rfl rfl), (ALLW_c2 115 rfl rfl), (ALLW_c1 2 rfl rfl), k_X5_size, ⟨by decide +kernel, by decide +kernel, by decide +kernel⟩⟩
set_option maxRecDepth 100000 in
theorem mv_X5_40 : MV RX5 40 yX5_hasSmall cX5_hasSmall 4 (some .boolean) 2 := ⟨(ALLW_c5 159 rfl rfl), (ALLW_c5 161 rfl rfl), (ALLW_s 41 (by decide +kernel) (by decide +kernel)), (ALLW_c1 2 rfl rfl), k_X5_hasSmall, ⟨by decide +kernel, by decide +kernel, by decide +kernel⟩⟩
set_option maxRecDepth 100000 in
theorem mw_L_178 : MSW RL 178 yL_kept cL_kept 4 (some .int) [(0, 16, 19, 52)] 3 := ⟨(ALLW_c5 166 rfl rfl), (ALLW_c5 167 rfl rfl), (ALLW_c1 0 rfl rfl), (ALLW_c5 168 rfl rfl), ⟨by decide +kernel, by decide +kernel, by decide +kernel⟩⟩
set_option maxRecDepth 100000 in
theorem mv_L_74 : MV RL 74 yX8_kept cX8_kept 5 (some .boolean) 1 := ⟨(ALLW_c5 169 rfl rfl), (ALLW_c5 170 rfl rfl), (ALLW_c5 171 rfl rfl), (ALLW_c1 1 rfl rfl), k_X8_kept, ⟨by decide +kernel, by decide +kernel, by decide +kernel⟩⟩
set_option maxRecDepth 100000 in
theorem mv_X8_279 : MV RX8 279 yX3_mayBeginInBuilt cX3_mayBeginInBuilt 2 (some .boolean) 1 := ⟨(ALLW_c5 173 rfl rfl), (ALLW_c5 174 rfl rfl), (ALLW_c5 175 rfl rfl), (ALLW_c1 6 rfl rfl), k_X3_mayBeginInBuilt, ⟨by decide +kernel, by decide +kernel, by decide +kernel⟩⟩
set_option maxRecDepth 100000 in
theorem mi_L_81 : MI RL 81 yX9_init cX9_init 2 0 := ⟨(ALLW_c5 179 rfl rfl), (ALLW_c5 180 rfl rfl), (ALLW_c1 9 rfl rfl), k_X9_init, rfl, ⟨by decide +kernel, by decide +kernel, by decide +kernel⟩⟩
set_option maxRecDepth 100000 in
theorem oi_X9_1 : Cond.methodLink RX9 1 Lib.objectInit ∈ ALLW := (ALLW_c5 182 rfl rfl)
set_option maxRecDepth 100000 in
theorem mv_L_86 : MV RL 86 yX9_feed cX9_feed 8 (some .int) 5 := ⟨(ALLW_c6 124 rfl rfl), (ALLW_c6 125 rfl rfl), (ALLW_c6 126 rfl rfl), (ALLW_c1 9 rfl rfl), k_X9_feed, ⟨by decide +kernel, by decide +kernel, by decide +kernel⟩⟩
set_option maxRecDepth 100000 in
theorem mv_L_90 : MV RL 90 yX9_end cX9_end 2 (some .boolean) 1 := ⟨(ALLW_c6 128 rfl rfl), (ALLW_c6 129 rfl rfl), (ALLW_c6 130 rfl rfl), (ALLW_c1 9 rfl rfl), k_X9_end, ⟨by decide +kernel, by decide +kernel, by decide +kernel⟩⟩
set_option maxRecDepth 100000 in
theorem ms_X9_141 : MS RX9 141 yX9_isIn cX9_isIn 3 (some .boolean) 3 := ⟨(ALLW_c6 132 rfl rfl), (ALLW_c6 133 rfl rfl), (ALLW_c1 9 rfl rfl), k_X9_isIn, ⟨by decide +kernel, by decide +kernel, by decide +kernel⟩⟩
set_option maxRecDepth 100000 in
theorem mv_L_96 : MV RL 96 yX9_acts cX9_acts 4 (some .int) 0 := ⟨(ALLW_c6 135 rfl rfl), (ALLW_c6 136 rfl rfl), (ALLW_c6 137 rfl rfl), (ALLW_c1 9 rfl rfl), k_X9_acts, ⟨by decide +kernel, by decide +kernel, by decide +kernel⟩⟩
set_option maxRecDepth 100000 in
theorem mv_X9_420 : MV RX9 420 yX9_putsAside cX9_putsAside 2 none 0 := ⟨(ALLW_c6 139 rfl rfl), (ALLW_c6 141 rfl rfl), (ALLW_s 42 (by decide +kernel) (by decide +kernel)), (ALLW_c1 9 rfl rfl), k_X9_putsAside, ⟨by decide +kernel, by decide +kernel, by decide +kernel⟩⟩
set_option maxRecDepth 100000 in
theorem mv_X9_346 : MV RX9 346 yX9_here cX9_here 1 (some .int) 0 := ⟨(ALLW_c6 143 rfl rfl), (ALLW_c6 145 rfl rfl), (ALLW_s 43 (by decide +kernel) (by decide +kernel)), (ALLW_c1 9 rfl rfl), k_X9_here, ⟨by decide +kernel, by decide +kernel, by decide +kernel⟩⟩
set_option maxRecDepth 100000 in
theorem mv_X9_352 : MV RX9 352 yX9_wrong cX9_wrong 2 none 1 := ⟨(ALLW_c6 147 rfl rfl), (ALLW_c6 149 rfl rfl), (ALLW_s 44 (by decide +kernel) (by decide +kernel)), (ALLW_c1 9 rfl rfl), k_X9_wrong, ⟨by decide +kernel, by decide +kernel, by decide +kernel⟩⟩
set_option maxRecDepth 100000 in
theorem mv_X9_423 : MV RX9 423 yX9_act cX9_act 3 (some .int) 0 := ⟨(ALLW_c6 151 rfl rfl), (ALLW_c6 153 rfl rfl), (ALLW_s 45 (by decide +kernel) (by decide +kernel)), (ALLW_c1 9 rfl rfl), k_X9_act, ⟨by decide +kernel, by decide +kernel, by decide +kernel⟩⟩
set_option maxRecDepth 100000 in
theorem mv_X9_375 : MV RX9 375 yX9_has cX9_has 4 (some .boolean) 1 := ⟨(ALLW_c6 156 rfl rfl), (ALLW_c6 158 rfl rfl), (ALLW_s 46 (by decide +kernel) (by decide +kernel)), (ALLW_c1 9 rfl rfl), k_X9_has, ⟨by decide +kernel, by decide +kernel, by decide +kernel⟩⟩
set_option maxRecDepth 100000 in
theorem mv_X9_349 : MV RX9 349 yX9_wordEnd cX9_wordEnd 2 (some .int) 0 := ⟨(ALLW_c6 160 rfl rfl), (ALLW_c6 162 rfl rfl), (ALLW_s 47 (by decide +kernel) (by decide +kernel)), (ALLW_c1 9 rfl rfl), k_X9_wordEnd, ⟨by decide +kernel, by decide +kernel, by decide +kernel⟩⟩
set_option maxRecDepth 100000 in
theorem mv_X9_173 : MV RX9 173 yJ0_length_8abf5 cJ0_length_8abf5 1 (some .int) 0 := ⟨(ALLW_c6 164 rfl rfl), (ALLW_c4 120 rfl rfl), (ALLW_c4 121 rfl rfl), (ALLW_c1 10 rfl rfl), k_J0_length_8abf5, ⟨by decide +kernel, by decide +kernel, by decide +kernel⟩⟩
set_option maxRecDepth 100000 in
theorem mv_X9_179 : MV RX9 179 yJ0_charAt_5068e cJ0_charAt_5068e 2 (some .char) 1 := ⟨(ALLW_c6 165 rfl rfl), (ALLW_c4 130 rfl rfl), (ALLW_c4 131 rfl rfl), (ALLW_c1 10 rfl rfl), k_J0_charAt_5068e, ⟨by decide +kernel, by decide +kernel, by decide +kernel⟩⟩
set_option maxRecDepth 100000 in
theorem mv_X9_379 : MV RX9 379 yX9_ruleText cX9_ruleText 5 (some .int) 3 := ⟨(ALLW_c6 166 rfl rfl), (ALLW_c6 168 rfl rfl), (ALLW_s 48 (by decide +kernel) (by decide +kernel)), (ALLW_c1 9 rfl rfl), k_X9_ruleText, ⟨by decide +kernel, by decide +kernel, by decide +kernel⟩⟩
set_option maxRecDepth 100000 in
theorem mv_X9_358 : MV RX9 358 yX9_number cX9_number 5 (some .int) 2 := ⟨(ALLW_c6 170 rfl rfl), (ALLW_c6 172 rfl rfl), (ALLW_s 49 (by decide +kernel) (by decide +kernel)), (ALLW_c1 9 rfl rfl), k_X9_number, ⟨by decide +kernel, by decide +kernel, by decide +kernel⟩⟩
set_option maxRecDepth 100000 in
theorem mv_X9_361 : MV RX9 361 yX9_rules cX9_rules 3 (some .int) 2 := ⟨(ALLW_c6 174 rfl rfl), (ALLW_c6 176 rfl rfl), (ALLW_s 50 (by decide +kernel) (by decide +kernel)), (ALLW_c1 9 rfl rfl), k_X9_rules, ⟨by decide +kernel, by decide +kernel, by decide +kernel⟩⟩
set_option maxRecDepth 100000 in
theorem mv_X9_322 : MV RX9 322 yX9_cutsAnew cX9_cutsAnew 2 none 0 := ⟨(ALLW_c6 178 rfl rfl), (ALLW_c6 180 rfl rfl), (ALLW_s 51 (by decide +kernel) (by decide +kernel)), (ALLW_c1 9 rfl rfl), k_X9_cutsAnew, ⟨by decide +kernel, by decide +kernel, by decide +kernel⟩⟩
set_option maxRecDepth 100000 in
theorem mv_X9_244 : MV RX9 244 yX9_cutsFile cX9_cutsFile 2 none 0 := ⟨(ALLW_c6 182 rfl rfl), (ALLW_c6 184 rfl rfl), (ALLW_s 52 (by decide +kernel) (by decide +kernel)), (ALLW_c1 9 rfl rfl), k_X9_cutsFile, ⟨by decide +kernel, by decide +kernel, by decide +kernel⟩⟩
set_option maxRecDepth 100000 in
theorem mv_X9_241 : MV RX9 241 yX9_cutsAll cX9_cutsAll 5 none 0 := ⟨(ALLW_c6 186 rfl rfl), (ALLW_c6 188 rfl rfl), (ALLW_s 53 (by decide +kernel) (by decide +kernel)), (ALLW_c1 9 rfl rfl), k_X9_cutsAll, ⟨by decide +kernel, by decide +kernel, by decide +kernel⟩⟩
set_option maxRecDepth 100000 in
theorem mv_X9_223 : MV RX9 223 yX9_cuts cX9_cuts 7 (some .int) 6 := ⟨(ALLW_c6 190 rfl rfl), (ALLW_c6 192 rfl rfl), (ALLW_s 54 (by decide +kernel) (by decide +kernel)), (ALLW_c1 9 rfl rfl), k_X9_cuts, ⟨by decide +kernel, by decide +kernel, by decide +kernel⟩⟩
set_option maxRecDepth 100000 in
theorem mv_X9_160 : MV RX9 160 yX9_cutsLines cX9_cutsLines 13 none 5 := ⟨(ALLW_c6 194 rfl rfl), (ALLW_c6 196 rfl rfl), (ALLW_s 55 (by decide +kernel) (by decide +kernel)), (ALLW_c1 9 rfl rfl), k_X9_cutsLines, ⟨by decide +kernel, by decide +kernel, by decide +kernel⟩⟩
set_option maxRecDepth 100000 in
theorem ms_X9_148 : MS RX9 148 yX9_endOf cX9_endOf 6 (some .int) 5 := ⟨(ALLW_c6 198 rfl rfl), (ALLW_c6 199 rfl rfl), (ALLW_c1 9 rfl rfl), k_X9_endOf, ⟨by decide +kernel, by decide +kernel, by decide +kernel⟩⟩
set_option maxRecDepth 100000 in
theorem mv_X9_152 : MV RX9 152 yX9_finds cX9_finds 7 none 6 := ⟨(ALLW_c6 201 rfl rfl), (ALLW_c6 203 rfl rfl), (ALLW_s 56 (by decide +kernel) (by decide +kernel)), (ALLW_c1 9 rfl rfl), k_X9_finds, ⟨by decide +kernel, by decide +kernel, by decide +kernel⟩⟩
set_option maxRecDepth 100000 in
theorem mv_X9_164 : MV RX9 164 yX9_cutsTable cX9_cutsTable 9 none 5 := ⟨(ALLW_c6 205 rfl rfl), (ALLW_c6 207 rfl rfl), (ALLW_s 57 (by decide +kernel) (by decide +kernel)), (ALLW_c1 9 rfl rfl), k_X9_cutsTable, ⟨by decide +kernel, by decide +kernel, by decide +kernel⟩⟩
set_option maxRecDepth 100000 in
theorem mv_X9_167 : MV RX9 167 yX9_cutsMarkup cX9_cutsMarkup 10 none 5 := ⟨(ALLW_c6 209 rfl rfl), (ALLW_c6 211 rfl rfl), (ALLW_s 58 (by decide +kernel) (by decide +kernel)), (ALLW_c1 9 rfl rfl), k_X9_cutsMarkup, ⟨by decide +kernel, by decide +kernel, by decide +kernel⟩⟩
set_option maxRecDepth 100000 in
theorem ms_X9_156 : MS RX9 156 yX9_isBare cX9_isBare 1 (some .boolean) 1 := ⟨(ALLW_c6 213 rfl rfl), (ALLW_c6 214 rfl rfl), (ALLW_c1 9 rfl rfl), k_X9_isBare, ⟨by decide +kernel, by decide +kernel, by decide +kernel⟩⟩
set_option maxRecDepth 100000 in
theorem mv_X9_170 : MV RX9 170 yX9_cutsQuotes cX9_cutsQuotes 9 none 5 := ⟨(ALLW_c6 216 rfl rfl), (ALLW_c6 218 rfl rfl), (ALLW_s 59 (by decide +kernel) (by decide +kernel)), (ALLW_c1 9 rfl rfl), k_X9_cutsQuotes, ⟨by decide +kernel, by decide +kernel, by decide +kernel⟩⟩
set_option maxRecDepth 100000 in
theorem mv_X9_230 : MV RX9 230 yX9_undoes cX9_undoes 14 (some .int) 10 := ⟨(ALLW_c6 220 rfl rfl), (ALLW_c6 222 rfl rfl), (ALLW_s 60 (by decide +kernel) (by decide +kernel)), (ALLW_c1 9 rfl rfl), k_X9_undoes, ⟨by decide +kernel, by decide +kernel, by decide +kernel⟩⟩
set_option maxRecDepth 100000 in
theorem mv_X9_200 : MV RX9 200 yX9_means cX9_means 7 (some .int) 5 := ⟨(ALLW_c6 224 rfl rfl), (ALLW_c6 226 rfl rfl), (ALLW_s 61 (by decide +kernel) (by decide +kernel)), (ALLW_c1 9 rfl rfl), k_X9_means, ⟨by decide +kernel, by decide +kernel, by decide +kernel⟩⟩
set_option maxRecDepth 100000 in
theorem ms_X9_188 : MS RX9 188 yX9_stands cX9_stands 5 (some .boolean) 4 := ⟨(ALLW_c6 229 rfl rfl), (ALLW_c6 230 rfl rfl), (ALLW_c1 9 rfl rfl), k_X9_stands, ⟨by decide +kernel, by decide +kernel, by decide +kernel⟩⟩
set_option maxRecDepth 100000 in
theorem mv_X9_196 : MV RX9 196 yX9_backMeaning cX9_backMeaning 3 (some .int) 2 := ⟨(ALLW_c6 234 rfl rfl), (ALLW_c6 236 rfl rfl), (ALLW_s 62 (by decide +kernel) (by decide +kernel)), (ALLW_c1 9 rfl rfl), k_X9_backMeaning, ⟨by decide +kernel, by decide +kernel, by decide +kernel⟩⟩
set_option maxRecDepth 100000 in
theorem mv_X9_237 : MV RX9 237 yX9_takes cX9_takes 10 none 7 := ⟨(ALLW_c6 238 rfl rfl), (ALLW_c7 0 rfl rfl), (ALLW_s 63 (by decide +kernel) (by decide +kernel)), (ALLW_c1 9 rfl rfl), k_X9_takes, ⟨by decide +kernel, by decide +kernel, by decide +kernel⟩⟩
set_option maxRecDepth 100000 in
theorem mv_X9_210 : MV RX9 210 yX9_isLocked cX9_isLocked 6 (some .boolean) 1 := ⟨(ALLW_c7 2 rfl rfl), (ALLW_c7 4 rfl rfl), (ALLW_s 64 (by decide +kernel) (by decide +kernel)), (ALLW_c1 9 rfl rfl), k_X9_isLocked, ⟨by decide +kernel, by decide +kernel, by decide +kernel⟩⟩
set_option maxRecDepth 100000 in
theorem mv_X9_213 : MV RX9 213 yX9_isPiece cX9_isPiece 4 (some .boolean) 2 := ⟨(ALLW_c7 6 rfl rfl), (ALLW_c7 8 rfl rfl), (ALLW_s 65 (by decide +kernel) (by decide +kernel)), (ALLW_c1 9 rfl rfl), k_X9_isPiece, ⟨by decide +kernel, by decide +kernel, by decide +kernel⟩⟩
set_option maxRecDepth 100000 in
theorem ms_X9_207 : MS RX9 207 yX9_isLetter cX9_isLetter 1 (some .boolean) 1 := ⟨(ALLW_c7 10 rfl rfl), (ALLW_c7 11 rfl rfl), (ALLW_c1 9 rfl rfl), k_X9_isLetter, ⟨by decide +kernel, by decide +kernel, by decide +kernel⟩⟩
set_option maxRecDepth 100000 in
theorem mv_X9_394 : MV RX9 394 yX9_lockText cX9_lockText 4 (some .int) 0 := ⟨(ALLW_c7 19 rfl rfl), (ALLW_c7 21 rfl rfl), (ALLW_s 66 (by decide +kernel) (by decide +kernel)), (ALLW_c1 9 rfl rfl), k_X9_lockText, ⟨by decide +kernel, by decide +kernel, by decide +kernel⟩⟩
set_option maxRecDepth 100000 in
theorem mv_X9_355 : MV RX9 355 yX9_lock0 cX9_lock0 6 (some .int) 2 := ⟨(ALLW_c7 23 rfl rfl), (ALLW_c7 25 rfl rfl), (ALLW_s 67 (by decide +kernel) (by decide +kernel)), (ALLW_c1 9 rfl rfl), k_X9_lock0, ⟨by decide +kernel, by decide +kernel, by decide +kernel⟩⟩
set_option maxRecDepth 100000 in
theorem mv_X9_399 : MV RX9 399 yX9_unlocks cX9_unlocks 1 (some .int) 0 := ⟨(ALLW_c7 28 rfl rfl), (ALLW_c7 30 rfl rfl), (ALLW_s 68 (by decide +kernel) (by decide +kernel)), (ALLW_c1 9 rfl rfl), k_X9_unlocks, ⟨by decide +kernel, by decide +kernel, by decide +kernel⟩⟩
set_option maxRecDepth 100000 in
theorem mv_X9_404 : MV RX9 404 yX9_pieceText cX9_pieceText 3 (some .int) 1 := ⟨(ALLW_c7 33 rfl rfl), (ALLW_c7 35 rfl rfl), (ALLW_s 69 (by decide +kernel) (by decide +kernel)), (ALLW_c1 9 rfl rfl), k_X9_pieceText, ⟨by decide +kernel, by decide +kernel, by decide +kernel⟩⟩
set_option maxRecDepth 100000 in
theorem mv_X9_367 : MV RX9 367 yX9_free0 cX9_free0 2 (some .int) 1 := ⟨(ALLW_c7 37 rfl rfl), (ALLW_c7 39 rfl rfl), (ALLW_s 70 (by decide +kernel) (by decide +kernel)), (ALLW_c1 9 rfl rfl), k_X9_free0, ⟨by decide +kernel, by decide +kernel, by decide +kernel⟩⟩
set_option maxRecDepth 100000 in
theorem mv_X9_293 : MV RX9 293 yX9_isPieceThere cX9_isPieceThere 2 (some .boolean) 1 := ⟨(ALLW_c7 41 rfl rfl), (ALLW_c7 43 rfl rfl), (ALLW_s 71 (by decide +kernel) (by decide +kernel)), (ALLW_c1 9 rfl rfl), k_X9_isPieceThere, ⟨by decide +kernel, by decide +kernel, by decide +kernel⟩⟩
set_option maxRecDepth 100000 in
theorem mv_X9_247 : MV RX9 247 yX9_toldOf cX9_toldOf 2 (some .int) 1 := ⟨(ALLW_c7 45 rfl rfl), (ALLW_c7 47 rfl rfl), (ALLW_s 72 (by decide +kernel) (by decide +kernel)), (ALLW_c1 9 rfl rfl), k_X9_toldOf, ⟨by decide +kernel, by decide +kernel, by decide +kernel⟩⟩
set_option maxRecDepth 100000 in
theorem mv_X9_300 : MV RX9 300 yX9_builtMany cX9_builtMany 3 (some .int) 0 := ⟨(ALLW_c7 49 rfl rfl), (ALLW_c7 51 rfl rfl), (ALLW_s 73 (by decide +kernel) (by decide +kernel)), (ALLW_c1 9 rfl rfl), k_X9_builtMany, ⟨by decide +kernel, by decide +kernel, by decide +kernel⟩⟩
set_option maxRecDepth 100000 in
theorem mv_X9_290 : MV RX9 290 yX9_builtOf cX9_builtOf 2 (some .int) 1 := ⟨(ALLW_c7 53 rfl rfl), (ALLW_c7 55 rfl rfl), (ALLW_s 74 (by decide +kernel) (by decide +kernel)), (ALLW_c1 9 rfl rfl), k_X9_builtOf, ⟨by decide +kernel, by decide +kernel, by decide +kernel⟩⟩
set_option maxRecDepth 100000 in
theorem mv_X9_283 : MV RX9 283 yX9_holdsTold cX9_holdsTold 3 none 1 := ⟨(ALLW_c7 57 rfl rfl), (ALLW_c7 59 rfl rfl), (ALLW_s 75 (by decide +kernel) (by decide +kernel)), (ALLW_c1 9 rfl rfl), k_X9_holdsTold, ⟨by decide +kernel, by decide +kernel, by decide +kernel⟩⟩
set_option maxRecDepth 100000 in
theorem mv_X9_251 : MV RX9 251 yX9_toldAt cX9_toldAt 3 (some .int) 2 := ⟨(ALLW_c7 61 rfl rfl), (ALLW_c7 63 rfl rfl), (ALLW_s 76 (by decide +kernel) (by decide +kernel)), (ALLW_c1 9 rfl rfl), k_X9_toldAt, ⟨by decide +kernel, by decide +kernel, by decide +kernel⟩⟩
set_option maxRecDepth 100000 in
theorem mv_X9_287 : MV RX9 287 yX9_escapedFor cX9_escapedFor 4 (some .int) 2 := ⟨(ALLW_c7 65 rfl rfl), (ALLW_c7 67 rfl rfl), (ALLW_s 77 (by decide +kernel) (by decide +kernel)), (ALLW_c1 9 rfl rfl), k_X9_escapedFor, ⟨by decide +kernel, by decide +kernel, by decide +kernel⟩⟩
set_option maxRecDepth 100000 in
theorem mv_X9_279 : MV RX9 279 yX9_escapes cX9_escapes 9 (some .int) 6 := ⟨(ALLW_c7 69 rfl rfl), (ALLW_c7 71 rfl rfl), (ALLW_s 78 (by decide +kernel) (by decide +kernel)), (ALLW_c1 9 rfl rfl), k_X9_escapes, ⟨by decide +kernel, by decide +kernel, by decide +kernel⟩⟩
set_option maxRecDepth 100000 in
theorem ms_X9_269 : MS RX9 269 yX9_hasSign cX9_hasSign 3 (some .boolean) 2 := ⟨(ALLW_c7 73 rfl rfl), (ALLW_c7 74 rfl rfl), (ALLW_c1 9 rfl rfl), k_X9_hasSign, ⟨by decide +kernel, by decide +kernel, by decide +kernel⟩⟩
set_option maxRecDepth 100000 in
theorem mv_X9_261 : MV RX9 261 yX9_plain cX9_plain 3 none 2 := ⟨(ALLW_c7 76 rfl rfl), (ALLW_c7 78 rfl rfl), (ALLW_s 79 (by decide +kernel) (by decide +kernel)), (ALLW_c1 9 rfl rfl), k_X9_plain, ⟨by decide +kernel, by decide +kernel, by decide +kernel⟩⟩
set_option maxRecDepth 100000 in
theorem mv_X9_272 : MV RX9 272 yX9_escapesMarkup cX9_escapesMarkup 3 none 2 := ⟨(ALLW_c7 80 rfl rfl), (ALLW_c7 82 rfl rfl), (ALLW_s 80 (by decide +kernel) (by decide +kernel)), (ALLW_c1 9 rfl rfl), k_X9_escapesMarkup, ⟨by decide +kernel, by decide +kernel, by decide +kernel⟩⟩
set_option maxRecDepth 100000 in
theorem mv_X9_257 : MV RX9 257 yX9_word cX9_word 4 none 2 := ⟨(ALLW_c7 84 rfl rfl), (ALLW_c7 86 rfl rfl), (ALLW_s 81 (by decide +kernel) (by decide +kernel)), (ALLW_c1 9 rfl rfl), k_X9_word, ⟨by decide +kernel, by decide +kernel, by decide +kernel⟩⟩
set_option maxRecDepth 100000 in
theorem mv_X9_275 : MV RX9 275 yX9_escapesBack cX9_escapesBack 5 none 4 := ⟨(ALLW_c7 88 rfl rfl), (ALLW_c7 90 rfl rfl), (ALLW_s 82 (by decide +kernel) (by decide +kernel)), (ALLW_c1 9 rfl rfl), k_X9_escapesBack, ⟨by decide +kernel, by decide +kernel, by decide +kernel⟩⟩
set_option maxRecDepth 100000 in
theorem mv_X9_265 : MV RX9 265 yX9_puts cX9_puts 4 none 3 := ⟨(ALLW_c7 92 rfl rfl), (ALLW_c7 94 rfl rfl), (ALLW_s 83 (by decide +kernel) (by decide +kernel)), (ALLW_c1 9 rfl rfl), k_X9_puts, ⟨by decide +kernel, by decide +kernel, by decide +kernel⟩⟩
set_option maxRecDepth 100000 in
theorem mv_X9_370 : MV RX9 370 yX9_spread0 cX9_spread0 4 (some .int) 1 := ⟨(ALLW_c7 96 rfl rfl), (ALLW_c7 98 rfl rfl), (ALLW_s 84 (by decide +kernel) (by decide +kernel)), (ALLW_c1 9 rfl rfl), k_X9_spread0, ⟨by decide +kernel, by decide +kernel, by decide +kernel⟩⟩
set_option maxRecDepth 100000 in
theorem mv_X9_309 : MV RX9 309 yX9_areLike cX9_areLike 5 (some .boolean) 2 := ⟨(ALLW_c7 100 rfl rfl), (ALLW_c7 102 rfl rfl), (ALLW_s 85 (by decide +kernel) (by decide +kernel)), (ALLW_c1 9 rfl rfl), k_X9_areLike, ⟨by decide +kernel, by decide +kernel, by decide +kernel⟩⟩
set_option maxRecDepth 100000 in
theorem mv_X9_296 : MV RX9 296 yX9_tells cX9_tells 4 none 2 := ⟨(ALLW_c7 104 rfl rfl), (ALLW_c7 106 rfl rfl), (ALLW_s 86 (by decide +kernel) (by decide +kernel)), (ALLW_c1 9 rfl rfl), k_X9_tells, ⟨by decide +kernel, by decide +kernel, by decide +kernel⟩⟩
set_option maxRecDepth 100000 in
theorem mv_X9_412 : MV RX9 412 yX9_swapText cX9_swapText 3 (some .int) 0 := ⟨(ALLW_c7 110 rfl rfl), (ALLW_c7 112 rfl rfl), (ALLW_s 87 (by decide +kernel) (by decide +kernel)), (ALLW_c1 9 rfl rfl), k_X9_swapText, ⟨by decide +kernel, by decide +kernel, by decide +kernel⟩⟩
set_option maxRecDepth 100000 in
theorem mv_X9_364 : MV RX9 364 yX9_swap0 cX9_swap0 6 (some .int) 2 := ⟨(ALLW_c7 114 rfl rfl), (ALLW_c7 116 rfl rfl), (ALLW_s 88 (by decide +kernel) (by decide +kernel)), (ALLW_c1 9 rfl rfl), k_X9_swap0, ⟨by decide +kernel, by decide +kernel, by decide +kernel⟩⟩
set_option maxRecDepth 100000 in
theorem mv_X9_313 : MV RX9 313 yX9_nowMany cX9_nowMany 2 (some .int) 1 := ⟨(ALLW_c7 118 rfl rfl), (ALLW_c7 120 rfl rfl), (ALLW_s 89 (by decide +kernel) (by decide +kernel)), (ALLW_c1 9 rfl rfl), k_X9_nowMany, ⟨by decide +kernel, by decide +kernel, by decide +kernel⟩⟩
set_option maxRecDepth 100000 in
theorem mv_X9_316 : MV RX9 316 yX9_nowByte cX9_nowByte 3 (some .int) 2 := ⟨(ALLW_c7 122 rfl rfl), (ALLW_c7 124 rfl rfl), (ALLW_s 90 (by decide +kernel) (by decide +kernel)), (ALLW_c1 9 rfl rfl), k_X9_nowByte, ⟨by decide +kernel, by decide +kernel, by decide +kernel⟩⟩
set_option maxRecDepth 100000 in
theorem mv_X9_417 : MV RX9 417 yX9_wipe0 cX9_wipe0 2 (some .int) 0 := ⟨(ALLW_c7 127 rfl rfl), (ALLW_c7 129 rfl rfl), (ALLW_s 91 (by decide +kernel) (by decide +kernel)), (ALLW_c1 9 rfl rfl), k_X9_wipe0, ⟨by decide +kernel, by decide +kernel, by decide +kernel⟩⟩
set_option maxRecDepth 100000 in
theorem mv_X9_319 : MV RX9 319 yX9_toldMany cX9_toldMany 3 (some .int) 0 := ⟨(ALLW_c7 131 rfl rfl), (ALLW_c7 133 rfl rfl), (ALLW_s 92 (by decide +kernel) (by decide +kernel)), (ALLW_c1 9 rfl rfl), k_X9_toldMany, ⟨by decide +kernel, by decide +kernel, by decide +kernel⟩⟩
set_option maxRecDepth 100000 in
theorem mv_X9_334 : MV RX9 334 yX9_putsBack cX9_putsBack 2 none 0 := ⟨(ALLW_c7 135 rfl rfl), (ALLW_c7 137 rfl rfl), (ALLW_s 93 (by decide +kernel) (by decide +kernel)), (ALLW_c1 9 rfl rfl), k_X9_putsBack, ⟨by decide +kernel, by decide +kernel, by decide +kernel⟩⟩
set_option maxRecDepth 100000 in
theorem mv_L_100 : MV RL 100 yX9_fault cX9_fault 1 (some .int) 0 := ⟨(ALLW_c7 139 rfl rfl), (ALLW_c7 140 rfl rfl), (ALLW_c7 141 rfl rfl), (ALLW_c1 9 rfl rfl), k_X9_fault, ⟨by decide +kernel, by decide +kernel, by decide +kernel⟩⟩
set_option maxRecDepth 100000 in
theorem mv_L_104 : MV RL 104 yX9_why cX9_why 1 (some .int) 0 := ⟨(ALLW_c7 143 rfl rfl), (ALLW_c7 144 rfl rfl), (ALLW_c7 145 rfl rfl), (ALLW_c1 9 rfl rfl), k_X9_why, ⟨by decide +kernel, by decide +kernel, by decide +kernel⟩⟩
set_option maxRecDepth 100000 in
theorem mv_L_108 : MV RL 108 yX9_file cX9_file 3 (some .int) 0 := ⟨(ALLW_c7 147 rfl rfl), (ALLW_c7 148 rfl rfl), (ALLW_c7 149 rfl rfl), (ALLW_c1 9 rfl rfl), k_X9_file, ⟨by decide +kernel, by decide +kernel, by decide +kernel⟩⟩
set_option maxRecDepth 100000 in
theorem mv_X9_426 : MV RX9 426 yX9_took cX9_took 2 (some .int) 0 := ⟨(ALLW_c7 151 rfl rfl), (ALLW_c7 153 rfl rfl), (ALLW_s 94 (by decide +kernel) (by decide +kernel)), (ALLW_c1 9 rfl rfl), k_X9_took, ⟨by decide +kernel, by decide +kernel, by decide +kernel⟩⟩
set_option maxRecDepth 100000 in
theorem mv_L_112 : MV RL 112 yX9_kind cX9_kind 3 (some .int) 2 := ⟨(ALLW_c7 155 rfl rfl), (ALLW_c7 156 rfl rfl), (ALLW_c7 157 rfl rfl), (ALLW_c1 9 rfl rfl), k_X9_kind, ⟨by decide +kernel, by decide +kernel, by decide +kernel⟩⟩
set_option maxRecDepth 100000 in
theorem mv_X9_429 : MV RX9 429 yX9_isDone cX9_isDone 3 (some .boolean) 2 := ⟨(ALLW_c7 159 rfl rfl), (ALLW_c7 161 rfl rfl), (ALLW_s 95 (by decide +kernel) (by decide +kernel)), (ALLW_c1 9 rfl rfl), k_X9_isDone, ⟨by decide +kernel, by decide +kernel, by decide +kernel⟩⟩
set_option maxRecDepth 100000 in
theorem mv_X9_331 : MV RX9 331 yX9_remembers cX9_remembers 2 none 0 := ⟨(ALLW_c7 163 rfl rfl), (ALLW_c7 165 rfl rfl), (ALLW_s 96 (by decide +kernel) (by decide +kernel)), (ALLW_c1 9 rfl rfl), k_X9_remembers, ⟨by decide +kernel, by decide +kernel, by decide +kernel⟩⟩
set_option maxRecDepth 100000 in
theorem mv_L_116 : MV RL 116 yX9_rule cX9_rule 3 (some .int) 2 := ⟨(ALLW_c7 167 rfl rfl), (ALLW_c7 168 rfl rfl), (ALLW_c7 169 rfl rfl), (ALLW_c1 9 rfl rfl), k_X9_rule, ⟨by decide +kernel, by decide +kernel, by decide +kernel⟩⟩
set_option maxRecDepth 100000 in
theorem mv_L_119 : MV RL 119 yX9_lock cX9_lock 2 (some .int) 0 := ⟨(ALLW_c7 171 rfl rfl), (ALLW_c7 172 rfl rfl), (ALLW_c7 173 rfl rfl), (ALLW_c1 9 rfl rfl), k_X9_lock, ⟨by decide +kernel, by decide +kernel, by decide +kernel⟩⟩
set_option maxRecDepth 100000 in
theorem mv_X9_432 : MV RX9 432 yX9_isWord cX9_isWord 4 (some .boolean) 1 := ⟨(ALLW_c7 175 rfl rfl), (ALLW_c7 177 rfl rfl), (ALLW_s 97 (by decide +kernel) (by decide +kernel)), (ALLW_c1 9 rfl rfl), k_X9_isWord, ⟨by decide +kernel, by decide +kernel, by decide +kernel⟩⟩
set_option maxRecDepth 100000 in
theorem mv_L_123 : MV RL 123 yX9_unlock cX9_unlock 1 (some .int) 0 := ⟨(ALLW_c7 179 rfl rfl), (ALLW_c7 180 rfl rfl), (ALLW_c7 181 rfl rfl), (ALLW_c1 9 rfl rfl), k_X9_unlock, ⟨by decide +kernel, by decide +kernel, by decide +kernel⟩⟩
set_option maxRecDepth 100000 in
theorem mv_L_127 : MV RL 127 yX9_tell cX9_tell 3 (some .int) 1 := ⟨(ALLW_c7 183 rfl rfl), (ALLW_c7 184 rfl rfl), (ALLW_c7 185 rfl rfl), (ALLW_c1 9 rfl rfl), k_X9_tell, ⟨by decide +kernel, by decide +kernel, by decide +kernel⟩⟩
set_option maxRecDepth 100000 in
theorem mv_X9_435 : MV RX9 435 yX9_tookTold cX9_tookTold 3 (some .int) 0 := ⟨(ALLW_c7 187 rfl rfl), (ALLW_c7 189 rfl rfl), (ALLW_s 98 (by decide +kernel) (by decide +kernel)), (ALLW_c1 9 rfl rfl), k_X9_tookTold, ⟨by decide +kernel, by decide +kernel, by decide +kernel⟩⟩
set_option maxRecDepth 100000 in
theorem mv_X9_438 : MV RX9 438 yX9_tell0 cX9_tell0 3 (some .int) 2 := ⟨(ALLW_c7 191 rfl rfl), (ALLW_c7 193 rfl rfl), (ALLW_s 99 (by decide +kernel) (by decide +kernel)), (ALLW_c1 9 rfl rfl), k_X9_tell0, ⟨by decide +kernel, by decide +kernel, by decide +kernel⟩⟩
set_option maxRecDepth 100000 in
theorem mv_X9_303 : MV RX9 303 yX9_remembersPair cX9_remembersPair 4 none 2 := ⟨(ALLW_c7 195 rfl rfl), (ALLW_c7 197 rfl rfl), (ALLW_s 100 (by decide +kernel) (by decide +kernel)), (ALLW_c1 9 rfl rfl), k_X9_remembersPair, ⟨by decide +kernel, by decide +kernel, by decide +kernel⟩⟩
set_option maxRecDepth 100000 in
theorem mv_L_130 : MV RL 130 yX9_free cX9_free 2 (some .int) 1 := ⟨(ALLW_c7 199 rfl rfl), (ALLW_c7 200 rfl rfl), (ALLW_c7 201 rfl rfl), (ALLW_c1 9 rfl rfl), k_X9_free, ⟨by decide +kernel, by decide +kernel, by decide +kernel⟩⟩
set_option maxRecDepth 100000 in
theorem mv_L_133 : MV RL 133 yX9_spread cX9_spread 2 (some .int) 1 := ⟨(ALLW_c7 203 rfl rfl), (ALLW_c7 204 rfl rfl), (ALLW_c7 205 rfl rfl), (ALLW_c1 9 rfl rfl), k_X9_spread, ⟨by decide +kernel, by decide +kernel, by decide +kernel⟩⟩
set_option maxRecDepth 100000 in
theorem mv_L_136 : MV RL 136 yX9_swap cX9_swap 3 (some .int) 2 := ⟨(ALLW_c7 207 rfl rfl), (ALLW_c7 208 rfl rfl), (ALLW_c7 209 rfl rfl), (ALLW_c1 9 rfl rfl), k_X9_swap, ⟨by decide +kernel, by decide +kernel, by decide +kernel⟩⟩
set_option maxRecDepth 100000 in
theorem mv_L_139 : MV RL 139 yX9_wipe cX9_wipe 2 (some .int) 0 := ⟨(ALLW_c7 211 rfl rfl), (ALLW_c7 212 rfl rfl), (ALLW_c7 213 rfl rfl), (ALLW_c1 9 rfl rfl), k_X9_wipe, ⟨by decide +kernel, by decide +kernel, by decide +kernel⟩⟩
set_option maxRecDepth 100000 in
theorem mv_L_142 : MV RL 142 yX9_undo cX9_undo 2 (some .int) 0 := ⟨(ALLW_c7 215 rfl rfl), (ALLW_c7 216 rfl rfl), (ALLW_c7 217 rfl rfl), (ALLW_c1 9 rfl rfl), k_X9_undo, ⟨by decide +kernel, by decide +kernel, by decide +kernel⟩⟩
set_option maxRecDepth 100000 in
theorem mv_L_145 : MV RL 145 yX9_piece cX9_piece 3 (some .int) 2 := ⟨(ALLW_c7 219 rfl rfl), (ALLW_c7 220 rfl rfl), (ALLW_c7 221 rfl rfl), (ALLW_c1 9 rfl rfl), k_X9_piece, ⟨by decide +kernel, by decide +kernel, by decide +kernel⟩⟩
set_option maxRecDepth 100000 in
theorem mv_X9_444 : MV RX9 444 yX9_likeMany cX9_likeMany 4 (some .int) 1 := ⟨(ALLW_c7 223 rfl rfl), (ALLW_c7 225 rfl rfl), (ALLW_s 101 (by decide +kernel) (by decide +kernel)), (ALLW_c1 9 rfl rfl), k_X9_likeMany, ⟨by decide +kernel, by decide +kernel, by decide +kernel⟩⟩
set_option maxRecDepth 100000 in
theorem mv_X9_447 : MV RX9 447 yX9_wordsOf cX9_wordsOf 4 (some .int) 1 := ⟨(ALLW_c7 227 rfl rfl), (ALLW_c7 229 rfl rfl), (ALLW_s 102 (by decide +kernel) (by decide +kernel)), (ALLW_c1 9 rfl rfl), k_X9_wordsOf, ⟨by decide +kernel, by decide +kernel, by decide +kernel⟩⟩
set_option maxRecDepth 100000 in
theorem mv_X9_450 : MV RX9 450 yX9_knownOf cX9_knownOf 6 (some .int) 1 := ⟨(ALLW_c7 231 rfl rfl), (ALLW_c7 233 rfl rfl), (ALLW_s 103 (by decide +kernel) (by decide +kernel)), (ALLW_c1 9 rfl rfl), k_X9_knownOf, ⟨by decide +kernel, by decide +kernel, by decide +kernel⟩⟩
set_option maxRecDepth 100000 in
theorem mv_X9_453 : MV RX9 453 yX9_builtBegin cX9_builtBegin 3 (some .int) 1 := ⟨(ALLW_c7 235 rfl rfl), (ALLW_c7 237 rfl rfl), (ALLW_s 104 (by decide +kernel) (by decide +kernel)), (ALLW_c1 9 rfl rfl), k_X9_builtBegin, ⟨by decide +kernel, by decide +kernel, by decide +kernel⟩⟩
set_option maxRecDepth 100000 in
theorem mv_X9_441 : MV RX9 441 yX9_builds cX9_builds 6 (some .int) 0 := ⟨(ALLW_c7 239 rfl rfl), (ALLW_c8 1 rfl rfl), (ALLW_s 105 (by decide +kernel) (by decide +kernel)), (ALLW_c1 9 rfl rfl), k_X9_builds, ⟨by decide +kernel, by decide +kernel, by decide +kernel⟩⟩
set_option maxRecDepth 100000 in
theorem mv_L_149 : MV RL 149 yX9_octet cX9_octet 4 (some .int) 3 := ⟨(ALLW_c8 3 rfl rfl), (ALLW_c8 4 rfl rfl), (ALLW_c8 5 rfl rfl), (ALLW_c1 9 rfl rfl), k_X9_octet, ⟨by decide +kernel, by decide +kernel, by decide +kernel⟩⟩
set_option maxRecDepth 100000 in
theorem mv_L_152 : MV RL 152 yX9_origin cX9_origin 3 (some .int) 2 := ⟨(ALLW_c8 7 rfl rfl), (ALLW_c8 8 rfl rfl), (ALLW_c8 9 rfl rfl), (ALLW_c1 9 rfl rfl), k_X9_origin, ⟨by decide +kernel, by decide +kernel, by decide +kernel⟩⟩
set_option maxRecDepth 100000 in
theorem mv_L_155 : MV RL 155 yX9_key cX9_key 3 (some .int) 2 := ⟨(ALLW_c8 11 rfl rfl), (ALLW_c8 12 rfl rfl), (ALLW_c8 13 rfl rfl), (ALLW_c1 9 rfl rfl), k_X9_key, ⟨by decide +kernel, by decide +kernel, by decide +kernel⟩⟩
set_option maxRecDepth 100000 in
theorem mv_L_159 : MV RL 159 yX9_holder cX9_holder 3 (some .int) 1 := ⟨(ALLW_c8 15 rfl rfl), (ALLW_c8 16 rfl rfl), (ALLW_c8 17 rfl rfl), (ALLW_c1 9 rfl rfl), k_X9_holder, ⟨by decide +kernel, by decide +kernel, by decide +kernel⟩⟩
set_option maxRecDepth 100000 in
theorem mv_L_163 : MV RL 163 yX9_at cX9_at 4 (some .int) 2 := ⟨(ALLW_c8 19 rfl rfl), (ALLW_c8 20 rfl rfl), (ALLW_c8 21 rfl rfl), (ALLW_c1 9 rfl rfl), k_X9_at, ⟨by decide +kernel, by decide +kernel, by decide +kernel⟩⟩
set_option maxRecDepth 100000 in
theorem mv_L_166 : MV RL 166 yX9_like cX9_like 5 (some .int) 2 := ⟨(ALLW_c8 23 rfl rfl), (ALLW_c8 24 rfl rfl), (ALLW_c8 25 rfl rfl), (ALLW_c1 9 rfl rfl), k_X9_like, ⟨by decide +kernel, by decide +kernel, by decide +kernel⟩⟩
set_option maxRecDepth 100000 in
theorem mv_L_169 : MV RL 169 yX9_would cX9_would 3 (some .int) 1 := ⟨(ALLW_c8 27 rfl rfl), (ALLW_c8 28 rfl rfl), (ALLW_c8 29 rfl rfl), (ALLW_c1 9 rfl rfl), k_X9_would, ⟨by decide +kernel, by decide +kernel, by decide +kernel⟩⟩
set_option maxRecDepth 100000 in
theorem mv_L_172 : MV RL 172 yX9_found cX9_found 5 (some .long) 0 := ⟨(ALLW_c8 31 rfl rfl), (ALLW_c8 32 rfl rfl), (ALLW_c8 33 rfl rfl), (ALLW_c1 9 rfl rfl), k_X9_found, ⟨by decide +kernel, by decide +kernel, by decide +kernel⟩⟩
set_option maxRecDepth 100000 in
theorem mv_X9_456 : MV RX9 456 yX9_hasWord cX9_hasWord 7 (some .boolean) 2 := ⟨(ALLW_c8 35 rfl rfl), (ALLW_c8 37 rfl rfl), (ALLW_s 106 (by decide +kernel) (by decide +kernel)), (ALLW_c1 9 rfl rfl), k_X9_hasWord, ⟨by decide +kernel, by decide +kernel, by decide +kernel⟩⟩
set_option maxRecDepth 100000 in
theorem mv_L_177 : MV RL 177 yX9_memory cX9_memory 5 (some .int) 3 := ⟨(ALLW_c8 39 rfl rfl), (ALLW_c8 40 rfl rfl), (ALLW_c8 41 rfl rfl), (ALLW_c1 9 rfl rfl), k_X9_memory, ⟨by decide +kernel, by decide +kernel, by decide +kernel⟩⟩
set_option maxRecDepth 100000 in
theorem mv_L_185 : MV RL 185 yX9_twice cX9_twice 3 (some .boolean) 0 := ⟨(ALLW_c8 43 rfl rfl), (ALLW_c8 44 rfl rfl), (ALLW_c8 45 rfl rfl), (ALLW_c1 9 rfl rfl), k_X9_twice, ⟨by decide +kernel, by decide +kernel, by decide +kernel⟩⟩
set_option maxRecDepth 100000 in
theorem mv_X9_462 : MV RX9 462 yX9_cutsBuilt cX9_cutsBuilt 6 none 0 := ⟨(ALLW_c8 47 rfl rfl), (ALLW_c8 49 rfl rfl), (ALLW_s 107 (by decide +kernel) (by decide +kernel)), (ALLW_c1 9 rfl rfl), k_X9_cutsBuilt, ⟨by decide +kernel, by decide +kernel, by decide +kernel⟩⟩
set_option maxRecDepth 100000 in
theorem mv_X9_465 : MV RX9 465 yX9_isNow cX9_isNow 5 (some .boolean) 2 := ⟨(ALLW_c8 51 rfl rfl), (ALLW_c8 53 rfl rfl), (ALLW_s 108 (by decide +kernel) (by decide +kernel)), (ALLW_c1 9 rfl rfl), k_X9_isNow, ⟨by decide +kernel, by decide +kernel, by decide +kernel⟩⟩
set_option maxRecDepth 100000 in
theorem mv_L_180 : MV RL 180 yX9_kept cX9_kept 5 (some .boolean) 1 := ⟨(ALLW_c8 55 rfl rfl), (ALLW_c8 56 rfl rfl), (ALLW_c8 57 rfl rfl), (ALLW_c1 9 rfl rfl), k_X9_kept, ⟨by decide +kernel, by decide +kernel, by decide +kernel⟩⟩
set_option maxRecDepth 100000 in
theorem mv_L_189 : MV RL 189 yX9_image cX9_image 2 none 0 := ⟨(ALLW_c8 59 rfl rfl), (ALLW_c8 60 rfl rfl), (ALLW_c8 61 rfl rfl), (ALLW_c1 9 rfl rfl), k_X9_image, ⟨by decide +kernel, by decide +kernel, by decide +kernel⟩⟩
set_option maxRecDepth 100000 in
theorem mv_L_193 : MV RL 193 yX9_back cX9_back 2 (some .boolean) 0 := ⟨(ALLW_c8 63 rfl rfl), (ALLW_c8 64 rfl rfl), (ALLW_c8 65 rfl rfl), (ALLW_c1 9 rfl rfl), k_X9_back, ⟨by decide +kernel, by decide +kernel, by decide +kernel⟩⟩
set_option maxRecDepth 100000 in
theorem mv_L_197 : MV RL 197 yX9_count cX9_count 2 (some .int) 1 := ⟨(ALLW_c8 67 rfl rfl), (ALLW_c8 68 rfl rfl), (ALLW_c8 69 rfl rfl), (ALLW_c1 9 rfl rfl), k_X9_count, ⟨by decide +kernel, by decide +kernel, by decide +kernel⟩⟩
set_option maxRecDepth 100000 in
theorem mv_X9_472 : MV RX9 472 yX9_skeleton cX9_skeleton 3 (some .int) 0 := ⟨(ALLW_c8 71 rfl rfl), (ALLW_c8 73 rfl rfl), (ALLW_s 109 (by decide +kernel) (by decide +kernel)), (ALLW_c1 9 rfl rfl), k_X9_skeleton, ⟨by decide +kernel, by decide +kernel, by decide +kernel⟩⟩
set_option maxRecDepth 100000 in
theorem mv_X9_475 : MV RX9 475 yX9_unlikeTexts cX9_unlikeTexts 5 (some .int) 0 := ⟨(ALLW_c8 75 rfl rfl), (ALLW_c8 77 rfl rfl), (ALLW_s 110 (by decide +kernel) (by decide +kernel)), (ALLW_c1 9 rfl rfl), k_X9_unlikeTexts, ⟨by decide +kernel, by decide +kernel, by decide +kernel⟩⟩
set_option maxRecDepth 100000 in
theorem mv_X9_478 : MV RX9 478 yX9_allWords cX9_allWords 3 (some .int) 0 := ⟨(ALLW_c8 79 rfl rfl), (ALLW_c8 81 rfl rfl), (ALLW_s 111 (by decide +kernel) (by decide +kernel)), (ALLW_c1 9 rfl rfl), k_X9_allWords, ⟨by decide +kernel, by decide +kernel, by decide +kernel⟩⟩
set_option maxRecDepth 100000 in
theorem mv_X9_481 : MV RX9 481 yX9_longest cX9_longest 3 (some .int) 0 := ⟨(ALLW_c8 83 rfl rfl), (ALLW_c8 85 rfl rfl), (ALLW_s 112 (by decide +kernel) (by decide +kernel)), (ALLW_c1 9 rfl rfl), k_X9_longest, ⟨by decide +kernel, by decide +kernel, by decide +kernel⟩⟩
set_option maxRecDepth 100000 in
theorem mn_X1_45 : MN RX1 45 yX3_init cX3_init 1 none 0 := ⟨by decide +kernel, (ALLW_c1 6 rfl rfl), k_X3_init, ⟨by decide +kernel, by decide +kernel, by decide +kernel⟩⟩
set_option maxRecDepth 100000 in
theorem mnI_X1_45 : Cond.instanceMethod yX3_init ∈ ALLW := (ALLW_c1 162 rfl rfl)
set_option maxRecDepth 100000 in
theorem mn_X5_34 : MN RX5 34 yX8_isLetter cX8_isLetter 1 (some .boolean) 1 := ⟨by decide +kernel, (ALLW_c1 1 rfl rfl), k_X8_isLetter, ⟨by decide +kernel, by decide +kernel, by decide +kernel⟩⟩
set_option maxRecDepth 100000 in
theorem mnS_X5_34 : Cond.static yX8_isLetter ∈ ALLW := (ALLW_c3 22 rfl rfl)
set_option maxRecDepth 100000 in
theorem mn_X5_44 : MN RX5 44 yX8_smallLetter cX8_smallLetter 1 (some .int) 1 := ⟨by decide +kernel, (ALLW_c1 1 rfl rfl), k_X8_smallLetter, ⟨by decide +kernel, by decide +kernel, by decide +kernel⟩⟩
set_option maxRecDepth 100000 in
theorem mnS_X5_44 : Cond.static yX8_smallLetter ∈ ALLW := (ALLW_c5 164 rfl rfl)
set_option maxRecDepth 100000 in
theorem th_eA : TH 116 120 eA := ⟨cl_X8_116, (ALLW_c1 19 rfl rfl), by decide +kernel, by decide +kernel, by decide +kernel, by decide +kernel⟩
set_option maxRecDepth 100000 in
theorem th_eS : TH 170 174 eS := ⟨cl_X8_170, (ALLW_c1 20 rfl rfl), by decide +kernel, by decide +kernel, by decide +kernel, by decide +kernel⟩
set_option maxRecDepth 100000 in
theorem th_eI : TH 321 325 eI := ⟨cl_X8_321, (ALLW_c1 22 rfl rfl), by decide +kernel, by decide +kernel, by decide +kernel, by decide +kernel⟩
