set_option maxRecDepth 100000 in
theorem mi_L_78 : MI RL 78 yX8_init cX8_init 2 0 := ⟨(ALLW_c1 25 rfl rfl), (ALLW_c1 26 rfl rfl), (ALLW_c1 1 rfl rfl), k_X8_init, rfl, ⟨by decide +kernel, by decide +kernel, by decide +kernel⟩⟩
set_option maxRecDepth 100000 in
theorem oi_X8_1 : Cond.methodLink RX8 1 Lib.objectInit ∈ ALLW := (ALLW_c1 28 rfl rfl)
set_option maxRecDepth 100000 in
theorem mi_X8_11 : MI RX8 11 yX5_init cX5_init 2 1 := ⟨(ALLW_c1 33 rfl rfl), (ALLW_c1 34 rfl rfl), (ALLW_c1 2 rfl rfl), k_X5_init, rfl, ⟨by decide +kernel, by decide +kernel, by decide +kernel⟩⟩
set_option maxRecDepth 100000 in
theorem oi_X5_3 : Cond.methodLink RX5 3 Lib.objectInit ∈ ALLW := (ALLW_c1 36 rfl rfl)
set_option maxRecDepth 100000 in
theorem mi_X8_20 : MI RX8 20 yX7_init cX7_init 1 0 := ⟨(ALLW_c1 47 rfl rfl), (ALLW_c1 48 rfl rfl), (ALLW_c1 3 rfl rfl), k_X7_init, rfl, ⟨by decide +kernel, by decide +kernel, by decide +kernel⟩⟩
set_option maxRecDepth 100000 in
theorem oi_X7_3 : Cond.methodLink RX7 3 Lib.objectInit ∈ ALLW := (ALLW_c1 50 rfl rfl)
set_option maxRecDepth 100000 in
theorem mi_X7_11 : MI RX7 11 yX5_init cX5_init 2 1 := ⟨(ALLW_c1 52 rfl rfl), (ALLW_c1 34 rfl rfl), (ALLW_c1 2 rfl rfl), k_X5_init, rfl, ⟨by decide +kernel, by decide +kernel, by decide +kernel⟩⟩
set_option maxRecDepth 100000 in
theorem mi_X8_37 : MI RX8 37 yX1_init cX1_init 2 0 := ⟨(ALLW_c1 103 rfl rfl), (ALLW_c1 104 rfl rfl), (ALLW_c1 4 rfl rfl), k_X1_init, rfl, ⟨by decide +kernel, by decide +kernel, by decide +kernel⟩⟩
set_option maxRecDepth 100000 in
theorem oi_X1_3 : Cond.methodLink RX1 3 Lib.objectInit ∈ ALLW := (ALLW_c1 106 rfl rfl)
set_option maxRecDepth 100000 in
theorem mi_X1_11 : MI RX1 11 yX5_init cX5_init 2 1 := ⟨(ALLW_c1 108 rfl rfl), (ALLW_c1 34 rfl rfl), (ALLW_c1 2 rfl rfl), k_X5_init, rfl, ⟨by decide +kernel, by decide +kernel, by decide +kernel⟩⟩
set_option maxRecDepth 100000 in
theorem mi_X1_31 : MI RX1 31 yX6_init cX6_init 1 0 := ⟨(ALLW_c1 111 rfl rfl), (ALLW_c1 112 rfl rfl), (ALLW_c1 5 rfl rfl), k_X6_init, rfl, ⟨by decide +kernel, by decide +kernel, by decide +kernel⟩⟩
set_option maxRecDepth 100000 in
theorem oi_X6_3 : Cond.methodLink RX6 3 Lib.objectInit ∈ ALLW := (ALLW_c1 114 rfl rfl)
set_option maxRecDepth 100000 in
theorem mi_X6_11 : MI RX6 11 yX5_init cX5_init 2 1 := ⟨(ALLW_c1 116 rfl rfl), (ALLW_c1 34 rfl rfl), (ALLW_c1 2 rfl rfl), k_X5_init, rfl, ⟨by decide +kernel, by decide +kernel, by decide +kernel⟩⟩
set_option maxRecDepth 100000 in
theorem oi_X3_1 : Cond.methodLink RX3 1 Lib.objectInit ∈ ALLW := (ALLW_c1 164 rfl rfl)
set_option maxRecDepth 100000 in
theorem mi_X8_47 : MI RX8 47 yX0_init cX0_init 1 0 := ⟨(ALLW_c2 6 rfl rfl), (ALLW_c2 7 rfl rfl), (ALLW_c1 7 rfl rfl), k_X0_init, rfl, ⟨by decide +kernel, by decide +kernel, by decide +kernel⟩⟩
set_option maxRecDepth 100000 in
theorem oi_X0_3 : Cond.methodLink RX0 3 Lib.objectInit ∈ ALLW := (ALLW_c2 9 rfl rfl)
set_option maxRecDepth 100000 in
theorem mi_X0_11 : MI RX0 11 yX5_init cX5_init 2 1 := ⟨(ALLW_c2 11 rfl rfl), (ALLW_c1 34 rfl rfl), (ALLW_c1 2 rfl rfl), k_X5_init, rfl, ⟨by decide +kernel, by decide +kernel, by decide +kernel⟩⟩
set_option maxRecDepth 100000 in
theorem mi_X8_54 : MI RX8 54 yX4_init cX4_init 1 0 := ⟨(ALLW_c2 29 rfl rfl), (ALLW_c2 30 rfl rfl), (ALLW_c1 8 rfl rfl), k_X4_init, rfl, ⟨by decide +kernel, by decide +kernel, by decide +kernel⟩⟩
set_option maxRecDepth 100000 in
theorem oi_X4_3 : Cond.methodLink RX4 3 Lib.objectInit ∈ ALLW := (ALLW_c2 32 rfl rfl)
set_option maxRecDepth 100000 in
theorem mi_X4_11 : MI RX4 11 yX5_init cX5_init 2 1 := ⟨(ALLW_c2 34 rfl rfl), (ALLW_c1 34 rfl rfl), (ALLW_c1 2 rfl rfl), k_X5_init, rfl, ⟨by decide +kernel, by decide +kernel, by decide +kernel⟩⟩
set_option maxRecDepth 100000 in
theorem mv_L_82 : MV RL 82 yX8_feed cX8_feed 6 (some .int) 5 := ⟨(ALLW_c2 109 rfl rfl), (ALLW_c2 110 rfl rfl), (ALLW_c2 111 rfl rfl), (ALLW_c1 1 rfl rfl), k_X8_feed, ⟨by decide +kernel, by decide +kernel, by decide +kernel⟩⟩
set_option maxRecDepth 100000 in
theorem mv_X8_63 : MV RX8 63 yX5_size cX5_size 1 (some .int) 0 := ⟨(ALLW_c2 113 rfl rfl), (ALLW_c2 114 rfl rfl), (ALLW_c2 115 rfl rfl), (ALLW_c1 2 rfl rfl), k_X5_size, ⟨by decide +kernel, by decide +kernel, by decide +kernel⟩⟩
set_option maxRecDepth 100000 in
theorem mv_X8_67 : MV RX8 67 yX8_addFour cX8_addFour 3 none 1 := ⟨(ALLW_c2 117 rfl rfl), (ALLW_c2 119 rfl rfl), (ALLW_s 0 (by decide +kernel) (by decide +kernel)), (ALLW_c1 1 rfl rfl), k_X8_addFour, ⟨by decide +kernel, by decide +kernel, by decide +kernel⟩⟩
set_option maxRecDepth 100000 in
theorem mv_X8_314 : MV RX8 314 yX5_add cX5_add 2 (some .boolean) 1 := ⟨(ALLW_c2 121 rfl rfl), (ALLW_c2 122 rfl rfl), (ALLW_c2 123 rfl rfl), (ALLW_c1 2 rfl rfl), k_X5_add, ⟨by decide +kernel, by decide +kernel, by decide +kernel⟩⟩
set_option maxRecDepth 100000 in
theorem mv_L_87 : MV RL 87 yX8_end cX8_end 2 (some .boolean) 1 := ⟨(ALLW_c2 125 rfl rfl), (ALLW_c2 126 rfl rfl), (ALLW_c2 127 rfl rfl), (ALLW_c1 1 rfl rfl), k_X8_end, ⟨by decide +kernel, by decide +kernel, by decide +kernel⟩⟩
set_option maxRecDepth 100000 in
theorem mv_X8_70 : MV RX8 70 yX5_cutTo cX5_cutTo 2 none 1 := ⟨(ALLW_c2 129 rfl rfl), (ALLW_c2 130 rfl rfl), (ALLW_c2 131 rfl rfl), (ALLW_c1 2 rfl rfl), k_X5_cutTo, ⟨by decide +kernel, by decide +kernel, by decide +kernel⟩⟩
set_option maxRecDepth 100000 in
theorem mv_L_97 : MV RL 97 yX8_fault cX8_fault 1 (some .int) 0 := ⟨(ALLW_c2 133 rfl rfl), (ALLW_c2 134 rfl rfl), (ALLW_c2 135 rfl rfl), (ALLW_c1 1 rfl rfl), k_X8_fault, ⟨by decide +kernel, by decide +kernel, by decide +kernel⟩⟩
set_option maxRecDepth 100000 in
theorem mv_L_101 : MV RL 101 yX8_why cX8_why 1 (some .int) 0 := ⟨(ALLW_c2 137 rfl rfl), (ALLW_c2 138 rfl rfl), (ALLW_c2 139 rfl rfl), (ALLW_c1 1 rfl rfl), k_X8_why, ⟨by decide +kernel, by decide +kernel, by decide +kernel⟩⟩
set_option maxRecDepth 100000 in
theorem mv_L_105 : MV RL 105 yX8_file cX8_file 1 (some .int) 0 := ⟨(ALLW_c2 141 rfl rfl), (ALLW_c2 142 rfl rfl), (ALLW_c2 143 rfl rfl), (ALLW_c1 1 rfl rfl), k_X8_file, ⟨by decide +kernel, by decide +kernel, by decide +kernel⟩⟩
set_option maxRecDepth 100000 in
theorem mv_X8_126 : MV RX8 126 yX5_part cX5_part 4 (some (.object "PieceFiles$Row")) 2 := ⟨(ALLW_c2 145 rfl rfl), (ALLW_c2 146 rfl rfl), (ALLW_c2 147 rfl rfl), (ALLW_c1 2 rfl rfl), k_X5_part, ⟨by decide +kernel, by decide +kernel, by decide +kernel⟩⟩
set_option maxRecDepth 100000 in
theorem mi_X5_27 : MI RX5 27 yX5_init cX5_init 2 1 := ⟨(ALLW_c2 150 rfl rfl), (ALLW_c1 34 rfl rfl), (ALLW_c1 2 rfl rfl), k_X5_init, rfl, ⟨by decide +kernel, by decide +kernel, by decide +kernel⟩⟩
set_option maxRecDepth 100000 in
theorem mv_X5_30 : MV RX5 30 yX5_addPart cX5_addPart 6 (some .boolean) 3 := ⟨(ALLW_c2 151 rfl rfl), (ALLW_c2 152 rfl rfl), (ALLW_c2 153 rfl rfl), (ALLW_c1 2 rfl rfl), k_X5_addPart, ⟨by decide +kernel, by decide +kernel, by decide +kernel⟩⟩
set_option maxRecDepth 100000 in
theorem mv_X5_19 : MV RX5 19 yX5_get cX5_get 2 (some .int) 1 := ⟨(ALLW_c2 155 rfl rfl), (ALLW_c2 156 rfl rfl), (ALLW_c2 157 rfl rfl), (ALLW_c1 2 rfl rfl), k_X5_get, ⟨by decide +kernel, by decide +kernel, by decide +kernel⟩⟩
set_option maxRecDepth 100000 in
theorem mv_X5_23 : MV RX5 23 yX5_add cX5_add 2 (some .boolean) 1 := ⟨(ALLW_c2 159 rfl rfl), (ALLW_c2 122 rfl rfl), (ALLW_c2 123 rfl rfl), (ALLW_c1 2 rfl rfl), k_X5_add, ⟨by decide +kernel, by decide +kernel, by decide +kernel⟩⟩
set_option maxRecDepth 100000 in
theorem mv_X8_133 : MV RX8 133 yX8_cutAnew cX8_cutAnew 1 (some .int) 0 := ⟨(ALLW_c2 160 rfl rfl), (ALLW_c2 162 rfl rfl), (ALLW_s 1 (by decide +kernel) (by decide +kernel)), (ALLW_c1 1 rfl rfl), k_X8_cutAnew, ⟨by decide +kernel, by decide +kernel, by decide +kernel⟩⟩
set_option maxRecDepth 100000 in
theorem mv_X8_358 : MV RX8 358 yX7_forgetTold cX7_forgetTold 2 none 0 := ⟨(ALLW_c2 164 rfl rfl), (ALLW_c2 165 rfl rfl), (ALLW_c2 166 rfl rfl), (ALLW_c1 3 rfl rfl), k_X7_forgetTold, ⟨by decide +kernel, by decide +kernel, by decide +kernel⟩⟩
set_option maxRecDepth 100000 in
theorem mv_X8_361 : MV RX8 361 yX1_find cX1_find 5 none 2 := ⟨(ALLW_c2 168 rfl rfl), (ALLW_c2 169 rfl rfl), (ALLW_c2 170 rfl rfl), (ALLW_c1 4 rfl rfl), k_X1_find, ⟨by decide +kernel, by decide +kernel, by decide +kernel⟩⟩
set_option maxRecDepth 100000 in
theorem mv_X1_50 : MV RX1 50 yX5_cutTo cX5_cutTo 2 none 1 := ⟨(ALLW_c2 172 rfl rfl), (ALLW_c2 130 rfl rfl), (ALLW_c2 131 rfl rfl), (ALLW_c1 2 rfl rfl), k_X5_cutTo, ⟨by decide +kernel, by decide +kernel, by decide +kernel⟩⟩
set_option maxRecDepth 100000 in
theorem mv_X1_58 : MV RX1 58 yX6_start cX6_start 3 none 2 := ⟨(ALLW_c2 173 rfl rfl), (ALLW_c2 174 rfl rfl), (ALLW_c2 175 rfl rfl), (ALLW_c1 5 rfl rfl), k_X6_start, ⟨by decide +kernel, by decide +kernel, by decide +kernel⟩⟩
set_option maxRecDepth 100000 in
theorem mv_X1_62 : MV RX1 62 yX6_next cX6_next 2 (some .boolean) 0 := ⟨(ALLW_c2 177 rfl rfl), (ALLW_c2 178 rfl rfl), (ALLW_c2 179 rfl rfl), (ALLW_c1 5 rfl rfl), k_X6_next, ⟨by decide +kernel, by decide +kernel, by decide +kernel⟩⟩
set_option maxRecDepth 100000 in
theorem mv_X6_37 : MV RX6 37 yX5_size cX5_size 1 (some .int) 0 := ⟨(ALLW_c2 181 rfl rfl), (ALLW_c2 114 rfl rfl), (ALLW_c2 115 rfl rfl), (ALLW_c1 2 rfl rfl), k_X5_size, ⟨by decide +kernel, by decide +kernel, by decide +kernel⟩⟩
set_option maxRecDepth 100000 in
theorem mv_X6_41 : MV RX6 41 yX6_tryLine cX6_tryLine 5 none 0 := ⟨(ALLW_c2 182 rfl rfl), (ALLW_c2 184 rfl rfl), (ALLW_s 2 (by decide +kernel) (by decide +kernel)), (ALLW_c1 5 rfl rfl), k_X6_tryLine, ⟨by decide +kernel, by decide +kernel, by decide +kernel⟩⟩
set_option maxRecDepth 100000 in
theorem mv_X6_59 : MV RX6 59 yX5_next cX5_next 5 (some .int) 3 := ⟨(ALLW_c2 186 rfl rfl), (ALLW_c2 187 rfl rfl), (ALLW_c2 188 rfl rfl), (ALLW_c1 2 rfl rfl), k_X5_next, ⟨by decide +kernel, by decide +kernel, by decide +kernel⟩⟩
set_option maxRecDepth 100000 in
theorem mv_X6_63 : MV RX6 63 yX5_behindBlanks cX5_behindBlanks 4 (some .int) 2 := ⟨(ALLW_c2 190 rfl rfl), (ALLW_c2 191 rfl rfl), (ALLW_c2 192 rfl rfl), (ALLW_c1 2 rfl rfl), k_X5_behindBlanks, ⟨by decide +kernel, by decide +kernel, by decide +kernel⟩⟩
set_option maxRecDepth 100000 in
theorem mv_X6_67 : MV RX6 67 yX5_get cX5_get 2 (some .int) 1 := ⟨(ALLW_c2 194 rfl rfl), (ALLW_c2 156 rfl rfl), (ALLW_c2 157 rfl rfl), (ALLW_c1 2 rfl rfl), k_X5_get, ⟨by decide +kernel, by decide +kernel, by decide +kernel⟩⟩
set_option maxRecDepth 100000 in
theorem mv_X6_44 : MV RX6 44 yX6_tryCell cX6_tryCell 1 none 0 := ⟨(ALLW_c2 195 rfl rfl), (ALLW_c2 197 rfl rfl), (ALLW_s 3 (by decide +kernel) (by decide +kernel)), (ALLW_c1 5 rfl rfl), k_X6_tryCell, ⟨by decide +kernel, by decide +kernel, by decide +kernel⟩⟩
set_option maxRecDepth 100000 in
theorem mv_X6_71 : MV RX6 71 yX5_cellQuoteEnd cX5_cellQuoteEnd 4 (some .int) 1 := ⟨(ALLW_c2 199 rfl rfl), (ALLW_c2 200 rfl rfl), (ALLW_c2 201 rfl rfl), (ALLW_c1 2 rfl rfl), k_X5_cellQuoteEnd, ⟨by decide +kernel, by decide +kernel, by decide +kernel⟩⟩
set_option maxRecDepth 100000 in
theorem mv_X6_74 : MV RX6 74 yX5_cellEnd cX5_cellEnd 3 (some .int) 1 := ⟨(ALLW_c2 203 rfl rfl), (ALLW_c2 204 rfl rfl), (ALLW_c2 205 rfl rfl), (ALLW_c1 2 rfl rfl), k_X5_cellEnd, ⟨by decide +kernel, by decide +kernel, by decide +kernel⟩⟩
set_option maxRecDepth 100000 in
theorem mv_X6_47 : MV RX6 47 yX6_tryMarkup cX6_tryMarkup 3 none 0 := ⟨(ALLW_c2 207 rfl rfl), (ALLW_c2 209 rfl rfl), (ALLW_s 4 (by decide +kernel) (by decide +kernel)), (ALLW_c1 5 rfl rfl), k_X6_tryMarkup, ⟨by decide +kernel, by decide +kernel, by decide +kernel⟩⟩
set_option maxRecDepth 100000 in
theorem mv_X6_77 : MV RX6 77 yX5_behindSpace cX5_behindSpace 4 (some .int) 2 := ⟨(ALLW_c2 211 rfl rfl), (ALLW_c2 212 rfl rfl), (ALLW_c2 213 rfl rfl), (ALLW_c1 2 rfl rfl), k_X5_behindSpace, ⟨by decide +kernel, by decide +kernel, by decide +kernel⟩⟩
set_option maxRecDepth 100000 in
theorem mv_X6_50 : MV RX6 50 yX6_tryQuotes cX6_tryQuotes 1 none 0 := ⟨(ALLW_c2 215 rfl rfl), (ALLW_c2 217 rfl rfl), (ALLW_s 5 (by decide +kernel) (by decide +kernel)), (ALLW_c1 5 rfl rfl), k_X6_tryQuotes, ⟨by decide +kernel, by decide +kernel, by decide +kernel⟩⟩
set_option maxRecDepth 100000 in
theorem mv_X6_80 : MV RX6 80 yX5_quoteEnd cX5_quoteEnd 4 (some .int) 1 := ⟨(ALLW_c2 219 rfl rfl), (ALLW_c2 220 rfl rfl), (ALLW_c2 221 rfl rfl), (ALLW_c1 2 rfl rfl), k_X5_quoteEnd, ⟨by decide +kernel, by decide +kernel, by decide +kernel⟩⟩
set_option maxRecDepth 100000 in
theorem mv_X1_66 : MV RX1 66 yX7_isLocked cX7_isLocked 4 (some .boolean) 1 := ⟨(ALLW_c2 223 rfl rfl), (ALLW_c2 224 rfl rfl), (ALLW_c2 225 rfl rfl), (ALLW_c1 3 rfl rfl), k_X7_isLocked, ⟨by decide +kernel, by decide +kernel, by decide +kernel⟩⟩
set_option maxRecDepth 100000 in
theorem mv_X7_62 : MV RX7 62 yX5_size cX5_size 1 (some .int) 0 := ⟨(ALLW_c2 227 rfl rfl), (ALLW_c2 114 rfl rfl), (ALLW_c2 115 rfl rfl), (ALLW_c1 2 rfl rfl), k_X5_size, ⟨by decide +kernel, by decide +kernel, by decide +kernel⟩⟩
set_option maxRecDepth 100000 in
theorem mv_X7_66 : MV RX7 66 yX5_isSame cX5_isSame 6 (some .boolean) 4 := ⟨(ALLW_c2 228 rfl rfl), (ALLW_c2 229 rfl rfl), (ALLW_c2 230 rfl rfl), (ALLW_c1 2 rfl rfl), k_X5_isSame, ⟨by decide +kernel, by decide +kernel, by decide +kernel⟩⟩
set_option maxRecDepth 100000 in
theorem mv_X1_73 : MV RX1 73 yX5_size cX5_size 1 (some .int) 0 := ⟨(ALLW_c2 232 rfl rfl), (ALLW_c2 114 rfl rfl), (ALLW_c2 115 rfl rfl), (ALLW_c1 2 rfl rfl), k_X5_size, ⟨by decide +kernel, by decide +kernel, by decide +kernel⟩⟩
set_option maxRecDepth 100000 in
theorem mv_X1_77 : MV RX1 77 yX1_readOuter cX1_readOuter 4 none 2 := ⟨(ALLW_c2 233 rfl rfl), (ALLW_c2 235 rfl rfl), (ALLW_s 6 (by decide +kernel) (by decide +kernel)), (ALLW_c1 4 rfl rfl), k_X1_readOuter, ⟨by decide +kernel, by decide +kernel, by decide +kernel⟩⟩
set_option maxRecDepth 100000 in
theorem mv_X1_95 : MV RX1 95 yX6_read cX6_read 2 none 1 := ⟨(ALLW_c2 237 rfl rfl), (ALLW_c2 238 rfl rfl), (ALLW_c2 239 rfl rfl), (ALLW_c1 5 rfl rfl), k_X6_read, ⟨by decide +kernel, by decide +kernel, by decide +kernel⟩⟩
set_option maxRecDepth 100000 in
theorem mv_X6_89 : MV RX6 89 yX6_readMarkup cX6_readMarkup 3 none 1 := ⟨(ALLW_c3 1 rfl rfl), (ALLW_c3 3 rfl rfl), (ALLW_s 7 (by decide +kernel) (by decide +kernel)), (ALLW_c1 5 rfl rfl), k_X6_readMarkup, ⟨by decide +kernel, by decide +kernel, by decide +kernel⟩⟩
set_option maxRecDepth 100000 in
theorem mv_X6_92 : MV RX6 92 yX6_readBack cX6_readBack 3 none 1 := ⟨(ALLW_c3 5 rfl rfl), (ALLW_c3 7 rfl rfl), (ALLW_s 8 (by decide +kernel) (by decide +kernel)), (ALLW_c1 5 rfl rfl), k_X6_readBack, ⟨by decide +kernel, by decide +kernel, by decide +kernel⟩⟩
set_option maxRecDepth 100000 in
theorem mv_X1_101 : MV RX1 101 yX5_add cX5_add 2 (some .boolean) 1 := ⟨(ALLW_c3 9 rfl rfl), (ALLW_c2 122 rfl rfl), (ALLW_c2 123 rfl rfl), (ALLW_c1 2 rfl rfl), k_X5_add, ⟨by decide +kernel, by decide +kernel, by decide +kernel⟩⟩
set_option maxRecDepth 100000 in
theorem ms_X1_108 : MS RX1 108 yJ9_max_7cf53 cJ9_max_7cf53 2 (some .int) 2 := ⟨(ALLW_c3 10 rfl rfl), (ALLW_c3 11 rfl rfl), (ALLW_c1 14 rfl rfl), k_J9_max_7cf53, ⟨by decide +kernel, by decide +kernel, by decide +kernel⟩⟩
set_option maxRecDepth 100000 in
theorem mv_X1_87 : MV RX1 87 yX1_settle cX1_settle 7 none 4 := ⟨(ALLW_c3 13 rfl rfl), (ALLW_c3 15 rfl rfl), (ALLW_s 9 (by decide +kernel) (by decide +kernel)), (ALLW_c1 4 rfl rfl), k_X1_settle, ⟨by decide +kernel, by decide +kernel, by decide +kernel⟩⟩
set_option maxRecDepth 100000 in
theorem mv_X1_125 : MV RX1 125 yX5_hasLetter cX5_hasLetter 3 (some .boolean) 1 := ⟨(ALLW_c3 17 rfl rfl), (ALLW_c3 18 rfl rfl), (ALLW_c3 19 rfl rfl), (ALLW_c1 2 rfl rfl), k_X5_hasLetter, ⟨by decide +kernel, by decide +kernel, by decide +kernel⟩⟩
set_option maxRecDepth 100000 in
theorem mv_X1_91 : MV RX1 91 yX1_takeWithin cX1_takeWithin 5 none 1 := ⟨(ALLW_c3 24 rfl rfl), (ALLW_c3 26 rfl rfl), (ALLW_s 10 (by decide +kernel) (by decide +kernel)), (ALLW_c1 4 rfl rfl), k_X1_takeWithin, ⟨by decide +kernel, by decide +kernel, by decide +kernel⟩⟩
set_option maxRecDepth 100000 in
theorem mv_X1_114 : MV RX1 114 yX5_get cX5_get 2 (some .int) 1 := ⟨(ALLW_c3 28 rfl rfl), (ALLW_c2 156 rfl rfl), (ALLW_c2 157 rfl rfl), (ALLW_c1 2 rfl rfl), k_X5_get, ⟨by decide +kernel, by decide +kernel, by decide +kernel⟩⟩
set_option maxRecDepth 100000 in
theorem mv_X8_365 : MV RX8 365 yX0_make cX0_make 8 (some .boolean) 2 := ⟨(ALLW_c3 29 rfl rfl), (ALLW_c3 30 rfl rfl), (ALLW_c3 31 rfl rfl), (ALLW_c1 7 rfl rfl), k_X0_make, ⟨by decide +kernel, by decide +kernel, by decide +kernel⟩⟩
set_option maxRecDepth 100000 in
theorem mv_X0_26 : MV RX0 26 yX5_cutTo cX5_cutTo 2 none 1 := ⟨(ALLW_c3 33 rfl rfl), (ALLW_c2 130 rfl rfl), (ALLW_c2 131 rfl rfl), (ALLW_c1 2 rfl rfl), k_X5_cutTo, ⟨by decide +kernel, by decide +kernel, by decide +kernel⟩⟩
set_option maxRecDepth 100000 in
theorem mv_X0_29 : MV RX0 29 yX1_size cX1_size 1 (some .int) 0 := ⟨(ALLW_c3 34 rfl rfl), (ALLW_c3 35 rfl rfl), (ALLW_c3 36 rfl rfl), (ALLW_c1 4 rfl rfl), k_X1_size, ⟨by decide +kernel, by decide +kernel, by decide +kernel⟩⟩
set_option maxRecDepth 100000 in
theorem mv_X0_35 : MV RX0 35 yX1_get cX1_get 2 (some (.object "PieceFiles$Piece")) 1 := ⟨(ALLW_c3 38 rfl rfl), (ALLW_c3 39 rfl rfl), (ALLW_c3 40 rfl rfl), (ALLW_c1 4 rfl rfl), k_X1_get, ⟨by decide +kernel, by decide +kernel, by decide +kernel⟩⟩
set_option maxRecDepth 100000 in
theorem mv_X0_50 : MV RX0 50 yX5_addPart cX5_addPart 6 (some .boolean) 3 := ⟨(ALLW_c3 42 rfl rfl), (ALLW_c2 152 rfl rfl), (ALLW_c2 153 rfl rfl), (ALLW_c1 2 rfl rfl), k_X5_addPart, ⟨by decide +kernel, by decide +kernel, by decide +kernel⟩⟩
set_option maxRecDepth 100000 in
theorem mv_X0_57 : MV RX0 57 yX5_size cX5_size 1 (some .int) 0 := ⟨(ALLW_c3 43 rfl rfl), (ALLW_c2 114 rfl rfl), (ALLW_c2 115 rfl rfl), (ALLW_c1 2 rfl rfl), k_X5_size, ⟨by decide +kernel, by decide +kernel, by decide +kernel⟩⟩
set_option maxRecDepth 100000 in
theorem mv_X0_61 : MV RX0 61 yX7_toldFor cX7_toldFor 2 (some (.object "PieceFiles$Row")) 1 := ⟨(ALLW_c3 44 rfl rfl), (ALLW_c3 45 rfl rfl), (ALLW_c3 46 rfl rfl), (ALLW_c1 3 rfl rfl), k_X7_toldFor, ⟨by decide +kernel, by decide +kernel, by decide +kernel⟩⟩
set_option maxRecDepth 100000 in
theorem mv_X0_65 : MV RX0 65 yX0_escape cX0_escape 6 (some .boolean) 3 := ⟨(ALLW_c3 48 rfl rfl), (ALLW_c3 49 rfl rfl), (ALLW_c3 50 rfl rfl), (ALLW_c1 7 rfl rfl), k_X0_escape, ⟨by decide +kernel, by decide +kernel, by decide +kernel⟩⟩
set_option maxRecDepth 100000 in
theorem mv_X0_89 : MV RX0 89 yX5_breaksCell cX5_breaksCell 2 (some .boolean) 0 := ⟨(ALLW_c3 52 rfl rfl), (ALLW_c3 53 rfl rfl), (ALLW_c3 54 rfl rfl), (ALLW_c1 2 rfl rfl), k_X5_breaksCell, ⟨by decide +kernel, by decide +kernel, by decide +kernel⟩⟩
set_option maxRecDepth 100000 in
theorem mv_X0_93 : MV RX0 93 yX5_add cX5_add 2 (some .boolean) 1 := ⟨(ALLW_c3 56 rfl rfl), (ALLW_c2 122 rfl rfl), (ALLW_c2 123 rfl rfl), (ALLW_c1 2 rfl rfl), k_X5_add, ⟨by decide +kernel, by decide +kernel, by decide +kernel⟩⟩
set_option maxRecDepth 100000 in
theorem ms_X0_97 : MS RX0 97 yX0_addEscaped cX0_addEscaped 6 none 4 := ⟨(ALLW_c3 57 rfl rfl), (ALLW_c3 58 rfl rfl), (ALLW_c1 7 rfl rfl), k_X0_addEscaped, ⟨by decide +kernel, by decide +kernel, by decide +kernel⟩⟩
set_option maxRecDepth 100000 in
theorem mv_X0_104 : MV RX0 104 yX5_get cX5_get 2 (some .int) 1 := ⟨(ALLW_c3 60 rfl rfl), (ALLW_c2 156 rfl rfl), (ALLW_c2 157 rfl rfl), (ALLW_c1 2 rfl rfl), k_X5_get, ⟨by decide +kernel, by decide +kernel, by decide +kernel⟩⟩
set_option maxRecDepth 100000 in
theorem ms_X0_107 : MS RX0 107 yX0_addInLine cX0_addInLine 3 none 3 := ⟨(ALLW_c3 61 rfl rfl), (ALLW_c3 62 rfl rfl), (ALLW_c1 7 rfl rfl), k_X0_addInLine, ⟨by decide +kernel, by decide +kernel, by decide +kernel⟩⟩
set_option maxRecDepth 100000 in
theorem ms_X0_111 : MS RX0 111 yX0_addDoubled cX0_addDoubled 2 none 2 := ⟨(ALLW_c3 64 rfl rfl), (ALLW_c3 65 rfl rfl), (ALLW_c1 7 rfl rfl), k_X0_addDoubled, ⟨by decide +kernel, by decide +kernel, by decide +kernel⟩⟩
set_option maxRecDepth 100000 in
theorem ms_X0_115 : MS RX0 115 yX0_addInMarkup cX0_addInMarkup 2 none 2 := ⟨(ALLW_c3 67 rfl rfl), (ALLW_c3 68 rfl rfl), (ALLW_c1 7 rfl rfl), k_X0_addInMarkup, ⟨by decide +kernel, by decide +kernel, by decide +kernel⟩⟩
set_option maxRecDepth 100000 in
theorem ms_X0_118 : MS RX0 118 yX0_addInQuotes cX0_addInQuotes 2 none 2 := ⟨(ALLW_c3 70 rfl rfl), (ALLW_c3 71 rfl rfl), (ALLW_c1 7 rfl rfl), k_X0_addInQuotes, ⟨by decide +kernel, by decide +kernel, by decide +kernel⟩⟩
set_option maxRecDepth 100000 in
theorem mv_X8_136 : MV RX8 136 yX1_size cX1_size 1 (some .int) 0 := ⟨(ALLW_c3 73 rfl rfl), (ALLW_c3 35 rfl rfl), (ALLW_c3 36 rfl rfl), (ALLW_c1 4 rfl rfl), k_X1_size, ⟨by decide +kernel, by decide +kernel, by decide +kernel⟩⟩
set_option maxRecDepth 100000 in
theorem mv_L_120 : MV RL 120 yX8_unlock cX8_unlock 1 (some .int) 0 := ⟨(ALLW_c3 74 rfl rfl), (ALLW_c3 75 rfl rfl), (ALLW_c3 76 rfl rfl), (ALLW_c1 1 rfl rfl), k_X8_unlock, ⟨by decide +kernel, by decide +kernel, by decide +kernel⟩⟩
set_option maxRecDepth 100000 in
theorem mv_X8_73 : MV RX8 73 yX7_copyFrom cX7_copyFrom 3 none 1 := ⟨(ALLW_c3 78 rfl rfl), (ALLW_c3 79 rfl rfl), (ALLW_c3 80 rfl rfl), (ALLW_c1 3 rfl rfl), k_X7_copyFrom, ⟨by decide +kernel, by decide +kernel, by decide +kernel⟩⟩
set_option maxRecDepth 100000 in
theorem mv_X8_103 : MV RX8 103 yX8_doAct cX8_doAct 6 (some .int) 4 := ⟨(ALLW_c3 82 rfl rfl), (ALLW_c3 84 rfl rfl), (ALLW_s 11 (by decide +kernel) (by decide +kernel)), (ALLW_c1 1 rfl rfl), k_X8_doAct, ⟨by decide +kernel, by decide +kernel, by decide +kernel⟩⟩
set_option maxRecDepth 100000 in
theorem mv_X8_337 : MV RX8 337 yX7_addLock cX7_addLock 4 (some .int) 1 := ⟨(ALLW_c3 86 rfl rfl), (ALLW_c3 87 rfl rfl), (ALLW_c3 88 rfl rfl), (ALLW_c1 3 rfl rfl), k_X7_addLock, ⟨by decide +kernel, by decide +kernel, by decide +kernel⟩⟩
set_option maxRecDepth 100000 in
theorem mv_X8_341 : MV RX8 341 yX8_freePiece cX8_freePiece 2 (some .int) 1 := ⟨(ALLW_c3 90 rfl rfl), (ALLW_c3 92 rfl rfl), (ALLW_s 12 (by decide +kernel) (by decide +kernel)), (ALLW_c1 1 rfl rfl), k_X8_freePiece, ⟨by decide +kernel, by decide +kernel, by decide +kernel⟩⟩
set_option maxRecDepth 100000 in
theorem mv_X8_241 : MV RX8 241 yX1_get cX1_get 2 (some (.object "PieceFiles$Piece")) 1 := ⟨(ALLW_c3 94 rfl rfl), (ALLW_c3 39 rfl rfl), (ALLW_c3 40 rfl rfl), (ALLW_c1 4 rfl rfl), k_X1_get, ⟨by decide +kernel, by decide +kernel, by decide +kernel⟩⟩
set_option maxRecDepth 100000 in
theorem mv_X8_194 : MV RX8 194 yX7_toldFor cX7_toldFor 2 (some (.object "PieceFiles$Row")) 1 := ⟨(ALLW_c3 95 rfl rfl), (ALLW_c3 45 rfl rfl), (ALLW_c3 46 rfl rfl), (ALLW_c1 3 rfl rfl), k_X7_toldFor, ⟨by decide +kernel, by decide +kernel, by decide +kernel⟩⟩
set_option maxRecDepth 100000 in
theorem mv_X8_369 : MV RX8 369 yX7_setTold cX7_setTold 3 none 2 := ⟨(ALLW_c3 96 rfl rfl), (ALLW_c3 97 rfl rfl), (ALLW_c3 98 rfl rfl), (ALLW_c1 3 rfl rfl), k_X7_setTold, ⟨by decide +kernel, by decide +kernel, by decide +kernel⟩⟩
set_option maxRecDepth 100000 in
theorem mv_X8_344 : MV RX8 344 yX8_spreadPiece cX8_spreadPiece 4 (some .int) 1 := ⟨(ALLW_c3 100 rfl rfl), (ALLW_c3 102 rfl rfl), (ALLW_s 13 (by decide +kernel) (by decide +kernel)), (ALLW_c1 1 rfl rfl), k_X8_spreadPiece, ⟨by decide +kernel, by decide +kernel, by decide +kernel⟩⟩
set_option maxRecDepth 100000 in
theorem mv_X8_243 : MV RX8 243 yX1_areLike cX1_areLike 5 (some .boolean) 2 := ⟨(ALLW_c3 104 rfl rfl), (ALLW_c3 105 rfl rfl), (ALLW_c3 106 rfl rfl), (ALLW_c1 4 rfl rfl), k_X1_areLike, ⟨by decide +kernel, by decide +kernel, by decide +kernel⟩⟩
set_option maxRecDepth 100000 in
theorem mv_X1_154 : MV RX1 154 yX1_get cX1_get 2 (some (.object "PieceFiles$Piece")) 1 := ⟨(ALLW_c3 108 rfl rfl), (ALLW_c3 39 rfl rfl), (ALLW_c3 40 rfl rfl), (ALLW_c1 4 rfl rfl), k_X1_get, ⟨by decide +kernel, by decide +kernel, by decide +kernel⟩⟩
set_option maxRecDepth 100000 in
theorem mv_X1_157 : MV RX1 157 yX5_isSame cX5_isSame 6 (some .boolean) 4 := ⟨(ALLW_c3 109 rfl rfl), (ALLW_c2 229 rfl rfl), (ALLW_c2 230 rfl rfl), (ALLW_c1 2 rfl rfl), k_X5_isSame, ⟨by decide +kernel, by decide +kernel, by decide +kernel⟩⟩
set_option maxRecDepth 100000 in
theorem mv_X8_247 : MV RX8 247 yX0_escape cX0_escape 6 (some .boolean) 3 := ⟨(ALLW_c3 110 rfl rfl), (ALLW_c3 49 rfl rfl), (ALLW_c3 50 rfl rfl), (ALLW_c1 7 rfl rfl), k_X0_escape, ⟨by decide +kernel, by decide +kernel, by decide +kernel⟩⟩
set_option maxRecDepth 100000 in
theorem mv_X8_347 : MV RX8 347 yX8_swapPieces cX8_swapPieces 7 (some .int) 2 := ⟨(ALLW_c3 111 rfl rfl), (ALLW_c3 113 rfl rfl), (ALLW_s 14 (by decide +kernel) (by decide +kernel)), (ALLW_c1 1 rfl rfl), k_X8_swapPieces, ⟨by decide +kernel, by decide +kernel, by decide +kernel⟩⟩
set_option maxRecDepth 100000 in
theorem mv_X8_190 : MV RX8 190 yX8_nowSize cX8_nowSize 4 (some .int) 2 := ⟨(ALLW_c3 115 rfl rfl), (ALLW_c3 117 rfl rfl), (ALLW_s 15 (by decide +kernel) (by decide +kernel)), (ALLW_c1 1 rfl rfl), k_X8_nowSize, ⟨by decide +kernel, by decide +kernel, by decide +kernel⟩⟩
set_option maxRecDepth 100000 in
theorem mv_X8_378 : MV RX8 378 yX8_copyOfNow cX8_copyOfNow 4 (some (.object "PieceFiles$Row")) 2 := ⟨(ALLW_c3 119 rfl rfl), (ALLW_c3 121 rfl rfl), (ALLW_s 16 (by decide +kernel) (by decide +kernel)), (ALLW_c1 1 rfl rfl), k_X8_copyOfNow, ⟨by decide +kernel, by decide +kernel, by decide +kernel⟩⟩
set_option maxRecDepth 100000 in
theorem mv_X8_351 : MV RX8 351 yX8_wipePieces cX8_wipePieces 1 (some .int) 0 := ⟨(ALLW_c3 123 rfl rfl), (ALLW_c3 125 rfl rfl), (ALLW_s 17 (by decide +kernel) (by decide +kernel)), (ALLW_c1 1 rfl rfl), k_X8_wipePieces, ⟨by decide +kernel, by decide +kernel, by decide +kernel⟩⟩
set_option maxRecDepth 100000 in
theorem mv_X8_167 : MV RX8 167 yX7_toldCount cX7_toldCount 3 (some .int) 0 := ⟨(ALLW_c3 127 rfl rfl), (ALLW_c3 128 rfl rfl), (ALLW_c3 129 rfl rfl), (ALLW_c1 3 rfl rfl), k_X7_toldCount, ⟨by decide +kernel, by decide +kernel, by decide +kernel⟩⟩
set_option maxRecDepth 100000 in
theorem mv_X8_354 : MV RX8 354 yX8_tellPiece cX8_tellPiece 4 (some .int) 2 := ⟨(ALLW_c3 131 rfl rfl), (ALLW_c3 133 rfl rfl), (ALLW_s 18 (by decide +kernel) (by decide +kernel)), (ALLW_c1 1 rfl rfl), k_X8_tellPiece, ⟨by decide +kernel, by decide +kernel, by decide +kernel⟩⟩
set_option maxRecDepth 100000 in
theorem mv_X8_374 : MV RX8 374 yX7_addPair cX7_addPair 3 none 2 := ⟨(ALLW_c3 135 rfl rfl), (ALLW_c3 136 rfl rfl), (ALLW_c3 137 rfl rfl), (ALLW_c1 3 rfl rfl), k_X7_addPair, ⟨by decide +kernel, by decide +kernel, by decide +kernel⟩⟩
set_option maxRecDepth 100000 in
theorem mi_X7_53 : MI RX7 53 yX2_init cX2_init 4 3 := ⟨(ALLW_c3 141 rfl rfl), (ALLW_c3 142 rfl rfl), (ALLW_c1 15 rfl rfl), k_X2_init, rfl, ⟨by decide +kernel, by decide +kernel, by decide +kernel⟩⟩
set_option maxRecDepth 100000 in
theorem oi_X2_1 : Cond.methodLink RX2 1 Lib.objectInit ∈ ALLW := (ALLW_c3 144 rfl rfl)
set_option maxRecDepth 100000 in
theorem ms_X7_56 : MS RX7 56 yJ9_min_7cf53 cJ9_min_7cf53 2 (some .int) 2 := ⟨(ALLW_c3 158 rfl rfl), (ALLW_c3 159 rfl rfl), (ALLW_c1 14 rfl rfl), k_J9_min_7cf53, ⟨by decide +kernel, by decide +kernel, by decide +kernel⟩⟩
set_option maxRecDepth 100000 in
theorem mv_X8_139 : MV RX8 139 yX8_finishCall cX8_finishCall 2 none 1 := ⟨(ALLW_c3 161 rfl rfl), (ALLW_c3 163 rfl rfl), (ALLW_s 19 (by decide +kernel) (by decide +kernel)), (ALLW_c1 1 rfl rfl), k_X8_finishCall, ⟨by decide +kernel, by decide +kernel, by decide +kernel⟩⟩
set_option maxRecDepth 100000 in
theorem mv_X8_113 : MV RX8 113 yX8_restore cX8_restore 2 none 1 := ⟨(ALLW_c3 165 rfl rfl), (ALLW_c3 167 rfl rfl), (ALLW_s 20 (by decide +kernel) (by decide +kernel)), (ALLW_c1 1 rfl rfl), k_X8_restore, ⟨by decide +kernel, by decide +kernel, by decide +kernel⟩⟩
set_option maxRecDepth 100000 in
theorem mv_X8_328 : MV RX8 328 yX8_rememberAhead cX8_rememberAhead 1 none 0 := ⟨(ALLW_c3 238 rfl rfl), (ALLW_c4 0 rfl rfl), (ALLW_s 22 (by decide +kernel) (by decide +kernel)), (ALLW_c1 1 rfl rfl), k_X8_rememberAhead, ⟨by decide +kernel, by decide +kernel, by decide +kernel⟩⟩
set_option maxRecDepth 100000 in
theorem mv_X8_331 : MV RX8 331 yX8_forgetOldest cX8_forgetOldest 4 none 0 := ⟨(ALLW_c4 2 rfl rfl), (ALLW_c4 4 rfl rfl), (ALLW_s 23 (by decide +kernel) (by decide +kernel)), (ALLW_c1 1 rfl rfl), k_X8_forgetOldest, ⟨by decide +kernel, by decide +kernel, by decide +kernel⟩⟩
set_option maxRecDepth 100000 in
theorem mv_L_156 : MV RL 156 yX8_holder cX8_holder 4 (some .int) 1 := ⟨(ALLW_c4 6 rfl rfl), (ALLW_c4 7 rfl rfl), (ALLW_c4 8 rfl rfl), (ALLW_c1 1 rfl rfl), k_X8_holder, ⟨by decide +kernel, by decide +kernel, by decide +kernel⟩⟩
set_option maxRecDepth 100000 in
theorem mv_L_160 : MV RL 160 yX8_at cX8_at 3 (some .int) 2 := ⟨(ALLW_c4 10 rfl rfl), (ALLW_c4 11 rfl rfl), (ALLW_c4 12 rfl rfl), (ALLW_c1 1 rfl rfl), k_X8_at, ⟨by decide +kernel, by decide +kernel, by decide +kernel⟩⟩
set_option maxRecDepth 100000 in
theorem mv_X8_227 : MV RX8 227 yX5_get cX5_get 2 (some .int) 1 := ⟨(ALLW_c4 14 rfl rfl), (ALLW_c2 156 rfl rfl), (ALLW_c2 157 rfl rfl), (ALLW_c1 2 rfl rfl), k_X5_get, ⟨by decide +kernel, by decide +kernel, by decide +kernel⟩⟩
set_option maxRecDepth 100000 in
theorem mv_L_173 : MV RL 173 yX8_memory cX8_memory 6 (some .int) 3 := ⟨(ALLW_c4 15 rfl rfl), (ALLW_c4 16 rfl rfl), (ALLW_c4 17 rfl rfl), (ALLW_c1 1 rfl rfl), k_X8_memory, ⟨by decide +kernel, by decide +kernel, by decide +kernel⟩⟩
set_option maxRecDepth 100000 in
theorem mv_L_181 : MV RL 181 yX8_twice cX8_twice 4 (some .boolean) 0 := ⟨(ALLW_c4 19 rfl rfl), (ALLW_c4 20 rfl rfl), (ALLW_c4 21 rfl rfl), (ALLW_c1 1 rfl rfl), k_X8_twice, ⟨by decide +kernel, by decide +kernel, by decide +kernel⟩⟩
set_option maxRecDepth 100000 in
theorem mv_X8_276 : MV RX8 276 yX8_cutAgain cX8_cutAgain 1 none 0 := ⟨(ALLW_c4 23 rfl rfl), (ALLW_c4 25 rfl rfl), (ALLW_s 24 (by decide +kernel) (by decide +kernel)), (ALLW_c1 1 rfl rfl), k_X8_cutAgain, ⟨by decide +kernel, by decide +kernel, by decide +kernel⟩⟩
set_option maxRecDepth 100000 in
theorem mv_X8_283 : MV RX8 283 yX8_isNow cX8_isNow 5 (some .boolean) 3 := ⟨(ALLW_c4 27 rfl rfl), (ALLW_c4 29 rfl rfl), (ALLW_s 25 (by decide +kernel) (by decide +kernel)), (ALLW_c1 1 rfl rfl), k_X8_isNow, ⟨by decide +kernel, by decide +kernel, by decide +kernel⟩⟩
set_option maxRecDepth 100000 in
theorem mv_X8_382 : MV RX8 382 yX5_isSame cX5_isSame 6 (some .boolean) 4 := ⟨(ALLW_c4 31 rfl rfl), (ALLW_c2 229 rfl rfl), (ALLW_c2 230 rfl rfl), (ALLW_c1 2 rfl rfl), k_X5_isSame, ⟨by decide +kernel, by decide +kernel, by decide +kernel⟩⟩
set_option maxRecDepth 100000 in
theorem mv_L_186 : MV RL 186 yX8_image cX8_image 1 none 0 := ⟨(ALLW_c4 32 rfl rfl), (ALLW_c4 33 rfl rfl), (ALLW_c4 34 rfl rfl), (ALLW_c1 1 rfl rfl), k_X8_image, ⟨by decide +kernel, by decide +kernel, by decide +kernel⟩⟩
set_option maxRecDepth 100000 in
theorem mv_L_190 : MV RL 190 yX8_back cX8_back 1 (some .boolean) 0 := ⟨(ALLW_c4 36 rfl rfl), (ALLW_c4 37 rfl rfl), (ALLW_c4 38 rfl rfl), (ALLW_c1 1 rfl rfl), k_X8_back, ⟨by decide +kernel, by decide +kernel, by decide +kernel⟩⟩
set_option maxRecDepth 100000 in
theorem mv_L_194 : MV RL 194 yX8_count cX8_count 2 (some .int) 1 := ⟨(ALLW_c4 40 rfl rfl), (ALLW_c4 41 rfl rfl), (ALLW_c4 42 rfl rfl), (ALLW_c1 1 rfl rfl), k_X8_count, ⟨by decide +kernel, by decide +kernel, by decide +kernel⟩⟩
set_option maxRecDepth 100000 in
theorem mv_X8_293 : MV RX8 293 yX1_bytesInPieces cX1_bytesInPieces 4 (some .int) 0 := ⟨(ALLW_c4 44 rfl rfl), (ALLW_c4 45 rfl rfl), (ALLW_c4 46 rfl rfl), (ALLW_c1 4 rfl rfl), k_X1_bytesInPieces, ⟨by decide +kernel, by decide +kernel, by decide +kernel⟩⟩
set_option maxRecDepth 100000 in
theorem mv_X8_305 : MV RX8 305 yX1_unlikeCount cX1_unlikeCount 3 (some .int) 0 := ⟨(ALLW_c4 48 rfl rfl), (ALLW_c4 49 rfl rfl), (ALLW_c4 50 rfl rfl), (ALLW_c1 4 rfl rfl), k_X1_unlikeCount, ⟨by decide +kernel, by decide +kernel, by decide +kernel⟩⟩
set_option maxRecDepth 100000 in
theorem mv_X1_165 : MV RX1 165 yX1_hasLikeAhead cX1_hasLikeAhead 3 (some .boolean) 1 := ⟨(ALLW_c4 52 rfl rfl), (ALLW_c4 54 rfl rfl), (ALLW_s 26 (by decide +kernel) (by decide +kernel)), (ALLW_c1 4 rfl rfl), k_X1_hasLikeAhead, ⟨by decide +kernel, by decide +kernel, by decide +kernel⟩⟩
set_option maxRecDepth 100000 in
theorem mv_X1_161 : MV RX1 161 yX1_areLike cX1_areLike 5 (some .boolean) 2 := ⟨(ALLW_c4 56 rfl rfl), (ALLW_c3 105 rfl rfl), (ALLW_c3 106 rfl rfl), (ALLW_c1 4 rfl rfl), k_X1_areLike, ⟨by decide +kernel, by decide +kernel, by decide +kernel⟩⟩
set_option maxRecDepth 100000 in
theorem mv_X8_308 : MV RX8 308 yX8_countAllWords cX8_countAllWords 4 (some .int) 0 := ⟨(ALLW_c4 57 rfl rfl), (ALLW_c4 59 rfl rfl), (ALLW_s 27 (by decide +kernel) (by decide +kernel)), (ALLW_c1 1 rfl rfl), k_X8_countAllWords, ⟨by decide +kernel, by decide +kernel, by decide +kernel⟩⟩
set_option maxRecDepth 100000 in
theorem mv_X8_198 : MV RX8 198 yX8_countWords cX8_countWords 4 (some .int) 2 := ⟨(ALLW_c4 61 rfl rfl), (ALLW_c4 63 rfl rfl), (ALLW_s 28 (by decide +kernel) (by decide +kernel)), (ALLW_c1 1 rfl rfl), k_X8_countWords, ⟨by decide +kernel, by decide +kernel, by decide +kernel⟩⟩
set_option maxRecDepth 100000 in
theorem mv_X8_386 : MV RX8 386 yX5_countWords cX5_countWords 7 (some .int) 2 := ⟨(ALLW_c4 65 rfl rfl), (ALLW_c4 66 rfl rfl), (ALLW_c4 67 rfl rfl), (ALLW_c1 2 rfl rfl), k_X5_countWords, ⟨by decide +kernel, by decide +kernel, by decide +kernel⟩⟩
set_option maxRecDepth 100000 in
theorem mv_X8_311 : MV RX8 311 yX1_longestText cX1_longestText 4 (some .int) 0 := ⟨(ALLW_c4 69 rfl rfl), (ALLW_c4 70 rfl rfl), (ALLW_c4 71 rfl rfl), (ALLW_c1 4 rfl rfl), k_X1_longestText, ⟨by decide +kernel, by decide +kernel, by decide +kernel⟩⟩
set_option maxRecDepth 100000 in
theorem mw_L_91 : MSW RL 91 yL_acts cL_acts 3 (some .int) [(0, 8, 11, 13)] 2 := ⟨(ALLW_c4 73 rfl rfl), (ALLW_c4 74 rfl rfl), (ALLW_c1 0 rfl rfl), (ALLW_c4 75 rfl rfl), ⟨by decide +kernel, by decide +kernel, by decide +kernel⟩⟩
set_option maxRecDepth 100000 in
theorem mv_L_7 : MV RL 7 yX8_acts cX8_acts 6 (some .int) 0 := ⟨(ALLW_c4 77 rfl rfl), (ALLW_c4 78 rfl rfl), (ALLW_c4 79 rfl rfl), (ALLW_c1 1 rfl rfl), k_X8_acts, ⟨by decide +kernel, by decide +kernel, by decide +kernel⟩⟩
set_option maxRecDepth 100000 in
theorem mv_X8_77 : MV RX8 77 yX4_start cX4_start 2 none 1 := ⟨(ALLW_c4 81 rfl rfl), (ALLW_c4 82 rfl rfl), (ALLW_c4 83 rfl rfl), (ALLW_c1 8 rfl rfl), k_X4_start, ⟨by decide +kernel, by decide +kernel, by decide +kernel⟩⟩
set_option maxRecDepth 100000 in
theorem mv_X4_20 : MV RX4 20 yX5_size cX5_size 1 (some .int) 0 := ⟨(ALLW_c4 85 rfl rfl), (ALLW_c2 114 rfl rfl), (ALLW_c2 115 rfl rfl), (ALLW_c1 2 rfl rfl), k_X5_size, ⟨by decide +kernel, by decide +kernel, by decide +kernel⟩⟩
set_option maxRecDepth 100000 in
theorem mv_X4_24 : MV RX4 24 yX5_behindBlanks cX5_behindBlanks 4 (some .int) 2 := ⟨(ALLW_c4 86 rfl rfl), (ALLW_c2 191 rfl rfl), (ALLW_c2 192 rfl rfl), (ALLW_c1 2 rfl rfl), k_X5_behindBlanks, ⟨by decide +kernel, by decide +kernel, by decide +kernel⟩⟩
set_option maxRecDepth 100000 in
theorem mv_X8_88 : MV RX8 88 yX4_readAct cX4_readAct 3 (some .int) 0 := ⟨(ALLW_c4 87 rfl rfl), (ALLW_c4 88 rfl rfl), (ALLW_c4 89 rfl rfl), (ALLW_c1 8 rfl rfl), k_X4_readAct, ⟨by decide +kernel, by decide +kernel, by decide +kernel⟩⟩
set_option maxRecDepth 100000 in
theorem mv_X4_40 : MV RX4 40 yX4_lettersEnd cX4_lettersEnd 2 (some .int) 0 := ⟨(ALLW_c4 91 rfl rfl), (ALLW_c4 93 rfl rfl), (ALLW_s 29 (by decide +kernel) (by decide +kernel)), (ALLW_c1 8 rfl rfl), k_X4_lettersEnd, ⟨by decide +kernel, by decide +kernel, by decide +kernel⟩⟩
set_option maxRecDepth 100000 in
theorem mv_X4_36 : MV RX4 36 yX5_get cX5_get 2 (some .int) 1 := ⟨(ALLW_c4 95 rfl rfl), (ALLW_c2 156 rfl rfl), (ALLW_c2 157 rfl rfl), (ALLW_c1 2 rfl rfl), k_X5_get, ⟨by decide +kernel, by decide +kernel, by decide +kernel⟩⟩
set_option maxRecDepth 100000 in
theorem mv_X4_43 : MV RX4 43 yX4_actNamed cX4_actNamed 4 (some .int) 2 := ⟨(ALLW_c4 96 rfl rfl), (ALLW_c4 98 rfl rfl), (ALLW_s 30 (by decide +kernel) (by decide +kernel)), (ALLW_c1 8 rfl rfl), k_X4_actNamed, ⟨by decide +kernel, by decide +kernel, by decide +kernel⟩⟩
set_option maxRecDepth 100000 in
theorem ms_X4_58 : MS RX4 58 yX4_nameOf cX4_nameOf 1 (some (.object "java/lang/String")) 1 := ⟨(ALLW_c4 100 rfl rfl), (ALLW_c4 101 rfl rfl), (ALLW_c1 8 rfl rfl), k_X4_nameOf, ⟨by decide +kernel, by decide +kernel, by decide +kernel⟩⟩
set_option maxRecDepth 100000 in
theorem mv_X4_62 : MV RX4 62 yX5_isText cX5_isText 5 (some .boolean) 3 := ⟨(ALLW_c4 115 rfl rfl), (ALLW_c4 116 rfl rfl), (ALLW_c4 117 rfl rfl), (ALLW_c1 2 rfl rfl), k_X5_isText, ⟨by decide +kernel, by decide +kernel, by decide +kernel⟩⟩
set_option maxRecDepth 100000 in
theorem mv_X5_47 : MV RX5 47 yJ0_length_8abf5 cJ0_length_8abf5 1 (some .int) 0 := ⟨(ALLW_c4 119 rfl rfl), (ALLW_c4 120 rfl rfl), (ALLW_c4 121 rfl rfl), (ALLW_c1 10 rfl rfl), k_J0_length_8abf5, ⟨by decide +kernel, by decide +kernel, by decide +kernel⟩⟩
set_option maxRecDepth 100000 in
theorem mv_J0_335 : MV RJ0 335 yJ0_coder_7d493 cJ0_coder_7d493 1 (some .byte) 0 := ⟨(ALLW_c4 123 rfl rfl), (ALLW_c4 124 rfl rfl), (ALLW_c4 125 rfl rfl), (ALLW_c1 10 rfl rfl), k_J0_coder_7d493, ⟨by decide +kernel, by decide +kernel, by decide +kernel⟩⟩
set_option maxRecDepth 100000 in
theorem mv_X5_52 : MV RX5 52 yJ0_charAt_5068e cJ0_charAt_5068e 2 (some .char) 1 := ⟨(ALLW_c4 129 rfl rfl), (ALLW_c4 130 rfl rfl), (ALLW_c4 131 rfl rfl), (ALLW_c1 10 rfl rfl), k_J0_charAt_5068e, ⟨by decide +kernel, by decide +kernel, by decide +kernel⟩⟩
set_option maxRecDepth 100000 in
theorem mv_J0_492 : MV RJ0 492 yJ0_isLatin1_aae02 cJ0_isLatin1_aae02 1 (some .boolean) 0 := ⟨(ALLW_c4 133 rfl rfl), (ALLW_c4 134 rfl rfl), (ALLW_c4 135 rfl rfl), (ALLW_c1 10 rfl rfl), k_J0_isLatin1_aae02, ⟨by decide +kernel, by decide +kernel, by decide +kernel⟩⟩
set_option maxRecDepth 100000 in
theorem ms_J0_495 : MS RJ0 495 yJ1_charAt_3b067 cJ1_charAt_3b067 2 (some .char) 2 := ⟨(ALLW_c4 137 rfl rfl), (ALLW_c4 138 rfl rfl), (ALLW_c1 11 rfl rfl), k_J1_charAt_3b067, ⟨by decide +kernel, by decide +kernel, by decide +kernel⟩⟩
set_option maxRecDepth 100000 in
theorem ms_J1_9 : MS RJ1 9 yJ0_checkIndex_df160 cJ0_checkIndex_df160 2 none 2 := ⟨(ALLW_c4 140 rfl rfl), (ALLW_c4 141 rfl rfl), (ALLW_c1 10 rfl rfl), k_J0_checkIndex_df160, ⟨by decide +kernel, by decide +kernel, by decide +kernel⟩⟩
set_option maxRecDepth 100000 in
theorem ms_J0_1059 : MS RJ0 1059 yJ3_checkIndex_8e157 cJ3_checkIndex_8e157 3 (some .int) 3 := ⟨(ALLW_c4 145 rfl rfl), (ALLW_c4 146 rfl rfl), (ALLW_c1 12 rfl rfl), k_J3_checkIndex_8e157, ⟨by decide +kernel, by decide +kernel, by decide +kernel⟩⟩
set_option maxRecDepth 100000 in
theorem ms_J0_498 : MS RJ0 498 yJ2_charAt_3b067 cJ2_charAt_3b067 2 (some .char) 2 := ⟨(ALLW_c4 148 rfl rfl), (ALLW_c4 149 rfl rfl), (ALLW_c1 13 rfl rfl), k_J2_charAt_3b067, ⟨by decide +kernel, by decide +kernel, by decide +kernel⟩⟩
set_option maxRecDepth 100000 in
theorem ms_J2_67 : MS RJ2 67 yJ2_checkIndex_2214a cJ2_checkIndex_2214a 2 none 2 := ⟨(ALLW_c4 151 rfl rfl), (ALLW_c4 152 rfl rfl), (ALLW_c1 13 rfl rfl), k_J2_checkIndex_2214a, ⟨by decide +kernel, by decide +kernel, by decide +kernel⟩⟩
set_option maxRecDepth 100000 in
theorem ms_J2_48 : MS RJ2 48 yJ2_length_9d52b cJ2_length_9d52b 1 (some .int) 1 := ⟨(ALLW_c4 154 rfl rfl), (ALLW_c4 155 rfl rfl), (ALLW_c1 13 rfl rfl), k_J2_length_9d52b, ⟨by decide +kernel, by decide +kernel, by decide +kernel⟩⟩
set_option maxRecDepth 100000 in
theorem ms_J2_414 : MS RJ2 414 yJ0_checkIndex_df160 cJ0_checkIndex_df160 2 none 2 := ⟨(ALLW_c4 157 rfl rfl), (ALLW_c4 141 rfl rfl), (ALLW_c1 10 rfl rfl), k_J0_checkIndex_df160, ⟨by decide +kernel, by decide +kernel, by decide +kernel⟩⟩
set_option maxRecDepth 100000 in
theorem ms_J2_71 : MS RJ2 71 yJ2_getChar_3b067 cJ2_getChar_3b067 2 (some .char) 2 := ⟨(ALLW_c4 158 rfl rfl), (ALLW_c4 159 rfl rfl), (ALLW_c1 13 rfl rfl), k_J2_getChar_3b067, ⟨by decide +kernel, by decide +kernel, by decide +kernel⟩⟩
set_option maxRecDepth 100000 in
theorem mv_X4_49 : MV RX4 49 yX4_readFirst cX4_readFirst 4 (some .int) 2 := ⟨(ALLW_c4 167 rfl rfl), (ALLW_c4 169 rfl rfl), (ALLW_s 31 (by decide +kernel) (by decide +kernel)), (ALLW_c1 8 rfl rfl), k_X4_readFirst, ⟨by decide +kernel, by decide +kernel, by decide +kernel⟩⟩
set_option maxRecDepth 100000 in
theorem mv_X4_90 : MV RX4 90 yX4_readNumber cX4_readNumber 6 (some .int) 2 := ⟨(ALLW_c4 171 rfl rfl), (ALLW_c4 173 rfl rfl), (ALLW_s 32 (by decide +kernel) (by decide +kernel)), (ALLW_c1 8 rfl rfl), k_X4_readNumber, ⟨by decide +kernel, by decide +kernel, by decide +kernel⟩⟩
set_option maxRecDepth 100000 in
theorem mv_X4_52 : MV RX4 52 yX4_readSecond cX4_readSecond 2 (some .int) 0 := ⟨(ALLW_c4 175 rfl rfl), (ALLW_c4 177 rfl rfl), (ALLW_s 33 (by decide +kernel) (by decide +kernel)), (ALLW_c1 8 rfl rfl), k_X4_readSecond, ⟨by decide +kernel, by decide +kernel, by decide +kernel⟩⟩
set_option maxRecDepth 100000 in
theorem mv_X4_55 : MV RX4 55 yX4_readWord cX4_readWord 3 (some .int) 0 := ⟨(ALLW_c4 179 rfl rfl), (ALLW_c4 181 rfl rfl), (ALLW_s 34 (by decide +kernel) (by decide +kernel)), (ALLW_c1 8 rfl rfl), k_X4_readWord, ⟨by decide +kernel, by decide +kernel, by decide +kernel⟩⟩
set_option maxRecDepth 100000 in
theorem mv_X4_102 : MV RX4 102 yX5_part cX5_part 4 (some (.object "PieceFiles$Row")) 2 := ⟨(ALLW_c4 183 rfl rfl), (ALLW_c2 146 rfl rfl), (ALLW_c2 147 rfl rfl), (ALLW_c1 2 rfl rfl), k_X5_part, ⟨by decide +kernel, by decide +kernel, by decide +kernel⟩⟩
set_option maxRecDepth 100000 in
theorem mv_X8_107 : MV RX8 107 yX4_readBehindAct cX4_readBehindAct 1 (some .int) 0 := ⟨(ALLW_c4 184 rfl rfl), (ALLW_c4 185 rfl rfl), (ALLW_c4 186 rfl rfl), (ALLW_c1 8 rfl rfl), k_X4_readBehindAct, ⟨by decide +kernel, by decide +kernel, by decide +kernel⟩⟩
set_option maxRecDepth 100000 in
theorem mw_L_109 : MSW RL 109 yL_kind cL_kind 5 (some .int) [(0, 10, 13, 13)] 4 := ⟨(ALLW_c4 204 rfl rfl), (ALLW_c4 205 rfl rfl), (ALLW_c1 0 rfl rfl), (ALLW_c4 206 rfl rfl), ⟨by decide +kernel, by decide +kernel, by decide +kernel⟩⟩
set_option maxRecDepth 100000 in
theorem mv_L_15 : MV RL 15 yX8_kind cX8_kind 3 (some .int) 2 := ⟨(ALLW_c4 207 rfl rfl), (ALLW_c4 208 rfl rfl), (ALLW_c4 209 rfl rfl), (ALLW_c1 1 rfl rfl), k_X8_kind, ⟨by decide +kernel, by decide +kernel, by decide +kernel⟩⟩
set_option maxRecDepth 100000 in
theorem mw_L_113 : MSW RL 113 yL_rule cL_rule 5 (some .int) [(0, 10, 13, 23), (0, 10, 17, 13)] 4 := ⟨(ALLW_c4 212 rfl rfl), (ALLW_c4 213 rfl rfl), (ALLW_c1 0 rfl rfl), (ALLW_c4 214 rfl rfl), ⟨by decide +kernel, by decide +kernel, by decide +kernel⟩⟩
set_option maxRecDepth 100000 in
theorem mv_L_19 : MV RL 19 yX8_rule cX8_rule 3 (some .int) 2 := ⟨(ALLW_c4 216 rfl rfl), (ALLW_c4 217 rfl rfl), (ALLW_c4 218 rfl rfl), (ALLW_c1 1 rfl rfl), k_X8_rule, ⟨by decide +kernel, by decide +kernel, by decide +kernel⟩⟩
set_option maxRecDepth 100000 in
theorem mw_L_117 : MSW RL 117 yL_lock cL_lock 3 (some .int) [(0, 8, 11, 13), (0, 8, 14, 28)] 2 := ⟨(ALLW_c4 237 rfl rfl), (ALLW_c4 238 rfl rfl), (ALLW_c1 0 rfl rfl), (ALLW_c4 239 rfl rfl), ⟨by decide +kernel, by decide +kernel, by decide +kernel⟩⟩
set_option maxRecDepth 100000 in
theorem mv_L_25 : MV RL 25 yX8_lock cX8_lock 2 (some .int) 0 := ⟨(ALLW_c5 1 rfl rfl), (ALLW_c5 2 rfl rfl), (ALLW_c5 3 rfl rfl), (ALLW_c1 1 rfl rfl), k_X8_lock, ⟨by decide +kernel, by decide +kernel, by decide +kernel⟩⟩
set_option maxRecDepth 100000 in
theorem mv_X8_149 : MV RX8 149 yX8_takeWord cX8_takeWord 2 (some (.object "PieceFiles$Row")) 0 := ⟨(ALLW_c5 5 rfl rfl), (ALLW_c5 7 rfl rfl), (ALLW_s 35 (by decide +kernel) (by decide +kernel)), (ALLW_c1 1 rfl rfl), k_X8_takeWord, ⟨by decide +kernel, by decide +kernel, by decide +kernel⟩⟩
set_option maxRecDepth 100000 in
theorem mv_X8_317 : MV RX8 317 yX5_isWord cX5_isWord 2 (some .boolean) 0 := ⟨(ALLW_c5 9 rfl rfl), (ALLW_c5 10 rfl rfl), (ALLW_c5 11 rfl rfl), (ALLW_c1 2 rfl rfl), k_X5_isWord, ⟨by decide +kernel, by decide +kernel, by decide +kernel⟩⟩
set_option maxRecDepth 100000 in
theorem mw_L_124 : MSW RL 124 yL_tell cL_tell 4 (some .int) [(0, 9, 12, 13), (0, 9, 15, 28)] 3 := ⟨(ALLW_c5 14 rfl rfl), (ALLW_c5 15 rfl rfl), (ALLW_c1 0 rfl rfl), (ALLW_c5 16 rfl rfl), ⟨by decide +kernel, by decide +kernel, by decide +kernel⟩⟩
set_option maxRecDepth 100000 in
theorem mv_L_30 : MV RL 30 yX8_tell cX8_tell 3 (some .int) 1 := ⟨(ALLW_c5 17 rfl rfl), (ALLW_c5 18 rfl rfl), (ALLW_c5 19 rfl rfl), (ALLW_c1 1 rfl rfl), k_X8_tell, ⟨by decide +kernel, by decide +kernel, by decide +kernel⟩⟩
set_option maxRecDepth 100000 in
theorem mv_X8_155 : MV RX8 155 yX8_takeTold cX8_takeTold 2 (some (.object "PieceFiles$Row")) 0 := ⟨(ALLW_c5 21 rfl rfl), (ALLW_c5 23 rfl rfl), (ALLW_s 36 (by decide +kernel) (by decide +kernel)), (ALLW_c1 1 rfl rfl), k_X8_takeTold, ⟨by decide +kernel, by decide +kernel, by decide +kernel⟩⟩
set_option maxRecDepth 100000 in
theorem mw_L_128 : MSW RL 128 yL_free cL_free 4 (some .int) [(0, 9, 12, 28)] 3 := ⟨(ALLW_c5 26 rfl rfl), (ALLW_c5 27 rfl rfl), (ALLW_c1 0 rfl rfl), (ALLW_c5 28 rfl rfl), ⟨by decide +kernel, by decide +kernel, by decide +kernel⟩⟩
