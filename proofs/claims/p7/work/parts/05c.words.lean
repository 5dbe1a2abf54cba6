theorem fi9_58 : isFin RX9 9 58 := ⟨(RX9, TX9, 60), rfl, rfl, rfl⟩
theorem nf9_59 : noFin 9 59 := ⟨(RX9, TX9, 60), rfl, rfl⟩
set_option maxRecDepth 100000 in
theorem cl_L_8 : Cond.classLink RL 8 "PieceFiles" ∈ ALLW := (ALLW_c1 23 rfl rfl)
abbrev df8 : List Value := [.null, .null, .null, .null, .null, .null, .null, .null, .null, .int 0, .int 0, .int 0, .int 0, .int 0]
theorem dfok8 : ∀ j, j < 14 → defaultValue (tyX8 j) = vp_V df8 j := by
  intro j hj
  have h : ∀ k : Fin 14, defaultValue (tyX8 k) = vp_V df8 k := by decide +kernel
  exact h ⟨j, hj⟩
set_option maxRecDepth 100000 in
theorem nw_L_8 : NW RL 8 8 df8 := ⟨(RX8, TX8, 14), tyX8, rfl, uw8, tyX8_ok, cl_L_8, (ALLW_c1 24 rfl rfl), (ALLW_c1 1 rfl rfl), dfok8, fun _ => rfl, rfl⟩
set_option maxRecDepth 100000 in
theorem cl_X8_7 : Cond.classLink RX8 7 "PieceFiles$Row" ∈ ALLW := (ALLW_c1 31 rfl rfl)
abbrev df5 : List Value := [.null, .int 0]
theorem dfok5 : ∀ j, j < 2 → defaultValue (tyX5 j) = vp_V df5 j := by
  intro j hj
  have h : ∀ k : Fin 2, defaultValue (tyX5 k) = vp_V df5 k := by decide +kernel
  exact h ⟨j, hj⟩
set_option maxRecDepth 100000 in
theorem nw_X8_7 : NW RX8 7 5 df5 := ⟨(RX5, TX5, 2), tyX5, rfl, uw5, tyX5_ok, cl_X8_7, (ALLW_c1 32 rfl rfl), (ALLW_c1 2 rfl rfl), dfok5, fun _ => rfl, rfl⟩
set_option maxRecDepth 100000 in
theorem cl_X8_18 : Cond.classLink RX8 18 "PieceFiles$State" ∈ ALLW := (ALLW_c1 45 rfl rfl)
abbrev df7 : List Value := [.null, .int 0, .int 0, .int 0, .int 0, .int 0, .null, .int 0, .null, .null]
theorem dfok7 : ∀ j, j < 10 → defaultValue (tyX7 j) = vp_V df7 j := by
  intro j hj
  have h : ∀ k : Fin 10, defaultValue (tyX7 k) = vp_V df7 k := by decide +kernel
  exact h ⟨j, hj⟩
set_option maxRecDepth 100000 in
theorem nw_X8_18 : NW RX8 18 7 df7 := ⟨(RX7, TX7, 10), tyX7, rfl, uw7, tyX7_ok, cl_X8_18, (ALLW_c1 46 rfl rfl), (ALLW_c1 3 rfl rfl), dfok7, fun _ => rfl, rfl⟩
set_option maxRecDepth 100000 in
theorem cl_X7_9 : Cond.classLink RX7 9 "PieceFiles$Row" ∈ ALLW := (ALLW_c1 51 rfl rfl)
set_option maxRecDepth 100000 in
theorem nw_X7_9 : NW RX7 9 5 df5 := ⟨(RX5, TX5, 2), tyX5, rfl, uw5, tyX5_ok, cl_X7_9, (ALLW_c1 32 rfl rfl), (ALLW_c1 2 rfl rfl), dfok5, fun _ => rfl, rfl⟩
set_option maxRecDepth 100000 in
theorem cl_X8_35 : Cond.classLink RX8 35 "PieceFiles$Cut" ∈ ALLW := (ALLW_c1 101 rfl rfl)
abbrev df1 : List Value := [.null, .null, .null, .int 0, .null, .null, .null, .null]
theorem dfok1 : ∀ j, j < 8 → defaultValue (tyX1 j) = vp_V df1 j := by
  intro j hj
  have h : ∀ k : Fin 8, defaultValue (tyX1 k) = vp_V df1 k := by decide +kernel
  exact h ⟨j, hj⟩
set_option maxRecDepth 100000 in
theorem nw_X8_35 : NW RX8 35 1 df1 := ⟨(RX1, TX1, 8), tyX1, rfl, uw1, tyX1_ok, cl_X8_35, (ALLW_c1 102 rfl rfl), (ALLW_c1 4 rfl rfl), dfok1, fun _ => rfl, rfl⟩
set_option maxRecDepth 100000 in
theorem cl_X1_9 : Cond.classLink RX1 9 "PieceFiles$Row" ∈ ALLW := (ALLW_c1 107 rfl rfl)
set_option maxRecDepth 100000 in
theorem nw_X1_9 : NW RX1 9 5 df5 := ⟨(RX5, TX5, 2), tyX5, rfl, uw5, tyX5_ok, cl_X1_9, (ALLW_c1 32 rfl rfl), (ALLW_c1 2 rfl rfl), dfok5, fun _ => rfl, rfl⟩
set_option maxRecDepth 100000 in
theorem cl_X1_29 : Cond.classLink RX1 29 "PieceFiles$Scan" ∈ ALLW := (ALLW_c1 109 rfl rfl)
abbrev df6 : List Value := [.null, .int 0, .int 0, .int 0, .int 0, .int 0, .int 0, .int 0, .int 0, .int 0]
theorem dfok6 : ∀ j, j < 10 → defaultValue (tyX6 j) = vp_V df6 j := by
  intro j hj
  have h : ∀ k : Fin 10, defaultValue (tyX6 k) = vp_V df6 k := by decide +kernel
  exact h ⟨j, hj⟩
set_option maxRecDepth 100000 in
theorem nw_X1_29 : NW RX1 29 6 df6 := ⟨(RX6, TX6, 10), tyX6, rfl, uw6, tyX6_ok, cl_X1_29, (ALLW_c1 110 rfl rfl), (ALLW_c1 5 rfl rfl), dfok6, fun _ => rfl, rfl⟩
set_option maxRecDepth 100000 in
theorem cl_X6_9 : Cond.classLink RX6 9 "PieceFiles$Row" ∈ ALLW := (ALLW_c1 115 rfl rfl)
set_option maxRecDepth 100000 in
theorem nw_X6_9 : NW RX6 9 5 df5 := ⟨(RX5, TX5, 2), tyX5, rfl, uw5, tyX5_ok, cl_X6_9, (ALLW_c1 32 rfl rfl), (ALLW_c1 2 rfl rfl), dfok5, fun _ => rfl, rfl⟩
set_option maxRecDepth 100000 in
theorem cl_X1_39 : Cond.classLink RX1 39 "PieceFiles$Piece" ∈ ALLW := (ALLW_c1 158 rfl rfl)
abbrev df3 : List Value := [.int 0, .int 0, .int 0, .int 0, .int 0, .int 0, .int 0, .int 0, .int 0, .int 0, .int 0, .int 0]
theorem dfok3 : ∀ j, j < 12 → defaultValue (tyX3 j) = vp_V df3 j := by
  intro j hj
  have h : ∀ k : Fin 12, defaultValue (tyX3 k) = vp_V df3 k := by decide +kernel
  exact h ⟨j, hj⟩
set_option maxRecDepth 100000 in
theorem nw_X1_39 : NW RX1 39 3 df3 := ⟨(RX3, TX3, 12), tyX3, rfl, uw3, tyX3_ok, cl_X1_39, (ALLW_c1 160 rfl rfl), (ALLW_c1 6 rfl rfl), dfok3, fun _ => rfl, rfl⟩
set_option maxRecDepth 100000 in
theorem cl_X8_45 : Cond.classLink RX8 45 "PieceFiles$Build" ∈ ALLW := (ALLW_c2 4 rfl rfl)
abbrev df0 : List Value := [.null, .null, .null, .int 0]
theorem dfok0 : ∀ j, j < 4 → defaultValue (tyX0 j) = vp_V df0 j := by
  intro j hj
  have h : ∀ k : Fin 4, defaultValue (tyX0 k) = vp_V df0 k := by decide +kernel
  exact h ⟨j, hj⟩
set_option maxRecDepth 100000 in
theorem nw_X8_45 : NW RX8 45 0 df0 := ⟨(RX0, TX0, 4), tyX0, rfl, uw0, tyX0_ok, cl_X8_45, (ALLW_c2 5 rfl rfl), (ALLW_c1 7 rfl rfl), dfok0, fun _ => rfl, rfl⟩
set_option maxRecDepth 100000 in
theorem cl_X0_9 : Cond.classLink RX0 9 "PieceFiles$Row" ∈ ALLW := (ALLW_c2 10 rfl rfl)
set_option maxRecDepth 100000 in
theorem nw_X0_9 : NW RX0 9 5 df5 := ⟨(RX5, TX5, 2), tyX5, rfl, uw5, tyX5_ok, cl_X0_9, (ALLW_c1 32 rfl rfl), (ALLW_c1 2 rfl rfl), dfok5, fun _ => rfl, rfl⟩
set_option maxRecDepth 100000 in
theorem cl_X8_52 : Cond.classLink RX8 52 "PieceFiles$Reader" ∈ ALLW := (ALLW_c2 27 rfl rfl)
abbrev df4 : List Value := [.int 0, .int 0, .int 0, .int 0, .int 0, .null, .int 0, .null]
theorem dfok4 : ∀ j, j < 8 → defaultValue (tyX4 j) = vp_V df4 j := by
  intro j hj
  have h : ∀ k : Fin 8, defaultValue (tyX4 k) = vp_V df4 k := by decide +kernel
  exact h ⟨j, hj⟩
set_option maxRecDepth 100000 in
theorem nw_X8_52 : NW RX8 52 4 df4 := ⟨(RX4, TX4, 8), tyX4, rfl, uw4, tyX4_ok, cl_X8_52, (ALLW_c2 28 rfl rfl), (ALLW_c1 8 rfl rfl), dfok4, fun _ => rfl, rfl⟩
set_option maxRecDepth 100000 in
theorem cl_X4_9 : Cond.classLink RX4 9 "PieceFiles$Row" ∈ ALLW := (ALLW_c2 33 rfl rfl)
set_option maxRecDepth 100000 in
theorem nw_X4_9 : NW RX4 9 5 df5 := ⟨(RX5, TX5, 2), tyX5, rfl, uw5, tyX5_ok, cl_X4_9, (ALLW_c1 32 rfl rfl), (ALLW_c1 2 rfl rfl), dfok5, fun _ => rfl, rfl⟩
set_option maxRecDepth 100000 in
theorem cl_X5_10 : Cond.classLink RX5 10 "PieceFiles$Row" ∈ ALLW := (ALLW_c2 149 rfl rfl)
set_option maxRecDepth 100000 in
theorem nw_X5_10 : NW RX5 10 5 df5 := ⟨(RX5, TX5, 2), tyX5, rfl, uw5, tyX5_ok, cl_X5_10, (ALLW_c1 32 rfl rfl), (ALLW_c1 2 rfl rfl), dfok5, fun _ => rfl, rfl⟩
set_option maxRecDepth 100000 in
theorem cl_X7_51 : Cond.classLink RX7 51 "PieceFiles$Pair" ∈ ALLW := (ALLW_c3 139 rfl rfl)
abbrev df2 : List Value := [.null, .null, .null]
theorem dfok2 : ∀ j, j < 3 → defaultValue (tyX2 j) = vp_V df2 j := by
  intro j hj
  have h : ∀ k : Fin 3, defaultValue (tyX2 k) = vp_V df2 k := by decide +kernel
  exact h ⟨j, hj⟩
set_option maxRecDepth 100000 in
theorem nw_X7_51 : NW RX7 51 2 df2 := ⟨(RX2, TX2, 3), tyX2, rfl, uw2, tyX2_ok, cl_X7_51, (ALLW_c3 140 rfl rfl), (ALLW_c1 15 rfl rfl), dfok2, fun _ => rfl, rfl⟩
set_option maxRecDepth 100000 in
theorem cl_X8_170 : Cond.classLink RX8 170 "java/lang/IllegalStateException" ∈ ALLW := (ALLW_c3 169 rfl rfl)
set_option maxRecDepth 100000 in
theorem cl_L_13 : Cond.classLink RL 13 "java/lang/IllegalArgumentException" ∈ ALLW := (ALLW_c4 76 rfl rfl)
set_option maxRecDepth 100000 in
theorem cl_X8_116 : Cond.classLink RX8 116 "java/lang/IllegalArgumentException" ∈ ALLW := (ALLW_c4 188 rfl rfl)
set_option maxRecDepth 100000 in
theorem cl_L_23 : Cond.classLink RL 23 "java/util/NoSuchElementException" ∈ ALLW := (ALLW_c4 215 rfl rfl)
set_option maxRecDepth 100000 in
theorem cl_X8_142 : Cond.classLink RX8 142 "java/util/NoSuchElementException" ∈ ALLW := (ALLW_c4 220 rfl rfl)
set_option maxRecDepth 100000 in
theorem cl_L_28 : Cond.classLink RL 28 "java/lang/IllegalStateException" ∈ ALLW := (ALLW_c5 0 rfl rfl)
set_option maxRecDepth 100000 in
theorem cl_L_52 : Cond.classLink RL 52 "java/lang/IndexOutOfBoundsException" ∈ ALLW := (ALLW_c5 69 rfl rfl)
set_option maxRecDepth 100000 in
theorem cl_X8_321 : Cond.classLink RX8 321 "java/lang/IndexOutOfBoundsException" ∈ ALLW := (ALLW_c5 78 rfl rfl)
set_option maxRecDepth 100000 in
theorem cl_L_79 : Cond.classLink RL 79 "PieceFilesModel" ∈ ALLW := (ALLW_c5 177 rfl rfl)
abbrev df9 : List Value := [.int 0, .null, .null, .null, .null, .int 0, .int 0, .int 0, .null, .int 0, .int 0, .int 0, .int 0, .null, .null, .null, .int 0, .null, .null, .null, .null, .null, .int 0, .null, .null, .null, .int 0, .null, .null, .null, .null, .null, .null, .int 0, .null, .null, .null, .null, .null, .null, .null, .null, .null, .null, .null, .int 0, .null, .null, .int 0, .null, .null, .null, .null, .null, .int 0, .int 0, .int 0, .int 0, .null, .int 0]
theorem dfok9 : ∀ j, j < 60 → defaultValue (tyX9 j) = vp_V df9 j := by
  intro j hj
  have h : ∀ k : Fin 60, defaultValue (tyX9 k) = vp_V df9 k := by decide +kernel
  exact h ⟨j, hj⟩
set_option maxRecDepth 100000 in
theorem nw_L_79 : NW RL 79 9 df9 := ⟨(RX9, TX9, 60), tyX9, rfl, uw9, tyX9_ok, cl_L_79, (ALLW_c5 178 rfl rfl), (ALLW_c1 9 rfl rfl), dfok9, fun _ => rfl, rfl⟩
set_option maxRecDepth 100000 in
theorem ac_int : Cond.arrayClass .int ∈ ALLW := (ALLW_c1 44 rfl rfl)
set_option maxRecDepth 100000 in
theorem ac_long : Cond.arrayClass .long ∈ ALLW := (ALLW_c8 87 rfl rfl)
set_option maxRecDepth 100000 in
theorem oi2 : Cond.instanceMethod Lib.objectInit ∈ ALLW := (ALLW_c1 29 rfl rfl)
set_option maxRecDepth 100000 in
theorem oi3 : Cond.code Lib.objectInit ⟨#[0xb1]⟩ 1 none ∈ ALLW := (ALLW_c1 30 rfl rfl)
set_option maxRecDepth 100000 in
theorem k_X8_init : Cond.code yX8_init cX8_init 2 none ∈ ALLW := (ALLW_c1 27 rfl rfl)
set_option maxRecDepth 100000 in
theorem k_X5_init : Cond.code yX5_init cX5_init 2 none ∈ ALLW := (ALLW_c1 35 rfl rfl)
set_option maxRecDepth 100000 in
theorem k_X7_init : Cond.code yX7_init cX7_init 1 none ∈ ALLW := (ALLW_c1 49 rfl rfl)
set_option maxRecDepth 100000 in
theorem k_X1_init : Cond.code yX1_init cX1_init 2 none ∈ ALLW := (ALLW_c1 105 rfl rfl)
set_option maxRecDepth 100000 in
theorem k_X6_init : Cond.code yX6_init cX6_init 1 none ∈ ALLW := (ALLW_c1 113 rfl rfl)
set_option maxRecDepth 100000 in
theorem k_X3_init : Cond.code yX3_init cX3_init 1 none ∈ ALLW := (ALLW_c1 163 rfl rfl)
set_option maxRecDepth 100000 in
theorem k_X0_init : Cond.code yX0_init cX0_init 1 none ∈ ALLW := (ALLW_c2 8 rfl rfl)
set_option maxRecDepth 100000 in
theorem k_X4_init : Cond.code yX4_init cX4_init 1 none ∈ ALLW := (ALLW_c2 31 rfl rfl)
set_option maxRecDepth 100000 in
theorem k_X8_feed : Cond.code yX8_feed cX8_feed 6 (some .int) ∈ ALLW := (ALLW_c2 112 rfl rfl)
set_option maxRecDepth 100000 in
theorem k_X5_size : Cond.code yX5_size cX5_size 1 (some .int) ∈ ALLW := (ALLW_c2 116 rfl rfl)
set_option maxRecDepth 100000 in
theorem k_X8_addFour : Cond.code yX8_addFour cX8_addFour 3 none ∈ ALLW := (ALLW_c2 120 rfl rfl)
set_option maxRecDepth 100000 in
theorem k_X5_add : Cond.code yX5_add cX5_add 2 (some .boolean) ∈ ALLW := (ALLW_c2 124 rfl rfl)
set_option maxRecDepth 100000 in
theorem k_X8_end : Cond.code yX8_end cX8_end 2 (some .boolean) ∈ ALLW := (ALLW_c2 128 rfl rfl)
set_option maxRecDepth 100000 in
theorem k_X5_cutTo : Cond.code yX5_cutTo cX5_cutTo 2 none ∈ ALLW := (ALLW_c2 132 rfl rfl)
set_option maxRecDepth 100000 in
theorem k_X8_fault : Cond.code yX8_fault cX8_fault 1 (some .int) ∈ ALLW := (ALLW_c2 136 rfl rfl)
set_option maxRecDepth 100000 in
theorem k_X8_why : Cond.code yX8_why cX8_why 1 (some .int) ∈ ALLW := (ALLW_c2 140 rfl rfl)
set_option maxRecDepth 100000 in
theorem k_X8_file : Cond.code yX8_file cX8_file 1 (some .int) ∈ ALLW := (ALLW_c2 144 rfl rfl)
set_option maxRecDepth 100000 in
theorem k_X5_part : Cond.code yX5_part cX5_part 4 (some (.object "PieceFiles$Row")) ∈ ALLW := (ALLW_c2 148 rfl rfl)
set_option maxRecDepth 100000 in
theorem k_X5_addPart : Cond.code yX5_addPart cX5_addPart 6 (some .boolean) ∈ ALLW := (ALLW_c2 154 rfl rfl)
set_option maxRecDepth 100000 in
theorem k_X5_get : Cond.code yX5_get cX5_get 2 (some .int) ∈ ALLW := (ALLW_c2 158 rfl rfl)
set_option maxRecDepth 100000 in
theorem k_X8_cutAnew : Cond.code yX8_cutAnew cX8_cutAnew 1 (some .int) ∈ ALLW := (ALLW_c2 163 rfl rfl)
set_option maxRecDepth 100000 in
theorem k_X7_forgetTold : Cond.code yX7_forgetTold cX7_forgetTold 2 none ∈ ALLW := (ALLW_c2 167 rfl rfl)
set_option maxRecDepth 100000 in
theorem k_X1_find : Cond.code yX1_find cX1_find 5 none ∈ ALLW := (ALLW_c2 171 rfl rfl)
set_option maxRecDepth 100000 in
theorem k_X6_start : Cond.code yX6_start cX6_start 3 none ∈ ALLW := (ALLW_c2 176 rfl rfl)
set_option maxRecDepth 100000 in
theorem k_X6_next : Cond.code yX6_next cX6_next 2 (some .boolean) ∈ ALLW := (ALLW_c2 180 rfl rfl)
set_option maxRecDepth 100000 in
theorem k_X6_tryLine : Cond.code yX6_tryLine cX6_tryLine 5 none ∈ ALLW := (ALLW_c2 185 rfl rfl)
set_option maxRecDepth 100000 in
theorem k_X5_next : Cond.code yX5_next cX5_next 5 (some .int) ∈ ALLW := (ALLW_c2 189 rfl rfl)
set_option maxRecDepth 100000 in
theorem k_X5_behindBlanks : Cond.code yX5_behindBlanks cX5_behindBlanks 4 (some .int) ∈ ALLW := (ALLW_c2 193 rfl rfl)
set_option maxRecDepth 100000 in
theorem k_X6_tryCell : Cond.code yX6_tryCell cX6_tryCell 1 none ∈ ALLW := (ALLW_c2 198 rfl rfl)
set_option maxRecDepth 100000 in
theorem k_X5_cellQuoteEnd : Cond.code yX5_cellQuoteEnd cX5_cellQuoteEnd 4 (some .int) ∈ ALLW := (ALLW_c2 202 rfl rfl)
set_option maxRecDepth 100000 in
theorem k_X5_cellEnd : Cond.code yX5_cellEnd cX5_cellEnd 3 (some .int) ∈ ALLW := (ALLW_c2 206 rfl rfl)
set_option maxRecDepth 100000 in
theorem k_X6_tryMarkup : Cond.code yX6_tryMarkup cX6_tryMarkup 3 none ∈ ALLW := (ALLW_c2 210 rfl rfl)
set_option maxRecDepth 100000 in
theorem k_X5_behindSpace : Cond.code yX5_behindSpace cX5_behindSpace 4 (some .int) ∈ ALLW := (ALLW_c2 214 rfl rfl)
set_option maxRecDepth 100000 in
theorem k_X6_tryQuotes : Cond.code yX6_tryQuotes cX6_tryQuotes 1 none ∈ ALLW := (ALLW_c2 218 rfl rfl)
set_option maxRecDepth 100000 in
theorem k_X5_quoteEnd : Cond.code yX5_quoteEnd cX5_quoteEnd 4 (some .int) ∈ ALLW := (ALLW_c2 222 rfl rfl)
set_option maxRecDepth 100000 in
theorem k_X7_isLocked : Cond.code yX7_isLocked cX7_isLocked 4 (some .boolean) ∈ ALLW := (ALLW_c2 226 rfl rfl)
set_option maxRecDepth 100000 in
theorem k_X5_isSame : Cond.code yX5_isSame cX5_isSame 6 (some .boolean) ∈ ALLW := (ALLW_c2 231 rfl rfl)
set_option maxRecDepth 100000 in
theorem k_X1_readOuter : Cond.code yX1_readOuter cX1_readOuter 4 none ∈ ALLW := (ALLW_c2 236 rfl rfl)
set_option maxRecDepth 100000 in
theorem k_X6_read : Cond.code yX6_read cX6_read 2 none ∈ ALLW := (ALLW_c3 0 rfl rfl)
set_option maxRecDepth 100000 in
theorem k_X6_readMarkup : Cond.code yX6_readMarkup cX6_readMarkup 3 none ∈ ALLW := (ALLW_c3 4 rfl rfl)
set_option maxRecDepth 100000 in
theorem k_X6_readBack : Cond.code yX6_readBack cX6_readBack 3 none ∈ ALLW := (ALLW_c3 8 rfl rfl)
set_option maxRecDepth 100000 in
theorem k_J9_max_7cf53 : Cond.code yJ9_max_7cf53 cJ9_max_7cf53 2 (some .int) ∈ ALLW := (ALLW_c3 12 rfl rfl)
set_option maxRecDepth 100000 in
theorem k_X1_settle : Cond.code yX1_settle cX1_settle 7 none ∈ ALLW := (ALLW_c3 16 rfl rfl)
set_option maxRecDepth 100000 in
theorem k_X5_hasLetter : Cond.code yX5_hasLetter cX5_hasLetter 3 (some .boolean) ∈ ALLW := (ALLW_c3 20 rfl rfl)
set_option maxRecDepth 100000 in
theorem k_X8_isLetter : Cond.code yX8_isLetter cX8_isLetter 1 (some .boolean) ∈ ALLW := (ALLW_c3 23 rfl rfl)
set_option maxRecDepth 100000 in
theorem k_X1_takeWithin : Cond.code yX1_takeWithin cX1_takeWithin 5 none ∈ ALLW := (ALLW_c3 27 rfl rfl)
set_option maxRecDepth 100000 in
theorem k_X0_make : Cond.code yX0_make cX0_make 8 (some .boolean) ∈ ALLW := (ALLW_c3 32 rfl rfl)
set_option maxRecDepth 100000 in
theorem k_X1_size : Cond.code yX1_size cX1_size 1 (some .int) ∈ ALLW := (ALLW_c3 37 rfl rfl)
set_option maxRecDepth 100000 in
theorem k_X1_get : Cond.code yX1_get cX1_get 2 (some (.object "PieceFiles$Piece")) ∈ ALLW := (ALLW_c3 41 rfl rfl)
set_option maxRecDepth 100000 in
theorem k_X7_toldFor : Cond.code yX7_toldFor cX7_toldFor 2 (some (.object "PieceFiles$Row")) ∈ ALLW := (ALLW_c3 47 rfl rfl)
set_option maxRecDepth 100000 in
theorem k_X0_escape : Cond.code yX0_escape cX0_escape 6 (some .boolean) ∈ ALLW := (ALLW_c3 51 rfl rfl)
set_option maxRecDepth 100000 in
theorem k_X5_breaksCell : Cond.code yX5_breaksCell cX5_breaksCell 2 (some .boolean) ∈ ALLW := (ALLW_c3 55 rfl rfl)
set_option maxRecDepth 100000 in
theorem k_X0_addEscaped : Cond.code yX0_addEscaped cX0_addEscaped 6 none ∈ ALLW := (ALLW_c3 59 rfl rfl)
set_option maxRecDepth 100000 in
theorem k_X0_addInLine : Cond.code yX0_addInLine cX0_addInLine 3 none ∈ ALLW := (ALLW_c3 63 rfl rfl)
set_option maxRecDepth 100000 in
theorem k_X0_addDoubled : Cond.code yX0_addDoubled cX0_addDoubled 2 none ∈ ALLW := (ALLW_c3 66 rfl rfl)
set_option maxRecDepth 100000 in
theorem k_X0_addInMarkup : Cond.code yX0_addInMarkup cX0_addInMarkup 2 none ∈ ALLW := (ALLW_c3 69 rfl rfl)
set_option maxRecDepth 100000 in
theorem k_X0_addInQuotes : Cond.code yX0_addInQuotes cX0_addInQuotes 2 none ∈ ALLW := (ALLW_c3 72 rfl rfl)
set_option maxRecDepth 100000 in
theorem k_X8_unlock : Cond.code yX8_unlock cX8_unlock 1 (some .int) ∈ ALLW := (ALLW_c3 77 rfl rfl)
set_option maxRecDepth 100000 in
theorem k_X7_copyFrom : Cond.code yX7_copyFrom cX7_copyFrom 3 none ∈ ALLW := (ALLW_c3 81 rfl rfl)
set_option maxRecDepth 100000 in
theorem k_X8_doAct : Cond.code yX8_doAct cX8_doAct 6 (some .int) ∈ ALLW := (ALLW_c3 85 rfl rfl)
set_option maxRecDepth 100000 in
theorem k_X7_addLock : Cond.code yX7_addLock cX7_addLock 4 (some .int) ∈ ALLW := (ALLW_c3 89 rfl rfl)
set_option maxRecDepth 100000 in
theorem k_X8_freePiece : Cond.code yX8_freePiece cX8_freePiece 2 (some .int) ∈ ALLW := (ALLW_c3 93 rfl rfl)
set_option maxRecDepth 100000 in
theorem k_X7_setTold : Cond.code yX7_setTold cX7_setTold 3 none ∈ ALLW := (ALLW_c3 99 rfl rfl)
set_option maxRecDepth 100000 in
theorem k_X8_spreadPiece : Cond.code yX8_spreadPiece cX8_spreadPiece 4 (some .int) ∈ ALLW := (ALLW_c3 103 rfl rfl)
set_option maxRecDepth 100000 in
theorem k_X1_areLike : Cond.code yX1_areLike cX1_areLike 5 (some .boolean) ∈ ALLW := (ALLW_c3 107 rfl rfl)
set_option maxRecDepth 100000 in
theorem k_X8_swapPieces : Cond.code yX8_swapPieces cX8_swapPieces 7 (some .int) ∈ ALLW := (ALLW_c3 114 rfl rfl)
set_option maxRecDepth 100000 in
theorem k_X8_nowSize : Cond.code yX8_nowSize cX8_nowSize 4 (some .int) ∈ ALLW := (ALLW_c3 118 rfl rfl)
set_option maxRecDepth 100000 in
theorem k_X8_copyOfNow : Cond.code yX8_copyOfNow cX8_copyOfNow 4 (some (.object "PieceFiles$Row")) ∈ ALLW := (ALLW_c3 122 rfl rfl)
set_option maxRecDepth 100000 in
theorem k_X8_wipePieces : Cond.code yX8_wipePieces cX8_wipePieces 1 (some .int) ∈ ALLW := (ALLW_c3 126 rfl rfl)
set_option maxRecDepth 100000 in
theorem k_X7_toldCount : Cond.code yX7_toldCount cX7_toldCount 3 (some .int) ∈ ALLW := (ALLW_c3 130 rfl rfl)
set_option maxRecDepth 100000 in
theorem k_X8_tellPiece : Cond.code yX8_tellPiece cX8_tellPiece 4 (some .int) ∈ ALLW := (ALLW_c3 134 rfl rfl)
set_option maxRecDepth 100000 in
theorem k_X7_addPair : Cond.code yX7_addPair cX7_addPair 3 none ∈ ALLW := (ALLW_c3 138 rfl rfl)
set_option maxRecDepth 100000 in
theorem k_X2_init : Cond.code yX2_init cX2_init 4 none ∈ ALLW := (ALLW_c3 143 rfl rfl)
set_option maxRecDepth 100000 in
theorem k_J9_min_7cf53 : Cond.code yJ9_min_7cf53 cJ9_min_7cf53 2 (some .int) ∈ ALLW := (ALLW_c3 160 rfl rfl)
set_option maxRecDepth 100000 in
theorem k_X8_finishCall : Cond.code yX8_finishCall cX8_finishCall 2 none ∈ ALLW := (ALLW_c3 164 rfl rfl)
set_option maxRecDepth 100000 in
theorem k_X8_restore : Cond.code yX8_restore cX8_restore 2 none ∈ ALLW := (ALLW_c3 168 rfl rfl)
set_option maxRecDepth 100000 in
theorem k_X8_rememberAhead : Cond.code yX8_rememberAhead cX8_rememberAhead 1 none ∈ ALLW := (ALLW_c4 1 rfl rfl)
set_option maxRecDepth 100000 in
theorem k_X8_forgetOldest : Cond.code yX8_forgetOldest cX8_forgetOldest 4 none ∈ ALLW := (ALLW_c4 5 rfl rfl)
set_option maxRecDepth 100000 in
theorem k_X8_holder : Cond.code yX8_holder cX8_holder 4 (some .int) ∈ ALLW := (ALLW_c4 9 rfl rfl)
set_option maxRecDepth 100000 in
theorem k_X8_at : Cond.code yX8_at cX8_at 3 (some .int) ∈ ALLW := (ALLW_c4 13 rfl rfl)
set_option maxRecDepth 100000 in
theorem k_X8_memory : Cond.code yX8_memory cX8_memory 6 (some .int) ∈ ALLW := (ALLW_c4 18 rfl rfl)
set_option maxRecDepth 100000 in
theorem k_X8_twice : Cond.code yX8_twice cX8_twice 4 (some .boolean) ∈ ALLW := (ALLW_c4 22 rfl rfl)
set_option maxRecDepth 100000 in
theorem k_X8_cutAgain : Cond.code yX8_cutAgain cX8_cutAgain 1 none ∈ ALLW := (ALLW_c4 26 rfl rfl)
set_option maxRecDepth 100000 in
theorem k_X8_isNow : Cond.code yX8_isNow cX8_isNow 5 (some .boolean) ∈ ALLW := (ALLW_c4 30 rfl rfl)
set_option maxRecDepth 100000 in
theorem k_X8_image : Cond.code yX8_image cX8_image 1 none ∈ ALLW := (ALLW_c4 35 rfl rfl)
set_option maxRecDepth 100000 in
theorem k_X8_back : Cond.code yX8_back cX8_back 1 (some .boolean) ∈ ALLW := (ALLW_c4 39 rfl rfl)
set_option maxRecDepth 100000 in
theorem k_X8_count : Cond.code yX8_count cX8_count 2 (some .int) ∈ ALLW := (ALLW_c4 43 rfl rfl)
set_option maxRecDepth 100000 in
theorem k_X1_bytesInPieces : Cond.code yX1_bytesInPieces cX1_bytesInPieces 4 (some .int) ∈ ALLW := (ALLW_c4 47 rfl rfl)
set_option maxRecDepth 100000 in
theorem k_X1_unlikeCount : Cond.code yX1_unlikeCount cX1_unlikeCount 3 (some .int) ∈ ALLW := (ALLW_c4 51 rfl rfl)
set_option maxRecDepth 100000 in
theorem k_X1_hasLikeAhead : Cond.code yX1_hasLikeAhead cX1_hasLikeAhead 3 (some .boolean) ∈ ALLW := (ALLW_c4 55 rfl rfl)
set_option maxRecDepth 100000 in
theorem k_X8_countAllWords : Cond.code yX8_countAllWords cX8_countAllWords 4 (some .int) ∈ ALLW := (ALLW_c4 60 rfl rfl)
set_option maxRecDepth 100000 in
theorem k_X8_countWords : Cond.code yX8_countWords cX8_countWords 4 (some .int) ∈ ALLW := (ALLW_c4 64 rfl rfl)
set_option maxRecDepth 100000 in
theorem k_X5_countWords : Cond.code yX5_countWords cX5_countWords 7 (some .int) ∈ ALLW := (ALLW_c4 68 rfl rfl)
set_option maxRecDepth 100000 in
theorem k_X1_longestText : Cond.code yX1_longestText cX1_longestText 4 (some .int) ∈ ALLW := (ALLW_c4 72 rfl rfl)
-- yL_acts (Option.some Jvm.ClassFile.FieldType.int) [((0 : Nat), (8 : Nat), (11 : Nat), (13 : Nat))]
set_option maxRecDepth 100000 in
theorem k_X8_acts : Cond.code yX8_acts cX8_acts 6 (some .int) ∈ ALLW := (ALLW_c4 80 rfl rfl)
set_option maxRecDepth 100000 in
theorem k_X4_start : Cond.code yX4_start cX4_start 2 none ∈ ALLW := (ALLW_c4 84 rfl rfl)
set_option maxRecDepth 100000 in
theorem k_X4_readAct : Cond.code yX4_readAct cX4_readAct 3 (some .int) ∈ ALLW := (ALLW_c4 90 rfl rfl)
set_option maxRecDepth 100000 in
theorem k_X4_lettersEnd : Cond.code yX4_lettersEnd cX4_lettersEnd 2 (some .int) ∈ ALLW := (ALLW_c4 94 rfl rfl)
set_option maxRecDepth 100000 in
theorem k_X4_actNamed : Cond.code yX4_actNamed cX4_actNamed 4 (some .int) ∈ ALLW := (ALLW_c4 99 rfl rfl)
set_option maxRecDepth 100000 in
theorem k_X4_nameOf : Cond.code yX4_nameOf cX4_nameOf 1 (some (.object "java/lang/String")) ∈ ALLW := (ALLW_c4 102 rfl rfl)
set_option maxRecDepth 100000 in
theorem k_X5_isText : Cond.code yX5_isText cX5_isText 5 (some .boolean) ∈ ALLW := (ALLW_c4 118 rfl rfl)
set_option maxRecDepth 100000 in
theorem k_J0_length_8abf5 : Cond.code yJ0_length_8abf5 cJ0_length_8abf5 1 (some .int) ∈ ALLW := (ALLW_c4 122 rfl rfl)
set_option maxRecDepth 100000 in
theorem k_J0_coder_7d493 : Cond.code yJ0_coder_7d493 cJ0_coder_7d493 1 (some .byte) ∈ ALLW := (ALLW_c4 126 rfl rfl)
