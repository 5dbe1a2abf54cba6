theorem dfok5 : ∀ j, j < 2 → defaultValue (tyX5 j) = vp_V df5 j := by
  intro j hj
  have h : ∀ k : Fin 2, defaultValue (tyX5 k) = vp_V df5 k := by decide +kernel
  exact h ⟨j, hj⟩
theorem nw_X8_7 : NW RX8 7 5 df5 := ⟨(RX5, TX5, 2), tyX5, rfl, uw5, tyX5_ok, cl_X8_7, (ALLW_t 32 (by decide +kernel) (by decide +kernel)), (ALLW_t 2 (by decide +kernel) (by decide +kernel)), dfok5, fun _ => rfl, rfl⟩
theorem cl_X8_18 : Cond.classLink RX8 18 "PieceFiles$State" ∈ ALLW := (ALLW_t 45 (by decide +kernel) (by decide +kernel))
abbrev df7 : List Value := [.null, .int 0, .int 0, .int 0, .int 0, .int 0, .null, .int 0, .null, .null]
theorem dfok7 : ∀ j, j < 10 → defaultValue (tyX7 j) = vp_V df7 j := by
  intro j hj
  have h : ∀ k : Fin 10, defaultValue (tyX7 k) = vp_V df7 k := by decide +kernel
  exact h ⟨j, hj⟩
theorem nw_X8_18 : NW RX8 18 7 df7 := ⟨(RX7, TX7, 10), tyX7, rfl, uw7, tyX7_ok, cl_X8_18, (ALLW_t 46 (by decide +kernel) (by decide +kernel)), (ALLW_t 3 (by decide +kernel) (by decide +kernel)), dfok7, fun _ => rfl, rfl⟩
theorem cl_X7_9 : Cond.classLink RX7 9 "PieceFiles$Row" ∈ ALLW := (ALLW_t 51 (by decide +kernel) (by decide +kernel))
theorem nw_X7_9 : NW RX7 9 5 df5 := ⟨(RX5, TX5, 2), tyX5, rfl, uw5, tyX5_ok, cl_X7_9, (ALLW_t 32 (by decide +kernel) (by decide +kernel)), (ALLW_t 2 (by decide +kernel) (by decide +kernel)), dfok5, fun _ => rfl, rfl⟩
theorem cl_X8_35 : Cond.classLink RX8 35 "PieceFiles$Cut" ∈ ALLW := (ALLW_t 101 (by decide +kernel) (by decide +kernel))
abbrev df1 : List Value := [.null, .null, .null, .int 0, .null, .null, .null, .null]
theorem dfok1 : ∀ j, j < 8 → defaultValue (tyX1 j) = vp_V df1 j := by
  intro j hj
  have h : ∀ k : Fin 8, defaultValue (tyX1 k) = vp_V df1 k := by decide +kernel
  exact h ⟨j, hj⟩
theorem nw_X8_35 : NW RX8 35 1 df1 := ⟨(RX1, TX1, 8), tyX1, rfl, uw1, tyX1_ok, cl_X8_35, (ALLW_t 102 (by decide +kernel) (by decide +kernel)), (ALLW_t 4 (by decide +kernel) (by decide +kernel)), dfok1, fun _ => rfl, rfl⟩
theorem cl_X1_9 : Cond.classLink RX1 9 "PieceFiles$Row" ∈ ALLW := (ALLW_t 107 (by decide +kernel) (by decide +kernel))
theorem nw_X1_9 : NW RX1 9 5 df5 := ⟨(RX5, TX5, 2), tyX5, rfl, uw5, tyX5_ok, cl_X1_9, (ALLW_t 32 (by decide +kernel) (by decide +kernel)), (ALLW_t 2 (by decide +kernel) (by decide +kernel)), dfok5, fun _ => rfl, rfl⟩
theorem cl_X1_29 : Cond.classLink RX1 29 "PieceFiles$Scan" ∈ ALLW := (ALLW_t 109 (by decide +kernel) (by decide +kernel))
abbrev df6 : List Value := [.null, .int 0, .int 0, .int 0, .int 0, .int 0, .int 0, .int 0, .int 0, .int 0]
theorem dfok6 : ∀ j, j < 10 → defaultValue (tyX6 j) = vp_V df6 j := by
  intro j hj
  have h : ∀ k : Fin 10, defaultValue (tyX6 k) = vp_V df6 k := by decide +kernel
  exact h ⟨j, hj⟩
theorem nw_X1_29 : NW RX1 29 6 df6 := ⟨(RX6, TX6, 10), tyX6, rfl, uw6, tyX6_ok, cl_X1_29, (ALLW_t 110 (by decide +kernel) (by decide +kernel)), (ALLW_t 5 (by decide +kernel) (by decide +kernel)), dfok6, fun _ => rfl, rfl⟩
theorem cl_X6_9 : Cond.classLink RX6 9 "PieceFiles$Row" ∈ ALLW := (ALLW_t 115 (by decide +kernel) (by decide +kernel))
theorem nw_X6_9 : NW RX6 9 5 df5 := ⟨(RX5, TX5, 2), tyX5, rfl, uw5, tyX5_ok, cl_X6_9, (ALLW_t 32 (by decide +kernel) (by decide +kernel)), (ALLW_t 2 (by decide +kernel) (by decide +kernel)), dfok5, fun _ => rfl, rfl⟩
theorem cl_X1_39 : Cond.classLink RX1 39 "PieceFiles$Piece" ∈ ALLW := (ALLW_t 158 (by decide +kernel) (by decide +kernel))
abbrev df3 : List Value := [.int 0, .int 0, .int 0, .int 0, .int 0, .int 0, .int 0, .int 0, .int 0, .int 0, .int 0, .int 0]
theorem dfok3 : ∀ j, j < 12 → defaultValue (tyX3 j) = vp_V df3 j := by
  intro j hj
  have h : ∀ k : Fin 12, defaultValue (tyX3 k) = vp_V df3 k := by decide +kernel
  exact h ⟨j, hj⟩
theorem nw_X1_39 : NW RX1 39 3 df3 := ⟨(RX3, TX3, 12), tyX3, rfl, uw3, tyX3_ok, cl_X1_39, (ALLW_t 160 (by decide +kernel) (by decide +kernel)), (ALLW_t 6 (by decide +kernel) (by decide +kernel)), dfok3, fun _ => rfl, rfl⟩
theorem cl_X8_45 : Cond.classLink RX8 45 "PieceFiles$Build" ∈ ALLW := (ALLW_t 244 (by decide +kernel) (by decide +kernel))
abbrev df0 : List Value := [.null, .null, .null, .int 0]
theorem dfok0 : ∀ j, j < 4 → defaultValue (tyX0 j) = vp_V df0 j := by
  intro j hj
  have h : ∀ k : Fin 4, defaultValue (tyX0 k) = vp_V df0 k := by decide +kernel
  exact h ⟨j, hj⟩
theorem nw_X8_45 : NW RX8 45 0 df0 := ⟨(RX0, TX0, 4), tyX0, rfl, uw0, tyX0_ok, cl_X8_45, (ALLW_t 245 (by decide +kernel) (by decide +kernel)), (ALLW_t 7 (by decide +kernel) (by decide +kernel)), dfok0, fun _ => rfl, rfl⟩
theorem cl_X0_9 : Cond.classLink RX0 9 "PieceFiles$Row" ∈ ALLW := (ALLW_t 250 (by decide +kernel) (by decide +kernel))
theorem nw_X0_9 : NW RX0 9 5 df5 := ⟨(RX5, TX5, 2), tyX5, rfl, uw5, tyX5_ok, cl_X0_9, (ALLW_t 32 (by decide +kernel) (by decide +kernel)), (ALLW_t 2 (by decide +kernel) (by decide +kernel)), dfok5, fun _ => rfl, rfl⟩
theorem cl_X8_52 : Cond.classLink RX8 52 "PieceFiles$Reader" ∈ ALLW := (ALLW_t 267 (by decide +kernel) (by decide +kernel))
abbrev df4 : List Value := [.int 0, .int 0, .int 0, .int 0, .int 0, .null, .int 0, .null]
theorem dfok4 : ∀ j, j < 8 → defaultValue (tyX4 j) = vp_V df4 j := by
  intro j hj
  have h : ∀ k : Fin 8, defaultValue (tyX4 k) = vp_V df4 k := by decide +kernel
  exact h ⟨j, hj⟩
theorem nw_X8_52 : NW RX8 52 4 df4 := ⟨(RX4, TX4, 8), tyX4, rfl, uw4, tyX4_ok, cl_X8_52, (ALLW_t 268 (by decide +kernel) (by decide +kernel)), (ALLW_t 8 (by decide +kernel) (by decide +kernel)), dfok4, fun _ => rfl, rfl⟩
theorem cl_X4_9 : Cond.classLink RX4 9 "PieceFiles$Row" ∈ ALLW := (ALLW_t 273 (by decide +kernel) (by decide +kernel))
theorem nw_X4_9 : NW RX4 9 5 df5 := ⟨(RX5, TX5, 2), tyX5, rfl, uw5, tyX5_ok, cl_X4_9, (ALLW_t 32 (by decide +kernel) (by decide +kernel)), (ALLW_t 2 (by decide +kernel) (by decide +kernel)), dfok5, fun _ => rfl, rfl⟩
theorem cl_X5_10 : Cond.classLink RX5 10 "PieceFiles$Row" ∈ ALLW := (ALLW_t 389 (by decide +kernel) (by decide +kernel))
theorem nw_X5_10 : NW RX5 10 5 df5 := ⟨(RX5, TX5, 2), tyX5, rfl, uw5, tyX5_ok, cl_X5_10, (ALLW_t 32 (by decide +kernel) (by decide +kernel)), (ALLW_t 2 (by decide +kernel) (by decide +kernel)), dfok5, fun _ => rfl, rfl⟩
theorem cl_X7_51 : Cond.classLink RX7 51 "PieceFiles$Pair" ∈ ALLW := (ALLW_t 619 (by decide +kernel) (by decide +kernel))
abbrev df2 : List Value := [.null, .null, .null]
theorem dfok2 : ∀ j, j < 3 → defaultValue (tyX2 j) = vp_V df2 j := by
  intro j hj
  have h : ∀ k : Fin 3, defaultValue (tyX2 k) = vp_V df2 k := by decide +kernel
  exact h ⟨j, hj⟩
theorem nw_X7_51 : NW RX7 51 2 df2 := ⟨(RX2, TX2, 3), tyX2, rfl, uw2, tyX2_ok, cl_X7_51, (ALLW_t 620 (by decide +kernel) (by decide +kernel)), (ALLW_t 15 (by decide +kernel) (by decide +kernel)), dfok2, fun _ => rfl, rfl⟩
theorem cl_X8_170 : Cond.classLink RX8 170 "java/lang/IllegalStateException" ∈ ALLW := (ALLW_t 649 (by decide +kernel) (by decide +kernel))
theorem cl_L_13 : Cond.classLink RL 13 "java/lang/IllegalArgumentException" ∈ ALLW := (ALLW_t 796 (by decide +kernel) (by decide +kernel))
theorem cl_X8_116 : Cond.classLink RX8 116 "java/lang/IllegalArgumentException" ∈ ALLW := (ALLW_t 908 (by decide +kernel) (by decide +kernel))
theorem cl_L_23 : Cond.classLink RL 23 "java/util/NoSuchElementException" ∈ ALLW := (ALLW_t 935 (by decide +kernel) (by decide +kernel))
theorem cl_X8_142 : Cond.classLink RX8 142 "java/util/NoSuchElementException" ∈ ALLW := (ALLW_t 940 (by decide +kernel) (by decide +kernel))
theorem cl_L_28 : Cond.classLink RL 28 "java/lang/IllegalStateException" ∈ ALLW := (ALLW_t 960 (by decide +kernel) (by decide +kernel))
theorem cl_L_52 : Cond.classLink RL 52 "java/lang/IndexOutOfBoundsException" ∈ ALLW := (ALLW_t 1029 (by decide +kernel) (by decide +kernel))
theorem cl_X8_321 : Cond.classLink RX8 321 "java/lang/IndexOutOfBoundsException" ∈ ALLW := (ALLW_t 1038 (by decide +kernel) (by decide +kernel))
theorem cl_L_79 : Cond.classLink RL 79 "PieceFilesModel" ∈ ALLW := (ALLW_t 1137 (by decide +kernel) (by decide +kernel))
abbrev df9 : List Value := [.int 0, .null, .null, .null, .null, .int 0, .int 0, .int 0, .null, .int 0, .int 0, .int 0, .int 0, .null, .null, .null, .int 0, .null, .null, .null, .null, .null, .int 0, .null, .null, .null, .int 0, .null, .null, .null, .null, .null, .null, .int 0, .null, .null, .null, .null, .null, .null, .null, .null, .null, .null, .null, .int 0, .null, .null, .int 0, .null, .null, .null, .null, .null, .int 0, .int 0, .int 0, .int 0, .null, .int 0]
theorem dfok9 : ∀ j, j < 60 → defaultValue (tyX9 j) = vp_V df9 j := by
  intro j hj
  have h : ∀ k : Fin 60, defaultValue (tyX9 k) = vp_V df9 k := by decide +kernel
  exact h ⟨j, hj⟩
theorem nw_L_79 : NW RL 79 9 df9 := ⟨(RX9, TX9, 60), tyX9, rfl, uw9, tyX9_ok, cl_L_79, (ALLW_t 1138 (by decide +kernel) (by decide +kernel)), (ALLW_t 9 (by decide +kernel) (by decide +kernel)), dfok9, fun _ => rfl, rfl⟩
theorem ac_int : Cond.arrayClass .int ∈ ALLW := (ALLW_t 44 (by decide +kernel) (by decide +kernel))
theorem ac_long : Cond.arrayClass .long ∈ ALLW := (ALLW_t 1767 (by decide +kernel) (by decide +kernel))
theorem oi2 : Cond.instanceMethod Lib.objectInit ∈ ALLW := (ALLW_t 29 (by decide +kernel) (by decide +kernel))
theorem oi3 : Cond.code Lib.objectInit ⟨#[0xb1]⟩ 1 none ∈ ALLW := (ALLW_t 30 (by decide +kernel) (by decide +kernel))
theorem k_X8_init : Cond.code yX8_init cX8_init 2 none ∈ ALLW := (ALLW_t 27 (by decide +kernel) (by decide +kernel))
theorem k_X5_init : Cond.code yX5_init cX5_init 2 none ∈ ALLW := (ALLW_t 35 (by decide +kernel) (by decide +kernel))
theorem k_X7_init : Cond.code yX7_init cX7_init 1 none ∈ ALLW := (ALLW_t 49 (by decide +kernel) (by decide +kernel))
theorem k_X1_init : Cond.code yX1_init cX1_init 2 none ∈ ALLW := (ALLW_t 105 (by decide +kernel) (by decide +kernel))
theorem k_X6_init : Cond.code yX6_init cX6_init 1 none ∈ ALLW := (ALLW_t 113 (by decide +kernel) (by decide +kernel))
theorem k_X3_init : Cond.code yX3_init cX3_init 1 none ∈ ALLW := (ALLW_t 163 (by decide +kernel) (by decide +kernel))
theorem k_X0_init : Cond.code yX0_init cX0_init 1 none ∈ ALLW := (ALLW_t 248 (by decide +kernel) (by decide +kernel))
theorem k_X4_init : Cond.code yX4_init cX4_init 1 none ∈ ALLW := (ALLW_t 271 (by decide +kernel) (by decide +kernel))
theorem k_X8_feed : Cond.code yX8_feed cX8_feed 6 (some .int) ∈ ALLW := (ALLW_t 352 (by decide +kernel) (by decide +kernel))
theorem k_X5_size : Cond.code yX5_size cX5_size 1 (some .int) ∈ ALLW := (ALLW_t 356 (by decide +kernel) (by decide +kernel))
theorem k_X8_addFour : Cond.code yX8_addFour cX8_addFour 3 none ∈ ALLW := (ALLW_t 360 (by decide +kernel) (by decide +kernel))
theorem k_X5_add : Cond.code yX5_add cX5_add 2 (some .boolean) ∈ ALLW := (ALLW_t 364 (by decide +kernel) (by decide +kernel))
theorem k_X8_end : Cond.code yX8_end cX8_end 2 (some .boolean) ∈ ALLW := (ALLW_t 368 (by decide +kernel) (by decide +kernel))
theorem k_X5_cutTo : Cond.code yX5_cutTo cX5_cutTo 2 none ∈ ALLW := (ALLW_t 372 (by decide +kernel) (by decide +kernel))
theorem k_X8_fault : Cond.code yX8_fault cX8_fault 1 (some .int) ∈ ALLW := (ALLW_t 376 (by decide +kernel) (by decide +kernel))
theorem k_X8_why : Cond.code yX8_why cX8_why 1 (some .int) ∈ ALLW := (ALLW_t 380 (by decide +kernel) (by decide +kernel))
theorem k_X8_file : Cond.code yX8_file cX8_file 1 (some .int) ∈ ALLW := (ALLW_t 384 (by decide +kernel) (by decide +kernel))
theorem k_X5_part : Cond.code yX5_part cX5_part 4 (some (.object "PieceFiles$Row")) ∈ ALLW := (ALLW_t 388 (by decide +kernel) (by decide +kernel))
theorem k_X5_addPart : Cond.code yX5_addPart cX5_addPart 6 (some .boolean) ∈ ALLW := (ALLW_t 394 (by decide +kernel) (by decide +kernel))
theorem k_X5_get : Cond.code yX5_get cX5_get 2 (some .int) ∈ ALLW := (ALLW_t 398 (by decide +kernel) (by decide +kernel))
theorem k_X8_cutAnew : Cond.code yX8_cutAnew cX8_cutAnew 1 (some .int) ∈ ALLW := (ALLW_t 403 (by decide +kernel) (by decide +kernel))
theorem k_X7_forgetTold : Cond.code yX7_forgetTold cX7_forgetTold 2 none ∈ ALLW := (ALLW_t 407 (by decide +kernel) (by decide +kernel))
theorem k_X1_find : Cond.code yX1_find cX1_find 5 none ∈ ALLW := (ALLW_t 411 (by decide +kernel) (by decide +kernel))
theorem k_X6_start : Cond.code yX6_start cX6_start 3 none ∈ ALLW := (ALLW_t 416 (by decide +kernel) (by decide +kernel))
theorem k_X6_next : Cond.code yX6_next cX6_next 2 (some .boolean) ∈ ALLW := (ALLW_t 420 (by decide +kernel) (by decide +kernel))
theorem k_X6_tryLine : Cond.code yX6_tryLine cX6_tryLine 5 none ∈ ALLW := (ALLW_t 425 (by decide +kernel) (by decide +kernel))
theorem k_X5_next : Cond.code yX5_next cX5_next 5 (some .int) ∈ ALLW := (ALLW_t 429 (by decide +kernel) (by decide +kernel))
theorem k_X5_behindBlanks : Cond.code yX5_behindBlanks cX5_behindBlanks 4 (some .int) ∈ ALLW := (ALLW_t 433 (by decide +kernel) (by decide +kernel))
theorem k_X6_tryCell : Cond.code yX6_tryCell cX6_tryCell 1 none ∈ ALLW := (ALLW_t 438 (by decide +kernel) (by decide +kernel))
theorem k_X5_cellQuoteEnd : Cond.code yX5_cellQuoteEnd cX5_cellQuoteEnd 4 (some .int) ∈ ALLW := (ALLW_t 442 (by decide +kernel) (by decide +kernel))
theorem k_X5_cellEnd : Cond.code yX5_cellEnd cX5_cellEnd 3 (some .int) ∈ ALLW := (ALLW_t 446 (by decide +kernel) (by decide +kernel))
theorem k_X6_tryMarkup : Cond.code yX6_tryMarkup cX6_tryMarkup 3 none ∈ ALLW := (ALLW_t 450 (by decide +kernel) (by decide +kernel))
theorem k_X5_behindSpace : Cond.code yX5_behindSpace cX5_behindSpace 4 (some .int) ∈ ALLW := (ALLW_t 454 (by decide +kernel) (by decide +kernel))
theorem k_X6_tryQuotes : Cond.code yX6_tryQuotes cX6_tryQuotes 1 none ∈ ALLW := (ALLW_t 458 (by decide +kernel) (by decide +kernel))
theorem k_X5_quoteEnd : Cond.code yX5_quoteEnd cX5_quoteEnd 4 (some .int) ∈ ALLW := (ALLW_t 462 (by decide +kernel) (by decide +kernel))
theorem k_X7_isLocked : Cond.code yX7_isLocked cX7_isLocked 4 (some .boolean) ∈ ALLW := (ALLW_t 466 (by decide +kernel) (by decide +kernel))
theorem k_X5_isSame : Cond.code yX5_isSame cX5_isSame 6 (some .boolean) ∈ ALLW := (ALLW_t 471 (by decide +kernel) (by decide +kernel))
theorem k_X1_readOuter : Cond.code yX1_readOuter cX1_readOuter 4 none ∈ ALLW := (ALLW_t 476 (by decide +kernel) (by decide +kernel))
theorem k_X6_read : Cond.code yX6_read cX6_read 2 none ∈ ALLW := (ALLW_t 480 (by decide +kernel) (by decide +kernel))
theorem k_X6_readMarkup : Cond.code yX6_readMarkup cX6_readMarkup 3 none ∈ ALLW := (ALLW_t 484 (by decide +kernel) (by decide +kernel))
theorem k_X6_readBack : Cond.code yX6_readBack cX6_readBack 3 none ∈ ALLW := (ALLW_t 488 (by decide +kernel) (by decide +kernel))
theorem k_J9_max_7cf53 : Cond.code yJ9_max_7cf53 cJ9_max_7cf53 2 (some .int) ∈ ALLW := (ALLW_t 492 (by decide +kernel) (by decide +kernel))
theorem k_X1_settle : Cond.code yX1_settle cX1_settle 7 none ∈ ALLW := (ALLW_t 496 (by decide +kernel) (by decide +kernel))
theorem k_X5_hasLetter : Cond.code yX5_hasLetter cX5_hasLetter 3 (some .boolean) ∈ ALLW := (ALLW_t 500 (by decide +kernel) (by decide +kernel))
theorem k_X8_isLetter : Cond.code yX8_isLetter cX8_isLetter 1 (some .boolean) ∈ ALLW := (ALLW_t 503 (by decide +kernel) (by decide +kernel))
theorem k_X1_takeWithin : Cond.code yX1_takeWithin cX1_takeWithin 5 none ∈ ALLW := (ALLW_t 507 (by decide +kernel) (by decide +kernel))
theorem k_X0_make : Cond.code yX0_make cX0_make 8 (some .boolean) ∈ ALLW := (ALLW_t 512 (by decide +kernel) (by decide +kernel))
theorem k_X1_size : Cond.code yX1_size cX1_size 1 (some .int) ∈ ALLW := (ALLW_t 517 (by decide +kernel) (by decide +kernel))
theorem k_X1_get : Cond.code yX1_get cX1_get 2 (some (.object "PieceFiles$Piece")) ∈ ALLW := (ALLW_t 521 (by decide +kernel) (by decide +kernel))
theorem k_X7_toldFor : Cond.code yX7_toldFor cX7_toldFor 2 (some (.object "PieceFiles$Row")) ∈ ALLW := (ALLW_t 527 (by decide +kernel) (by decide +kernel))
theorem k_X0_escape : Cond.code yX0_escape cX0_escape 6 (some .boolean) ∈ ALLW := (ALLW_t 531 (by decide +kernel) (by decide +kernel))
theorem k_X5_breaksCell : Cond.code yX5_breaksCell cX5_breaksCell 2 (some .boolean) ∈ ALLW := (ALLW_t 535 (by decide +kernel) (by decide +kernel))
theorem k_X0_addEscaped : Cond.code yX0_addEscaped cX0_addEscaped 6 none ∈ ALLW := (ALLW_t 539 (by decide +kernel) (by decide +kernel))
theorem k_X0_addInLine : Cond.code yX0_addInLine cX0_addInLine 3 none ∈ ALLW := (ALLW_t 543 (by decide +kernel) (by decide +kernel))
theorem k_X0_addDoubled : Cond.code yX0_addDoubled cX0_addDoubled 2 none ∈ ALLW := (ALLW_t 546 (by decide +kernel) (by decide +kernel))
theorem k_X0_addInMarkup : Cond.code yX0_addInMarkup cX0_addInMarkup 2 none ∈ ALLW := (ALLW_t 549 (by decide +kernel) (by decide +kernel))
theorem k_X0_addInQuotes : Cond.code yX0_addInQuotes cX0_addInQuotes 2 none ∈ ALLW := (ALLW_t 552 (by decide +kernel) (by decide +kernel))
theorem k_X8_unlock : Cond.code yX8_unlock cX8_unlock 1 (some .int) ∈ ALLW := (ALLW_t 557 (by decide +kernel) (by decide +kernel))
theorem k_X7_copyFrom : Cond.code yX7_copyFrom cX7_copyFrom 3 none ∈ ALLW := (ALLW_t 561 (by decide +kernel) (by decide +kernel))
theorem k_X8_doAct : Cond.code yX8_doAct cX8_doAct 6 (some .int) ∈ ALLW := (ALLW_t 565 (by decide +kernel) (by decide +kernel))
theorem k_X7_addLock : Cond.code yX7_addLock cX7_addLock 4 (some .int) ∈ ALLW := (ALLW_t 569 (by decide +kernel) (by decide +kernel))
theorem k_X8_freePiece : Cond.code yX8_freePiece cX8_freePiece 2 (some .int) ∈ ALLW := (ALLW_t 573 (by decide +kernel) (by decide +kernel))
theorem k_X7_setTold : Cond.code yX7_setTold cX7_setTold 3 none ∈ ALLW := (ALLW_t 579 (by decide +kernel) (by decide +kernel))
theorem k_X8_spreadPiece : Cond.code yX8_spreadPiece cX8_spreadPiece 4 (some .int) ∈ ALLW := (ALLW_t 583 (by decide +kernel) (by decide +kernel))
theorem k_X1_areLike : Cond.code yX1_areLike cX1_areLike 5 (some .boolean) ∈ ALLW := (ALLW_t 587 (by decide +kernel) (by decide +kernel))
theorem k_X8_swapPieces : Cond.code yX8_swapPieces cX8_swapPieces 7 (some .int) ∈ ALLW := (ALLW_t 594 (by decide +kernel) (by decide +kernel))
theorem k_X8_nowSize : Cond.code yX8_nowSize cX8_nowSize 4 (some .int) ∈ ALLW := (ALLW_t 598 (by decide +kernel) (by decide +kernel))
theorem k_X8_copyOfNow : Cond.code yX8_copyOfNow cX8_copyOfNow 4 (some (.object "PieceFiles$Row")) ∈ ALLW := (ALLW_t 602 (by decide +kernel) (by decide +kernel))
theorem k_X8_wipePieces : Cond.code yX8_wipePieces cX8_wipePieces 1 (some .int) ∈ ALLW := (ALLW_t 606 (by decide +kernel) (by decide +kernel))
theorem k_X7_toldCount : Cond.code yX7_toldCount cX7_toldCount 3 (some .int) ∈ ALLW := (ALLW_t 610 (by decide +kernel) (by decide +kernel))
theorem k_X8_tellPiece : Cond.code yX8_tellPiece cX8_tellPiece 4 (some .int) ∈ ALLW := (ALLW_t 614 (by decide +kernel) (by decide +kernel))
theorem k_X7_addPair : Cond.code yX7_addPair cX7_addPair 3 none ∈ ALLW := (ALLW_t 618 (by decide +kernel) (by decide +kernel))
theorem k_X2_init : Cond.code yX2_init cX2_init 4 none ∈ ALLW := (ALLW_t 623 (by decide +kernel) (by decide +kernel))
theorem k_J9_min_7cf53 : Cond.code yJ9_min_7cf53 cJ9_min_7cf53 2 (some .int) ∈ ALLW := (ALLW_t 640 (by decide +kernel) (by decide +kernel))
theorem k_X8_finishCall : Cond.code yX8_finishCall cX8_finishCall 2 none ∈ ALLW := (ALLW_t 644 (by decide +kernel) (by decide +kernel))
theorem k_X8_restore : Cond.code yX8_restore cX8_restore 2 none ∈ ALLW := (ALLW_t 648 (by decide +kernel) (by decide +kernel))
theorem k_X8_rememberAhead : Cond.code yX8_rememberAhead cX8_rememberAhead 1 none ∈ ALLW := (ALLW_t 721 (by decide +kernel) (by decide +kernel))
theorem k_X8_forgetOldest : Cond.code yX8_forgetOldest cX8_forgetOldest 4 none ∈ ALLW := (ALLW_t 725 (by decide +kernel) (by decide +kernel))
theorem k_X8_holder : Cond.code yX8_holder cX8_holder 4 (some .int) ∈ ALLW := (ALLW_t 729 (by decide +kernel) (by decide +kernel))
theorem k_X8_at : Cond.code yX8_at cX8_at 3 (some .int) ∈ ALLW := (ALLW_t 733 (by decide +kernel) (by decide +kernel))
theorem k_X8_memory : Cond.code yX8_memory cX8_memory 6 (some .int) ∈ ALLW := (ALLW_t 738 (by decide +kernel) (by decide +kernel))
theorem k_X8_twice : Cond.code yX8_twice cX8_twice 4 (some .boolean) ∈ ALLW := (ALLW_t 742 (by decide +kernel) (by decide +kernel))
theorem k_X8_cutAgain : Cond.code yX8_cutAgain cX8_cutAgain 1 none ∈ ALLW := (ALLW_t 746 (by decide +kernel) (by decide +kernel))
theorem k_X8_isNow : Cond.code yX8_isNow cX8_isNow 5 (some .boolean) ∈ ALLW := (ALLW_t 750 (by decide +kernel) (by decide +kernel))
theorem k_X8_image : Cond.code yX8_image cX8_image 1 none ∈ ALLW := (ALLW_t 755 (by decide +kernel) (by decide +kernel))
theorem k_X8_back : Cond.code yX8_back cX8_back 1 (some .boolean) ∈ ALLW := (ALLW_t 759 (by decide +kernel) (by decide +kernel))
theorem k_X8_count : Cond.code yX8_count cX8_count 2 (some .int) ∈ ALLW := (ALLW_t 763 (by decide +kernel) (by decide +kernel))
theorem k_X1_bytesInPieces : Cond.code yX1_bytesInPieces cX1_bytesInPieces 4 (some .int) ∈ ALLW := (ALLW_t 767 (by decide +kernel) (by decide +kernel))
theorem k_X1_unlikeCount : Cond.code yX1_unlikeCount cX1_unlikeCount 3 (some .int) ∈ ALLW := (ALLW_t 771 (by decide +kernel) (by decide +kernel))
theorem k_X1_hasLikeAhead : Cond.code yX1_hasLikeAhead cX1_hasLikeAhead 3 (some .boolean) ∈ ALLW := (ALLW_t 775 (by decide +kernel) (by decide +kernel))
theorem k_X8_countAllWords : Cond.code yX8_countAllWords cX8_countAllWords 4 (some .int) ∈ ALLW := (ALLW_t 780 (by decide +kernel) (by decide +kernel))
theorem k_X8_countWords : Cond.code yX8_countWords cX8_countWords 4 (some .int) ∈ ALLW := (ALLW_t 784 (by decide +kernel) (by decide +kernel))
theorem k_X5_countWords : Cond.code yX5_countWords cX5_countWords 7 (some .int) ∈ ALLW := (ALLW_t 788 (by decide +kernel) (by decide +kernel))
theorem k_X1_longestText : Cond.code yX1_longestText cX1_longestText 4 (some .int) ∈ ALLW := (ALLW_t 792 (by decide +kernel) (by decide +kernel))
-- yL_acts (Option.some Jvm.ClassFile.FieldType.int) [((0 : Nat), (8 : Nat), (11 : Nat), (13 : Nat))]
theorem k_X8_acts : Cond.code yX8_acts cX8_acts 6 (some .int) ∈ ALLW := (ALLW_t 800 (by decide +kernel) (by decide +kernel))
theorem k_X4_start : Cond.code yX4_start cX4_start 2 none ∈ ALLW := (ALLW_t 804 (by decide +kernel) (by decide +kernel))
theorem k_X4_readAct : Cond.code yX4_readAct cX4_readAct 3 (some .int) ∈ ALLW := (ALLW_t 810 (by decide +kernel) (by decide +kernel))
theorem k_X4_lettersEnd : Cond.code yX4_lettersEnd cX4_lettersEnd 2 (some .int) ∈ ALLW := (ALLW_t 814 (by decide +kernel) (by decide +kernel))
theorem k_X4_actNamed : Cond.code yX4_actNamed cX4_actNamed 4 (some .int) ∈ ALLW := (ALLW_t 819 (by decide +kernel) (by decide +kernel))
theorem k_X4_nameOf : Cond.code yX4_nameOf cX4_nameOf 1 (some (.object "java/lang/String")) ∈ ALLW := (ALLW_t 822 (by decide +kernel) (by decide +kernel))
theorem k_X5_isText : Cond.code yX5_isText cX5_isText 5 (some .boolean) ∈ ALLW := (ALLW_t 838 (by decide +kernel) (by decide +kernel))
theorem k_J0_length_8abf5 : Cond.code yJ0_length_8abf5 cJ0_length_8abf5 1 (some .int) ∈ ALLW := (ALLW_t 842 (by decide +kernel) (by decide +kernel))
theorem k_J0_coder_7d493 : Cond.code yJ0_coder_7d493 cJ0_coder_7d493 1 (some .byte) ∈ ALLW := (ALLW_t 846 (by decide +kernel) (by decide +kernel))
theorem k_J0_charAt_5068e : Cond.code yJ0_charAt_5068e cJ0_charAt_5068e 2 (some .char) ∈ ALLW := (ALLW_t 852 (by decide +kernel) (by decide +kernel))
theorem k_J0_isLatin1_aae02 : Cond.code yJ0_isLatin1_aae02 cJ0_isLatin1_aae02 1 (some .boolean) ∈ ALLW := (ALLW_t 856 (by decide +kernel) (by decide +kernel))
theorem k_J1_charAt_3b067 : Cond.code yJ1_charAt_3b067 cJ1_charAt_3b067 2 (some .char) ∈ ALLW := (ALLW_t 859 (by decide +kernel) (by decide +kernel))
theorem k_J0_checkIndex_df160 : Cond.code yJ0_checkIndex_df160 cJ0_checkIndex_df160 2 none ∈ ALLW := (ALLW_t 862 (by decide +kernel) (by decide +kernel))
theorem k_J3_checkIndex_8e157 : Cond.code yJ3_checkIndex_8e157 cJ3_checkIndex_8e157 3 (some .int) ∈ ALLW := (ALLW_t 867 (by decide +kernel) (by decide +kernel))
theorem k_J2_charAt_3b067 : Cond.code yJ2_charAt_3b067 cJ2_charAt_3b067 2 (some .char) ∈ ALLW := (ALLW_t 870 (by decide +kernel) (by decide +kernel))
theorem k_J2_checkIndex_2214a : Cond.code yJ2_checkIndex_2214a cJ2_checkIndex_2214a 2 none ∈ ALLW := (ALLW_t 873 (by decide +kernel) (by decide +kernel))
theorem k_J2_length_9d52b : Cond.code yJ2_length_9d52b cJ2_length_9d52b 1 (some .int) ∈ ALLW := (ALLW_t 876 (by decide +kernel) (by decide +kernel))
