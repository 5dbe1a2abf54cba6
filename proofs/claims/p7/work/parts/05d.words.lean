set_option maxRecDepth 100000 in
theorem k_J0_charAt_5068e : Cond.code yJ0_charAt_5068e cJ0_charAt_5068e 2 (some .char) ∈ ALLW := (ALLW_c4 132 rfl rfl)
set_option maxRecDepth 100000 in
theorem k_J0_isLatin1_aae02 : Cond.code yJ0_isLatin1_aae02 cJ0_isLatin1_aae02 1 (some .boolean) ∈ ALLW := (ALLW_c4 136 rfl rfl)
set_option maxRecDepth 100000 in
theorem k_J1_charAt_3b067 : Cond.code yJ1_charAt_3b067 cJ1_charAt_3b067 2 (some .char) ∈ ALLW := (ALLW_c4 139 rfl rfl)
set_option maxRecDepth 100000 in
theorem k_J0_checkIndex_df160 : Cond.code yJ0_checkIndex_df160 cJ0_checkIndex_df160 2 none ∈ ALLW := (ALLW_c4 142 rfl rfl)
set_option maxRecDepth 100000 in
theorem k_J3_checkIndex_8e157 : Cond.code yJ3_checkIndex_8e157 cJ3_checkIndex_8e157 3 (some .int) ∈ ALLW := (ALLW_c4 147 rfl rfl)
set_option maxRecDepth 100000 in
theorem k_J2_charAt_3b067 : Cond.code yJ2_charAt_3b067 cJ2_charAt_3b067 2 (some .char) ∈ ALLW := (ALLW_c4 150 rfl rfl)
set_option maxRecDepth 100000 in
theorem k_J2_checkIndex_2214a : Cond.code yJ2_checkIndex_2214a cJ2_checkIndex_2214a 2 none ∈ ALLW := (ALLW_c4 153 rfl rfl)
set_option maxRecDepth 100000 in
theorem k_J2_length_9d52b : Cond.code yJ2_length_9d52b cJ2_length_9d52b 1 (some .int) ∈ ALLW := (ALLW_c4 156 rfl rfl)
set_option maxRecDepth 100000 in
theorem k_J2_getChar_3b067 : Cond.code yJ2_getChar_3b067 cJ2_getChar_3b067 2 (some .char) ∈ ALLW := (ALLW_c4 160 rfl rfl)
set_option maxRecDepth 100000 in
theorem k_X4_readFirst : Cond.code yX4_readFirst cX4_readFirst 4 (some .int) ∈ ALLW := (ALLW_c4 170 rfl rfl)
set_option maxRecDepth 100000 in
theorem k_X4_readNumber : Cond.code yX4_readNumber cX4_readNumber 6 (some .int) ∈ ALLW := (ALLW_c4 174 rfl rfl)
set_option maxRecDepth 100000 in
theorem k_X4_readSecond : Cond.code yX4_readSecond cX4_readSecond 2 (some .int) ∈ ALLW := (ALLW_c4 178 rfl rfl)
set_option maxRecDepth 100000 in
theorem k_X4_readWord : Cond.code yX4_readWord cX4_readWord 3 (some .int) ∈ ALLW := (ALLW_c4 182 rfl rfl)
set_option maxRecDepth 100000 in
theorem k_X4_readBehindAct : Cond.code yX4_readBehindAct cX4_readBehindAct 1 (some .int) ∈ ALLW := (ALLW_c4 187 rfl rfl)
-- yL_kind (Option.some Jvm.ClassFile.FieldType.int) [((0 : Nat), (10 : Nat), (13 : Nat), (13 : Nat))]
set_option maxRecDepth 100000 in
theorem k_X8_kind : Cond.code yX8_kind cX8_kind 3 (some .int) ∈ ALLW := (ALLW_c4 210 rfl rfl)
-- yL_rule (Option.some Jvm.ClassFile.FieldType.int) [((0 : Nat), (10 : Nat), (13 : Nat), (23 : Nat)), ((0 : Nat), (10 : Nat), (17 : Nat), (13 : Nat))]
set_option maxRecDepth 100000 in
theorem k_X8_rule : Cond.code yX8_rule cX8_rule 3 (some .int) ∈ ALLW := (ALLW_c4 219 rfl rfl)
-- yL_lock (Option.some Jvm.ClassFile.FieldType.int) [((0 : Nat), (8 : Nat), (11 : Nat), (13 : Nat)), ((0 : Nat), (8 : Nat), (14 : Nat), (28 : Nat))]
set_option maxRecDepth 100000 in
theorem k_X8_lock : Cond.code yX8_lock cX8_lock 2 (some .int) ∈ ALLW := (ALLW_c5 4 rfl rfl)
set_option maxRecDepth 100000 in
theorem k_X8_takeWord : Cond.code yX8_takeWord cX8_takeWord 2 (some (.object "PieceFiles$Row")) ∈ ALLW := (ALLW_c5 8 rfl rfl)
set_option maxRecDepth 100000 in
theorem k_X5_isWord : Cond.code yX5_isWord cX5_isWord 2 (some .boolean) ∈ ALLW := (ALLW_c5 12 rfl rfl)
-- yL_tell (Option.some Jvm.ClassFile.FieldType.int) [((0 : Nat), (9 : Nat), (12 : Nat), (13 : Nat)), ((0 : Nat), (9 : Nat), (15 : Nat), (28 : Nat))]
set_option maxRecDepth 100000 in
theorem k_X8_tell : Cond.code yX8_tell cX8_tell 3 (some .int) ∈ ALLW := (ALLW_c5 20 rfl rfl)
set_option maxRecDepth 100000 in
theorem k_X8_takeTold : Cond.code yX8_takeTold cX8_takeTold 2 (some (.object "PieceFiles$Row")) ∈ ALLW := (ALLW_c5 24 rfl rfl)
-- yL_free (Option.some Jvm.ClassFile.FieldType.int) [((0 : Nat), (9 : Nat), (12 : Nat), (28 : Nat))]
set_option maxRecDepth 100000 in
theorem k_X8_free : Cond.code yX8_free cX8_free 2 (some .int) ∈ ALLW := (ALLW_c5 32 rfl rfl)
-- yL_spread (Option.some Jvm.ClassFile.FieldType.int) [((0 : Nat), (9 : Nat), (12 : Nat), (28 : Nat))]
set_option maxRecDepth 100000 in
theorem k_X8_spread : Cond.code yX8_spread cX8_spread 2 (some .int) ∈ ALLW := (ALLW_c5 39 rfl rfl)
set_option maxRecDepth 100000 in
theorem k_X1_likeCount : Cond.code yX1_likeCount cX1_likeCount 4 (some .int) ∈ ALLW := (ALLW_c5 43 rfl rfl)
-- yL_swap (Option.some Jvm.ClassFile.FieldType.int) [((0 : Nat), (10 : Nat), (13 : Nat), (28 : Nat))]
set_option maxRecDepth 100000 in
theorem k_X8_swap : Cond.code yX8_swap cX8_swap 3 (some .int) ∈ ALLW := (ALLW_c5 50 rfl rfl)
-- yL_wipe (Option.some Jvm.ClassFile.FieldType.int) [((0 : Nat), (8 : Nat), (11 : Nat), (28 : Nat))]
set_option maxRecDepth 100000 in
theorem k_X8_wipe : Cond.code yX8_wipe cX8_wipe 2 (some .int) ∈ ALLW := (ALLW_c5 57 rfl rfl)
-- yL_undo (Option.some Jvm.ClassFile.FieldType.int) [((0 : Nat), (8 : Nat), (11 : Nat), (28 : Nat))]
set_option maxRecDepth 100000 in
theorem k_X8_undo : Cond.code yX8_undo cX8_undo 1 (some .int) ∈ ALLW := (ALLW_c5 64 rfl rfl)
-- yL_piece (Option.some Jvm.ClassFile.FieldType.int) [((0 : Nat), (10 : Nat), (13 : Nat), (52 : Nat)), ((0 : Nat), (10 : Nat), (17 : Nat), (23 : Nat))]
set_option maxRecDepth 100000 in
theorem k_X8_piece : Cond.code yX8_piece cX8_piece 4 (some .int) ∈ ALLW := (ALLW_c5 73 rfl rfl)
set_option maxRecDepth 100000 in
theorem k_X8_pieceOrThrow : Cond.code yX8_pieceOrThrow cX8_pieceOrThrow 3 (some (.object "PieceFiles$Piece")) ∈ ALLW := (ALLW_c5 77 rfl rfl)
set_option maxRecDepth 100000 in
theorem k_X8_knownPair : Cond.code yX8_knownPair cX8_knownPair 4 (some .int) ∈ ALLW := (ALLW_c5 97 rfl rfl)
-- yL_octet (Option.some Jvm.ClassFile.FieldType.int) [((0 : Nat), (12 : Nat), (15 : Nat), (52 : Nat))]
set_option maxRecDepth 100000 in
theorem k_X8_octet : Cond.code yX8_octet cX8_octet 5 (some .int) ∈ ALLW := (ALLW_c5 105 rfl rfl)
set_option maxRecDepth 100000 in
theorem k_X8_nowByte : Cond.code yX8_nowByte cX8_nowByte 5 (some .int) ∈ ALLW := (ALLW_c5 109 rfl rfl)
set_option maxRecDepth 100000 in
theorem k_X1_textByte : Cond.code yX1_textByte cX1_textByte 3 (some .int) ∈ ALLW := (ALLW_c5 113 rfl rfl)
-- yL_origin (Option.some Jvm.ClassFile.FieldType.int) [((0 : Nat), (10 : Nat), (13 : Nat), (52 : Nat))]
set_option maxRecDepth 100000 in
theorem k_X8_origin : Cond.code yX8_origin cX8_origin 4 (some .int) ∈ ALLW := (ALLW_c5 120 rfl rfl)
-- yL_key (Option.some Jvm.ClassFile.FieldType.int) [((0 : Nat), (10 : Nat), (13 : Nat), (52 : Nat)), ((0 : Nat), (10 : Nat), (17 : Nat), (23 : Nat))]
set_option maxRecDepth 100000 in
theorem k_X8_key : Cond.code yX8_key cX8_key 4 (some .int) ∈ ALLW := (ALLW_c5 127 rfl rfl)
-- yL_like (Option.some Jvm.ClassFile.FieldType.int) [((0 : Nat), (10 : Nat), (13 : Nat), (52 : Nat))]
set_option maxRecDepth 100000 in
theorem k_X8_like : Cond.code yX8_like cX8_like 5 (some .int) ∈ ALLW := (ALLW_c5 135 rfl rfl)
-- yL_would (Option.some Jvm.ClassFile.FieldType.int) [((0 : Nat), (9 : Nat), (12 : Nat), (52 : Nat)), ((0 : Nat), (9 : Nat), (15 : Nat), (13 : Nat))]
set_option maxRecDepth 100000 in
theorem k_X8_would : Cond.code yX8_would cX8_would 4 (some .int) ∈ ALLW := (ALLW_c5 142 rfl rfl)
-- yL_found (Option.some Jvm.ClassFile.FieldType.int) [((0 : Nat), (7 : Nat), (10 : Nat), (13 : Nat))]
set_option maxRecDepth 100000 in
theorem k_X8_found : Cond.code yX8_found cX8_found 5 (some .long) ∈ ALLW := (ALLW_c5 149 rfl rfl)
set_option maxRecDepth 100000 in
theorem k_X8_hasWord : Cond.code yX8_hasWord cX8_hasWord 5 (some .boolean) ∈ ALLW := (ALLW_c5 153 rfl rfl)
set_option maxRecDepth 100000 in
theorem k_X5_hasWord : Cond.code yX5_hasWord cX5_hasWord 5 (some .boolean) ∈ ALLW := (ALLW_c5 157 rfl rfl)
set_option maxRecDepth 100000 in
theorem k_X5_hasSmall : Cond.code yX5_hasSmall cX5_hasSmall 4 (some .boolean) ∈ ALLW := (ALLW_c5 162 rfl rfl)
set_option maxRecDepth 100000 in
theorem k_X8_smallLetter : Cond.code yX8_smallLetter cX8_smallLetter 1 (some .int) ∈ ALLW := (ALLW_c5 165 rfl rfl)
-- yL_kept (Option.some Jvm.ClassFile.FieldType.int) [((0 : Nat), (16 : Nat), (19 : Nat), (52 : Nat))]
set_option maxRecDepth 100000 in
theorem k_X8_kept : Cond.code yX8_kept cX8_kept 5 (some .boolean) ∈ ALLW := (ALLW_c5 172 rfl rfl)
set_option maxRecDepth 100000 in
theorem k_X3_mayBeginInBuilt : Cond.code yX3_mayBeginInBuilt cX3_mayBeginInBuilt 2 (some .boolean) ∈ ALLW := (ALLW_c5 176 rfl rfl)
set_option maxRecDepth 100000 in
theorem k_X9_init : Cond.code yX9_init cX9_init 2 none ∈ ALLW := (ALLW_c5 181 rfl rfl)
set_option maxRecDepth 100000 in
theorem k_X9_feed : Cond.code yX9_feed cX9_feed 8 (some .int) ∈ ALLW := (ALLW_c6 127 rfl rfl)
set_option maxRecDepth 100000 in
theorem k_X9_end : Cond.code yX9_end cX9_end 2 (some .boolean) ∈ ALLW := (ALLW_c6 131 rfl rfl)
set_option maxRecDepth 100000 in
theorem k_X9_isIn : Cond.code yX9_isIn cX9_isIn 3 (some .boolean) ∈ ALLW := (ALLW_c6 134 rfl rfl)
set_option maxRecDepth 100000 in
theorem k_X9_acts : Cond.code yX9_acts cX9_acts 4 (some .int) ∈ ALLW := (ALLW_c6 138 rfl rfl)
set_option maxRecDepth 100000 in
theorem k_X9_putsAside : Cond.code yX9_putsAside cX9_putsAside 2 none ∈ ALLW := (ALLW_c6 142 rfl rfl)
set_option maxRecDepth 100000 in
theorem k_X9_here : Cond.code yX9_here cX9_here 1 (some .int) ∈ ALLW := (ALLW_c6 146 rfl rfl)
set_option maxRecDepth 100000 in
theorem k_X9_wrong : Cond.code yX9_wrong cX9_wrong 2 none ∈ ALLW := (ALLW_c6 150 rfl rfl)
set_option maxRecDepth 100000 in
theorem k_X9_act : Cond.code yX9_act cX9_act 3 (some .int) ∈ ALLW := (ALLW_c6 154 rfl rfl)
set_option maxRecDepth 100000 in
theorem k_X9_has : Cond.code yX9_has cX9_has 4 (some .boolean) ∈ ALLW := (ALLW_c6 159 rfl rfl)
set_option maxRecDepth 100000 in
theorem k_X9_wordEnd : Cond.code yX9_wordEnd cX9_wordEnd 2 (some .int) ∈ ALLW := (ALLW_c6 163 rfl rfl)
set_option maxRecDepth 100000 in
theorem k_X9_ruleText : Cond.code yX9_ruleText cX9_ruleText 5 (some .int) ∈ ALLW := (ALLW_c6 169 rfl rfl)
set_option maxRecDepth 100000 in
theorem k_X9_number : Cond.code yX9_number cX9_number 5 (some .int) ∈ ALLW := (ALLW_c6 173 rfl rfl)
set_option maxRecDepth 100000 in
theorem k_X9_rules : Cond.code yX9_rules cX9_rules 3 (some .int) ∈ ALLW := (ALLW_c6 177 rfl rfl)
set_option maxRecDepth 100000 in
theorem k_X9_cutsAnew : Cond.code yX9_cutsAnew cX9_cutsAnew 2 none ∈ ALLW := (ALLW_c6 181 rfl rfl)
set_option maxRecDepth 100000 in
theorem k_X9_cutsFile : Cond.code yX9_cutsFile cX9_cutsFile 2 none ∈ ALLW := (ALLW_c6 185 rfl rfl)
set_option maxRecDepth 100000 in
theorem k_X9_cutsAll : Cond.code yX9_cutsAll cX9_cutsAll 5 none ∈ ALLW := (ALLW_c6 189 rfl rfl)
set_option maxRecDepth 100000 in
theorem k_X9_cuts : Cond.code yX9_cuts cX9_cuts 7 (some .int) ∈ ALLW := (ALLW_c6 193 rfl rfl)
set_option maxRecDepth 100000 in
theorem k_X9_cutsLines : Cond.code yX9_cutsLines cX9_cutsLines 13 none ∈ ALLW := (ALLW_c6 197 rfl rfl)
set_option maxRecDepth 100000 in
theorem k_X9_endOf : Cond.code yX9_endOf cX9_endOf 6 (some .int) ∈ ALLW := (ALLW_c6 200 rfl rfl)
set_option maxRecDepth 100000 in
theorem k_X9_finds : Cond.code yX9_finds cX9_finds 7 none ∈ ALLW := (ALLW_c6 204 rfl rfl)
set_option maxRecDepth 100000 in
theorem k_X9_cutsTable : Cond.code yX9_cutsTable cX9_cutsTable 9 none ∈ ALLW := (ALLW_c6 208 rfl rfl)
set_option maxRecDepth 100000 in
theorem k_X9_cutsMarkup : Cond.code yX9_cutsMarkup cX9_cutsMarkup 10 none ∈ ALLW := (ALLW_c6 212 rfl rfl)
set_option maxRecDepth 100000 in
theorem k_X9_isBare : Cond.code yX9_isBare cX9_isBare 1 (some .boolean) ∈ ALLW := (ALLW_c6 215 rfl rfl)
set_option maxRecDepth 100000 in
theorem k_X9_cutsQuotes : Cond.code yX9_cutsQuotes cX9_cutsQuotes 9 none ∈ ALLW := (ALLW_c6 219 rfl rfl)
set_option maxRecDepth 100000 in
theorem k_X9_undoes : Cond.code yX9_undoes cX9_undoes 14 (some .int) ∈ ALLW := (ALLW_c6 223 rfl rfl)
set_option maxRecDepth 100000 in
theorem k_X9_means : Cond.code yX9_means cX9_means 7 (some .int) ∈ ALLW := (ALLW_c6 227 rfl rfl)
set_option maxRecDepth 100000 in
theorem k_X9_stands : Cond.code yX9_stands cX9_stands 5 (some .boolean) ∈ ALLW := (ALLW_c6 231 rfl rfl)
set_option maxRecDepth 100000 in
theorem k_X9_backMeaning : Cond.code yX9_backMeaning cX9_backMeaning 3 (some .int) ∈ ALLW := (ALLW_c6 237 rfl rfl)
set_option maxRecDepth 100000 in
theorem k_X9_takes : Cond.code yX9_takes cX9_takes 10 none ∈ ALLW := (ALLW_c7 1 rfl rfl)
set_option maxRecDepth 100000 in
theorem k_X9_isLocked : Cond.code yX9_isLocked cX9_isLocked 6 (some .boolean) ∈ ALLW := (ALLW_c7 5 rfl rfl)
set_option maxRecDepth 100000 in
theorem k_X9_isPiece : Cond.code yX9_isPiece cX9_isPiece 4 (some .boolean) ∈ ALLW := (ALLW_c7 9 rfl rfl)
set_option maxRecDepth 100000 in
theorem k_X9_isLetter : Cond.code yX9_isLetter cX9_isLetter 1 (some .boolean) ∈ ALLW := (ALLW_c7 12 rfl rfl)
set_option maxRecDepth 100000 in
theorem k_X9_lockText : Cond.code yX9_lockText cX9_lockText 4 (some .int) ∈ ALLW := (ALLW_c7 22 rfl rfl)
set_option maxRecDepth 100000 in
theorem k_X9_lock0 : Cond.code yX9_lock0 cX9_lock0 6 (some .int) ∈ ALLW := (ALLW_c7 26 rfl rfl)
set_option maxRecDepth 100000 in
theorem k_X9_unlocks : Cond.code yX9_unlocks cX9_unlocks 1 (some .int) ∈ ALLW := (ALLW_c7 31 rfl rfl)
set_option maxRecDepth 100000 in
theorem k_X9_pieceText : Cond.code yX9_pieceText cX9_pieceText 3 (some .int) ∈ ALLW := (ALLW_c7 36 rfl rfl)
set_option maxRecDepth 100000 in
theorem k_X9_free0 : Cond.code yX9_free0 cX9_free0 2 (some .int) ∈ ALLW := (ALLW_c7 40 rfl rfl)
set_option maxRecDepth 100000 in
theorem k_X9_isPieceThere : Cond.code yX9_isPieceThere cX9_isPieceThere 2 (some .boolean) ∈ ALLW := (ALLW_c7 44 rfl rfl)
set_option maxRecDepth 100000 in
theorem k_X9_toldOf : Cond.code yX9_toldOf cX9_toldOf 2 (some .int) ∈ ALLW := (ALLW_c7 48 rfl rfl)
set_option maxRecDepth 100000 in
theorem k_X9_builtMany : Cond.code yX9_builtMany cX9_builtMany 3 (some .int) ∈ ALLW := (ALLW_c7 52 rfl rfl)
set_option maxRecDepth 100000 in
theorem k_X9_builtOf : Cond.code yX9_builtOf cX9_builtOf 2 (some .int) ∈ ALLW := (ALLW_c7 56 rfl rfl)
set_option maxRecDepth 100000 in
theorem k_X9_holdsTold : Cond.code yX9_holdsTold cX9_holdsTold 3 none ∈ ALLW := (ALLW_c7 60 rfl rfl)
set_option maxRecDepth 100000 in
theorem k_X9_toldAt : Cond.code yX9_toldAt cX9_toldAt 3 (some .int) ∈ ALLW := (ALLW_c7 64 rfl rfl)
set_option maxRecDepth 100000 in
theorem k_X9_escapedFor : Cond.code yX9_escapedFor cX9_escapedFor 4 (some .int) ∈ ALLW := (ALLW_c7 68 rfl rfl)
set_option maxRecDepth 100000 in
theorem k_X9_escapes : Cond.code yX9_escapes cX9_escapes 9 (some .int) ∈ ALLW := (ALLW_c7 72 rfl rfl)
set_option maxRecDepth 100000 in
theorem k_X9_hasSign : Cond.code yX9_hasSign cX9_hasSign 3 (some .boolean) ∈ ALLW := (ALLW_c7 75 rfl rfl)
set_option maxRecDepth 100000 in
theorem k_X9_plain : Cond.code yX9_plain cX9_plain 3 none ∈ ALLW := (ALLW_c7 79 rfl rfl)
set_option maxRecDepth 100000 in
theorem k_X9_escapesMarkup : Cond.code yX9_escapesMarkup cX9_escapesMarkup 3 none ∈ ALLW := (ALLW_c7 83 rfl rfl)
set_option maxRecDepth 100000 in
theorem k_X9_word : Cond.code yX9_word cX9_word 4 none ∈ ALLW := (ALLW_c7 87 rfl rfl)
set_option maxRecDepth 100000 in
theorem k_X9_escapesBack : Cond.code yX9_escapesBack cX9_escapesBack 5 none ∈ ALLW := (ALLW_c7 91 rfl rfl)
set_option maxRecDepth 100000 in
theorem k_X9_puts : Cond.code yX9_puts cX9_puts 4 none ∈ ALLW := (ALLW_c7 95 rfl rfl)
set_option maxRecDepth 100000 in
theorem k_X9_spread0 : Cond.code yX9_spread0 cX9_spread0 4 (some .int) ∈ ALLW := (ALLW_c7 99 rfl rfl)
set_option maxRecDepth 100000 in
theorem k_X9_areLike : Cond.code yX9_areLike cX9_areLike 5 (some .boolean) ∈ ALLW := (ALLW_c7 103 rfl rfl)
set_option maxRecDepth 100000 in
theorem k_X9_tells : Cond.code yX9_tells cX9_tells 4 none ∈ ALLW := (ALLW_c7 107 rfl rfl)
set_option maxRecDepth 100000 in
theorem k_X9_swapText : Cond.code yX9_swapText cX9_swapText 3 (some .int) ∈ ALLW := (ALLW_c7 113 rfl rfl)
set_option maxRecDepth 100000 in
theorem k_X9_swap0 : Cond.code yX9_swap0 cX9_swap0 6 (some .int) ∈ ALLW := (ALLW_c7 117 rfl rfl)
set_option maxRecDepth 100000 in
theorem k_X9_nowMany : Cond.code yX9_nowMany cX9_nowMany 2 (some .int) ∈ ALLW := (ALLW_c7 121 rfl rfl)
set_option maxRecDepth 100000 in
theorem k_X9_nowByte : Cond.code yX9_nowByte cX9_nowByte 3 (some .int) ∈ ALLW := (ALLW_c7 125 rfl rfl)
set_option maxRecDepth 100000 in
theorem k_X9_wipe0 : Cond.code yX9_wipe0 cX9_wipe0 2 (some .int) ∈ ALLW := (ALLW_c7 130 rfl rfl)
set_option maxRecDepth 100000 in
theorem k_X9_toldMany : Cond.code yX9_toldMany cX9_toldMany 3 (some .int) ∈ ALLW := (ALLW_c7 134 rfl rfl)
set_option maxRecDepth 100000 in
theorem k_X9_putsBack : Cond.code yX9_putsBack cX9_putsBack 2 none ∈ ALLW := (ALLW_c7 138 rfl rfl)
set_option maxRecDepth 100000 in
theorem k_X9_fault : Cond.code yX9_fault cX9_fault 1 (some .int) ∈ ALLW := (ALLW_c7 142 rfl rfl)
set_option maxRecDepth 100000 in
theorem k_X9_why : Cond.code yX9_why cX9_why 1 (some .int) ∈ ALLW := (ALLW_c7 146 rfl rfl)
set_option maxRecDepth 100000 in
theorem k_X9_file : Cond.code yX9_file cX9_file 3 (some .int) ∈ ALLW := (ALLW_c7 150 rfl rfl)
set_option maxRecDepth 100000 in
theorem k_X9_took : Cond.code yX9_took cX9_took 2 (some .int) ∈ ALLW := (ALLW_c7 154 rfl rfl)
set_option maxRecDepth 100000 in
theorem k_X9_kind : Cond.code yX9_kind cX9_kind 3 (some .int) ∈ ALLW := (ALLW_c7 158 rfl rfl)
set_option maxRecDepth 100000 in
theorem k_X9_isDone : Cond.code yX9_isDone cX9_isDone 3 (some .boolean) ∈ ALLW := (ALLW_c7 162 rfl rfl)
set_option maxRecDepth 100000 in
theorem k_X9_remembers : Cond.code yX9_remembers cX9_remembers 2 none ∈ ALLW := (ALLW_c7 166 rfl rfl)
set_option maxRecDepth 100000 in
theorem k_X9_rule : Cond.code yX9_rule cX9_rule 3 (some .int) ∈ ALLW := (ALLW_c7 170 rfl rfl)
set_option maxRecDepth 100000 in
theorem k_X9_lock : Cond.code yX9_lock cX9_lock 2 (some .int) ∈ ALLW := (ALLW_c7 174 rfl rfl)
set_option maxRecDepth 100000 in
theorem k_X9_isWord : Cond.code yX9_isWord cX9_isWord 4 (some .boolean) ∈ ALLW := (ALLW_c7 178 rfl rfl)
set_option maxRecDepth 100000 in
theorem k_X9_unlock : Cond.code yX9_unlock cX9_unlock 1 (some .int) ∈ ALLW := (ALLW_c7 182 rfl rfl)
set_option maxRecDepth 100000 in
theorem k_X9_tell : Cond.code yX9_tell cX9_tell 3 (some .int) ∈ ALLW := (ALLW_c7 186 rfl rfl)
set_option maxRecDepth 100000 in
theorem k_X9_tookTold : Cond.code yX9_tookTold cX9_tookTold 3 (some .int) ∈ ALLW := (ALLW_c7 190 rfl rfl)
set_option maxRecDepth 100000 in
theorem k_X9_tell0 : Cond.code yX9_tell0 cX9_tell0 3 (some .int) ∈ ALLW := (ALLW_c7 194 rfl rfl)
set_option maxRecDepth 100000 in
theorem k_X9_remembersPair : Cond.code yX9_remembersPair cX9_remembersPair 4 none ∈ ALLW := (ALLW_c7 198 rfl rfl)
set_option maxRecDepth 100000 in
theorem k_X9_free : Cond.code yX9_free cX9_free 2 (some .int) ∈ ALLW := (ALLW_c7 202 rfl rfl)
set_option maxRecDepth 100000 in
theorem k_X9_spread : Cond.code yX9_spread cX9_spread 2 (some .int) ∈ ALLW := (ALLW_c7 206 rfl rfl)
set_option maxRecDepth 100000 in
theorem k_X9_swap : Cond.code yX9_swap cX9_swap 3 (some .int) ∈ ALLW := (ALLW_c7 210 rfl rfl)
set_option maxRecDepth 100000 in
theorem k_X9_wipe : Cond.code yX9_wipe cX9_wipe 2 (some .int) ∈ ALLW := (ALLW_c7 214 rfl rfl)
set_option maxRecDepth 100000 in
theorem k_X9_undo : Cond.code yX9_undo cX9_undo 2 (some .int) ∈ ALLW := (ALLW_c7 218 rfl rfl)
set_option maxRecDepth 100000 in
theorem k_X9_piece : Cond.code yX9_piece cX9_piece 3 (some .int) ∈ ALLW := (ALLW_c7 222 rfl rfl)
set_option maxRecDepth 100000 in
theorem k_X9_likeMany : Cond.code yX9_likeMany cX9_likeMany 4 (some .int) ∈ ALLW := (ALLW_c7 226 rfl rfl)
set_option maxRecDepth 100000 in
theorem k_X9_wordsOf : Cond.code yX9_wordsOf cX9_wordsOf 4 (some .int) ∈ ALLW := (ALLW_c7 230 rfl rfl)
set_option maxRecDepth 100000 in
theorem k_X9_knownOf : Cond.code yX9_knownOf cX9_knownOf 6 (some .int) ∈ ALLW := (ALLW_c7 234 rfl rfl)
set_option maxRecDepth 100000 in
theorem k_X9_builtBegin : Cond.code yX9_builtBegin cX9_builtBegin 3 (some .int) ∈ ALLW := (ALLW_c7 238 rfl rfl)
set_option maxRecDepth 100000 in
theorem k_X9_builds : Cond.code yX9_builds cX9_builds 6 (some .int) ∈ ALLW := (ALLW_c8 2 rfl rfl)
set_option maxRecDepth 100000 in
theorem k_X9_octet : Cond.code yX9_octet cX9_octet 4 (some .int) ∈ ALLW := (ALLW_c8 6 rfl rfl)
set_option maxRecDepth 100000 in
theorem k_X9_origin : Cond.code yX9_origin cX9_origin 3 (some .int) ∈ ALLW := (ALLW_c8 10 rfl rfl)
set_option maxRecDepth 100000 in
theorem k_X9_key : Cond.code yX9_key cX9_key 3 (some .int) ∈ ALLW := (ALLW_c8 14 rfl rfl)
set_option maxRecDepth 100000 in
theorem k_X9_holder : Cond.code yX9_holder cX9_holder 3 (some .int) ∈ ALLW := (ALLW_c8 18 rfl rfl)
set_option maxRecDepth 100000 in
theorem k_X9_at : Cond.code yX9_at cX9_at 4 (some .int) ∈ ALLW := (ALLW_c8 22 rfl rfl)
set_option maxRecDepth 100000 in
theorem k_X9_like : Cond.code yX9_like cX9_like 5 (some .int) ∈ ALLW := (ALLW_c8 26 rfl rfl)
set_option maxRecDepth 100000 in
theorem k_X9_would : Cond.code yX9_would cX9_would 3 (some .int) ∈ ALLW := (ALLW_c8 30 rfl rfl)
set_option maxRecDepth 100000 in
theorem k_X9_found : Cond.code yX9_found cX9_found 5 (some .long) ∈ ALLW := (ALLW_c8 34 rfl rfl)
set_option maxRecDepth 100000 in
theorem k_X9_hasWord : Cond.code yX9_hasWord cX9_hasWord 7 (some .boolean) ∈ ALLW := (ALLW_c8 38 rfl rfl)
set_option maxRecDepth 100000 in
theorem k_X9_memory : Cond.code yX9_memory cX9_memory 5 (some .int) ∈ ALLW := (ALLW_c8 42 rfl rfl)
set_option maxRecDepth 100000 in
theorem k_X9_twice : Cond.code yX9_twice cX9_twice 3 (some .boolean) ∈ ALLW := (ALLW_c8 46 rfl rfl)
set_option maxRecDepth 100000 in
theorem k_X9_cutsBuilt : Cond.code yX9_cutsBuilt cX9_cutsBuilt 6 none ∈ ALLW := (ALLW_c8 50 rfl rfl)
set_option maxRecDepth 100000 in
theorem k_X9_isNow : Cond.code yX9_isNow cX9_isNow 5 (some .boolean) ∈ ALLW := (ALLW_c8 54 rfl rfl)
set_option maxRecDepth 100000 in
theorem k_X9_kept : Cond.code yX9_kept cX9_kept 5 (some .boolean) ∈ ALLW := (ALLW_c8 58 rfl rfl)
set_option maxRecDepth 100000 in
theorem k_X9_image : Cond.code yX9_image cX9_image 2 none ∈ ALLW := (ALLW_c8 62 rfl rfl)
set_option maxRecDepth 100000 in
theorem k_X9_back : Cond.code yX9_back cX9_back 2 (some .boolean) ∈ ALLW := (ALLW_c8 66 rfl rfl)
set_option maxRecDepth 100000 in
theorem k_X9_count : Cond.code yX9_count cX9_count 2 (some .int) ∈ ALLW := (ALLW_c8 70 rfl rfl)
set_option maxRecDepth 100000 in
theorem k_X9_skeleton : Cond.code yX9_skeleton cX9_skeleton 3 (some .int) ∈ ALLW := (ALLW_c8 74 rfl rfl)
set_option maxRecDepth 100000 in
theorem k_X9_unlikeTexts : Cond.code yX9_unlikeTexts cX9_unlikeTexts 5 (some .int) ∈ ALLW := (ALLW_c8 78 rfl rfl)
set_option maxRecDepth 100000 in
theorem k_X9_allWords : Cond.code yX9_allWords cX9_allWords 3 (some .int) ∈ ALLW := (ALLW_c8 82 rfl rfl)
set_option maxRecDepth 100000 in
theorem k_X9_longest : Cond.code yX9_longest cX9_longest 3 (some .int) ∈ ALLW := (ALLW_c8 86 rfl rfl)
