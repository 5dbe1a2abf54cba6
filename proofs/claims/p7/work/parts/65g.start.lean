theorem st_known {s : State} {args : Array Value} (hts : ∀ w ∈ lw_tbl, w.before args s = true) : ∃ D : va_G, ∀ (k : Nat) (q : vw_C), vwCl[k]? = some q → u_Kn s q.1 q.2.1 q.2.2 (D.1 k) (D.2 k) := by
  have hall : ∀ w ∈ ALLW, w.before args s = true := fun w hw => hts w (List.mem_filter.mp hw).1
  have h1 : ∀ k : Nat, ∃ r : ClassId × (Nat → Nat), ∀ q : vw_C, vwCl[k]? = some q → u_Kn s q.1 q.2.1 q.2.2 r.1 r.2 := by
    intro k
    match k with
    | 0 =>
      obtain ⟨c9, i9, h9⟩ := u_known (ws := ALLW) (C := RX0) (T := TX0) (N := 4) (n := 4) hall uw0 (hts _ (List.mem_append_right _ (List.mem_of_getElem? (i := 245) (by decide +kernel))))
      exact ⟨(c9, i9), fun q hq => by cases hq; exact h9⟩
    | 1 =>
      obtain ⟨c9, i9, h9⟩ := u_known (ws := ALLW) (C := RX1) (T := TX1) (N := 8) (n := 8) hall uw1 (hts _ (List.mem_append_right _ (List.mem_of_getElem? (i := 102) (by decide +kernel))))
      exact ⟨(c9, i9), fun q hq => by cases hq; exact h9⟩
    | 2 =>
      obtain ⟨c9, i9, h9⟩ := u_known (ws := ALLW) (C := RX2) (T := TX2) (N := 3) (n := 3) hall uw2 (hts _ (List.mem_append_right _ (List.mem_of_getElem? (i := 620) (by decide +kernel))))
      exact ⟨(c9, i9), fun q hq => by cases hq; exact h9⟩
    | 3 =>
      obtain ⟨c9, i9, h9⟩ := u_known (ws := ALLW) (C := RX3) (T := TX3) (N := 12) (n := 12) hall uw3 (hts _ (List.mem_append_right _ (List.mem_of_getElem? (i := 160) (by decide +kernel))))
      exact ⟨(c9, i9), fun q hq => by cases hq; exact h9⟩
    | 4 =>
      obtain ⟨c9, i9, h9⟩ := u_known (ws := ALLW) (C := RX4) (T := TX4) (N := 8) (n := 8) hall uw4 (hts _ (List.mem_append_right _ (List.mem_of_getElem? (i := 268) (by decide +kernel))))
      exact ⟨(c9, i9), fun q hq => by cases hq; exact h9⟩
    | 5 =>
      obtain ⟨c9, i9, h9⟩ := u_known (ws := ALLW) (C := RX5) (T := TX5) (N := 2) (n := 2) hall uw5 (hts _ (List.mem_append_right _ (List.mem_of_getElem? (i := 32) (by decide +kernel))))
      exact ⟨(c9, i9), fun q hq => by cases hq; exact h9⟩
    | 6 =>
      obtain ⟨c9, i9, h9⟩ := u_known (ws := ALLW) (C := RX6) (T := TX6) (N := 10) (n := 10) hall uw6 (hts _ (List.mem_append_right _ (List.mem_of_getElem? (i := 110) (by decide +kernel))))
      exact ⟨(c9, i9), fun q hq => by cases hq; exact h9⟩
    | 7 =>
      obtain ⟨c9, i9, h9⟩ := u_known (ws := ALLW) (C := RX7) (T := TX7) (N := 10) (n := 10) hall uw7 (hts _ (List.mem_append_right _ (List.mem_of_getElem? (i := 46) (by decide +kernel))))
      exact ⟨(c9, i9), fun q hq => by cases hq; exact h9⟩
    | 8 =>
      obtain ⟨c9, i9, h9⟩ := u_known (ws := ALLW) (C := RX8) (T := TX8) (N := 14) (n := 14) hall uw8 (hts _ (List.mem_append_right _ (List.mem_of_getElem? (i := 24) (by decide +kernel))))
      exact ⟨(c9, i9), fun q hq => by cases hq; exact h9⟩
    | 9 =>
      obtain ⟨c9, i9, h9⟩ := u_known (ws := ALLW) (C := RX9) (T := TX9) (N := 60) (n := 60) hall uw9 (hts _ (List.mem_append_right _ (List.mem_of_getElem? (i := 1138) (by decide +kernel))))
      exact ⟨(c9, i9), fun q hq => by cases hq; exact h9⟩
    | k + 10 => exact ⟨(0, fun _ => 0), fun q hq => by simp [vwCl] at hq⟩
  refine ⟨(fun k => (Classical.choose (h1 k)).1, fun k => (Classical.choose (h1 k)).2), fun k q hq => Classical.choose_spec (h1 k) q hq⟩
theorem st_arr {s : State} {args : Array Value} (hts : ∀ w ∈ lw_tbl, w.before args s = true) (b : Nat) (D : va_G) : ∃ a : Nat → ClassId, ∀ (k : Nat) (q : ClassId × FieldType), (tysX (b, D, a))[k]? = some q → ArrOfT s q.1 q.2 ∧ va_RA s q.1 q.2 := by
  obtain ⟨c0, k0, m0, f01, f02, f03⟩ := Cond.arrayClass_spec (hts (.arrayClass .int) (List.mem_append_right _ (List.mem_of_getElem? (i := 44) (by decide +kernel))))
  obtain ⟨c4, k4, m4, f41, f42, f43⟩ := Cond.arrayClass_spec (hts (.arrayClass .long) (List.mem_append_right _ (List.mem_of_getElem? (i := 1767) (by decide +kernel))))
  obtain ⟨m1, c1, k1, g11, -, g12, g13, g14⟩ := Cond.arrayOver_spec (hts (.arrayOver (.object "PieceFiles$Piece")) (List.mem_append_right _ (List.mem_of_getElem? (i := 159) (by decide +kernel))))
  obtain ⟨m2, c2, k2, g21, -, g22, g23, g24⟩ := Cond.arrayOver_spec (hts (.arrayOver (.object "PieceFiles$Row")) (List.mem_append_right _ (List.mem_of_getElem? (i := 53) (by decide +kernel))))
  obtain ⟨m3, c3, k3, g31, -, g32, g33, g34⟩ := Cond.arrayOver_spec (hts (.arrayOver (.object "PieceFiles$State")) (List.mem_append_right _ (List.mem_of_getElem? (i := 100) (by decide +kernel))))
  refine ⟨fun k => match k with
    | 0 => c0
    | 1 => c1
    | 2 => c2
    | 3 => c3
    | _ => c4, ?_⟩
  intro k q hq
  match k, hq with
  | 0, hq => cases hq; exact ⟨fun n z => ⟨(fun k h => by cases h), k0, f02, m0, f03⟩, f01⟩
  | 1, hq => cases hq; exact ⟨fun n z => ⟨(fun k h => by cases h), k1, g12, m1, g13⟩, k1, m1, g12, g13, g11, g14⟩
  | 2, hq => cases hq; exact ⟨fun n z => ⟨(fun k h => by cases h), k2, g22, m2, g23⟩, k2, m2, g22, g23, g21, g24⟩
  | 3, hq => cases hq; exact ⟨fun n z => ⟨(fun k h => by cases h), k3, g32, m3, g33⟩, k3, m3, g32, g33, g31, g34⟩
  | 4, hq => cases hq; exact ⟨fun n z => ⟨(fun k h => by cases h), k4, f42, m4, f43⟩, f41⟩
  | k + 5, hq => simp [tysX] at hq
theorem st_str {s : State} {args : Array Value} {own tx : String} {k : Nat} (h1 : (Cond.stringRef own k tx).before args s = true) (h2 : (Cond.exactly (.string own k) "java/lang/String").before args s = true) : ∃ sa, vk_R own k tx sa s := by
  obtain ⟨a, -, -, -, h3, -⟩ := Cond.exactly_spec h2
  exact ⟨a, vk_R.of h1 h3⟩
theorem st_xw {s : State} {args : Array Value} (hts : ∀ w ∈ lw_tbl, w.before args s = true) : ∀ w ∈ xW, va_Nw w s := by
  intro w hw
  simp only [xW, List.mem_cons, List.not_mem_nil, or_false] at hw
  rcases hw with rfl | rfl | rfl | rfl | rfl | rfl | rfl | rfl | rfl | rfl
  · exact va_Nw.of rfl (hts _ (List.mem_append_right _ (List.mem_of_getElem? (i := 161) (by decide +kernel))))
  · exact va_Nw.of rfl (hts _ (List.mem_append_right _ (List.mem_of_getElem? (i := 501) (by decide +kernel))))
  · exact va_Nw.of rfl (hts _ (List.mem_append_right _ (List.mem_of_getElem? (i := 1123) (by decide +kernel))))
  · exact va_Nw.of rfl (hts _ (List.mem_append_right _ (List.mem_of_getElem? (i := 910) (by decide +kernel))))
  · exact va_Nw.of rfl (hts _ (List.mem_append_right _ (List.mem_of_getElem? (i := 651) (by decide +kernel))))
  · exact va_Nw.of rfl (hts _ (List.mem_append_right _ (List.mem_of_getElem? (i := 1040) (by decide +kernel))))
  · exact va_Nw.of rfl (hts _ (List.mem_append_right _ (List.mem_of_getElem? (i := 942) (by decide +kernel))))
  · exact va_Nw.of rfl (hts _ (List.mem_append_right _ (List.mem_of_getElem? (i := 653) (by decide +kernel))))
  · exact va_Nw.of rfl (hts _ (List.mem_append_right _ (List.mem_of_getElem? (i := 655) (by decide +kernel))))
  · exact va_Nw.of rfl (hts _ (List.mem_append_right _ (List.mem_of_getElem? (i := 657) (by decide +kernel))))
set_option maxRecDepth 100000 in
theorem st_strs {s : State} {args : Array Value} (hts : ∀ w ∈ lw_tbl, w.before args s = true) (hgv : (Jvm.Cond.and given_1 narrow_1).before args s = true) : ∀ q ∈ strsX, ∃ sa, vk_R q.1 q.2.1 q.2.2 sa s := by
  have hs := flat_of_before _ hgv
  intro q hq
  simp only [strsX, List.mem_cons, List.not_mem_nil, or_false] at hq
  rcases hq with rfl | rfl | rfl | rfl | rfl | rfl | rfl | rfl | rfl | rfl | rfl
  · exact st_str (own := "PieceFiles") (k := 118) (tx := "the text is wrong") (hts _ (List.mem_append_right _ (List.mem_of_getElem? (i := 917) (by decide +kernel)))) (hs (.exactly (.string "PieceFiles" 118) "java/lang/String") (by decide +kernel))
  · exact st_str (own := "PieceFiles") (k := 137) (tx := "there is no such kind") (hts _ (List.mem_append_right _ (List.mem_of_getElem? (i := 931) (by decide +kernel)))) (hs (.exactly (.string "PieceFiles" 137) "java/lang/String") (by decide +kernel))
  · exact st_str (own := "PieceFiles") (k := 144) (tx := "there is no such rule") (hts _ (List.mem_append_right _ (List.mem_of_getElem? (i := 949) (by decide +kernel)))) (hs (.exactly (.string "PieceFiles" 144) "java/lang/String") (by decide +kernel))
  · exact st_str (own := "PieceFiles") (k := 147) (tx := "the rule has no such number") (hts _ (List.mem_append_right _ (List.mem_of_getElem? (i := 956) (by decide +kernel)))) (hs (.exactly (.string "PieceFiles" 147) "java/lang/String") (by decide +kernel))
  · exact st_str (own := "PieceFiles") (k := 153) (tx := "it is no word") (hts _ (List.mem_append_right _ (List.mem_of_getElem? (i := 973) (by decide +kernel)))) (hs (.exactly (.string "PieceFiles" 153) "java/lang/String") (by decide +kernel))
  · exact st_str (own := "PieceFiles") (k := 158) (tx := "more than 60 bytes") (hts _ (List.mem_append_right _ (List.mem_of_getElem? (i := 985) (by decide +kernel)))) (hs (.exactly (.string "PieceFiles" 158) "java/lang/String") (by decide +kernel))
  · exact st_str (own := "PieceFiles") (k := 172) (tx := "there is none to take back") (hts _ (List.mem_append_right _ (List.mem_of_getElem? (i := 1025) (by decide +kernel)))) (hs (.exactly (.string "PieceFiles" 172) "java/lang/String") (by decide +kernel))
  · exact st_str (own := "PieceFiles") (k := 211) (tx := "nothing such is told of a piece") (hts _ (List.mem_append_right _ (List.mem_of_getElem? (i := 1058) (by decide +kernel)))) (hs (.exactly (.string "PieceFiles" 211) "java/lang/String") (by decide +kernel))
  · exact st_str (own := "PieceFiles") (k := 230) (tx := "nothing such is told of a key") (hts _ (List.mem_append_right _ (List.mem_of_getElem? (i := 1088) (by decide +kernel)))) (hs (.exactly (.string "PieceFiles" 230) "java/lang/String") (by decide +kernel))
  · exact st_str (own := "PieceFiles") (k := 323) (tx := "there is no such piece") (hts _ (List.mem_append_right _ (List.mem_of_getElem? (i := 1047) (by decide +kernel)))) (hs (.exactly (.string "PieceFiles" 323) "java/lang/String") (by decide +kernel))
  · exact st_str (own := "PieceFiles") (k := 326) (tx := "the act is refused") (hts _ (List.mem_append_right _ (List.mem_of_getElem? (i := 691) (by decide +kernel)))) (hs (.exactly (.string "PieceFiles" 326) "java/lang/String") (by decide +kernel))
set_option maxRecDepth 100000 in
theorem st_nc {s : State} {args : Array Value} (hgv : (Jvm.Cond.and given_1 narrow_1).before args s = true) : ∀ q ∈ ncX, va_Nc q.1 q.2 s := by
  have hs := flat_of_before _ hgv
  intro q hq
  simp only [ncX, List.mem_cons, List.not_mem_nil, or_false] at hq
  rcases hq with rfl | rfl | rfl | rfl
  · exact va_Nc.of (hs (.not (.castable eA eN)) (by decide +kernel))
  · exact va_Nc.of (hs (.not (.castable eS eA)) (by decide +kernel))
  · exact va_Nc.of (hs (.not (.castable eN eI)) (by decide +kernel))
  · exact va_Nc.of (hs (.not (.castable eA eI)) (by decide +kernel))
theorem te9_0 {s : State} {args : Array Value} (hs : ∀ w ∈ flatC (Jvm.Cond.and given_1 narrow_1), w.before args s = true) : ∀ j : Nat, j < 4 → (Cond.eq (.elem (.field (.string "PieceFilesModel" 186) "java/lang/String" "value" "[B") (.int (Int32.ofNat j))) (.int (([38, 108, 116, 59] : List Int32).getD j 0))).before args s = true
  | 0, _ => hs _ tw9_0_4
  | 1, _ => hs _ tw9_0_5
  | 2, _ => hs _ tw9_0_6
  | 3, _ => hs _ tw9_0_7
  | k + 4, h => absurd h (by omega)
theorem te9_1 {s : State} {args : Array Value} (hs : ∀ w ∈ flatC (Jvm.Cond.and given_1 narrow_1), w.before args s = true) : ∀ j : Nat, j < 4 → (Cond.eq (.elem (.field (.string "PieceFilesModel" 192) "java/lang/String" "value" "[B") (.int (Int32.ofNat j))) (.int (([38, 103, 116, 59] : List Int32).getD j 0))).before args s = true
  | 0, _ => hs _ tw9_1_4
  | 1, _ => hs _ tw9_1_5
  | 2, _ => hs _ tw9_1_6
  | 3, _ => hs _ tw9_1_7
  | k + 4, h => absurd h (by omega)
theorem te9_2 {s : State} {args : Array Value} (hs : ∀ w ∈ flatC (Jvm.Cond.and given_1 narrow_1), w.before args s = true) : ∀ j : Nat, j < 5 → (Cond.eq (.elem (.field (.string "PieceFilesModel" 194) "java/lang/String" "value" "[B") (.int (Int32.ofNat j))) (.int (([38, 97, 109, 112, 59] : List Int32).getD j 0))).before args s = true
  | 0, _ => hs _ tw9_2_4
  | 1, _ => hs _ tw9_2_5
  | 2, _ => hs _ tw9_2_6
  | 3, _ => hs _ tw9_2_7
  | 4, _ => hs _ tw9_2_8
  | k + 5, h => absurd h (by omega)
theorem te9_3 {s : State} {args : Array Value} (hs : ∀ w ∈ flatC (Jvm.Cond.and given_1 narrow_1), w.before args s = true) : ∀ j : Nat, j < 4 → (Cond.eq (.elem (.field (.string "PieceFilesModel" 373) "java/lang/String" "value" "[B") (.int (Int32.ofNat j))) (.int (([107, 105, 110, 100] : List Int32).getD j 0))).before args s = true
  | 0, _ => hs _ tw9_3_4
  | 1, _ => hs _ tw9_3_5
  | 2, _ => hs _ tw9_3_6
  | 3, _ => hs _ tw9_3_7
  | k + 4, h => absurd h (by omega)
theorem te9_4 {s : State} {args : Array Value} (hs : ∀ w ∈ flatC (Jvm.Cond.and given_1 narrow_1), w.before args s = true) : ∀ j : Nat, j < 5 → (Cond.eq (.elem (.field (.string "PieceFilesModel" 383) "java/lang/String" "value" "[B") (.int (Int32.ofNat j))) (.int (([105, 110, 110, 101, 114] : List Int32).getD j 0))).before args s = true
  | 0, _ => hs _ tw9_4_4
  | 1, _ => hs _ tw9_4_5
  | 2, _ => hs _ tw9_4_6
  | 3, _ => hs _ tw9_4_7
  | 4, _ => hs _ tw9_4_8
  | k + 5, h => absurd h (by omega)
theorem te9_5 {s : State} {args : Array Value} (hs : ∀ w ∈ flatC (Jvm.Cond.and given_1 narrow_1), w.before args s = true) : ∀ j : Nat, j < 5 → (Cond.eq (.elem (.field (.string "PieceFilesModel" 385) "java/lang/String" "value" "[B") (.int (Int32.ofNat j))) (.int (([112, 108, 97, 105, 110] : List Int32).getD j 0))).before args s = true
  | 0, _ => hs _ tw9_5_4
  | 1, _ => hs _ tw9_5_5
  | 2, _ => hs _ tw9_5_6
  | 3, _ => hs _ tw9_5_7
  | 4, _ => hs _ tw9_5_8
  | k + 5, h => absurd h (by omega)
theorem te9_6 {s : State} {args : Array Value} (hs : ∀ w ∈ flatC (Jvm.Cond.and given_1 narrow_1), w.before args s = true) : ∀ j : Nat, j < 7 → (Cond.eq (.elem (.field (.string "PieceFilesModel" 386) "java/lang/String" "value" "[B") (.int (Int32.ofNat j))) (.int (([108, 101, 116, 116, 101, 114, 115] : List Int32).getD j 0))).before args s = true
  | 0, _ => hs _ tw9_6_4
  | 1, _ => hs _ tw9_6_5
  | 2, _ => hs _ tw9_6_6
  | 3, _ => hs _ tw9_6_7
  | 4, _ => hs _ tw9_6_8
  | 5, _ => hs _ tw9_6_9
  | 6, _ => hs _ tw9_6_10
  | k + 7, h => absurd h (by omega)
theorem te9_7 {s : State} {args : Array Value} (hs : ∀ w ∈ flatC (Jvm.Cond.and given_1 narrow_1), w.before args s = true) : ∀ j : Nat, j < 3 → (Cond.eq (.elem (.field (.string "PieceFilesModel" 388) "java/lang/String" "value" "[B") (.int (Int32.ofNat j))) (.int (([97, 110, 121] : List Int32).getD j 0))).before args s = true
  | 0, _ => hs _ tw9_7_4
  | 1, _ => hs _ tw9_7_5
  | 2, _ => hs _ tw9_7_6
  | k + 3, h => absurd h (by omega)
theorem te9_8 {s : State} {args : Array Value} (hs : ∀ w ∈ flatC (Jvm.Cond.and given_1 narrow_1), w.before args s = true) : ∀ j : Nat, j < 5 → (Cond.eq (.elem (.field (.string "PieceFilesModel" 390) "java/lang/String" "value" "[B") (.int (Int32.ofNat j))) (.int (([108, 101, 97, 115, 116] : List Int32).getD j 0))).before args s = true
  | 0, _ => hs _ tw9_8_4
  | 1, _ => hs _ tw9_8_5
  | 2, _ => hs _ tw9_8_6
  | 3, _ => hs _ tw9_8_7
  | 4, _ => hs _ tw9_8_8
  | k + 5, h => absurd h (by omega)
theorem te9_9 {s : State} {args : Array Value} (hs : ∀ w ∈ flatC (Jvm.Cond.and given_1 narrow_1), w.before args s = true) : ∀ j : Nat, j < 4 → (Cond.eq (.elem (.field (.string "PieceFilesModel" 392) "java/lang/String" "value" "[B") (.int (Int32.ofNat j))) (.int (([108, 111, 99, 107] : List Int32).getD j 0))).before args s = true
  | 0, _ => hs _ tw9_9_4
  | 1, _ => hs _ tw9_9_5
  | 2, _ => hs _ tw9_9_6
  | 3, _ => hs _ tw9_9_7
  | k + 4, h => absurd h (by omega)
theorem te9_10 {s : State} {args : Array Value} (hs : ∀ w ∈ flatC (Jvm.Cond.and given_1 narrow_1), w.before args s = true) : ∀ j : Nat, j < 6 → (Cond.eq (.elem (.field (.string "PieceFilesModel" 397) "java/lang/String" "value" "[B") (.int (Int32.ofNat j))) (.int (([117, 110, 108, 111, 99, 107] : List Int32).getD j 0))).before args s = true
  | 0, _ => hs _ tw9_10_4
  | 1, _ => hs _ tw9_10_5
  | 2, _ => hs _ tw9_10_6
  | 3, _ => hs _ tw9_10_7
  | 4, _ => hs _ tw9_10_8
  | 5, _ => hs _ tw9_10_9
  | k + 6, h => absurd h (by omega)
theorem te9_11 {s : State} {args : Array Value} (hs : ∀ w ∈ flatC (Jvm.Cond.and given_1 narrow_1), w.before args s = true) : ∀ j : Nat, j < 4 → (Cond.eq (.elem (.field (.string "PieceFilesModel" 402) "java/lang/String" "value" "[B") (.int (Int32.ofNat j))) (.int (([102, 114, 101, 101] : List Int32).getD j 0))).before args s = true
  | 0, _ => hs _ tw9_11_4
  | 1, _ => hs _ tw9_11_5
  | 2, _ => hs _ tw9_11_6
  | 3, _ => hs _ tw9_11_7
  | k + 4, h => absurd h (by omega)
theorem te9_12 {s : State} {args : Array Value} (hs : ∀ w ∈ flatC (Jvm.Cond.and given_1 narrow_1), w.before args s = true) : ∀ j : Nat, j < 6 → (Cond.eq (.elem (.field (.string "PieceFilesModel" 408) "java/lang/String" "value" "[B") (.int (Int32.ofNat j))) (.int (([115, 112, 114, 101, 97, 100] : List Int32).getD j 0))).before args s = true
  | 0, _ => hs _ tw9_12_4
  | 1, _ => hs _ tw9_12_5
  | 2, _ => hs _ tw9_12_6
  | 3, _ => hs _ tw9_12_7
  | 4, _ => hs _ tw9_12_8
  | 5, _ => hs _ tw9_12_9
  | k + 6, h => absurd h (by omega)
theorem te9_13 {s : State} {args : Array Value} (hs : ∀ w ∈ flatC (Jvm.Cond.and given_1 narrow_1), w.before args s = true) : ∀ j : Nat, j < 4 → (Cond.eq (.elem (.field (.string "PieceFilesModel" 410) "java/lang/String" "value" "[B") (.int (Int32.ofNat j))) (.int (([115, 119, 97, 112] : List Int32).getD j 0))).before args s = true
  | 0, _ => hs _ tw9_13_4
  | 1, _ => hs _ tw9_13_5
  | 2, _ => hs _ tw9_13_6
  | 3, _ => hs _ tw9_13_7
  | k + 4, h => absurd h (by omega)
theorem te9_14 {s : State} {args : Array Value} (hs : ∀ w ∈ flatC (Jvm.Cond.and given_1 narrow_1), w.before args s = true) : ∀ j : Nat, j < 4 → (Cond.eq (.elem (.field (.string "PieceFilesModel" 415) "java/lang/String" "value" "[B") (.int (Int32.ofNat j))) (.int (([119, 105, 112, 101] : List Int32).getD j 0))).before args s = true
  | 0, _ => hs _ tw9_14_4
  | 1, _ => hs _ tw9_14_5
  | 2, _ => hs _ tw9_14_6
  | 3, _ => hs _ tw9_14_7
  | k + 4, h => absurd h (by omega)
theorem st_s9 {s : State} {args : Array Value} (hs : ∀ w ∈ flatC (Jvm.Cond.and given_1 narrow_1), w.before args s = true) {A : Nat → Prop} (hA : ∀ a : Nat, a < s.heap.size → ¬ A a) : ∃ adK adV : Nat → Nat, vk_S 15 sL9 sB9 adK adV A s s.heap ∧ ∀ i : Nat, i < 15 → (Term.string "PieceFilesModel" (sI9.getD i 0)).eval args s none [] s = some (.ref (adK i)) := by
  refine vs_of (tm := fun i => Term.string "PieceFilesModel" (sI9.getD i 0)) ?_ ?_ ?_ ?_ ?_ ?_ sD9 hA
  · have h : ∀ i : Fin 15, sL9.getD (i : Nat) 0 < 2 ^ 31 := by decide
    exact fun i hi => h ⟨i, hi⟩
  · intro i hi
    match i, hi with
    | 0, _ => exact hs _ tw9_0_0
    | 1, _ => exact hs _ tw9_1_0
    | 2, _ => exact hs _ tw9_2_0
    | 3, _ => exact hs _ tw9_3_0
    | 4, _ => exact hs _ tw9_4_0
    | 5, _ => exact hs _ tw9_5_0
    | 6, _ => exact hs _ tw9_6_0
    | 7, _ => exact hs _ tw9_7_0
    | 8, _ => exact hs _ tw9_8_0
    | 9, _ => exact hs _ tw9_9_0
    | 10, _ => exact hs _ tw9_10_0
    | 11, _ => exact hs _ tw9_11_0
    | 12, _ => exact hs _ tw9_12_0
    | 13, _ => exact hs _ tw9_13_0
    | 14, _ => exact hs _ tw9_14_0
    | k + 15, h => exact absurd h (by omega)
  · intro i hi
    match i, hi with
    | 0, _ => exact hs _ tw9_0_1
    | 1, _ => exact hs _ tw9_1_1
    | 2, _ => exact hs _ tw9_2_1
    | 3, _ => exact hs _ tw9_3_1
    | 4, _ => exact hs _ tw9_4_1
    | 5, _ => exact hs _ tw9_5_1
    | 6, _ => exact hs _ tw9_6_1
    | 7, _ => exact hs _ tw9_7_1
    | 8, _ => exact hs _ tw9_8_1
    | 9, _ => exact hs _ tw9_9_1
    | 10, _ => exact hs _ tw9_10_1
    | 11, _ => exact hs _ tw9_11_1
    | 12, _ => exact hs _ tw9_12_1
    | 13, _ => exact hs _ tw9_13_1
    | 14, _ => exact hs _ tw9_14_1
    | k + 15, h => exact absurd h (by omega)
  · intro i hi
    match i, hi with
    | 0, _ => exact hs _ tw9_0_2
    | 1, _ => exact hs _ tw9_1_2
    | 2, _ => exact hs _ tw9_2_2
    | 3, _ => exact hs _ tw9_3_2
    | 4, _ => exact hs _ tw9_4_2
    | 5, _ => exact hs _ tw9_5_2
    | 6, _ => exact hs _ tw9_6_2
    | 7, _ => exact hs _ tw9_7_2
    | 8, _ => exact hs _ tw9_8_2
    | 9, _ => exact hs _ tw9_9_2
    | 10, _ => exact hs _ tw9_10_2
    | 11, _ => exact hs _ tw9_11_2
    | 12, _ => exact hs _ tw9_12_2
    | 13, _ => exact hs _ tw9_13_2
    | 14, _ => exact hs _ tw9_14_2
    | k + 15, h => exact absurd h (by omega)
  · intro i hi
    match i, hi with
    | 0, _ => exact hs _ tw9_0_3
    | 1, _ => exact hs _ tw9_1_3
    | 2, _ => exact hs _ tw9_2_3
    | 3, _ => exact hs _ tw9_3_3
    | 4, _ => exact hs _ tw9_4_3
    | 5, _ => exact hs _ tw9_5_3
    | 6, _ => exact hs _ tw9_6_3
    | 7, _ => exact hs _ tw9_7_3
    | 8, _ => exact hs _ tw9_8_3
    | 9, _ => exact hs _ tw9_9_3
    | 10, _ => exact hs _ tw9_10_3
    | 11, _ => exact hs _ tw9_11_3
    | 12, _ => exact hs _ tw9_12_3
    | 13, _ => exact hs _ tw9_13_3
    | 14, _ => exact hs _ tw9_14_3
    | k + 15, h => exact absurd h (by omega)
  · intro i hi
    match i, hi with
    | 0, _ => exact te9_0 hs
    | 1, _ => exact te9_1 hs
    | 2, _ => exact te9_2 hs
    | 3, _ => exact te9_3 hs
    | 4, _ => exact te9_4 hs
    | 5, _ => exact te9_5 hs
    | 6, _ => exact te9_6 hs
    | 7, _ => exact te9_7 hs
    | 8, _ => exact te9_8 hs
    | 9, _ => exact te9_9 hs
    | 10, _ => exact te9_10 hs
    | 11, _ => exact te9_11 hs
    | 12, _ => exact te9_12 hs
    | 13, _ => exact te9_13 hs
    | 14, _ => exact te9_14 hs
    | k + 15, h => exact absurd h (by omega)
theorem st_r9 {s : State} {args : Array Value} (hts : ∀ w ∈ lw_tbl, w.before args s = true) : ∀ i : Nat, i < 15 → (Cond.stringRef "PieceFilesModel" (sI9.getD i 0) (sT9.getD i "")).before args s = true := by
  intro i hi
  match i, hi with
  | 0, _ => exact (hts _ (List.mem_append_right _ (List.mem_of_getElem? (i := 1428) (by decide +kernel))))
  | 1, _ => exact (hts _ (List.mem_append_right _ (List.mem_of_getElem? (i := 1432) (by decide +kernel))))
  | 2, _ => exact (hts _ (List.mem_append_right _ (List.mem_of_getElem? (i := 1433) (by decide +kernel))))
  | 3, _ => exact (hts _ (List.mem_append_right _ (List.mem_of_getElem? (i := 1355) (by decide +kernel))))
  | 4, _ => exact (hts _ (List.mem_append_right _ (List.mem_of_getElem? (i := 1453) (by decide +kernel))))
  | 5, _ => exact (hts _ (List.mem_append_right _ (List.mem_of_getElem? (i := 1454) (by decide +kernel))))
  | 6, _ => exact (hts _ (List.mem_append_right _ (List.mem_of_getElem? (i := 1455) (by decide +kernel))))
  | 7, _ => exact (hts _ (List.mem_append_right _ (List.mem_of_getElem? (i := 1456) (by decide +kernel))))
  | 8, _ => exact (hts _ (List.mem_append_right _ (List.mem_of_getElem? (i := 1457) (by decide +kernel))))
  | 9, _ => exact (hts _ (List.mem_append_right _ (List.mem_of_getElem? (i := 1458) (by decide +kernel))))
  | 10, _ => exact (hts _ (List.mem_append_right _ (List.mem_of_getElem? (i := 1467) (by decide +kernel))))
  | 11, _ => exact (hts _ (List.mem_append_right _ (List.mem_of_getElem? (i := 1472) (by decide +kernel))))
  | 12, _ => exact (hts _ (List.mem_append_right _ (List.mem_of_getElem? (i := 1548) (by decide +kernel))))
  | 13, _ => exact (hts _ (List.mem_append_right _ (List.mem_of_getElem? (i := 1549) (by decide +kernel))))
  | 14, _ => exact (hts _ (List.mem_append_right _ (List.mem_of_getElem? (i := 1566) (by decide +kernel))))
  | k + 15, h => exact absurd h (by omega)
theorem te4_0 {s : State} {args : Array Value} (hs : ∀ w ∈ flatC (Jvm.Cond.and given_1 narrow_1), w.before args s = true) : ∀ j : Nat, j < 4 → (Cond.eq (.elem (.field (.string "PieceFiles$Reader" 66) "java/lang/String" "value" "[B") (.int (Int32.ofNat j))) (.int (([107, 105, 110, 100] : List Int32).getD j 0))).before args s = true
  | 0, _ => hs _ tw4_0_4
  | 1, _ => hs _ tw4_0_5
  | 2, _ => hs _ tw4_0_6
  | 3, _ => hs _ tw4_0_7
  | k + 4, h => absurd h (by omega)
theorem te4_1 {s : State} {args : Array Value} (hs : ∀ w ∈ flatC (Jvm.Cond.and given_1 narrow_1), w.before args s = true) : ∀ j : Nat, j < 5 → (Cond.eq (.elem (.field (.string "PieceFiles$Reader" 68) "java/lang/String" "value" "[B") (.int (Int32.ofNat j))) (.int (([105, 110, 110, 101, 114] : List Int32).getD j 0))).before args s = true
  | 0, _ => hs _ tw4_1_4
  | 1, _ => hs _ tw4_1_5
  | 2, _ => hs _ tw4_1_6
  | 3, _ => hs _ tw4_1_7
  | 4, _ => hs _ tw4_1_8
  | k + 5, h => absurd h (by omega)
theorem te4_2 {s : State} {args : Array Value} (hs : ∀ w ∈ flatC (Jvm.Cond.and given_1 narrow_1), w.before args s = true) : ∀ j : Nat, j < 5 → (Cond.eq (.elem (.field (.string "PieceFiles$Reader" 70) "java/lang/String" "value" "[B") (.int (Int32.ofNat j))) (.int (([112, 108, 97, 105, 110] : List Int32).getD j 0))).before args s = true
  | 0, _ => hs _ tw4_2_4
  | 1, _ => hs _ tw4_2_5
  | 2, _ => hs _ tw4_2_6
  | 3, _ => hs _ tw4_2_7
  | 4, _ => hs _ tw4_2_8
  | k + 5, h => absurd h (by omega)
theorem te4_3 {s : State} {args : Array Value} (hs : ∀ w ∈ flatC (Jvm.Cond.and given_1 narrow_1), w.before args s = true) : ∀ j : Nat, j < 7 → (Cond.eq (.elem (.field (.string "PieceFiles$Reader" 72) "java/lang/String" "value" "[B") (.int (Int32.ofNat j))) (.int (([108, 101, 116, 116, 101, 114, 115] : List Int32).getD j 0))).before args s = true
  | 0, _ => hs _ tw4_3_4
  | 1, _ => hs _ tw4_3_5
  | 2, _ => hs _ tw4_3_6
  | 3, _ => hs _ tw4_3_7
  | 4, _ => hs _ tw4_3_8
  | 5, _ => hs _ tw4_3_9
  | 6, _ => hs _ tw4_3_10
  | k + 7, h => absurd h (by omega)
theorem te4_4 {s : State} {args : Array Value} (hs : ∀ w ∈ flatC (Jvm.Cond.and given_1 narrow_1), w.before args s = true) : ∀ j : Nat, j < 3 → (Cond.eq (.elem (.field (.string "PieceFiles$Reader" 74) "java/lang/String" "value" "[B") (.int (Int32.ofNat j))) (.int (([97, 110, 121] : List Int32).getD j 0))).before args s = true
  | 0, _ => hs _ tw4_4_4
  | 1, _ => hs _ tw4_4_5
  | 2, _ => hs _ tw4_4_6
  | k + 3, h => absurd h (by omega)
theorem te4_5 {s : State} {args : Array Value} (hs : ∀ w ∈ flatC (Jvm.Cond.and given_1 narrow_1), w.before args s = true) : ∀ j : Nat, j < 5 → (Cond.eq (.elem (.field (.string "PieceFiles$Reader" 76) "java/lang/String" "value" "[B") (.int (Int32.ofNat j))) (.int (([108, 101, 97, 115, 116] : List Int32).getD j 0))).before args s = true
  | 0, _ => hs _ tw4_5_4
  | 1, _ => hs _ tw4_5_5
  | 2, _ => hs _ tw4_5_6
  | 3, _ => hs _ tw4_5_7
  | 4, _ => hs _ tw4_5_8
  | k + 5, h => absurd h (by omega)
theorem te4_6 {s : State} {args : Array Value} (hs : ∀ w ∈ flatC (Jvm.Cond.and given_1 narrow_1), w.before args s = true) : ∀ j : Nat, j < 4 → (Cond.eq (.elem (.field (.string "PieceFiles$Reader" 78) "java/lang/String" "value" "[B") (.int (Int32.ofNat j))) (.int (([108, 111, 99, 107] : List Int32).getD j 0))).before args s = true
  | 0, _ => hs _ tw4_6_4
  | 1, _ => hs _ tw4_6_5
  | 2, _ => hs _ tw4_6_6
  | 3, _ => hs _ tw4_6_7
  | k + 4, h => absurd h (by omega)
theorem te4_7 {s : State} {args : Array Value} (hs : ∀ w ∈ flatC (Jvm.Cond.and given_1 narrow_1), w.before args s = true) : ∀ j : Nat, j < 6 → (Cond.eq (.elem (.field (.string "PieceFiles$Reader" 80) "java/lang/String" "value" "[B") (.int (Int32.ofNat j))) (.int (([117, 110, 108, 111, 99, 107] : List Int32).getD j 0))).before args s = true
  | 0, _ => hs _ tw4_7_4
  | 1, _ => hs _ tw4_7_5
  | 2, _ => hs _ tw4_7_6
  | 3, _ => hs _ tw4_7_7
  | 4, _ => hs _ tw4_7_8
  | 5, _ => hs _ tw4_7_9
  | k + 6, h => absurd h (by omega)
theorem te4_8 {s : State} {args : Array Value} (hs : ∀ w ∈ flatC (Jvm.Cond.and given_1 narrow_1), w.before args s = true) : ∀ j : Nat, j < 4 → (Cond.eq (.elem (.field (.string "PieceFiles$Reader" 82) "java/lang/String" "value" "[B") (.int (Int32.ofNat j))) (.int (([102, 114, 101, 101] : List Int32).getD j 0))).before args s = true
  | 0, _ => hs _ tw4_8_4
  | 1, _ => hs _ tw4_8_5
  | 2, _ => hs _ tw4_8_6
  | 3, _ => hs _ tw4_8_7
  | k + 4, h => absurd h (by omega)
theorem te4_9 {s : State} {args : Array Value} (hs : ∀ w ∈ flatC (Jvm.Cond.and given_1 narrow_1), w.before args s = true) : ∀ j : Nat, j < 6 → (Cond.eq (.elem (.field (.string "PieceFiles$Reader" 84) "java/lang/String" "value" "[B") (.int (Int32.ofNat j))) (.int (([115, 112, 114, 101, 97, 100] : List Int32).getD j 0))).before args s = true
  | 0, _ => hs _ tw4_9_4
  | 1, _ => hs _ tw4_9_5
  | 2, _ => hs _ tw4_9_6
  | 3, _ => hs _ tw4_9_7
  | 4, _ => hs _ tw4_9_8
  | 5, _ => hs _ tw4_9_9
  | k + 6, h => absurd h (by omega)
theorem te4_10 {s : State} {args : Array Value} (hs : ∀ w ∈ flatC (Jvm.Cond.and given_1 narrow_1), w.before args s = true) : ∀ j : Nat, j < 4 → (Cond.eq (.elem (.field (.string "PieceFiles$Reader" 86) "java/lang/String" "value" "[B") (.int (Int32.ofNat j))) (.int (([115, 119, 97, 112] : List Int32).getD j 0))).before args s = true
  | 0, _ => hs _ tw4_10_4
  | 1, _ => hs _ tw4_10_5
  | 2, _ => hs _ tw4_10_6
  | 3, _ => hs _ tw4_10_7
  | k + 4, h => absurd h (by omega)
theorem te4_11 {s : State} {args : Array Value} (hs : ∀ w ∈ flatC (Jvm.Cond.and given_1 narrow_1), w.before args s = true) : ∀ j : Nat, j < 4 → (Cond.eq (.elem (.field (.string "PieceFiles$Reader" 88) "java/lang/String" "value" "[B") (.int (Int32.ofNat j))) (.int (([119, 105, 112, 101] : List Int32).getD j 0))).before args s = true
  | 0, _ => hs _ tw4_11_4
  | 1, _ => hs _ tw4_11_5
  | 2, _ => hs _ tw4_11_6
  | 3, _ => hs _ tw4_11_7
  | k + 4, h => absurd h (by omega)
theorem st_s4 {s : State} {args : Array Value} (hs : ∀ w ∈ flatC (Jvm.Cond.and given_1 narrow_1), w.before args s = true) {A : Nat → Prop} (hA : ∀ a : Nat, a < s.heap.size → ¬ A a) : ∃ adK adV : Nat → Nat, vk_S 12 sL4 sB4 adK adV A s s.heap ∧ ∀ i : Nat, i < 12 → (Term.string "PieceFiles$Reader" (sI4.getD i 0)).eval args s none [] s = some (.ref (adK i)) := by
  refine vs_of (tm := fun i => Term.string "PieceFiles$Reader" (sI4.getD i 0)) ?_ ?_ ?_ ?_ ?_ ?_ sD4 hA
  · have h : ∀ i : Fin 12, sL4.getD (i : Nat) 0 < 2 ^ 31 := by decide
    exact fun i hi => h ⟨i, hi⟩
  · intro i hi
    match i, hi with
    | 0, _ => exact hs _ tw4_0_0
    | 1, _ => exact hs _ tw4_1_0
    | 2, _ => exact hs _ tw4_2_0
    | 3, _ => exact hs _ tw4_3_0
    | 4, _ => exact hs _ tw4_4_0
    | 5, _ => exact hs _ tw4_5_0
    | 6, _ => exact hs _ tw4_6_0
    | 7, _ => exact hs _ tw4_7_0
    | 8, _ => exact hs _ tw4_8_0
    | 9, _ => exact hs _ tw4_9_0
    | 10, _ => exact hs _ tw4_10_0
    | 11, _ => exact hs _ tw4_11_0
    | k + 12, h => exact absurd h (by omega)
  · intro i hi
    match i, hi with
    | 0, _ => exact hs _ tw4_0_1
    | 1, _ => exact hs _ tw4_1_1
    | 2, _ => exact hs _ tw4_2_1
    | 3, _ => exact hs _ tw4_3_1
    | 4, _ => exact hs _ tw4_4_1
    | 5, _ => exact hs _ tw4_5_1
    | 6, _ => exact hs _ tw4_6_1
    | 7, _ => exact hs _ tw4_7_1
    | 8, _ => exact hs _ tw4_8_1
    | 9, _ => exact hs _ tw4_9_1
    | 10, _ => exact hs _ tw4_10_1
    | 11, _ => exact hs _ tw4_11_1
    | k + 12, h => exact absurd h (by omega)
  · intro i hi
    match i, hi with
    | 0, _ => exact hs _ tw4_0_2
    | 1, _ => exact hs _ tw4_1_2
    | 2, _ => exact hs _ tw4_2_2
    | 3, _ => exact hs _ tw4_3_2
    | 4, _ => exact hs _ tw4_4_2
    | 5, _ => exact hs _ tw4_5_2
    | 6, _ => exact hs _ tw4_6_2
    | 7, _ => exact hs _ tw4_7_2
    | 8, _ => exact hs _ tw4_8_2
    | 9, _ => exact hs _ tw4_9_2
    | 10, _ => exact hs _ tw4_10_2
    | 11, _ => exact hs _ tw4_11_2
    | k + 12, h => exact absurd h (by omega)
  · intro i hi
    match i, hi with
    | 0, _ => exact hs _ tw4_0_3
    | 1, _ => exact hs _ tw4_1_3
    | 2, _ => exact hs _ tw4_2_3
    | 3, _ => exact hs _ tw4_3_3
    | 4, _ => exact hs _ tw4_4_3
    | 5, _ => exact hs _ tw4_5_3
    | 6, _ => exact hs _ tw4_6_3
    | 7, _ => exact hs _ tw4_7_3
    | 8, _ => exact hs _ tw4_8_3
    | 9, _ => exact hs _ tw4_9_3
    | 10, _ => exact hs _ tw4_10_3
    | 11, _ => exact hs _ tw4_11_3
    | k + 12, h => exact absurd h (by omega)
  · intro i hi
    match i, hi with
    | 0, _ => exact te4_0 hs
    | 1, _ => exact te4_1 hs
    | 2, _ => exact te4_2 hs
    | 3, _ => exact te4_3 hs
    | 4, _ => exact te4_4 hs
    | 5, _ => exact te4_5 hs
    | 6, _ => exact te4_6 hs
    | 7, _ => exact te4_7 hs
    | 8, _ => exact te4_8 hs
    | 9, _ => exact te4_9 hs
    | 10, _ => exact te4_10 hs
    | 11, _ => exact te4_11 hs
    | k + 12, h => exact absurd h (by omega)
theorem st_r4 {s : State} {args : Array Value} (hts : ∀ w ∈ lw_tbl, w.before args s = true) : ∀ i : Nat, i < 12 → (Cond.stringRef "PieceFiles$Reader" (sI4.getD i 0) (sT4.getD i "")).before args s = true := by
  intro i hi
  match i, hi with
  | 0, _ => exact (hts _ (List.mem_append_right _ (List.mem_of_getElem? (i := 823) (by decide +kernel))))
  | 1, _ => exact (hts _ (List.mem_append_right _ (List.mem_of_getElem? (i := 824) (by decide +kernel))))
  | 2, _ => exact (hts _ (List.mem_append_right _ (List.mem_of_getElem? (i := 825) (by decide +kernel))))
  | 3, _ => exact (hts _ (List.mem_append_right _ (List.mem_of_getElem? (i := 826) (by decide +kernel))))
  | 4, _ => exact (hts _ (List.mem_append_right _ (List.mem_of_getElem? (i := 827) (by decide +kernel))))
  | 5, _ => exact (hts _ (List.mem_append_right _ (List.mem_of_getElem? (i := 828) (by decide +kernel))))
  | 6, _ => exact (hts _ (List.mem_append_right _ (List.mem_of_getElem? (i := 829) (by decide +kernel))))
  | 7, _ => exact (hts _ (List.mem_append_right _ (List.mem_of_getElem? (i := 830) (by decide +kernel))))
  | 8, _ => exact (hts _ (List.mem_append_right _ (List.mem_of_getElem? (i := 831) (by decide +kernel))))
  | 9, _ => exact (hts _ (List.mem_append_right _ (List.mem_of_getElem? (i := 832) (by decide +kernel))))
  | 10, _ => exact (hts _ (List.mem_append_right _ (List.mem_of_getElem? (i := 833) (by decide +kernel))))
  | 11, _ => exact (hts _ (List.mem_append_right _ (List.mem_of_getElem? (i := 834) (by decide +kernel))))
  | k + 12, h => exact absurd h (by omega)
theorem st_rw {own : String} {N : Nat} {len : List Nat} {byt : List (List Int32)} {ix : List Nat} {tx : List String} {oK oV : Nat} {X : GX} {s : State} {args : Array Value} {adK adV : Nat → Nat} (h : vk_S N len byt adK adV (fun q => X.1 ≤ q) s s.heap) (hK : ∀ i, i < N → X.2.2 (oK + i) = adK i) (hV : ∀ i, i < N → X.2.2 (oV + i) = adV i) (he : ∀ i : Nat, i < N → (Term.string own (ix.getD i 0)).eval args s none [] s = some (.ref (adK i))) (hr : ∀ i : Nat, i < N → (Cond.stringRef own (ix.getD i 0) (tx.getD i "")).before args s = true) : STRW own N len byt ix tx oK oV X s := by
  refine ⟨⟨fun i hi => ?_, fun i j hi hj e => ?_⟩, fun i hi => ?_⟩
  · show va_O "java/lang/String" (X.2.2 (oK + i)) _ _ _ ∧ va_OF "java/lang/String" "coder" "B" (.int 0) (X.2.2 (oK + i)) _ _ _ ∧ va_OF "java/lang/String" "value" "[B" (.ref (X.2.2 (oV + i))) (X.2.2 (oK + i)) _ _ _ ∧ va_T .byte (X.2.2 (oV + i)) _ _ _ _ _
    rw [hK i hi, hV i hi]
    exact h.1 i hi
  · have e2 : X.2.2 (oK + i) = X.2.2 (oK + j) := e
    rw [hK i hi, hK j hj] at e2
    exact h.2 i j hi hj e2
  · rw [hK i hi]
    exact vk_R.of (hr i hi) (he i hi)
def aAll (a : Nat → ClassId) (k9 v9 k4 v4 : Nat → Nat) : Nat → ClassId := fun k => if k < 1000 then a k else if k < 2000 then k9 (k - 1000) else if k < 3000 then v9 (k - 2000) else if k < 4000 then k4 (k - 3000) else v4 (k - 4000)
set_option maxRecDepth 100000 in
theorem st_GG {s : State} {args : Array Value} (hts : ∀ w ∈ lw_tbl, w.before args s = true) (hgv : (Jvm.Cond.and given_1 narrow_1).before args s = true) : ∃ X : GX, X.1 = s.heap.size ∧ GG X s := by
  obtain ⟨D, hD⟩ := st_known hts
  obtain ⟨a, ha⟩ := st_arr hts s.heap.size D
  have hs := flat_of_before _ hgv
  obtain ⟨k9, v9, h9, e9⟩ := st_s9 (s := s) (args := args) hs (A := fun q => s.heap.size ≤ q) (fun q h => Nat.not_le.mpr h)
  obtain ⟨k4, v4, h4, e4⟩ := st_s4 (s := s) (args := args) hs (A := fun q => s.heap.size ≤ q) (fun q h => Nat.not_le.mpr h)
  have i0 : ∀ k, k < 1000 → aAll a k9 v9 k4 v4 k = a k := fun k h => if_pos h
  have i1 : ∀ i, i < 1000 → aAll a k9 v9 k4 v4 (1000 + i) = k9 i := fun i h => by
    unfold aAll
    rw [if_neg (by omega), if_pos (by omega), Nat.add_sub_cancel_left]
  have i2 : ∀ i, i < 1000 → aAll a k9 v9 k4 v4 (2000 + i) = v9 i := fun i h => by
    unfold aAll
    rw [if_neg (by omega), if_neg (by omega), if_pos (by omega), Nat.add_sub_cancel_left]
  have i3 : ∀ i, i < 1000 → aAll a k9 v9 k4 v4 (3000 + i) = k4 i := fun i h => by
    unfold aAll
    rw [if_neg (by omega), if_neg (by omega), if_neg (by omega), if_pos (by omega), Nat.add_sub_cancel_left]
  have i4 : ∀ i, i < 1000 → aAll a k9 v9 k4 v4 (4000 + i) = v4 i := fun i h => by
    unfold aAll
    rw [if_neg (by omega), if_neg (by omega), if_neg (by omega), if_neg (by omega), Nat.add_sub_cancel_left]
  have ety : tysX (s.heap.size, D, aAll a k9 v9 k4 v4) = tysX (s.heap.size, D, a) := by
    show [(aAll a k9 v9 k4 v4 0, _), (aAll a k9 v9 k4 v4 1, _), (aAll a k9 v9 k4 v4 2, _), (aAll a k9 v9 k4 v4 3, _), (aAll a k9 v9 k4 v4 4, _)] = _
    rw [i0 0 (by omega), i0 1 (by omega), i0 2 (by omega), i0 3 (by omega), i0 4 (by omega)]
    rfl
  refine ⟨(s.heap.size, D, aAll a k9 v9 k4 v4), rfl, ⟨hD, by rw [ety]; exact ha⟩, ?_, ?_, Nat.le_refl _, ⟨va_AO.of (hts (.arrayOver (.object "PieceFiles$Piece")) (List.mem_append_right _ (List.mem_of_getElem? (i := 159) (by decide +kernel)))), va_AO.of (hts (.arrayOver (.object "PieceFiles$Row")) (List.mem_append_right _ (List.mem_of_getElem? (i := 53) (by decide +kernel)))), va_AO.of (hts (.arrayOver (.object "PieceFiles$State")) (List.mem_append_right _ (List.mem_of_getElem? (i := 100) (by decide +kernel))))⟩, st_strs hts hgv, st_xw hts, st_nc hgv, ?_, ?_, ?_, ?_⟩
  · exact vx_Zqof (hts _ (List.mem_append_right _ (List.mem_of_getElem? (i := 676) (by decide +kernel)))) (hts _ (List.mem_append_right _ (List.mem_of_getElem? (i := 16) (by decide +kernel)))) (hs (.isRef (.static Bundle.tN "UNASSIGNED_STACK" Bundle.steD)) (by decide +kernel)) (fun q h => Nat.not_le.mpr h)
  · exact vx_Zqof (hts _ (List.mem_append_right _ (List.mem_of_getElem? (i := 678) (by decide +kernel)))) (hts _ (List.mem_append_right _ (List.mem_of_getElem? (i := 16) (by decide +kernel)))) (hs (.isRef (.static Bundle.tN "SUPPRESSED_SENTINEL" Bundle.listD)) (by decide +kernel)) (fun q h => Nat.not_le.mpr h)
  · exact st_rw h9 (fun i hi => i1 i (by omega)) (fun i hi => i2 i (by omega)) e9 (st_r9 hts)
  · exact st_rw h4 (fun i hi => i3 i (by omega)) (fun i hi => i4 i (by omega)) e4 (st_r4 hts)
  · exact va_Zof (hts _ (List.mem_append_right _ (List.mem_of_getElem? (i := 848) (by decide +kernel)))) (hts _ (List.mem_append_right _ (List.mem_of_getElem? (i := 10) (by decide +kernel)))) (va_eqt (hs _ (List.mem_of_getElem? (i := 6) (by decide +kernel)))) (fun q h => Nat.not_le.mpr h)
  · exact va_Zqof (hts _ (List.mem_append_right _ (List.mem_of_getElem? (i := 864) (by decide +kernel)))) (hts _ (List.mem_append_right _ (List.mem_of_getElem? (i := 12) (by decide +kernel)))) (hs _ (List.mem_of_getElem? (i := 7) (by decide +kernel))) (fun q h => Nat.not_le.mpr h)
