theorem st_known {s : State} {args : Array Value} (hts : ∀ w ∈ lw_tbl, w.before args s = true) : ∃ D : va_G, ∀ (k : Nat) (q : vw_C), vwCl[k]? = some q → u_Kn s q.1 q.2.1 q.2.2 (D.1 k) (D.2 k) := by
  have hall : ∀ w ∈ ALLW, w.before args s = true := fun w hw => hts w (List.mem_filter.mp hw).1
  have h1 : ∀ k : Nat, ∃ r : ClassId × (Nat → Nat), ∀ q : vw_C, vwCl[k]? = some q → u_Kn s q.1 q.2.1 q.2.2 r.1 r.2 := by
    intro k
    match k with
    | 0 =>
      obtain ⟨c9, i9, h9⟩ := u_known (ws := ALLW) (C := RX0) (T := TX0) (N := 4) (n := 4) hall uw0 (hts _ (List.mem_append_right _ (List.mem_of_getElem? (i := 245) (by decide +kernel))))
      exact ⟨(c9, i9), fun q hq => by cases hq; exact h9⟩
    | 1 =>
      obtain ⟨c9, i9, h9⟩ := u_known (ws := ALLW) (C := RX1) (T := TX1) (N := 8) (n := 8) hall uw1 (hts _ (List.mem_append_right _ (List.mem_of_getElem? (i := 102) (by decide +kernel))))
      exact ⟨(c9, i9), fun q hq => by cases hq; exact h9⟩
    | 2 =>
      obtain ⟨c9, i9, h9⟩ := u_known (ws := ALLW) (C := RX2) (T := TX2) (N := 3) (n := 3) hall uw2 (hts _ (List.mem_append_right _ (List.mem_of_getElem? (i := 620) (by decide +kernel))))
      exact ⟨(c9, i9), fun q hq => by cases hq; exact h9⟩
    | 3 =>
      obtain ⟨c9, i9, h9⟩ := u_known (ws := ALLW) (C := RX3) (T := TX3) (N := 12) (n := 12) hall uw3 (hts _ (List.mem_append_right _ (List.mem_of_getElem? (i := 160) (by decide +kernel))))
      exact ⟨(c9, i9), fun q hq => by cases hq; exact h9⟩
    | 4 =>
      obtain ⟨c9, i9, h9⟩ := u_known (ws := ALLW) (C := RX4) (T := TX4) (N := 8) (n := 8) hall uw4 (hts _ (List.mem_append_right _ (List.mem_of_getElem? (i := 268) (by decide +kernel))))
      exact ⟨(c9, i9), fun q hq => by cases hq; exact h9⟩
    | 5 =>
      obtain ⟨c9, i9, h9⟩ := u_known (ws := ALLW) (C := RX5) (T := TX5) (N := 2) (n := 2) hall uw5 (hts _ (List.mem_append_right _ (List.mem_of_getElem? (i := 32) (by decide +kernel))))
      exact ⟨(c9, i9), fun q hq => by cases hq; exact h9⟩
    | 6 =>
      obtain ⟨c9, i9, h9⟩ := u_known (ws := ALLW) (C := RX6) (T := TX6) (N := 10) (n := 10) hall uw6 (hts _ (List.mem_append_right _ (List.mem_of_getElem? (i := 110) (by decide +kernel))))
      exact ⟨(c9, i9), fun q hq => by cases hq; exact h9⟩
    | 7 =>
      obtain ⟨c9, i9, h9⟩ := u_known (ws := ALLW) (C := RX7) (T := TX7) (N := 10) (n := 10) hall uw7 (hts _ (List.mem_append_right _ (List.mem_of_getElem? (i := 46) (by decide +kernel))))
      exact ⟨(c9, i9), fun q hq => by cases hq; exact h9⟩
    | 8 =>
      obtain ⟨c9, i9, h9⟩ := u_known (ws := ALLW) (C := RX8) (T := TX8) (N := 14) (n := 14) hall uw8 (hts _ (List.mem_append_right _ (List.mem_of_getElem? (i := 24) (by decide +kernel))))
      exact ⟨(c9, i9), fun q hq => by cases hq; exact h9⟩
    | 9 =>
      obtain ⟨c9, i9, h9⟩ := u_known (ws := ALLW) (C := RX9) (T := TX9) (N := 60) (n := 60) hall uw9 (hts _ (List.mem_append_right _ (List.mem_of_getElem? (i := 1138) (by decide +kernel))))
      exact ⟨(c9, i9), fun q hq => by cases hq; exact h9⟩
    | k + 10 => exact ⟨(0, fun _ => 0), fun q hq => by simp [vwCl] at hq⟩
  refine ⟨(fun k => (Classical.choose (h1 k)).1, fun k => (Classical.choose (h1 k)).2), fun k q hq => Classical.choose_spec (h1 k) q hq⟩
theorem st_arr {s : State} {args : Array Value} (hts : ∀ w ∈ lw_tbl, w.before args s = true) (b : Nat) (D : va_G) : ∃ a : Nat → ClassId, ∀ (k : Nat) (q : ClassId × FieldType), (tysX (b, D, a))[k]? = some q → ArrOfT s q.1 q.2 ∧ va_RA s q.1 q.2 := by
  obtain ⟨c0, k0, m0, f01, f02, f03⟩ := Cond.arrayClass_spec (hts (.arrayClass .int) (List.mem_append_right _ (List.mem_of_getElem? (i := 44) (by decide +kernel))))
  obtain ⟨c4, k4, m4, f41, f42, f43⟩ := Cond.arrayClass_spec (hts (.arrayClass .long) (List.mem_append_right _ (List.mem_of_getElem? (i := 1771) (by decide +kernel))))
  obtain ⟨m1, c1, k1, g11, -, g12, g13, g14⟩ := Cond.arrayOver_spec (hts (.arrayOver (.object "PieceFiles$Piece")) (List.mem_append_right _ (List.mem_of_getElem? (i := 159) (by decide +kernel))))
  obtain ⟨m2, c2, k2, g21, -, g22, g23, g24⟩ := Cond.arrayOver_spec (hts (.arrayOver (.object "PieceFiles$Row")) (List.mem_append_right _ (List.mem_of_getElem? (i := 53) (by decide +kernel))))
  obtain ⟨m3, c3, k3, g31, -, g32, g33, g34⟩ := Cond.arrayOver_spec (hts (.arrayOver (.object "PieceFiles$State")) (List.mem_append_right _ (List.mem_of_getElem? (i := 100) (by decide +kernel))))
  refine ⟨fun k => match k with
    | 0 => c0
    | 1 => c1
    | 2 => c2
    | 3 => c3
    | _ => c4, ?_⟩
  intro k q hq
  match k, hq with
  | 0, hq => cases hq; exact ⟨fun n z => ⟨(fun k h => by cases h), k0, f02, m0, f03⟩, f01⟩
  | 1, hq => cases hq; exact ⟨fun n z => ⟨(fun k h => by cases h), k1, g12, m1, g13⟩, k1, m1, g12, g13, g11, g14⟩
  | 2, hq => cases hq; exact ⟨fun n z => ⟨(fun k h => by cases h), k2, g22, m2, g23⟩, k2, m2, g22, g23, g21, g24⟩
  | 3, hq => cases hq; exact ⟨fun n z => ⟨(fun k h => by cases h), k3, g32, m3, g33⟩, k3, m3, g32, g33, g31, g34⟩
  | 4, hq => cases hq; exact ⟨fun n z => ⟨(fun k h => by cases h), k4, f42, m4, f43⟩, f41⟩
  | k + 5, hq => simp [tysX] at hq
theorem st_str {s : State} {args : Array Value} {own tx : String} {k : Nat} (h1 : (Cond.stringRef own k tx).before args s = true) (h2 : (Cond.exactly (.string own k) "java/lang/String").before args s = true) : ∃ sa, vk_R own k tx sa s := by
  obtain ⟨a, -, -, -, h3, -⟩ := Cond.exactly_spec h2
  exact ⟨a, vk_R.of h1 h3⟩
theorem st_xw {s : State} {args : Array Value} (hts : ∀ w ∈ lw_tbl, w.before args s = true) : ∀ w ∈ xW, va_Nw w s := by
  intro w hw
  simp only [xW, List.mem_cons, List.not_mem_nil, or_false] at hw
  rcases hw with rfl | rfl | rfl | rfl | rfl | rfl | rfl | rfl | rfl | rfl
  · exact va_Nw.of rfl (hts _ (List.mem_append_right _ (List.mem_of_getElem? (i := 161) (by decide +kernel))))
  · exact va_Nw.of rfl (hts _ (List.mem_append_right _ (List.mem_of_getElem? (i := 501) (by decide +kernel))))
  · exact va_Nw.of rfl (hts _ (List.mem_append_right _ (List.mem_of_getElem? (i := 1123) (by decide +kernel))))
  · exact va_Nw.of rfl (hts _ (List.mem_append_right _ (List.mem_of_getElem? (i := 910) (by decide +kernel))))
  · exact va_Nw.of rfl (hts _ (List.mem_append_right _ (List.mem_of_getElem? (i := 651) (by decide +kernel))))
  · exact va_Nw.of rfl (hts _ (List.mem_append_right _ (List.mem_of_getElem? (i := 1040) (by decide +kernel))))
  · exact va_Nw.of rfl (hts _ (List.mem_append_right _ (List.mem_of_getElem? (i := 942) (by decide +kernel))))
  · exact va_Nw.of rfl (hts _ (List.mem_append_right _ (List.mem_of_getElem? (i := 653) (by decide +kernel))))
  · exact va_Nw.of rfl (hts _ (List.mem_append_right _ (List.mem_of_getElem? (i := 655) (by decide +kernel))))
  · exact va_Nw.of rfl (hts _ (List.mem_append_right _ (List.mem_of_getElem? (i := 657) (by decide +kernel))))
set_option maxRecDepth 100000 in
theorem st_strs {s : State} {args : Array Value} (hts : ∀ w ∈ lw_tbl, w.before args s = true) (hgv : (Jvm.Cond.and given_1 narrow_1).before args s = true) : ∀ q ∈ strsX, ∃ sa, vk_R q.1 q.2.1 q.2.2 sa s := by
  have hs := flat_of_before _ hgv
  intro q hq
  simp only [strsX, List.mem_cons, List.not_mem_nil, or_false] at hq
  rcases hq with rfl | rfl | rfl | rfl | rfl | rfl | rfl | rfl | rfl | rfl | rfl
  · exact st_str (own := "PieceFiles") (k := 118) (tx := "the text is wrong") (hts _ (List.mem_append_right _ (List.mem_of_getElem? (i := 917) (by decide +kernel)))) (hs (.exactly (.string "PieceFiles" 118) "java/lang/String") (by decide +kernel))
  · exact st_str (own := "PieceFiles") (k := 137) (tx := "there is no such kind") (hts _ (List.mem_append_right _ (List.mem_of_getElem? (i := 931) (by decide +kernel)))) (hs (.exactly (.string "PieceFiles" 137) "java/lang/String") (by decide +kernel))
  · exact st_str (own := "PieceFiles") (k := 144) (tx := "there is no such rule") (hts _ (List.mem_append_right _ (List.mem_of_getElem? (i := 949) (by decide +kernel)))) (hs (.exactly (.string "PieceFiles" 144) "java/lang/String") (by decide +kernel))
  · exact st_str (own := "PieceFiles") (k := 147) (tx := "the rule has no such number") (hts _ (List.mem_append_right _ (List.mem_of_getElem? (i := 956) (by decide +kernel)))) (hs (.exactly (.string "PieceFiles" 147) "java/lang/String") (by decide +kernel))
  · exact st_str (own := "PieceFiles") (k := 153) (tx := "it is no word") (hts _ (List.mem_append_right _ (List.mem_of_getElem? (i := 973) (by decide +kernel)))) (hs (.exactly (.string "PieceFiles" 153) "java/lang/String") (by decide +kernel))
  · exact st_str (own := "PieceFiles") (k := 158) (tx := "more than 60 bytes") (hts _ (List.mem_append_right _ (List.mem_of_getElem? (i := 985) (by decide +kernel)))) (hs (.exactly (.string "PieceFiles" 158) "java/lang/String") (by decide +kernel))
  · exact st_str (own := "PieceFiles") (k := 172) (tx := "there is none to take back") (hts _ (List.mem_append_right _ (List.mem_of_getElem? (i := 1025) (by decide +kernel)))) (hs (.exactly (.string "PieceFiles" 172) "java/lang/String") (by decide +kernel))
  · exact st_str (own := "PieceFiles") (k := 211) (tx := "nothing such is told of a piece") (hts _ (List.mem_append_right _ (List.mem_of_getElem? (i := 1058) (by decide +kernel)))) (hs (.exactly (.string "PieceFiles" 211) "java/lang/String") (by decide +kernel))
  · exact st_str (own := "PieceFiles") (k := 230) (tx := "nothing such is told of a key") (hts _ (List.mem_append_right _ (List.mem_of_getElem? (i := 1088) (by decide +kernel)))) (hs (.exactly (.string "PieceFiles" 230) "java/lang/String") (by decide +kernel))
  · exact st_str (own := "PieceFiles") (k := 323) (tx := "there is no such piece") (hts _ (List.mem_append_right _ (List.mem_of_getElem? (i := 1047) (by decide +kernel)))) (hs (.exactly (.string "PieceFiles" 323) "java/lang/String") (by decide +kernel))
  · exact st_str (own := "PieceFiles") (k := 326) (tx := "the act is refused") (hts _ (List.mem_append_right _ (List.mem_of_getElem? (i := 691) (by decide +kernel)))) (hs (.exactly (.string "PieceFiles" 326) "java/lang/String") (by decide +kernel))
set_option maxRecDepth 100000 in
theorem st_nc {s : State} {args : Array Value} (hgv : (Jvm.Cond.and given_1 narrow_1).before args s = true) : ∀ q ∈ ncX, va_Nc q.1 q.2 s := by
  have hs := flat_of_before _ hgv
  intro q hq
  simp only [ncX, List.mem_cons, List.not_mem_nil, or_false] at hq
  rcases hq with rfl | rfl | rfl | rfl
  · exact va_Nc.of (hs (.not (.castable eA eN)) (by decide +kernel))
  · exact va_Nc.of (hs (.not (.castable eS eA)) (by decide +kernel))
  · exact va_Nc.of (hs (.not (.castable eN eI)) (by decide +kernel))
  · exact va_Nc.of (hs (.not (.castable eA eI)) (by decide +kernel))
set_option maxRecDepth 100000 in
theorem st_GG {s : State} {args : Array Value} (hts : ∀ w ∈ lw_tbl, w.before args s = true) (hgv : (Jvm.Cond.and given_1 narrow_1).before args s = true) : ∃ X : GX, X.1 = s.heap.size ∧ GG X s := by
  obtain ⟨D, hD⟩ := st_known hts
  obtain ⟨a, ha⟩ := st_arr hts s.heap.size D
  have hs := flat_of_before _ hgv
  refine ⟨(s.heap.size, D, a), rfl, ⟨hD, ha⟩, ?_, ?_, Nat.le_refl _, ⟨va_AO.of (hts (.arrayOver (.object "PieceFiles$Piece")) (List.mem_append_right _ (List.mem_of_getElem? (i := 159) (by decide +kernel)))), va_AO.of (hts (.arrayOver (.object "PieceFiles$Row")) (List.mem_append_right _ (List.mem_of_getElem? (i := 53) (by decide +kernel)))), va_AO.of (hts (.arrayOver (.object "PieceFiles$State")) (List.mem_append_right _ (List.mem_of_getElem? (i := 100) (by decide +kernel))))⟩, st_strs hts hgv, st_xw hts, st_nc hgv⟩
  · exact vx_Zqof (hts _ (List.mem_append_right _ (List.mem_of_getElem? (i := 676) (by decide +kernel)))) (hts _ (List.mem_append_right _ (List.mem_of_getElem? (i := 16) (by decide +kernel)))) (hs (.isRef (.static Bundle.tN "UNASSIGNED_STACK" Bundle.steD)) (by decide +kernel)) (fun q h => Nat.not_le.mpr h)
  · exact vx_Zqof (hts _ (List.mem_append_right _ (List.mem_of_getElem? (i := 678) (by decide +kernel)))) (hts _ (List.mem_append_right _ (List.mem_of_getElem? (i := 16) (by decide +kernel)))) (hs (.isRef (.static Bundle.tN "SUPPRESSED_SENTINEL" Bundle.listD)) (by decide +kernel)) (fun q h => Nat.not_le.mpr h)
