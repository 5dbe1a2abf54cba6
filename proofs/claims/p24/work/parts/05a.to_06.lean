/-! part 05a.words -/
section
theorem ALLW_c1 {w : Cond} (i : Nat) (h : tables_1_1[i]? = some w) (hg : goodWord w = true) : w ∈ ALLW := ALLW_mem (List.mem_append_right _ (have h9 := List.mem_of_getElem? h; (List.mem_append_left _ h9))) hg
theorem ALLW_c2 {w : Cond} (i : Nat) (h : tables_1_2[i]? = some w) (hg : goodWord w = true) : w ∈ ALLW := ALLW_mem (List.mem_append_right _ (have h9 := List.mem_of_getElem? h; (List.mem_append_right _ (List.mem_append_left _ h9)))) hg
theorem ALLW_c3 {w : Cond} (i : Nat) (h : tables_1_3[i]? = some w) (hg : goodWord w = true) : w ∈ ALLW := ALLW_mem (List.mem_append_right _ (have h9 := List.mem_of_getElem? h; (List.mem_append_right _ (List.mem_append_right _ (List.mem_append_left _ h9))))) hg
theorem ALLW_c4 {w : Cond} (i : Nat) (h : tables_1_4[i]? = some w) (hg : goodWord w = true) : w ∈ ALLW := ALLW_mem (List.mem_append_right _ (have h9 := List.mem_of_getElem? h; (List.mem_append_right _ (List.mem_append_right _ (List.mem_append_right _ (List.mem_append_left _ h9)))))) hg
theorem ALLW_c5 {w : Cond} (i : Nat) (h : tables_1_5[i]? = some w) (hg : goodWord w = true) : w ∈ ALLW := ALLW_mem (List.mem_append_right _ (have h9 := List.mem_of_getElem? h; (List.mem_append_right _ (List.mem_append_right _ (List.mem_append_right _ (List.mem_append_right _ (List.mem_append_left _ h9))))))) hg
theorem ALLW_c6 {w : Cond} (i : Nat) (h : tables_1_6[i]? = some w) (hg : goodWord w = true) : w ∈ ALLW := ALLW_mem (List.mem_append_right _ (have h9 := List.mem_of_getElem? h; (List.mem_append_right _ (List.mem_append_right _ (List.mem_append_right _ (List.mem_append_right _ (List.mem_append_right _ (List.mem_append_left _ h9)))))))) hg
theorem ALLW_c7 {w : Cond} (i : Nat) (h : tables_1_7[i]? = some w) (hg : goodWord w = true) : w ∈ ALLW := ALLW_mem (List.mem_append_right _ (have h9 := List.mem_of_getElem? h; (List.mem_append_right _ (List.mem_append_right _ (List.mem_append_right _ (List.mem_append_right _ (List.mem_append_right _ (List.mem_append_right _ (List.mem_append_left _ h9))))))))) hg
theorem ALLW_c8 {w : Cond} (i : Nat) (h : tables_1_8[i]? = some w) (hg : goodWord w = true) : w ∈ ALLW := ALLW_mem (List.mem_append_right _ (have h9 := List.mem_of_getElem? h; (List.mem_append_right _ (List.mem_append_right _ (List.mem_append_right _ (List.mem_append_right _ (List.mem_append_right _ (List.mem_append_right _ (List.mem_append_right _ h9))))))))) hg
set_option maxRecDepth 100000 in
theorem uw0 : ∀ w ∈ u_ws RX0 TX0 4, w ∈ ALLW := by
  show ∀ w ∈ [u_lay RX0 TX0 0, u_lay RX0 TX0 1, u_lay RX0 TX0 2, u_lay RX0 TX0 3], w ∈ ALLW
  exact List.forall_mem_cons.mpr ⟨(ALLW_c2 18 rfl rfl), List.forall_mem_cons.mpr ⟨(ALLW_c2 20 rfl rfl), List.forall_mem_cons.mpr ⟨(ALLW_c2 22 rfl rfl), List.forall_mem_cons.mpr ⟨(ALLW_c2 24 rfl rfl), fun _ h => absurd h List.not_mem_nil⟩⟩⟩⟩
theorem cf0 : CF 0 tyX0 := ⟨(RX0, TX0, 4), rfl, uw0, tyX0_ok, nmX0⟩
set_option maxRecDepth 100000 in
theorem uw1 : ∀ w ∈ u_ws RX1 TX1 8, w ∈ ALLW := by
  show ∀ w ∈ [u_lay RX1 TX1 0, u_lay RX1 TX1 1, u_lay RX1 TX1 2, u_lay RX1 TX1 3, u_lay RX1 TX1 4, u_lay RX1 TX1 5, u_lay RX1 TX1 6, u_lay RX1 TX1 7], w ∈ ALLW
  exact List.forall_mem_cons.mpr ⟨(ALLW_c1 227 rfl rfl), List.forall_mem_cons.mpr ⟨(ALLW_c1 229 rfl rfl), List.forall_mem_cons.mpr ⟨(ALLW_c1 231 rfl rfl), List.forall_mem_cons.mpr ⟨(ALLW_c1 233 rfl rfl), List.forall_mem_cons.mpr ⟨(ALLW_c1 235 rfl rfl), List.forall_mem_cons.mpr ⟨(ALLW_c1 237 rfl rfl), List.forall_mem_cons.mpr ⟨(ALLW_c1 239 rfl rfl), List.forall_mem_cons.mpr ⟨(ALLW_c2 1 rfl rfl), fun _ h => absurd h List.not_mem_nil⟩⟩⟩⟩⟩⟩⟩⟩
theorem cf1 : CF 1 tyX1 := ⟨(RX1, TX1, 8), rfl, uw1, tyX1_ok, nmX1⟩
set_option maxRecDepth 100000 in
theorem uw2 : ∀ w ∈ u_ws RX2 TX2 3, w ∈ ALLW := by
  show ∀ w ∈ [u_lay RX2 TX2 0, u_lay RX2 TX2 1, u_lay RX2 TX2 2], w ∈ ALLW
  exact List.forall_mem_cons.mpr ⟨(ALLW_c3 151 rfl rfl), List.forall_mem_cons.mpr ⟨(ALLW_c3 153 rfl rfl), List.forall_mem_cons.mpr ⟨(ALLW_c3 155 rfl rfl), fun _ h => absurd h List.not_mem_nil⟩⟩⟩
theorem cf2 : CF 2 tyX2 := ⟨(RX2, TX2, 3), rfl, uw2, tyX2_ok, nmX2⟩
set_option maxRecDepth 100000 in
theorem uw3 : ∀ w ∈ u_ws RX3 TX3 12, w ∈ ALLW := by
  show ∀ w ∈ [u_lay RX3 TX3 0, u_lay RX3 TX3 1, u_lay RX3 TX3 2, u_lay RX3 TX3 3, u_lay RX3 TX3 4, u_lay RX3 TX3 5, u_lay RX3 TX3 6, u_lay RX3 TX3 7, u_lay RX3 TX3 8, u_lay RX3 TX3 9, u_lay RX3 TX3 10, u_lay RX3 TX3 11], w ∈ ALLW
  exact List.forall_mem_cons.mpr ⟨(ALLW_c1 192 rfl rfl), List.forall_mem_cons.mpr ⟨(ALLW_c1 194 rfl rfl), List.forall_mem_cons.mpr ⟨(ALLW_c1 196 rfl rfl), List.forall_mem_cons.mpr ⟨(ALLW_c1 198 rfl rfl), List.forall_mem_cons.mpr ⟨(ALLW_c1 200 rfl rfl), List.forall_mem_cons.mpr ⟨(ALLW_c1 202 rfl rfl), List.forall_mem_cons.mpr ⟨(ALLW_c1 204 rfl rfl), List.forall_mem_cons.mpr ⟨(ALLW_c1 206 rfl rfl), List.forall_mem_cons.mpr ⟨(ALLW_c1 208 rfl rfl), List.forall_mem_cons.mpr ⟨(ALLW_c1 210 rfl rfl), List.forall_mem_cons.mpr ⟨(ALLW_c1 212 rfl rfl), List.forall_mem_cons.mpr ⟨(ALLW_c1 214 rfl rfl), fun _ h => absurd h List.not_mem_nil⟩⟩⟩⟩⟩⟩⟩⟩⟩⟩⟩⟩
theorem cf3 : CF 3 tyX3 := ⟨(RX3, TX3, 12), rfl, uw3, tyX3_ok, nmX3⟩
set_option maxRecDepth 100000 in
theorem uw4 : ∀ w ∈ u_ws RX4 TX4 8, w ∈ ALLW := by
  show ∀ w ∈ [u_lay RX4 TX4 0, u_lay RX4 TX4 1, u_lay RX4 TX4 2, u_lay RX4 TX4 3, u_lay RX4 TX4 4, u_lay RX4 TX4 5, u_lay RX4 TX4 6, u_lay RX4 TX4 7], w ∈ ALLW
  exact List.forall_mem_cons.mpr ⟨(ALLW_c2 49 rfl rfl), List.forall_mem_cons.mpr ⟨(ALLW_c2 51 rfl rfl), List.forall_mem_cons.mpr ⟨(ALLW_c2 53 rfl rfl), List.forall_mem_cons.mpr ⟨(ALLW_c2 55 rfl rfl), List.forall_mem_cons.mpr ⟨(ALLW_c2 57 rfl rfl), List.forall_mem_cons.mpr ⟨(ALLW_c2 59 rfl rfl), List.forall_mem_cons.mpr ⟨(ALLW_c2 61 rfl rfl), List.forall_mem_cons.mpr ⟨(ALLW_c2 63 rfl rfl), fun _ h => absurd h List.not_mem_nil⟩⟩⟩⟩⟩⟩⟩⟩
theorem cf4 : CF 4 tyX4 := ⟨(RX4, TX4, 8), rfl, uw4, tyX4_ok, nmX4⟩
set_option maxRecDepth 100000 in
theorem uw5 : ∀ w ∈ u_ws RX5 TX5 2, w ∈ ALLW := by
  show ∀ w ∈ [u_lay RX5 TX5 0, u_lay RX5 TX5 1], w ∈ ALLW
  exact List.forall_mem_cons.mpr ⟨(ALLW_c1 39 rfl rfl), List.forall_mem_cons.mpr ⟨(ALLW_c1 41 rfl rfl), fun _ h => absurd h List.not_mem_nil⟩⟩
theorem cf5 : CF 5 tyX5 := ⟨(RX5, TX5, 2), rfl, uw5, tyX5_ok, nmX5⟩
set_option maxRecDepth 100000 in
theorem uw6 : ∀ w ∈ u_ws RX6 TX6 10, w ∈ ALLW := by
  show ∀ w ∈ [u_lay RX6 TX6 0, u_lay RX6 TX6 1, u_lay RX6 TX6 2, u_lay RX6 TX6 3, u_lay RX6 TX6 4, u_lay RX6 TX6 5, u_lay RX6 TX6 6, u_lay RX6 TX6 7, u_lay RX6 TX6 8, u_lay RX6 TX6 9], w ∈ ALLW
  exact List.forall_mem_cons.mpr ⟨(ALLW_c1 137 rfl rfl), List.forall_mem_cons.mpr ⟨(ALLW_c1 139 rfl rfl), List.forall_mem_cons.mpr ⟨(ALLW_c1 141 rfl rfl), List.forall_mem_cons.mpr ⟨(ALLW_c1 143 rfl rfl), List.forall_mem_cons.mpr ⟨(ALLW_c1 145 rfl rfl), List.forall_mem_cons.mpr ⟨(ALLW_c1 147 rfl rfl), List.forall_mem_cons.mpr ⟨(ALLW_c1 149 rfl rfl), List.forall_mem_cons.mpr ⟨(ALLW_c1 151 rfl rfl), List.forall_mem_cons.mpr ⟨(ALLW_c1 153 rfl rfl), List.forall_mem_cons.mpr ⟨(ALLW_c1 155 rfl rfl), fun _ h => absurd h List.not_mem_nil⟩⟩⟩⟩⟩⟩⟩⟩⟩⟩
theorem cf6 : CF 6 tyX6 := ⟨(RX6, TX6, 10), rfl, uw6, tyX6_ok, nmX6⟩
set_option maxRecDepth 100000 in
theorem uw7 : ∀ w ∈ u_ws RX7 TX7 10, w ∈ ALLW := by
  show ∀ w ∈ [u_lay RX7 TX7 0, u_lay RX7 TX7 1, u_lay RX7 TX7 2, u_lay RX7 TX7 3, u_lay RX7 TX7 4, u_lay RX7 TX7 5, u_lay RX7 TX7 6, u_lay RX7 TX7 7, u_lay RX7 TX7 8, u_lay RX7 TX7 9], w ∈ ALLW
  exact List.forall_mem_cons.mpr ⟨(ALLW_c1 79 rfl rfl), List.forall_mem_cons.mpr ⟨(ALLW_c1 81 rfl rfl), List.forall_mem_cons.mpr ⟨(ALLW_c1 83 rfl rfl), List.forall_mem_cons.mpr ⟨(ALLW_c1 85 rfl rfl), List.forall_mem_cons.mpr ⟨(ALLW_c1 87 rfl rfl), List.forall_mem_cons.mpr ⟨(ALLW_c1 89 rfl rfl), List.forall_mem_cons.mpr ⟨(ALLW_c1 91 rfl rfl), List.forall_mem_cons.mpr ⟨(ALLW_c1 93 rfl rfl), List.forall_mem_cons.mpr ⟨(ALLW_c1 95 rfl rfl), List.forall_mem_cons.mpr ⟨(ALLW_c1 97 rfl rfl), fun _ h => absurd h List.not_mem_nil⟩⟩⟩⟩⟩⟩⟩⟩⟩⟩
theorem cf7 : CF 7 tyX7 := ⟨(RX7, TX7, 10), rfl, uw7, tyX7_ok, nmX7⟩
set_option maxRecDepth 100000 in
theorem uw8 : ∀ w ∈ u_ws RX8 TX8 14, w ∈ ALLW := by
  show ∀ w ∈ [u_lay RX8 TX8 0, u_lay RX8 TX8 1, u_lay RX8 TX8 2, u_lay RX8 TX8 3, u_lay RX8 TX8 4, u_lay RX8 TX8 5, u_lay RX8 TX8 6, u_lay RX8 TX8 7, u_lay RX8 TX8 8, u_lay RX8 TX8 9, u_lay RX8 TX8 10, u_lay RX8 TX8 11, u_lay RX8 TX8 12, u_lay RX8 TX8 13], w ∈ ALLW
  exact List.forall_mem_cons.mpr ⟨(ALLW_c2 80 rfl rfl), List.forall_mem_cons.mpr ⟨(ALLW_c2 82 rfl rfl), List.forall_mem_cons.mpr ⟨(ALLW_c2 84 rfl rfl), List.forall_mem_cons.mpr ⟨(ALLW_c2 86 rfl rfl), List.forall_mem_cons.mpr ⟨(ALLW_c2 88 rfl rfl), List.forall_mem_cons.mpr ⟨(ALLW_c2 90 rfl rfl), List.forall_mem_cons.mpr ⟨(ALLW_c2 92 rfl rfl), List.forall_mem_cons.mpr ⟨(ALLW_c2 94 rfl rfl), List.forall_mem_cons.mpr ⟨(ALLW_c2 96 rfl rfl), List.forall_mem_cons.mpr ⟨(ALLW_c2 98 rfl rfl), List.forall_mem_cons.mpr ⟨(ALLW_c2 100 rfl rfl), List.forall_mem_cons.mpr ⟨(ALLW_c2 102 rfl rfl), List.forall_mem_cons.mpr ⟨(ALLW_c2 104 rfl rfl), List.forall_mem_cons.mpr ⟨(ALLW_c2 106 rfl rfl), fun _ h => absurd h List.not_mem_nil⟩⟩⟩⟩⟩⟩⟩⟩⟩⟩⟩⟩⟩⟩
theorem cf8 : CF 8 tyX8 := ⟨(RX8, TX8, 14), rfl, uw8, tyX8_ok, nmX8⟩
set_option maxRecDepth 100000 in
theorem uw9 : ∀ w ∈ u_ws RX9 TX9 60, w ∈ ALLW := by
  show ∀ w ∈ [u_lay RX9 TX9 0, u_lay RX9 TX9 1, u_lay RX9 TX9 2, u_lay RX9 TX9 3, u_lay RX9 TX9 4, u_lay RX9 TX9 5, u_lay RX9 TX9 6, u_lay RX9 TX9 7, u_lay RX9 TX9 8, u_lay RX9 TX9 9, u_lay RX9 TX9 10, u_lay RX9 TX9 11, u_lay RX9 TX9 12, u_lay RX9 TX9 13, u_lay RX9 TX9 14, u_lay RX9 TX9 15, u_lay RX9 TX9 16, u_lay RX9 TX9 17, u_lay RX9 TX9 18, u_lay RX9 TX9 19, u_lay RX9 TX9 20, u_lay RX9 TX9 21, u_lay RX9 TX9 22, u_lay RX9 TX9 23, u_lay RX9 TX9 24, u_lay RX9 TX9 25, u_lay RX9 TX9 26, u_lay RX9 TX9 27, u_lay RX9 TX9 28, u_lay RX9 TX9 29, u_lay RX9 TX9 30, u_lay RX9 TX9 31, u_lay RX9 TX9 32, u_lay RX9 TX9 33, u_lay RX9 TX9 34, u_lay RX9 TX9 35, u_lay RX9 TX9 36, u_lay RX9 TX9 37, u_lay RX9 TX9 38, u_lay RX9 TX9 39, u_lay RX9 TX9 40, u_lay RX9 TX9 41, u_lay RX9 TX9 42, u_lay RX9 TX9 43, u_lay RX9 TX9 44, u_lay RX9 TX9 45, u_lay RX9 TX9 46, u_lay RX9 TX9 47, u_lay RX9 TX9 48, u_lay RX9 TX9 49, u_lay RX9 TX9 50, u_lay RX9 TX9 51, u_lay RX9 TX9 52, u_lay RX9 TX9 53, u_lay RX9 TX9 54, u_lay RX9 TX9 55, u_lay RX9 TX9 56, u_lay RX9 TX9 57, u_lay RX9 TX9 58, u_lay RX9 TX9 59], w ∈ ALLW
  exact List.forall_mem_cons.mpr ⟨(ALLW_c6 3 rfl rfl), List.forall_mem_cons.mpr ⟨(ALLW_c6 5 rfl rfl), List.forall_mem_cons.mpr ⟨(ALLW_c6 7 rfl rfl), List.forall_mem_cons.mpr ⟨(ALLW_c6 9 rfl rfl), List.forall_mem_cons.mpr ⟨(ALLW_c6 11 rfl rfl), List.forall_mem_cons.mpr ⟨(ALLW_c6 13 rfl rfl), List.forall_mem_cons.mpr ⟨(ALLW_c6 15 rfl rfl), List.forall_mem_cons.mpr ⟨(ALLW_c6 17 rfl rfl), List.forall_mem_cons.mpr ⟨(ALLW_c6 19 rfl rfl), List.forall_mem_cons.mpr ⟨(ALLW_c6 21 rfl rfl), List.forall_mem_cons.mpr ⟨(ALLW_c6 23 rfl rfl), List.forall_mem_cons.mpr ⟨(ALLW_c6 25 rfl rfl), List.forall_mem_cons.mpr ⟨(ALLW_c6 27 rfl rfl), List.forall_mem_cons.mpr ⟨(ALLW_c6 29 rfl rfl), List.forall_mem_cons.mpr ⟨(ALLW_c6 31 rfl rfl), List.forall_mem_cons.mpr ⟨(ALLW_c6 33 rfl rfl), List.forall_mem_cons.mpr ⟨(ALLW_c6 35 rfl rfl), List.forall_mem_cons.mpr ⟨(ALLW_c6 37 rfl rfl), List.forall_mem_cons.mpr ⟨(ALLW_c6 39 rfl rfl), List.forall_mem_cons.mpr ⟨(ALLW_c6 41 rfl rfl), List.forall_mem_cons.mpr ⟨(ALLW_c6 43 rfl rfl), List.forall_mem_cons.mpr ⟨(ALLW_c6 45 rfl rfl), List.forall_mem_cons.mpr ⟨(ALLW_c6 47 rfl rfl), List.forall_mem_cons.mpr ⟨(ALLW_c6 49 rfl rfl), List.forall_mem_cons.mpr ⟨(ALLW_c6 51 rfl rfl), List.forall_mem_cons.mpr ⟨(ALLW_c6 53 rfl rfl), List.forall_mem_cons.mpr ⟨(ALLW_c6 55 rfl rfl), List.forall_mem_cons.mpr ⟨(ALLW_c6 57 rfl rfl), List.forall_mem_cons.mpr ⟨(ALLW_c6 59 rfl rfl), List.forall_mem_cons.mpr ⟨(ALLW_c6 61 rfl rfl), List.forall_mem_cons.mpr ⟨(ALLW_c6 63 rfl rfl), List.forall_mem_cons.mpr ⟨(ALLW_c6 65 rfl rfl), List.forall_mem_cons.mpr ⟨(ALLW_c6 67 rfl rfl), List.forall_mem_cons.mpr ⟨(ALLW_c6 69 rfl rfl), List.forall_mem_cons.mpr ⟨(ALLW_c6 71 rfl rfl), List.forall_mem_cons.mpr ⟨(ALLW_c6 73 rfl rfl), List.forall_mem_cons.mpr ⟨(ALLW_c6 75 rfl rfl), List.forall_mem_cons.mpr ⟨(ALLW_c6 77 rfl rfl), List.forall_mem_cons.mpr ⟨(ALLW_c6 79 rfl rfl), List.forall_mem_cons.mpr ⟨(ALLW_c6 81 rfl rfl), List.forall_mem_cons.mpr ⟨(ALLW_c6 83 rfl rfl), List.forall_mem_cons.mpr ⟨(ALLW_c6 85 rfl rfl), List.forall_mem_cons.mpr ⟨(ALLW_c6 87 rfl rfl), List.forall_mem_cons.mpr ⟨(ALLW_c6 89 rfl rfl), List.forall_mem_cons.mpr ⟨(ALLW_c6 91 rfl rfl), List.forall_mem_cons.mpr ⟨(ALLW_c6 93 rfl rfl), List.forall_mem_cons.mpr ⟨(ALLW_c6 95 rfl rfl), List.forall_mem_cons.mpr ⟨(ALLW_c6 97 rfl rfl), List.forall_mem_cons.mpr ⟨(ALLW_c6 99 rfl rfl), List.forall_mem_cons.mpr ⟨(ALLW_c6 101 rfl rfl), List.forall_mem_cons.mpr ⟨(ALLW_c6 103 rfl rfl), List.forall_mem_cons.mpr ⟨(ALLW_c6 105 rfl rfl), List.forall_mem_cons.mpr ⟨(ALLW_c6 107 rfl rfl), List.forall_mem_cons.mpr ⟨(ALLW_c6 109 rfl rfl), List.forall_mem_cons.mpr ⟨(ALLW_c6 111 rfl rfl), List.forall_mem_cons.mpr ⟨(ALLW_c6 113 rfl rfl), List.forall_mem_cons.mpr ⟨(ALLW_c6 115 rfl rfl), List.forall_mem_cons.mpr ⟨(ALLW_c6 117 rfl rfl), List.forall_mem_cons.mpr ⟨(ALLW_c6 119 rfl rfl), List.forall_mem_cons.mpr ⟨(ALLW_c6 121 rfl rfl), fun _ h => absurd h List.not_mem_nil⟩⟩⟩⟩⟩⟩⟩⟩⟩⟩⟩⟩⟩⟩⟩⟩⟩⟩⟩⟩⟩⟩⟩⟩⟩⟩⟩⟩⟩⟩⟩⟩⟩⟩⟩⟩⟩⟩⟩⟩⟩⟩⟩⟩⟩⟩⟩⟩⟩⟩⟩⟩⟩⟩⟩⟩⟩⟩⟩⟩
theorem cf9 : CF 9 tyX9 := ⟨(RX9, TX9, 60), rfl, uw9, tyX9_ok, nmX9⟩
set_option maxRecDepth 100000 in
theorem gf_X5_9 : GF RX5 9 5 0 := ⟨(RX5, TX5, 2), rfl, uw5, by decide, (ALLW_c1 37 rfl rfl)⟩
set_option maxRecDepth 100000 in
theorem gf_X5_15 : GF RX5 15 5 1 := ⟨(RX5, TX5, 2), rfl, uw5, by decide, (ALLW_c1 38 rfl rfl)⟩
set_option maxRecDepth 100000 in
theorem gf_X7_14 : GF RX7 14 7 0 := ⟨(RX7, TX7, 10), rfl, uw7, by decide, (ALLW_c1 54 rfl rfl)⟩
set_option maxRecDepth 100000 in
theorem gf_X0_39 : GF RX0 39 7 0 := ⟨(RX7, TX7, 10), rfl, uw7, by decide, (ALLW_c1 55 rfl rfl)⟩
set_option maxRecDepth 100000 in
theorem gf_X8_130 : GF RX8 130 7 0 := ⟨(RX7, TX7, 10), rfl, uw7, by decide, (ALLW_c1 56 rfl rfl)⟩
set_option maxRecDepth 100000 in
theorem gf_X7_20 : GF RX7 20 7 1 := ⟨(RX7, TX7, 10), rfl, uw7, by decide, (ALLW_c1 57 rfl rfl)⟩
set_option maxRecDepth 100000 in
theorem gf_X0_76 : GF RX0 76 7 1 := ⟨(RX7, TX7, 10), rfl, uw7, by decide, (ALLW_c1 58 rfl rfl)⟩
set_option maxRecDepth 100000 in
theorem gf_X1_53 : GF RX1 53 7 1 := ⟨(RX7, TX7, 10), rfl, uw7, by decide, (ALLW_c1 59 rfl rfl)⟩
set_option maxRecDepth 100000 in
theorem gf_X8_232 : GF RX8 232 7 1 := ⟨(RX7, TX7, 10), rfl, uw7, by decide, (ALLW_c1 60 rfl rfl)⟩
set_option maxRecDepth 100000 in
theorem gf_X7_24 : GF RX7 24 7 2 := ⟨(RX7, TX7, 10), rfl, uw7, by decide, (ALLW_c1 61 rfl rfl)⟩
set_option maxRecDepth 100000 in
theorem gf_X0_83 : GF RX0 83 7 2 := ⟨(RX7, TX7, 10), rfl, uw7, by decide, (ALLW_c1 62 rfl rfl)⟩
set_option maxRecDepth 100000 in
theorem gf_X1_70 : GF RX1 70 7 2 := ⟨(RX7, TX7, 10), rfl, uw7, by decide, (ALLW_c1 63 rfl rfl)⟩
set_option maxRecDepth 100000 in
theorem gf_X8_290 : GF RX8 290 7 2 := ⟨(RX7, TX7, 10), rfl, uw7, by decide, (ALLW_c1 64 rfl rfl)⟩
set_option maxRecDepth 100000 in
theorem gf_X7_37 : GF RX7 37 7 3 := ⟨(RX7, TX7, 10), rfl, uw7, by decide, (ALLW_c1 65 rfl rfl)⟩
set_option maxRecDepth 100000 in
theorem gf_X1_121 : GF RX1 121 7 3 := ⟨(RX7, TX7, 10), rfl, uw7, by decide, (ALLW_c1 66 rfl rfl)⟩
set_option maxRecDepth 100000 in
theorem gf_X8_296 : GF RX8 296 7 3 := ⟨(RX7, TX7, 10), rfl, uw7, by decide, (ALLW_c1 67 rfl rfl)⟩
set_option maxRecDepth 100000 in
theorem gf_X7_27 : GF RX7 27 7 4 := ⟨(RX7, TX7, 10), rfl, uw7, by decide, (ALLW_c1 68 rfl rfl)⟩
set_option maxRecDepth 100000 in
theorem gf_X1_118 : GF RX1 118 7 4 := ⟨(RX7, TX7, 10), rfl, uw7, by decide, (ALLW_c1 69 rfl rfl)⟩
set_option maxRecDepth 100000 in
theorem gf_X8_299 : GF RX8 299 7 4 := ⟨(RX7, TX7, 10), rfl, uw7, by decide, (ALLW_c1 70 rfl rfl)⟩
set_option maxRecDepth 100000 in
theorem gf_X7_41 : GF RX7 41 7 5 := ⟨(RX7, TX7, 10), rfl, uw7, by decide, (ALLW_c1 71 rfl rfl)⟩
set_option maxRecDepth 100000 in
theorem gf_X8_302 : GF RX8 302 7 5 := ⟨(RX7, TX7, 10), rfl, uw7, by decide, (ALLW_c1 72 rfl rfl)⟩
set_option maxRecDepth 100000 in
theorem gf_X7_44 : GF RX7 44 7 6 := ⟨(RX7, TX7, 10), rfl, uw7, by decide, (ALLW_c1 73 rfl rfl)⟩
set_option maxRecDepth 100000 in
theorem gf_X8_261 : GF RX8 261 7 6 := ⟨(RX7, TX7, 10), rfl, uw7, by decide, (ALLW_c1 74 rfl rfl)⟩
set_option maxRecDepth 100000 in
theorem gf_X7_48 : GF RX7 48 7 7 := ⟨(RX7, TX7, 10), rfl, uw7, by decide, (ALLW_c1 75 rfl rfl)⟩
set_option maxRecDepth 100000 in
theorem gf_X8_258 : GF RX8 258 7 7 := ⟨(RX7, TX7, 10), rfl, uw7, by decide, (ALLW_c1 76 rfl rfl)⟩
set_option maxRecDepth 100000 in
theorem gf_X7_30 : GF RX7 30 7 8 := ⟨(RX7, TX7, 10), rfl, uw7, by decide, (ALLW_c1 77 rfl rfl)⟩
set_option maxRecDepth 100000 in
theorem gf_X7_34 : GF RX7 34 7 9 := ⟨(RX7, TX7, 10), rfl, uw7, by decide, (ALLW_c1 78 rfl rfl)⟩
set_option maxRecDepth 100000 in
theorem gf_X6_14 : GF RX6 14 6 0 := ⟨(RX6, TX6, 10), rfl, uw6, by decide, (ALLW_c1 117 rfl rfl)⟩
set_option maxRecDepth 100000 in
theorem gf_X7_75 : GF RX7 75 6 0 := ⟨(RX6, TX6, 10), rfl, uw6, by decide, (ALLW_c1 118 rfl rfl)⟩
set_option maxRecDepth 100000 in
theorem gf_X6_53 : GF RX6 53 6 1 := ⟨(RX6, TX6, 10), rfl, uw6, by decide, (ALLW_c1 119 rfl rfl)⟩
set_option maxRecDepth 100000 in
theorem gf_X1_81 : GF RX1 81 6 1 := ⟨(RX6, TX6, 10), rfl, uw6, by decide, (ALLW_c1 120 rfl rfl)⟩
set_option maxRecDepth 100000 in
theorem gf_X6_56 : GF RX6 56 6 2 := ⟨(RX6, TX6, 10), rfl, uw6, by decide, (ALLW_c1 121 rfl rfl)⟩
set_option maxRecDepth 100000 in
theorem gf_X1_84 : GF RX1 84 6 2 := ⟨(RX6, TX6, 10), rfl, uw6, by decide, (ALLW_c1 122 rfl rfl)⟩
set_option maxRecDepth 100000 in
theorem gf_X6_27 : GF RX6 27 6 3 := ⟨(RX6, TX6, 10), rfl, uw6, by decide, (ALLW_c1 123 rfl rfl)⟩
set_option maxRecDepth 100000 in
theorem gf_X1_144 : GF RX1 144 6 3 := ⟨(RX6, TX6, 10), rfl, uw6, by decide, (ALLW_c1 124 rfl rfl)⟩
set_option maxRecDepth 100000 in
theorem gf_X6_31 : GF RX6 31 6 4 := ⟨(RX6, TX6, 10), rfl, uw6, by decide, (ALLW_c1 125 rfl rfl)⟩
set_option maxRecDepth 100000 in
theorem gf_X1_136 : GF RX1 136 6 4 := ⟨(RX6, TX6, 10), rfl, uw6, by decide, (ALLW_c1 126 rfl rfl)⟩
set_option maxRecDepth 100000 in
theorem gf_X7_78 : GF RX7 78 6 4 := ⟨(RX6, TX6, 10), rfl, uw6, by decide, (ALLW_c1 127 rfl rfl)⟩
set_option maxRecDepth 100000 in
theorem gf_X6_34 : GF RX6 34 6 5 := ⟨(RX6, TX6, 10), rfl, uw6, by decide, (ALLW_c1 128 rfl rfl)⟩
set_option maxRecDepth 100000 in
theorem gf_X1_140 : GF RX1 140 6 5 := ⟨(RX6, TX6, 10), rfl, uw6, by decide, (ALLW_c1 129 rfl rfl)⟩
set_option maxRecDepth 100000 in
theorem gf_X7_70 : GF RX7 70 6 5 := ⟨(RX6, TX6, 10), rfl, uw6, by decide, (ALLW_c1 130 rfl rfl)⟩
set_option maxRecDepth 100000 in
theorem gf_X1_98 : GF RX1 98 6 6 := ⟨(RX6, TX6, 10), rfl, uw6, by decide, (ALLW_c1 131 rfl rfl)⟩
set_option maxRecDepth 100000 in
theorem gf_X6_83 : GF RX6 83 6 6 := ⟨(RX6, TX6, 10), rfl, uw6, by decide, (ALLW_c1 132 rfl rfl)⟩
set_option maxRecDepth 100000 in
theorem gf_X1_105 : GF RX1 105 6 7 := ⟨(RX6, TX6, 10), rfl, uw6, by decide, (ALLW_c1 133 rfl rfl)⟩
set_option maxRecDepth 100000 in
theorem gf_X6_86 : GF RX6 86 6 7 := ⟨(RX6, TX6, 10), rfl, uw6, by decide, (ALLW_c1 134 rfl rfl)⟩
set_option maxRecDepth 100000 in
theorem gf_X6_20 : GF RX6 20 6 8 := ⟨(RX6, TX6, 10), rfl, uw6, by decide, (ALLW_c1 135 rfl rfl)⟩
set_option maxRecDepth 100000 in
theorem gf_X6_24 : GF RX6 24 6 9 := ⟨(RX6, TX6, 10), rfl, uw6, by decide, (ALLW_c1 136 rfl rfl)⟩
set_option maxRecDepth 100000 in
theorem gf_X0_44 : GF RX0 44 3 0 := ⟨(RX3, TX3, 12), rfl, uw3, by decide, (ALLW_c1 165 rfl rfl)⟩
set_option maxRecDepth 100000 in
theorem gf_X1_128 : GF RX1 128 3 0 := ⟨(RX3, TX3, 12), rfl, uw3, by decide, (ALLW_c1 166 rfl rfl)⟩
set_option maxRecDepth 100000 in
theorem gf_X8_179 : GF RX8 179 3 0 := ⟨(RX3, TX3, 12), rfl, uw3, by decide, (ALLW_c1 167 rfl rfl)⟩
set_option maxRecDepth 100000 in
theorem gf_X0_54 : GF RX0 54 3 1 := ⟨(RX3, TX3, 12), rfl, uw3, by decide, (ALLW_c1 168 rfl rfl)⟩
set_option maxRecDepth 100000 in
theorem gf_X1_129 : GF RX1 129 3 1 := ⟨(RX3, TX3, 12), rfl, uw3, by decide, (ALLW_c1 169 rfl rfl)⟩
set_option maxRecDepth 100000 in
theorem gf_X8_184 : GF RX8 184 3 1 := ⟨(RX3, TX3, 12), rfl, uw3, by decide, (ALLW_c1 170 rfl rfl)⟩
set_option maxRecDepth 100000 in
theorem gf_X1_130 : GF RX1 130 3 2 := ⟨(RX3, TX3, 12), rfl, uw3, by decide, (ALLW_c1 171 rfl rfl)⟩
set_option maxRecDepth 100000 in
theorem gf_X8_224 : GF RX8 224 3 2 := ⟨(RX3, TX3, 12), rfl, uw3, by decide, (ALLW_c1 172 rfl rfl)⟩
set_option maxRecDepth 100000 in
theorem gf_X1_133 : GF RX1 133 3 3 := ⟨(RX3, TX3, 12), rfl, uw3, by decide, (ALLW_c1 173 rfl rfl)⟩
set_option maxRecDepth 100000 in
theorem gf_X8_187 : GF RX8 187 3 3 := ⟨(RX3, TX3, 12), rfl, uw3, by decide, (ALLW_c1 174 rfl rfl)⟩
set_option maxRecDepth 100000 in
theorem gf_X1_139 : GF RX1 139 3 4 := ⟨(RX3, TX3, 12), rfl, uw3, by decide, (ALLW_c1 175 rfl rfl)⟩
set_option maxRecDepth 100000 in
theorem gf_X8_235 : GF RX8 235 3 4 := ⟨(RX3, TX3, 12), rfl, uw3, by decide, (ALLW_c1 176 rfl rfl)⟩
set_option maxRecDepth 100000 in
theorem gf_X1_143 : GF RX1 143 3 5 := ⟨(RX3, TX3, 12), rfl, uw3, by decide, (ALLW_c1 177 rfl rfl)⟩
set_option maxRecDepth 100000 in
theorem gf_X8_238 : GF RX8 238 3 5 := ⟨(RX3, TX3, 12), rfl, uw3, by decide, (ALLW_c1 178 rfl rfl)⟩
set_option maxRecDepth 100000 in
theorem gf_X0_79 : GF RX0 79 3 6 := ⟨(RX3, TX3, 12), rfl, uw3, by decide, (ALLW_c1 179 rfl rfl)⟩
set_option maxRecDepth 100000 in
theorem gf_X1_147 : GF RX1 147 3 6 := ⟨(RX3, TX3, 12), rfl, uw3, by decide, (ALLW_c1 180 rfl rfl)⟩
set_option maxRecDepth 100000 in
theorem gf_X0_86 : GF RX0 86 3 7 := ⟨(RX3, TX3, 12), rfl, uw3, by decide, (ALLW_c1 181 rfl rfl)⟩
set_option maxRecDepth 100000 in
theorem gf_X1_148 : GF RX1 148 3 7 := ⟨(RX3, TX3, 12), rfl, uw3, by decide, (ALLW_c1 182 rfl rfl)⟩
set_option maxRecDepth 100000 in
theorem gf_X0_101 : GF RX0 101 3 8 := ⟨(RX3, TX3, 12), rfl, uw3, by decide, (ALLW_c1 183 rfl rfl)⟩
set_option maxRecDepth 100000 in
theorem gf_X1_151 : GF RX1 151 3 8 := ⟨(RX3, TX3, 12), rfl, uw3, by decide, (ALLW_c1 184 rfl rfl)⟩
set_option maxRecDepth 100000 in
theorem gf_X3_7 : GF RX3 7 3 9 := ⟨(RX3, TX3, 12), rfl, uw3, by decide, (ALLW_c1 185 rfl rfl)⟩
set_option maxRecDepth 100000 in
theorem gf_X0_58 : GF RX0 58 3 9 := ⟨(RX3, TX3, 12), rfl, uw3, by decide, (ALLW_c1 186 rfl rfl)⟩
set_option maxRecDepth 100000 in
theorem gf_X8_208 : GF RX8 208 3 9 := ⟨(RX3, TX3, 12), rfl, uw3, by decide, (ALLW_c1 187 rfl rfl)⟩
set_option maxRecDepth 100000 in
theorem gf_X0_69 : GF RX0 69 3 10 := ⟨(RX3, TX3, 12), rfl, uw3, by decide, (ALLW_c1 188 rfl rfl)⟩
set_option maxRecDepth 100000 in
theorem gf_X8_205 : GF RX8 205 3 10 := ⟨(RX3, TX3, 12), rfl, uw3, by decide, (ALLW_c1 189 rfl rfl)⟩
set_option maxRecDepth 100000 in
theorem gf_X3_13 : GF RX3 13 3 11 := ⟨(RX3, TX3, 12), rfl, uw3, by decide, (ALLW_c1 190 rfl rfl)⟩
set_option maxRecDepth 100000 in
theorem gf_X0_75 : GF RX0 75 3 11 := ⟨(RX3, TX3, 12), rfl, uw3, by decide, (ALLW_c1 191 rfl rfl)⟩
set_option maxRecDepth 100000 in
theorem gf_X1_14 : GF RX1 14 1 0 := ⟨(RX1, TX1, 8), rfl, uw1, by decide, (ALLW_c1 217 rfl rfl)⟩
set_option maxRecDepth 100000 in
theorem gf_X8_373 : GF RX8 373 1 0 := ⟨(RX1, TX1, 8), rfl, uw1, by decide, (ALLW_c1 218 rfl rfl)⟩
set_option maxRecDepth 100000 in
theorem gf_X1_20 : GF RX1 20 1 1 := ⟨(RX1, TX1, 8), rfl, uw1, by decide, (ALLW_c1 219 rfl rfl)⟩
set_option maxRecDepth 100000 in
theorem gf_X8_221 : GF RX8 221 1 1 := ⟨(RX1, TX1, 8), rfl, uw1, by decide, (ALLW_c1 220 rfl rfl)⟩
set_option maxRecDepth 100000 in
theorem gf_X1_41 : GF RX1 41 1 2 := ⟨(RX1, TX1, 8), rfl, uw1, by decide, (ALLW_c1 221 rfl rfl)⟩
set_option maxRecDepth 100000 in
theorem gf_X1_46 : GF RX1 46 1 3 := ⟨(RX1, TX1, 8), rfl, uw1, by decide, (ALLW_c1 222 rfl rfl)⟩
set_option maxRecDepth 100000 in
theorem gf_X1_32 : GF RX1 32 1 4 := ⟨(RX1, TX1, 8), rfl, uw1, by decide, (ALLW_c1 223 rfl rfl)⟩
set_option maxRecDepth 100000 in
theorem gf_X1_36 : GF RX1 36 1 5 := ⟨(RX1, TX1, 8), rfl, uw1, by decide, (ALLW_c1 224 rfl rfl)⟩
set_option maxRecDepth 100000 in
theorem gf_X1_23 : GF RX1 23 1 6 := ⟨(RX1, TX1, 8), rfl, uw1, by decide, (ALLW_c1 225 rfl rfl)⟩
set_option maxRecDepth 100000 in
theorem gf_X1_26 : GF RX1 26 1 7 := ⟨(RX1, TX1, 8), rfl, uw1, by decide, (ALLW_c1 226 rfl rfl)⟩
set_option maxRecDepth 100000 in
theorem gf_X0_14 : GF RX0 14 0 0 := ⟨(RX0, TX0, 4), rfl, uw0, by decide, (ALLW_c2 12 rfl rfl)⟩
set_option maxRecDepth 100000 in
theorem gf_X8_160 : GF RX8 160 0 0 := ⟨(RX0, TX0, 4), rfl, uw0, by decide, (ALLW_c2 13 rfl rfl)⟩
set_option maxRecDepth 100000 in
theorem gf_X0_20 : GF RX0 20 0 1 := ⟨(RX0, TX0, 4), rfl, uw0, by decide, (ALLW_c2 14 rfl rfl)⟩
set_option maxRecDepth 100000 in
theorem gf_X8_251 : GF RX8 251 0 1 := ⟨(RX0, TX0, 4), rfl, uw0, by decide, (ALLW_c2 15 rfl rfl)⟩
set_option maxRecDepth 100000 in
theorem gf_X0_23 : GF RX0 23 0 2 := ⟨(RX0, TX0, 4), rfl, uw0, by decide, (ALLW_c2 16 rfl rfl)⟩
set_option maxRecDepth 100000 in
theorem gf_X0_72 : GF RX0 72 0 3 := ⟨(RX0, TX0, 4), rfl, uw0, by decide, (ALLW_c2 17 rfl rfl)⟩
set_option maxRecDepth 100000 in
theorem gf_X4_32 : GF RX4 32 4 0 := ⟨(RX4, TX4, 8), rfl, uw4, by decide, (ALLW_c2 35 rfl rfl)⟩
set_option maxRecDepth 100000 in
theorem gf_X8_81 : GF RX8 81 4 0 := ⟨(RX4, TX4, 8), rfl, uw4, by decide, (ALLW_c2 36 rfl rfl)⟩
set_option maxRecDepth 100000 in
theorem gf_X4_28 : GF RX4 28 4 1 := ⟨(RX4, TX4, 8), rfl, uw4, by decide, (ALLW_c2 37 rfl rfl)⟩
set_option maxRecDepth 100000 in
theorem gf_X8_85 : GF RX8 85 4 1 := ⟨(RX4, TX4, 8), rfl, uw4, by decide, (ALLW_c2 38 rfl rfl)⟩
set_option maxRecDepth 100000 in
theorem gf_X4_46 : GF RX4 46 4 2 := ⟨(RX4, TX4, 8), rfl, uw4, by decide, (ALLW_c2 39 rfl rfl)⟩
set_option maxRecDepth 100000 in
theorem gf_X8_91 : GF RX8 91 4 2 := ⟨(RX4, TX4, 8), rfl, uw4, by decide, (ALLW_c2 40 rfl rfl)⟩
set_option maxRecDepth 100000 in
theorem gf_X8_94 : GF RX8 94 4 3 := ⟨(RX4, TX4, 8), rfl, uw4, by decide, (ALLW_c2 41 rfl rfl)⟩
set_option maxRecDepth 100000 in
theorem gf_X4_96 : GF RX4 96 4 3 := ⟨(RX4, TX4, 8), rfl, uw4, by decide, (ALLW_c2 42 rfl rfl)⟩
set_option maxRecDepth 100000 in
theorem gf_X8_97 : GF RX8 97 4 4 := ⟨(RX4, TX4, 8), rfl, uw4, by decide, (ALLW_c2 43 rfl rfl)⟩
set_option maxRecDepth 100000 in
theorem gf_X4_99 : GF RX4 99 4 4 := ⟨(RX4, TX4, 8), rfl, uw4, by decide, (ALLW_c2 44 rfl rfl)⟩
set_option maxRecDepth 100000 in
theorem gf_X8_100 : GF RX8 100 4 5 := ⟨(RX4, TX4, 8), rfl, uw4, by decide, (ALLW_c2 45 rfl rfl)⟩
set_option maxRecDepth 100000 in
theorem gf_X4_106 : GF RX4 106 4 5 := ⟨(RX4, TX4, 8), rfl, uw4, by decide, (ALLW_c2 46 rfl rfl)⟩
set_option maxRecDepth 100000 in
theorem gf_X4_93 : GF RX4 93 4 6 := ⟨(RX4, TX4, 8), rfl, uw4, by decide, (ALLW_c2 47 rfl rfl)⟩
set_option maxRecDepth 100000 in
theorem gf_X4_14 : GF RX4 14 4 7 := ⟨(RX4, TX4, 8), rfl, uw4, by decide, (ALLW_c2 48 rfl rfl)⟩
set_option maxRecDepth 100000 in
theorem gf_X8_14 : GF RX8 14 8 0 := ⟨(RX8, TX8, 14), rfl, uw8, by decide, (ALLW_c2 66 rfl rfl)⟩
set_option maxRecDepth 100000 in
theorem gf_X8_21 : GF RX8 21 8 1 := ⟨(RX8, TX8, 14), rfl, uw8, by decide, (ALLW_c2 67 rfl rfl)⟩
set_option maxRecDepth 100000 in
theorem gf_X8_25 : GF RX8 25 8 2 := ⟨(RX8, TX8, 14), rfl, uw8, by decide, (ALLW_c2 68 rfl rfl)⟩
set_option maxRecDepth 100000 in
theorem gf_X8_28 : GF RX8 28 8 3 := ⟨(RX8, TX8, 14), rfl, uw8, by decide, (ALLW_c2 69 rfl rfl)⟩
set_option maxRecDepth 100000 in
theorem gf_X8_31 : GF RX8 31 8 4 := ⟨(RX8, TX8, 14), rfl, uw8, by decide, (ALLW_c2 70 rfl rfl)⟩
set_option maxRecDepth 100000 in
theorem gf_X8_38 : GF RX8 38 8 5 := ⟨(RX8, TX8, 14), rfl, uw8, by decide, (ALLW_c2 71 rfl rfl)⟩
set_option maxRecDepth 100000 in
theorem gf_X8_42 : GF RX8 42 8 6 := ⟨(RX8, TX8, 14), rfl, uw8, by decide, (ALLW_c2 72 rfl rfl)⟩
set_option maxRecDepth 100000 in
theorem gf_X8_48 : GF RX8 48 8 7 := ⟨(RX8, TX8, 14), rfl, uw8, by decide, (ALLW_c2 73 rfl rfl)⟩
set_option maxRecDepth 100000 in
theorem gf_X8_55 : GF RX8 55 8 8 := ⟨(RX8, TX8, 14), rfl, uw8, by decide, (ALLW_c2 74 rfl rfl)⟩
set_option maxRecDepth 100000 in
theorem gf_X8_287 : GF RX8 287 8 9 := ⟨(RX8, TX8, 14), rfl, uw8, by decide, (ALLW_c2 75 rfl rfl)⟩
set_option maxRecDepth 100000 in
theorem gf_X8_334 : GF RX8 334 8 10 := ⟨(RX8, TX8, 14), rfl, uw8, by decide, (ALLW_c2 76 rfl rfl)⟩
set_option maxRecDepth 100000 in
theorem gf_X8_123 : GF RX8 123 8 11 := ⟨(RX8, TX8, 14), rfl, uw8, by decide, (ALLW_c2 77 rfl rfl)⟩
set_option maxRecDepth 100000 in
theorem gf_X8_110 : GF RX8 110 8 12 := ⟨(RX8, TX8, 14), rfl, uw8, by decide, (ALLW_c2 78 rfl rfl)⟩
set_option maxRecDepth 100000 in
theorem gf_X8_59 : GF RX8 59 8 13 := ⟨(RX8, TX8, 14), rfl, uw8, by decide, (ALLW_c2 79 rfl rfl)⟩
set_option maxRecDepth 100000 in
theorem gf_X2_7 : GF RX2 7 2 0 := ⟨(RX2, TX2, 3), rfl, uw2, by decide, (ALLW_c3 145 rfl rfl)⟩
set_option maxRecDepth 100000 in
theorem gf_X8_273 : GF RX8 273 2 0 := ⟨(RX2, TX2, 3), rfl, uw2, by decide, (ALLW_c3 146 rfl rfl)⟩
set_option maxRecDepth 100000 in
theorem gf_X2_13 : GF RX2 13 2 1 := ⟨(RX2, TX2, 3), rfl, uw2, by decide, (ALLW_c3 147 rfl rfl)⟩
set_option maxRecDepth 100000 in
theorem gf_X8_270 : GF RX8 270 2 1 := ⟨(RX2, TX2, 3), rfl, uw2, by decide, (ALLW_c3 148 rfl rfl)⟩
set_option maxRecDepth 100000 in
theorem gf_X2_16 : GF RX2 16 2 2 := ⟨(RX2, TX2, 3), rfl, uw2, by decide, (ALLW_c3 149 rfl rfl)⟩
set_option maxRecDepth 100000 in
theorem gf_X8_265 : GF RX8 265 2 2 := ⟨(RX2, TX2, 3), rfl, uw2, by decide, (ALLW_c3 150 rfl rfl)⟩
set_option maxRecDepth 100000 in
theorem gf_X9_138 : GF RX9 138 9 0 := ⟨(RX9, TX9, 60), rfl, uw9, by decide, (ALLW_c5 184 rfl rfl)⟩
set_option maxRecDepth 100000 in
theorem gf_X9_7 : GF RX9 7 9 1 := ⟨(RX9, TX9, 60), rfl, uw9, by decide, (ALLW_c5 185 rfl rfl)⟩
set_option maxRecDepth 100000 in
theorem gf_X9_13 : GF RX9 13 9 2 := ⟨(RX9, TX9, 60), rfl, uw9, by decide, (ALLW_c5 186 rfl rfl)⟩
set_option maxRecDepth 100000 in
theorem gf_X9_16 : GF RX9 16 9 3 := ⟨(RX9, TX9, 60), rfl, uw9, by decide, (ALLW_c5 187 rfl rfl)⟩
set_option maxRecDepth 100000 in
theorem gf_X9_20 : GF RX9 20 9 4 := ⟨(RX9, TX9, 60), rfl, uw9, by decide, (ALLW_c5 188 rfl rfl)⟩
set_option maxRecDepth 100000 in
theorem gf_X9_325 : GF RX9 325 9 5 := ⟨(RX9, TX9, 60), rfl, uw9, by decide, (ALLW_c5 189 rfl rfl)⟩
set_option maxRecDepth 100000 in
theorem gf_X9_468 : GF RX9 468 9 6 := ⟨(RX9, TX9, 60), rfl, uw9, by decide, (ALLW_c5 190 rfl rfl)⟩
set_option maxRecDepth 100000 in
theorem gf_X9_328 : GF RX9 328 9 7 := ⟨(RX9, TX9, 60), rfl, uw9, by decide, (ALLW_c5 191 rfl rfl)⟩
set_option maxRecDepth 100000 in
theorem gf_X9_23 : GF RX9 23 9 8 := ⟨(RX9, TX9, 60), rfl, uw9, by decide, (ALLW_c5 192 rfl rfl)⟩
set_option maxRecDepth 100000 in
theorem gf_X9_337 : GF RX9 337 9 9 := ⟨(RX9, TX9, 60), rfl, uw9, by decide, (ALLW_c5 193 rfl rfl)⟩
set_option maxRecDepth 100000 in
theorem gf_X9_343 : GF RX9 343 9 10 := ⟨(RX9, TX9, 60), rfl, uw9, by decide, (ALLW_c5 194 rfl rfl)⟩
set_option maxRecDepth 100000 in
theorem gf_X9_340 : GF RX9 340 9 11 := ⟨(RX9, TX9, 60), rfl, uw9, by decide, (ALLW_c5 195 rfl rfl)⟩
set_option maxRecDepth 100000 in
theorem gf_X9_26 : GF RX9 26 9 12 := ⟨(RX9, TX9, 60), rfl, uw9, by decide, (ALLW_c5 196 rfl rfl)⟩
set_option maxRecDepth 100000 in
theorem gf_X9_30 : GF RX9 30 9 13 := ⟨(RX9, TX9, 60), rfl, uw9, by decide, (ALLW_c5 197 rfl rfl)⟩
set_option maxRecDepth 100000 in
theorem gf_X9_33 : GF RX9 33 9 14 := ⟨(RX9, TX9, 60), rfl, uw9, by decide, (ALLW_c5 198 rfl rfl)⟩
set_option maxRecDepth 100000 in
theorem gf_X9_36 : GF RX9 36 9 15 := ⟨(RX9, TX9, 60), rfl, uw9, by decide, (ALLW_c5 199 rfl rfl)⟩
set_option maxRecDepth 100000 in
theorem gf_X9_220 : GF RX9 220 9 16 := ⟨(RX9, TX9, 60), rfl, uw9, by decide, (ALLW_c5 200 rfl rfl)⟩
set_option maxRecDepth 100000 in
theorem gf_X9_39 : GF RX9 39 9 17 := ⟨(RX9, TX9, 60), rfl, uw9, by decide, (ALLW_c5 201 rfl rfl)⟩
end
/-! part 05b.words -/
section
set_option maxRecDepth 100000 in
theorem gf_X9_42 : GF RX9 42 9 18 := ⟨(RX9, TX9, 60), rfl, uw9, by decide, (ALLW_c5 202 rfl rfl)⟩
set_option maxRecDepth 100000 in
theorem gf_X9_45 : GF RX9 45 9 19 := ⟨(RX9, TX9, 60), rfl, uw9, by decide, (ALLW_c5 203 rfl rfl)⟩
set_option maxRecDepth 100000 in
theorem gf_X9_48 : GF RX9 48 9 20 := ⟨(RX9, TX9, 60), rfl, uw9, by decide, (ALLW_c5 204 rfl rfl)⟩
set_option maxRecDepth 100000 in
theorem gf_X9_51 : GF RX9 51 9 21 := ⟨(RX9, TX9, 60), rfl, uw9, by decide, (ALLW_c5 205 rfl rfl)⟩
set_option maxRecDepth 100000 in
theorem gf_X9_227 : GF RX9 227 9 22 := ⟨(RX9, TX9, 60), rfl, uw9, by decide, (ALLW_c5 206 rfl rfl)⟩
set_option maxRecDepth 100000 in
theorem gf_X9_54 : GF RX9 54 9 23 := ⟨(RX9, TX9, 60), rfl, uw9, by decide, (ALLW_c5 207 rfl rfl)⟩
set_option maxRecDepth 100000 in
theorem gf_X9_57 : GF RX9 57 9 24 := ⟨(RX9, TX9, 60), rfl, uw9, by decide, (ALLW_c5 208 rfl rfl)⟩
set_option maxRecDepth 100000 in
theorem gf_X9_60 : GF RX9 60 9 25 := ⟨(RX9, TX9, 60), rfl, uw9, by decide, (ALLW_c5 209 rfl rfl)⟩
set_option maxRecDepth 100000 in
theorem gf_X9_234 : GF RX9 234 9 26 := ⟨(RX9, TX9, 60), rfl, uw9, by decide, (ALLW_c5 210 rfl rfl)⟩
set_option maxRecDepth 100000 in
theorem gf_X9_63 : GF RX9 63 9 27 := ⟨(RX9, TX9, 60), rfl, uw9, by decide, (ALLW_c5 211 rfl rfl)⟩
set_option maxRecDepth 100000 in
theorem gf_X9_66 : GF RX9 66 9 28 := ⟨(RX9, TX9, 60), rfl, uw9, by decide, (ALLW_c5 212 rfl rfl)⟩
set_option maxRecDepth 100000 in
theorem gf_X9_69 : GF RX9 69 9 29 := ⟨(RX9, TX9, 60), rfl, uw9, by decide, (ALLW_c5 213 rfl rfl)⟩
set_option maxRecDepth 100000 in
theorem gf_X9_72 : GF RX9 72 9 30 := ⟨(RX9, TX9, 60), rfl, uw9, by decide, (ALLW_c5 214 rfl rfl)⟩
set_option maxRecDepth 100000 in
theorem gf_X9_75 : GF RX9 75 9 31 := ⟨(RX9, TX9, 60), rfl, uw9, by decide, (ALLW_c5 215 rfl rfl)⟩
set_option maxRecDepth 100000 in
theorem gf_X9_78 : GF RX9 78 9 32 := ⟨(RX9, TX9, 60), rfl, uw9, by decide, (ALLW_c5 216 rfl rfl)⟩
set_option maxRecDepth 100000 in
theorem gf_X9_204 : GF RX9 204 9 33 := ⟨(RX9, TX9, 60), rfl, uw9, by decide, (ALLW_c5 217 rfl rfl)⟩
set_option maxRecDepth 100000 in
theorem gf_X9_81 : GF RX9 81 9 34 := ⟨(RX9, TX9, 60), rfl, uw9, by decide, (ALLW_c5 218 rfl rfl)⟩
set_option maxRecDepth 100000 in
theorem gf_X9_84 : GF RX9 84 9 35 := ⟨(RX9, TX9, 60), rfl, uw9, by decide, (ALLW_c5 219 rfl rfl)⟩
set_option maxRecDepth 100000 in
theorem gf_X9_87 : GF RX9 87 9 36 := ⟨(RX9, TX9, 60), rfl, uw9, by decide, (ALLW_c5 220 rfl rfl)⟩
set_option maxRecDepth 100000 in
theorem gf_X9_90 : GF RX9 90 9 37 := ⟨(RX9, TX9, 60), rfl, uw9, by decide, (ALLW_c5 221 rfl rfl)⟩
set_option maxRecDepth 100000 in
theorem gf_X9_93 : GF RX9 93 9 38 := ⟨(RX9, TX9, 60), rfl, uw9, by decide, (ALLW_c5 222 rfl rfl)⟩
set_option maxRecDepth 100000 in
theorem gf_X9_96 : GF RX9 96 9 39 := ⟨(RX9, TX9, 60), rfl, uw9, by decide, (ALLW_c5 223 rfl rfl)⟩
set_option maxRecDepth 100000 in
theorem gf_X9_99 : GF RX9 99 9 40 := ⟨(RX9, TX9, 60), rfl, uw9, by decide, (ALLW_c5 224 rfl rfl)⟩
set_option maxRecDepth 100000 in
theorem gf_X9_102 : GF RX9 102 9 41 := ⟨(RX9, TX9, 60), rfl, uw9, by decide, (ALLW_c5 225 rfl rfl)⟩
set_option maxRecDepth 100000 in
theorem gf_X9_105 : GF RX9 105 9 42 := ⟨(RX9, TX9, 60), rfl, uw9, by decide, (ALLW_c5 226 rfl rfl)⟩
set_option maxRecDepth 100000 in
theorem gf_X9_108 : GF RX9 108 9 43 := ⟨(RX9, TX9, 60), rfl, uw9, by decide, (ALLW_c5 227 rfl rfl)⟩
set_option maxRecDepth 100000 in
theorem gf_X9_111 : GF RX9 111 9 44 := ⟨(RX9, TX9, 60), rfl, uw9, by decide, (ALLW_c5 228 rfl rfl)⟩
set_option maxRecDepth 100000 in
theorem gf_X9_217 : GF RX9 217 9 45 := ⟨(RX9, TX9, 60), rfl, uw9, by decide, (ALLW_c5 229 rfl rfl)⟩
set_option maxRecDepth 100000 in
theorem gf_X9_114 : GF RX9 114 9 46 := ⟨(RX9, TX9, 60), rfl, uw9, by decide, (ALLW_c5 230 rfl rfl)⟩
set_option maxRecDepth 100000 in
theorem gf_X9_117 : GF RX9 117 9 47 := ⟨(RX9, TX9, 60), rfl, uw9, by decide, (ALLW_c5 231 rfl rfl)⟩
set_option maxRecDepth 100000 in
theorem gf_X9_120 : GF RX9 120 9 49 := ⟨(RX9, TX9, 60), rfl, uw9, by decide, (ALLW_c5 232 rfl rfl)⟩
set_option maxRecDepth 100000 in
theorem gf_X9_123 : GF RX9 123 9 50 := ⟨(RX9, TX9, 60), rfl, uw9, by decide, (ALLW_c5 233 rfl rfl)⟩
set_option maxRecDepth 100000 in
theorem gf_X9_126 : GF RX9 126 9 51 := ⟨(RX9, TX9, 60), rfl, uw9, by decide, (ALLW_c5 234 rfl rfl)⟩
set_option maxRecDepth 100000 in
theorem gf_X9_129 : GF RX9 129 9 52 := ⟨(RX9, TX9, 60), rfl, uw9, by decide, (ALLW_c5 235 rfl rfl)⟩
set_option maxRecDepth 100000 in
theorem gf_X9_132 : GF RX9 132 9 53 := ⟨(RX9, TX9, 60), rfl, uw9, by decide, (ALLW_c5 236 rfl rfl)⟩
set_option maxRecDepth 100000 in
theorem gf_X9_145 : GF RX9 145 9 54 := ⟨(RX9, TX9, 60), rfl, uw9, by decide, (ALLW_c5 237 rfl rfl)⟩
set_option maxRecDepth 100000 in
theorem gf_X9_183 : GF RX9 183 9 55 := ⟨(RX9, TX9, 60), rfl, uw9, by decide, (ALLW_c5 238 rfl rfl)⟩
set_option maxRecDepth 100000 in
theorem gf_X9_254 : GF RX9 254 9 56 := ⟨(RX9, TX9, 60), rfl, uw9, by decide, (ALLW_c5 239 rfl rfl)⟩
set_option maxRecDepth 100000 in
theorem gf_X9_306 : GF RX9 306 9 57 := ⟨(RX9, TX9, 60), rfl, uw9, by decide, (ALLW_c6 0 rfl rfl)⟩
set_option maxRecDepth 100000 in
theorem gf_X9_135 : GF RX9 135 9 58 := ⟨(RX9, TX9, 60), rfl, uw9, by decide, (ALLW_c6 1 rfl rfl)⟩
set_option maxRecDepth 100000 in
theorem gf_X9_459 : GF RX9 459 9 59 := ⟨(RX9, TX9, 60), rfl, uw9, by decide, (ALLW_c6 2 rfl rfl)⟩
theorem fi0_0 : isFin RX0 0 0 := ⟨(RX0, TX0, 4), rfl, rfl, rfl⟩
theorem fi0_1 : isFin RX0 0 1 := ⟨(RX0, TX0, 4), rfl, rfl, rfl⟩
theorem fi0_2 : isFin RX0 0 2 := ⟨(RX0, TX0, 4), rfl, rfl, rfl⟩
theorem nf0_3 : noFin 0 3 := ⟨(RX0, TX0, 4), rfl, rfl⟩
theorem fi1_0 : isFin RX1 1 0 := ⟨(RX1, TX1, 8), rfl, rfl, rfl⟩
theorem fi1_1 : isFin RX1 1 1 := ⟨(RX1, TX1, 8), rfl, rfl, rfl⟩
theorem fi1_2 : isFin RX1 1 2 := ⟨(RX1, TX1, 8), rfl, rfl, rfl⟩
theorem nf1_3 : noFin 1 3 := ⟨(RX1, TX1, 8), rfl, rfl⟩
theorem fi1_4 : isFin RX1 1 4 := ⟨(RX1, TX1, 8), rfl, rfl, rfl⟩
theorem fi1_5 : isFin RX1 1 5 := ⟨(RX1, TX1, 8), rfl, rfl, rfl⟩
theorem fi1_6 : isFin RX1 1 6 := ⟨(RX1, TX1, 8), rfl, rfl, rfl⟩
theorem fi1_7 : isFin RX1 1 7 := ⟨(RX1, TX1, 8), rfl, rfl, rfl⟩
theorem fi2_0 : isFin RX2 2 0 := ⟨(RX2, TX2, 3), rfl, rfl, rfl⟩
theorem fi2_1 : isFin RX2 2 1 := ⟨(RX2, TX2, 3), rfl, rfl, rfl⟩
theorem fi2_2 : isFin RX2 2 2 := ⟨(RX2, TX2, 3), rfl, rfl, rfl⟩
theorem nf3_0 : noFin 3 0 := ⟨(RX3, TX3, 12), rfl, rfl⟩
theorem nf3_1 : noFin 3 1 := ⟨(RX3, TX3, 12), rfl, rfl⟩
theorem nf3_2 : noFin 3 2 := ⟨(RX3, TX3, 12), rfl, rfl⟩
theorem nf3_3 : noFin 3 3 := ⟨(RX3, TX3, 12), rfl, rfl⟩
theorem nf3_4 : noFin 3 4 := ⟨(RX3, TX3, 12), rfl, rfl⟩
theorem nf3_5 : noFin 3 5 := ⟨(RX3, TX3, 12), rfl, rfl⟩
theorem nf3_6 : noFin 3 6 := ⟨(RX3, TX3, 12), rfl, rfl⟩
theorem nf3_7 : noFin 3 7 := ⟨(RX3, TX3, 12), rfl, rfl⟩
theorem nf3_8 : noFin 3 8 := ⟨(RX3, TX3, 12), rfl, rfl⟩
theorem nf3_9 : noFin 3 9 := ⟨(RX3, TX3, 12), rfl, rfl⟩
theorem nf3_10 : noFin 3 10 := ⟨(RX3, TX3, 12), rfl, rfl⟩
theorem nf3_11 : noFin 3 11 := ⟨(RX3, TX3, 12), rfl, rfl⟩
theorem nf4_0 : noFin 4 0 := ⟨(RX4, TX4, 8), rfl, rfl⟩
theorem nf4_1 : noFin 4 1 := ⟨(RX4, TX4, 8), rfl, rfl⟩
theorem nf4_2 : noFin 4 2 := ⟨(RX4, TX4, 8), rfl, rfl⟩
theorem nf4_3 : noFin 4 3 := ⟨(RX4, TX4, 8), rfl, rfl⟩
theorem nf4_4 : noFin 4 4 := ⟨(RX4, TX4, 8), rfl, rfl⟩
theorem nf4_5 : noFin 4 5 := ⟨(RX4, TX4, 8), rfl, rfl⟩
theorem nf4_6 : noFin 4 6 := ⟨(RX4, TX4, 8), rfl, rfl⟩
theorem nf4_7 : noFin 4 7 := ⟨(RX4, TX4, 8), rfl, rfl⟩
theorem fi5_0 : isFin RX5 5 0 := ⟨(RX5, TX5, 2), rfl, rfl, rfl⟩
theorem nf5_1 : noFin 5 1 := ⟨(RX5, TX5, 2), rfl, rfl⟩
theorem nf6_0 : noFin 6 0 := ⟨(RX6, TX6, 10), rfl, rfl⟩
theorem nf6_1 : noFin 6 1 := ⟨(RX6, TX6, 10), rfl, rfl⟩
theorem nf6_2 : noFin 6 2 := ⟨(RX6, TX6, 10), rfl, rfl⟩
theorem nf6_3 : noFin 6 3 := ⟨(RX6, TX6, 10), rfl, rfl⟩
theorem nf6_4 : noFin 6 4 := ⟨(RX6, TX6, 10), rfl, rfl⟩
theorem nf6_5 : noFin 6 5 := ⟨(RX6, TX6, 10), rfl, rfl⟩
theorem nf6_6 : noFin 6 6 := ⟨(RX6, TX6, 10), rfl, rfl⟩
theorem nf6_7 : noFin 6 7 := ⟨(RX6, TX6, 10), rfl, rfl⟩
theorem nf6_8 : noFin 6 8 := ⟨(RX6, TX6, 10), rfl, rfl⟩
theorem nf6_9 : noFin 6 9 := ⟨(RX6, TX6, 10), rfl, rfl⟩
theorem nf7_0 : noFin 7 0 := ⟨(RX7, TX7, 10), rfl, rfl⟩
theorem nf7_1 : noFin 7 1 := ⟨(RX7, TX7, 10), rfl, rfl⟩
theorem nf7_2 : noFin 7 2 := ⟨(RX7, TX7, 10), rfl, rfl⟩
theorem nf7_3 : noFin 7 3 := ⟨(RX7, TX7, 10), rfl, rfl⟩
theorem nf7_4 : noFin 7 4 := ⟨(RX7, TX7, 10), rfl, rfl⟩
theorem nf7_5 : noFin 7 5 := ⟨(RX7, TX7, 10), rfl, rfl⟩
theorem nf7_6 : noFin 7 6 := ⟨(RX7, TX7, 10), rfl, rfl⟩
theorem nf7_7 : noFin 7 7 := ⟨(RX7, TX7, 10), rfl, rfl⟩
theorem fi7_8 : isFin RX7 7 8 := ⟨(RX7, TX7, 10), rfl, rfl, rfl⟩
theorem fi7_9 : isFin RX7 7 9 := ⟨(RX7, TX7, 10), rfl, rfl, rfl⟩
theorem fi8_0 : isFin RX8 8 0 := ⟨(RX8, TX8, 14), rfl, rfl, rfl⟩
theorem fi8_1 : isFin RX8 8 1 := ⟨(RX8, TX8, 14), rfl, rfl, rfl⟩
theorem fi8_2 : isFin RX8 8 2 := ⟨(RX8, TX8, 14), rfl, rfl, rfl⟩
theorem fi8_3 : isFin RX8 8 3 := ⟨(RX8, TX8, 14), rfl, rfl, rfl⟩
theorem fi8_4 : isFin RX8 8 4 := ⟨(RX8, TX8, 14), rfl, rfl, rfl⟩
theorem fi8_5 : isFin RX8 8 5 := ⟨(RX8, TX8, 14), rfl, rfl, rfl⟩
theorem fi8_6 : isFin RX8 8 6 := ⟨(RX8, TX8, 14), rfl, rfl, rfl⟩
theorem fi8_7 : isFin RX8 8 7 := ⟨(RX8, TX8, 14), rfl, rfl, rfl⟩
theorem fi8_8 : isFin RX8 8 8 := ⟨(RX8, TX8, 14), rfl, rfl, rfl⟩
theorem nf8_9 : noFin 8 9 := ⟨(RX8, TX8, 14), rfl, rfl⟩
theorem nf8_10 : noFin 8 10 := ⟨(RX8, TX8, 14), rfl, rfl⟩
theorem nf8_11 : noFin 8 11 := ⟨(RX8, TX8, 14), rfl, rfl⟩
theorem nf8_12 : noFin 8 12 := ⟨(RX8, TX8, 14), rfl, rfl⟩
theorem nf8_13 : noFin 8 13 := ⟨(RX8, TX8, 14), rfl, rfl⟩
theorem nf9_0 : noFin 9 0 := ⟨(RX9, TX9, 60), rfl, rfl⟩
theorem fi9_1 : isFin RX9 9 1 := ⟨(RX9, TX9, 60), rfl, rfl, rfl⟩
theorem fi9_2 : isFin RX9 9 2 := ⟨(RX9, TX9, 60), rfl, rfl, rfl⟩
theorem fi9_3 : isFin RX9 9 3 := ⟨(RX9, TX9, 60), rfl, rfl, rfl⟩
theorem fi9_4 : isFin RX9 9 4 := ⟨(RX9, TX9, 60), rfl, rfl, rfl⟩
theorem nf9_5 : noFin 9 5 := ⟨(RX9, TX9, 60), rfl, rfl⟩
theorem nf9_6 : noFin 9 6 := ⟨(RX9, TX9, 60), rfl, rfl⟩
theorem nf9_7 : noFin 9 7 := ⟨(RX9, TX9, 60), rfl, rfl⟩
theorem fi9_8 : isFin RX9 9 8 := ⟨(RX9, TX9, 60), rfl, rfl, rfl⟩
theorem nf9_9 : noFin 9 9 := ⟨(RX9, TX9, 60), rfl, rfl⟩
theorem nf9_10 : noFin 9 10 := ⟨(RX9, TX9, 60), rfl, rfl⟩
theorem nf9_11 : noFin 9 11 := ⟨(RX9, TX9, 60), rfl, rfl⟩
theorem nf9_12 : noFin 9 12 := ⟨(RX9, TX9, 60), rfl, rfl⟩
theorem fi9_13 : isFin RX9 9 13 := ⟨(RX9, TX9, 60), rfl, rfl, rfl⟩
theorem fi9_14 : isFin RX9 9 14 := ⟨(RX9, TX9, 60), rfl, rfl, rfl⟩
theorem fi9_15 : isFin RX9 9 15 := ⟨(RX9, TX9, 60), rfl, rfl, rfl⟩
theorem nf9_16 : noFin 9 16 := ⟨(RX9, TX9, 60), rfl, rfl⟩
theorem fi9_17 : isFin RX9 9 17 := ⟨(RX9, TX9, 60), rfl, rfl, rfl⟩
theorem fi9_18 : isFin RX9 9 18 := ⟨(RX9, TX9, 60), rfl, rfl, rfl⟩
theorem fi9_19 : isFin RX9 9 19 := ⟨(RX9, TX9, 60), rfl, rfl, rfl⟩
theorem fi9_20 : isFin RX9 9 20 := ⟨(RX9, TX9, 60), rfl, rfl, rfl⟩
theorem fi9_21 : isFin RX9 9 21 := ⟨(RX9, TX9, 60), rfl, rfl, rfl⟩
theorem nf9_22 : noFin 9 22 := ⟨(RX9, TX9, 60), rfl, rfl⟩
theorem fi9_23 : isFin RX9 9 23 := ⟨(RX9, TX9, 60), rfl, rfl, rfl⟩
theorem fi9_24 : isFin RX9 9 24 := ⟨(RX9, TX9, 60), rfl, rfl, rfl⟩
theorem fi9_25 : isFin RX9 9 25 := ⟨(RX9, TX9, 60), rfl, rfl, rfl⟩
theorem nf9_26 : noFin 9 26 := ⟨(RX9, TX9, 60), rfl, rfl⟩
theorem fi9_27 : isFin RX9 9 27 := ⟨(RX9, TX9, 60), rfl, rfl, rfl⟩
theorem fi9_28 : isFin RX9 9 28 := ⟨(RX9, TX9, 60), rfl, rfl, rfl⟩
theorem fi9_29 : isFin RX9 9 29 := ⟨(RX9, TX9, 60), rfl, rfl, rfl⟩
theorem fi9_30 : isFin RX9 9 30 := ⟨(RX9, TX9, 60), rfl, rfl, rfl⟩
theorem fi9_31 : isFin RX9 9 31 := ⟨(RX9, TX9, 60), rfl, rfl, rfl⟩
theorem fi9_32 : isFin RX9 9 32 := ⟨(RX9, TX9, 60), rfl, rfl, rfl⟩
theorem nf9_33 : noFin 9 33 := ⟨(RX9, TX9, 60), rfl, rfl⟩
theorem fi9_34 : isFin RX9 9 34 := ⟨(RX9, TX9, 60), rfl, rfl, rfl⟩
theorem fi9_35 : isFin RX9 9 35 := ⟨(RX9, TX9, 60), rfl, rfl, rfl⟩
theorem fi9_36 : isFin RX9 9 36 := ⟨(RX9, TX9, 60), rfl, rfl, rfl⟩
theorem fi9_37 : isFin RX9 9 37 := ⟨(RX9, TX9, 60), rfl, rfl, rfl⟩
theorem fi9_38 : isFin RX9 9 38 := ⟨(RX9, TX9, 60), rfl, rfl, rfl⟩
theorem fi9_39 : isFin RX9 9 39 := ⟨(RX9, TX9, 60), rfl, rfl, rfl⟩
theorem fi9_40 : isFin RX9 9 40 := ⟨(RX9, TX9, 60), rfl, rfl, rfl⟩
theorem fi9_41 : isFin RX9 9 41 := ⟨(RX9, TX9, 60), rfl, rfl, rfl⟩
theorem fi9_42 : isFin RX9 9 42 := ⟨(RX9, TX9, 60), rfl, rfl, rfl⟩
theorem fi9_43 : isFin RX9 9 43 := ⟨(RX9, TX9, 60), rfl, rfl, rfl⟩
theorem fi9_44 : isFin RX9 9 44 := ⟨(RX9, TX9, 60), rfl, rfl, rfl⟩
theorem nf9_45 : noFin 9 45 := ⟨(RX9, TX9, 60), rfl, rfl⟩
theorem fi9_46 : isFin RX9 9 46 := ⟨(RX9, TX9, 60), rfl, rfl, rfl⟩
theorem fi9_47 : isFin RX9 9 47 := ⟨(RX9, TX9, 60), rfl, rfl, rfl⟩
theorem nf9_48 : noFin 9 48 := ⟨(RX9, TX9, 60), rfl, rfl⟩
theorem fi9_49 : isFin RX9 9 49 := ⟨(RX9, TX9, 60), rfl, rfl, rfl⟩
theorem fi9_50 : isFin RX9 9 50 := ⟨(RX9, TX9, 60), rfl, rfl, rfl⟩
theorem fi9_51 : isFin RX9 9 51 := ⟨(RX9, TX9, 60), rfl, rfl, rfl⟩
theorem fi9_52 : isFin RX9 9 52 := ⟨(RX9, TX9, 60), rfl, rfl, rfl⟩
theorem fi9_53 : isFin RX9 9 53 := ⟨(RX9, TX9, 60), rfl, rfl, rfl⟩
theorem nf9_54 : noFin 9 54 := ⟨(RX9, TX9, 60), rfl, rfl⟩
theorem nf9_55 : noFin 9 55 := ⟨(RX9, TX9, 60), rfl, rfl⟩
theorem nf9_56 : noFin 9 56 := ⟨(RX9, TX9, 60), rfl, rfl⟩
theorem nf9_57 : noFin 9 57 := ⟨(RX9, TX9, 60), rfl, rfl⟩
end
/-! part 05c.words -/
section
theorem fi9_58 : isFin RX9 9 58 := ⟨(RX9, TX9, 60), rfl, rfl, rfl⟩
theorem nf9_59 : noFin 9 59 := ⟨(RX9, TX9, 60), rfl, rfl⟩
set_option maxRecDepth 100000 in
theorem cl_L_8 : Cond.classLink RL 8 "PieceFiles" ∈ ALLW := (ALLW_c1 23 rfl rfl)
abbrev df8 : List Value := [.null, .null, .null, .null, .null, .null, .null, .null, .null, .int 0, .int 0, .int 0, .int 0, .int 0]
theorem dfok8 : ∀ j, j < 14 → defaultValue (tyX8 j) = vp_V df8 j := by
  intro j hj
  have h : ∀ k : Fin 14, defaultValue (tyX8 k) = vp_V df8 k := by decide +kernel
  exact h ⟨j, hj⟩
set_option maxRecDepth 100000 in
theorem nw_L_8 : NW RL 8 8 df8 := ⟨(RX8, TX8, 14), tyX8, rfl, uw8, tyX8_ok, cl_L_8, (ALLW_c1 24 rfl rfl), (ALLW_c1 1 rfl rfl), dfok8, fun _ => rfl, rfl⟩
set_option maxRecDepth 100000 in
theorem cl_X8_7 : Cond.classLink RX8 7 "PieceFiles$Row" ∈ ALLW := (ALLW_c1 31 rfl rfl)
abbrev df5 : List Value := [.null, .int 0]
theorem dfok5 : ∀ j, j < 2 → defaultValue (tyX5 j) = vp_V df5 j := by
  intro j hj
  have h : ∀ k : Fin 2, defaultValue (tyX5 k) = vp_V df5 k := by decide +kernel
  exact h ⟨j, hj⟩
set_option maxRecDepth 100000 in
theorem nw_X8_7 : NW RX8 7 5 df5 := ⟨(RX5, TX5, 2), tyX5, rfl, uw5, tyX5_ok, cl_X8_7, (ALLW_c1 32 rfl rfl), (ALLW_c1 2 rfl rfl), dfok5, fun _ => rfl, rfl⟩
set_option maxRecDepth 100000 in
theorem cl_X8_18 : Cond.classLink RX8 18 "PieceFiles$State" ∈ ALLW := (ALLW_c1 45 rfl rfl)
abbrev df7 : List Value := [.null, .int 0, .int 0, .int 0, .int 0, .int 0, .null, .int 0, .null, .null]
theorem dfok7 : ∀ j, j < 10 → defaultValue (tyX7 j) = vp_V df7 j := by
  intro j hj
  have h : ∀ k : Fin 10, defaultValue (tyX7 k) = vp_V df7 k := by decide +kernel
  exact h ⟨j, hj⟩
set_option maxRecDepth 100000 in
theorem nw_X8_18 : NW RX8 18 7 df7 := ⟨(RX7, TX7, 10), tyX7, rfl, uw7, tyX7_ok, cl_X8_18, (ALLW_c1 46 rfl rfl), (ALLW_c1 3 rfl rfl), dfok7, fun _ => rfl, rfl⟩
set_option maxRecDepth 100000 in
theorem cl_X7_9 : Cond.classLink RX7 9 "PieceFiles$Row" ∈ ALLW := (ALLW_c1 51 rfl rfl)
set_option maxRecDepth 100000 in
theorem nw_X7_9 : NW RX7 9 5 df5 := ⟨(RX5, TX5, 2), tyX5, rfl, uw5, tyX5_ok, cl_X7_9, (ALLW_c1 32 rfl rfl), (ALLW_c1 2 rfl rfl), dfok5, fun _ => rfl, rfl⟩
set_option maxRecDepth 100000 in
theorem cl_X8_35 : Cond.classLink RX8 35 "PieceFiles$Cut" ∈ ALLW := (ALLW_c1 101 rfl rfl)
abbrev df1 : List Value := [.null, .null, .null, .int 0, .null, .null, .null, .null]
theorem dfok1 : ∀ j, j < 8 → defaultValue (tyX1 j) = vp_V df1 j := by
  intro j hj
  have h : ∀ k : Fin 8, defaultValue (tyX1 k) = vp_V df1 k := by decide +kernel
  exact h ⟨j, hj⟩
set_option maxRecDepth 100000 in
theorem nw_X8_35 : NW RX8 35 1 df1 := ⟨(RX1, TX1, 8), tyX1, rfl, uw1, tyX1_ok, cl_X8_35, (ALLW_c1 102 rfl rfl), (ALLW_c1 4 rfl rfl), dfok1, fun _ => rfl, rfl⟩
set_option maxRecDepth 100000 in
theorem cl_X1_9 : Cond.classLink RX1 9 "PieceFiles$Row" ∈ ALLW := (ALLW_c1 107 rfl rfl)
set_option maxRecDepth 100000 in
theorem nw_X1_9 : NW RX1 9 5 df5 := ⟨(RX5, TX5, 2), tyX5, rfl, uw5, tyX5_ok, cl_X1_9, (ALLW_c1 32 rfl rfl), (ALLW_c1 2 rfl rfl), dfok5, fun _ => rfl, rfl⟩
set_option maxRecDepth 100000 in
theorem cl_X1_29 : Cond.classLink RX1 29 "PieceFiles$Scan" ∈ ALLW := (ALLW_c1 109 rfl rfl)
abbrev df6 : List Value := [.null, .int 0, .int 0, .int 0, .int 0, .int 0, .int 0, .int 0, .int 0, .int 0]
theorem dfok6 : ∀ j, j < 10 → defaultValue (tyX6 j) = vp_V df6 j := by
  intro j hj
  have h : ∀ k : Fin 10, defaultValue (tyX6 k) = vp_V df6 k := by decide +kernel
  exact h ⟨j, hj⟩
set_option maxRecDepth 100000 in
theorem nw_X1_29 : NW RX1 29 6 df6 := ⟨(RX6, TX6, 10), tyX6, rfl, uw6, tyX6_ok, cl_X1_29, (ALLW_c1 110 rfl rfl), (ALLW_c1 5 rfl rfl), dfok6, fun _ => rfl, rfl⟩
set_option maxRecDepth 100000 in
theorem cl_X6_9 : Cond.classLink RX6 9 "PieceFiles$Row" ∈ ALLW := (ALLW_c1 115 rfl rfl)
set_option maxRecDepth 100000 in
theorem nw_X6_9 : NW RX6 9 5 df5 := ⟨(RX5, TX5, 2), tyX5, rfl, uw5, tyX5_ok, cl_X6_9, (ALLW_c1 32 rfl rfl), (ALLW_c1 2 rfl rfl), dfok5, fun _ => rfl, rfl⟩
set_option maxRecDepth 100000 in
theorem cl_X1_39 : Cond.classLink RX1 39 "PieceFiles$Piece" ∈ ALLW := (ALLW_c1 158 rfl rfl)
abbrev df3 : List Value := [.int 0, .int 0, .int 0, .int 0, .int 0, .int 0, .int 0, .int 0, .int 0, .int 0, .int 0, .int 0]
theorem dfok3 : ∀ j, j < 12 → defaultValue (tyX3 j) = vp_V df3 j := by
  intro j hj
  have h : ∀ k : Fin 12, defaultValue (tyX3 k) = vp_V df3 k := by decide +kernel
  exact h ⟨j, hj⟩
set_option maxRecDepth 100000 in
theorem nw_X1_39 : NW RX1 39 3 df3 := ⟨(RX3, TX3, 12), tyX3, rfl, uw3, tyX3_ok, cl_X1_39, (ALLW_c1 160 rfl rfl), (ALLW_c1 6 rfl rfl), dfok3, fun _ => rfl, rfl⟩
set_option maxRecDepth 100000 in
theorem cl_X8_45 : Cond.classLink RX8 45 "PieceFiles$Build" ∈ ALLW := (ALLW_c2 4 rfl rfl)
abbrev df0 : List Value := [.null, .null, .null, .int 0]
theorem dfok0 : ∀ j, j < 4 → defaultValue (tyX0 j) = vp_V df0 j := by
  intro j hj
  have h : ∀ k : Fin 4, defaultValue (tyX0 k) = vp_V df0 k := by decide +kernel
  exact h ⟨j, hj⟩
set_option maxRecDepth 100000 in
theorem nw_X8_45 : NW RX8 45 0 df0 := ⟨(RX0, TX0, 4), tyX0, rfl, uw0, tyX0_ok, cl_X8_45, (ALLW_c2 5 rfl rfl), (ALLW_c1 7 rfl rfl), dfok0, fun _ => rfl, rfl⟩
set_option maxRecDepth 100000 in
theorem cl_X0_9 : Cond.classLink RX0 9 "PieceFiles$Row" ∈ ALLW := (ALLW_c2 10 rfl rfl)
set_option maxRecDepth 100000 in
theorem nw_X0_9 : NW RX0 9 5 df5 := ⟨(RX5, TX5, 2), tyX5, rfl, uw5, tyX5_ok, cl_X0_9, (ALLW_c1 32 rfl rfl), (ALLW_c1 2 rfl rfl), dfok5, fun _ => rfl, rfl⟩
set_option maxRecDepth 100000 in
theorem cl_X8_52 : Cond.classLink RX8 52 "PieceFiles$Reader" ∈ ALLW := (ALLW_c2 27 rfl rfl)
abbrev df4 : List Value := [.int 0, .int 0, .int 0, .int 0, .int 0, .null, .int 0, .null]
theorem dfok4 : ∀ j, j < 8 → defaultValue (tyX4 j) = vp_V df4 j := by
  intro j hj
  have h : ∀ k : Fin 8, defaultValue (tyX4 k) = vp_V df4 k := by decide +kernel
  exact h ⟨j, hj⟩
set_option maxRecDepth 100000 in
theorem nw_X8_52 : NW RX8 52 4 df4 := ⟨(RX4, TX4, 8), tyX4, rfl, uw4, tyX4_ok, cl_X8_52, (ALLW_c2 28 rfl rfl), (ALLW_c1 8 rfl rfl), dfok4, fun _ => rfl, rfl⟩
set_option maxRecDepth 100000 in
theorem cl_X4_9 : Cond.classLink RX4 9 "PieceFiles$Row" ∈ ALLW := (ALLW_c2 33 rfl rfl)
set_option maxRecDepth 100000 in
theorem nw_X4_9 : NW RX4 9 5 df5 := ⟨(RX5, TX5, 2), tyX5, rfl, uw5, tyX5_ok, cl_X4_9, (ALLW_c1 32 rfl rfl), (ALLW_c1 2 rfl rfl), dfok5, fun _ => rfl, rfl⟩
set_option maxRecDepth 100000 in
theorem cl_X5_10 : Cond.classLink RX5 10 "PieceFiles$Row" ∈ ALLW := (ALLW_c2 149 rfl rfl)
set_option maxRecDepth 100000 in
theorem nw_X5_10 : NW RX5 10 5 df5 := ⟨(RX5, TX5, 2), tyX5, rfl, uw5, tyX5_ok, cl_X5_10, (ALLW_c1 32 rfl rfl), (ALLW_c1 2 rfl rfl), dfok5, fun _ => rfl, rfl⟩
set_option maxRecDepth 100000 in
theorem cl_X7_51 : Cond.classLink RX7 51 "PieceFiles$Pair" ∈ ALLW := (ALLW_c3 139 rfl rfl)
abbrev df2 : List Value := [.null, .null, .null]
theorem dfok2 : ∀ j, j < 3 → defaultValue (tyX2 j) = vp_V df2 j := by
  intro j hj
  have h : ∀ k : Fin 3, defaultValue (tyX2 k) = vp_V df2 k := by decide +kernel
  exact h ⟨j, hj⟩
set_option maxRecDepth 100000 in
theorem nw_X7_51 : NW RX7 51 2 df2 := ⟨(RX2, TX2, 3), tyX2, rfl, uw2, tyX2_ok, cl_X7_51, (ALLW_c3 140 rfl rfl), (ALLW_c1 15 rfl rfl), dfok2, fun _ => rfl, rfl⟩
set_option maxRecDepth 100000 in
theorem cl_X8_170 : Cond.classLink RX8 170 "java/lang/IllegalStateException" ∈ ALLW := (ALLW_c3 169 rfl rfl)
set_option maxRecDepth 100000 in
theorem cl_L_13 : Cond.classLink RL 13 "java/lang/IllegalArgumentException" ∈ ALLW := (ALLW_c4 76 rfl rfl)
set_option maxRecDepth 100000 in
theorem cl_X8_116 : Cond.classLink RX8 116 "java/lang/IllegalArgumentException" ∈ ALLW := (ALLW_c4 188 rfl rfl)
set_option maxRecDepth 100000 in
theorem cl_L_23 : Cond.classLink RL 23 "java/util/NoSuchElementException" ∈ ALLW := (ALLW_c4 215 rfl rfl)
set_option maxRecDepth 100000 in
theorem cl_X8_142 : Cond.classLink RX8 142 "java/util/NoSuchElementException" ∈ ALLW := (ALLW_c4 220 rfl rfl)
set_option maxRecDepth 100000 in
theorem cl_L_28 : Cond.classLink RL 28 "java/lang/IllegalStateException" ∈ ALLW := (ALLW_c5 0 rfl rfl)
set_option maxRecDepth 100000 in
theorem cl_L_52 : Cond.classLink RL 52 "java/lang/IndexOutOfBoundsException" ∈ ALLW := (ALLW_c5 69 rfl rfl)
set_option maxRecDepth 100000 in
theorem cl_X8_321 : Cond.classLink RX8 321 "java/lang/IndexOutOfBoundsException" ∈ ALLW := (ALLW_c5 78 rfl rfl)
set_option maxRecDepth 100000 in
theorem cl_L_79 : Cond.classLink RL 79 "PieceFilesModel" ∈ ALLW := (ALLW_c5 177 rfl rfl)
abbrev df9 : List Value := [.int 0, .null, .null, .null, .null, .int 0, .int 0, .int 0, .null, .int 0, .int 0, .int 0, .int 0, .null, .null, .null, .int 0, .null, .null, .null, .null, .null, .int 0, .null, .null, .null, .int 0, .null, .null, .null, .null, .null, .null, .int 0, .null, .null, .null, .null, .null, .null, .null, .null, .null, .null, .null, .int 0, .null, .null, .int 0, .null, .null, .null, .null, .null, .int 0, .int 0, .int 0, .int 0, .null, .int 0]
theorem dfok9 : ∀ j, j < 60 → defaultValue (tyX9 j) = vp_V df9 j := by
  intro j hj
  have h : ∀ k : Fin 60, defaultValue (tyX9 k) = vp_V df9 k := by decide +kernel
  exact h ⟨j, hj⟩
set_option maxRecDepth 100000 in
theorem nw_L_79 : NW RL 79 9 df9 := ⟨(RX9, TX9, 60), tyX9, rfl, uw9, tyX9_ok, cl_L_79, (ALLW_c5 178 rfl rfl), (ALLW_c1 9 rfl rfl), dfok9, fun _ => rfl, rfl⟩
set_option maxRecDepth 100000 in
theorem ac_int : Cond.arrayClass .int ∈ ALLW := (ALLW_c1 44 rfl rfl)
set_option maxRecDepth 100000 in
theorem ac_long : Cond.arrayClass .long ∈ ALLW := (ALLW_c8 91 rfl rfl)
set_option maxRecDepth 100000 in
theorem oi2 : Cond.instanceMethod Lib.objectInit ∈ ALLW := (ALLW_c1 29 rfl rfl)
set_option maxRecDepth 100000 in
theorem oi3 : Cond.code Lib.objectInit ⟨#[0xb1]⟩ 1 none ∈ ALLW := (ALLW_c1 30 rfl rfl)
set_option maxRecDepth 100000 in
theorem k_X8_init : Cond.code yX8_init cX8_init 2 none ∈ ALLW := (ALLW_c1 27 rfl rfl)
set_option maxRecDepth 100000 in
theorem k_X5_init : Cond.code yX5_init cX5_init 2 none ∈ ALLW := (ALLW_c1 35 rfl rfl)
set_option maxRecDepth 100000 in
theorem k_X7_init : Cond.code yX7_init cX7_init 1 none ∈ ALLW := (ALLW_c1 49 rfl rfl)
set_option maxRecDepth 100000 in
theorem k_X1_init : Cond.code yX1_init cX1_init 2 none ∈ ALLW := (ALLW_c1 105 rfl rfl)
set_option maxRecDepth 100000 in
theorem k_X6_init : Cond.code yX6_init cX6_init 1 none ∈ ALLW := (ALLW_c1 113 rfl rfl)
set_option maxRecDepth 100000 in
theorem k_X3_init : Cond.code yX3_init cX3_init 1 none ∈ ALLW := (ALLW_c1 163 rfl rfl)
set_option maxRecDepth 100000 in
theorem k_X0_init : Cond.code yX0_init cX0_init 1 none ∈ ALLW := (ALLW_c2 8 rfl rfl)
set_option maxRecDepth 100000 in
theorem k_X4_init : Cond.code yX4_init cX4_init 1 none ∈ ALLW := (ALLW_c2 31 rfl rfl)
set_option maxRecDepth 100000 in
theorem k_X8_feed : Cond.code yX8_feed cX8_feed 6 (some .int) ∈ ALLW := (ALLW_c2 112 rfl rfl)
set_option maxRecDepth 100000 in
theorem k_X5_size : Cond.code yX5_size cX5_size 1 (some .int) ∈ ALLW := (ALLW_c2 116 rfl rfl)
set_option maxRecDepth 100000 in
theorem k_X8_addFour : Cond.code yX8_addFour cX8_addFour 3 none ∈ ALLW := (ALLW_c2 120 rfl rfl)
set_option maxRecDepth 100000 in
theorem k_X5_add : Cond.code yX5_add cX5_add 2 (some .boolean) ∈ ALLW := (ALLW_c2 124 rfl rfl)
set_option maxRecDepth 100000 in
theorem k_X8_end : Cond.code yX8_end cX8_end 2 (some .boolean) ∈ ALLW := (ALLW_c2 128 rfl rfl)
set_option maxRecDepth 100000 in
theorem k_X5_cutTo : Cond.code yX5_cutTo cX5_cutTo 2 none ∈ ALLW := (ALLW_c2 132 rfl rfl)
set_option maxRecDepth 100000 in
theorem k_X8_fault : Cond.code yX8_fault cX8_fault 1 (some .int) ∈ ALLW := (ALLW_c2 136 rfl rfl)
set_option maxRecDepth 100000 in
theorem k_X8_why : Cond.code yX8_why cX8_why 1 (some .int) ∈ ALLW := (ALLW_c2 140 rfl rfl)
set_option maxRecDepth 100000 in
theorem k_X8_file : Cond.code yX8_file cX8_file 1 (some .int) ∈ ALLW := (ALLW_c2 144 rfl rfl)
set_option maxRecDepth 100000 in
theorem k_X5_part : Cond.code yX5_part cX5_part 4 (some (.object "PieceFiles$Row")) ∈ ALLW := (ALLW_c2 148 rfl rfl)
set_option maxRecDepth 100000 in
theorem k_X5_addPart : Cond.code yX5_addPart cX5_addPart 6 (some .boolean) ∈ ALLW := (ALLW_c2 154 rfl rfl)
set_option maxRecDepth 100000 in
theorem k_X5_get : Cond.code yX5_get cX5_get 2 (some .int) ∈ ALLW := (ALLW_c2 158 rfl rfl)
set_option maxRecDepth 100000 in
theorem k_X8_cutAnew : Cond.code yX8_cutAnew cX8_cutAnew 1 (some .int) ∈ ALLW := (ALLW_c2 163 rfl rfl)
set_option maxRecDepth 100000 in
theorem k_X7_forgetTold : Cond.code yX7_forgetTold cX7_forgetTold 2 none ∈ ALLW := (ALLW_c2 167 rfl rfl)
set_option maxRecDepth 100000 in
theorem k_X1_find : Cond.code yX1_find cX1_find 5 none ∈ ALLW := (ALLW_c2 171 rfl rfl)
set_option maxRecDepth 100000 in
theorem k_X6_start : Cond.code yX6_start cX6_start 3 none ∈ ALLW := (ALLW_c2 176 rfl rfl)
set_option maxRecDepth 100000 in
theorem k_X6_next : Cond.code yX6_next cX6_next 2 (some .boolean) ∈ ALLW := (ALLW_c2 180 rfl rfl)
set_option maxRecDepth 100000 in
theorem k_X6_tryLine : Cond.code yX6_tryLine cX6_tryLine 5 none ∈ ALLW := (ALLW_c2 185 rfl rfl)
set_option maxRecDepth 100000 in
theorem k_X5_next : Cond.code yX5_next cX5_next 5 (some .int) ∈ ALLW := (ALLW_c2 189 rfl rfl)
set_option maxRecDepth 100000 in
theorem k_X5_behindBlanks : Cond.code yX5_behindBlanks cX5_behindBlanks 4 (some .int) ∈ ALLW := (ALLW_c2 193 rfl rfl)
set_option maxRecDepth 100000 in
theorem k_X6_tryCell : Cond.code yX6_tryCell cX6_tryCell 1 none ∈ ALLW := (ALLW_c2 198 rfl rfl)
set_option maxRecDepth 100000 in
theorem k_X5_cellQuoteEnd : Cond.code yX5_cellQuoteEnd cX5_cellQuoteEnd 4 (some .int) ∈ ALLW := (ALLW_c2 202 rfl rfl)
set_option maxRecDepth 100000 in
theorem k_X5_cellEnd : Cond.code yX5_cellEnd cX5_cellEnd 3 (some .int) ∈ ALLW := (ALLW_c2 206 rfl rfl)
set_option maxRecDepth 100000 in
theorem k_X6_tryMarkup : Cond.code yX6_tryMarkup cX6_tryMarkup 3 none ∈ ALLW := (ALLW_c2 210 rfl rfl)
set_option maxRecDepth 100000 in
theorem k_X5_behindSpace : Cond.code yX5_behindSpace cX5_behindSpace 4 (some .int) ∈ ALLW := (ALLW_c2 214 rfl rfl)
set_option maxRecDepth 100000 in
theorem k_X6_tryQuotes : Cond.code yX6_tryQuotes cX6_tryQuotes 1 none ∈ ALLW := (ALLW_c2 218 rfl rfl)
set_option maxRecDepth 100000 in
theorem k_X5_quoteEnd : Cond.code yX5_quoteEnd cX5_quoteEnd 4 (some .int) ∈ ALLW := (ALLW_c2 222 rfl rfl)
set_option maxRecDepth 100000 in
theorem k_X7_isLocked : Cond.code yX7_isLocked cX7_isLocked 4 (some .boolean) ∈ ALLW := (ALLW_c2 226 rfl rfl)
set_option maxRecDepth 100000 in
theorem k_X5_isSame : Cond.code yX5_isSame cX5_isSame 6 (some .boolean) ∈ ALLW := (ALLW_c2 231 rfl rfl)
set_option maxRecDepth 100000 in
theorem k_X1_readOuter : Cond.code yX1_readOuter cX1_readOuter 4 none ∈ ALLW := (ALLW_c2 236 rfl rfl)
set_option maxRecDepth 100000 in
theorem k_X6_read : Cond.code yX6_read cX6_read 2 none ∈ ALLW := (ALLW_c3 0 rfl rfl)
set_option maxRecDepth 100000 in
theorem k_X6_readMarkup : Cond.code yX6_readMarkup cX6_readMarkup 3 none ∈ ALLW := (ALLW_c3 4 rfl rfl)
set_option maxRecDepth 100000 in
theorem k_X6_readBack : Cond.code yX6_readBack cX6_readBack 3 none ∈ ALLW := (ALLW_c3 8 rfl rfl)
set_option maxRecDepth 100000 in
theorem k_J9_max_7cf53 : Cond.code yJ9_max_7cf53 cJ9_max_7cf53 2 (some .int) ∈ ALLW := (ALLW_c3 12 rfl rfl)
set_option maxRecDepth 100000 in
theorem k_X1_settle : Cond.code yX1_settle cX1_settle 7 none ∈ ALLW := (ALLW_c3 16 rfl rfl)
set_option maxRecDepth 100000 in
theorem k_X5_hasLetter : Cond.code yX5_hasLetter cX5_hasLetter 3 (some .boolean) ∈ ALLW := (ALLW_c3 20 rfl rfl)
set_option maxRecDepth 100000 in
theorem k_X8_isLetter : Cond.code yX8_isLetter cX8_isLetter 1 (some .boolean) ∈ ALLW := (ALLW_c3 23 rfl rfl)
set_option maxRecDepth 100000 in
theorem k_X1_takeWithin : Cond.code yX1_takeWithin cX1_takeWithin 5 none ∈ ALLW := (ALLW_c3 27 rfl rfl)
set_option maxRecDepth 100000 in
theorem k_X0_make : Cond.code yX0_make cX0_make 8 (some .boolean) ∈ ALLW := (ALLW_c3 32 rfl rfl)
set_option maxRecDepth 100000 in
theorem k_X1_size : Cond.code yX1_size cX1_size 1 (some .int) ∈ ALLW := (ALLW_c3 37 rfl rfl)
set_option maxRecDepth 100000 in
theorem k_X1_get : Cond.code yX1_get cX1_get 2 (some (.object "PieceFiles$Piece")) ∈ ALLW := (ALLW_c3 41 rfl rfl)
set_option maxRecDepth 100000 in
theorem k_X7_toldFor : Cond.code yX7_toldFor cX7_toldFor 2 (some (.object "PieceFiles$Row")) ∈ ALLW := (ALLW_c3 47 rfl rfl)
set_option maxRecDepth 100000 in
theorem k_X0_escape : Cond.code yX0_escape cX0_escape 6 (some .boolean) ∈ ALLW := (ALLW_c3 51 rfl rfl)
set_option maxRecDepth 100000 in
theorem k_X5_breaksCell : Cond.code yX5_breaksCell cX5_breaksCell 2 (some .boolean) ∈ ALLW := (ALLW_c3 55 rfl rfl)
set_option maxRecDepth 100000 in
theorem k_X0_addEscaped : Cond.code yX0_addEscaped cX0_addEscaped 6 none ∈ ALLW := (ALLW_c3 59 rfl rfl)
set_option maxRecDepth 100000 in
theorem k_X0_addInLine : Cond.code yX0_addInLine cX0_addInLine 3 none ∈ ALLW := (ALLW_c3 63 rfl rfl)
set_option maxRecDepth 100000 in
theorem k_X0_addDoubled : Cond.code yX0_addDoubled cX0_addDoubled 2 none ∈ ALLW := (ALLW_c3 66 rfl rfl)
set_option maxRecDepth 100000 in
theorem k_X0_addInMarkup : Cond.code yX0_addInMarkup cX0_addInMarkup 2 none ∈ ALLW := (ALLW_c3 69 rfl rfl)
set_option maxRecDepth 100000 in
theorem k_X0_addInQuotes : Cond.code yX0_addInQuotes cX0_addInQuotes 2 none ∈ ALLW := (ALLW_c3 72 rfl rfl)
set_option maxRecDepth 100000 in
theorem k_X8_unlock : Cond.code yX8_unlock cX8_unlock 1 (some .int) ∈ ALLW := (ALLW_c3 77 rfl rfl)
set_option maxRecDepth 100000 in
theorem k_X7_copyFrom : Cond.code yX7_copyFrom cX7_copyFrom 3 none ∈ ALLW := (ALLW_c3 81 rfl rfl)
set_option maxRecDepth 100000 in
theorem k_X8_doAct : Cond.code yX8_doAct cX8_doAct 6 (some .int) ∈ ALLW := (ALLW_c3 85 rfl rfl)
set_option maxRecDepth 100000 in
theorem k_X7_addLock : Cond.code yX7_addLock cX7_addLock 4 (some .int) ∈ ALLW := (ALLW_c3 89 rfl rfl)
set_option maxRecDepth 100000 in
theorem k_X8_freePiece : Cond.code yX8_freePiece cX8_freePiece 2 (some .int) ∈ ALLW := (ALLW_c3 93 rfl rfl)
set_option maxRecDepth 100000 in
theorem k_X7_setTold : Cond.code yX7_setTold cX7_setTold 3 none ∈ ALLW := (ALLW_c3 99 rfl rfl)
set_option maxRecDepth 100000 in
theorem k_X8_spreadPiece : Cond.code yX8_spreadPiece cX8_spreadPiece 4 (some .int) ∈ ALLW := (ALLW_c3 103 rfl rfl)
set_option maxRecDepth 100000 in
theorem k_X1_areLike : Cond.code yX1_areLike cX1_areLike 5 (some .boolean) ∈ ALLW := (ALLW_c3 107 rfl rfl)
set_option maxRecDepth 100000 in
theorem k_X8_swapPieces : Cond.code yX8_swapPieces cX8_swapPieces 7 (some .int) ∈ ALLW := (ALLW_c3 114 rfl rfl)
set_option maxRecDepth 100000 in
theorem k_X8_nowSize : Cond.code yX8_nowSize cX8_nowSize 4 (some .int) ∈ ALLW := (ALLW_c3 118 rfl rfl)
set_option maxRecDepth 100000 in
theorem k_X8_copyOfNow : Cond.code yX8_copyOfNow cX8_copyOfNow 4 (some (.object "PieceFiles$Row")) ∈ ALLW := (ALLW_c3 122 rfl rfl)
set_option maxRecDepth 100000 in
theorem k_X8_wipePieces : Cond.code yX8_wipePieces cX8_wipePieces 1 (some .int) ∈ ALLW := (ALLW_c3 126 rfl rfl)
set_option maxRecDepth 100000 in
theorem k_X7_toldCount : Cond.code yX7_toldCount cX7_toldCount 3 (some .int) ∈ ALLW := (ALLW_c3 130 rfl rfl)
set_option maxRecDepth 100000 in
theorem k_X8_tellPiece : Cond.code yX8_tellPiece cX8_tellPiece 4 (some .int) ∈ ALLW := (ALLW_c3 134 rfl rfl)
set_option maxRecDepth 100000 in
theorem k_X7_addPair : Cond.code yX7_addPair cX7_addPair 3 none ∈ ALLW := (ALLW_c3 138 rfl rfl)
set_option maxRecDepth 100000 in
theorem k_X2_init : Cond.code yX2_init cX2_init 4 none ∈ ALLW := (ALLW_c3 143 rfl rfl)
set_option maxRecDepth 100000 in
theorem k_J9_min_7cf53 : Cond.code yJ9_min_7cf53 cJ9_min_7cf53 2 (some .int) ∈ ALLW := (ALLW_c3 160 rfl rfl)
set_option maxRecDepth 100000 in
theorem k_X8_finishCall : Cond.code yX8_finishCall cX8_finishCall 2 none ∈ ALLW := (ALLW_c3 164 rfl rfl)
set_option maxRecDepth 100000 in
theorem k_X8_restore : Cond.code yX8_restore cX8_restore 2 none ∈ ALLW := (ALLW_c3 168 rfl rfl)
set_option maxRecDepth 100000 in
theorem k_X8_rememberAhead : Cond.code yX8_rememberAhead cX8_rememberAhead 1 none ∈ ALLW := (ALLW_c4 1 rfl rfl)
set_option maxRecDepth 100000 in
theorem k_X8_forgetOldest : Cond.code yX8_forgetOldest cX8_forgetOldest 4 none ∈ ALLW := (ALLW_c4 5 rfl rfl)
set_option maxRecDepth 100000 in
theorem k_X8_holder : Cond.code yX8_holder cX8_holder 4 (some .int) ∈ ALLW := (ALLW_c4 9 rfl rfl)
set_option maxRecDepth 100000 in
theorem k_X8_at : Cond.code yX8_at cX8_at 3 (some .int) ∈ ALLW := (ALLW_c4 13 rfl rfl)
set_option maxRecDepth 100000 in
theorem k_X8_memory : Cond.code yX8_memory cX8_memory 6 (some .int) ∈ ALLW := (ALLW_c4 18 rfl rfl)
set_option maxRecDepth 100000 in
theorem k_X8_twice : Cond.code yX8_twice cX8_twice 4 (some .boolean) ∈ ALLW := (ALLW_c4 22 rfl rfl)
set_option maxRecDepth 100000 in
theorem k_X8_cutAgain : Cond.code yX8_cutAgain cX8_cutAgain 1 none ∈ ALLW := (ALLW_c4 26 rfl rfl)
set_option maxRecDepth 100000 in
theorem k_X8_isNow : Cond.code yX8_isNow cX8_isNow 5 (some .boolean) ∈ ALLW := (ALLW_c4 30 rfl rfl)
set_option maxRecDepth 100000 in
theorem k_X8_image : Cond.code yX8_image cX8_image 1 none ∈ ALLW := (ALLW_c4 35 rfl rfl)
set_option maxRecDepth 100000 in
theorem k_X8_back : Cond.code yX8_back cX8_back 1 (some .boolean) ∈ ALLW := (ALLW_c4 39 rfl rfl)
set_option maxRecDepth 100000 in
theorem k_X8_count : Cond.code yX8_count cX8_count 2 (some .int) ∈ ALLW := (ALLW_c4 43 rfl rfl)
set_option maxRecDepth 100000 in
theorem k_X1_bytesInPieces : Cond.code yX1_bytesInPieces cX1_bytesInPieces 4 (some .int) ∈ ALLW := (ALLW_c4 47 rfl rfl)
set_option maxRecDepth 100000 in
theorem k_X1_unlikeCount : Cond.code yX1_unlikeCount cX1_unlikeCount 3 (some .int) ∈ ALLW := (ALLW_c4 51 rfl rfl)
set_option maxRecDepth 100000 in
theorem k_X1_hasLikeAhead : Cond.code yX1_hasLikeAhead cX1_hasLikeAhead 3 (some .boolean) ∈ ALLW := (ALLW_c4 55 rfl rfl)
set_option maxRecDepth 100000 in
theorem k_X8_countAllWords : Cond.code yX8_countAllWords cX8_countAllWords 4 (some .int) ∈ ALLW := (ALLW_c4 60 rfl rfl)
set_option maxRecDepth 100000 in
theorem k_X8_countWords : Cond.code yX8_countWords cX8_countWords 4 (some .int) ∈ ALLW := (ALLW_c4 64 rfl rfl)
set_option maxRecDepth 100000 in
theorem k_X5_countWords : Cond.code yX5_countWords cX5_countWords 7 (some .int) ∈ ALLW := (ALLW_c4 68 rfl rfl)
set_option maxRecDepth 100000 in
theorem k_X1_longestText : Cond.code yX1_longestText cX1_longestText 4 (some .int) ∈ ALLW := (ALLW_c4 72 rfl rfl)
-- yL_acts (Option.some Jvm.ClassFile.FieldType.int) [((0 : Nat), (8 : Nat), (11 : Nat), (13 : Nat))]
set_option maxRecDepth 100000 in
theorem k_X8_acts : Cond.code yX8_acts cX8_acts 6 (some .int) ∈ ALLW := (ALLW_c4 80 rfl rfl)
set_option maxRecDepth 100000 in
theorem k_X4_start : Cond.code yX4_start cX4_start 2 none ∈ ALLW := (ALLW_c4 84 rfl rfl)
set_option maxRecDepth 100000 in
theorem k_X4_readAct : Cond.code yX4_readAct cX4_readAct 3 (some .int) ∈ ALLW := (ALLW_c4 90 rfl rfl)
set_option maxRecDepth 100000 in
theorem k_X4_lettersEnd : Cond.code yX4_lettersEnd cX4_lettersEnd 2 (some .int) ∈ ALLW := (ALLW_c4 94 rfl rfl)
set_option maxRecDepth 100000 in
theorem k_X4_actNamed : Cond.code yX4_actNamed cX4_actNamed 4 (some .int) ∈ ALLW := (ALLW_c4 99 rfl rfl)
set_option maxRecDepth 100000 in
theorem k_X4_nameOf : Cond.code yX4_nameOf cX4_nameOf 1 (some (.object "java/lang/String")) ∈ ALLW := (ALLW_c4 102 rfl rfl)
set_option maxRecDepth 100000 in
theorem k_X5_isText : Cond.code yX5_isText cX5_isText 5 (some .boolean) ∈ ALLW := (ALLW_c4 118 rfl rfl)
set_option maxRecDepth 100000 in
theorem k_J0_length_8abf5 : Cond.code yJ0_length_8abf5 cJ0_length_8abf5 1 (some .int) ∈ ALLW := (ALLW_c4 122 rfl rfl)
set_option maxRecDepth 100000 in
theorem k_J0_coder_7d493 : Cond.code yJ0_coder_7d493 cJ0_coder_7d493 1 (some .byte) ∈ ALLW := (ALLW_c4 126 rfl rfl)
end
/-! part 05d.words -/
section
set_option maxRecDepth 100000 in
theorem k_J0_charAt_5068e : Cond.code yJ0_charAt_5068e cJ0_charAt_5068e 2 (some .char) ∈ ALLW := (ALLW_c4 132 rfl rfl)
set_option maxRecDepth 100000 in
theorem k_J0_isLatin1_aae02 : Cond.code yJ0_isLatin1_aae02 cJ0_isLatin1_aae02 1 (some .boolean) ∈ ALLW := (ALLW_c4 136 rfl rfl)
set_option maxRecDepth 100000 in
theorem k_J1_charAt_3b067 : Cond.code yJ1_charAt_3b067 cJ1_charAt_3b067 2 (some .char) ∈ ALLW := (ALLW_c4 139 rfl rfl)
set_option maxRecDepth 100000 in
theorem k_J0_checkIndex_df160 : Cond.code yJ0_checkIndex_df160 cJ0_checkIndex_df160 2 none ∈ ALLW := (ALLW_c4 142 rfl rfl)
set_option maxRecDepth 100000 in
theorem k_J3_checkIndex_8e157 : Cond.code yJ3_checkIndex_8e157 cJ3_checkIndex_8e157 3 (some .int) ∈ ALLW := (ALLW_c4 147 rfl rfl)
set_option maxRecDepth 100000 in
theorem k_J2_charAt_3b067 : Cond.code yJ2_charAt_3b067 cJ2_charAt_3b067 2 (some .char) ∈ ALLW := (ALLW_c4 150 rfl rfl)
set_option maxRecDepth 100000 in
theorem k_J2_checkIndex_2214a : Cond.code yJ2_checkIndex_2214a cJ2_checkIndex_2214a 2 none ∈ ALLW := (ALLW_c4 153 rfl rfl)
set_option maxRecDepth 100000 in
theorem k_J2_length_9d52b : Cond.code yJ2_length_9d52b cJ2_length_9d52b 1 (some .int) ∈ ALLW := (ALLW_c4 156 rfl rfl)
set_option maxRecDepth 100000 in
theorem k_J2_getChar_3b067 : Cond.code yJ2_getChar_3b067 cJ2_getChar_3b067 2 (some .char) ∈ ALLW := (ALLW_c4 160 rfl rfl)
set_option maxRecDepth 100000 in
theorem k_X4_readFirst : Cond.code yX4_readFirst cX4_readFirst 4 (some .int) ∈ ALLW := (ALLW_c4 170 rfl rfl)
set_option maxRecDepth 100000 in
theorem k_X4_readNumber : Cond.code yX4_readNumber cX4_readNumber 6 (some .int) ∈ ALLW := (ALLW_c4 174 rfl rfl)
set_option maxRecDepth 100000 in
theorem k_X4_readSecond : Cond.code yX4_readSecond cX4_readSecond 2 (some .int) ∈ ALLW := (ALLW_c4 178 rfl rfl)
set_option maxRecDepth 100000 in
theorem k_X4_readWord : Cond.code yX4_readWord cX4_readWord 3 (some .int) ∈ ALLW := (ALLW_c4 182 rfl rfl)
set_option maxRecDepth 100000 in
theorem k_X4_readBehindAct : Cond.code yX4_readBehindAct cX4_readBehindAct 1 (some .int) ∈ ALLW := (ALLW_c4 187 rfl rfl)
-- yL_kind (Option.some Jvm.ClassFile.FieldType.int) [((0 : Nat), (10 : Nat), (13 : Nat), (13 : Nat))]
set_option maxRecDepth 100000 in
theorem k_X8_kind : Cond.code yX8_kind cX8_kind 3 (some .int) ∈ ALLW := (ALLW_c4 210 rfl rfl)
-- yL_rule (Option.some Jvm.ClassFile.FieldType.int) [((0 : Nat), (10 : Nat), (13 : Nat), (23 : Nat)), ((0 : Nat), (10 : Nat), (17 : Nat), (13 : Nat))]
set_option maxRecDepth 100000 in
theorem k_X8_rule : Cond.code yX8_rule cX8_rule 3 (some .int) ∈ ALLW := (ALLW_c4 219 rfl rfl)
-- yL_lock (Option.some Jvm.ClassFile.FieldType.int) [((0 : Nat), (8 : Nat), (11 : Nat), (13 : Nat)), ((0 : Nat), (8 : Nat), (14 : Nat), (28 : Nat))]
set_option maxRecDepth 100000 in
theorem k_X8_lock : Cond.code yX8_lock cX8_lock 2 (some .int) ∈ ALLW := (ALLW_c5 4 rfl rfl)
set_option maxRecDepth 100000 in
theorem k_X8_takeWord : Cond.code yX8_takeWord cX8_takeWord 2 (some (.object "PieceFiles$Row")) ∈ ALLW := (ALLW_c5 8 rfl rfl)
set_option maxRecDepth 100000 in
theorem k_X5_isWord : Cond.code yX5_isWord cX5_isWord 2 (some .boolean) ∈ ALLW := (ALLW_c5 12 rfl rfl)
-- yL_tell (Option.some Jvm.ClassFile.FieldType.int) [((0 : Nat), (9 : Nat), (12 : Nat), (13 : Nat)), ((0 : Nat), (9 : Nat), (15 : Nat), (28 : Nat))]
set_option maxRecDepth 100000 in
theorem k_X8_tell : Cond.code yX8_tell cX8_tell 3 (some .int) ∈ ALLW := (ALLW_c5 20 rfl rfl)
set_option maxRecDepth 100000 in
theorem k_X8_takeTold : Cond.code yX8_takeTold cX8_takeTold 2 (some (.object "PieceFiles$Row")) ∈ ALLW := (ALLW_c5 24 rfl rfl)
-- yL_free (Option.some Jvm.ClassFile.FieldType.int) [((0 : Nat), (9 : Nat), (12 : Nat), (28 : Nat))]
set_option maxRecDepth 100000 in
theorem k_X8_free : Cond.code yX8_free cX8_free 2 (some .int) ∈ ALLW := (ALLW_c5 32 rfl rfl)
-- yL_spread (Option.some Jvm.ClassFile.FieldType.int) [((0 : Nat), (9 : Nat), (12 : Nat), (28 : Nat))]
set_option maxRecDepth 100000 in
theorem k_X8_spread : Cond.code yX8_spread cX8_spread 2 (some .int) ∈ ALLW := (ALLW_c5 39 rfl rfl)
set_option maxRecDepth 100000 in
theorem k_X1_likeCount : Cond.code yX1_likeCount cX1_likeCount 4 (some .int) ∈ ALLW := (ALLW_c5 43 rfl rfl)
-- yL_swap (Option.some Jvm.ClassFile.FieldType.int) [((0 : Nat), (10 : Nat), (13 : Nat), (28 : Nat))]
set_option maxRecDepth 100000 in
theorem k_X8_swap : Cond.code yX8_swap cX8_swap 3 (some .int) ∈ ALLW := (ALLW_c5 50 rfl rfl)
-- yL_wipe (Option.some Jvm.ClassFile.FieldType.int) [((0 : Nat), (8 : Nat), (11 : Nat), (28 : Nat))]
set_option maxRecDepth 100000 in
theorem k_X8_wipe : Cond.code yX8_wipe cX8_wipe 2 (some .int) ∈ ALLW := (ALLW_c5 57 rfl rfl)
-- yL_undo (Option.some Jvm.ClassFile.FieldType.int) [((0 : Nat), (8 : Nat), (11 : Nat), (28 : Nat))]
set_option maxRecDepth 100000 in
theorem k_X8_undo : Cond.code yX8_undo cX8_undo 1 (some .int) ∈ ALLW := (ALLW_c5 64 rfl rfl)
-- yL_piece (Option.some Jvm.ClassFile.FieldType.int) [((0 : Nat), (10 : Nat), (13 : Nat), (52 : Nat)), ((0 : Nat), (10 : Nat), (17 : Nat), (23 : Nat))]
set_option maxRecDepth 100000 in
theorem k_X8_piece : Cond.code yX8_piece cX8_piece 4 (some .int) ∈ ALLW := (ALLW_c5 73 rfl rfl)
set_option maxRecDepth 100000 in
theorem k_X8_pieceOrThrow : Cond.code yX8_pieceOrThrow cX8_pieceOrThrow 3 (some (.object "PieceFiles$Piece")) ∈ ALLW := (ALLW_c5 77 rfl rfl)
set_option maxRecDepth 100000 in
theorem k_X8_knownPair : Cond.code yX8_knownPair cX8_knownPair 4 (some .int) ∈ ALLW := (ALLW_c5 97 rfl rfl)
-- yL_octet (Option.some Jvm.ClassFile.FieldType.int) [((0 : Nat), (12 : Nat), (15 : Nat), (52 : Nat))]
set_option maxRecDepth 100000 in
theorem k_X8_octet : Cond.code yX8_octet cX8_octet 5 (some .int) ∈ ALLW := (ALLW_c5 105 rfl rfl)
set_option maxRecDepth 100000 in
theorem k_X8_nowByte : Cond.code yX8_nowByte cX8_nowByte 5 (some .int) ∈ ALLW := (ALLW_c5 109 rfl rfl)
set_option maxRecDepth 100000 in
theorem k_X1_textByte : Cond.code yX1_textByte cX1_textByte 3 (some .int) ∈ ALLW := (ALLW_c5 113 rfl rfl)
-- yL_origin (Option.some Jvm.ClassFile.FieldType.int) [((0 : Nat), (10 : Nat), (13 : Nat), (52 : Nat))]
set_option maxRecDepth 100000 in
theorem k_X8_origin : Cond.code yX8_origin cX8_origin 4 (some .int) ∈ ALLW := (ALLW_c5 120 rfl rfl)
-- yL_key (Option.some Jvm.ClassFile.FieldType.int) [((0 : Nat), (10 : Nat), (13 : Nat), (52 : Nat)), ((0 : Nat), (10 : Nat), (17 : Nat), (23 : Nat))]
set_option maxRecDepth 100000 in
theorem k_X8_key : Cond.code yX8_key cX8_key 4 (some .int) ∈ ALLW := (ALLW_c5 127 rfl rfl)
-- yL_like (Option.some Jvm.ClassFile.FieldType.int) [((0 : Nat), (10 : Nat), (13 : Nat), (52 : Nat))]
set_option maxRecDepth 100000 in
theorem k_X8_like : Cond.code yX8_like cX8_like 5 (some .int) ∈ ALLW := (ALLW_c5 135 rfl rfl)
-- yL_would (Option.some Jvm.ClassFile.FieldType.int) [((0 : Nat), (9 : Nat), (12 : Nat), (52 : Nat)), ((0 : Nat), (9 : Nat), (15 : Nat), (13 : Nat))]
set_option maxRecDepth 100000 in
theorem k_X8_would : Cond.code yX8_would cX8_would 4 (some .int) ∈ ALLW := (ALLW_c5 142 rfl rfl)
-- yL_found (Option.some Jvm.ClassFile.FieldType.int) [((0 : Nat), (7 : Nat), (10 : Nat), (13 : Nat))]
set_option maxRecDepth 100000 in
theorem k_X8_found : Cond.code yX8_found cX8_found 5 (some .long) ∈ ALLW := (ALLW_c5 149 rfl rfl)
set_option maxRecDepth 100000 in
theorem k_X8_hasWord : Cond.code yX8_hasWord cX8_hasWord 5 (some .boolean) ∈ ALLW := (ALLW_c5 153 rfl rfl)
set_option maxRecDepth 100000 in
theorem k_X5_hasWord : Cond.code yX5_hasWord cX5_hasWord 5 (some .boolean) ∈ ALLW := (ALLW_c5 157 rfl rfl)
set_option maxRecDepth 100000 in
theorem k_X5_hasSmall : Cond.code yX5_hasSmall cX5_hasSmall 4 (some .boolean) ∈ ALLW := (ALLW_c5 162 rfl rfl)
set_option maxRecDepth 100000 in
theorem k_X8_smallLetter : Cond.code yX8_smallLetter cX8_smallLetter 1 (some .int) ∈ ALLW := (ALLW_c5 165 rfl rfl)
-- yL_kept (Option.some Jvm.ClassFile.FieldType.int) [((0 : Nat), (16 : Nat), (19 : Nat), (52 : Nat))]
set_option maxRecDepth 100000 in
theorem k_X8_kept : Cond.code yX8_kept cX8_kept 5 (some .boolean) ∈ ALLW := (ALLW_c5 172 rfl rfl)
set_option maxRecDepth 100000 in
theorem k_X3_mayBeginInBuilt : Cond.code yX3_mayBeginInBuilt cX3_mayBeginInBuilt 2 (some .boolean) ∈ ALLW := (ALLW_c5 176 rfl rfl)
set_option maxRecDepth 100000 in
theorem k_X9_init : Cond.code yX9_init cX9_init 2 none ∈ ALLW := (ALLW_c5 181 rfl rfl)
set_option maxRecDepth 100000 in
theorem k_X9_thrown : Cond.code yX9_thrown cX9_thrown 1 (some .int) ∈ ALLW := (ALLW_c6 127 rfl rfl)
set_option maxRecDepth 100000 in
theorem k_X9_feed : Cond.code yX9_feed cX9_feed 8 (some .int) ∈ ALLW := (ALLW_c6 131 rfl rfl)
set_option maxRecDepth 100000 in
theorem k_X9_end : Cond.code yX9_end cX9_end 2 (some .boolean) ∈ ALLW := (ALLW_c6 135 rfl rfl)
set_option maxRecDepth 100000 in
theorem k_X9_isIn : Cond.code yX9_isIn cX9_isIn 3 (some .boolean) ∈ ALLW := (ALLW_c6 138 rfl rfl)
set_option maxRecDepth 100000 in
theorem k_X9_acts : Cond.code yX9_acts cX9_acts 4 (some .int) ∈ ALLW := (ALLW_c6 142 rfl rfl)
set_option maxRecDepth 100000 in
theorem k_X9_putsAside : Cond.code yX9_putsAside cX9_putsAside 2 none ∈ ALLW := (ALLW_c6 146 rfl rfl)
set_option maxRecDepth 100000 in
theorem k_X9_here : Cond.code yX9_here cX9_here 1 (some .int) ∈ ALLW := (ALLW_c6 150 rfl rfl)
set_option maxRecDepth 100000 in
theorem k_X9_wrong : Cond.code yX9_wrong cX9_wrong 2 none ∈ ALLW := (ALLW_c6 154 rfl rfl)
set_option maxRecDepth 100000 in
theorem k_X9_act : Cond.code yX9_act cX9_act 3 (some .int) ∈ ALLW := (ALLW_c6 158 rfl rfl)
set_option maxRecDepth 100000 in
theorem k_X9_has : Cond.code yX9_has cX9_has 4 (some .boolean) ∈ ALLW := (ALLW_c6 163 rfl rfl)
set_option maxRecDepth 100000 in
theorem k_X9_wordEnd : Cond.code yX9_wordEnd cX9_wordEnd 2 (some .int) ∈ ALLW := (ALLW_c6 167 rfl rfl)
set_option maxRecDepth 100000 in
theorem k_X9_ruleText : Cond.code yX9_ruleText cX9_ruleText 5 (some .int) ∈ ALLW := (ALLW_c6 173 rfl rfl)
set_option maxRecDepth 100000 in
theorem k_X9_number : Cond.code yX9_number cX9_number 5 (some .int) ∈ ALLW := (ALLW_c6 177 rfl rfl)
set_option maxRecDepth 100000 in
theorem k_X9_rules : Cond.code yX9_rules cX9_rules 3 (some .int) ∈ ALLW := (ALLW_c6 181 rfl rfl)
set_option maxRecDepth 100000 in
theorem k_X9_cutsAnew : Cond.code yX9_cutsAnew cX9_cutsAnew 2 none ∈ ALLW := (ALLW_c6 185 rfl rfl)
set_option maxRecDepth 100000 in
theorem k_X9_cutsFile : Cond.code yX9_cutsFile cX9_cutsFile 2 none ∈ ALLW := (ALLW_c6 189 rfl rfl)
set_option maxRecDepth 100000 in
theorem k_X9_cutsAll : Cond.code yX9_cutsAll cX9_cutsAll 5 none ∈ ALLW := (ALLW_c6 193 rfl rfl)
set_option maxRecDepth 100000 in
theorem k_X9_cuts : Cond.code yX9_cuts cX9_cuts 7 (some .int) ∈ ALLW := (ALLW_c6 197 rfl rfl)
set_option maxRecDepth 100000 in
theorem k_X9_cutsLines : Cond.code yX9_cutsLines cX9_cutsLines 13 none ∈ ALLW := (ALLW_c6 201 rfl rfl)
set_option maxRecDepth 100000 in
theorem k_X9_endOf : Cond.code yX9_endOf cX9_endOf 6 (some .int) ∈ ALLW := (ALLW_c6 204 rfl rfl)
set_option maxRecDepth 100000 in
theorem k_X9_finds : Cond.code yX9_finds cX9_finds 7 none ∈ ALLW := (ALLW_c6 208 rfl rfl)
set_option maxRecDepth 100000 in
theorem k_X9_cutsTable : Cond.code yX9_cutsTable cX9_cutsTable 9 none ∈ ALLW := (ALLW_c6 212 rfl rfl)
set_option maxRecDepth 100000 in
theorem k_X9_cutsMarkup : Cond.code yX9_cutsMarkup cX9_cutsMarkup 10 none ∈ ALLW := (ALLW_c6 216 rfl rfl)
set_option maxRecDepth 100000 in
theorem k_X9_isBare : Cond.code yX9_isBare cX9_isBare 1 (some .boolean) ∈ ALLW := (ALLW_c6 219 rfl rfl)
set_option maxRecDepth 100000 in
theorem k_X9_cutsQuotes : Cond.code yX9_cutsQuotes cX9_cutsQuotes 9 none ∈ ALLW := (ALLW_c6 223 rfl rfl)
set_option maxRecDepth 100000 in
theorem k_X9_undoes : Cond.code yX9_undoes cX9_undoes 14 (some .int) ∈ ALLW := (ALLW_c6 227 rfl rfl)
set_option maxRecDepth 100000 in
theorem k_X9_means : Cond.code yX9_means cX9_means 7 (some .int) ∈ ALLW := (ALLW_c6 231 rfl rfl)
set_option maxRecDepth 100000 in
theorem k_X9_stands : Cond.code yX9_stands cX9_stands 5 (some .boolean) ∈ ALLW := (ALLW_c6 235 rfl rfl)
set_option maxRecDepth 100000 in
theorem k_X9_backMeaning : Cond.code yX9_backMeaning cX9_backMeaning 3 (some .int) ∈ ALLW := (ALLW_c7 1 rfl rfl)
set_option maxRecDepth 100000 in
theorem k_X9_takes : Cond.code yX9_takes cX9_takes 10 none ∈ ALLW := (ALLW_c7 5 rfl rfl)
set_option maxRecDepth 100000 in
theorem k_X9_isLocked : Cond.code yX9_isLocked cX9_isLocked 6 (some .boolean) ∈ ALLW := (ALLW_c7 9 rfl rfl)
set_option maxRecDepth 100000 in
theorem k_X9_isPiece : Cond.code yX9_isPiece cX9_isPiece 4 (some .boolean) ∈ ALLW := (ALLW_c7 13 rfl rfl)
set_option maxRecDepth 100000 in
theorem k_X9_isLetter : Cond.code yX9_isLetter cX9_isLetter 1 (some .boolean) ∈ ALLW := (ALLW_c7 16 rfl rfl)
set_option maxRecDepth 100000 in
theorem k_X9_lockText : Cond.code yX9_lockText cX9_lockText 4 (some .int) ∈ ALLW := (ALLW_c7 26 rfl rfl)
set_option maxRecDepth 100000 in
theorem k_X9_lock0 : Cond.code yX9_lock0 cX9_lock0 6 (some .int) ∈ ALLW := (ALLW_c7 30 rfl rfl)
set_option maxRecDepth 100000 in
theorem k_X9_unlocks : Cond.code yX9_unlocks cX9_unlocks 1 (some .int) ∈ ALLW := (ALLW_c7 35 rfl rfl)
set_option maxRecDepth 100000 in
theorem k_X9_pieceText : Cond.code yX9_pieceText cX9_pieceText 3 (some .int) ∈ ALLW := (ALLW_c7 40 rfl rfl)
set_option maxRecDepth 100000 in
theorem k_X9_free0 : Cond.code yX9_free0 cX9_free0 2 (some .int) ∈ ALLW := (ALLW_c7 44 rfl rfl)
set_option maxRecDepth 100000 in
theorem k_X9_isPieceThere : Cond.code yX9_isPieceThere cX9_isPieceThere 2 (some .boolean) ∈ ALLW := (ALLW_c7 48 rfl rfl)
set_option maxRecDepth 100000 in
theorem k_X9_toldOf : Cond.code yX9_toldOf cX9_toldOf 2 (some .int) ∈ ALLW := (ALLW_c7 52 rfl rfl)
set_option maxRecDepth 100000 in
theorem k_X9_builtMany : Cond.code yX9_builtMany cX9_builtMany 3 (some .int) ∈ ALLW := (ALLW_c7 56 rfl rfl)
set_option maxRecDepth 100000 in
theorem k_X9_builtOf : Cond.code yX9_builtOf cX9_builtOf 2 (some .int) ∈ ALLW := (ALLW_c7 60 rfl rfl)
set_option maxRecDepth 100000 in
theorem k_X9_holdsTold : Cond.code yX9_holdsTold cX9_holdsTold 3 none ∈ ALLW := (ALLW_c7 64 rfl rfl)
set_option maxRecDepth 100000 in
theorem k_X9_toldAt : Cond.code yX9_toldAt cX9_toldAt 3 (some .int) ∈ ALLW := (ALLW_c7 68 rfl rfl)
set_option maxRecDepth 100000 in
theorem k_X9_escapedFor : Cond.code yX9_escapedFor cX9_escapedFor 4 (some .int) ∈ ALLW := (ALLW_c7 72 rfl rfl)
set_option maxRecDepth 100000 in
theorem k_X9_escapes : Cond.code yX9_escapes cX9_escapes 9 (some .int) ∈ ALLW := (ALLW_c7 76 rfl rfl)
set_option maxRecDepth 100000 in
theorem k_X9_hasSign : Cond.code yX9_hasSign cX9_hasSign 3 (some .boolean) ∈ ALLW := (ALLW_c7 79 rfl rfl)
set_option maxRecDepth 100000 in
theorem k_X9_plain : Cond.code yX9_plain cX9_plain 3 none ∈ ALLW := (ALLW_c7 83 rfl rfl)
set_option maxRecDepth 100000 in
theorem k_X9_escapesMarkup : Cond.code yX9_escapesMarkup cX9_escapesMarkup 3 none ∈ ALLW := (ALLW_c7 87 rfl rfl)
set_option maxRecDepth 100000 in
theorem k_X9_word : Cond.code yX9_word cX9_word 4 none ∈ ALLW := (ALLW_c7 91 rfl rfl)
set_option maxRecDepth 100000 in
theorem k_X9_escapesBack : Cond.code yX9_escapesBack cX9_escapesBack 5 none ∈ ALLW := (ALLW_c7 95 rfl rfl)
set_option maxRecDepth 100000 in
theorem k_X9_puts : Cond.code yX9_puts cX9_puts 4 none ∈ ALLW := (ALLW_c7 99 rfl rfl)
set_option maxRecDepth 100000 in
theorem k_X9_spread0 : Cond.code yX9_spread0 cX9_spread0 4 (some .int) ∈ ALLW := (ALLW_c7 103 rfl rfl)
set_option maxRecDepth 100000 in
theorem k_X9_areLike : Cond.code yX9_areLike cX9_areLike 5 (some .boolean) ∈ ALLW := (ALLW_c7 107 rfl rfl)
set_option maxRecDepth 100000 in
theorem k_X9_tells : Cond.code yX9_tells cX9_tells 4 none ∈ ALLW := (ALLW_c7 111 rfl rfl)
set_option maxRecDepth 100000 in
theorem k_X9_swapText : Cond.code yX9_swapText cX9_swapText 3 (some .int) ∈ ALLW := (ALLW_c7 117 rfl rfl)
set_option maxRecDepth 100000 in
theorem k_X9_swap0 : Cond.code yX9_swap0 cX9_swap0 6 (some .int) ∈ ALLW := (ALLW_c7 121 rfl rfl)
set_option maxRecDepth 100000 in
theorem k_X9_nowMany : Cond.code yX9_nowMany cX9_nowMany 2 (some .int) ∈ ALLW := (ALLW_c7 125 rfl rfl)
set_option maxRecDepth 100000 in
theorem k_X9_nowByte : Cond.code yX9_nowByte cX9_nowByte 3 (some .int) ∈ ALLW := (ALLW_c7 129 rfl rfl)
set_option maxRecDepth 100000 in
theorem k_X9_wipe0 : Cond.code yX9_wipe0 cX9_wipe0 2 (some .int) ∈ ALLW := (ALLW_c7 134 rfl rfl)
set_option maxRecDepth 100000 in
theorem k_X9_toldMany : Cond.code yX9_toldMany cX9_toldMany 3 (some .int) ∈ ALLW := (ALLW_c7 138 rfl rfl)
set_option maxRecDepth 100000 in
theorem k_X9_putsBack : Cond.code yX9_putsBack cX9_putsBack 2 none ∈ ALLW := (ALLW_c7 142 rfl rfl)
set_option maxRecDepth 100000 in
theorem k_X9_fault : Cond.code yX9_fault cX9_fault 1 (some .int) ∈ ALLW := (ALLW_c7 146 rfl rfl)
set_option maxRecDepth 100000 in
theorem k_X9_why : Cond.code yX9_why cX9_why 1 (some .int) ∈ ALLW := (ALLW_c7 150 rfl rfl)
set_option maxRecDepth 100000 in
theorem k_X9_file : Cond.code yX9_file cX9_file 3 (some .int) ∈ ALLW := (ALLW_c7 154 rfl rfl)
set_option maxRecDepth 100000 in
theorem k_X9_took : Cond.code yX9_took cX9_took 2 (some .int) ∈ ALLW := (ALLW_c7 158 rfl rfl)
set_option maxRecDepth 100000 in
theorem k_X9_kind : Cond.code yX9_kind cX9_kind 3 (some .int) ∈ ALLW := (ALLW_c7 162 rfl rfl)
set_option maxRecDepth 100000 in
theorem k_X9_isDone : Cond.code yX9_isDone cX9_isDone 3 (some .boolean) ∈ ALLW := (ALLW_c7 166 rfl rfl)
set_option maxRecDepth 100000 in
theorem k_X9_remembers : Cond.code yX9_remembers cX9_remembers 2 none ∈ ALLW := (ALLW_c7 170 rfl rfl)
set_option maxRecDepth 100000 in
theorem k_X9_rule : Cond.code yX9_rule cX9_rule 3 (some .int) ∈ ALLW := (ALLW_c7 174 rfl rfl)
set_option maxRecDepth 100000 in
theorem k_X9_lock : Cond.code yX9_lock cX9_lock 2 (some .int) ∈ ALLW := (ALLW_c7 178 rfl rfl)
set_option maxRecDepth 100000 in
theorem k_X9_isWord : Cond.code yX9_isWord cX9_isWord 4 (some .boolean) ∈ ALLW := (ALLW_c7 182 rfl rfl)
set_option maxRecDepth 100000 in
theorem k_X9_unlock : Cond.code yX9_unlock cX9_unlock 1 (some .int) ∈ ALLW := (ALLW_c7 186 rfl rfl)
set_option maxRecDepth 100000 in
theorem k_X9_tell : Cond.code yX9_tell cX9_tell 3 (some .int) ∈ ALLW := (ALLW_c7 190 rfl rfl)
set_option maxRecDepth 100000 in
theorem k_X9_tookTold : Cond.code yX9_tookTold cX9_tookTold 3 (some .int) ∈ ALLW := (ALLW_c7 194 rfl rfl)
set_option maxRecDepth 100000 in
theorem k_X9_tell0 : Cond.code yX9_tell0 cX9_tell0 3 (some .int) ∈ ALLW := (ALLW_c7 198 rfl rfl)
set_option maxRecDepth 100000 in
theorem k_X9_remembersPair : Cond.code yX9_remembersPair cX9_remembersPair 4 none ∈ ALLW := (ALLW_c7 202 rfl rfl)
set_option maxRecDepth 100000 in
theorem k_X9_free : Cond.code yX9_free cX9_free 2 (some .int) ∈ ALLW := (ALLW_c7 206 rfl rfl)
set_option maxRecDepth 100000 in
theorem k_X9_spread : Cond.code yX9_spread cX9_spread 2 (some .int) ∈ ALLW := (ALLW_c7 210 rfl rfl)
set_option maxRecDepth 100000 in
theorem k_X9_swap : Cond.code yX9_swap cX9_swap 3 (some .int) ∈ ALLW := (ALLW_c7 214 rfl rfl)
set_option maxRecDepth 100000 in
theorem k_X9_wipe : Cond.code yX9_wipe cX9_wipe 2 (some .int) ∈ ALLW := (ALLW_c7 218 rfl rfl)
set_option maxRecDepth 100000 in
theorem k_X9_undo : Cond.code yX9_undo cX9_undo 2 (some .int) ∈ ALLW := (ALLW_c7 222 rfl rfl)
set_option maxRecDepth 100000 in
theorem k_X9_piece : Cond.code yX9_piece cX9_piece 3 (some .int) ∈ ALLW := (ALLW_c7 226 rfl rfl)
set_option maxRecDepth 100000 in
theorem k_X9_likeMany : Cond.code yX9_likeMany cX9_likeMany 4 (some .int) ∈ ALLW := (ALLW_c7 230 rfl rfl)
set_option maxRecDepth 100000 in
theorem k_X9_wordsOf : Cond.code yX9_wordsOf cX9_wordsOf 4 (some .int) ∈ ALLW := (ALLW_c7 234 rfl rfl)
set_option maxRecDepth 100000 in
theorem k_X9_knownOf : Cond.code yX9_knownOf cX9_knownOf 6 (some .int) ∈ ALLW := (ALLW_c7 238 rfl rfl)
set_option maxRecDepth 100000 in
theorem k_X9_builtBegin : Cond.code yX9_builtBegin cX9_builtBegin 3 (some .int) ∈ ALLW := (ALLW_c8 2 rfl rfl)
set_option maxRecDepth 100000 in
theorem k_X9_builds : Cond.code yX9_builds cX9_builds 6 (some .int) ∈ ALLW := (ALLW_c8 6 rfl rfl)
set_option maxRecDepth 100000 in
theorem k_X9_octet : Cond.code yX9_octet cX9_octet 4 (some .int) ∈ ALLW := (ALLW_c8 10 rfl rfl)
set_option maxRecDepth 100000 in
theorem k_X9_origin : Cond.code yX9_origin cX9_origin 3 (some .int) ∈ ALLW := (ALLW_c8 14 rfl rfl)
set_option maxRecDepth 100000 in
theorem k_X9_key : Cond.code yX9_key cX9_key 3 (some .int) ∈ ALLW := (ALLW_c8 18 rfl rfl)
set_option maxRecDepth 100000 in
theorem k_X9_holder : Cond.code yX9_holder cX9_holder 3 (some .int) ∈ ALLW := (ALLW_c8 22 rfl rfl)
set_option maxRecDepth 100000 in
theorem k_X9_at : Cond.code yX9_at cX9_at 4 (some .int) ∈ ALLW := (ALLW_c8 26 rfl rfl)
set_option maxRecDepth 100000 in
theorem k_X9_like : Cond.code yX9_like cX9_like 5 (some .int) ∈ ALLW := (ALLW_c8 30 rfl rfl)
set_option maxRecDepth 100000 in
theorem k_X9_would : Cond.code yX9_would cX9_would 3 (some .int) ∈ ALLW := (ALLW_c8 34 rfl rfl)
set_option maxRecDepth 100000 in
theorem k_X9_found : Cond.code yX9_found cX9_found 5 (some .long) ∈ ALLW := (ALLW_c8 38 rfl rfl)
set_option maxRecDepth 100000 in
theorem k_X9_hasWord : Cond.code yX9_hasWord cX9_hasWord 7 (some .boolean) ∈ ALLW := (ALLW_c8 42 rfl rfl)
set_option maxRecDepth 100000 in
theorem k_X9_memory : Cond.code yX9_memory cX9_memory 5 (some .int) ∈ ALLW := (ALLW_c8 46 rfl rfl)
set_option maxRecDepth 100000 in
theorem k_X9_twice : Cond.code yX9_twice cX9_twice 3 (some .boolean) ∈ ALLW := (ALLW_c8 50 rfl rfl)
set_option maxRecDepth 100000 in
theorem k_X9_cutsBuilt : Cond.code yX9_cutsBuilt cX9_cutsBuilt 6 none ∈ ALLW := (ALLW_c8 54 rfl rfl)
set_option maxRecDepth 100000 in
theorem k_X9_isNow : Cond.code yX9_isNow cX9_isNow 5 (some .boolean) ∈ ALLW := (ALLW_c8 58 rfl rfl)
set_option maxRecDepth 100000 in
theorem k_X9_kept : Cond.code yX9_kept cX9_kept 5 (some .boolean) ∈ ALLW := (ALLW_c8 62 rfl rfl)
set_option maxRecDepth 100000 in
theorem k_X9_image : Cond.code yX9_image cX9_image 2 none ∈ ALLW := (ALLW_c8 66 rfl rfl)
set_option maxRecDepth 100000 in
theorem k_X9_back : Cond.code yX9_back cX9_back 2 (some .boolean) ∈ ALLW := (ALLW_c8 70 rfl rfl)
set_option maxRecDepth 100000 in
theorem k_X9_count : Cond.code yX9_count cX9_count 2 (some .int) ∈ ALLW := (ALLW_c8 74 rfl rfl)
set_option maxRecDepth 100000 in
theorem k_X9_skeleton : Cond.code yX9_skeleton cX9_skeleton 3 (some .int) ∈ ALLW := (ALLW_c8 78 rfl rfl)
set_option maxRecDepth 100000 in
theorem k_X9_unlikeTexts : Cond.code yX9_unlikeTexts cX9_unlikeTexts 5 (some .int) ∈ ALLW := (ALLW_c8 82 rfl rfl)
set_option maxRecDepth 100000 in
theorem k_X9_allWords : Cond.code yX9_allWords cX9_allWords 3 (some .int) ∈ ALLW := (ALLW_c8 86 rfl rfl)
end
/-! part 05e.words -/
section
set_option maxRecDepth 100000 in
theorem k_X9_longest : Cond.code yX9_longest cX9_longest 3 (some .int) ∈ ALLW := (ALLW_c8 90 rfl rfl)
set_option maxRecDepth 100000 in
theorem mi_L_78 : MI RL 78 yX8_init cX8_init 2 0 := ⟨(ALLW_c1 25 rfl rfl), (ALLW_c1 26 rfl rfl), (ALLW_c1 1 rfl rfl), k_X8_init, rfl, ⟨by decide +kernel, by decide +kernel, by decide +kernel⟩⟩
set_option maxRecDepth 100000 in
theorem oi_X8_1 : Cond.methodLink RX8 1 Lib.objectInit ∈ ALLW := (ALLW_c1 28 rfl rfl)
set_option maxRecDepth 100000 in
theorem mi_X8_11 : MI RX8 11 yX5_init cX5_init 2 1 := ⟨(ALLW_c1 33 rfl rfl), (ALLW_c1 34 rfl rfl), (ALLW_c1 2 rfl rfl), k_X5_init, rfl, ⟨by decide +kernel, by decide +kernel, by decide +kernel⟩⟩
set_option maxRecDepth 100000 in
theorem oi_X5_3 : Cond.methodLink RX5 3 Lib.objectInit ∈ ALLW := (ALLW_c1 36 rfl rfl)
set_option maxRecDepth 100000 in
theorem mi_X8_20 : MI RX8 20 yX7_init cX7_init 1 0 := ⟨(ALLW_c1 47 rfl rfl), (ALLW_c1 48 rfl rfl), (ALLW_c1 3 rfl rfl), k_X7_init, rfl, ⟨by decide +kernel, by decide +kernel, by decide +kernel⟩⟩
set_option maxRecDepth 100000 in
theorem oi_X7_3 : Cond.methodLink RX7 3 Lib.objectInit ∈ ALLW := (ALLW_c1 50 rfl rfl)
set_option maxRecDepth 100000 in
theorem mi_X7_11 : MI RX7 11 yX5_init cX5_init 2 1 := ⟨(ALLW_c1 52 rfl rfl), (ALLW_c1 34 rfl rfl), (ALLW_c1 2 rfl rfl), k_X5_init, rfl, ⟨by decide +kernel, by decide +kernel, by decide +kernel⟩⟩
set_option maxRecDepth 100000 in
theorem mi_X8_37 : MI RX8 37 yX1_init cX1_init 2 0 := ⟨(ALLW_c1 103 rfl rfl), (ALLW_c1 104 rfl rfl), (ALLW_c1 4 rfl rfl), k_X1_init, rfl, ⟨by decide +kernel, by decide +kernel, by decide +kernel⟩⟩
set_option maxRecDepth 100000 in
theorem oi_X1_3 : Cond.methodLink RX1 3 Lib.objectInit ∈ ALLW := (ALLW_c1 106 rfl rfl)
set_option maxRecDepth 100000 in
theorem mi_X1_11 : MI RX1 11 yX5_init cX5_init 2 1 := ⟨(ALLW_c1 108 rfl rfl), (ALLW_c1 34 rfl rfl), (ALLW_c1 2 rfl rfl), k_X5_init, rfl, ⟨by decide +kernel, by decide +kernel, by decide +kernel⟩⟩
set_option maxRecDepth 100000 in
theorem mi_X1_31 : MI RX1 31 yX6_init cX6_init 1 0 := ⟨(ALLW_c1 111 rfl rfl), (ALLW_c1 112 rfl rfl), (ALLW_c1 5 rfl rfl), k_X6_init, rfl, ⟨by decide +kernel, by decide +kernel, by decide +kernel⟩⟩
set_option maxRecDepth 100000 in
theorem oi_X6_3 : Cond.methodLink RX6 3 Lib.objectInit ∈ ALLW := (ALLW_c1 114 rfl rfl)
set_option maxRecDepth 100000 in
theorem mi_X6_11 : MI RX6 11 yX5_init cX5_init 2 1 := ⟨(ALLW_c1 116 rfl rfl), (ALLW_c1 34 rfl rfl), (ALLW_c1 2 rfl rfl), k_X5_init, rfl, ⟨by decide +kernel, by decide +kernel, by decide +kernel⟩⟩
set_option maxRecDepth 100000 in
theorem oi_X3_1 : Cond.methodLink RX3 1 Lib.objectInit ∈ ALLW := (ALLW_c1 164 rfl rfl)
set_option maxRecDepth 100000 in
theorem mi_X8_47 : MI RX8 47 yX0_init cX0_init 1 0 := ⟨(ALLW_c2 6 rfl rfl), (ALLW_c2 7 rfl rfl), (ALLW_c1 7 rfl rfl), k_X0_init, rfl, ⟨by decide +kernel, by decide +kernel, by decide +kernel⟩⟩
set_option maxRecDepth 100000 in
theorem oi_X0_3 : Cond.methodLink RX0 3 Lib.objectInit ∈ ALLW := (ALLW_c2 9 rfl rfl)
set_option maxRecDepth 100000 in
theorem mi_X0_11 : MI RX0 11 yX5_init cX5_init 2 1 := ⟨(ALLW_c2 11 rfl rfl), (ALLW_c1 34 rfl rfl), (ALLW_c1 2 rfl rfl), k_X5_init, rfl, ⟨by decide +kernel, by decide +kernel, by decide +kernel⟩⟩
set_option maxRecDepth 100000 in
theorem mi_X8_54 : MI RX8 54 yX4_init cX4_init 1 0 := ⟨(ALLW_c2 29 rfl rfl), (ALLW_c2 30 rfl rfl), (ALLW_c1 8 rfl rfl), k_X4_init, rfl, ⟨by decide +kernel, by decide +kernel, by decide +kernel⟩⟩
set_option maxRecDepth 100000 in
theorem oi_X4_3 : Cond.methodLink RX4 3 Lib.objectInit ∈ ALLW := (ALLW_c2 32 rfl rfl)
set_option maxRecDepth 100000 in
theorem mi_X4_11 : MI RX4 11 yX5_init cX5_init 2 1 := ⟨(ALLW_c2 34 rfl rfl), (ALLW_c1 34 rfl rfl), (ALLW_c1 2 rfl rfl), k_X5_init, rfl, ⟨by decide +kernel, by decide +kernel, by decide +kernel⟩⟩
set_option maxRecDepth 100000 in
theorem mv_L_82 : MV RL 82 yX8_feed cX8_feed 6 (some .int) 5 := ⟨(ALLW_c2 109 rfl rfl), (ALLW_c2 110 rfl rfl), (ALLW_c2 111 rfl rfl), (ALLW_c1 1 rfl rfl), k_X8_feed, ⟨by decide +kernel, by decide +kernel, by decide +kernel⟩⟩
set_option maxRecDepth 100000 in
theorem mv_X8_63 : MV RX8 63 yX5_size cX5_size 1 (some .int) 0 := ⟨(ALLW_c2 113 rfl rfl), (ALLW_c2 114 rfl rfl), (ALLW_c2 115 rfl rfl), (ALLW_c1 2 rfl rfl), k_X5_size, ⟨by decide +kernel, by decide +kernel, by decide +kernel⟩⟩
set_option maxRecDepth 100000 in
theorem mv_X8_67 : MV RX8 67 yX8_addFour cX8_addFour 3 none 1 := ⟨(ALLW_c2 117 rfl rfl), (ALLW_c2 119 rfl rfl), (ALLW_s 0 (by decide +kernel) (by decide +kernel)), (ALLW_c1 1 rfl rfl), k_X8_addFour, ⟨by decide +kernel, by decide +kernel, by decide +kernel⟩⟩
set_option maxRecDepth 100000 in
theorem mv_X8_314 : MV RX8 314 yX5_add cX5_add 2 (some .boolean) 1 := ⟨(ALLW_c2 121 rfl rfl), (ALLW_c2 122 rfl rfl), (ALLW_c2 123 rfl rfl), (ALLW_c1 2 rfl rfl), k_X5_add, ⟨by decide +kernel, by decide +kernel, by decide +kernel⟩⟩
set_option maxRecDepth 100000 in
theorem mv_L_87 : MV RL 87 yX8_end cX8_end 2 (some .boolean) 1 := ⟨(ALLW_c2 125 rfl rfl), (ALLW_c2 126 rfl rfl), (ALLW_c2 127 rfl rfl), (ALLW_c1 1 rfl rfl), k_X8_end, ⟨by decide +kernel, by decide +kernel, by decide +kernel⟩⟩
set_option maxRecDepth 100000 in
theorem mv_X8_70 : MV RX8 70 yX5_cutTo cX5_cutTo 2 none 1 := ⟨(ALLW_c2 129 rfl rfl), (ALLW_c2 130 rfl rfl), (ALLW_c2 131 rfl rfl), (ALLW_c1 2 rfl rfl), k_X5_cutTo, ⟨by decide +kernel, by decide +kernel, by decide +kernel⟩⟩
set_option maxRecDepth 100000 in
theorem mv_L_97 : MV RL 97 yX8_fault cX8_fault 1 (some .int) 0 := ⟨(ALLW_c2 133 rfl rfl), (ALLW_c2 134 rfl rfl), (ALLW_c2 135 rfl rfl), (ALLW_c1 1 rfl rfl), k_X8_fault, ⟨by decide +kernel, by decide +kernel, by decide +kernel⟩⟩
set_option maxRecDepth 100000 in
theorem mv_L_101 : MV RL 101 yX8_why cX8_why 1 (some .int) 0 := ⟨(ALLW_c2 137 rfl rfl), (ALLW_c2 138 rfl rfl), (ALLW_c2 139 rfl rfl), (ALLW_c1 1 rfl rfl), k_X8_why, ⟨by decide +kernel, by decide +kernel, by decide +kernel⟩⟩
set_option maxRecDepth 100000 in
theorem mv_L_105 : MV RL 105 yX8_file cX8_file 1 (some .int) 0 := ⟨(ALLW_c2 141 rfl rfl), (ALLW_c2 142 rfl rfl), (ALLW_c2 143 rfl rfl), (ALLW_c1 1 rfl rfl), k_X8_file, ⟨by decide +kernel, by decide +kernel, by decide +kernel⟩⟩
set_option maxRecDepth 100000 in
theorem mv_X8_126 : MV RX8 126 yX5_part cX5_part 4 (some (.object "PieceFiles$Row")) 2 := ⟨(ALLW_c2 145 rfl rfl), (ALLW_c2 146 rfl rfl), (ALLW_c2 147 rfl rfl), (ALLW_c1 2 rfl rfl), k_X5_part, ⟨by decide +kernel, by decide +kernel, by decide +kernel⟩⟩
set_option maxRecDepth 100000 in
theorem mi_X5_27 : MI RX5 27 yX5_init cX5_init 2 1 := ⟨(ALLW_c2 150 rfl rfl), (ALLW_c1 34 rfl rfl), (ALLW_c1 2 rfl rfl), k_X5_init, rfl, ⟨by decide +kernel, by decide +kernel, by decide +kernel⟩⟩
set_option maxRecDepth 100000 in
theorem mv_X5_30 : MV RX5 30 yX5_addPart cX5_addPart 6 (some .boolean) 3 := ⟨(ALLW_c2 151 rfl rfl), (ALLW_c2 152 rfl rfl), (ALLW_c2 153 rfl rfl), (ALLW_c1 2 rfl rfl), k_X5_addPart, ⟨by decide +kernel, by decide +kernel, by decide +kernel⟩⟩
set_option maxRecDepth 100000 in
theorem mv_X5_19 : MV RX5 19 yX5_get cX5_get 2 (some .int) 1 := ⟨(ALLW_c2 155 rfl rfl), (ALLW_c2 156 rfl rfl), (ALLW_c2 157 rfl rfl), (ALLW_c1 2 rfl rfl), k_X5_get, ⟨by decide +kernel, by decide +kernel, by decide +kernel⟩⟩
set_option maxRecDepth 100000 in
theorem mv_X5_23 : MV RX5 23 yX5_add cX5_add 2 (some .boolean) 1 := ⟨(ALLW_c2 159 rfl rfl), (ALLW_c2 122 rfl rfl), (ALLW_c2 123 rfl rfl), (ALLW_c1 2 rfl rfl), k_X5_add, ⟨by decide +kernel, by decide +kernel, by decide +kernel⟩⟩
set_option maxRecDepth 100000 in
theorem mv_X8_133 : MV RX8 133 yX8_cutAnew cX8_cutAnew 1 (some .int) 0 := ⟨(ALLW_c2 160 rfl rfl), (ALLW_c2 162 rfl rfl), (ALLW_s 1 (by decide +kernel) (by decide +kernel)), (ALLW_c1 1 rfl rfl), k_X8_cutAnew, ⟨by decide +kernel, by decide +kernel, by decide +kernel⟩⟩
set_option maxRecDepth 100000 in
theorem mv_X8_358 : MV RX8 358 yX7_forgetTold cX7_forgetTold 2 none 0 := ⟨(ALLW_c2 164 rfl rfl), (ALLW_c2 165 rfl rfl), (ALLW_c2 166 rfl rfl), (ALLW_c1 3 rfl rfl), k_X7_forgetTold, ⟨by decide +kernel, by decide +kernel, by decide +kernel⟩⟩
set_option maxRecDepth 100000 in
theorem mv_X8_361 : MV RX8 361 yX1_find cX1_find 5 none 2 := ⟨(ALLW_c2 168 rfl rfl), (ALLW_c2 169 rfl rfl), (ALLW_c2 170 rfl rfl), (ALLW_c1 4 rfl rfl), k_X1_find, ⟨by decide +kernel, by decide +kernel, by decide +kernel⟩⟩
set_option maxRecDepth 100000 in
theorem mv_X1_50 : MV RX1 50 yX5_cutTo cX5_cutTo 2 none 1 := ⟨(ALLW_c2 172 rfl rfl), (ALLW_c2 130 rfl rfl), (ALLW_c2 131 rfl rfl), (ALLW_c1 2 rfl rfl), k_X5_cutTo, ⟨by decide +kernel, by decide +kernel, by decide +kernel⟩⟩
set_option maxRecDepth 100000 in
theorem mv_X1_58 : MV RX1 58 yX6_start cX6_start 3 none 2 := ⟨(ALLW_c2 173 rfl rfl), (ALLW_c2 174 rfl rfl), (ALLW_c2 175 rfl rfl), (ALLW_c1 5 rfl rfl), k_X6_start, ⟨by decide +kernel, by decide +kernel, by decide +kernel⟩⟩
set_option maxRecDepth 100000 in
theorem mv_X1_62 : MV RX1 62 yX6_next cX6_next 2 (some .boolean) 0 := ⟨(ALLW_c2 177 rfl rfl), (ALLW_c2 178 rfl rfl), (ALLW_c2 179 rfl rfl), (ALLW_c1 5 rfl rfl), k_X6_next, ⟨by decide +kernel, by decide +kernel, by decide +kernel⟩⟩
set_option maxRecDepth 100000 in
theorem mv_X6_37 : MV RX6 37 yX5_size cX5_size 1 (some .int) 0 := ⟨(ALLW_c2 181 rfl rfl), (ALLW_c2 114 rfl rfl), (ALLW_c2 115 rfl rfl), (ALLW_c1 2 rfl rfl), k_X5_size, ⟨by decide +kernel, by decide +kernel, by decide +kernel⟩⟩
set_option maxRecDepth 100000 in
theorem mv_X6_41 : MV RX6 41 yX6_tryLine cX6_tryLine 5 none 0 := ⟨(ALLW_c2 182 rfl rfl), (ALLW_c2 184 rfl rfl), (ALLW_s 2 (by decide +kernel) (by decide +kernel)), (ALLW_c1 5 rfl rfl), k_X6_tryLine, ⟨by decide +kernel, by decide +kernel, by decide +kernel⟩⟩
set_option maxRecDepth 100000 in
theorem mv_X6_59 : MV RX6 59 yX5_next cX5_next 5 (some .int) 3 := ⟨(ALLW_c2 186 rfl rfl), (ALLW_c2 187 rfl rfl), (ALLW_c2 188 rfl rfl), (ALLW_c1 2 rfl rfl), k_X5_next, ⟨by decide +kernel, by decide +kernel, by decide +kernel⟩⟩
set_option maxRecDepth 100000 in
theorem mv_X6_63 : MV RX6 63 yX5_behindBlanks cX5_behindBlanks 4 (some .int) 2 := ⟨(ALLW_c2 190 rfl rfl), (ALLW_c2 191 rfl rfl), (ALLW_c2 192 rfl rfl), (ALLW_c1 2 rfl rfl), k_X5_behindBlanks, ⟨by decide +kernel, by decide +kernel, by decide +kernel⟩⟩
set_option maxRecDepth 100000 in
theorem mv_X6_67 : MV RX6 67 yX5_get cX5_get 2 (some .int) 1 := ⟨(ALLW_c2 194 rfl rfl), (ALLW_c2 156 rfl rfl), (ALLW_c2 157 rfl rfl), (ALLW_c1 2 rfl rfl), k_X5_get, ⟨by decide +kernel, by decide +kernel, by decide +kernel⟩⟩
set_option maxRecDepth 100000 in
theorem mv_X6_44 : MV RX6 44 yX6_tryCell cX6_tryCell 1 none 0 := ⟨(ALLW_c2 195 rfl rfl), (ALLW_c2 197 rfl rfl), (ALLW_s 3 (by decide +kernel) (by decide +kernel)), (ALLW_c1 5 rfl rfl), k_X6_tryCell, ⟨by decide +kernel, by decide +kernel, by decide +kernel⟩⟩
set_option maxRecDepth 100000 in
theorem mv_X6_71 : MV RX6 71 yX5_cellQuoteEnd cX5_cellQuoteEnd 4 (some .int) 1 := ⟨(ALLW_c2 199 rfl rfl), (ALLW_c2 200 rfl rfl), (ALLW_c2 201 rfl rfl), (ALLW_c1 2 rfl rfl), k_X5_cellQuoteEnd, ⟨by decide +kernel, by decide +kernel, by decide +kernel⟩⟩
set_option maxRecDepth 100000 in
theorem mv_X6_74 : MV RX6 74 yX5_cellEnd cX5_cellEnd 3 (some .int) 1 := ⟨(ALLW_c2 203 rfl rfl), (ALLW_c2 204 rfl rfl), (ALLW_c2 205 rfl rfl), (ALLW_c1 2 rfl rfl), k_X5_cellEnd, ⟨by decide +kernel, by decide +kernel, by decide +kernel⟩⟩
set_option maxRecDepth 100000 in
theorem mv_X6_47 : MV RX6 47 yX6_tryMarkup cX6_tryMarkup 3 none 0 := ⟨(ALLW_c2 207 rfl rfl), (ALLW_c2 209 rfl rfl), (ALLW_s 4 (by decide +kernel) (by decide +kernel)), (ALLW_c1 5 rfl rfl), k_X6_tryMarkup, ⟨by decide +kernel, by decide +kernel, by decide +kernel⟩⟩
set_option maxRecDepth 100000 in
theorem mv_X6_77 : MV RX6 77 yX5_behindSpace cX5_behindSpace 4 (some .int) 2 := ⟨(ALLW_c2 211 rfl rfl), (ALLW_c2 212 rfl rfl), (ALLW_c2 213 rfl rfl), (ALLW_c1 2 rfl rfl), k_X5_behindSpace, ⟨by decide +kernel, by decide +kernel, by decide +kernel⟩⟩
set_option maxRecDepth 100000 in
theorem mv_X6_50 : MV RX6 50 yX6_tryQuotes cX6_tryQuotes 1 none 0 := ⟨(ALLW_c2 215 rfl rfl), (ALLW_c2 217 rfl rfl), (ALLW_s 5 (by decide +kernel) (by decide +kernel)), (ALLW_c1 5 rfl rfl), k_X6_tryQuotes, ⟨by decide +kernel, by decide +kernel, by decide +kernel⟩⟩
set_option maxRecDepth 100000 in
theorem mv_X6_80 : MV RX6 80 yX5_quoteEnd cX5_quoteEnd 4 (some .int) 1 := ⟨(ALLW_c2 219 rfl rfl), (ALLW_c2 220 rfl rfl), (ALLW_c2 221 rfl rfl), (ALLW_c1 2 rfl rfl), k_X5_quoteEnd, ⟨by decide +kernel, by decide +kernel, by decide +kernel⟩⟩
set_option maxRecDepth 100000 in
theorem mv_X1_66 : MV RX1 66 yX7_isLocked cX7_isLocked 4 (some .boolean) 1 := ⟨(ALLW_c2 223 rfl rfl), (ALLW_c2 224 rfl rfl), (ALLW_c2 225 rfl rfl), (ALLW_c1 3 rfl rfl), k_X7_isLocked, ⟨by decide +kernel, by decide +kernel, by decide +kernel⟩⟩
set_option maxRecDepth 100000 in
theorem mv_X7_62 : MV RX7 62 yX5_size cX5_size 1 (some .int) 0 := ⟨(ALLW_c2 227 rfl rfl), (ALLW_c2 114 rfl rfl), (ALLW_c2 115 rfl rfl), (ALLW_c1 2 rfl rfl), k_X5_size, ⟨by decide +kernel, by decide +kernel, by decide +kernel⟩⟩
set_option maxRecDepth 100000 in
theorem mv_X7_66 : MV RX7 66 yX5_isSame cX5_isSame 6 (some .boolean) 4 := ⟨(ALLW_c2 228 rfl rfl), (ALLW_c2 229 rfl rfl), (ALLW_c2 230 rfl rfl), (ALLW_c1 2 rfl rfl), k_X5_isSame, ⟨by decide +kernel, by decide +kernel, by decide +kernel⟩⟩
set_option maxRecDepth 100000 in
theorem mv_X1_73 : MV RX1 73 yX5_size cX5_size 1 (some .int) 0 := ⟨(ALLW_c2 232 rfl rfl), (ALLW_c2 114 rfl rfl), (ALLW_c2 115 rfl rfl), (ALLW_c1 2 rfl rfl), k_X5_size, ⟨by decide +kernel, by decide +kernel, by decide +kernel⟩⟩
set_option maxRecDepth 100000 in
theorem mv_X1_77 : MV RX1 77 yX1_readOuter cX1_readOuter 4 none 2 := ⟨(ALLW_c2 233 rfl rfl), (ALLW_c2 235 rfl rfl), (ALLW_s 6 (by decide +kernel) (by decide +kernel)), (ALLW_c1 4 rfl rfl), k_X1_readOuter, ⟨by decide +kernel, by decide +kernel, by decide +kernel⟩⟩
set_option maxRecDepth 100000 in
theorem mv_X1_95 : MV RX1 95 yX6_read cX6_read 2 none 1 := ⟨(ALLW_c2 237 rfl rfl), (ALLW_c2 238 rfl rfl), (ALLW_c2 239 rfl rfl), (ALLW_c1 5 rfl rfl), k_X6_read, ⟨by decide +kernel, by decide +kernel, by decide +kernel⟩⟩
set_option maxRecDepth 100000 in
theorem mv_X6_89 : MV RX6 89 yX6_readMarkup cX6_readMarkup 3 none 1 := ⟨(ALLW_c3 1 rfl rfl), (ALLW_c3 3 rfl rfl), (ALLW_s 7 (by decide +kernel) (by decide +kernel)), (ALLW_c1 5 rfl rfl), k_X6_readMarkup, ⟨by decide +kernel, by decide +kernel, by decide +kernel⟩⟩
set_option maxRecDepth 100000 in
theorem mv_X6_92 : MV RX6 92 yX6_readBack cX6_readBack 3 none 1 := ⟨(ALLW_c3 5 rfl rfl), (ALLW_c3 7 rfl rfl), (ALLW_s 8 (by decide +kernel) (by decide +kernel)), (ALLW_c1 5 rfl rfl), k_X6_readBack, ⟨by decide +kernel, by decide +kernel, by decide +kernel⟩⟩
set_option maxRecDepth 100000 in
theorem mv_X1_101 : MV RX1 101 yX5_add cX5_add 2 (some .boolean) 1 := ⟨(ALLW_c3 9 rfl rfl), (ALLW_c2 122 rfl rfl), (ALLW_c2 123 rfl rfl), (ALLW_c1 2 rfl rfl), k_X5_add, ⟨by decide +kernel, by decide +kernel, by decide +kernel⟩⟩
set_option maxRecDepth 100000 in
theorem ms_X1_108 : MS RX1 108 yJ9_max_7cf53 cJ9_max_7cf53 2 (some .int) 2 := ⟨(ALLW_c3 10 rfl rfl), (ALLW_c3 11 rfl rfl), (ALLW_c1 14 rfl rfl), k_J9_max_7cf53, ⟨by decide +kernel, by decide +kernel, by decide +kernel⟩⟩
set_option maxRecDepth 100000 in
theorem mv_X1_87 : MV RX1 87 yX1_settle cX1_settle 7 none 4 := ⟨(ALLW_c3 13 rfl rfl), (ALLW_c3 15 rfl rfl), (ALLW_s 9 (by decide +kernel) (by decide +kernel)), (ALLW_c1 4 rfl rfl), k_X1_settle, ⟨by decide +kernel, by decide +kernel, by decide +kernel⟩⟩
set_option maxRecDepth 100000 in
theorem mv_X1_125 : MV RX1 125 yX5_hasLetter cX5_hasLetter 3 (some .boolean) 1 := ⟨(ALLW_c3 17 rfl rfl), (ALLW_c3 18 rfl rfl), (ALLW_c3 19 rfl rfl), (ALLW_c1 2 rfl rfl), k_X5_hasLetter, ⟨by decide +kernel, by decide +kernel, by decide +kernel⟩⟩
set_option maxRecDepth 100000 in
theorem mv_X1_91 : MV RX1 91 yX1_takeWithin cX1_takeWithin 5 none 1 := ⟨(ALLW_c3 24 rfl rfl), (ALLW_c3 26 rfl rfl), (ALLW_s 10 (by decide +kernel) (by decide +kernel)), (ALLW_c1 4 rfl rfl), k_X1_takeWithin, ⟨by decide +kernel, by decide +kernel, by decide +kernel⟩⟩
set_option maxRecDepth 100000 in
theorem mv_X1_114 : MV RX1 114 yX5_get cX5_get 2 (some .int) 1 := ⟨(ALLW_c3 28 rfl rfl), (ALLW_c2 156 rfl rfl), (ALLW_c2 157 rfl rfl), (ALLW_c1 2 rfl rfl), k_X5_get, ⟨by decide +kernel, by decide +kernel, by decide +kernel⟩⟩
set_option maxRecDepth 100000 in
theorem mv_X8_365 : MV RX8 365 yX0_make cX0_make 8 (some .boolean) 2 := ⟨(ALLW_c3 29 rfl rfl), (ALLW_c3 30 rfl rfl), (ALLW_c3 31 rfl rfl), (ALLW_c1 7 rfl rfl), k_X0_make, ⟨by decide +kernel, by decide +kernel, by decide +kernel⟩⟩
set_option maxRecDepth 100000 in
theorem mv_X0_26 : MV RX0 26 yX5_cutTo cX5_cutTo 2 none 1 := ⟨(ALLW_c3 33 rfl rfl), (ALLW_c2 130 rfl rfl), (ALLW_c2 131 rfl rfl), (ALLW_c1 2 rfl rfl), k_X5_cutTo, ⟨by decide +kernel, by decide +kernel, by decide +kernel⟩⟩
set_option maxRecDepth 100000 in
theorem mv_X0_29 : MV RX0 29 yX1_size cX1_size 1 (some .int) 0 := ⟨(ALLW_c3 34 rfl rfl), (ALLW_c3 35 rfl rfl), (ALLW_c3 36 rfl rfl), (ALLW_c1 4 rfl rfl), k_X1_size, ⟨by decide +kernel, by decide +kernel, by decide +kernel⟩⟩
set_option maxRecDepth 100000 in
theorem mv_X0_35 : MV RX0 35 yX1_get cX1_get 2 (some (.object "PieceFiles$Piece")) 1 := ⟨(ALLW_c3 38 rfl rfl), (ALLW_c3 39 rfl rfl), (ALLW_c3 40 rfl rfl), (ALLW_c1 4 rfl rfl), k_X1_get, ⟨by decide +kernel, by decide +kernel, by decide +kernel⟩⟩
set_option maxRecDepth 100000 in
theorem mv_X0_50 : MV RX0 50 yX5_addPart cX5_addPart 6 (some .boolean) 3 := ⟨(ALLW_c3 42 rfl rfl), (ALLW_c2 152 rfl rfl), (ALLW_c2 153 rfl rfl), (ALLW_c1 2 rfl rfl), k_X5_addPart, ⟨by decide +kernel, by decide +kernel, by decide +kernel⟩⟩
set_option maxRecDepth 100000 in
theorem mv_X0_57 : MV RX0 57 yX5_size cX5_size 1 (some .int) 0 := ⟨(ALLW_c3 43 rfl rfl), (ALLW_c2 114 rfl rfl), (ALLW_c2 115 rfl rfl), (ALLW_c1 2 rfl rfl), k_X5_size, ⟨by decide +kernel, by decide +kernel, by decide +kernel⟩⟩
set_option maxRecDepth 100000 in
theorem mv_X0_61 : MV RX0 61 yX7_toldFor cX7_toldFor 2 (some (.object "PieceFiles$Row")) 1 := ⟨(ALLW_c3 44 rfl rfl), (ALLW_c3 45 rfl rfl), (ALLW_c3 46 rfl rfl), (ALLW_c1 3 rfl rfl), k_X7_toldFor, ⟨by decide +kernel, by decide +kernel, by decide +kernel⟩⟩
set_option maxRecDepth 100000 in
theorem mv_X0_65 : MV RX0 65 yX0_escape cX0_escape 6 (some .boolean) 3 := ⟨(ALLW_c3 48 rfl rfl), (ALLW_c3 49 rfl rfl), (ALLW_c3 50 rfl rfl), (ALLW_c1 7 rfl rfl), k_X0_escape, ⟨by decide +kernel, by decide +kernel, by decide +kernel⟩⟩
set_option maxRecDepth 100000 in
theorem mv_X0_89 : MV RX0 89 yX5_breaksCell cX5_breaksCell 2 (some .boolean) 0 := ⟨(ALLW_c3 52 rfl rfl), (ALLW_c3 53 rfl rfl), (ALLW_c3 54 rfl rfl), (ALLW_c1 2 rfl rfl), k_X5_breaksCell, ⟨by decide +kernel, by decide +kernel, by decide +kernel⟩⟩
set_option maxRecDepth 100000 in
theorem mv_X0_93 : MV RX0 93 yX5_add cX5_add 2 (some .boolean) 1 := ⟨(ALLW_c3 56 rfl rfl), (ALLW_c2 122 rfl rfl), (ALLW_c2 123 rfl rfl), (ALLW_c1 2 rfl rfl), k_X5_add, ⟨by decide +kernel, by decide +kernel, by decide +kernel⟩⟩
set_option maxRecDepth 100000 in
theorem ms_X0_97 : MS RX0 97 yX0_addEscaped cX0_addEscaped 6 none 4 := ⟨(ALLW_c3 57 rfl rfl), (ALLW_c3 58 rfl rfl), (ALLW_c1 7 rfl rfl), k_X0_addEscaped, ⟨by decide +kernel, by decide +kernel, by decide +kernel⟩⟩
set_option maxRecDepth 100000 in
theorem mv_X0_104 : MV RX0 104 yX5_get cX5_get 2 (some .int) 1 := ⟨(ALLW_c3 60 rfl rfl), (ALLW_c2 156 rfl rfl), (ALLW_c2 157 rfl rfl), (ALLW_c1 2 rfl rfl), k_X5_get, ⟨by decide +kernel, by decide +kernel, by decide +kernel⟩⟩
set_option maxRecDepth 100000 in
theorem ms_X0_107 : MS RX0 107 yX0_addInLine cX0_addInLine 3 none 3 := ⟨(ALLW_c3 61 rfl rfl), (ALLW_c3 62 rfl rfl), (ALLW_c1 7 rfl rfl), k_X0_addInLine, ⟨by decide +kernel, by decide +kernel, by decide +kernel⟩⟩
set_option maxRecDepth 100000 in
theorem ms_X0_111 : MS RX0 111 yX0_addDoubled cX0_addDoubled 2 none 2 := ⟨(ALLW_c3 64 rfl rfl), (ALLW_c3 65 rfl rfl), (ALLW_c1 7 rfl rfl), k_X0_addDoubled, ⟨by decide +kernel, by decide +kernel, by decide +kernel⟩⟩
set_option maxRecDepth 100000 in
theorem ms_X0_115 : MS RX0 115 yX0_addInMarkup cX0_addInMarkup 2 none 2 := ⟨(ALLW_c3 67 rfl rfl), (ALLW_c3 68 rfl rfl), (ALLW_c1 7 rfl rfl), k_X0_addInMarkup, ⟨by decide +kernel, by decide +kernel, by decide +kernel⟩⟩
set_option maxRecDepth 100000 in
theorem ms_X0_118 : MS RX0 118 yX0_addInQuotes cX0_addInQuotes 2 none 2 := ⟨(ALLW_c3 70 rfl rfl), (ALLW_c3 71 rfl rfl), (ALLW_c1 7 rfl rfl), k_X0_addInQuotes, ⟨by decide +kernel, by decide +kernel, by decide +kernel⟩⟩
set_option maxRecDepth 100000 in
theorem mv_X8_136 : MV RX8 136 yX1_size cX1_size 1 (some .int) 0 := ⟨(ALLW_c3 73 rfl rfl), (ALLW_c3 35 rfl rfl), (ALLW_c3 36 rfl rfl), (ALLW_c1 4 rfl rfl), k_X1_size, ⟨by decide +kernel, by decide +kernel, by decide +kernel⟩⟩
set_option maxRecDepth 100000 in
theorem mv_L_120 : MV RL 120 yX8_unlock cX8_unlock 1 (some .int) 0 := ⟨(ALLW_c3 74 rfl rfl), (ALLW_c3 75 rfl rfl), (ALLW_c3 76 rfl rfl), (ALLW_c1 1 rfl rfl), k_X8_unlock, ⟨by decide +kernel, by decide +kernel, by decide +kernel⟩⟩
set_option maxRecDepth 100000 in
theorem mv_X8_73 : MV RX8 73 yX7_copyFrom cX7_copyFrom 3 none 1 := ⟨(ALLW_c3 78 rfl rfl), (ALLW_c3 79 rfl rfl), (ALLW_c3 80 rfl rfl), (ALLW_c1 3 rfl rfl), k_X7_copyFrom, ⟨by decide +kernel, by decide +kernel, by decide +kernel⟩⟩
set_option maxRecDepth 100000 in
theorem mv_X8_103 : MV RX8 103 yX8_doAct cX8_doAct 6 (some .int) 4 := ⟨(ALLW_c3 82 rfl rfl), (ALLW_c3 84 rfl rfl), (ALLW_s 11 (by decide +kernel) (by decide +kernel)), (ALLW_c1 1 rfl rfl), k_X8_doAct, ⟨by decide +kernel, by decide +kernel, by decide +kernel⟩⟩
set_option maxRecDepth 100000 in
theorem mv_X8_337 : MV RX8 337 yX7_addLock cX7_addLock 4 (some .int) 1 := ⟨(ALLW_c3 86 rfl rfl), (ALLW_c3 87 rfl rfl), (ALLW_c3 88 rfl rfl), (ALLW_c1 3 rfl rfl), k_X7_addLock, ⟨by decide +kernel, by decide +kernel, by decide +kernel⟩⟩
set_option maxRecDepth 100000 in
theorem mv_X8_341 : MV RX8 341 yX8_freePiece cX8_freePiece 2 (some .int) 1 := ⟨(ALLW_c3 90 rfl rfl), (ALLW_c3 92 rfl rfl), (ALLW_s 12 (by decide +kernel) (by decide +kernel)), (ALLW_c1 1 rfl rfl), k_X8_freePiece, ⟨by decide +kernel, by decide +kernel, by decide +kernel⟩⟩
set_option maxRecDepth 100000 in
theorem mv_X8_241 : MV RX8 241 yX1_get cX1_get 2 (some (.object "PieceFiles$Piece")) 1 := ⟨(ALLW_c3 94 rfl rfl), (ALLW_c3 39 rfl rfl), (ALLW_c3 40 rfl rfl), (ALLW_c1 4 rfl rfl), k_X1_get, ⟨by decide +kernel, by decide +kernel, by decide +kernel⟩⟩
set_option maxRecDepth 100000 in
theorem mv_X8_194 : MV RX8 194 yX7_toldFor cX7_toldFor 2 (some (.object "PieceFiles$Row")) 1 := ⟨(ALLW_c3 95 rfl rfl), (ALLW_c3 45 rfl rfl), (ALLW_c3 46 rfl rfl), (ALLW_c1 3 rfl rfl), k_X7_toldFor, ⟨by decide +kernel, by decide +kernel, by decide +kernel⟩⟩
set_option maxRecDepth 100000 in
theorem mv_X8_369 : MV RX8 369 yX7_setTold cX7_setTold 3 none 2 := ⟨(ALLW_c3 96 rfl rfl), (ALLW_c3 97 rfl rfl), (ALLW_c3 98 rfl rfl), (ALLW_c1 3 rfl rfl), k_X7_setTold, ⟨by decide +kernel, by decide +kernel, by decide +kernel⟩⟩
set_option maxRecDepth 100000 in
theorem mv_X8_344 : MV RX8 344 yX8_spreadPiece cX8_spreadPiece 4 (some .int) 1 := ⟨(ALLW_c3 100 rfl rfl), (ALLW_c3 102 rfl rfl), (ALLW_s 13 (by decide +kernel) (by decide +kernel)), (ALLW_c1 1 rfl rfl), k_X8_spreadPiece, ⟨by decide +kernel, by decide +kernel, by decide +kernel⟩⟩
set_option maxRecDepth 100000 in
theorem mv_X8_243 : MV RX8 243 yX1_areLike cX1_areLike 5 (some .boolean) 2 := ⟨(ALLW_c3 104 rfl rfl), (ALLW_c3 105 rfl rfl), (ALLW_c3 106 rfl rfl), (ALLW_c1 4 rfl rfl), k_X1_areLike, ⟨by decide +kernel, by decide +kernel, by decide +kernel⟩⟩
set_option maxRecDepth 100000 in
theorem mv_X1_154 : MV RX1 154 yX1_get cX1_get 2 (some (.object "PieceFiles$Piece")) 1 := ⟨(ALLW_c3 108 rfl rfl), (ALLW_c3 39 rfl rfl), (ALLW_c3 40 rfl rfl), (ALLW_c1 4 rfl rfl), k_X1_get, ⟨by decide +kernel, by decide +kernel, by decide +kernel⟩⟩
set_option maxRecDepth 100000 in
theorem mv_X1_157 : MV RX1 157 yX5_isSame cX5_isSame 6 (some .boolean) 4 := ⟨(ALLW_c3 109 rfl rfl), (ALLW_c2 229 rfl rfl), (ALLW_c2 230 rfl rfl), (ALLW_c1 2 rfl rfl), k_X5_isSame, ⟨by decide +kernel, by decide +kernel, by decide +kernel⟩⟩
set_option maxRecDepth 100000 in
theorem mv_X8_247 : MV RX8 247 yX0_escape cX0_escape 6 (some .boolean) 3 := ⟨(ALLW_c3 110 rfl rfl), (ALLW_c3 49 rfl rfl), (ALLW_c3 50 rfl rfl), (ALLW_c1 7 rfl rfl), k_X0_escape, ⟨by decide +kernel, by decide +kernel, by decide +kernel⟩⟩
set_option maxRecDepth 100000 in
theorem mv_X8_347 : MV RX8 347 yX8_swapPieces cX8_swapPieces 7 (some .int) 2 := ⟨(ALLW_c3 111 rfl rfl), (ALLW_c3 113 rfl rfl), (ALLW_s 14 (by decide +kernel) (by decide +kernel)), (ALLW_c1 1 rfl rfl), k_X8_swapPieces, ⟨by decide +kernel, by decide +kernel, by decide +kernel⟩⟩
set_option maxRecDepth 100000 in
theorem mv_X8_190 : MV RX8 190 yX8_nowSize cX8_nowSize 4 (some .int) 2 := ⟨(ALLW_c3 115 rfl rfl), (ALLW_c3 117 rfl rfl), (ALLW_s 15 (by decide +kernel) (by decide +kernel)), (ALLW_c1 1 rfl rfl), k_X8_nowSize, ⟨by decide +kernel, by decide +kernel, by decide +kernel⟩⟩
set_option maxRecDepth 100000 in
theorem mv_X8_378 : MV RX8 378 yX8_copyOfNow cX8_copyOfNow 4 (some (.object "PieceFiles$Row")) 2 := ⟨(ALLW_c3 119 rfl rfl), (ALLW_c3 121 rfl rfl), (ALLW_s 16 (by decide +kernel) (by decide +kernel)), (ALLW_c1 1 rfl rfl), k_X8_copyOfNow, ⟨by decide +kernel, by decide +kernel, by decide +kernel⟩⟩
set_option maxRecDepth 100000 in
theorem mv_X8_351 : MV RX8 351 yX8_wipePieces cX8_wipePieces 1 (some .int) 0 := ⟨(ALLW_c3 123 rfl rfl), (ALLW_c3 125 rfl rfl), (ALLW_s 17 (by decide +kernel) (by decide +kernel)), (ALLW_c1 1 rfl rfl), k_X8_wipePieces, ⟨by decide +kernel, by decide +kernel, by decide +kernel⟩⟩
set_option maxRecDepth 100000 in
theorem mv_X8_167 : MV RX8 167 yX7_toldCount cX7_toldCount 3 (some .int) 0 := ⟨(ALLW_c3 127 rfl rfl), (ALLW_c3 128 rfl rfl), (ALLW_c3 129 rfl rfl), (ALLW_c1 3 rfl rfl), k_X7_toldCount, ⟨by decide +kernel, by decide +kernel, by decide +kernel⟩⟩
set_option maxRecDepth 100000 in
theorem mv_X8_354 : MV RX8 354 yX8_tellPiece cX8_tellPiece 4 (some .int) 2 := ⟨(ALLW_c3 131 rfl rfl), (ALLW_c3 133 rfl rfl), (ALLW_s 18 (by decide +kernel) (by decide +kernel)), (ALLW_c1 1 rfl rfl), k_X8_tellPiece, ⟨by decide +kernel, by decide +kernel, by decide +kernel⟩⟩
set_option maxRecDepth 100000 in
theorem mv_X8_374 : MV RX8 374 yX7_addPair cX7_addPair 3 none 2 := ⟨(ALLW_c3 135 rfl rfl), (ALLW_c3 136 rfl rfl), (ALLW_c3 137 rfl rfl), (ALLW_c1 3 rfl rfl), k_X7_addPair, ⟨by decide +kernel, by decide +kernel, by decide +kernel⟩⟩
set_option maxRecDepth 100000 in
theorem mi_X7_53 : MI RX7 53 yX2_init cX2_init 4 3 := ⟨(ALLW_c3 141 rfl rfl), (ALLW_c3 142 rfl rfl), (ALLW_c1 15 rfl rfl), k_X2_init, rfl, ⟨by decide +kernel, by decide +kernel, by decide +kernel⟩⟩
set_option maxRecDepth 100000 in
theorem oi_X2_1 : Cond.methodLink RX2 1 Lib.objectInit ∈ ALLW := (ALLW_c3 144 rfl rfl)
set_option maxRecDepth 100000 in
theorem ms_X7_56 : MS RX7 56 yJ9_min_7cf53 cJ9_min_7cf53 2 (some .int) 2 := ⟨(ALLW_c3 158 rfl rfl), (ALLW_c3 159 rfl rfl), (ALLW_c1 14 rfl rfl), k_J9_min_7cf53, ⟨by decide +kernel, by decide +kernel, by decide +kernel⟩⟩
set_option maxRecDepth 100000 in
theorem mv_X8_139 : MV RX8 139 yX8_finishCall cX8_finishCall 2 none 1 := ⟨(ALLW_c3 161 rfl rfl), (ALLW_c3 163 rfl rfl), (ALLW_s 19 (by decide +kernel) (by decide +kernel)), (ALLW_c1 1 rfl rfl), k_X8_finishCall, ⟨by decide +kernel, by decide +kernel, by decide +kernel⟩⟩
set_option maxRecDepth 100000 in
theorem mv_X8_113 : MV RX8 113 yX8_restore cX8_restore 2 none 1 := ⟨(ALLW_c3 165 rfl rfl), (ALLW_c3 167 rfl rfl), (ALLW_s 20 (by decide +kernel) (by decide +kernel)), (ALLW_c1 1 rfl rfl), k_X8_restore, ⟨by decide +kernel, by decide +kernel, by decide +kernel⟩⟩
set_option maxRecDepth 100000 in
theorem mv_X8_328 : MV RX8 328 yX8_rememberAhead cX8_rememberAhead 1 none 0 := ⟨(ALLW_c3 238 rfl rfl), (ALLW_c4 0 rfl rfl), (ALLW_s 22 (by decide +kernel) (by decide +kernel)), (ALLW_c1 1 rfl rfl), k_X8_rememberAhead, ⟨by decide +kernel, by decide +kernel, by decide +kernel⟩⟩
set_option maxRecDepth 100000 in
theorem mv_X8_331 : MV RX8 331 yX8_forgetOldest cX8_forgetOldest 4 none 0 := ⟨(ALLW_c4 2 rfl rfl), (ALLW_c4 4 rfl rfl), (ALLW_s 23 (by decide +kernel) (by decide +kernel)), (ALLW_c1 1 rfl rfl), k_X8_forgetOldest, ⟨by decide +kernel, by decide +kernel, by decide +kernel⟩⟩
set_option maxRecDepth 100000 in
theorem mv_L_156 : MV RL 156 yX8_holder cX8_holder 4 (some .int) 1 := ⟨(ALLW_c4 6 rfl rfl), (ALLW_c4 7 rfl rfl), (ALLW_c4 8 rfl rfl), (ALLW_c1 1 rfl rfl), k_X8_holder, ⟨by decide +kernel, by decide +kernel, by decide +kernel⟩⟩
set_option maxRecDepth 100000 in
theorem mv_L_160 : MV RL 160 yX8_at cX8_at 3 (some .int) 2 := ⟨(ALLW_c4 10 rfl rfl), (ALLW_c4 11 rfl rfl), (ALLW_c4 12 rfl rfl), (ALLW_c1 1 rfl rfl), k_X8_at, ⟨by decide +kernel, by decide +kernel, by decide +kernel⟩⟩
set_option maxRecDepth 100000 in
theorem mv_X8_227 : MV RX8 227 yX5_get cX5_get 2 (some .int) 1 := ⟨(ALLW_c4 14 rfl rfl), (ALLW_c2 156 rfl rfl), (ALLW_c2 157 rfl rfl), (ALLW_c1 2 rfl rfl), k_X5_get, ⟨by decide +kernel, by decide +kernel, by decide +kernel⟩⟩
set_option maxRecDepth 100000 in
theorem mv_L_176 : MV RL 176 yX8_memory cX8_memory 6 (some .int) 3 := ⟨(ALLW_c4 15 rfl rfl), (ALLW_c4 16 rfl rfl), (ALLW_c4 17 rfl rfl), (ALLW_c1 1 rfl rfl), k_X8_memory, ⟨by decide +kernel, by decide +kernel, by decide +kernel⟩⟩
set_option maxRecDepth 100000 in
theorem mv_L_184 : MV RL 184 yX8_twice cX8_twice 4 (some .boolean) 0 := ⟨(ALLW_c4 19 rfl rfl), (ALLW_c4 20 rfl rfl), (ALLW_c4 21 rfl rfl), (ALLW_c1 1 rfl rfl), k_X8_twice, ⟨by decide +kernel, by decide +kernel, by decide +kernel⟩⟩
set_option maxRecDepth 100000 in
theorem mv_X8_276 : MV RX8 276 yX8_cutAgain cX8_cutAgain 1 none 0 := ⟨(ALLW_c4 23 rfl rfl), (ALLW_c4 25 rfl rfl), (ALLW_s 24 (by decide +kernel) (by decide +kernel)), (ALLW_c1 1 rfl rfl), k_X8_cutAgain, ⟨by decide +kernel, by decide +kernel, by decide +kernel⟩⟩
set_option maxRecDepth 100000 in
theorem mv_X8_283 : MV RX8 283 yX8_isNow cX8_isNow 5 (some .boolean) 3 := ⟨(ALLW_c4 27 rfl rfl), (ALLW_c4 29 rfl rfl), (ALLW_s 25 (by decide +kernel) (by decide +kernel)), (ALLW_c1 1 rfl rfl), k_X8_isNow, ⟨by decide +kernel, by decide +kernel, by decide +kernel⟩⟩
set_option maxRecDepth 100000 in
theorem mv_X8_382 : MV RX8 382 yX5_isSame cX5_isSame 6 (some .boolean) 4 := ⟨(ALLW_c4 31 rfl rfl), (ALLW_c2 229 rfl rfl), (ALLW_c2 230 rfl rfl), (ALLW_c1 2 rfl rfl), k_X5_isSame, ⟨by decide +kernel, by decide +kernel, by decide +kernel⟩⟩
set_option maxRecDepth 100000 in
theorem mv_L_189 : MV RL 189 yX8_image cX8_image 1 none 0 := ⟨(ALLW_c4 32 rfl rfl), (ALLW_c4 33 rfl rfl), (ALLW_c4 34 rfl rfl), (ALLW_c1 1 rfl rfl), k_X8_image, ⟨by decide +kernel, by decide +kernel, by decide +kernel⟩⟩
set_option maxRecDepth 100000 in
theorem mv_L_193 : MV RL 193 yX8_back cX8_back 1 (some .boolean) 0 := ⟨(ALLW_c4 36 rfl rfl), (ALLW_c4 37 rfl rfl), (ALLW_c4 38 rfl rfl), (ALLW_c1 1 rfl rfl), k_X8_back, ⟨by decide +kernel, by decide +kernel, by decide +kernel⟩⟩
set_option maxRecDepth 100000 in
theorem mv_L_197 : MV RL 197 yX8_count cX8_count 2 (some .int) 1 := ⟨(ALLW_c4 40 rfl rfl), (ALLW_c4 41 rfl rfl), (ALLW_c4 42 rfl rfl), (ALLW_c1 1 rfl rfl), k_X8_count, ⟨by decide +kernel, by decide +kernel, by decide +kernel⟩⟩
set_option maxRecDepth 100000 in
theorem mv_X8_293 : MV RX8 293 yX1_bytesInPieces cX1_bytesInPieces 4 (some .int) 0 := ⟨(ALLW_c4 44 rfl rfl), (ALLW_c4 45 rfl rfl), (ALLW_c4 46 rfl rfl), (ALLW_c1 4 rfl rfl), k_X1_bytesInPieces, ⟨by decide +kernel, by decide +kernel, by decide +kernel⟩⟩
set_option maxRecDepth 100000 in
theorem mv_X8_305 : MV RX8 305 yX1_unlikeCount cX1_unlikeCount 3 (some .int) 0 := ⟨(ALLW_c4 48 rfl rfl), (ALLW_c4 49 rfl rfl), (ALLW_c4 50 rfl rfl), (ALLW_c1 4 rfl rfl), k_X1_unlikeCount, ⟨by decide +kernel, by decide +kernel, by decide +kernel⟩⟩
set_option maxRecDepth 100000 in
theorem mv_X1_165 : MV RX1 165 yX1_hasLikeAhead cX1_hasLikeAhead 3 (some .boolean) 1 := ⟨(ALLW_c4 52 rfl rfl), (ALLW_c4 54 rfl rfl), (ALLW_s 26 (by decide +kernel) (by decide +kernel)), (ALLW_c1 4 rfl rfl), k_X1_hasLikeAhead, ⟨by decide +kernel, by decide +kernel, by decide +kernel⟩⟩
set_option maxRecDepth 100000 in
theorem mv_X1_161 : MV RX1 161 yX1_areLike cX1_areLike 5 (some .boolean) 2 := ⟨(ALLW_c4 56 rfl rfl), (ALLW_c3 105 rfl rfl), (ALLW_c3 106 rfl rfl), (ALLW_c1 4 rfl rfl), k_X1_areLike, ⟨by decide +kernel, by decide +kernel, by decide +kernel⟩⟩
set_option maxRecDepth 100000 in
theorem mv_X8_308 : MV RX8 308 yX8_countAllWords cX8_countAllWords 4 (some .int) 0 := ⟨(ALLW_c4 57 rfl rfl), (ALLW_c4 59 rfl rfl), (ALLW_s 27 (by decide +kernel) (by decide +kernel)), (ALLW_c1 1 rfl rfl), k_X8_countAllWords, ⟨by decide +kernel, by decide +kernel, by decide +kernel⟩⟩
set_option maxRecDepth 100000 in
theorem mv_X8_198 : MV RX8 198 yX8_countWords cX8_countWords 4 (some .int) 2 := ⟨(ALLW_c4 61 rfl rfl), (ALLW_c4 63 rfl rfl), (ALLW_s 28 (by decide +kernel) (by decide +kernel)), (ALLW_c1 1 rfl rfl), k_X8_countWords, ⟨by decide +kernel, by decide +kernel, by decide +kernel⟩⟩
set_option maxRecDepth 100000 in
theorem mv_X8_386 : MV RX8 386 yX5_countWords cX5_countWords 7 (some .int) 2 := ⟨(ALLW_c4 65 rfl rfl), (ALLW_c4 66 rfl rfl), (ALLW_c4 67 rfl rfl), (ALLW_c1 2 rfl rfl), k_X5_countWords, ⟨by decide +kernel, by decide +kernel, by decide +kernel⟩⟩
set_option maxRecDepth 100000 in
theorem mv_X8_311 : MV RX8 311 yX1_longestText cX1_longestText 4 (some .int) 0 := ⟨(ALLW_c4 69 rfl rfl), (ALLW_c4 70 rfl rfl), (ALLW_c4 71 rfl rfl), (ALLW_c1 4 rfl rfl), k_X1_longestText, ⟨by decide +kernel, by decide +kernel, by decide +kernel⟩⟩
set_option maxRecDepth 100000 in
theorem mw_L_91 : MSW RL 91 yL_acts cL_acts 3 (some .int) [(0, 8, 11, 13)] 2 := ⟨(ALLW_c4 73 rfl rfl), (ALLW_c4 74 rfl rfl), (ALLW_c1 0 rfl rfl), (ALLW_c4 75 rfl rfl), ⟨by decide +kernel, by decide +kernel, by decide +kernel⟩⟩
set_option maxRecDepth 100000 in
theorem mv_L_7 : MV RL 7 yX8_acts cX8_acts 6 (some .int) 0 := ⟨(ALLW_c4 77 rfl rfl), (ALLW_c4 78 rfl rfl), (ALLW_c4 79 rfl rfl), (ALLW_c1 1 rfl rfl), k_X8_acts, ⟨by decide +kernel, by decide +kernel, by decide +kernel⟩⟩
set_option maxRecDepth 100000 in
theorem mv_X8_77 : MV RX8 77 yX4_start cX4_start 2 none 1 := ⟨(ALLW_c4 81 rfl rfl), (ALLW_c4 82 rfl rfl), (ALLW_c4 83 rfl rfl), (ALLW_c1 8 rfl rfl), k_X4_start, ⟨by decide +kernel, by decide +kernel, by decide +kernel⟩⟩
set_option maxRecDepth 100000 in
theorem mv_X4_20 : MV RX4 20 yX5_size cX5_size 1 (some .int) 0 := ⟨(ALLW_c4 85 rfl rfl), (ALLW_c2 114 rfl rfl), (ALLW_c2 115 rfl rfl), (ALLW_c1 2 rfl rfl), k_X5_size, ⟨by decide +kernel, by decide +kernel, by decide +kernel⟩⟩
set_option maxRecDepth 100000 in
theorem mv_X4_24 : MV RX4 24 yX5_behindBlanks cX5_behindBlanks 4 (some .int) 2 := ⟨(ALLW_c4 86 rfl rfl), (ALLW_c2 191 rfl rfl), (ALLW_c2 192 rfl rfl), (ALLW_c1 2 rfl rfl), k_X5_behindBlanks, ⟨by decide +kernel, by decide +kernel, by decide +kernel⟩⟩
set_option maxRecDepth 100000 in
theorem mv_X8_88 : MV RX8 88 yX4_readAct cX4_readAct 3 (some .int) 0 := ⟨(ALLW_c4 87 rfl rfl), (ALLW_c4 88 rfl rfl), (ALLW_c4 89 rfl rfl), (ALLW_c1 8 rfl rfl), k_X4_readAct, ⟨by decide +kernel, by decide +kernel, by decide +kernel⟩⟩
set_option maxRecDepth 100000 in
theorem mv_X4_40 : MV RX4 40 yX4_lettersEnd cX4_lettersEnd 2 (some .int) 0 := ⟨(ALLW_c4 91 rfl rfl), (ALLW_c4 93 rfl rfl), (ALLW_s 29 (by decide +kernel) (by decide +kernel)), (ALLW_c1 8 rfl rfl), k_X4_lettersEnd, ⟨by decide +kernel, by decide +kernel, by decide +kernel⟩⟩
set_option maxRecDepth 100000 in
theorem mv_X4_36 : MV RX4 36 yX5_get cX5_get 2 (some .int) 1 := ⟨(ALLW_c4 95 rfl rfl), (ALLW_c2 156 rfl rfl), (ALLW_c2 157 rfl rfl), (ALLW_c1 2 rfl rfl), k_X5_get, ⟨by decide +kernel, by decide +kernel, by decide +kernel⟩⟩
set_option maxRecDepth 100000 in
theorem mv_X4_43 : MV RX4 43 yX4_actNamed cX4_actNamed 4 (some .int) 2 := ⟨(ALLW_c4 96 rfl rfl), (ALLW_c4 98 rfl rfl), (ALLW_s 30 (by decide +kernel) (by decide +kernel)), (ALLW_c1 8 rfl rfl), k_X4_actNamed, ⟨by decide +kernel, by decide +kernel, by decide +kernel⟩⟩
set_option maxRecDepth 100000 in
theorem ms_X4_58 : MS RX4 58 yX4_nameOf cX4_nameOf 1 (some (.object "java/lang/String")) 1 := ⟨(ALLW_c4 100 rfl rfl), (ALLW_c4 101 rfl rfl), (ALLW_c1 8 rfl rfl), k_X4_nameOf, ⟨by decide +kernel, by decide +kernel, by decide +kernel⟩⟩
set_option maxRecDepth 100000 in
theorem mv_X4_62 : MV RX4 62 yX5_isText cX5_isText 5 (some .boolean) 3 := ⟨(ALLW_c4 115 rfl rfl), (ALLW_c4 116 rfl rfl), (ALLW_c4 117 rfl rfl), (ALLW_c1 2 rfl rfl), k_X5_isText, ⟨by decide +kernel, by decide +kernel, by decide +kernel⟩⟩
set_option maxRecDepth 100000 in
theorem mv_X5_47 : MV RX5 47 yJ0_length_8abf5 cJ0_length_8abf5 1 (some .int) 0 := ⟨(ALLW_c4 119 rfl rfl), (ALLW_c4 120 rfl rfl), (ALLW_c4 121 rfl rfl), (ALLW_c1 10 rfl rfl), k_J0_length_8abf5, ⟨by decide +kernel, by decide +kernel, by decide +kernel⟩⟩
set_option maxRecDepth 100000 in
theorem mv_J0_335 : MV RJ0 335 yJ0_coder_7d493 cJ0_coder_7d493 1 (some .byte) 0 := ⟨(ALLW_c4 123 rfl rfl), (ALLW_c4 124 rfl rfl), (ALLW_c4 125 rfl rfl), (ALLW_c1 10 rfl rfl), k_J0_coder_7d493, ⟨by decide +kernel, by decide +kernel, by decide +kernel⟩⟩
set_option maxRecDepth 100000 in
theorem mv_X5_52 : MV RX5 52 yJ0_charAt_5068e cJ0_charAt_5068e 2 (some .char) 1 := ⟨(ALLW_c4 129 rfl rfl), (ALLW_c4 130 rfl rfl), (ALLW_c4 131 rfl rfl), (ALLW_c1 10 rfl rfl), k_J0_charAt_5068e, ⟨by decide +kernel, by decide +kernel, by decide +kernel⟩⟩
set_option maxRecDepth 100000 in
theorem mv_J0_492 : MV RJ0 492 yJ0_isLatin1_aae02 cJ0_isLatin1_aae02 1 (some .boolean) 0 := ⟨(ALLW_c4 133 rfl rfl), (ALLW_c4 134 rfl rfl), (ALLW_c4 135 rfl rfl), (ALLW_c1 10 rfl rfl), k_J0_isLatin1_aae02, ⟨by decide +kernel, by decide +kernel, by decide +kernel⟩⟩
set_option maxRecDepth 100000 in
theorem ms_J0_495 : MS RJ0 495 yJ1_charAt_3b067 cJ1_charAt_3b067 2 (some .char) 2 := ⟨(ALLW_c4 137 rfl rfl), (ALLW_c4 138 rfl rfl), (ALLW_c1 11 rfl rfl), k_J1_charAt_3b067, ⟨by decide +kernel, by decide +kernel, by decide +kernel⟩⟩
set_option maxRecDepth 100000 in
theorem ms_J1_9 : MS RJ1 9 yJ0_checkIndex_df160 cJ0_checkIndex_df160 2 none 2 := ⟨(ALLW_c4 140 rfl rfl), (ALLW_c4 141 rfl rfl), (ALLW_c1 10 rfl rfl), k_J0_checkIndex_df160, ⟨by decide +kernel, by decide +kernel, by decide +kernel⟩⟩
set_option maxRecDepth 100000 in
theorem ms_J0_1059 : MS RJ0 1059 yJ3_checkIndex_8e157 cJ3_checkIndex_8e157 3 (some .int) 3 := ⟨(ALLW_c4 145 rfl rfl), (ALLW_c4 146 rfl rfl), (ALLW_c1 12 rfl rfl), k_J3_checkIndex_8e157, ⟨by decide +kernel, by decide +kernel, by decide +kernel⟩⟩
set_option maxRecDepth 100000 in
theorem ms_J0_498 : MS RJ0 498 yJ2_charAt_3b067 cJ2_charAt_3b067 2 (some .char) 2 := ⟨(ALLW_c4 148 rfl rfl), (ALLW_c4 149 rfl rfl), (ALLW_c1 13 rfl rfl), k_J2_charAt_3b067, ⟨by decide +kernel, by decide +kernel, by decide +kernel⟩⟩
set_option maxRecDepth 100000 in
theorem ms_J2_67 : MS RJ2 67 yJ2_checkIndex_2214a cJ2_checkIndex_2214a 2 none 2 := ⟨(ALLW_c4 151 rfl rfl), (ALLW_c4 152 rfl rfl), (ALLW_c1 13 rfl rfl), k_J2_checkIndex_2214a, ⟨by decide +kernel, by decide +kernel, by decide +kernel⟩⟩
set_option maxRecDepth 100000 in
theorem ms_J2_48 : MS RJ2 48 yJ2_length_9d52b cJ2_length_9d52b 1 (some .int) 1 := ⟨(ALLW_c4 154 rfl rfl), (ALLW_c4 155 rfl rfl), (ALLW_c1 13 rfl rfl), k_J2_length_9d52b, ⟨by decide +kernel, by decide +kernel, by decide +kernel⟩⟩
set_option maxRecDepth 100000 in
theorem ms_J2_414 : MS RJ2 414 yJ0_checkIndex_df160 cJ0_checkIndex_df160 2 none 2 := ⟨(ALLW_c4 157 rfl rfl), (ALLW_c4 141 rfl rfl), (ALLW_c1 10 rfl rfl), k_J0_checkIndex_df160, ⟨by decide +kernel, by decide +kernel, by decide +kernel⟩⟩
set_option maxRecDepth 100000 in
theorem ms_J2_71 : MS RJ2 71 yJ2_getChar_3b067 cJ2_getChar_3b067 2 (some .char) 2 := ⟨(ALLW_c4 158 rfl rfl), (ALLW_c4 159 rfl rfl), (ALLW_c1 13 rfl rfl), k_J2_getChar_3b067, ⟨by decide +kernel, by decide +kernel, by decide +kernel⟩⟩
set_option maxRecDepth 100000 in
theorem mv_X4_49 : MV RX4 49 yX4_readFirst cX4_readFirst 4 (some .int) 2 := ⟨(ALLW_c4 167 rfl rfl), (ALLW_c4 169 rfl rfl), (ALLW_s 31 (by decide +kernel) (by decide +kernel)), (ALLW_c1 8 rfl rfl), k_X4_readFirst, ⟨by decide +kernel, by decide +kernel, by decide +kernel⟩⟩
set_option maxRecDepth 100000 in
theorem mv_X4_90 : MV RX4 90 yX4_readNumber cX4_readNumber 6 (some .int) 2 := ⟨(ALLW_c4 171 rfl rfl), (ALLW_c4 173 rfl rfl), (ALLW_s 32 (by decide +kernel) (by decide +kernel)), (ALLW_c1 8 rfl rfl), k_X4_readNumber, ⟨by decide +kernel, by decide +kernel, by decide +kernel⟩⟩
set_option maxRecDepth 100000 in
theorem mv_X4_52 : MV RX4 52 yX4_readSecond cX4_readSecond 2 (some .int) 0 := ⟨(ALLW_c4 175 rfl rfl), (ALLW_c4 177 rfl rfl), (ALLW_s 33 (by decide +kernel) (by decide +kernel)), (ALLW_c1 8 rfl rfl), k_X4_readSecond, ⟨by decide +kernel, by decide +kernel, by decide +kernel⟩⟩
set_option maxRecDepth 100000 in
theorem mv_X4_55 : MV RX4 55 yX4_readWord cX4_readWord 3 (some .int) 0 := ⟨(ALLW_c4 179 rfl rfl), (ALLW_c4 181 rfl rfl), (ALLW_s 34 (by decide +kernel) (by decide +kernel)), (ALLW_c1 8 rfl rfl), k_X4_readWord, ⟨by decide +kernel, by decide +kernel, by decide +kernel⟩⟩
set_option maxRecDepth 100000 in
theorem mv_X4_102 : MV RX4 102 yX5_part cX5_part 4 (some (.object "PieceFiles$Row")) 2 := ⟨(ALLW_c4 183 rfl rfl), (ALLW_c2 146 rfl rfl), (ALLW_c2 147 rfl rfl), (ALLW_c1 2 rfl rfl), k_X5_part, ⟨by decide +kernel, by decide +kernel, by decide +kernel⟩⟩
set_option maxRecDepth 100000 in
theorem mv_X8_107 : MV RX8 107 yX4_readBehindAct cX4_readBehindAct 1 (some .int) 0 := ⟨(ALLW_c4 184 rfl rfl), (ALLW_c4 185 rfl rfl), (ALLW_c4 186 rfl rfl), (ALLW_c1 8 rfl rfl), k_X4_readBehindAct, ⟨by decide +kernel, by decide +kernel, by decide +kernel⟩⟩
set_option maxRecDepth 100000 in
theorem mw_L_109 : MSW RL 109 yL_kind cL_kind 5 (some .int) [(0, 10, 13, 13)] 4 := ⟨(ALLW_c4 204 rfl rfl), (ALLW_c4 205 rfl rfl), (ALLW_c1 0 rfl rfl), (ALLW_c4 206 rfl rfl), ⟨by decide +kernel, by decide +kernel, by decide +kernel⟩⟩
set_option maxRecDepth 100000 in
theorem mv_L_15 : MV RL 15 yX8_kind cX8_kind 3 (some .int) 2 := ⟨(ALLW_c4 207 rfl rfl), (ALLW_c4 208 rfl rfl), (ALLW_c4 209 rfl rfl), (ALLW_c1 1 rfl rfl), k_X8_kind, ⟨by decide +kernel, by decide +kernel, by decide +kernel⟩⟩
set_option maxRecDepth 100000 in
theorem mw_L_113 : MSW RL 113 yL_rule cL_rule 5 (some .int) [(0, 10, 13, 23), (0, 10, 17, 13)] 4 := ⟨(ALLW_c4 212 rfl rfl), (ALLW_c4 213 rfl rfl), (ALLW_c1 0 rfl rfl), (ALLW_c4 214 rfl rfl), ⟨by decide +kernel, by decide +kernel, by decide +kernel⟩⟩
set_option maxRecDepth 100000 in
theorem mv_L_19 : MV RL 19 yX8_rule cX8_rule 3 (some .int) 2 := ⟨(ALLW_c4 216 rfl rfl), (ALLW_c4 217 rfl rfl), (ALLW_c4 218 rfl rfl), (ALLW_c1 1 rfl rfl), k_X8_rule, ⟨by decide +kernel, by decide +kernel, by decide +kernel⟩⟩
set_option maxRecDepth 100000 in
theorem mw_L_117 : MSW RL 117 yL_lock cL_lock 3 (some .int) [(0, 8, 11, 13), (0, 8, 14, 28)] 2 := ⟨(ALLW_c4 237 rfl rfl), (ALLW_c4 238 rfl rfl), (ALLW_c1 0 rfl rfl), (ALLW_c4 239 rfl rfl), ⟨by decide +kernel, by decide +kernel, by decide +kernel⟩⟩
set_option maxRecDepth 100000 in
theorem mv_L_25 : MV RL 25 yX8_lock cX8_lock 2 (some .int) 0 := ⟨(ALLW_c5 1 rfl rfl), (ALLW_c5 2 rfl rfl), (ALLW_c5 3 rfl rfl), (ALLW_c1 1 rfl rfl), k_X8_lock, ⟨by decide +kernel, by decide +kernel, by decide +kernel⟩⟩
set_option maxRecDepth 100000 in
theorem mv_X8_149 : MV RX8 149 yX8_takeWord cX8_takeWord 2 (some (.object "PieceFiles$Row")) 0 := ⟨(ALLW_c5 5 rfl rfl), (ALLW_c5 7 rfl rfl), (ALLW_s 35 (by decide +kernel) (by decide +kernel)), (ALLW_c1 1 rfl rfl), k_X8_takeWord, ⟨by decide +kernel, by decide +kernel, by decide +kernel⟩⟩
set_option maxRecDepth 100000 in
theorem mv_X8_317 : MV RX8 317 yX5_isWord cX5_isWord 2 (some .boolean) 0 := ⟨(ALLW_c5 9 rfl rfl), (ALLW_c5 10 rfl rfl), (ALLW_c5 11 rfl rfl), (ALLW_c1 2 rfl rfl), k_X5_isWord, ⟨by decide +kernel, by decide +kernel, by decide +kernel⟩⟩
set_option maxRecDepth 100000 in
theorem mw_L_124 : MSW RL 124 yL_tell cL_tell 4 (some .int) [(0, 9, 12, 13), (0, 9, 15, 28)] 3 := ⟨(ALLW_c5 14 rfl rfl), (ALLW_c5 15 rfl rfl), (ALLW_c1 0 rfl rfl), (ALLW_c5 16 rfl rfl), ⟨by decide +kernel, by decide +kernel, by decide +kernel⟩⟩
set_option maxRecDepth 100000 in
theorem mv_L_30 : MV RL 30 yX8_tell cX8_tell 3 (some .int) 1 := ⟨(ALLW_c5 17 rfl rfl), (ALLW_c5 18 rfl rfl), (ALLW_c5 19 rfl rfl), (ALLW_c1 1 rfl rfl), k_X8_tell, ⟨by decide +kernel, by decide +kernel, by decide +kernel⟩⟩
set_option maxRecDepth 100000 in
theorem mv_X8_155 : MV RX8 155 yX8_takeTold cX8_takeTold 2 (some (.object "PieceFiles$Row")) 0 := ⟨(ALLW_c5 21 rfl rfl), (ALLW_c5 23 rfl rfl), (ALLW_s 36 (by decide +kernel) (by decide +kernel)), (ALLW_c1 1 rfl rfl), k_X8_takeTold, ⟨by decide +kernel, by decide +kernel, by decide +kernel⟩⟩
end
/-! part 05f.words -/
section
set_option maxRecDepth 100000 in
theorem mw_L_128 : MSW RL 128 yL_free cL_free 4 (some .int) [(0, 9, 12, 28)] 3 := ⟨(ALLW_c5 26 rfl rfl), (ALLW_c5 27 rfl rfl), (ALLW_c1 0 rfl rfl), (ALLW_c5 28 rfl rfl), ⟨by decide +kernel, by decide +kernel, by decide +kernel⟩⟩
set_option maxRecDepth 100000 in
theorem mv_L_34 : MV RL 34 yX8_free cX8_free 2 (some .int) 1 := ⟨(ALLW_c5 29 rfl rfl), (ALLW_c5 30 rfl rfl), (ALLW_c5 31 rfl rfl), (ALLW_c1 1 rfl rfl), k_X8_free, ⟨by decide +kernel, by decide +kernel, by decide +kernel⟩⟩
set_option maxRecDepth 100000 in
theorem mw_L_131 : MSW RL 131 yL_spread cL_spread 4 (some .int) [(0, 9, 12, 28)] 3 := ⟨(ALLW_c5 33 rfl rfl), (ALLW_c5 34 rfl rfl), (ALLW_c1 0 rfl rfl), (ALLW_c5 35 rfl rfl), ⟨by decide +kernel, by decide +kernel, by decide +kernel⟩⟩
set_option maxRecDepth 100000 in
theorem mv_L_37 : MV RL 37 yX8_spread cX8_spread 2 (some .int) 1 := ⟨(ALLW_c5 36 rfl rfl), (ALLW_c5 37 rfl rfl), (ALLW_c5 38 rfl rfl), (ALLW_c1 1 rfl rfl), k_X8_spread, ⟨by decide +kernel, by decide +kernel, by decide +kernel⟩⟩
set_option maxRecDepth 100000 in
theorem mv_X8_163 : MV RX8 163 yX1_likeCount cX1_likeCount 4 (some .int) 1 := ⟨(ALLW_c5 40 rfl rfl), (ALLW_c5 41 rfl rfl), (ALLW_c5 42 rfl rfl), (ALLW_c1 4 rfl rfl), k_X1_likeCount, ⟨by decide +kernel, by decide +kernel, by decide +kernel⟩⟩
set_option maxRecDepth 100000 in
theorem mw_L_134 : MSW RL 134 yL_swap cL_swap 5 (some .int) [(0, 10, 13, 28)] 4 := ⟨(ALLW_c5 44 rfl rfl), (ALLW_c5 45 rfl rfl), (ALLW_c1 0 rfl rfl), (ALLW_c5 46 rfl rfl), ⟨by decide +kernel, by decide +kernel, by decide +kernel⟩⟩
set_option maxRecDepth 100000 in
theorem mv_L_40 : MV RL 40 yX8_swap cX8_swap 3 (some .int) 2 := ⟨(ALLW_c5 47 rfl rfl), (ALLW_c5 48 rfl rfl), (ALLW_c5 49 rfl rfl), (ALLW_c1 1 rfl rfl), k_X8_swap, ⟨by decide +kernel, by decide +kernel, by decide +kernel⟩⟩
set_option maxRecDepth 100000 in
theorem mw_L_137 : MSW RL 137 yL_wipe cL_wipe 3 (some .int) [(0, 8, 11, 28)] 2 := ⟨(ALLW_c5 51 rfl rfl), (ALLW_c5 52 rfl rfl), (ALLW_c1 0 rfl rfl), (ALLW_c5 53 rfl rfl), ⟨by decide +kernel, by decide +kernel, by decide +kernel⟩⟩
set_option maxRecDepth 100000 in
theorem mv_L_43 : MV RL 43 yX8_wipe cX8_wipe 2 (some .int) 0 := ⟨(ALLW_c5 54 rfl rfl), (ALLW_c5 55 rfl rfl), (ALLW_c5 56 rfl rfl), (ALLW_c1 1 rfl rfl), k_X8_wipe, ⟨by decide +kernel, by decide +kernel, by decide +kernel⟩⟩
set_option maxRecDepth 100000 in
theorem mw_L_140 : MSW RL 140 yL_undo cL_undo 3 (some .int) [(0, 8, 11, 28)] 2 := ⟨(ALLW_c5 58 rfl rfl), (ALLW_c5 59 rfl rfl), (ALLW_c1 0 rfl rfl), (ALLW_c5 60 rfl rfl), ⟨by decide +kernel, by decide +kernel, by decide +kernel⟩⟩
set_option maxRecDepth 100000 in
theorem mv_L_46 : MV RL 46 yX8_undo cX8_undo 1 (some .int) 0 := ⟨(ALLW_c5 61 rfl rfl), (ALLW_c5 62 rfl rfl), (ALLW_c5 63 rfl rfl), (ALLW_c1 1 rfl rfl), k_X8_undo, ⟨by decide +kernel, by decide +kernel, by decide +kernel⟩⟩
set_option maxRecDepth 100000 in
theorem mw_L_143 : MSW RL 143 yL_piece cL_piece 5 (some .int) [(0, 10, 13, 52), (0, 10, 17, 23)] 4 := ⟨(ALLW_c5 66 rfl rfl), (ALLW_c5 67 rfl rfl), (ALLW_c1 0 rfl rfl), (ALLW_c5 68 rfl rfl), ⟨by decide +kernel, by decide +kernel, by decide +kernel⟩⟩
set_option maxRecDepth 100000 in
theorem mv_L_49 : MV RL 49 yX8_piece cX8_piece 4 (some .int) 2 := ⟨(ALLW_c5 70 rfl rfl), (ALLW_c5 71 rfl rfl), (ALLW_c5 72 rfl rfl), (ALLW_c1 1 rfl rfl), k_X8_piece, ⟨by decide +kernel, by decide +kernel, by decide +kernel⟩⟩
set_option maxRecDepth 100000 in
theorem mv_X8_175 : MV RX8 175 yX8_pieceOrThrow cX8_pieceOrThrow 3 (some (.object "PieceFiles$Piece")) 1 := ⟨(ALLW_c5 74 rfl rfl), (ALLW_c5 76 rfl rfl), (ALLW_s 37 (by decide +kernel) (by decide +kernel)), (ALLW_c1 1 rfl rfl), k_X8_pieceOrThrow, ⟨by decide +kernel, by decide +kernel, by decide +kernel⟩⟩
set_option maxRecDepth 100000 in
theorem mv_X8_201 : MV RX8 201 yX8_knownPair cX8_knownPair 4 (some .int) 1 := ⟨(ALLW_c5 94 rfl rfl), (ALLW_c5 96 rfl rfl), (ALLW_s 38 (by decide +kernel) (by decide +kernel)), (ALLW_c1 1 rfl rfl), k_X8_knownPair, ⟨by decide +kernel, by decide +kernel, by decide +kernel⟩⟩
set_option maxRecDepth 100000 in
theorem mw_L_146 : MSW RL 146 yL_octet cL_octet 6 (some .int) [(0, 12, 15, 52)] 5 := ⟨(ALLW_c5 99 rfl rfl), (ALLW_c5 100 rfl rfl), (ALLW_c1 0 rfl rfl), (ALLW_c5 101 rfl rfl), ⟨by decide +kernel, by decide +kernel, by decide +kernel⟩⟩
set_option maxRecDepth 100000 in
theorem mv_L_54 : MV RL 54 yX8_octet cX8_octet 5 (some .int) 3 := ⟨(ALLW_c5 102 rfl rfl), (ALLW_c5 103 rfl rfl), (ALLW_c5 104 rfl rfl), (ALLW_c1 1 rfl rfl), k_X8_octet, ⟨by decide +kernel, by decide +kernel, by decide +kernel⟩⟩
set_option maxRecDepth 100000 in
theorem mv_X8_213 : MV RX8 213 yX8_nowByte cX8_nowByte 5 (some .int) 3 := ⟨(ALLW_c5 106 rfl rfl), (ALLW_c5 108 rfl rfl), (ALLW_s 39 (by decide +kernel) (by decide +kernel)), (ALLW_c1 1 rfl rfl), k_X8_nowByte, ⟨by decide +kernel, by decide +kernel, by decide +kernel⟩⟩
set_option maxRecDepth 100000 in
theorem mv_X8_217 : MV RX8 217 yX1_textByte cX1_textByte 3 (some .int) 2 := ⟨(ALLW_c5 110 rfl rfl), (ALLW_c5 111 rfl rfl), (ALLW_c5 112 rfl rfl), (ALLW_c1 4 rfl rfl), k_X1_textByte, ⟨by decide +kernel, by decide +kernel, by decide +kernel⟩⟩
set_option maxRecDepth 100000 in
theorem mw_L_150 : MSW RL 150 yL_origin cL_origin 5 (some .int) [(0, 10, 13, 52)] 4 := ⟨(ALLW_c5 114 rfl rfl), (ALLW_c5 115 rfl rfl), (ALLW_c1 0 rfl rfl), (ALLW_c5 116 rfl rfl), ⟨by decide +kernel, by decide +kernel, by decide +kernel⟩⟩
set_option maxRecDepth 100000 in
theorem mv_L_58 : MV RL 58 yX8_origin cX8_origin 4 (some .int) 2 := ⟨(ALLW_c5 117 rfl rfl), (ALLW_c5 118 rfl rfl), (ALLW_c5 119 rfl rfl), (ALLW_c1 1 rfl rfl), k_X8_origin, ⟨by decide +kernel, by decide +kernel, by decide +kernel⟩⟩
set_option maxRecDepth 100000 in
theorem mw_L_153 : MSW RL 153 yL_key cL_key 5 (some .int) [(0, 10, 13, 52), (0, 10, 17, 23)] 4 := ⟨(ALLW_c5 121 rfl rfl), (ALLW_c5 122 rfl rfl), (ALLW_c1 0 rfl rfl), (ALLW_c5 123 rfl rfl), ⟨by decide +kernel, by decide +kernel, by decide +kernel⟩⟩
set_option maxRecDepth 100000 in
theorem mv_L_61 : MV RL 61 yX8_key cX8_key 4 (some .int) 2 := ⟨(ALLW_c5 124 rfl rfl), (ALLW_c5 125 rfl rfl), (ALLW_c5 126 rfl rfl), (ALLW_c1 1 rfl rfl), k_X8_key, ⟨by decide +kernel, by decide +kernel, by decide +kernel⟩⟩
set_option maxRecDepth 100000 in
theorem mw_L_164 : MSW RL 164 yL_like cL_like 5 (some .int) [(0, 10, 13, 52)] 4 := ⟨(ALLW_c5 129 rfl rfl), (ALLW_c5 130 rfl rfl), (ALLW_c1 0 rfl rfl), (ALLW_c5 131 rfl rfl), ⟨by decide +kernel, by decide +kernel, by decide +kernel⟩⟩
set_option maxRecDepth 100000 in
theorem mv_L_64 : MV RL 64 yX8_like cX8_like 5 (some .int) 2 := ⟨(ALLW_c5 132 rfl rfl), (ALLW_c5 133 rfl rfl), (ALLW_c5 134 rfl rfl), (ALLW_c1 1 rfl rfl), k_X8_like, ⟨by decide +kernel, by decide +kernel, by decide +kernel⟩⟩
set_option maxRecDepth 100000 in
theorem mw_L_170 : MSW RL 170 yL_would cL_would 4 (some .int) [(0, 9, 12, 52), (0, 9, 15, 13)] 3 := ⟨(ALLW_c5 136 rfl rfl), (ALLW_c5 137 rfl rfl), (ALLW_c1 0 rfl rfl), (ALLW_c5 138 rfl rfl), ⟨by decide +kernel, by decide +kernel, by decide +kernel⟩⟩
set_option maxRecDepth 100000 in
theorem mv_L_67 : MV RL 67 yX8_would cX8_would 4 (some .int) 1 := ⟨(ALLW_c5 139 rfl rfl), (ALLW_c5 140 rfl rfl), (ALLW_c5 141 rfl rfl), (ALLW_c1 1 rfl rfl), k_X8_would, ⟨by decide +kernel, by decide +kernel, by decide +kernel⟩⟩
set_option maxRecDepth 100000 in
theorem mw_L_173 : MSW RL 173 yL_found cL_found 3 (some .int) [(0, 7, 10, 13)] 2 := ⟨(ALLW_c5 143 rfl rfl), (ALLW_c5 144 rfl rfl), (ALLW_c1 0 rfl rfl), (ALLW_c5 145 rfl rfl), ⟨by decide +kernel, by decide +kernel, by decide +kernel⟩⟩
set_option maxRecDepth 100000 in
theorem mv_L_70 : MV RL 70 yX8_found cX8_found 5 (some .long) 0 := ⟨(ALLW_c5 146 rfl rfl), (ALLW_c5 147 rfl rfl), (ALLW_c5 148 rfl rfl), (ALLW_c1 1 rfl rfl), k_X8_found, ⟨by decide +kernel, by decide +kernel, by decide +kernel⟩⟩
set_option maxRecDepth 100000 in
theorem mv_X8_254 : MV RX8 254 yX8_hasWord cX8_hasWord 5 (some .boolean) 2 := ⟨(ALLW_c5 150 rfl rfl), (ALLW_c5 152 rfl rfl), (ALLW_s 40 (by decide +kernel) (by decide +kernel)), (ALLW_c1 1 rfl rfl), k_X8_hasWord, ⟨by decide +kernel, by decide +kernel, by decide +kernel⟩⟩
set_option maxRecDepth 100000 in
theorem mv_X8_388 : MV RX8 388 yX5_hasWord cX5_hasWord 5 (some .boolean) 3 := ⟨(ALLW_c5 154 rfl rfl), (ALLW_c5 155 rfl rfl), (ALLW_c5 156 rfl rfl), (ALLW_c1 2 rfl rfl), k_X5_hasWord, ⟨by decide +kernel, by decide +kernel, by decide +kernel⟩⟩
set_option maxRecDepth 100000 in
theorem mv_X5_37 : MV RX5 37 yX5_size cX5_size 1 (some .int) 0 := ⟨(ALLW_c5 158 rfl rfl), (ALLW_c2 114 rfl rfl), (ALLW_c2 115 rfl rfl), (ALLW_c1 2 rfl rfl), k_X5_size, ⟨by decide +kernel, by decide +kernel, by decide +kernel⟩⟩
set_option maxRecDepth 100000 in
theorem mv_X5_40 : MV RX5 40 yX5_hasSmall cX5_hasSmall 4 (some .boolean) 2 := ⟨(ALLW_c5 159 rfl rfl), (ALLW_c5 161 rfl rfl), (ALLW_s 41 (by decide +kernel) (by decide +kernel)), (ALLW_c1 2 rfl rfl), k_X5_hasSmall, ⟨by decide +kernel, by decide +kernel, by decide +kernel⟩⟩
set_option maxRecDepth 100000 in
theorem mw_L_181 : MSW RL 181 yL_kept cL_kept 4 (some .int) [(0, 16, 19, 52)] 3 := ⟨(ALLW_c5 166 rfl rfl), (ALLW_c5 167 rfl rfl), (ALLW_c1 0 rfl rfl), (ALLW_c5 168 rfl rfl), ⟨by decide +kernel, by decide +kernel, by decide +kernel⟩⟩
set_option maxRecDepth 100000 in
theorem mv_L_74 : MV RL 74 yX8_kept cX8_kept 5 (some .boolean) 1 := ⟨(ALLW_c5 169 rfl rfl), (ALLW_c5 170 rfl rfl), (ALLW_c5 171 rfl rfl), (ALLW_c1 1 rfl rfl), k_X8_kept, ⟨by decide +kernel, by decide +kernel, by decide +kernel⟩⟩
set_option maxRecDepth 100000 in
theorem mv_X8_279 : MV RX8 279 yX3_mayBeginInBuilt cX3_mayBeginInBuilt 2 (some .boolean) 1 := ⟨(ALLW_c5 173 rfl rfl), (ALLW_c5 174 rfl rfl), (ALLW_c5 175 rfl rfl), (ALLW_c1 6 rfl rfl), k_X3_mayBeginInBuilt, ⟨by decide +kernel, by decide +kernel, by decide +kernel⟩⟩
set_option maxRecDepth 100000 in
theorem mi_L_81 : MI RL 81 yX9_init cX9_init 2 0 := ⟨(ALLW_c5 179 rfl rfl), (ALLW_c5 180 rfl rfl), (ALLW_c1 9 rfl rfl), k_X9_init, rfl, ⟨by decide +kernel, by decide +kernel, by decide +kernel⟩⟩
set_option maxRecDepth 100000 in
theorem oi_X9_1 : Cond.methodLink RX9 1 Lib.objectInit ∈ ALLW := (ALLW_c5 182 rfl rfl)
set_option maxRecDepth 100000 in
theorem mv_L_167 : MV RL 167 yX9_thrown cX9_thrown 1 (some .int) 0 := ⟨(ALLW_c6 124 rfl rfl), (ALLW_c6 125 rfl rfl), (ALLW_c6 126 rfl rfl), (ALLW_c1 9 rfl rfl), k_X9_thrown, ⟨by decide +kernel, by decide +kernel, by decide +kernel⟩⟩
set_option maxRecDepth 100000 in
theorem mv_L_86 : MV RL 86 yX9_feed cX9_feed 8 (some .int) 5 := ⟨(ALLW_c6 128 rfl rfl), (ALLW_c6 129 rfl rfl), (ALLW_c6 130 rfl rfl), (ALLW_c1 9 rfl rfl), k_X9_feed, ⟨by decide +kernel, by decide +kernel, by decide +kernel⟩⟩
set_option maxRecDepth 100000 in
theorem mv_L_90 : MV RL 90 yX9_end cX9_end 2 (some .boolean) 1 := ⟨(ALLW_c6 132 rfl rfl), (ALLW_c6 133 rfl rfl), (ALLW_c6 134 rfl rfl), (ALLW_c1 9 rfl rfl), k_X9_end, ⟨by decide +kernel, by decide +kernel, by decide +kernel⟩⟩
set_option maxRecDepth 100000 in
theorem ms_X9_141 : MS RX9 141 yX9_isIn cX9_isIn 3 (some .boolean) 3 := ⟨(ALLW_c6 136 rfl rfl), (ALLW_c6 137 rfl rfl), (ALLW_c1 9 rfl rfl), k_X9_isIn, ⟨by decide +kernel, by decide +kernel, by decide +kernel⟩⟩
set_option maxRecDepth 100000 in
theorem mv_L_96 : MV RL 96 yX9_acts cX9_acts 4 (some .int) 0 := ⟨(ALLW_c6 139 rfl rfl), (ALLW_c6 140 rfl rfl), (ALLW_c6 141 rfl rfl), (ALLW_c1 9 rfl rfl), k_X9_acts, ⟨by decide +kernel, by decide +kernel, by decide +kernel⟩⟩
set_option maxRecDepth 100000 in
theorem mv_X9_420 : MV RX9 420 yX9_putsAside cX9_putsAside 2 none 0 := ⟨(ALLW_c6 143 rfl rfl), (ALLW_c6 145 rfl rfl), (ALLW_s 42 (by decide +kernel) (by decide +kernel)), (ALLW_c1 9 rfl rfl), k_X9_putsAside, ⟨by decide +kernel, by decide +kernel, by decide +kernel⟩⟩
set_option maxRecDepth 100000 in
theorem mv_X9_346 : MV RX9 346 yX9_here cX9_here 1 (some .int) 0 := ⟨(ALLW_c6 147 rfl rfl), (ALLW_c6 149 rfl rfl), (ALLW_s 43 (by decide +kernel) (by decide +kernel)), (ALLW_c1 9 rfl rfl), k_X9_here, ⟨by decide +kernel, by decide +kernel, by decide +kernel⟩⟩
set_option maxRecDepth 100000 in
theorem mv_X9_352 : MV RX9 352 yX9_wrong cX9_wrong 2 none 1 := ⟨(ALLW_c6 151 rfl rfl), (ALLW_c6 153 rfl rfl), (ALLW_s 44 (by decide +kernel) (by decide +kernel)), (ALLW_c1 9 rfl rfl), k_X9_wrong, ⟨by decide +kernel, by decide +kernel, by decide +kernel⟩⟩
set_option maxRecDepth 100000 in
theorem mv_X9_423 : MV RX9 423 yX9_act cX9_act 3 (some .int) 0 := ⟨(ALLW_c6 155 rfl rfl), (ALLW_c6 157 rfl rfl), (ALLW_s 45 (by decide +kernel) (by decide +kernel)), (ALLW_c1 9 rfl rfl), k_X9_act, ⟨by decide +kernel, by decide +kernel, by decide +kernel⟩⟩
set_option maxRecDepth 100000 in
theorem mv_X9_375 : MV RX9 375 yX9_has cX9_has 4 (some .boolean) 1 := ⟨(ALLW_c6 160 rfl rfl), (ALLW_c6 162 rfl rfl), (ALLW_s 46 (by decide +kernel) (by decide +kernel)), (ALLW_c1 9 rfl rfl), k_X9_has, ⟨by decide +kernel, by decide +kernel, by decide +kernel⟩⟩
set_option maxRecDepth 100000 in
theorem mv_X9_349 : MV RX9 349 yX9_wordEnd cX9_wordEnd 2 (some .int) 0 := ⟨(ALLW_c6 164 rfl rfl), (ALLW_c6 166 rfl rfl), (ALLW_s 47 (by decide +kernel) (by decide +kernel)), (ALLW_c1 9 rfl rfl), k_X9_wordEnd, ⟨by decide +kernel, by decide +kernel, by decide +kernel⟩⟩
set_option maxRecDepth 100000 in
theorem mv_X9_173 : MV RX9 173 yJ0_length_8abf5 cJ0_length_8abf5 1 (some .int) 0 := ⟨(ALLW_c6 168 rfl rfl), (ALLW_c4 120 rfl rfl), (ALLW_c4 121 rfl rfl), (ALLW_c1 10 rfl rfl), k_J0_length_8abf5, ⟨by decide +kernel, by decide +kernel, by decide +kernel⟩⟩
set_option maxRecDepth 100000 in
theorem mv_X9_179 : MV RX9 179 yJ0_charAt_5068e cJ0_charAt_5068e 2 (some .char) 1 := ⟨(ALLW_c6 169 rfl rfl), (ALLW_c4 130 rfl rfl), (ALLW_c4 131 rfl rfl), (ALLW_c1 10 rfl rfl), k_J0_charAt_5068e, ⟨by decide +kernel, by decide +kernel, by decide +kernel⟩⟩
set_option maxRecDepth 100000 in
theorem mv_X9_379 : MV RX9 379 yX9_ruleText cX9_ruleText 5 (some .int) 3 := ⟨(ALLW_c6 170 rfl rfl), (ALLW_c6 172 rfl rfl), (ALLW_s 48 (by decide +kernel) (by decide +kernel)), (ALLW_c1 9 rfl rfl), k_X9_ruleText, ⟨by decide +kernel, by decide +kernel, by decide +kernel⟩⟩
set_option maxRecDepth 100000 in
theorem mv_X9_358 : MV RX9 358 yX9_number cX9_number 5 (some .int) 2 := ⟨(ALLW_c6 174 rfl rfl), (ALLW_c6 176 rfl rfl), (ALLW_s 49 (by decide +kernel) (by decide +kernel)), (ALLW_c1 9 rfl rfl), k_X9_number, ⟨by decide +kernel, by decide +kernel, by decide +kernel⟩⟩
set_option maxRecDepth 100000 in
theorem mv_X9_361 : MV RX9 361 yX9_rules cX9_rules 3 (some .int) 2 := ⟨(ALLW_c6 178 rfl rfl), (ALLW_c6 180 rfl rfl), (ALLW_s 50 (by decide +kernel) (by decide +kernel)), (ALLW_c1 9 rfl rfl), k_X9_rules, ⟨by decide +kernel, by decide +kernel, by decide +kernel⟩⟩
set_option maxRecDepth 100000 in
theorem mv_X9_322 : MV RX9 322 yX9_cutsAnew cX9_cutsAnew 2 none 0 := ⟨(ALLW_c6 182 rfl rfl), (ALLW_c6 184 rfl rfl), (ALLW_s 51 (by decide +kernel) (by decide +kernel)), (ALLW_c1 9 rfl rfl), k_X9_cutsAnew, ⟨by decide +kernel, by decide +kernel, by decide +kernel⟩⟩
set_option maxRecDepth 100000 in
theorem mv_X9_244 : MV RX9 244 yX9_cutsFile cX9_cutsFile 2 none 0 := ⟨(ALLW_c6 186 rfl rfl), (ALLW_c6 188 rfl rfl), (ALLW_s 52 (by decide +kernel) (by decide +kernel)), (ALLW_c1 9 rfl rfl), k_X9_cutsFile, ⟨by decide +kernel, by decide +kernel, by decide +kernel⟩⟩
set_option maxRecDepth 100000 in
theorem mv_X9_241 : MV RX9 241 yX9_cutsAll cX9_cutsAll 5 none 0 := ⟨(ALLW_c6 190 rfl rfl), (ALLW_c6 192 rfl rfl), (ALLW_s 53 (by decide +kernel) (by decide +kernel)), (ALLW_c1 9 rfl rfl), k_X9_cutsAll, ⟨by decide +kernel, by decide +kernel, by decide +kernel⟩⟩
set_option maxRecDepth 100000 in
theorem mv_X9_223 : MV RX9 223 yX9_cuts cX9_cuts 7 (some .int) 6 := ⟨(ALLW_c6 194 rfl rfl), (ALLW_c6 196 rfl rfl), (ALLW_s 54 (by decide +kernel) (by decide +kernel)), (ALLW_c1 9 rfl rfl), k_X9_cuts, ⟨by decide +kernel, by decide +kernel, by decide +kernel⟩⟩
set_option maxRecDepth 100000 in
theorem mv_X9_160 : MV RX9 160 yX9_cutsLines cX9_cutsLines 13 none 5 := ⟨(ALLW_c6 198 rfl rfl), (ALLW_c6 200 rfl rfl), (ALLW_s 55 (by decide +kernel) (by decide +kernel)), (ALLW_c1 9 rfl rfl), k_X9_cutsLines, ⟨by decide +kernel, by decide +kernel, by decide +kernel⟩⟩
set_option maxRecDepth 100000 in
theorem ms_X9_148 : MS RX9 148 yX9_endOf cX9_endOf 6 (some .int) 5 := ⟨(ALLW_c6 202 rfl rfl), (ALLW_c6 203 rfl rfl), (ALLW_c1 9 rfl rfl), k_X9_endOf, ⟨by decide +kernel, by decide +kernel, by decide +kernel⟩⟩
set_option maxRecDepth 100000 in
theorem mv_X9_152 : MV RX9 152 yX9_finds cX9_finds 7 none 6 := ⟨(ALLW_c6 205 rfl rfl), (ALLW_c6 207 rfl rfl), (ALLW_s 56 (by decide +kernel) (by decide +kernel)), (ALLW_c1 9 rfl rfl), k_X9_finds, ⟨by decide +kernel, by decide +kernel, by decide +kernel⟩⟩
set_option maxRecDepth 100000 in
theorem mv_X9_164 : MV RX9 164 yX9_cutsTable cX9_cutsTable 9 none 5 := ⟨(ALLW_c6 209 rfl rfl), (ALLW_c6 211 rfl rfl), (ALLW_s 57 (by decide +kernel) (by decide +kernel)), (ALLW_c1 9 rfl rfl), k_X9_cutsTable, ⟨by decide +kernel, by decide +kernel, by decide +kernel⟩⟩
set_option maxRecDepth 100000 in
theorem mv_X9_167 : MV RX9 167 yX9_cutsMarkup cX9_cutsMarkup 10 none 5 := ⟨(ALLW_c6 213 rfl rfl), (ALLW_c6 215 rfl rfl), (ALLW_s 58 (by decide +kernel) (by decide +kernel)), (ALLW_c1 9 rfl rfl), k_X9_cutsMarkup, ⟨by decide +kernel, by decide +kernel, by decide +kernel⟩⟩
set_option maxRecDepth 100000 in
theorem ms_X9_156 : MS RX9 156 yX9_isBare cX9_isBare 1 (some .boolean) 1 := ⟨(ALLW_c6 217 rfl rfl), (ALLW_c6 218 rfl rfl), (ALLW_c1 9 rfl rfl), k_X9_isBare, ⟨by decide +kernel, by decide +kernel, by decide +kernel⟩⟩
set_option maxRecDepth 100000 in
theorem mv_X9_170 : MV RX9 170 yX9_cutsQuotes cX9_cutsQuotes 9 none 5 := ⟨(ALLW_c6 220 rfl rfl), (ALLW_c6 222 rfl rfl), (ALLW_s 59 (by decide +kernel) (by decide +kernel)), (ALLW_c1 9 rfl rfl), k_X9_cutsQuotes, ⟨by decide +kernel, by decide +kernel, by decide +kernel⟩⟩
set_option maxRecDepth 100000 in
theorem mv_X9_230 : MV RX9 230 yX9_undoes cX9_undoes 14 (some .int) 10 := ⟨(ALLW_c6 224 rfl rfl), (ALLW_c6 226 rfl rfl), (ALLW_s 60 (by decide +kernel) (by decide +kernel)), (ALLW_c1 9 rfl rfl), k_X9_undoes, ⟨by decide +kernel, by decide +kernel, by decide +kernel⟩⟩
set_option maxRecDepth 100000 in
theorem mv_X9_200 : MV RX9 200 yX9_means cX9_means 7 (some .int) 5 := ⟨(ALLW_c6 228 rfl rfl), (ALLW_c6 230 rfl rfl), (ALLW_s 61 (by decide +kernel) (by decide +kernel)), (ALLW_c1 9 rfl rfl), k_X9_means, ⟨by decide +kernel, by decide +kernel, by decide +kernel⟩⟩
set_option maxRecDepth 100000 in
theorem ms_X9_188 : MS RX9 188 yX9_stands cX9_stands 5 (some .boolean) 4 := ⟨(ALLW_c6 233 rfl rfl), (ALLW_c6 234 rfl rfl), (ALLW_c1 9 rfl rfl), k_X9_stands, ⟨by decide +kernel, by decide +kernel, by decide +kernel⟩⟩
set_option maxRecDepth 100000 in
theorem mv_X9_196 : MV RX9 196 yX9_backMeaning cX9_backMeaning 3 (some .int) 2 := ⟨(ALLW_c6 238 rfl rfl), (ALLW_c7 0 rfl rfl), (ALLW_s 62 (by decide +kernel) (by decide +kernel)), (ALLW_c1 9 rfl rfl), k_X9_backMeaning, ⟨by decide +kernel, by decide +kernel, by decide +kernel⟩⟩
set_option maxRecDepth 100000 in
theorem mv_X9_237 : MV RX9 237 yX9_takes cX9_takes 10 none 7 := ⟨(ALLW_c7 2 rfl rfl), (ALLW_c7 4 rfl rfl), (ALLW_s 63 (by decide +kernel) (by decide +kernel)), (ALLW_c1 9 rfl rfl), k_X9_takes, ⟨by decide +kernel, by decide +kernel, by decide +kernel⟩⟩
set_option maxRecDepth 100000 in
theorem mv_X9_210 : MV RX9 210 yX9_isLocked cX9_isLocked 6 (some .boolean) 1 := ⟨(ALLW_c7 6 rfl rfl), (ALLW_c7 8 rfl rfl), (ALLW_s 64 (by decide +kernel) (by decide +kernel)), (ALLW_c1 9 rfl rfl), k_X9_isLocked, ⟨by decide +kernel, by decide +kernel, by decide +kernel⟩⟩
set_option maxRecDepth 100000 in
theorem mv_X9_213 : MV RX9 213 yX9_isPiece cX9_isPiece 4 (some .boolean) 2 := ⟨(ALLW_c7 10 rfl rfl), (ALLW_c7 12 rfl rfl), (ALLW_s 65 (by decide +kernel) (by decide +kernel)), (ALLW_c1 9 rfl rfl), k_X9_isPiece, ⟨by decide +kernel, by decide +kernel, by decide +kernel⟩⟩
set_option maxRecDepth 100000 in
theorem ms_X9_207 : MS RX9 207 yX9_isLetter cX9_isLetter 1 (some .boolean) 1 := ⟨(ALLW_c7 14 rfl rfl), (ALLW_c7 15 rfl rfl), (ALLW_c1 9 rfl rfl), k_X9_isLetter, ⟨by decide +kernel, by decide +kernel, by decide +kernel⟩⟩
set_option maxRecDepth 100000 in
theorem mv_X9_394 : MV RX9 394 yX9_lockText cX9_lockText 4 (some .int) 0 := ⟨(ALLW_c7 23 rfl rfl), (ALLW_c7 25 rfl rfl), (ALLW_s 66 (by decide +kernel) (by decide +kernel)), (ALLW_c1 9 rfl rfl), k_X9_lockText, ⟨by decide +kernel, by decide +kernel, by decide +kernel⟩⟩
set_option maxRecDepth 100000 in
theorem mv_X9_355 : MV RX9 355 yX9_lock0 cX9_lock0 6 (some .int) 2 := ⟨(ALLW_c7 27 rfl rfl), (ALLW_c7 29 rfl rfl), (ALLW_s 67 (by decide +kernel) (by decide +kernel)), (ALLW_c1 9 rfl rfl), k_X9_lock0, ⟨by decide +kernel, by decide +kernel, by decide +kernel⟩⟩
set_option maxRecDepth 100000 in
theorem mv_X9_399 : MV RX9 399 yX9_unlocks cX9_unlocks 1 (some .int) 0 := ⟨(ALLW_c7 32 rfl rfl), (ALLW_c7 34 rfl rfl), (ALLW_s 68 (by decide +kernel) (by decide +kernel)), (ALLW_c1 9 rfl rfl), k_X9_unlocks, ⟨by decide +kernel, by decide +kernel, by decide +kernel⟩⟩
set_option maxRecDepth 100000 in
theorem mv_X9_404 : MV RX9 404 yX9_pieceText cX9_pieceText 3 (some .int) 1 := ⟨(ALLW_c7 37 rfl rfl), (ALLW_c7 39 rfl rfl), (ALLW_s 69 (by decide +kernel) (by decide +kernel)), (ALLW_c1 9 rfl rfl), k_X9_pieceText, ⟨by decide +kernel, by decide +kernel, by decide +kernel⟩⟩
set_option maxRecDepth 100000 in
theorem mv_X9_367 : MV RX9 367 yX9_free0 cX9_free0 2 (some .int) 1 := ⟨(ALLW_c7 41 rfl rfl), (ALLW_c7 43 rfl rfl), (ALLW_s 70 (by decide +kernel) (by decide +kernel)), (ALLW_c1 9 rfl rfl), k_X9_free0, ⟨by decide +kernel, by decide +kernel, by decide +kernel⟩⟩
set_option maxRecDepth 100000 in
theorem mv_X9_293 : MV RX9 293 yX9_isPieceThere cX9_isPieceThere 2 (some .boolean) 1 := ⟨(ALLW_c7 45 rfl rfl), (ALLW_c7 47 rfl rfl), (ALLW_s 71 (by decide +kernel) (by decide +kernel)), (ALLW_c1 9 rfl rfl), k_X9_isPieceThere, ⟨by decide +kernel, by decide +kernel, by decide +kernel⟩⟩
set_option maxRecDepth 100000 in
theorem mv_X9_247 : MV RX9 247 yX9_toldOf cX9_toldOf 2 (some .int) 1 := ⟨(ALLW_c7 49 rfl rfl), (ALLW_c7 51 rfl rfl), (ALLW_s 72 (by decide +kernel) (by decide +kernel)), (ALLW_c1 9 rfl rfl), k_X9_toldOf, ⟨by decide +kernel, by decide +kernel, by decide +kernel⟩⟩
set_option maxRecDepth 100000 in
theorem mv_X9_300 : MV RX9 300 yX9_builtMany cX9_builtMany 3 (some .int) 0 := ⟨(ALLW_c7 53 rfl rfl), (ALLW_c7 55 rfl rfl), (ALLW_s 73 (by decide +kernel) (by decide +kernel)), (ALLW_c1 9 rfl rfl), k_X9_builtMany, ⟨by decide +kernel, by decide +kernel, by decide +kernel⟩⟩
set_option maxRecDepth 100000 in
theorem mv_X9_290 : MV RX9 290 yX9_builtOf cX9_builtOf 2 (some .int) 1 := ⟨(ALLW_c7 57 rfl rfl), (ALLW_c7 59 rfl rfl), (ALLW_s 74 (by decide +kernel) (by decide +kernel)), (ALLW_c1 9 rfl rfl), k_X9_builtOf, ⟨by decide +kernel, by decide +kernel, by decide +kernel⟩⟩
set_option maxRecDepth 100000 in
theorem mv_X9_283 : MV RX9 283 yX9_holdsTold cX9_holdsTold 3 none 1 := ⟨(ALLW_c7 61 rfl rfl), (ALLW_c7 63 rfl rfl), (ALLW_s 75 (by decide +kernel) (by decide +kernel)), (ALLW_c1 9 rfl rfl), k_X9_holdsTold, ⟨by decide +kernel, by decide +kernel, by decide +kernel⟩⟩
set_option maxRecDepth 100000 in
theorem mv_X9_251 : MV RX9 251 yX9_toldAt cX9_toldAt 3 (some .int) 2 := ⟨(ALLW_c7 65 rfl rfl), (ALLW_c7 67 rfl rfl), (ALLW_s 76 (by decide +kernel) (by decide +kernel)), (ALLW_c1 9 rfl rfl), k_X9_toldAt, ⟨by decide +kernel, by decide +kernel, by decide +kernel⟩⟩
set_option maxRecDepth 100000 in
theorem mv_X9_287 : MV RX9 287 yX9_escapedFor cX9_escapedFor 4 (some .int) 2 := ⟨(ALLW_c7 69 rfl rfl), (ALLW_c7 71 rfl rfl), (ALLW_s 77 (by decide +kernel) (by decide +kernel)), (ALLW_c1 9 rfl rfl), k_X9_escapedFor, ⟨by decide +kernel, by decide +kernel, by decide +kernel⟩⟩
set_option maxRecDepth 100000 in
theorem mv_X9_279 : MV RX9 279 yX9_escapes cX9_escapes 9 (some .int) 6 := ⟨(ALLW_c7 73 rfl rfl), (ALLW_c7 75 rfl rfl), (ALLW_s 78 (by decide +kernel) (by decide +kernel)), (ALLW_c1 9 rfl rfl), k_X9_escapes, ⟨by decide +kernel, by decide +kernel, by decide +kernel⟩⟩
set_option maxRecDepth 100000 in
theorem ms_X9_269 : MS RX9 269 yX9_hasSign cX9_hasSign 3 (some .boolean) 2 := ⟨(ALLW_c7 77 rfl rfl), (ALLW_c7 78 rfl rfl), (ALLW_c1 9 rfl rfl), k_X9_hasSign, ⟨by decide +kernel, by decide +kernel, by decide +kernel⟩⟩
set_option maxRecDepth 100000 in
theorem mv_X9_261 : MV RX9 261 yX9_plain cX9_plain 3 none 2 := ⟨(ALLW_c7 80 rfl rfl), (ALLW_c7 82 rfl rfl), (ALLW_s 79 (by decide +kernel) (by decide +kernel)), (ALLW_c1 9 rfl rfl), k_X9_plain, ⟨by decide +kernel, by decide +kernel, by decide +kernel⟩⟩
set_option maxRecDepth 100000 in
theorem mv_X9_272 : MV RX9 272 yX9_escapesMarkup cX9_escapesMarkup 3 none 2 := ⟨(ALLW_c7 84 rfl rfl), (ALLW_c7 86 rfl rfl), (ALLW_s 80 (by decide +kernel) (by decide +kernel)), (ALLW_c1 9 rfl rfl), k_X9_escapesMarkup, ⟨by decide +kernel, by decide +kernel, by decide +kernel⟩⟩
set_option maxRecDepth 100000 in
theorem mv_X9_257 : MV RX9 257 yX9_word cX9_word 4 none 2 := ⟨(ALLW_c7 88 rfl rfl), (ALLW_c7 90 rfl rfl), (ALLW_s 81 (by decide +kernel) (by decide +kernel)), (ALLW_c1 9 rfl rfl), k_X9_word, ⟨by decide +kernel, by decide +kernel, by decide +kernel⟩⟩
set_option maxRecDepth 100000 in
theorem mv_X9_275 : MV RX9 275 yX9_escapesBack cX9_escapesBack 5 none 4 := ⟨(ALLW_c7 92 rfl rfl), (ALLW_c7 94 rfl rfl), (ALLW_s 82 (by decide +kernel) (by decide +kernel)), (ALLW_c1 9 rfl rfl), k_X9_escapesBack, ⟨by decide +kernel, by decide +kernel, by decide +kernel⟩⟩
set_option maxRecDepth 100000 in
theorem mv_X9_265 : MV RX9 265 yX9_puts cX9_puts 4 none 3 := ⟨(ALLW_c7 96 rfl rfl), (ALLW_c7 98 rfl rfl), (ALLW_s 83 (by decide +kernel) (by decide +kernel)), (ALLW_c1 9 rfl rfl), k_X9_puts, ⟨by decide +kernel, by decide +kernel, by decide +kernel⟩⟩
set_option maxRecDepth 100000 in
theorem mv_X9_370 : MV RX9 370 yX9_spread0 cX9_spread0 4 (some .int) 1 := ⟨(ALLW_c7 100 rfl rfl), (ALLW_c7 102 rfl rfl), (ALLW_s 84 (by decide +kernel) (by decide +kernel)), (ALLW_c1 9 rfl rfl), k_X9_spread0, ⟨by decide +kernel, by decide +kernel, by decide +kernel⟩⟩
set_option maxRecDepth 100000 in
theorem mv_X9_309 : MV RX9 309 yX9_areLike cX9_areLike 5 (some .boolean) 2 := ⟨(ALLW_c7 104 rfl rfl), (ALLW_c7 106 rfl rfl), (ALLW_s 85 (by decide +kernel) (by decide +kernel)), (ALLW_c1 9 rfl rfl), k_X9_areLike, ⟨by decide +kernel, by decide +kernel, by decide +kernel⟩⟩
set_option maxRecDepth 100000 in
theorem mv_X9_296 : MV RX9 296 yX9_tells cX9_tells 4 none 2 := ⟨(ALLW_c7 108 rfl rfl), (ALLW_c7 110 rfl rfl), (ALLW_s 86 (by decide +kernel) (by decide +kernel)), (ALLW_c1 9 rfl rfl), k_X9_tells, ⟨by decide +kernel, by decide +kernel, by decide +kernel⟩⟩
set_option maxRecDepth 100000 in
theorem mv_X9_412 : MV RX9 412 yX9_swapText cX9_swapText 3 (some .int) 0 := ⟨(ALLW_c7 114 rfl rfl), (ALLW_c7 116 rfl rfl), (ALLW_s 87 (by decide +kernel) (by decide +kernel)), (ALLW_c1 9 rfl rfl), k_X9_swapText, ⟨by decide +kernel, by decide +kernel, by decide +kernel⟩⟩
set_option maxRecDepth 100000 in
theorem mv_X9_364 : MV RX9 364 yX9_swap0 cX9_swap0 6 (some .int) 2 := ⟨(ALLW_c7 118 rfl rfl), (ALLW_c7 120 rfl rfl), (ALLW_s 88 (by decide +kernel) (by decide +kernel)), (ALLW_c1 9 rfl rfl), k_X9_swap0, ⟨by decide +kernel, by decide +kernel, by decide +kernel⟩⟩
set_option maxRecDepth 100000 in
theorem mv_X9_313 : MV RX9 313 yX9_nowMany cX9_nowMany 2 (some .int) 1 := ⟨(ALLW_c7 122 rfl rfl), (ALLW_c7 124 rfl rfl), (ALLW_s 89 (by decide +kernel) (by decide +kernel)), (ALLW_c1 9 rfl rfl), k_X9_nowMany, ⟨by decide +kernel, by decide +kernel, by decide +kernel⟩⟩
set_option maxRecDepth 100000 in
theorem mv_X9_316 : MV RX9 316 yX9_nowByte cX9_nowByte 3 (some .int) 2 := ⟨(ALLW_c7 126 rfl rfl), (ALLW_c7 128 rfl rfl), (ALLW_s 90 (by decide +kernel) (by decide +kernel)), (ALLW_c1 9 rfl rfl), k_X9_nowByte, ⟨by decide +kernel, by decide +kernel, by decide +kernel⟩⟩
set_option maxRecDepth 100000 in
theorem mv_X9_417 : MV RX9 417 yX9_wipe0 cX9_wipe0 2 (some .int) 0 := ⟨(ALLW_c7 131 rfl rfl), (ALLW_c7 133 rfl rfl), (ALLW_s 91 (by decide +kernel) (by decide +kernel)), (ALLW_c1 9 rfl rfl), k_X9_wipe0, ⟨by decide +kernel, by decide +kernel, by decide +kernel⟩⟩
set_option maxRecDepth 100000 in
theorem mv_X9_319 : MV RX9 319 yX9_toldMany cX9_toldMany 3 (some .int) 0 := ⟨(ALLW_c7 135 rfl rfl), (ALLW_c7 137 rfl rfl), (ALLW_s 92 (by decide +kernel) (by decide +kernel)), (ALLW_c1 9 rfl rfl), k_X9_toldMany, ⟨by decide +kernel, by decide +kernel, by decide +kernel⟩⟩
set_option maxRecDepth 100000 in
theorem mv_X9_334 : MV RX9 334 yX9_putsBack cX9_putsBack 2 none 0 := ⟨(ALLW_c7 139 rfl rfl), (ALLW_c7 141 rfl rfl), (ALLW_s 93 (by decide +kernel) (by decide +kernel)), (ALLW_c1 9 rfl rfl), k_X9_putsBack, ⟨by decide +kernel, by decide +kernel, by decide +kernel⟩⟩
set_option maxRecDepth 100000 in
theorem mv_L_100 : MV RL 100 yX9_fault cX9_fault 1 (some .int) 0 := ⟨(ALLW_c7 143 rfl rfl), (ALLW_c7 144 rfl rfl), (ALLW_c7 145 rfl rfl), (ALLW_c1 9 rfl rfl), k_X9_fault, ⟨by decide +kernel, by decide +kernel, by decide +kernel⟩⟩
set_option maxRecDepth 100000 in
theorem mv_L_104 : MV RL 104 yX9_why cX9_why 1 (some .int) 0 := ⟨(ALLW_c7 147 rfl rfl), (ALLW_c7 148 rfl rfl), (ALLW_c7 149 rfl rfl), (ALLW_c1 9 rfl rfl), k_X9_why, ⟨by decide +kernel, by decide +kernel, by decide +kernel⟩⟩
set_option maxRecDepth 100000 in
theorem mv_L_108 : MV RL 108 yX9_file cX9_file 3 (some .int) 0 := ⟨(ALLW_c7 151 rfl rfl), (ALLW_c7 152 rfl rfl), (ALLW_c7 153 rfl rfl), (ALLW_c1 9 rfl rfl), k_X9_file, ⟨by decide +kernel, by decide +kernel, by decide +kernel⟩⟩
set_option maxRecDepth 100000 in
theorem mv_X9_426 : MV RX9 426 yX9_took cX9_took 2 (some .int) 0 := ⟨(ALLW_c7 155 rfl rfl), (ALLW_c7 157 rfl rfl), (ALLW_s 94 (by decide +kernel) (by decide +kernel)), (ALLW_c1 9 rfl rfl), k_X9_took, ⟨by decide +kernel, by decide +kernel, by decide +kernel⟩⟩
set_option maxRecDepth 100000 in
theorem mv_L_112 : MV RL 112 yX9_kind cX9_kind 3 (some .int) 2 := ⟨(ALLW_c7 159 rfl rfl), (ALLW_c7 160 rfl rfl), (ALLW_c7 161 rfl rfl), (ALLW_c1 9 rfl rfl), k_X9_kind, ⟨by decide +kernel, by decide +kernel, by decide +kernel⟩⟩
set_option maxRecDepth 100000 in
theorem mv_X9_429 : MV RX9 429 yX9_isDone cX9_isDone 3 (some .boolean) 2 := ⟨(ALLW_c7 163 rfl rfl), (ALLW_c7 165 rfl rfl), (ALLW_s 95 (by decide +kernel) (by decide +kernel)), (ALLW_c1 9 rfl rfl), k_X9_isDone, ⟨by decide +kernel, by decide +kernel, by decide +kernel⟩⟩
set_option maxRecDepth 100000 in
theorem mv_X9_331 : MV RX9 331 yX9_remembers cX9_remembers 2 none 0 := ⟨(ALLW_c7 167 rfl rfl), (ALLW_c7 169 rfl rfl), (ALLW_s 96 (by decide +kernel) (by decide +kernel)), (ALLW_c1 9 rfl rfl), k_X9_remembers, ⟨by decide +kernel, by decide +kernel, by decide +kernel⟩⟩
set_option maxRecDepth 100000 in
theorem mv_L_116 : MV RL 116 yX9_rule cX9_rule 3 (some .int) 2 := ⟨(ALLW_c7 171 rfl rfl), (ALLW_c7 172 rfl rfl), (ALLW_c7 173 rfl rfl), (ALLW_c1 9 rfl rfl), k_X9_rule, ⟨by decide +kernel, by decide +kernel, by decide +kernel⟩⟩
set_option maxRecDepth 100000 in
theorem mv_L_119 : MV RL 119 yX9_lock cX9_lock 2 (some .int) 0 := ⟨(ALLW_c7 175 rfl rfl), (ALLW_c7 176 rfl rfl), (ALLW_c7 177 rfl rfl), (ALLW_c1 9 rfl rfl), k_X9_lock, ⟨by decide +kernel, by decide +kernel, by decide +kernel⟩⟩
set_option maxRecDepth 100000 in
theorem mv_X9_432 : MV RX9 432 yX9_isWord cX9_isWord 4 (some .boolean) 1 := ⟨(ALLW_c7 179 rfl rfl), (ALLW_c7 181 rfl rfl), (ALLW_s 97 (by decide +kernel) (by decide +kernel)), (ALLW_c1 9 rfl rfl), k_X9_isWord, ⟨by decide +kernel, by decide +kernel, by decide +kernel⟩⟩
set_option maxRecDepth 100000 in
theorem mv_L_123 : MV RL 123 yX9_unlock cX9_unlock 1 (some .int) 0 := ⟨(ALLW_c7 183 rfl rfl), (ALLW_c7 184 rfl rfl), (ALLW_c7 185 rfl rfl), (ALLW_c1 9 rfl rfl), k_X9_unlock, ⟨by decide +kernel, by decide +kernel, by decide +kernel⟩⟩
set_option maxRecDepth 100000 in
theorem mv_L_127 : MV RL 127 yX9_tell cX9_tell 3 (some .int) 1 := ⟨(ALLW_c7 187 rfl rfl), (ALLW_c7 188 rfl rfl), (ALLW_c7 189 rfl rfl), (ALLW_c1 9 rfl rfl), k_X9_tell, ⟨by decide +kernel, by decide +kernel, by decide +kernel⟩⟩
set_option maxRecDepth 100000 in
theorem mv_X9_435 : MV RX9 435 yX9_tookTold cX9_tookTold 3 (some .int) 0 := ⟨(ALLW_c7 191 rfl rfl), (ALLW_c7 193 rfl rfl), (ALLW_s 98 (by decide +kernel) (by decide +kernel)), (ALLW_c1 9 rfl rfl), k_X9_tookTold, ⟨by decide +kernel, by decide +kernel, by decide +kernel⟩⟩
set_option maxRecDepth 100000 in
theorem mv_X9_438 : MV RX9 438 yX9_tell0 cX9_tell0 3 (some .int) 2 := ⟨(ALLW_c7 195 rfl rfl), (ALLW_c7 197 rfl rfl), (ALLW_s 99 (by decide +kernel) (by decide +kernel)), (ALLW_c1 9 rfl rfl), k_X9_tell0, ⟨by decide +kernel, by decide +kernel, by decide +kernel⟩⟩
set_option maxRecDepth 100000 in
theorem mv_X9_303 : MV RX9 303 yX9_remembersPair cX9_remembersPair 4 none 2 := ⟨(ALLW_c7 199 rfl rfl), (ALLW_c7 201 rfl rfl), (ALLW_s 100 (by decide +kernel) (by decide +kernel)), (ALLW_c1 9 rfl rfl), k_X9_remembersPair, ⟨by decide +kernel, by decide +kernel, by decide +kernel⟩⟩
set_option maxRecDepth 100000 in
theorem mv_L_130 : MV RL 130 yX9_free cX9_free 2 (some .int) 1 := ⟨(ALLW_c7 203 rfl rfl), (ALLW_c7 204 rfl rfl), (ALLW_c7 205 rfl rfl), (ALLW_c1 9 rfl rfl), k_X9_free, ⟨by decide +kernel, by decide +kernel, by decide +kernel⟩⟩
set_option maxRecDepth 100000 in
theorem mv_L_133 : MV RL 133 yX9_spread cX9_spread 2 (some .int) 1 := ⟨(ALLW_c7 207 rfl rfl), (ALLW_c7 208 rfl rfl), (ALLW_c7 209 rfl rfl), (ALLW_c1 9 rfl rfl), k_X9_spread, ⟨by decide +kernel, by decide +kernel, by decide +kernel⟩⟩
set_option maxRecDepth 100000 in
theorem mv_L_136 : MV RL 136 yX9_swap cX9_swap 3 (some .int) 2 := ⟨(ALLW_c7 211 rfl rfl), (ALLW_c7 212 rfl rfl), (ALLW_c7 213 rfl rfl), (ALLW_c1 9 rfl rfl), k_X9_swap, ⟨by decide +kernel, by decide +kernel, by decide +kernel⟩⟩
set_option maxRecDepth 100000 in
theorem mv_L_139 : MV RL 139 yX9_wipe cX9_wipe 2 (some .int) 0 := ⟨(ALLW_c7 215 rfl rfl), (ALLW_c7 216 rfl rfl), (ALLW_c7 217 rfl rfl), (ALLW_c1 9 rfl rfl), k_X9_wipe, ⟨by decide +kernel, by decide +kernel, by decide +kernel⟩⟩
set_option maxRecDepth 100000 in
theorem mv_L_142 : MV RL 142 yX9_undo cX9_undo 2 (some .int) 0 := ⟨(ALLW_c7 219 rfl rfl), (ALLW_c7 220 rfl rfl), (ALLW_c7 221 rfl rfl), (ALLW_c1 9 rfl rfl), k_X9_undo, ⟨by decide +kernel, by decide +kernel, by decide +kernel⟩⟩
set_option maxRecDepth 100000 in
theorem mv_L_145 : MV RL 145 yX9_piece cX9_piece 3 (some .int) 2 := ⟨(ALLW_c7 223 rfl rfl), (ALLW_c7 224 rfl rfl), (ALLW_c7 225 rfl rfl), (ALLW_c1 9 rfl rfl), k_X9_piece, ⟨by decide +kernel, by decide +kernel, by decide +kernel⟩⟩
set_option maxRecDepth 100000 in
theorem mv_X9_444 : MV RX9 444 yX9_likeMany cX9_likeMany 4 (some .int) 1 := ⟨(ALLW_c7 227 rfl rfl), (ALLW_c7 229 rfl rfl), (ALLW_s 101 (by decide +kernel) (by decide +kernel)), (ALLW_c1 9 rfl rfl), k_X9_likeMany, ⟨by decide +kernel, by decide +kernel, by decide +kernel⟩⟩
set_option maxRecDepth 100000 in
theorem mv_X9_447 : MV RX9 447 yX9_wordsOf cX9_wordsOf 4 (some .int) 1 := ⟨(ALLW_c7 231 rfl rfl), (ALLW_c7 233 rfl rfl), (ALLW_s 102 (by decide +kernel) (by decide +kernel)), (ALLW_c1 9 rfl rfl), k_X9_wordsOf, ⟨by decide +kernel, by decide +kernel, by decide +kernel⟩⟩
set_option maxRecDepth 100000 in
theorem mv_X9_450 : MV RX9 450 yX9_knownOf cX9_knownOf 6 (some .int) 1 := ⟨(ALLW_c7 235 rfl rfl), (ALLW_c7 237 rfl rfl), (ALLW_s 103 (by decide +kernel) (by decide +kernel)), (ALLW_c1 9 rfl rfl), k_X9_knownOf, ⟨by decide +kernel, by decide +kernel, by decide +kernel⟩⟩
set_option maxRecDepth 100000 in
theorem mv_X9_453 : MV RX9 453 yX9_builtBegin cX9_builtBegin 3 (some .int) 1 := ⟨(ALLW_c7 239 rfl rfl), (ALLW_c8 1 rfl rfl), (ALLW_s 104 (by decide +kernel) (by decide +kernel)), (ALLW_c1 9 rfl rfl), k_X9_builtBegin, ⟨by decide +kernel, by decide +kernel, by decide +kernel⟩⟩
set_option maxRecDepth 100000 in
theorem mv_X9_441 : MV RX9 441 yX9_builds cX9_builds 6 (some .int) 0 := ⟨(ALLW_c8 3 rfl rfl), (ALLW_c8 5 rfl rfl), (ALLW_s 105 (by decide +kernel) (by decide +kernel)), (ALLW_c1 9 rfl rfl), k_X9_builds, ⟨by decide +kernel, by decide +kernel, by decide +kernel⟩⟩
set_option maxRecDepth 100000 in
theorem mv_L_149 : MV RL 149 yX9_octet cX9_octet 4 (some .int) 3 := ⟨(ALLW_c8 7 rfl rfl), (ALLW_c8 8 rfl rfl), (ALLW_c8 9 rfl rfl), (ALLW_c1 9 rfl rfl), k_X9_octet, ⟨by decide +kernel, by decide +kernel, by decide +kernel⟩⟩
set_option maxRecDepth 100000 in
theorem mv_L_152 : MV RL 152 yX9_origin cX9_origin 3 (some .int) 2 := ⟨(ALLW_c8 11 rfl rfl), (ALLW_c8 12 rfl rfl), (ALLW_c8 13 rfl rfl), (ALLW_c1 9 rfl rfl), k_X9_origin, ⟨by decide +kernel, by decide +kernel, by decide +kernel⟩⟩
set_option maxRecDepth 100000 in
theorem mv_L_155 : MV RL 155 yX9_key cX9_key 3 (some .int) 2 := ⟨(ALLW_c8 15 rfl rfl), (ALLW_c8 16 rfl rfl), (ALLW_c8 17 rfl rfl), (ALLW_c1 9 rfl rfl), k_X9_key, ⟨by decide +kernel, by decide +kernel, by decide +kernel⟩⟩
set_option maxRecDepth 100000 in
theorem mv_L_159 : MV RL 159 yX9_holder cX9_holder 3 (some .int) 1 := ⟨(ALLW_c8 19 rfl rfl), (ALLW_c8 20 rfl rfl), (ALLW_c8 21 rfl rfl), (ALLW_c1 9 rfl rfl), k_X9_holder, ⟨by decide +kernel, by decide +kernel, by decide +kernel⟩⟩
set_option maxRecDepth 100000 in
theorem mv_L_163 : MV RL 163 yX9_at cX9_at 4 (some .int) 2 := ⟨(ALLW_c8 23 rfl rfl), (ALLW_c8 24 rfl rfl), (ALLW_c8 25 rfl rfl), (ALLW_c1 9 rfl rfl), k_X9_at, ⟨by decide +kernel, by decide +kernel, by decide +kernel⟩⟩
set_option maxRecDepth 100000 in
theorem mv_L_166 : MV RL 166 yX9_like cX9_like 5 (some .int) 2 := ⟨(ALLW_c8 27 rfl rfl), (ALLW_c8 28 rfl rfl), (ALLW_c8 29 rfl rfl), (ALLW_c1 9 rfl rfl), k_X9_like, ⟨by decide +kernel, by decide +kernel, by decide +kernel⟩⟩
set_option maxRecDepth 100000 in
theorem mv_L_172 : MV RL 172 yX9_would cX9_would 3 (some .int) 1 := ⟨(ALLW_c8 31 rfl rfl), (ALLW_c8 32 rfl rfl), (ALLW_c8 33 rfl rfl), (ALLW_c1 9 rfl rfl), k_X9_would, ⟨by decide +kernel, by decide +kernel, by decide +kernel⟩⟩
set_option maxRecDepth 100000 in
theorem mv_L_175 : MV RL 175 yX9_found cX9_found 5 (some .long) 0 := ⟨(ALLW_c8 35 rfl rfl), (ALLW_c8 36 rfl rfl), (ALLW_c8 37 rfl rfl), (ALLW_c1 9 rfl rfl), k_X9_found, ⟨by decide +kernel, by decide +kernel, by decide +kernel⟩⟩
set_option maxRecDepth 100000 in
theorem mv_X9_456 : MV RX9 456 yX9_hasWord cX9_hasWord 7 (some .boolean) 2 := ⟨(ALLW_c8 39 rfl rfl), (ALLW_c8 41 rfl rfl), (ALLW_s 106 (by decide +kernel) (by decide +kernel)), (ALLW_c1 9 rfl rfl), k_X9_hasWord, ⟨by decide +kernel, by decide +kernel, by decide +kernel⟩⟩
set_option maxRecDepth 100000 in
theorem mv_L_180 : MV RL 180 yX9_memory cX9_memory 5 (some .int) 3 := ⟨(ALLW_c8 43 rfl rfl), (ALLW_c8 44 rfl rfl), (ALLW_c8 45 rfl rfl), (ALLW_c1 9 rfl rfl), k_X9_memory, ⟨by decide +kernel, by decide +kernel, by decide +kernel⟩⟩
set_option maxRecDepth 100000 in
theorem mv_L_188 : MV RL 188 yX9_twice cX9_twice 3 (some .boolean) 0 := ⟨(ALLW_c8 47 rfl rfl), (ALLW_c8 48 rfl rfl), (ALLW_c8 49 rfl rfl), (ALLW_c1 9 rfl rfl), k_X9_twice, ⟨by decide +kernel, by decide +kernel, by decide +kernel⟩⟩
set_option maxRecDepth 100000 in
theorem mv_X9_462 : MV RX9 462 yX9_cutsBuilt cX9_cutsBuilt 6 none 0 := ⟨(ALLW_c8 51 rfl rfl), (ALLW_c8 53 rfl rfl), (ALLW_s 107 (by decide +kernel) (by decide +kernel)), (ALLW_c1 9 rfl rfl), k_X9_cutsBuilt, ⟨by decide +kernel, by decide +kernel, by decide +kernel⟩⟩
set_option maxRecDepth 100000 in
theorem mv_X9_465 : MV RX9 465 yX9_isNow cX9_isNow 5 (some .boolean) 2 := ⟨(ALLW_c8 55 rfl rfl), (ALLW_c8 57 rfl rfl), (ALLW_s 108 (by decide +kernel) (by decide +kernel)), (ALLW_c1 9 rfl rfl), k_X9_isNow, ⟨by decide +kernel, by decide +kernel, by decide +kernel⟩⟩
set_option maxRecDepth 100000 in
theorem mv_L_183 : MV RL 183 yX9_kept cX9_kept 5 (some .boolean) 1 := ⟨(ALLW_c8 59 rfl rfl), (ALLW_c8 60 rfl rfl), (ALLW_c8 61 rfl rfl), (ALLW_c1 9 rfl rfl), k_X9_kept, ⟨by decide +kernel, by decide +kernel, by decide +kernel⟩⟩
set_option maxRecDepth 100000 in
theorem mv_L_192 : MV RL 192 yX9_image cX9_image 2 none 0 := ⟨(ALLW_c8 63 rfl rfl), (ALLW_c8 64 rfl rfl), (ALLW_c8 65 rfl rfl), (ALLW_c1 9 rfl rfl), k_X9_image, ⟨by decide +kernel, by decide +kernel, by decide +kernel⟩⟩
set_option maxRecDepth 100000 in
theorem mv_L_196 : MV RL 196 yX9_back cX9_back 2 (some .boolean) 0 := ⟨(ALLW_c8 67 rfl rfl), (ALLW_c8 68 rfl rfl), (ALLW_c8 69 rfl rfl), (ALLW_c1 9 rfl rfl), k_X9_back, ⟨by decide +kernel, by decide +kernel, by decide +kernel⟩⟩
set_option maxRecDepth 100000 in
theorem mv_L_200 : MV RL 200 yX9_count cX9_count 2 (some .int) 1 := ⟨(ALLW_c8 71 rfl rfl), (ALLW_c8 72 rfl rfl), (ALLW_c8 73 rfl rfl), (ALLW_c1 9 rfl rfl), k_X9_count, ⟨by decide +kernel, by decide +kernel, by decide +kernel⟩⟩
set_option maxRecDepth 100000 in
theorem mv_X9_472 : MV RX9 472 yX9_skeleton cX9_skeleton 3 (some .int) 0 := ⟨(ALLW_c8 75 rfl rfl), (ALLW_c8 77 rfl rfl), (ALLW_s 109 (by decide +kernel) (by decide +kernel)), (ALLW_c1 9 rfl rfl), k_X9_skeleton, ⟨by decide +kernel, by decide +kernel, by decide +kernel⟩⟩
set_option maxRecDepth 100000 in
theorem mv_X9_475 : MV RX9 475 yX9_unlikeTexts cX9_unlikeTexts 5 (some .int) 0 := ⟨(ALLW_c8 79 rfl rfl), (ALLW_c8 81 rfl rfl), (ALLW_s 110 (by decide +kernel) (by decide +kernel)), (ALLW_c1 9 rfl rfl), k_X9_unlikeTexts, ⟨by decide +kernel, by decide +kernel, by decide +kernel⟩⟩
set_option maxRecDepth 100000 in
theorem mv_X9_478 : MV RX9 478 yX9_allWords cX9_allWords 3 (some .int) 0 := ⟨(ALLW_c8 83 rfl rfl), (ALLW_c8 85 rfl rfl), (ALLW_s 111 (by decide +kernel) (by decide +kernel)), (ALLW_c1 9 rfl rfl), k_X9_allWords, ⟨by decide +kernel, by decide +kernel, by decide +kernel⟩⟩
set_option maxRecDepth 100000 in
theorem mv_X9_481 : MV RX9 481 yX9_longest cX9_longest 3 (some .int) 0 := ⟨(ALLW_c8 87 rfl rfl), (ALLW_c8 89 rfl rfl), (ALLW_s 112 (by decide +kernel) (by decide +kernel)), (ALLW_c1 9 rfl rfl), k_X9_longest, ⟨by decide +kernel, by decide +kernel, by decide +kernel⟩⟩
set_option maxRecDepth 100000 in
theorem mn_X1_45 : MN RX1 45 yX3_init cX3_init 1 none 0 := ⟨by decide +kernel, (ALLW_c1 6 rfl rfl), k_X3_init, ⟨by decide +kernel, by decide +kernel, by decide +kernel⟩⟩
set_option maxRecDepth 100000 in
theorem mnI_X1_45 : Cond.instanceMethod yX3_init ∈ ALLW := (ALLW_c1 162 rfl rfl)
set_option maxRecDepth 100000 in
theorem mn_X5_34 : MN RX5 34 yX8_isLetter cX8_isLetter 1 (some .boolean) 1 := ⟨by decide +kernel, (ALLW_c1 1 rfl rfl), k_X8_isLetter, ⟨by decide +kernel, by decide +kernel, by decide +kernel⟩⟩
set_option maxRecDepth 100000 in
theorem mnS_X5_34 : Cond.static yX8_isLetter ∈ ALLW := (ALLW_c3 22 rfl rfl)
set_option maxRecDepth 100000 in
theorem mn_X5_44 : MN RX5 44 yX8_smallLetter cX8_smallLetter 1 (some .int) 1 := ⟨by decide +kernel, (ALLW_c1 1 rfl rfl), k_X8_smallLetter, ⟨by decide +kernel, by decide +kernel, by decide +kernel⟩⟩
set_option maxRecDepth 100000 in
theorem mnS_X5_44 : Cond.static yX8_smallLetter ∈ ALLW := (ALLW_c5 164 rfl rfl)
set_option maxRecDepth 100000 in
theorem th_eA : TH 116 120 eA := ⟨cl_X8_116, (ALLW_c1 19 rfl rfl), by decide +kernel, by decide +kernel, by decide +kernel, by decide +kernel⟩
set_option maxRecDepth 100000 in
theorem th_eS : TH 170 174 eS := ⟨cl_X8_170, (ALLW_c1 20 rfl rfl), by decide +kernel, by decide +kernel, by decide +kernel, by decide +kernel⟩
set_option maxRecDepth 100000 in
theorem th_eI : TH 321 325 eI := ⟨cl_X8_321, (ALLW_c1 22 rfl rfl), by decide +kernel, by decide +kernel, by decide +kernel, by decide +kernel⟩
end
/-! part 06.base -/
section
/-! The heap by ids: an id k is the cell at b + k, b the heap's size when the law begins. A cell is an array (kind of its class, length, contents) or an object (number of its class, fields). -/
def cvA (b n : Nat) : AA → vp_A
  | .inl g => (n, .inl g)
  | .inr (.inl g) => (n, .inr (.inl g))
  | .inr (.inr g) => (n, .inr (.inr (.inr (.inr fun j => (g j).map (fun k => b + k)))))
def cvE (X : GX) : AE → va_E
  | .inl (t, n, a) => .inl (X.2.2 t, cvA X.1 n a)
  | .inr (ci, fs) => .inr (ci, fs.map (rn X.1))
def Rel (X : GX) (f : AH) (H : Heap) : Prop := ∀ (i : Nat) (e : AE), f i = some e → va_at X.2.1 vwCl (X.1 + i, cvE X e) H
theorem Rel.lt {X : GX} {f : AH} {H : Heap} (h : Rel X f H) {i : Nat} {e : AE} (he : f i = some e) : X.1 + i < H.size := (h i e he).lt
theorem Rel.set {X : GX} {f : AH} {H H1 : Heap} (h : Rel X f H) {i : Nat} {e : AE} (ha : va_at X.2.1 vwCl (X.1 + i, cvE X e) H1) (hq : ∀ q, q ≠ X.1 + i → H1[q]? = H[q]?) : Rel X (va_up f i (some e)) H1 := by
  intro j e' hj
  by_cases hji : j = i
  · subst hji
    simp [va_up] at hj
    rw [← hj]; exact ha
  · simp only [va_up, if_neg hji] at hj
    exact (h j e' hj).kept (hq _ (by show X.1 + j ≠ _; omega))
theorem Rel.push {X : GX} {f : AH} {H H1 : Heap} (h : Rel X f H) {n : Nat} {e : AE} (hz : H.size = X.1 + n) (ha : va_at X.2.1 vwCl (X.1 + n, cvE X e) H1) (hq : ∀ q, q < H.size → H1[q]? = H[q]?) : Rel X (va_up f n (some e)) H1 := by
  intro j e' hj
  by_cases hji : j = n
  · subst hji
    simp [va_up] at hj
    rw [← hj]; exact ha
  · simp only [va_up, if_neg hji] at hj
    exact (h j e' hj).kept (hq _ (h.lt hj))
theorem Rel.sub {X : GX} {f f' : AH} {H : Heap} (h : Rel X f H) (hf : ∀ i e, f' i = some e → f i = some e) : Rel X f' H := fun i e he => h i e (hf i e he)
/-- the kinds of arrays -/
def tysX (X : GX) : List (ClassId × FieldType) := [(X.2.2 0, .int), (X.2.2 1, .object "PieceFiles$Piece"), (X.2.2 2, .object "PieceFiles$Row"), (X.2.2 3, .object "PieceFiles$State"), (X.2.2 4, .long)]
def tyN : Nat → FieldType
  | 0 => .int
  | 1 => .object "PieceFiles$Piece"
  | 2 => .object "PieceFiles$Row"
  | 3 => .object "PieceFiles$State"
  | _ => .long
abbrev ZU : String := "UNASSIGNED_STACK"
abbrev ZN : String := "SUPPRESSED_SENTINEL"
/-! texts -/
def sI9 : List Nat := [186, 192, 194, 373, 383, 385, 386, 388, 390, 392, 397, 402, 408, 410, 415]
def sT9 : List String := ["&lt;", "&gt;", "&amp;", "kind", "inner", "plain", "letters", "any", "least", "lock", "unlock", "free", "spread", "swap", "wipe"]
def sL9 : List Nat := [4, 4, 5, 4, 5, 5, 7, 3, 5, 4, 6, 4, 6, 4, 4]
def sB9 : List (List Int32) := [[38, 108, 116, 59], [38, 103, 116, 59], [38, 97, 109, 112, 59], [107, 105, 110, 100], [105, 110, 110, 101, 114], [112, 108, 97, 105, 110], [108, 101, 116, 116, 101, 114, 115], [97, 110, 121], [108, 101, 97, 115, 116], [108, 111, 99, 107], [117, 110, 108, 111, 99, 107], [102, 114, 101, 101], [115, 112, 114, 101, 97, 100], [115, 119, 97, 112], [119, 105, 112, 101]]
def sI4 : List Nat := [66, 68, 70, 72, 74, 76, 78, 80, 82, 84, 86, 88]
def sT4 : List String := ["kind", "inner", "plain", "letters", "any", "least", "lock", "unlock", "free", "spread", "swap", "wipe"]
def sL4 : List Nat := [4, 5, 5, 7, 3, 5, 4, 6, 4, 6, 4, 4]
def sB4 : List (List Int32) := [[107, 105, 110, 100], [105, 110, 110, 101, 114], [112, 108, 97, 105, 110], [108, 101, 116, 116, 101, 114, 115], [97, 110, 121], [108, 101, 97, 115, 116], [108, 111, 99, 107], [117, 110, 108, 111, 99, 107], [102, 114, 101, 101], [115, 112, 114, 101, 97, 100], [115, 119, 97, 112], [119, 105, 112, 101]]
/-- the texts of a class: N of them, lengths and bytes; their addresses stand in X from oK on, those of their bytes from oV on -/
def STRW (own : String) (N : Nat) (len : List Nat) (byt : List (List Int32)) (ix : List Nat) (tx : List String) (oK oV : Nat) (X : GX) (U : State) : Prop := vk_S N len byt (fun i => X.2.2 (oK + i)) (fun i => X.2.2 (oV + i)) (fun q => X.1 ≤ q) U U.heap ∧ ∀ i, i < N → vk_R own (ix.getD i 0) (tx.getD i "") (X.2.2 (oK + i)) U
theorem STRW.moved {own : String} {N : Nat} {len : List Nat} {byt : List (List Int32)} {ix : List Nat} {tx : List String} {oK oV : Nat} {X : GX} {s U : State} (h : STRW own N len byt ix tx oK oV X s) (hW : s.WarmedH U.vm) (hk : ∀ q : Nat, q < s.heap.size → ¬ X.1 ≤ q → U.heap[q]? = s.heap[q]?) : STRW own N len byt ix tx oK oV X U := ⟨vk_S.kept (vk_S.moved hW.alike h.1) hk, fun i hi => vk_R.warm hW (h.2 i hi)⟩
abbrev zC : String := "COMPACT_STRINGS"
abbrev zF : String := "SIOOBE_FORMATTER"
abbrev zP : String := "jdk/internal/util/Preconditions"
abbrev zD : String := "Ljava/util/function/BiFunction;"
abbrev zS : String := "java/lang/String"
def STRX (X : GX) (U : State) : Prop := STRW "PieceFilesModel" 15 sL9 sB9 sI9 sT9 1000 2000 X U ∧ STRW "PieceFiles$Reader" 12 sL4 sB4 sI4 sT4 3000 4000 X U ∧ va_Z zS zC "Z" (.int 1) (fun q => X.1 ≤ q) U U.heap ∧ va_Zq zP zF zD (fun q => X.1 ≤ q) U U.heap
theorem STRX.moved {X : GX} {s U : State} (h : STRX X s) (hW : s.WarmedH U.vm) (hk : ∀ q : Nat, q < s.heap.size → ¬ X.1 ≤ q → U.heap[q]? = s.heap[q]?) : STRX X U := ⟨h.1.moved hW hk, h.2.1.moved hW hk, va_Z.kept (va_Z.moved hW.alike h.2.2.1) hk, va_Zq.kept (va_Zq.moved hW.alike h.2.2.2) hk⟩
/-- what holds of the machine at the entry of every method -/
def GG (X : GX) (U : State) : Prop := va_K X.2.1 vwCl (tysX X) U ∧ vx_Zq Bundle.tN ZU Bundle.steD (fun q => X.1 ≤ q) U U.heap ∧ vx_Zq Bundle.tN ZN Bundle.listD (fun q => X.1 ≤ q) U U.heap ∧ X.1 ≤ U.heap.size ∧ (va_AO "PieceFiles$Piece" U ∧ va_AO "PieceFiles$Row" U ∧ va_AO "PieceFiles$State" U) ∧ (∀ q ∈ strsX, ∃ sa, vk_R q.1 q.2.1 q.2.2 sa U) ∧ (∀ w ∈ xW, va_Nw w U) ∧ ((∀ q ∈ ncX, va_Nc q.1 q.2 U) ∧ STRX X U)
theorem GG.moved {X : GX} {s U : State} (h : GG X s) (hW : s.WarmedH U.vm) (hz : s.heap.size ≤ U.heap.size) (hk : ∀ q : Nat, q < s.heap.size → ¬ X.1 ≤ q → U.heap[q]? = s.heap[q]?) : GG X U :=
  ⟨va_K.moved hW.alike h.1, vx_Zq.kept (vx_Zq.moved hW.alike h.2.1) hk, vx_Zq.kept (vx_Zq.moved hW.alike h.2.2.1) hk, Nat.le_trans h.2.2.2.1 hz, ⟨va_AO.moved hW.alike h.2.2.2.2.1.1, va_AO.moved hW.alike h.2.2.2.2.1.2.1, va_AO.moved hW.alike h.2.2.2.2.1.2.2⟩, fun q hq => (h.2.2.2.2.2.1 q hq).elim fun sa hs => ⟨sa, vk_R.warm hW hs⟩, fun w hw => xW_warm hW hw (h.2.2.2.2.2.2.1 w hw), ⟨fun q hq => va_Nc.moved hW.alike (h.2.2.2.2.2.2.2.1 q hq), h.2.2.2.2.2.2.2.2.moved hW hk⟩⟩
theorem GG.S {X : GX} {s U : State} {H : Heap} {locs : List Loc} (h : GG X s) (hW : s.WarmedH U.vm) (hS : va_S (fun q => X.1 ≤ q) s.heap H locs) (hU : U.heap = H) : GG X U :=
  h.moved hW (by rw [hU]; exact hS.1) (fun q h1 h2 => by rw [hU]; exact hS.2.1 q h1 h2)
theorem tyN_at (X : GX) {t : Nat} (h : t < 5) : (tysX X)[t]? = some (X.2.2 t, tyN t) := by
  match t, h with
  | 0, _ => rfl
  | 1, _ => rfl
  | 2, _ => rfl
  | 3, _ => rfl
  | 4, _ => rfl
/-- locals by their places -/
def LH (b : Nat) (ls : Array Slot) (nL : Nat) (lo : List (Option Value)) : Prop := ls.size = nL ∧ lv_wf ls ∧ ∀ (i : Nat) (v : Value), lo[i]? = some (some v) → ls[i]? = some (.val (rn b v))
def prs (b : Nat) (lo : List (Option Value)) : List (Nat × Value) := (List.range lo.length).filterMap fun i => match lo[i]? with
  | some (some v) => some (i, rn b v)
  | _ => none
theorem prs_mem {b : Nat} {lo : List (Option Value)} {i : Nat} {v : Value} (h : lo[i]? = some (some v)) : (i, rn b v) ∈ prs b lo := by
  have hl : i < lo.length := (List.getElem?_eq_some_iff.mp h).1
  exact List.mem_filterMap.mpr ⟨i, List.mem_range.mpr hl, by simp only [h]⟩
theorem prs_of {b : Nat} {lo : List (Option Value)} {q : Nat × Value} (h : q ∈ prs b lo) : ∃ v, lo[q.1]? = some (some v) ∧ q.2 = rn b v := by
  obtain ⟨i, -, hi⟩ := List.mem_filterMap.mp h
  split at hi
  · rename_i v hv
    cases hi
    exact ⟨v, hv, rfl⟩
  · cases hi
theorem LH.has {b : Nat} {ls : Array Slot} {nL : Nat} {lo : List (Option Value)} (h : LH b ls nL lo) : lv_has ls nL (prs b lo) := ⟨h.1, h.2.1, fun q hq => by
  obtain ⟨v, h1, h2⟩ := prs_of hq
  rw [h2]; exact h.2.2 _ _ h1⟩
/-- a store at i hurts no long ahead of it -/
def okS (lo : List (Option Value)) : Nat → Bool
  | 0 => true
  | k + 1 => match lo[k]? with
    | some (some v) => v.category == 1
    | _ => true
theorem LH.st1 {b : Nat} {ls' : Array Slot} {nL i : Nat} {lo : List (Option Value)} {v : Value} (hok : okS lo i = true) (h : lv_has ls' nL ((i, rn b v) :: (prs b lo).filter (fun q => !(q.1 == i) && !(q.1 + 1 == i && q.2.category == 2)))) : LH b ls' nL (lo.set i (some v)) := by
  refine ⟨h.1, h.2.1, fun j w hj => ?_⟩
  by_cases hji : j = i
  · subst hji
    have hl : j < lo.length := by
      have := (List.getElem?_eq_some_iff.mp hj).1
      simpa using this
    rw [List.getElem?_set_self hl] at hj
    cases hj
    exact h.2.2 (j, rn b v) List.mem_cons_self
  · rw [List.getElem?_set_ne (Ne.symm hji)] at hj
    refine h.2.2 (j, rn b w) (List.mem_cons_of_mem _ (List.mem_filter.mpr ⟨prs_mem hj, ?_⟩))
    have h1 : (j == i) = false := by simpa using hji
    by_cases h2 : j + 1 = i
    · subst h2
      simp only [okS, hj] at hok
      have h3 : w.category = 1 := by simpa using hok
      simp [h1, rn_cat, h3]
    · have h4 : (j + 1 == i) = false := by simpa using h2
      simp [h1, h4]
theorem LH.st2 {b : Nat} {ls' : Array Slot} {nL i : Nat} {lo : List (Option Value)} {v : Value} (hok : okS lo i = true) (h : lv_has ls' nL ((i, rn b v) :: (prs b lo).filter (fun q => !(q.1 == i) && (!(q.1 == i + 1) && !(q.1 + 1 == i && q.2.category == 2))))) : LH b ls' nL ((lo.set i (some v)).set (i + 1) none) := by
  refine ⟨h.1, h.2.1, fun j w hj => ?_⟩
  by_cases hj1 : j = i + 1
  · subst hj1
    rw [List.getElem?_set] at hj
    simp at hj
  · rw [List.getElem?_set_ne (Ne.symm hj1)] at hj
    by_cases hji : j = i
    · subst hji
      have hl : j < lo.length := by
        have := (List.getElem?_eq_some_iff.mp hj).1
        simpa using this
      rw [List.getElem?_set_self hl] at hj
      cases hj
      exact h.2.2 (j, rn b v) List.mem_cons_self
    · rw [List.getElem?_set_ne (Ne.symm hji)] at hj
      refine h.2.2 (j, rn b w) (List.mem_cons_of_mem _ (List.mem_filter.mpr ⟨prs_mem hj, ?_⟩))
      have h1 : (j == i) = false := by simpa using hji
      have h5 : (j == i + 1) = false := by simpa using hj1
      by_cases h2 : j + 1 = i
      · subst h2
        simp only [okS, hj] at hok
        have h3 : w.category = 1 := by simpa using hok
        simp [h1, h5, rn_cat, h3]
      · have h4 : (j + 1 == i) = false := by simpa using h2
        simp [h1, h4, h5]
/-- the machine and the method, in one word -/
def CC (X : GX) (p : Program) (l : Launch) (R : Room) (s : State) (m : MethodId) (args : Array Value) (meth : Method) (c : Code) (own : String) (cc : ByteArray) (nL : Nat) (ret : Option FieldType) : Prop :=
  p.tables.exec = Jvm.exec ∧ c.code = cc ∧ c.maxLocals = nL ∧ s.vm.findClass own = some m.cls ∧ (∀ w ∈ ALLW, w.before args s = true) ∧ meth.locks = false ∧ GG X s ∧ meth.sig.returnType = ret
/-- the walk, seen by ids -/
def AW (X : GX) (p : Program) (l : Launch) (e : Env) (R : Room) (s : State) (m : MethodId) (args : Array Value) (below : List Frame) (meth : Method) (c : Code) (nL : Nat) (Z : State → Prop) (f : AH) (n cells slots pc : Nat) (lo : List (Option Value)) (st : List Value) : Prop :=
  ∀ (H : Heap) (locs : List Loc) (ls : Array Slot), Rel X f H → H.size = X.1 + n → va_S (fun q => X.1 ≤ q) s.heap H locs → LH X.1 ls nL lo → W p l e R s m args below meth c H locs cells slots Z (F0 m pc ls (st.map (rn X.1)))
section AWS
variable {X : GX} {p : Program} {l : Launch} {e : Env} {R : Room} {s : State} {m : MethodId} {args : Array Value} {below : List Frame} {meth : Method} {c : Code} {own : String} {cc : ByteArray} {nL : Nat} {ret : Option FieldType} {Z : State → Prop} {f : AH} {n cells slots pc : Nat} {lo : List (Option Value)} {st : List Value}
theorem aw_wide {k j : Nat} (h1 : cells ≤ k) (h2 : slots ≤ j) (kk : AW X p l e R s m args below meth c nL Z f n k j pc lo st) : AW X p l e R s m args below meth c nL Z f n cells slots pc lo st :=
  fun H locs ls hR hn hS hl => W.widen h1 h2 (kk H locs ls hR hn hS hl)
theorem aw_heap {f' : AH} (hf : ∀ i a, f' i = some a → f i = some a) (kk : AW X p l e R s m args below meth c nL Z f' n cells slots pc lo st) : AW X p l e R s m args below meth c nL Z f n cells slots pc lo st :=
  fun H locs ls hR hn hS hl => kk H locs ls (hR.sub hf) hn hS hl
theorem aw_lo {lo' : List (Option Value)} (hlo : ∀ (i : Nat) (v : Value), lo'[i]? = some (some v) → lo[i]? = some (some v)) (kk : AW X p l e R s m args below meth c nL Z f n cells slots pc lo' st) : AW X p l e R s m args below meth c nL Z f n cells slots pc lo st :=
  fun H locs ls hR hn hS hl => kk H locs ls hR hn hS ⟨hl.1, hl.2.1, fun i v h => hl.2.2 i v (hlo i v h)⟩
theorem aw_iconst (C : CC X p l R s m args meth c own cc nL ret) {a : Int} (w : Int32) (hd : decode cc pc = .ok (.iconst a, 1)) (hv : Int32.ofInt a = w) (k0 : AW X p l e R s m args below meth c nL Z f n cells slots (pc + 1) lo (.int w :: st)) : AW X p l e R s m args below meth c nL Z f n cells slots pc lo st := by
  intro H locs ls hR hn hS hl
  exact lv_iconst C.1 C.2.1 hd hv (k0 H locs ls hR hn hS hl)
theorem aw_bipush (C : CC X p l R s m args meth c own cc nL ret) {a : Int} (w : Int32) (hd : decode cc pc = .ok (.bipush a, 2)) (hv : (Int8.ofInt a).toInt32 = w) (k0 : AW X p l e R s m args below meth c nL Z f n cells slots (pc + 2) lo (.int w :: st)) : AW X p l e R s m args below meth c nL Z f n cells slots pc lo st := by
  intro H locs ls hR hn hS hl
  exact lv_bipush C.1 C.2.1 hd hv (k0 H locs ls hR hn hS hl)
theorem aw_sipush (C : CC X p l R s m args meth c own cc nL ret) {a : Int} (w : Int32) (hd : decode cc pc = .ok (.sipush a, 3)) (hv : (Int16.ofInt a).toInt32 = w) (k0 : AW X p l e R s m args below meth c nL Z f n cells slots (pc + 3) lo (.int w :: st)) : AW X p l e R s m args below meth c nL Z f n cells slots pc lo st := by
  intro H locs ls hR hn hS hl
  exact lv_sipush C.1 C.2.1 hd hv (k0 H locs ls hR hn hS hl)
theorem aw_lconst (C : CC X p l R s m args meth c own cc nL ret) {a : Fin 2} (w : Int64) (hd : decode cc pc = .ok (.lconst a, 1)) (hv : Int64.ofNat (a : Nat) = w) (k0 : AW X p l e R s m args below meth c nL Z f n cells slots (pc + 1) lo (.long w :: st)) : AW X p l e R s m args below meth c nL Z f n cells slots pc lo st := by
  intro H locs ls hR hn hS hl
  exact lv_lconst C.1 C.2.1 hd hv (k0 H locs ls hR hn hS hl)
theorem aw_null (C : CC X p l R s m args meth c own cc nL ret) (hd : decode cc pc = .ok (.aconst_null, 1)) (k0 : AW X p l e R s m args below meth c nL Z f n cells slots (pc + 1) lo (.null :: st)) : AW X p l e R s m args below meth c nL Z f n cells slots pc lo st := by
  intro H locs ls hR hn hS hl
  exact lv_null C.1 C.2.1 hd (k0 H locs ls hR hn hS hl)
theorem aw_iload_n (C : CC X p l R s m args meth c own cc nL ret) {k : Fin 4} {x : Int32} (hd : decode cc pc = .ok (.iload_n k, 1)) (hl' : lo[(k : Nat)]? = some (some (.int x))) (k0 : AW X p l e R s m args below meth c nL Z f n cells slots (pc + 1) lo (.int x :: st)) : AW X p l e R s m args below meth c nL Z f n cells slots pc lo st := by
  intro H locs ls hR hn hS hl
  exact lv_iload_n C.1 C.2.1 hd rfl (hl.2.2 _ _ hl') (k0 H locs ls hR hn hS hl)
theorem aw_iload (C : CC X p l R s m args meth c own cc nL ret) {i : Nat} {x : Int32} (hd : decode cc pc = .ok (.iload i, 2)) (hl' : lo[i]? = some (some (.int x))) (k0 : AW X p l e R s m args below meth c nL Z f n cells slots (pc + 2) lo (.int x :: st)) : AW X p l e R s m args below meth c nL Z f n cells slots pc lo st := by
  intro H locs ls hR hn hS hl
  exact lv_iload C.1 C.2.1 hd (hl.2.2 _ _ hl') (k0 H locs ls hR hn hS hl)
theorem aw_lload_n (C : CC X p l R s m args meth c own cc nL ret) {k : Fin 4} {x : Int64} (hd : decode cc pc = .ok (.lload_n k, 1)) (hl' : lo[(k : Nat)]? = some (some (.long x))) (k0 : AW X p l e R s m args below meth c nL Z f n cells slots (pc + 1) lo (.long x :: st)) : AW X p l e R s m args below meth c nL Z f n cells slots pc lo st := by
  intro H locs ls hR hn hS hl
  exact lv_lload_n C.1 C.2.1 hd rfl (hl.2.2 _ _ hl') (k0 H locs ls hR hn hS hl)
theorem aw_lload (C : CC X p l R s m args meth c own cc nL ret) {i : Nat} {x : Int64} (hd : decode cc pc = .ok (.lload i, 2)) (hl' : lo[i]? = some (some (.long x))) (k0 : AW X p l e R s m args below meth c nL Z f n cells slots (pc + 2) lo (.long x :: st)) : AW X p l e R s m args below meth c nL Z f n cells slots pc lo st := by
  intro H locs ls hR hn hS hl
  exact lv_lload C.1 C.2.1 hd (hl.2.2 _ _ hl') (k0 H locs ls hR hn hS hl)
theorem aw_aload_n (C : CC X p l R s m args meth c own cc nL ret) {k : Fin 4} {v : Value} (hd : decode cc pc = .ok (.aload_n k, 1)) (hl' : lo[(k : Nat)]? = some (some v)) (hv : v = .null ∨ ∃ a, v = .ref a) (k0 : AW X p l e R s m args below meth c nL Z f n cells slots (pc + 1) lo (v :: st)) : AW X p l e R s m args below meth c nL Z f n cells slots pc lo st := by
  intro H locs ls hR hn hS hl
  rcases hv with rfl | ⟨a, rfl⟩
  · exact lv_aload_nN C.1 C.2.1 hd rfl (hl.2.2 _ _ hl') (k0 H locs ls hR hn hS hl)
  · exact lv_aload_n C.1 C.2.1 hd rfl (hl.2.2 _ _ hl') (k0 H locs ls hR hn hS hl)
theorem aw_aload (C : CC X p l R s m args meth c own cc nL ret) {i : Nat} {v : Value} (hd : decode cc pc = .ok (.aload i, 2)) (hl' : lo[i]? = some (some v)) (hv : v = .null ∨ ∃ a, v = .ref a) (k0 : AW X p l e R s m args below meth c nL Z f n cells slots (pc + 2) lo (v :: st)) : AW X p l e R s m args below meth c nL Z f n cells slots pc lo st := by
  intro H locs ls hR hn hS hl
  rcases hv with rfl | ⟨a, rfl⟩
  · exact lv_aloadN C.1 C.2.1 hd (hl.2.2 _ _ hl') (k0 H locs ls hR hn hS hl)
  · exact lv_aload C.1 C.2.1 hd (hl.2.2 _ _ hl') (k0 H locs ls hR hn hS hl)
theorem aw_ald_n (C : CC X p l R s m args meth c own cc nL ret) {k : Fin 4} {a : Nat} (hd : decode cc pc = .ok (.aload_n k, 1)) (hl' : lo[(k : Nat)]? = some (some (.ref a))) (k0 : AW X p l e R s m args below meth c nL Z f n cells slots (pc + 1) lo (.ref a :: st)) : AW X p l e R s m args below meth c nL Z f n cells slots pc lo st := by
  intro H locs ls hR hn hS hl
  exact lv_aload_n C.1 C.2.1 hd rfl (hl.2.2 _ _ hl') (k0 H locs ls hR hn hS hl)
theorem aw_ald (C : CC X p l R s m args meth c own cc nL ret) {i : Nat} {a : Nat} (hd : decode cc pc = .ok (.aload i, 2)) (hl' : lo[i]? = some (some (.ref a))) (k0 : AW X p l e R s m args below meth c nL Z f n cells slots (pc + 2) lo (.ref a :: st)) : AW X p l e R s m args below meth c nL Z f n cells slots pc lo st := by
  intro H locs ls hR hn hS hl
  exact lv_aload C.1 C.2.1 hd (hl.2.2 _ _ hl') (k0 H locs ls hR hn hS hl)
theorem aw_raw_n (C : CC X p l R s m args meth c own cc nL ret) {k : Fin 4} {a : Nat} (hd : decode cc pc = .ok (.aload_n k, 1)) (hl' : lo[(k : Nat)]? = some (some (.retAddr a))) (k0 : AW X p l e R s m args below meth c nL Z f n cells slots (pc + 1) lo (.retAddr a :: st)) : AW X p l e R s m args below meth c nL Z f n cells slots pc lo st := by
  intro H locs ls hR hn hS hl
  exact lv_aload_n C.1 C.2.1 hd rfl (hl.2.2 _ _ hl') (k0 H locs ls hR hn hS hl)
theorem ae_iadd (C : CC X p l R s m args meth c own cc nL ret) {x y : Int32} (w : Int32) (hd : decode cc pc = .ok (.iadd, 1)) (hw : x + y = w) (k0 : AW X p l e R s m args below meth c nL Z f n cells slots (pc + 1) lo (.int w :: st)) : AW X p l e R s m args below meth c nL Z f n cells slots pc lo (.int y :: .int x :: st) := by
  intro H locs ls hR hn hS hl
  subst hw
  exact lv_iadd C.1 C.2.1 hd (k0 H locs ls hR hn hS hl)
theorem ae_isub (C : CC X p l R s m args meth c own cc nL ret) {x y : Int32} (w : Int32) (hd : decode cc pc = .ok (.isub, 1)) (hw : x - y = w) (k0 : AW X p l e R s m args below meth c nL Z f n cells slots (pc + 1) lo (.int w :: st)) : AW X p l e R s m args below meth c nL Z f n cells slots pc lo (.int y :: .int x :: st) := by
  intro H locs ls hR hn hS hl
  subst hw
  exact lv_isub C.1 C.2.1 hd (k0 H locs ls hR hn hS hl)
theorem ae_imul (C : CC X p l R s m args meth c own cc nL ret) {x y : Int32} (w : Int32) (hd : decode cc pc = .ok (.imul, 1)) (hw : x * y = w) (k0 : AW X p l e R s m args below meth c nL Z f n cells slots (pc + 1) lo (.int w :: st)) : AW X p l e R s m args below meth c nL Z f n cells slots pc lo (.int y :: .int x :: st) := by
  intro H locs ls hR hn hS hl
  subst hw
  exact lv_imul C.1 C.2.1 hd (k0 H locs ls hR hn hS hl)
theorem ae_iand (C : CC X p l R s m args meth c own cc nL ret) {x y : Int32} (w : Int32) (hd : decode cc pc = .ok (.iand, 1)) (hw : x &&& y = w) (k0 : AW X p l e R s m args below meth c nL Z f n cells slots (pc + 1) lo (.int w :: st)) : AW X p l e R s m args below meth c nL Z f n cells slots pc lo (.int y :: .int x :: st) := by
  intro H locs ls hR hn hS hl
  subst hw
  exact lv_iand C.1 C.2.1 hd (k0 H locs ls hR hn hS hl)
theorem ae_ior (C : CC X p l R s m args meth c own cc nL ret) {x y : Int32} (w : Int32) (hd : decode cc pc = .ok (.ior, 1)) (hw : x ||| y = w) (k0 : AW X p l e R s m args below meth c nL Z f n cells slots (pc + 1) lo (.int w :: st)) : AW X p l e R s m args below meth c nL Z f n cells slots pc lo (.int y :: .int x :: st) := by
  intro H locs ls hR hn hS hl
  subst hw
  exact lv_ior C.1 C.2.1 hd (k0 H locs ls hR hn hS hl)
theorem ae_ishl (C : CC X p l R s m args meth c own cc nL ret) {x y : Int32} (w : Int32) (hd : decode cc pc = .ok (.ishl, 1)) (hw : x <<< (y &&& 31) = w) (k0 : AW X p l e R s m args below meth c nL Z f n cells slots (pc + 1) lo (.int w :: st)) : AW X p l e R s m args below meth c nL Z f n cells slots pc lo (.int y :: .int x :: st) := by
  intro H locs ls hR hn hS hl
  subst hw
  exact lv_ishl C.1 C.2.1 hd (k0 H locs ls hR hn hS hl)
theorem ae_ishr (C : CC X p l R s m args meth c own cc nL ret) {x y : Int32} (w : Int32) (hd : decode cc pc = .ok (.ishr, 1)) (hw : x >>> (y &&& 31) = w) (k0 : AW X p l e R s m args below meth c nL Z f n cells slots (pc + 1) lo (.int w :: st)) : AW X p l e R s m args below meth c nL Z f n cells slots pc lo (.int y :: .int x :: st) := by
  intro H locs ls hR hn hS hl
  subst hw
  exact lv_ishr C.1 C.2.1 hd (k0 H locs ls hR hn hS hl)
theorem ae_iushr (C : CC X p l R s m args meth c own cc nL ret) {x y : Int32} (w : Int32) (hd : decode cc pc = .ok (.iushr, 1)) (hw : (x.toUInt32 >>> (y.toUInt32 &&& Int32.toUInt32 31)).toInt32 = w) (k0 : AW X p l e R s m args below meth c nL Z f n cells slots (pc + 1) lo (.int w :: st)) : AW X p l e R s m args below meth c nL Z f n cells slots pc lo (.int y :: .int x :: st) := by
  intro H locs ls hR hn hS hl
  exact lv_iushr C.1 C.2.1 hd hw (k0 H locs ls hR hn hS hl)
theorem ae_irem (C : CC X p l R s m args meth c own cc nL ret) {x y : Int32} (w : Int32) (hd : decode cc pc = .ok (.irem, 1)) (hne : ¬ y = 0) (hw : x - x / y * y = w) (k0 : AW X p l e R s m args below meth c nL Z f n cells slots (pc + 1) lo (.int w :: st)) : AW X p l e R s m args below meth c nL Z f n cells slots pc lo (.int y :: .int x :: st) := by
  intro H locs ls hR hn hS hl
  subst hw
  exact lv_irem C.1 C.2.1 hd hne (k0 H locs ls hR hn hS hl)
theorem aw_istore_n (C : CC X p l R s m args meth c own cc nL ret) {k : Fin 4} {x : Int32} (hd : decode cc pc = .ok (.istore_n k, 1)) (hn' : (k : Nat) < nL) (hok : okS lo k = true) (k0 : AW X p l e R s m args below meth c nL Z f n cells slots (pc + 1) (lo.set k (some (.int x))) st) : AW X p l e R s m args below meth c nL Z f n cells slots pc lo (.int x :: st) := by
  intro H locs ls hR hn hS hl
  exact lv_istore_n C.1 C.2.1 hd rfl hl.has hn' rfl (fun ls' h' => (k0 H locs ls' hR hn hS (LH.st1 hok h')))
theorem aw_istore (C : CC X p l R s m args meth c own cc nL ret) {i : Nat} {x : Int32} (hd : decode cc pc = .ok (.istore i, 2)) (hn' : i < nL) (hok : okS lo i = true) (k0 : AW X p l e R s m args below meth c nL Z f n cells slots (pc + 2) (lo.set i (some (.int x))) st) : AW X p l e R s m args below meth c nL Z f n cells slots pc lo (.int x :: st) := by
  intro H locs ls hR hn hS hl
  exact lv_istore C.1 C.2.1 hd hl.has hn' rfl (fun ls' h' => (k0 H locs ls' hR hn hS (LH.st1 hok h')))
theorem aw_astore_n (C : CC X p l R s m args meth c own cc nL ret) {k : Fin 4} {v : Value} (hd : decode cc pc = .ok (.astore_n k, 1)) (hn' : (k : Nat) < nL) (hok : okS lo k = true) (hv : v = .null ∨ ∃ a, v = .ref a) (k0 : AW X p l e R s m args below meth c nL Z f n cells slots (pc + 1) (lo.set k (some v)) st) : AW X p l e R s m args below meth c nL Z f n cells slots pc lo (v :: st) := by
  intro H locs ls hR hn hS hl
  rcases hv with rfl | ⟨a, rfl⟩
  · exact lv_astore_nN C.1 C.2.1 hd rfl hl.has hn' rfl (fun ls' h' => (k0 H locs ls' hR hn hS (LH.st1 hok h')))
  · exact lv_astore_n C.1 C.2.1 hd rfl hl.has hn' rfl (fun ls' h' => (k0 H locs ls' hR hn hS (LH.st1 hok h')))
theorem aw_astore (C : CC X p l R s m args meth c own cc nL ret) {i : Nat} {v : Value} (hd : decode cc pc = .ok (.astore i, 2)) (hn' : i < nL) (hok : okS lo i = true) (hv : v = .null ∨ ∃ a, v = .ref a) (k0 : AW X p l e R s m args below meth c nL Z f n cells slots (pc + 2) (lo.set i (some v)) st) : AW X p l e R s m args below meth c nL Z f n cells slots pc lo (v :: st) := by
  intro H locs ls hR hn hS hl
  rcases hv with rfl | ⟨a, rfl⟩
  · exact lv_astoreN C.1 C.2.1 hd hl.has hn' rfl (fun ls' h' => (k0 H locs ls' hR hn hS (LH.st1 hok h')))
  · exact lv_astore C.1 C.2.1 hd hl.has hn' rfl (fun ls' h' => (k0 H locs ls' hR hn hS (LH.st1 hok h')))
theorem aw_lstore_n (C : CC X p l R s m args meth c own cc nL ret) {k : Fin 4} {x : Int64} (hd : decode cc pc = .ok (.lstore_n k, 1)) (hn' : (k : Nat) + 1 < nL) (hok : okS lo k = true) (k0 : AW X p l e R s m args below meth c nL Z f n cells slots (pc + 1) ((lo.set k (some (.long x))).set (k + 1) none) st) : AW X p l e R s m args below meth c nL Z f n cells slots pc lo (.long x :: st) := by
  intro H locs ls hR hn hS hl
  exact lv_lstore_n C.1 C.2.1 hd rfl hl.has hn' rfl (fun ls' h' => (k0 H locs ls' hR hn hS (LH.st2 hok h')))
theorem aw_lstore (C : CC X p l R s m args meth c own cc nL ret) {i : Nat} {x : Int64} (hd : decode cc pc = .ok (.lstore i, 2)) (hn' : i + 1 < nL) (hok : okS lo i = true) (k0 : AW X p l e R s m args below meth c nL Z f n cells slots (pc + 2) ((lo.set i (some (.long x))).set (i + 1) none) st) : AW X p l e R s m args below meth c nL Z f n cells slots pc lo (.long x :: st) := by
  intro H locs ls hR hn hS hl
  exact lv_lstore C.1 C.2.1 hd hl.has hn' rfl (fun ls' h' => (k0 H locs ls' hR hn hS (LH.st2 hok h')))
theorem prs_at {b : Nat} {lo : List (Option Value)} {i : Nat} {v : Value} (h : lo[i]? = some (some v)) : ∃ k : Nat, (prs b lo)[k]? = some (i, rn b v) := List.getElem?_of_mem (prs_mem h)
theorem aw_iinc (C : CC X p l R s m args meth c own cc nL ret) {i : Nat} {a : Int} {x : Int32} (w : Int32) (hd : decode cc pc = .ok (.iinc i a, 3)) (hl' : lo[i]? = some (some (.int x))) (hv : x + Int32.ofInt a = w) (hn' : i < nL) (hok : okS lo i = true) (k0 : AW X p l e R s m args below meth c nL Z f n cells slots (pc + 3) (lo.set i (some (.int w))) st) : AW X p l e R s m args below meth c nL Z f n cells slots pc lo st := by
  intro H locs ls hR hn hS hl
  obtain ⟨k9, hk9⟩ := prs_at (b := X.1) hl'
  exact lv_iinc C.1 C.2.1 hd hl.has hk9 hv hn' rfl (fun ls' h' => (k0 H locs ls' hR hn hS (LH.st1 (v := .int w) hok h')))
theorem aw_iadd (C : CC X p l R s m args meth c own cc nL ret) {x y : Int32} (hd : decode cc pc = .ok (.iadd, 1)) (k0 : AW X p l e R s m args below meth c nL Z f n cells slots (pc + 1) lo (.int (x + y) :: st)) : AW X p l e R s m args below meth c nL Z f n cells slots pc lo (.int y :: .int x :: st) := by
  intro H locs ls hR hn hS hl
  exact lv_iadd C.1 C.2.1 hd (k0 H locs ls hR hn hS hl)
theorem aw_isub (C : CC X p l R s m args meth c own cc nL ret) {x y : Int32} (hd : decode cc pc = .ok (.isub, 1)) (k0 : AW X p l e R s m args below meth c nL Z f n cells slots (pc + 1) lo (.int (x - y) :: st)) : AW X p l e R s m args below meth c nL Z f n cells slots pc lo (.int y :: .int x :: st) := by
  intro H locs ls hR hn hS hl
  exact lv_isub C.1 C.2.1 hd (k0 H locs ls hR hn hS hl)
theorem aw_imul (C : CC X p l R s m args meth c own cc nL ret) {x y : Int32} (hd : decode cc pc = .ok (.imul, 1)) (k0 : AW X p l e R s m args below meth c nL Z f n cells slots (pc + 1) lo (.int (x * y) :: st)) : AW X p l e R s m args below meth c nL Z f n cells slots pc lo (.int y :: .int x :: st) := by
  intro H locs ls hR hn hS hl
  exact lv_imul C.1 C.2.1 hd (k0 H locs ls hR hn hS hl)
theorem aw_iand (C : CC X p l R s m args meth c own cc nL ret) {x y : Int32} (hd : decode cc pc = .ok (.iand, 1)) (k0 : AW X p l e R s m args below meth c nL Z f n cells slots (pc + 1) lo (.int (x &&& y) :: st)) : AW X p l e R s m args below meth c nL Z f n cells slots pc lo (.int y :: .int x :: st) := by
  intro H locs ls hR hn hS hl
  exact lv_iand C.1 C.2.1 hd (k0 H locs ls hR hn hS hl)
theorem aw_ior (C : CC X p l R s m args meth c own cc nL ret) {x y : Int32} (hd : decode cc pc = .ok (.ior, 1)) (k0 : AW X p l e R s m args below meth c nL Z f n cells slots (pc + 1) lo (.int (x ||| y) :: st)) : AW X p l e R s m args below meth c nL Z f n cells slots pc lo (.int y :: .int x :: st) := by
  intro H locs ls hR hn hS hl
  exact lv_ior C.1 C.2.1 hd (k0 H locs ls hR hn hS hl)
theorem aw_ishl (C : CC X p l R s m args meth c own cc nL ret) {x y : Int32} (hd : decode cc pc = .ok (.ishl, 1)) (k0 : AW X p l e R s m args below meth c nL Z f n cells slots (pc + 1) lo (.int (x <<< (y &&& 31)) :: st)) : AW X p l e R s m args below meth c nL Z f n cells slots pc lo (.int y :: .int x :: st) := by
  intro H locs ls hR hn hS hl
  exact lv_ishl C.1 C.2.1 hd (k0 H locs ls hR hn hS hl)
theorem aw_ishr (C : CC X p l R s m args meth c own cc nL ret) {x y : Int32} (hd : decode cc pc = .ok (.ishr, 1)) (k0 : AW X p l e R s m args below meth c nL Z f n cells slots (pc + 1) lo (.int (x >>> (y &&& 31)) :: st)) : AW X p l e R s m args below meth c nL Z f n cells slots pc lo (.int y :: .int x :: st) := by
  intro H locs ls hR hn hS hl
  exact lv_ishr C.1 C.2.1 hd (k0 H locs ls hR hn hS hl)
theorem aw_iushr (C : CC X p l R s m args meth c own cc nL ret) {x y : Int32} (hd : decode cc pc = .ok (.iushr, 1)) (k0 : AW X p l e R s m args below meth c nL Z f n cells slots (pc + 1) lo (.int (x.toUInt32 >>> (y.toUInt32 &&& Int32.toUInt32 31)).toInt32 :: st)) : AW X p l e R s m args below meth c nL Z f n cells slots pc lo (.int y :: .int x :: st) := by
  intro H locs ls hR hn hS hl
  exact lv_iushr C.1 C.2.1 hd rfl (k0 H locs ls hR hn hS hl)
theorem aw_irem (C : CC X p l R s m args meth c own cc nL ret) {x y : Int32} (hd : decode cc pc = .ok (.irem, 1)) (hne : ¬ y = 0) (k0 : AW X p l e R s m args below meth c nL Z f n cells slots (pc + 1) lo (.int (x - x / y * y) :: st)) : AW X p l e R s m args below meth c nL Z f n cells slots pc lo (.int y :: .int x :: st) := by
  intro H locs ls hR hn hS hl
  exact lv_irem C.1 C.2.1 hd hne (k0 H locs ls hR hn hS hl)
theorem aw_i2l (C : CC X p l R s m args meth c own cc nL ret) {x : Int32} (hd : decode cc pc = .ok (.i2l, 1)) (k0 : AW X p l e R s m args below meth c nL Z f n cells slots (pc + 1) lo (.long x.toInt64 :: st)) : AW X p l e R s m args below meth c nL Z f n cells slots pc lo (.int x :: st) := by
  intro H locs ls hR hn hS hl
  exact lv_i2l C.1 C.2.1 hd rfl (k0 H locs ls hR hn hS hl)
theorem aw_lor (C : CC X p l R s m args meth c own cc nL ret) {x y : Int64} (hd : decode cc pc = .ok (.lor, 1)) (k0 : AW X p l e R s m args below meth c nL Z f n cells slots (pc + 1) lo (.long (x ||| y) :: st)) : AW X p l e R s m args below meth c nL Z f n cells slots pc lo (.long y :: .long x :: st) := by
  intro H locs ls hR hn hS hl
  exact lv_lor C.1 C.2.1 hd (k0 H locs ls hR hn hS hl)
theorem aw_lshl (C : CC X p l R s m args meth c own cc nL ret) {x : Int64} {y : Int32} (hd : decode cc pc = .ok (.lshl, 1)) (k0 : AW X p l e R s m args below meth c nL Z f n cells slots (pc + 1) lo (.long (x <<< (y.toInt64 &&& 63)) :: st)) : AW X p l e R s m args below meth c nL Z f n cells slots pc lo (.int y :: .long x :: st) := by
  intro H locs ls hR hn hS hl
  exact lv_lshl C.1 C.2.1 hd rfl (k0 H locs ls hR hn hS hl)
theorem aw_lcmp (C : CC X p l R s m args meth c own cc nL ret) {x y : Int64} (hd : decode cc pc = .ok (.lcmp, 1)) (k0 : AW X p l e R s m args below meth c nL Z f n cells slots (pc + 1) lo (.int (lg_cmp x y) :: st)) : AW X p l e R s m args below meth c nL Z f n cells slots pc lo (.long y :: .long x :: st) := by
  intro H locs ls hR hn hS hl
  exact W.lcmp C.1 C.2.1 hd (k0 H locs ls hR hn hS hl)
theorem aw_dup (C : CC X p l R s m args meth c own cc nL ret) {v : Value} (hd : decode cc pc = .ok (.dup, 1)) (hv : v.category = 1) (k0 : AW X p l e R s m args below meth c nL Z f n cells slots (pc + 1) lo (v :: v :: st)) : AW X p l e R s m args below meth c nL Z f n cells slots pc lo (v :: st) := by
  intro H locs ls hR hn hS hl
  exact lv_dup C.1 C.2.1 hd (by rw [rn_cat]; exact hv) (k0 H locs ls hR hn hS hl)
theorem aw_pop (C : CC X p l R s m args meth c own cc nL ret) {v : Value} (hd : decode cc pc = .ok (.pop, 1)) (hv : v.category = 1) (k0 : AW X p l e R s m args below meth c nL Z f n cells slots (pc + 1) lo st) : AW X p l e R s m args below meth c nL Z f n cells slots pc lo (v :: st) := by
  intro H locs ls hR hn hS hl
  exact lv_pop C.1 C.2.1 hd (by rw [rn_cat]; exact hv) (k0 H locs ls hR hn hS hl)
theorem aw_goto (C : CC X p l R s m args meth c own cc nL ret) {off : Int} (tgt : Nat) (hd : decode cc pc = .ok (.goto off, 3)) (ht : (pc : Int) + off = (tgt : Int)) (k0 : AW X p l e R s m args below meth c nL Z f n cells slots tgt lo st) : AW X p l e R s m args below meth c nL Z f n cells slots pc lo st := by
  intro H locs ls hR hn hS hl
  exact lv_goto C.1 C.2.1 hd ht (k0 H locs ls hR hn hS hl)
theorem aw_if_eq (C : CC X p l R s m args meth c own cc nL ret) {x : Int32} {off : Int} (tgt : Nat) (hd : decode cc pc = .ok (.ifCond .eq off, 3)) (ht : (pc : Int) + off = (tgt : Int)) (k0 : x = 0 → AW X p l e R s m args below meth c nL Z f n cells slots tgt lo st) (k1 : ¬ x = 0 → AW X p l e R s m args below meth c nL Z f n cells slots (pc + 3) lo st) : AW X p l e R s m args below meth c nL Z f n cells slots pc lo (.int x :: st) := by
  intro H locs ls hR hn hS hl
  exact lv_if_eq C.1 C.2.1 hd ht (fun q => k0 q H locs ls hR hn hS hl) (fun q => k1 q H locs ls hR hn hS hl)
theorem aw_if_ne (C : CC X p l R s m args meth c own cc nL ret) {x : Int32} {off : Int} (tgt : Nat) (hd : decode cc pc = .ok (.ifCond .ne off, 3)) (ht : (pc : Int) + off = (tgt : Int)) (k0 : ¬ x = 0 → AW X p l e R s m args below meth c nL Z f n cells slots tgt lo st) (k1 : x = 0 → AW X p l e R s m args below meth c nL Z f n cells slots (pc + 3) lo st) : AW X p l e R s m args below meth c nL Z f n cells slots pc lo (.int x :: st) := by
  intro H locs ls hR hn hS hl
  exact lv_if_ne C.1 C.2.1 hd ht (fun q => k0 q H locs ls hR hn hS hl) (fun q => k1 q H locs ls hR hn hS hl)
theorem aw_if_lt (C : CC X p l R s m args meth c own cc nL ret) {x : Int32} {off : Int} (tgt : Nat) (hd : decode cc pc = .ok (.ifCond .lt off, 3)) (ht : (pc : Int) + off = (tgt : Int)) (k0 : x < 0 → AW X p l e R s m args below meth c nL Z f n cells slots tgt lo st) (k1 : ¬ x < 0 → AW X p l e R s m args below meth c nL Z f n cells slots (pc + 3) lo st) : AW X p l e R s m args below meth c nL Z f n cells slots pc lo (.int x :: st) := by
  intro H locs ls hR hn hS hl
  exact lv_if_lt C.1 C.2.1 hd ht (fun q => k0 q H locs ls hR hn hS hl) (fun q => k1 q H locs ls hR hn hS hl)
theorem aw_if_ge (C : CC X p l R s m args meth c own cc nL ret) {x : Int32} {off : Int} (tgt : Nat) (hd : decode cc pc = .ok (.ifCond .ge off, 3)) (ht : (pc : Int) + off = (tgt : Int)) (k0 : 0 ≤ x → AW X p l e R s m args below meth c nL Z f n cells slots tgt lo st) (k1 : ¬ 0 ≤ x → AW X p l e R s m args below meth c nL Z f n cells slots (pc + 3) lo st) : AW X p l e R s m args below meth c nL Z f n cells slots pc lo (.int x :: st) := by
  intro H locs ls hR hn hS hl
  exact lv_if_ge C.1 C.2.1 hd ht (fun q => k0 q H locs ls hR hn hS hl) (fun q => k1 q H locs ls hR hn hS hl)
theorem aw_if_gt (C : CC X p l R s m args meth c own cc nL ret) {x : Int32} {off : Int} (tgt : Nat) (hd : decode cc pc = .ok (.ifCond .gt off, 3)) (ht : (pc : Int) + off = (tgt : Int)) (k0 : 0 < x → AW X p l e R s m args below meth c nL Z f n cells slots tgt lo st) (k1 : ¬ 0 < x → AW X p l e R s m args below meth c nL Z f n cells slots (pc + 3) lo st) : AW X p l e R s m args below meth c nL Z f n cells slots pc lo (.int x :: st) := by
  intro H locs ls hR hn hS hl
  exact lv_if_gt C.1 C.2.1 hd ht (fun q => k0 q H locs ls hR hn hS hl) (fun q => k1 q H locs ls hR hn hS hl)
theorem aw_if_le (C : CC X p l R s m args meth c own cc nL ret) {x : Int32} {off : Int} (tgt : Nat) (hd : decode cc pc = .ok (.ifCond .le off, 3)) (ht : (pc : Int) + off = (tgt : Int)) (k0 : x ≤ 0 → AW X p l e R s m args below meth c nL Z f n cells slots tgt lo st) (k1 : ¬ x ≤ 0 → AW X p l e R s m args below meth c nL Z f n cells slots (pc + 3) lo st) : AW X p l e R s m args below meth c nL Z f n cells slots pc lo (.int x :: st) := by
  intro H locs ls hR hn hS hl
  exact lv_if_le C.1 C.2.1 hd ht (fun q => k0 q H locs ls hR hn hS hl) (fun q => k1 q H locs ls hR hn hS hl)
theorem aw_icmp_eq (C : CC X p l R s m args meth c own cc nL ret) {x y : Int32} {off : Int} (tgt : Nat) (hd : decode cc pc = .ok (.if_icmp .eq off, 3)) (ht : (pc : Int) + off = (tgt : Int)) (k0 : x = y → AW X p l e R s m args below meth c nL Z f n cells slots tgt lo st) (k1 : ¬ x = y → AW X p l e R s m args below meth c nL Z f n cells slots (pc + 3) lo st) : AW X p l e R s m args below meth c nL Z f n cells slots pc lo (.int y :: .int x :: st) := by
  intro H locs ls hR hn hS hl
  exact lv_icmp_eq C.1 C.2.1 hd ht (fun q => k0 q H locs ls hR hn hS hl) (fun q => k1 q H locs ls hR hn hS hl)
theorem aw_icmp_ne (C : CC X p l R s m args meth c own cc nL ret) {x y : Int32} {off : Int} (tgt : Nat) (hd : decode cc pc = .ok (.if_icmp .ne off, 3)) (ht : (pc : Int) + off = (tgt : Int)) (k0 : ¬ x = y → AW X p l e R s m args below meth c nL Z f n cells slots tgt lo st) (k1 : x = y → AW X p l e R s m args below meth c nL Z f n cells slots (pc + 3) lo st) : AW X p l e R s m args below meth c nL Z f n cells slots pc lo (.int y :: .int x :: st) := by
  intro H locs ls hR hn hS hl
  exact lv_icmp_ne C.1 C.2.1 hd ht (fun q => k0 q H locs ls hR hn hS hl) (fun q => k1 q H locs ls hR hn hS hl)
theorem aw_icmp_lt (C : CC X p l R s m args meth c own cc nL ret) {x y : Int32} {off : Int} (tgt : Nat) (hd : decode cc pc = .ok (.if_icmp .lt off, 3)) (ht : (pc : Int) + off = (tgt : Int)) (k0 : x < y → AW X p l e R s m args below meth c nL Z f n cells slots tgt lo st) (k1 : ¬ x < y → AW X p l e R s m args below meth c nL Z f n cells slots (pc + 3) lo st) : AW X p l e R s m args below meth c nL Z f n cells slots pc lo (.int y :: .int x :: st) := by
  intro H locs ls hR hn hS hl
  exact lv_icmp_lt C.1 C.2.1 hd ht (fun q => k0 q H locs ls hR hn hS hl) (fun q => k1 q H locs ls hR hn hS hl)
theorem aw_icmp_ge (C : CC X p l R s m args meth c own cc nL ret) {x y : Int32} {off : Int} (tgt : Nat) (hd : decode cc pc = .ok (.if_icmp .ge off, 3)) (ht : (pc : Int) + off = (tgt : Int)) (k0 : y ≤ x → AW X p l e R s m args below meth c nL Z f n cells slots tgt lo st) (k1 : ¬ y ≤ x → AW X p l e R s m args below meth c nL Z f n cells slots (pc + 3) lo st) : AW X p l e R s m args below meth c nL Z f n cells slots pc lo (.int y :: .int x :: st) := by
  intro H locs ls hR hn hS hl
  exact lv_icmp_ge C.1 C.2.1 hd ht (fun q => k0 q H locs ls hR hn hS hl) (fun q => k1 q H locs ls hR hn hS hl)
theorem aw_icmp_gt (C : CC X p l R s m args meth c own cc nL ret) {x y : Int32} {off : Int} (tgt : Nat) (hd : decode cc pc = .ok (.if_icmp .gt off, 3)) (ht : (pc : Int) + off = (tgt : Int)) (k0 : y < x → AW X p l e R s m args below meth c nL Z f n cells slots tgt lo st) (k1 : ¬ y < x → AW X p l e R s m args below meth c nL Z f n cells slots (pc + 3) lo st) : AW X p l e R s m args below meth c nL Z f n cells slots pc lo (.int y :: .int x :: st) := by
  intro H locs ls hR hn hS hl
  exact lv_icmp_gt C.1 C.2.1 hd ht (fun q => k0 q H locs ls hR hn hS hl) (fun q => k1 q H locs ls hR hn hS hl)
theorem aw_icmp_le (C : CC X p l R s m args meth c own cc nL ret) {x y : Int32} {off : Int} (tgt : Nat) (hd : decode cc pc = .ok (.if_icmp .le off, 3)) (ht : (pc : Int) + off = (tgt : Int)) (k0 : x ≤ y → AW X p l e R s m args below meth c nL Z f n cells slots tgt lo st) (k1 : ¬ x ≤ y → AW X p l e R s m args below meth c nL Z f n cells slots (pc + 3) lo st) : AW X p l e R s m args below meth c nL Z f n cells slots pc lo (.int y :: .int x :: st) := by
  intro H locs ls hR hn hS hl
  exact lv_icmp_le C.1 C.2.1 hd ht (fun q => k0 q H locs ls hR hn hS hl) (fun q => k1 q H locs ls hR hn hS hl)
theorem aw_ifnull_r (C : CC X p l R s m args meth c own cc nL ret) {a : Nat} {off : Int} (tgt : Nat) (hd : decode cc pc = .ok (.ifnull off, 3)) (ht : (pc : Int) + off = (tgt : Int)) (k0 : AW X p l e R s m args below meth c nL Z f n cells slots (pc + 3) lo st) : AW X p l e R s m args below meth c nL Z f n cells slots pc lo (.ref a :: st) := by
  intro H locs ls hR hn hS hl
  exact lv_ifnull C.1 C.2.1 hd (k0 H locs ls hR hn hS hl)
theorem aw_ifnull_n (C : CC X p l R s m args meth c own cc nL ret) {off : Int} (tgt : Nat) (hd : decode cc pc = .ok (.ifnull off, 3)) (ht : (pc : Int) + off = (tgt : Int)) (k0 : AW X p l e R s m args below meth c nL Z f n cells slots tgt lo st) : AW X p l e R s m args below meth c nL Z f n cells slots pc lo (.null :: st) := by
  intro H locs ls hR hn hS hl
  exact lv_ifnullN C.1 C.2.1 hd ht (k0 H locs ls hR hn hS hl)
theorem aw_ifnonnull_r (C : CC X p l R s m args meth c own cc nL ret) {a : Nat} {off : Int} (tgt : Nat) (hd : decode cc pc = .ok (.ifnonnull off, 3)) (ht : (pc : Int) + off = (tgt : Int)) (k0 : AW X p l e R s m args below meth c nL Z f n cells slots tgt lo st) : AW X p l e R s m args below meth c nL Z f n cells slots pc lo (.ref a :: st) := by
  intro H locs ls hR hn hS hl
  exact lv_ifnonnull C.1 C.2.1 hd ht (k0 H locs ls hR hn hS hl)
theorem aw_ifnonnull_n (C : CC X p l R s m args meth c own cc nL ret) {off : Int} (tgt : Nat) (hd : decode cc pc = .ok (.ifnonnull off, 3)) (ht : (pc : Int) + off = (tgt : Int)) (k0 : AW X p l e R s m args below meth c nL Z f n cells slots (pc + 3) lo st) : AW X p l e R s m args below meth c nL Z f n cells slots pc lo (.null :: st) := by
  intro H locs ls hR hn hS hl
  exact lv_ifnonnullN C.1 C.2.1 hd (k0 H locs ls hR hn hS hl)
theorem aw_tabIn (C : CC X p l R s m args meth c own cc nL ret) {d lw hg : Int} {os : Array Int} {len : Nat} {x : Int32} {off : Int} (tgt : Nat) (hd : decode cc pc = .ok (.tableswitch d lw hg os, len)) (h1 : ¬ x.toInt < lw) (h2 : ¬ hg < x.toInt) (ho : os[(x.toInt - lw).toNat]? = some off) (ht : (pc : Int) + off = (tgt : Int)) (k0 : AW X p l e R s m args below meth c nL Z f n cells slots tgt lo st) : AW X p l e R s m args below meth c nL Z f n cells slots pc lo (.int x :: st) := by
  intro H locs ls hR hn hS hl
  exact lv_tableIn C.1 C.2.1 hd h1 h2 ho ht (k0 H locs ls hR hn hS hl)
theorem aw_tabOut (C : CC X p l R s m args meth c own cc nL ret) {d lw hg : Int} {os : Array Int} {len : Nat} {x : Int32} (tgt : Nat) (hd : decode cc pc = .ok (.tableswitch d lw hg os, len)) (h : x.toInt < lw ∨ hg < x.toInt) (ht : (pc : Int) + d = (tgt : Int)) (k0 : AW X p l e R s m args below meth c nL Z f n cells slots tgt lo st) : AW X p l e R s m args below meth c nL Z f n cells slots pc lo (.int x :: st) := by
  intro H locs ls hR hn hS hl
  exact lv_tableOut C.1 C.2.1 hd h ht (k0 H locs ls hR hn hS hl)
end AWS
end
