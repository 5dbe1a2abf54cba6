theorem ALLW_c1 {w : Cond} (i : Nat) (h : tables_1_1[i]? = some w) (hg : goodWord w = true) : w ∈ ALLW := ALLW_mem (List.mem_append_right _ (have h9 := List.mem_of_getElem? h; (List.mem_append_left _ h9))) hg
theorem ALLW_c2 {w : Cond} (i : Nat) (h : tables_1_2[i]? = some w) (hg : goodWord w = true) : w ∈ ALLW := ALLW_mem (List.mem_append_right _ (have h9 := List.mem_of_getElem? h; (List.mem_append_right _ (List.mem_append_left _ h9)))) hg
theorem ALLW_c3 {w : Cond} (i : Nat) (h : tables_1_3[i]? = some w) (hg : goodWord w = true) : w ∈ ALLW := ALLW_mem (List.mem_append_right _ (have h9 := List.mem_of_getElem? h; (List.mem_append_right _ (List.mem_append_right _ (List.mem_append_left _ h9))))) hg
theorem ALLW_c4 {w : Cond} (i : Nat) (h : tables_1_4[i]? = some w) (hg : goodWord w = true) : w ∈ ALLW := ALLW_mem (List.mem_append_right _ (have h9 := List.mem_of_getElem? h; (List.mem_append_right _ (List.mem_append_right _ (List.mem_append_right _ (List.mem_append_left _ h9)))))) hg
theorem ALLW_c5 {w : Cond} (i : Nat) (h : tables_1_5[i]? = some w) (hg : goodWord w = true) : w ∈ ALLW := ALLW_mem (List.mem_append_right _ (have h9 := List.mem_of_getElem? h; (List.mem_append_right _ (List.mem_append_right _ (List.mem_append_right _ (List.mem_append_right _ (List.mem_append_left _ h9))))))) hg
theorem ALLW_c6 {w : Cond} (i : Nat) (h : tables_1_6[i]? = some w) (hg : goodWord w = true) : w ∈ ALLW := ALLW_mem (List.mem_append_right _ (have h9 := List.mem_of_getElem? h; (List.mem_append_right _ (List.mem_append_right _ (List.mem_append_right _ (List.mem_append_right _ (List.mem_append_right _ (List.mem_append_left _ h9)))))))) hg
theorem ALLW_c7 {w : Cond} (i : Nat) (h : tables_1_7[i]? = some w) (hg : goodWord w = true) : w ∈ ALLW := ALLW_mem (List.mem_append_right _ (have h9 := List.mem_of_getElem? h; (List.mem_append_right _ (List.mem_append_right _ (List.mem_append_right _ (List.mem_append_right _ (List.mem_append_right _ (List.mem_append_right _ (List.mem_append_left _ h9))))))))) hg
theorem ALLW_c8 {w : Cond} (i : Nat) (h : tables_1_8[i]? = some w) (hg : goodWord w = true) : w ∈ ALLW := ALLW_mem (List.mem_append_right _ (have h9 := List.mem_of_getElem? h; (List.mem_append_right _ (List.mem_append_right _ (List.mem_append_right _ (List.mem_append_right _ (List.mem_append_right _ (List.mem_append_right _ (List.mem_append_right _ h9))))))))) hg
set_option maxRecDepth 100000 in
theorem uw0 : ∀ w ∈ u_ws RX0 TX0 4, w ∈ ALLW := by
  show ∀ w ∈ [u_lay RX0 TX0 0, u_lay RX0 TX0 1, u_lay RX0 TX0 2, u_lay RX0 TX0 3], w ∈ ALLW
  exact List.forall_mem_cons.mpr ⟨(ALLW_c2 18 rfl rfl), List.forall_mem_cons.mpr ⟨(ALLW_c2 20 rfl rfl), List.forall_mem_cons.mpr ⟨(ALLW_c2 22 rfl rfl), List.forall_mem_cons.mpr ⟨(ALLW_c2 24 rfl rfl), fun _ h => absurd h List.not_mem_nil⟩⟩⟩⟩
theorem cf0 : CF 0 tyX0 := ⟨(RX0, TX0, 4), rfl, uw0, tyX0_ok, nmX0⟩
set_option maxRecDepth 100000 in
theorem uw1 : ∀ w ∈ u_ws RX1 TX1 8, w ∈ ALLW := by
  show ∀ w ∈ [u_lay RX1 TX1 0, u_lay RX1 TX1 1, u_lay RX1 TX1 2, u_lay RX1 TX1 3, u_lay RX1 TX1 4, u_lay RX1 TX1 5, u_lay RX1 TX1 6, u_lay RX1 TX1 7], w ∈ ALLW
  exact List.forall_mem_cons.mpr ⟨(ALLW_c1 227 rfl rfl), List.forall_mem_cons.mpr ⟨(ALLW_c1 229 rfl rfl), List.forall_mem_cons.mpr ⟨(ALLW_c1 231 rfl rfl), List.forall_mem_cons.mpr ⟨(ALLW_c1 233 rfl rfl), List.forall_mem_cons.mpr ⟨(ALLW_c1 235 rfl rfl), List.forall_mem_cons.mpr ⟨(ALLW_c1 237 rfl rfl), List.forall_mem_cons.mpr ⟨(ALLW_c1 239 rfl rfl), List.forall_mem_cons.mpr ⟨(ALLW_c2 1 rfl rfl), fun _ h => absurd h List.not_mem_nil⟩⟩⟩⟩⟩⟩⟩⟩
theorem cf1 : CF 1 tyX1 := ⟨(RX1, TX1, 8), rfl, uw1, tyX1_ok, nmX1⟩
set_option maxRecDepth 100000 in
theorem uw2 : ∀ w ∈ u_ws RX2 TX2 3, w ∈ ALLW := by
  show ∀ w ∈ [u_lay RX2 TX2 0, u_lay RX2 TX2 1, u_lay RX2 TX2 2], w ∈ ALLW
  exact List.forall_mem_cons.mpr ⟨(ALLW_c3 151 rfl rfl), List.forall_mem_cons.mpr ⟨(ALLW_c3 153 rfl rfl), List.forall_mem_cons.mpr ⟨(ALLW_c3 155 rfl rfl), fun _ h => absurd h List.not_mem_nil⟩⟩⟩
theorem cf2 : CF 2 tyX2 := ⟨(RX2, TX2, 3), rfl, uw2, tyX2_ok, nmX2⟩
set_option maxRecDepth 100000 in
theorem uw3 : ∀ w ∈ u_ws RX3 TX3 12, w ∈ ALLW := by
  show ∀ w ∈ [u_lay RX3 TX3 0, u_lay RX3 TX3 1, u_lay RX3 TX3 2, u_lay RX3 TX3 3, u_lay RX3 TX3 4, u_lay RX3 TX3 5, u_lay RX3 TX3 6, u_lay RX3 TX3 7, u_lay RX3 TX3 8, u_lay RX3 TX3 9, u_lay RX3 TX3 10, u_lay RX3 TX3 11], w ∈ ALLW
  exact List.forall_mem_cons.mpr ⟨(ALLW_c1 192 rfl rfl), List.forall_mem_cons.mpr ⟨(ALLW_c1 194 rfl rfl), List.forall_mem_cons.mpr ⟨(ALLW_c1 196 rfl rfl), List.forall_mem_cons.mpr ⟨(ALLW_c1 198 rfl rfl), List.forall_mem_cons.mpr ⟨(ALLW_c1 200 rfl rfl), List.forall_mem_cons.mpr ⟨(ALLW_c1 202 rfl rfl), List.forall_mem_cons.mpr ⟨(ALLW_c1 204 rfl rfl), List.forall_mem_cons.mpr ⟨(ALLW_c1 206 rfl rfl), List.forall_mem_cons.mpr ⟨(ALLW_c1 208 rfl rfl), List.forall_mem_cons.mpr ⟨(ALLW_c1 210 rfl rfl), List.forall_mem_cons.mpr ⟨(ALLW_c1 212 rfl rfl), List.forall_mem_cons.mpr ⟨(ALLW_c1 214 rfl rfl), fun _ h => absurd h List.not_mem_nil⟩⟩⟩⟩⟩⟩⟩⟩⟩⟩⟩⟩
theorem cf3 : CF 3 tyX3 := ⟨(RX3, TX3, 12), rfl, uw3, tyX3_ok, nmX3⟩
set_option maxRecDepth 100000 in
theorem uw4 : ∀ w ∈ u_ws RX4 TX4 8, w ∈ ALLW := by
  show ∀ w ∈ [u_lay RX4 TX4 0, u_lay RX4 TX4 1, u_lay RX4 TX4 2, u_lay RX4 TX4 3, u_lay RX4 TX4 4, u_lay RX4 TX4 5, u_lay RX4 TX4 6, u_lay RX4 TX4 7], w ∈ ALLW
  exact List.forall_mem_cons.mpr ⟨(ALLW_c2 49 rfl rfl), List.forall_mem_cons.mpr ⟨(ALLW_c2 51 rfl rfl), List.forall_mem_cons.mpr ⟨(ALLW_c2 53 rfl rfl), List.forall_mem_cons.mpr ⟨(ALLW_c2 55 rfl rfl), List.forall_mem_cons.mpr ⟨(ALLW_c2 57 rfl rfl), List.forall_mem_cons.mpr ⟨(ALLW_c2 59 rfl rfl), List.forall_mem_cons.mpr ⟨(ALLW_c2 61 rfl rfl), List.forall_mem_cons.mpr ⟨(ALLW_c2 63 rfl rfl), fun _ h => absurd h List.not_mem_nil⟩⟩⟩⟩⟩⟩⟩⟩
theorem cf4 : CF 4 tyX4 := ⟨(RX4, TX4, 8), rfl, uw4, tyX4_ok, nmX4⟩
set_option maxRecDepth 100000 in
theorem uw5 : ∀ w ∈ u_ws RX5 TX5 2, w ∈ ALLW := by
  show ∀ w ∈ [u_lay RX5 TX5 0, u_lay RX5 TX5 1], w ∈ ALLW
  exact List.forall_mem_cons.mpr ⟨(ALLW_c1 39 rfl rfl), List.forall_mem_cons.mpr ⟨(ALLW_c1 41 rfl rfl), fun _ h => absurd h List.not_mem_nil⟩⟩
theorem cf5 : CF 5 tyX5 := ⟨(RX5, TX5, 2), rfl, uw5, tyX5_ok, nmX5⟩
set_option maxRecDepth 100000 in
theorem uw6 : ∀ w ∈ u_ws RX6 TX6 10, w ∈ ALLW := by
  show ∀ w ∈ [u_lay RX6 TX6 0, u_lay RX6 TX6 1, u_lay RX6 TX6 2, u_lay RX6 TX6 3, u_lay RX6 TX6 4, u_lay RX6 TX6 5, u_lay RX6 TX6 6, u_lay RX6 TX6 7, u_lay RX6 TX6 8, u_lay RX6 TX6 9], w ∈ ALLW
  exact List.forall_mem_cons.mpr ⟨(ALLW_c1 137 rfl rfl), List.forall_mem_cons.mpr ⟨(ALLW_c1 139 rfl rfl), List.forall_mem_cons.mpr ⟨(ALLW_c1 141 rfl rfl), List.forall_mem_cons.mpr ⟨(ALLW_c1 143 rfl rfl), List.forall_mem_cons.mpr ⟨(ALLW_c1 145 rfl rfl), List.forall_mem_cons.mpr ⟨(ALLW_c1 147 rfl rfl), List.forall_mem_cons.mpr ⟨(ALLW_c1 149 rfl rfl), List.forall_mem_cons.mpr ⟨(ALLW_c1 151 rfl rfl), List.forall_mem_cons.mpr ⟨(ALLW_c1 153 rfl rfl), List.forall_mem_cons.mpr ⟨(ALLW_c1 155 rfl rfl), fun _ h => absurd h List.not_mem_nil⟩⟩⟩⟩⟩⟩⟩⟩⟩⟩
theorem cf6 : CF 6 tyX6 := ⟨(RX6, TX6, 10), rfl, uw6, tyX6_ok, nmX6⟩
set_option maxRecDepth 100000 in
theorem uw7 : ∀ w ∈ u_ws RX7 TX7 10, w ∈ ALLW := by
  show ∀ w ∈ [u_lay RX7 TX7 0, u_lay RX7 TX7 1, u_lay RX7 TX7 2, u_lay RX7 TX7 3, u_lay RX7 TX7 4, u_lay RX7 TX7 5, u_lay RX7 TX7 6, u_lay RX7 TX7 7, u_lay RX7 TX7 8, u_lay RX7 TX7 9], w ∈ ALLW
  exact List.forall_mem_cons.mpr ⟨(ALLW_c1 79 rfl rfl), List.forall_mem_cons.mpr ⟨(ALLW_c1 81 rfl rfl), List.forall_mem_cons.mpr ⟨(ALLW_c1 83 rfl rfl), List.forall_mem_cons.mpr ⟨(ALLW_c1 85 rfl rfl), List.forall_mem_cons.mpr ⟨(ALLW_c1 87 rfl rfl), List.forall_mem_cons.mpr ⟨(ALLW_c1 89 rfl rfl), List.forall_mem_cons.mpr ⟨(ALLW_c1 91 rfl rfl), List.forall_mem_cons.mpr ⟨(ALLW_c1 93 rfl rfl), List.forall_mem_cons.mpr ⟨(ALLW_c1 95 rfl rfl), List.forall_mem_cons.mpr ⟨(ALLW_c1 97 rfl rfl), fun _ h => absurd h List.not_mem_nil⟩⟩⟩⟩⟩⟩⟩⟩⟩⟩
theorem cf7 : CF 7 tyX7 := ⟨(RX7, TX7, 10), rfl, uw7, tyX7_ok, nmX7⟩
set_option maxRecDepth 100000 in
theorem uw8 : ∀ w ∈ u_ws RX8 TX8 14, w ∈ ALLW := by
  show ∀ w ∈ [u_lay RX8 TX8 0, u_lay RX8 TX8 1, u_lay RX8 TX8 2, u_lay RX8 TX8 3, u_lay RX8 TX8 4, u_lay RX8 TX8 5, u_lay RX8 TX8 6, u_lay RX8 TX8 7, u_lay RX8 TX8 8, u_lay RX8 TX8 9, u_lay RX8 TX8 10, u_lay RX8 TX8 11, u_lay RX8 TX8 12, u_lay RX8 TX8 13], w ∈ ALLW
  exact List.forall_mem_cons.mpr ⟨(ALLW_c2 80 rfl rfl), List.forall_mem_cons.mpr ⟨(ALLW_c2 82 rfl rfl), List.forall_mem_cons.mpr ⟨(ALLW_c2 84 rfl rfl), List.forall_mem_cons.mpr ⟨(ALLW_c2 86 rfl rfl), List.forall_mem_cons.mpr ⟨(ALLW_c2 88 rfl rfl), List.forall_mem_cons.mpr ⟨(ALLW_c2 90 rfl rfl), List.forall_mem_cons.mpr ⟨(ALLW_c2 92 rfl rfl), List.forall_mem_cons.mpr ⟨(ALLW_c2 94 rfl rfl), List.forall_mem_cons.mpr ⟨(ALLW_c2 96 rfl rfl), List.forall_mem_cons.mpr ⟨(ALLW_c2 98 rfl rfl), List.forall_mem_cons.mpr ⟨(ALLW_c2 100 rfl rfl), List.forall_mem_cons.mpr ⟨(ALLW_c2 102 rfl rfl), List.forall_mem_cons.mpr ⟨(ALLW_c2 104 rfl rfl), List.forall_mem_cons.mpr ⟨(ALLW_c2 106 rfl rfl), fun _ h => absurd h List.not_mem_nil⟩⟩⟩⟩⟩⟩⟩⟩⟩⟩⟩⟩⟩⟩
theorem cf8 : CF 8 tyX8 := ⟨(RX8, TX8, 14), rfl, uw8, tyX8_ok, nmX8⟩
set_option maxRecDepth 100000 in
theorem uw9 : ∀ w ∈ u_ws RX9 TX9 60, w ∈ ALLW := by
  show ∀ w ∈ [u_lay RX9 TX9 0, u_lay RX9 TX9 1, u_lay RX9 TX9 2, u_lay RX9 TX9 3, u_lay RX9 TX9 4, u_lay RX9 TX9 5, u_lay RX9 TX9 6, u_lay RX9 TX9 7, u_lay RX9 TX9 8, u_lay RX9 TX9 9, u_lay RX9 TX9 10, u_lay RX9 TX9 11, u_lay RX9 TX9 12, u_lay RX9 TX9 13, u_lay RX9 TX9 14, u_lay RX9 TX9 15, u_lay RX9 TX9 16, u_lay RX9 TX9 17, u_lay RX9 TX9 18, u_lay RX9 TX9 19, u_lay RX9 TX9 20, u_lay RX9 TX9 21, u_lay RX9 TX9 22, u_lay RX9 TX9 23, u_lay RX9 TX9 24, u_lay RX9 TX9 25, u_lay RX9 TX9 26, u_lay RX9 TX9 27, u_lay RX9 TX9 28, u_lay RX9 TX9 29, u_lay RX9 TX9 30, u_lay RX9 TX9 31, u_lay RX9 TX9 32, u_lay RX9 TX9 33, u_lay RX9 TX9 34, u_lay RX9 TX9 35, u_lay RX9 TX9 36, u_lay RX9 TX9 37, u_lay RX9 TX9 38, u_lay RX9 TX9 39, u_lay RX9 TX9 40, u_lay RX9 TX9 41, u_lay RX9 TX9 42, u_lay RX9 TX9 43, u_lay RX9 TX9 44, u_lay RX9 TX9 45, u_lay RX9 TX9 46, u_lay RX9 TX9 47, u_lay RX9 TX9 48, u_lay RX9 TX9 49, u_lay RX9 TX9 50, u_lay RX9 TX9 51, u_lay RX9 TX9 52, u_lay RX9 TX9 53, u_lay RX9 TX9 54, u_lay RX9 TX9 55, u_lay RX9 TX9 56, u_lay RX9 TX9 57, u_lay RX9 TX9 58, u_lay RX9 TX9 59], w ∈ ALLW
  exact List.forall_mem_cons.mpr ⟨(ALLW_c6 3 rfl rfl), List.forall_mem_cons.mpr ⟨(ALLW_c6 5 rfl rfl), List.forall_mem_cons.mpr ⟨(ALLW_c6 7 rfl rfl), List.forall_mem_cons.mpr ⟨(ALLW_c6 9 rfl rfl), List.forall_mem_cons.mpr ⟨(ALLW_c6 11 rfl rfl), List.forall_mem_cons.mpr ⟨(ALLW_c6 13 rfl rfl), List.forall_mem_cons.mpr ⟨(ALLW_c6 15 rfl rfl), List.forall_mem_cons.mpr ⟨(ALLW_c6 17 rfl rfl), List.forall_mem_cons.mpr ⟨(ALLW_c6 19 rfl rfl), List.forall_mem_cons.mpr ⟨(ALLW_c6 21 rfl rfl), List.forall_mem_cons.mpr ⟨(ALLW_c6 23 rfl rfl), List.forall_mem_cons.mpr ⟨(ALLW_c6 25 rfl rfl), List.forall_mem_cons.mpr ⟨(ALLW_c6 27 rfl rfl), List.forall_mem_cons.mpr ⟨(ALLW_c6 29 rfl rfl), List.forall_mem_cons.mpr ⟨(ALLW_c6 31 rfl rfl), List.forall_mem_cons.mpr ⟨(ALLW_c6 33 rfl rfl), List.forall_mem_cons.mpr ⟨(ALLW_c6 35 rfl rfl), List.forall_mem_cons.mpr ⟨(ALLW_c6 37 rfl rfl), List.forall_mem_cons.mpr ⟨(ALLW_c6 39 rfl rfl), List.forall_mem_cons.mpr ⟨(ALLW_c6 41 rfl rfl), List.forall_mem_cons.mpr ⟨(ALLW_c6 43 rfl rfl), List.forall_mem_cons.mpr ⟨(ALLW_c6 45 rfl rfl), List.forall_mem_cons.mpr ⟨(ALLW_c6 47 rfl rfl), List.forall_mem_cons.mpr ⟨(ALLW_c6 49 rfl rfl), List.forall_mem_cons.mpr ⟨(ALLW_c6 51 rfl rfl), List.forall_mem_cons.mpr ⟨(ALLW_c6 53 rfl rfl), List.forall_mem_cons.mpr ⟨(ALLW_c6 55 rfl rfl), List.forall_mem_cons.mpr ⟨(ALLW_c6 57 rfl rfl), List.forall_mem_cons.mpr ⟨(ALLW_c6 59 rfl rfl), List.forall_mem_cons.mpr ⟨(ALLW_c6 61 rfl rfl), List.forall_mem_cons.mpr ⟨(ALLW_c6 63 rfl rfl), List.forall_mem_cons.mpr ⟨(ALLW_c6 65 rfl rfl), List.forall_mem_cons.mpr ⟨(ALLW_c6 67 rfl rfl), List.forall_mem_cons.mpr ⟨(ALLW_c6 69 rfl rfl), List.forall_mem_cons.mpr ⟨(ALLW_c6 71 rfl rfl), List.forall_mem_cons.mpr ⟨(ALLW_c6 73 rfl rfl), List.forall_mem_cons.mpr ⟨(ALLW_c6 75 rfl rfl), List.forall_mem_cons.mpr ⟨(ALLW_c6 77 rfl rfl), List.forall_mem_cons.mpr ⟨(ALLW_c6 79 rfl rfl), List.forall_mem_cons.mpr ⟨(ALLW_c6 81 rfl rfl), List.forall_mem_cons.mpr ⟨(ALLW_c6 83 rfl rfl), List.forall_mem_cons.mpr ⟨(ALLW_c6 85 rfl rfl), List.forall_mem_cons.mpr ⟨(ALLW_c6 87 rfl rfl), List.forall_mem_cons.mpr ⟨(ALLW_c6 89 rfl rfl), List.forall_mem_cons.mpr ⟨(ALLW_c6 91 rfl rfl), List.forall_mem_cons.mpr ⟨(ALLW_c6 93 rfl rfl), List.forall_mem_cons.mpr ⟨(ALLW_c6 95 rfl rfl), List.forall_mem_cons.mpr ⟨(ALLW_c6 97 rfl rfl), List.forall_mem_cons.mpr ⟨(ALLW_c6 99 rfl rfl), List.forall_mem_cons.mpr ⟨(ALLW_c6 101 rfl rfl), List.forall_mem_cons.mpr ⟨(ALLW_c6 103 rfl rfl), List.forall_mem_cons.mpr ⟨(ALLW_c6 105 rfl rfl), List.forall_mem_cons.mpr ⟨(ALLW_c6 107 rfl rfl), List.forall_mem_cons.mpr ⟨(ALLW_c6 109 rfl rfl), List.forall_mem_cons.mpr ⟨(ALLW_c6 111 rfl rfl), List.forall_mem_cons.mpr ⟨(ALLW_c6 113 rfl rfl), List.forall_mem_cons.mpr ⟨(ALLW_c6 115 rfl rfl), List.forall_mem_cons.mpr ⟨(ALLW_c6 117 rfl rfl), List.forall_mem_cons.mpr ⟨(ALLW_c6 119 rfl rfl), List.forall_mem_cons.mpr ⟨(ALLW_c6 121 rfl rfl), fun _ h => absurd h List.not_mem_nil⟩⟩⟩⟩⟩⟩⟩⟩⟩⟩⟩⟩⟩⟩⟩⟩⟩⟩⟩⟩⟩⟩⟩⟩⟩⟩⟩⟩⟩⟩⟩⟩⟩⟩⟩⟩⟩⟩⟩⟩⟩⟩⟩⟩⟩⟩⟩⟩⟩⟩⟩⟩⟩⟩⟩⟩⟩⟩⟩⟩
theorem cf9 : CF 9 tyX9 := ⟨(RX9, TX9, 60), rfl, uw9, tyX9_ok, nmX9⟩
set_option maxRecDepth 100000 in
theorem gf_X5_9 : GF RX5 9 5 0 := ⟨(RX5, TX5, 2), rfl, uw5, by decide, (ALLW_c1 37 rfl rfl)⟩
set_option maxRecDepth 100000 in
theorem gf_X5_15 : GF RX5 15 5 1 := ⟨(RX5, TX5, 2), rfl, uw5, by decide, (ALLW_c1 38 rfl rfl)⟩
set_option maxRecDepth 100000 in
theorem gf_X7_14 : GF RX7 14 7 0 := ⟨(RX7, TX7, 10), rfl, uw7, by decide, (ALLW_c1 54 rfl rfl)⟩
set_option maxRecDepth 100000 in
theorem gf_X0_39 : GF RX0 39 7 0 := ⟨(RX7, TX7, 10), rfl, uw7, by decide, (ALLW_c1 55 rfl rfl)⟩
set_option maxRecDepth 100000 in
theorem gf_X8_130 : GF RX8 130 7 0 := ⟨(RX7, TX7, 10), rfl, uw7, by decide, (ALLW_c1 56 rfl rfl)⟩
set_option maxRecDepth 100000 in
theorem gf_X7_20 : GF RX7 20 7 1 := ⟨(RX7, TX7, 10), rfl, uw7, by decide, (ALLW_c1 57 rfl rfl)⟩
set_option maxRecDepth 100000 in
theorem gf_X0_76 : GF RX0 76 7 1 := ⟨(RX7, TX7, 10), rfl, uw7, by decide, (ALLW_c1 58 rfl rfl)⟩
set_option maxRecDepth 100000 in
theorem gf_X1_53 : GF RX1 53 7 1 := ⟨(RX7, TX7, 10), rfl, uw7, by decide, (ALLW_c1 59 rfl rfl)⟩
set_option maxRecDepth 100000 in
theorem gf_X8_232 : GF RX8 232 7 1 := ⟨(RX7, TX7, 10), rfl, uw7, by decide, (ALLW_c1 60 rfl rfl)⟩
set_option maxRecDepth 100000 in
theorem gf_X7_24 : GF RX7 24 7 2 := ⟨(RX7, TX7, 10), rfl, uw7, by decide, (ALLW_c1 61 rfl rfl)⟩
set_option maxRecDepth 100000 in
theorem gf_X0_83 : GF RX0 83 7 2 := ⟨(RX7, TX7, 10), rfl, uw7, by decide, (ALLW_c1 62 rfl rfl)⟩
set_option maxRecDepth 100000 in
theorem gf_X1_70 : GF RX1 70 7 2 := ⟨(RX7, TX7, 10), rfl, uw7, by decide, (ALLW_c1 63 rfl rfl)⟩
set_option maxRecDepth 100000 in
theorem gf_X8_290 : GF RX8 290 7 2 := ⟨(RX7, TX7, 10), rfl, uw7, by decide, (ALLW_c1 64 rfl rfl)⟩
set_option maxRecDepth 100000 in
theorem gf_X7_37 : GF RX7 37 7 3 := ⟨(RX7, TX7, 10), rfl, uw7, by decide, (ALLW_c1 65 rfl rfl)⟩
set_option maxRecDepth 100000 in
theorem gf_X1_121 : GF RX1 121 7 3 := ⟨(RX7, TX7, 10), rfl, uw7, by decide, (ALLW_c1 66 rfl rfl)⟩
set_option maxRecDepth 100000 in
theorem gf_X8_296 : GF RX8 296 7 3 := ⟨(RX7, TX7, 10), rfl, uw7, by decide, (ALLW_c1 67 rfl rfl)⟩
set_option maxRecDepth 100000 in
theorem gf_X7_27 : GF RX7 27 7 4 := ⟨(RX7, TX7, 10), rfl, uw7, by decide, (ALLW_c1 68 rfl rfl)⟩
set_option maxRecDepth 100000 in
theorem gf_X1_118 : GF RX1 118 7 4 := ⟨(RX7, TX7, 10), rfl, uw7, by decide, (ALLW_c1 69 rfl rfl)⟩
set_option maxRecDepth 100000 in
theorem gf_X8_299 : GF RX8 299 7 4 := ⟨(RX7, TX7, 10), rfl, uw7, by decide, (ALLW_c1 70 rfl rfl)⟩
set_option maxRecDepth 100000 in
theorem gf_X7_41 : GF RX7 41 7 5 := ⟨(RX7, TX7, 10), rfl, uw7, by decide, (ALLW_c1 71 rfl rfl)⟩
set_option maxRecDepth 100000 in
theorem gf_X8_302 : GF RX8 302 7 5 := ⟨(RX7, TX7, 10), rfl, uw7, by decide, (ALLW_c1 72 rfl rfl)⟩
set_option maxRecDepth 100000 in
theorem gf_X7_44 : GF RX7 44 7 6 := ⟨(RX7, TX7, 10), rfl, uw7, by decide, (ALLW_c1 73 rfl rfl)⟩
set_option maxRecDepth 100000 in
theorem gf_X8_261 : GF RX8 261 7 6 := ⟨(RX7, TX7, 10), rfl, uw7, by decide, (ALLW_c1 74 rfl rfl)⟩
set_option maxRecDepth 100000 in
theorem gf_X7_48 : GF RX7 48 7 7 := ⟨(RX7, TX7, 10), rfl, uw7, by decide, (ALLW_c1 75 rfl rfl)⟩
set_option maxRecDepth 100000 in
theorem gf_X8_258 : GF RX8 258 7 7 := ⟨(RX7, TX7, 10), rfl, uw7, by decide, (ALLW_c1 76 rfl rfl)⟩
set_option maxRecDepth 100000 in
theorem gf_X7_30 : GF RX7 30 7 8 := ⟨(RX7, TX7, 10), rfl, uw7, by decide, (ALLW_c1 77 rfl rfl)⟩
set_option maxRecDepth 100000 in
theorem gf_X7_34 : GF RX7 34 7 9 := ⟨(RX7, TX7, 10), rfl, uw7, by decide, (ALLW_c1 78 rfl rfl)⟩
set_option maxRecDepth 100000 in
theorem gf_X6_14 : GF RX6 14 6 0 := ⟨(RX6, TX6, 10), rfl, uw6, by decide, (ALLW_c1 117 rfl rfl)⟩
set_option maxRecDepth 100000 in
theorem gf_X7_75 : GF RX7 75 6 0 := ⟨(RX6, TX6, 10), rfl, uw6, by decide, (ALLW_c1 118 rfl rfl)⟩
set_option maxRecDepth 100000 in
theorem gf_X6_53 : GF RX6 53 6 1 := ⟨(RX6, TX6, 10), rfl, uw6, by decide, (ALLW_c1 119 rfl rfl)⟩
set_option maxRecDepth 100000 in
theorem gf_X1_81 : GF RX1 81 6 1 := ⟨(RX6, TX6, 10), rfl, uw6, by decide, (ALLW_c1 120 rfl rfl)⟩
set_option maxRecDepth 100000 in
theorem gf_X6_56 : GF RX6 56 6 2 := ⟨(RX6, TX6, 10), rfl, uw6, by decide, (ALLW_c1 121 rfl rfl)⟩
set_option maxRecDepth 100000 in
theorem gf_X1_84 : GF RX1 84 6 2 := ⟨(RX6, TX6, 10), rfl, uw6, by decide, (ALLW_c1 122 rfl rfl)⟩
set_option maxRecDepth 100000 in
theorem gf_X6_27 : GF RX6 27 6 3 := ⟨(RX6, TX6, 10), rfl, uw6, by decide, (ALLW_c1 123 rfl rfl)⟩
set_option maxRecDepth 100000 in
theorem gf_X1_144 : GF RX1 144 6 3 := ⟨(RX6, TX6, 10), rfl, uw6, by decide, (ALLW_c1 124 rfl rfl)⟩
set_option maxRecDepth 100000 in
theorem gf_X6_31 : GF RX6 31 6 4 := ⟨(RX6, TX6, 10), rfl, uw6, by decide, (ALLW_c1 125 rfl rfl)⟩
set_option maxRecDepth 100000 in
theorem gf_X1_136 : GF RX1 136 6 4 := ⟨(RX6, TX6, 10), rfl, uw6, by decide, (ALLW_c1 126 rfl rfl)⟩
set_option maxRecDepth 100000 in
theorem gf_X7_78 : GF RX7 78 6 4 := ⟨(RX6, TX6, 10), rfl, uw6, by decide, (ALLW_c1 127 rfl rfl)⟩
set_option maxRecDepth 100000 in
theorem gf_X6_34 : GF RX6 34 6 5 := ⟨(RX6, TX6, 10), rfl, uw6, by decide, (ALLW_c1 128 rfl rfl)⟩
set_option maxRecDepth 100000 in
theorem gf_X1_140 : GF RX1 140 6 5 := ⟨(RX6, TX6, 10), rfl, uw6, by decide, (ALLW_c1 129 rfl rfl)⟩
set_option maxRecDepth 100000 in
theorem gf_X7_70 : GF RX7 70 6 5 := ⟨(RX6, TX6, 10), rfl, uw6, by decide, (ALLW_c1 130 rfl rfl)⟩
set_option maxRecDepth 100000 in
theorem gf_X1_98 : GF RX1 98 6 6 := ⟨(RX6, TX6, 10), rfl, uw6, by decide, (ALLW_c1 131 rfl rfl)⟩
set_option maxRecDepth 100000 in
theorem gf_X6_83 : GF RX6 83 6 6 := ⟨(RX6, TX6, 10), rfl, uw6, by decide, (ALLW_c1 132 rfl rfl)⟩
set_option maxRecDepth 100000 in
theorem gf_X1_105 : GF RX1 105 6 7 := ⟨(RX6, TX6, 10), rfl, uw6, by decide, (ALLW_c1 133 rfl rfl)⟩
set_option maxRecDepth 100000 in
theorem gf_X6_86 : GF RX6 86 6 7 := ⟨(RX6, TX6, 10), rfl, uw6, by decide, (ALLW_c1 134 rfl rfl)⟩
set_option maxRecDepth 100000 in
theorem gf_X6_20 : GF RX6 20 6 8 := ⟨(RX6, TX6, 10), rfl, uw6, by decide, (ALLW_c1 135 rfl rfl)⟩
set_option maxRecDepth 100000 in
theorem gf_X6_24 : GF RX6 24 6 9 := ⟨(RX6, TX6, 10), rfl, uw6, by decide, (ALLW_c1 136 rfl rfl)⟩
set_option maxRecDepth 100000 in
theorem gf_X0_44 : GF RX0 44 3 0 := ⟨(RX3, TX3, 12), rfl, uw3, by decide, (ALLW_c1 165 rfl rfl)⟩
set_option maxRecDepth 100000 in
theorem gf_X1_128 : GF RX1 128 3 0 := ⟨(RX3, TX3, 12), rfl, uw3, by decide, (ALLW_c1 166 rfl rfl)⟩
set_option maxRecDepth 100000 in
theorem gf_X8_179 : GF RX8 179 3 0 := ⟨(RX3, TX3, 12), rfl, uw3, by decide, (ALLW_c1 167 rfl rfl)⟩
set_option maxRecDepth 100000 in
theorem gf_X0_54 : GF RX0 54 3 1 := ⟨(RX3, TX3, 12), rfl, uw3, by decide, (ALLW_c1 168 rfl rfl)⟩
set_option maxRecDepth 100000 in
theorem gf_X1_129 : GF RX1 129 3 1 := ⟨(RX3, TX3, 12), rfl, uw3, by decide, (ALLW_c1 169 rfl rfl)⟩
set_option maxRecDepth 100000 in
theorem gf_X8_184 : GF RX8 184 3 1 := ⟨(RX3, TX3, 12), rfl, uw3, by decide, (ALLW_c1 170 rfl rfl)⟩
set_option maxRecDepth 100000 in
theorem gf_X1_130 : GF RX1 130 3 2 := ⟨(RX3, TX3, 12), rfl, uw3, by decide, (ALLW_c1 171 rfl rfl)⟩
set_option maxRecDepth 100000 in
theorem gf_X8_224 : GF RX8 224 3 2 := ⟨(RX3, TX3, 12), rfl, uw3, by decide, (ALLW_c1 172 rfl rfl)⟩
set_option maxRecDepth 100000 in
theorem gf_X1_133 : GF RX1 133 3 3 := ⟨(RX3, TX3, 12), rfl, uw3, by decide, (ALLW_c1 173 rfl rfl)⟩
set_option maxRecDepth 100000 in
theorem gf_X8_187 : GF RX8 187 3 3 := ⟨(RX3, TX3, 12), rfl, uw3, by decide, (ALLW_c1 174 rfl rfl)⟩
set_option maxRecDepth 100000 in
theorem gf_X1_139 : GF RX1 139 3 4 := ⟨(RX3, TX3, 12), rfl, uw3, by decide, (ALLW_c1 175 rfl rfl)⟩
set_option maxRecDepth 100000 in
theorem gf_X8_235 : GF RX8 235 3 4 := ⟨(RX3, TX3, 12), rfl, uw3, by decide, (ALLW_c1 176 rfl rfl)⟩
set_option maxRecDepth 100000 in
theorem gf_X1_143 : GF RX1 143 3 5 := ⟨(RX3, TX3, 12), rfl, uw3, by decide, (ALLW_c1 177 rfl rfl)⟩
set_option maxRecDepth 100000 in
theorem gf_X8_238 : GF RX8 238 3 5 := ⟨(RX3, TX3, 12), rfl, uw3, by decide, (ALLW_c1 178 rfl rfl)⟩
set_option maxRecDepth 100000 in
theorem gf_X0_79 : GF RX0 79 3 6 := ⟨(RX3, TX3, 12), rfl, uw3, by decide, (ALLW_c1 179 rfl rfl)⟩
set_option maxRecDepth 100000 in
theorem gf_X1_147 : GF RX1 147 3 6 := ⟨(RX3, TX3, 12), rfl, uw3, by decide, (ALLW_c1 180 rfl rfl)⟩
set_option maxRecDepth 100000 in
theorem gf_X0_86 : GF RX0 86 3 7 := ⟨(RX3, TX3, 12), rfl, uw3, by decide, (ALLW_c1 181 rfl rfl)⟩
set_option maxRecDepth 100000 in
theorem gf_X1_148 : GF RX1 148 3 7 := ⟨(RX3, TX3, 12), rfl, uw3, by decide, (ALLW_c1 182 rfl rfl)⟩
set_option maxRecDepth 100000 in
theorem gf_X0_101 : GF RX0 101 3 8 := ⟨(RX3, TX3, 12), rfl, uw3, by decide, (ALLW_c1 183 rfl rfl)⟩
set_option maxRecDepth 100000 in
theorem gf_X1_151 : GF RX1 151 3 8 := ⟨(RX3, TX3, 12), rfl, uw3, by decide, (ALLW_c1 184 rfl rfl)⟩
set_option maxRecDepth 100000 in
theorem gf_X3_7 : GF RX3 7 3 9 := ⟨(RX3, TX3, 12), rfl, uw3, by decide, (ALLW_c1 185 rfl rfl)⟩
set_option maxRecDepth 100000 in
theorem gf_X0_58 : GF RX0 58 3 9 := ⟨(RX3, TX3, 12), rfl, uw3, by decide, (ALLW_c1 186 rfl rfl)⟩
set_option maxRecDepth 100000 in
theorem gf_X8_208 : GF RX8 208 3 9 := ⟨(RX3, TX3, 12), rfl, uw3, by decide, (ALLW_c1 187 rfl rfl)⟩
set_option maxRecDepth 100000 in
theorem gf_X0_69 : GF RX0 69 3 10 := ⟨(RX3, TX3, 12), rfl, uw3, by decide, (ALLW_c1 188 rfl rfl)⟩
set_option maxRecDepth 100000 in
theorem gf_X8_205 : GF RX8 205 3 10 := ⟨(RX3, TX3, 12), rfl, uw3, by decide, (ALLW_c1 189 rfl rfl)⟩
set_option maxRecDepth 100000 in
theorem gf_X3_13 : GF RX3 13 3 11 := ⟨(RX3, TX3, 12), rfl, uw3, by decide, (ALLW_c1 190 rfl rfl)⟩
set_option maxRecDepth 100000 in
theorem gf_X0_75 : GF RX0 75 3 11 := ⟨(RX3, TX3, 12), rfl, uw3, by decide, (ALLW_c1 191 rfl rfl)⟩
set_option maxRecDepth 100000 in
theorem gf_X1_14 : GF RX1 14 1 0 := ⟨(RX1, TX1, 8), rfl, uw1, by decide, (ALLW_c1 217 rfl rfl)⟩
set_option maxRecDepth 100000 in
theorem gf_X8_373 : GF RX8 373 1 0 := ⟨(RX1, TX1, 8), rfl, uw1, by decide, (ALLW_c1 218 rfl rfl)⟩
set_option maxRecDepth 100000 in
theorem gf_X1_20 : GF RX1 20 1 1 := ⟨(RX1, TX1, 8), rfl, uw1, by decide, (ALLW_c1 219 rfl rfl)⟩
set_option maxRecDepth 100000 in
theorem gf_X8_221 : GF RX8 221 1 1 := ⟨(RX1, TX1, 8), rfl, uw1, by decide, (ALLW_c1 220 rfl rfl)⟩
set_option maxRecDepth 100000 in
theorem gf_X1_41 : GF RX1 41 1 2 := ⟨(RX1, TX1, 8), rfl, uw1, by decide, (ALLW_c1 221 rfl rfl)⟩
set_option maxRecDepth 100000 in
theorem gf_X1_46 : GF RX1 46 1 3 := ⟨(RX1, TX1, 8), rfl, uw1, by decide, (ALLW_c1 222 rfl rfl)⟩
set_option maxRecDepth 100000 in
theorem gf_X1_32 : GF RX1 32 1 4 := ⟨(RX1, TX1, 8), rfl, uw1, by decide, (ALLW_c1 223 rfl rfl)⟩
set_option maxRecDepth 100000 in
theorem gf_X1_36 : GF RX1 36 1 5 := ⟨(RX1, TX1, 8), rfl, uw1, by decide, (ALLW_c1 224 rfl rfl)⟩
set_option maxRecDepth 100000 in
theorem gf_X1_23 : GF RX1 23 1 6 := ⟨(RX1, TX1, 8), rfl, uw1, by decide, (ALLW_c1 225 rfl rfl)⟩
set_option maxRecDepth 100000 in
theorem gf_X1_26 : GF RX1 26 1 7 := ⟨(RX1, TX1, 8), rfl, uw1, by decide, (ALLW_c1 226 rfl rfl)⟩
set_option maxRecDepth 100000 in
theorem gf_X0_14 : GF RX0 14 0 0 := ⟨(RX0, TX0, 4), rfl, uw0, by decide, (ALLW_c2 12 rfl rfl)⟩
set_option maxRecDepth 100000 in
theorem gf_X8_160 : GF RX8 160 0 0 := ⟨(RX0, TX0, 4), rfl, uw0, by decide, (ALLW_c2 13 rfl rfl)⟩
set_option maxRecDepth 100000 in
theorem gf_X0_20 : GF RX0 20 0 1 := ⟨(RX0, TX0, 4), rfl, uw0, by decide, (ALLW_c2 14 rfl rfl)⟩
set_option maxRecDepth 100000 in
theorem gf_X8_251 : GF RX8 251 0 1 := ⟨(RX0, TX0, 4), rfl, uw0, by decide, (ALLW_c2 15 rfl rfl)⟩
set_option maxRecDepth 100000 in
theorem gf_X0_23 : GF RX0 23 0 2 := ⟨(RX0, TX0, 4), rfl, uw0, by decide, (ALLW_c2 16 rfl rfl)⟩
set_option maxRecDepth 100000 in
theorem gf_X0_72 : GF RX0 72 0 3 := ⟨(RX0, TX0, 4), rfl, uw0, by decide, (ALLW_c2 17 rfl rfl)⟩
set_option maxRecDepth 100000 in
theorem gf_X4_32 : GF RX4 32 4 0 := ⟨(RX4, TX4, 8), rfl, uw4, by decide, (ALLW_c2 35 rfl rfl)⟩
set_option maxRecDepth 100000 in
theorem gf_X8_81 : GF RX8 81 4 0 := ⟨(RX4, TX4, 8), rfl, uw4, by decide, (ALLW_c2 36 rfl rfl)⟩
set_option maxRecDepth 100000 in
theorem gf_X4_28 : GF RX4 28 4 1 := ⟨(RX4, TX4, 8), rfl, uw4, by decide, (ALLW_c2 37 rfl rfl)⟩
set_option maxRecDepth 100000 in
theorem gf_X8_85 : GF RX8 85 4 1 := ⟨(RX4, TX4, 8), rfl, uw4, by decide, (ALLW_c2 38 rfl rfl)⟩
set_option maxRecDepth 100000 in
theorem gf_X4_46 : GF RX4 46 4 2 := ⟨(RX4, TX4, 8), rfl, uw4, by decide, (ALLW_c2 39 rfl rfl)⟩
set_option maxRecDepth 100000 in
theorem gf_X8_91 : GF RX8 91 4 2 := ⟨(RX4, TX4, 8), rfl, uw4, by decide, (ALLW_c2 40 rfl rfl)⟩
set_option maxRecDepth 100000 in
theorem gf_X8_94 : GF RX8 94 4 3 := ⟨(RX4, TX4, 8), rfl, uw4, by decide, (ALLW_c2 41 rfl rfl)⟩
set_option maxRecDepth 100000 in
theorem gf_X4_96 : GF RX4 96 4 3 := ⟨(RX4, TX4, 8), rfl, uw4, by decide, (ALLW_c2 42 rfl rfl)⟩
set_option maxRecDepth 100000 in
theorem gf_X8_97 : GF RX8 97 4 4 := ⟨(RX4, TX4, 8), rfl, uw4, by decide, (ALLW_c2 43 rfl rfl)⟩
set_option maxRecDepth 100000 in
theorem gf_X4_99 : GF RX4 99 4 4 := ⟨(RX4, TX4, 8), rfl, uw4, by decide, (ALLW_c2 44 rfl rfl)⟩
set_option maxRecDepth 100000 in
theorem gf_X8_100 : GF RX8 100 4 5 := ⟨(RX4, TX4, 8), rfl, uw4, by decide, (ALLW_c2 45 rfl rfl)⟩
set_option maxRecDepth 100000 in
theorem gf_X4_106 : GF RX4 106 4 5 := ⟨(RX4, TX4, 8), rfl, uw4, by decide, (ALLW_c2 46 rfl rfl)⟩
set_option maxRecDepth 100000 in
theorem gf_X4_93 : GF RX4 93 4 6 := ⟨(RX4, TX4, 8), rfl, uw4, by decide, (ALLW_c2 47 rfl rfl)⟩
set_option maxRecDepth 100000 in
theorem gf_X4_14 : GF RX4 14 4 7 := ⟨(RX4, TX4, 8), rfl, uw4, by decide, (ALLW_c2 48 rfl rfl)⟩
set_option maxRecDepth 100000 in
theorem gf_X8_14 : GF RX8 14 8 0 := ⟨(RX8, TX8, 14), rfl, uw8, by decide, (ALLW_c2 66 rfl rfl)⟩
set_option maxRecDepth 100000 in
theorem gf_X8_21 : GF RX8 21 8 1 := ⟨(RX8, TX8, 14), rfl, uw8, by decide, (ALLW_c2 67 rfl rfl)⟩
set_option maxRecDepth 100000 in
theorem gf_X8_25 : GF RX8 25 8 2 := ⟨(RX8, TX8, 14), rfl, uw8, by decide, (ALLW_c2 68 rfl rfl)⟩
set_option maxRecDepth 100000 in
theorem gf_X8_28 : GF RX8 28 8 3 := ⟨(RX8, TX8, 14), rfl, uw8, by decide, (ALLW_c2 69 rfl rfl)⟩
set_option maxRecDepth 100000 in
theorem gf_X8_31 : GF RX8 31 8 4 := ⟨(RX8, TX8, 14), rfl, uw8, by decide, (ALLW_c2 70 rfl rfl)⟩
set_option maxRecDepth 100000 in
theorem gf_X8_38 : GF RX8 38 8 5 := ⟨(RX8, TX8, 14), rfl, uw8, by decide, (ALLW_c2 71 rfl rfl)⟩
set_option maxRecDepth 100000 in
theorem gf_X8_42 : GF RX8 42 8 6 := ⟨(RX8, TX8, 14), rfl, uw8, by decide, (ALLW_c2 72 rfl rfl)⟩
set_option maxRecDepth 100000 in
theorem gf_X8_48 : GF RX8 48 8 7 := ⟨(RX8, TX8, 14), rfl, uw8, by decide, (ALLW_c2 73 rfl rfl)⟩
set_option maxRecDepth 100000 in
theorem gf_X8_55 : GF RX8 55 8 8 := ⟨(RX8, TX8, 14), rfl, uw8, by decide, (ALLW_c2 74 rfl rfl)⟩
set_option maxRecDepth 100000 in
theorem gf_X8_287 : GF RX8 287 8 9 := ⟨(RX8, TX8, 14), rfl, uw8, by decide, (ALLW_c2 75 rfl rfl)⟩
set_option maxRecDepth 100000 in
theorem gf_X8_334 : GF RX8 334 8 10 := ⟨(RX8, TX8, 14), rfl, uw8, by decide, (ALLW_c2 76 rfl rfl)⟩
set_option maxRecDepth 100000 in
theorem gf_X8_123 : GF RX8 123 8 11 := ⟨(RX8, TX8, 14), rfl, uw8, by decide, (ALLW_c2 77 rfl rfl)⟩
set_option maxRecDepth 100000 in
theorem gf_X8_110 : GF RX8 110 8 12 := ⟨(RX8, TX8, 14), rfl, uw8, by decide, (ALLW_c2 78 rfl rfl)⟩
set_option maxRecDepth 100000 in
theorem gf_X8_59 : GF RX8 59 8 13 := ⟨(RX8, TX8, 14), rfl, uw8, by decide, (ALLW_c2 79 rfl rfl)⟩
set_option maxRecDepth 100000 in
theorem gf_X2_7 : GF RX2 7 2 0 := ⟨(RX2, TX2, 3), rfl, uw2, by decide, (ALLW_c3 145 rfl rfl)⟩
set_option maxRecDepth 100000 in
theorem gf_X8_273 : GF RX8 273 2 0 := ⟨(RX2, TX2, 3), rfl, uw2, by decide, (ALLW_c3 146 rfl rfl)⟩
set_option maxRecDepth 100000 in
theorem gf_X2_13 : GF RX2 13 2 1 := ⟨(RX2, TX2, 3), rfl, uw2, by decide, (ALLW_c3 147 rfl rfl)⟩
set_option maxRecDepth 100000 in
theorem gf_X8_270 : GF RX8 270 2 1 := ⟨(RX2, TX2, 3), rfl, uw2, by decide, (ALLW_c3 148 rfl rfl)⟩
set_option maxRecDepth 100000 in
theorem gf_X2_16 : GF RX2 16 2 2 := ⟨(RX2, TX2, 3), rfl, uw2, by decide, (ALLW_c3 149 rfl rfl)⟩
set_option maxRecDepth 100000 in
theorem gf_X8_265 : GF RX8 265 2 2 := ⟨(RX2, TX2, 3), rfl, uw2, by decide, (ALLW_c3 150 rfl rfl)⟩
set_option maxRecDepth 100000 in
theorem gf_X9_138 : GF RX9 138 9 0 := ⟨(RX9, TX9, 60), rfl, uw9, by decide, (ALLW_c5 184 rfl rfl)⟩
set_option maxRecDepth 100000 in
theorem gf_X9_7 : GF RX9 7 9 1 := ⟨(RX9, TX9, 60), rfl, uw9, by decide, (ALLW_c5 185 rfl rfl)⟩
set_option maxRecDepth 100000 in
theorem gf_X9_13 : GF RX9 13 9 2 := ⟨(RX9, TX9, 60), rfl, uw9, by decide, (ALLW_c5 186 rfl rfl)⟩
set_option maxRecDepth 100000 in
theorem gf_X9_16 : GF RX9 16 9 3 := ⟨(RX9, TX9, 60), rfl, uw9, by decide, (ALLW_c5 187 rfl rfl)⟩
set_option maxRecDepth 100000 in
theorem gf_X9_20 : GF RX9 20 9 4 := ⟨(RX9, TX9, 60), rfl, uw9, by decide, (ALLW_c5 188 rfl rfl)⟩
set_option maxRecDepth 100000 in
theorem gf_X9_325 : GF RX9 325 9 5 := ⟨(RX9, TX9, 60), rfl, uw9, by decide, (ALLW_c5 189 rfl rfl)⟩
set_option maxRecDepth 100000 in
theorem gf_X9_468 : GF RX9 468 9 6 := ⟨(RX9, TX9, 60), rfl, uw9, by decide, (ALLW_c5 190 rfl rfl)⟩
set_option maxRecDepth 100000 in
theorem gf_X9_328 : GF RX9 328 9 7 := ⟨(RX9, TX9, 60), rfl, uw9, by decide, (ALLW_c5 191 rfl rfl)⟩
set_option maxRecDepth 100000 in
theorem gf_X9_23 : GF RX9 23 9 8 := ⟨(RX9, TX9, 60), rfl, uw9, by decide, (ALLW_c5 192 rfl rfl)⟩
set_option maxRecDepth 100000 in
theorem gf_X9_337 : GF RX9 337 9 9 := ⟨(RX9, TX9, 60), rfl, uw9, by decide, (ALLW_c5 193 rfl rfl)⟩
set_option maxRecDepth 100000 in
theorem gf_X9_343 : GF RX9 343 9 10 := ⟨(RX9, TX9, 60), rfl, uw9, by decide, (ALLW_c5 194 rfl rfl)⟩
set_option maxRecDepth 100000 in
theorem gf_X9_340 : GF RX9 340 9 11 := ⟨(RX9, TX9, 60), rfl, uw9, by decide, (ALLW_c5 195 rfl rfl)⟩
set_option maxRecDepth 100000 in
theorem gf_X9_26 : GF RX9 26 9 12 := ⟨(RX9, TX9, 60), rfl, uw9, by decide, (ALLW_c5 196 rfl rfl)⟩
set_option maxRecDepth 100000 in
theorem gf_X9_30 : GF RX9 30 9 13 := ⟨(RX9, TX9, 60), rfl, uw9, by decide, (ALLW_c5 197 rfl rfl)⟩
set_option maxRecDepth 100000 in
theorem gf_X9_33 : GF RX9 33 9 14 := ⟨(RX9, TX9, 60), rfl, uw9, by decide, (ALLW_c5 198 rfl rfl)⟩
set_option maxRecDepth 100000 in
theorem gf_X9_36 : GF RX9 36 9 15 := ⟨(RX9, TX9, 60), rfl, uw9, by decide, (ALLW_c5 199 rfl rfl)⟩
set_option maxRecDepth 100000 in
theorem gf_X9_220 : GF RX9 220 9 16 := ⟨(RX9, TX9, 60), rfl, uw9, by decide, (ALLW_c5 200 rfl rfl)⟩
set_option maxRecDepth 100000 in
theorem gf_X9_39 : GF RX9 39 9 17 := ⟨(RX9, TX9, 60), rfl, uw9, by decide, (ALLW_c5 201 rfl rfl)⟩
