theorem i32_lo (x : Int32) : -2147483648 ≤ x.toInt := Int32.le_toInt x
theorem i32_hi (x : Int32) : x.toInt ≤ 2147483647 := by
  have h := Int32.toInt_lt x
  omega
theorem sp_lotm1_0_1thi (x : Int32) : ((-2147483648) ≤ x.toInt ∧ x.toInt ≤ (-1)) ∨ x = 0 ∨ (1 ≤ x.toInt ∧ x.toInt ≤ 2147483647) := by
  have h1 := i32_lo x
  have h2 := i32_hi x
  have h : ((-2147483648) ≤ x.toInt ∧ x.toInt ≤ (-1)) ∨ x.toInt = 0 ∨ (1 ≤ x.toInt ∧ x.toInt ≤ 2147483647) := by omega
  rcases h with h | h | h
  · exact Or.inl h
  · exact Or.inr (Or.inl (c_eq (by rw [ti_0]; exact h)))
  · exact Or.inr (Or.inr (h))
theorem sp_lotm2_m1_0_1_2_3_4thi (x : Int32) : ((-2147483648) ≤ x.toInt ∧ x.toInt ≤ (-2)) ∨ x = (-1) ∨ x = 0 ∨ x = 1 ∨ x = 2 ∨ x = 3 ∨ (4 ≤ x.toInt ∧ x.toInt ≤ 2147483647) := by
  have h1 := i32_lo x
  have h2 := i32_hi x
  have h : ((-2147483648) ≤ x.toInt ∧ x.toInt ≤ (-2)) ∨ x.toInt = (-1) ∨ x.toInt = 0 ∨ x.toInt = 1 ∨ x.toInt = 2 ∨ x.toInt = 3 ∨ (4 ≤ x.toInt ∧ x.toInt ≤ 2147483647) := by omega
  rcases h with h | h | h | h | h | h | h
  · exact Or.inl h
  · exact Or.inr (Or.inl (c_eq (by rw [ti_m1]; exact h)))
  · exact Or.inr (Or.inr (Or.inl (c_eq (by rw [ti_0]; exact h))))
  · exact Or.inr (Or.inr (Or.inr (Or.inl (c_eq (by rw [ti_1]; exact h)))))
  · exact Or.inr (Or.inr (Or.inr (Or.inr (Or.inl (c_eq (by rw [ti_2]; exact h))))))
  · exact Or.inr (Or.inr (Or.inr (Or.inr (Or.inr (Or.inl (c_eq (by rw [ti_3]; exact h)))))))
  · exact Or.inr (Or.inr (Or.inr (Or.inr (Or.inr (Or.inr (h))))))
theorem sp_0_z (x : Int32) : x = 0 ∨ ¬ x = 0 := Classical.em _
theorem sp_lotm1_0_1_2thi (x : Int32) : ((-2147483648) ≤ x.toInt ∧ x.toInt ≤ (-1)) ∨ x = 0 ∨ x = 1 ∨ (2 ≤ x.toInt ∧ x.toInt ≤ 2147483647) := by
  have h1 := i32_lo x
  have h2 := i32_hi x
  have h : ((-2147483648) ≤ x.toInt ∧ x.toInt ≤ (-1)) ∨ x.toInt = 0 ∨ x.toInt = 1 ∨ (2 ≤ x.toInt ∧ x.toInt ≤ 2147483647) := by omega
  rcases h with h | h | h | h
  · exact Or.inl h
  · exact Or.inr (Or.inl (c_eq (by rw [ti_0]; exact h)))
  · exact Or.inr (Or.inr (Or.inl (c_eq (by rw [ti_1]; exact h))))
  · exact Or.inr (Or.inr (Or.inr (h)))
theorem sp_lot0_1t40_41thi (x : Int32) : ((-2147483648) ≤ x.toInt ∧ x.toInt ≤ 0) ∨ (1 ≤ x.toInt ∧ x.toInt ≤ 40) ∨ (41 ≤ x.toInt ∧ x.toInt ≤ 2147483647) := by
  have h1 := i32_lo x
  have h2 := i32_hi x
  have h : ((-2147483648) ≤ x.toInt ∧ x.toInt ≤ 0) ∨ (1 ≤ x.toInt ∧ x.toInt ≤ 40) ∨ (41 ≤ x.toInt ∧ x.toInt ≤ 2147483647) := by omega
  rcases h with h | h | h
  · exact Or.inl h
  · exact Or.inr (Or.inl h)
  · exact Or.inr (Or.inr (h))
theorem sp_lotm1_0thi (x : Int32) : ((-2147483648) ≤ x.toInt ∧ x.toInt ≤ (-1)) ∨ (0 ≤ x.toInt ∧ x.toInt ≤ 2147483647) := by
  have h1 := i32_lo x
  have h2 := i32_hi x
  have h : ((-2147483648) ≤ x.toInt ∧ x.toInt ≤ (-1)) ∨ (0 ≤ x.toInt ∧ x.toInt ≤ 2147483647) := by omega
  rcases h with h | h
  · exact Or.inl h
  · exact Or.inr (h)
theorem sp_lotm1_0_1_2_3_4_5_6_7_8_9_10_11_12_13_14_15thi (x : Int32) : ((-2147483648) ≤ x.toInt ∧ x.toInt ≤ (-1)) ∨ x = 0 ∨ x = 1 ∨ x = 2 ∨ x = 3 ∨ x = 4 ∨ x = 5 ∨ x = 6 ∨ x = 7 ∨ x = 8 ∨ x = 9 ∨ x = 10 ∨ x = 11 ∨ x = 12 ∨ x = 13 ∨ x = 14 ∨ (15 ≤ x.toInt ∧ x.toInt ≤ 2147483647) := by
  have h1 := i32_lo x
  have h2 := i32_hi x
  have h : ((-2147483648) ≤ x.toInt ∧ x.toInt ≤ (-1)) ∨ x.toInt = 0 ∨ x.toInt = 1 ∨ x.toInt = 2 ∨ x.toInt = 3 ∨ x.toInt = 4 ∨ x.toInt = 5 ∨ x.toInt = 6 ∨ x.toInt = 7 ∨ x.toInt = 8 ∨ x.toInt = 9 ∨ x.toInt = 10 ∨ x.toInt = 11 ∨ x.toInt = 12 ∨ x.toInt = 13 ∨ x.toInt = 14 ∨ (15 ≤ x.toInt ∧ x.toInt ≤ 2147483647) := by omega
  rcases h with h | h | h | h | h | h | h | h | h | h | h | h | h | h | h | h | h
  · exact Or.inl h
  · exact Or.inr (Or.inl (c_eq (by rw [ti_0]; exact h)))
  · exact Or.inr (Or.inr (Or.inl (c_eq (by rw [ti_1]; exact h))))
  · exact Or.inr (Or.inr (Or.inr (Or.inl (c_eq (by rw [ti_2]; exact h)))))
  · exact Or.inr (Or.inr (Or.inr (Or.inr (Or.inl (c_eq (by rw [ti_3]; exact h))))))
  · exact Or.inr (Or.inr (Or.inr (Or.inr (Or.inr (Or.inl (c_eq (by rw [ti_4]; exact h)))))))
  · exact Or.inr (Or.inr (Or.inr (Or.inr (Or.inr (Or.inr (Or.inl (c_eq (by rw [ti_5]; exact h))))))))
  · exact Or.inr (Or.inr (Or.inr (Or.inr (Or.inr (Or.inr (Or.inr (Or.inl (c_eq (by rw [ti_6]; exact h)))))))))
  · exact Or.inr (Or.inr (Or.inr (Or.inr (Or.inr (Or.inr (Or.inr (Or.inr (Or.inl (c_eq (by rw [ti_7]; exact h))))))))))
  · exact Or.inr (Or.inr (Or.inr (Or.inr (Or.inr (Or.inr (Or.inr (Or.inr (Or.inr (Or.inl (c_eq (by rw [ti_8]; exact h)))))))))))
  · exact Or.inr (Or.inr (Or.inr (Or.inr (Or.inr (Or.inr (Or.inr (Or.inr (Or.inr (Or.inr (Or.inl (c_eq (by rw [ti_9]; exact h))))))))))))
  · exact Or.inr (Or.inr (Or.inr (Or.inr (Or.inr (Or.inr (Or.inr (Or.inr (Or.inr (Or.inr (Or.inr (Or.inl (c_eq (by rw [ti_10]; exact h)))))))))))))
  · exact Or.inr (Or.inr (Or.inr (Or.inr (Or.inr (Or.inr (Or.inr (Or.inr (Or.inr (Or.inr (Or.inr (Or.inr (Or.inl (c_eq (by rw [ti_11]; exact h))))))))))))))
  · exact Or.inr (Or.inr (Or.inr (Or.inr (Or.inr (Or.inr (Or.inr (Or.inr (Or.inr (Or.inr (Or.inr (Or.inr (Or.inr (Or.inl (c_eq (by rw [ti_12]; exact h)))))))))))))))
  · exact Or.inr (Or.inr (Or.inr (Or.inr (Or.inr (Or.inr (Or.inr (Or.inr (Or.inr (Or.inr (Or.inr (Or.inr (Or.inr (Or.inr (Or.inl (c_eq (by rw [ti_13]; exact h))))))))))))))))
  · exact Or.inr (Or.inr (Or.inr (Or.inr (Or.inr (Or.inr (Or.inr (Or.inr (Or.inr (Or.inr (Or.inr (Or.inr (Or.inr (Or.inr (Or.inr (Or.inl (c_eq (by rw [ti_14]; exact h)))))))))))))))))
  · exact Or.inr (Or.inr (Or.inr (Or.inr (Or.inr (Or.inr (Or.inr (Or.inr (Or.inr (Or.inr (Or.inr (Or.inr (Or.inr (Or.inr (Or.inr (Or.inr (h))))))))))))))))
theorem op_0 {X : GX} {p : Program} {l : Launch} {e : Env} {s : State} {m : MethodId} {below : List Frame} {meth : Method} {c : Code} {b : Nat} {xs : Nat → Int32} (C : CC X p l room_1 s m #[Value.ref b] meth c RL cL_law 8 ret) (S0 : SC X b 6 xs s) (hl0 : l.stackTraces = false) : AW X p l e room_1 s m #[Value.ref b] below meth c 8 (lw_Z below #[Value.ref b] s) FF 224 1000 300000 180 [some (.retAddr b), some (.ref 0), some (.ref 181), some (.ref 223), some (.int 0), none, none, none] [] := by
  exact lc_0_x C S0 hl0 rfl rfl rfl rfl rfl F_0 F_1 F_2 F_181 F_186
theorem op_1 {X : GX} {p : Program} {l : Launch} {e : Env} {s : State} {m : MethodId} {below : List Frame} {meth : Method} {c : Code} {b : Nat} {xs : Nat → Int32} (C : CC X p l room_1 s m #[Value.ref b] meth c RL cL_law 8 ret) (S0 : SC X b 6 xs s) (hl0 : l.stackTraces = false) : AW X p l e room_1 s m #[Value.ref b] below meth c 8 (lw_Z below #[Value.ref b] s) FF 224 1000 300000 253 [some (.retAddr b), some (.ref 0), some (.ref 181), some (.ref 223), some (.int 0), none, none, none] [] := by
  rcases sp_lotm1_0_1thi (xs 1) with p1 | p1 | p1
  · exact lc_1_a C S0 hl0 rfl p1 rfl rfl rfl rfl F_0 F_181
  · exact lc_1_b C S0 hl0 p1 rfl rfl rfl rfl F_0 F_1 F_181
  · exact lc_1_c C S0 hl0 rfl p1 rfl rfl rfl rfl F_0 F_1 F_181
theorem op_2 {X : GX} {p : Program} {l : Launch} {e : Env} {s : State} {m : MethodId} {below : List Frame} {meth : Method} {c : Code} {b : Nat} {xs : Nat → Int32} (C : CC X p l room_1 s m #[Value.ref b] meth c RL cL_law 8 ret) (S0 : SC X b 6 xs s) (hl0 : l.stackTraces = false) : AW X p l e room_1 s m #[Value.ref b] below meth c 8 (lw_Z below #[Value.ref b] s) FF 224 1000 300000 278 [some (.retAddr b), some (.ref 0), some (.ref 181), some (.ref 223), some (.int 0), none, none, none] [] := by
  exact lc_2_x C S0 hl0 rfl rfl rfl rfl rfl F_0 F_3 F_8 F_11 F_6 F_12 F_7 F_178 F_1 F_223 F_181 F_183 F_182
theorem op_3 {X : GX} {p : Program} {l : Launch} {e : Env} {s : State} {m : MethodId} {below : List Frame} {meth : Method} {c : Code} {b : Nat} {xs : Nat → Int32} (C : CC X p l room_1 s m #[Value.ref b] meth c RL cL_law 8 ret) (S0 : SC X b 6 xs s) (hl0 : l.stackTraces = false) : AW X p l e room_1 s m #[Value.ref b] below meth c 8 (lw_Z below #[Value.ref b] s) FF 224 1000 300000 322 [some (.retAddr b), some (.ref 0), some (.ref 181), some (.ref 223), some (.int 0), none, none, none] [] := by
  exact lc_3_x C S0 hl0 rfl rfl rfl rfl rfl F_0 F_181
theorem op_4 {X : GX} {p : Program} {l : Launch} {e : Env} {s : State} {m : MethodId} {below : List Frame} {meth : Method} {c : Code} {b : Nat} {xs : Nat → Int32} (C : CC X p l room_1 s m #[Value.ref b] meth c RL cL_law 8 ret) (S0 : SC X b 6 xs s) (hl0 : l.stackTraces = false) : AW X p l e room_1 s m #[Value.ref b] below meth c 8 (lw_Z below #[Value.ref b] s) FF 224 1000 300000 335 [some (.retAddr b), some (.ref 0), some (.ref 181), some (.ref 223), some (.int 0), none, none, none] [] := by
  exact lc_4_x C S0 hl0 rfl rfl rfl rfl rfl F_0 F_181
theorem op_5 {X : GX} {p : Program} {l : Launch} {e : Env} {s : State} {m : MethodId} {below : List Frame} {meth : Method} {c : Code} {b : Nat} {xs : Nat → Int32} (C : CC X p l room_1 s m #[Value.ref b] meth c RL cL_law 8 ret) (S0 : SC X b 6 xs s) (hl0 : l.stackTraces = false) : AW X p l e room_1 s m #[Value.ref b] below meth c 8 (lw_Z below #[Value.ref b] s) FF 224 1000 300000 348 [some (.retAddr b), some (.ref 0), some (.ref 181), some (.ref 223), some (.int 0), none, none, none] [] := by
  exact lc_5_x C S0 hl0 rfl rfl rfl rfl rfl F_0 F_1 F_3 F_7 F_59 F_60 F_62 F_68 F_74 F_171 F_172 F_181 F_182
theorem op_6 {X : GX} {p : Program} {l : Launch} {e : Env} {s : State} {m : MethodId} {below : List Frame} {meth : Method} {c : Code} {b : Nat} {xs : Nat → Int32} (C : CC X p l room_1 s m #[Value.ref b] meth c RL cL_law 8 ret) (S0 : SC X b 6 xs s) (hl0 : l.stackTraces = false) : AW X p l e room_1 s m #[Value.ref b] below meth c 8 (lw_Z below #[Value.ref b] s) FF 224 1000 300000 361 [some (.retAddr b), some (.ref 0), some (.ref 181), some (.ref 223), some (.int 0), none, none, none] [] := by
  rcases sp_lotm2_m1_0_1_2_3_4thi (xs 1) with p1 | p1 | p1 | p1 | p1 | p1 | p1
  · rcases sp_0_z (xs 2) with p2 | p2
    · exact lc_6_aa C S0 hl0 rfl p1 p2 rfl rfl rfl F_0 F_181
    · exact lc_6_ab C S0 hl0 rfl p1 rfl p2 rfl rfl rfl F_0 F_181
  · rcases sp_0_z (xs 2) with p2 | p2
    · exact lc_6_ba C S0 hl0 p1 p2 rfl rfl rfl F_0 F_181
    · exact lc_6_bb C S0 hl0 p1 rfl p2 rfl rfl rfl F_0 F_3 F_8 F_11 F_6 F_12 F_7 F_59 F_60 F_62 F_68 F_74 F_4 F_171 F_172 F_18 F_19 F_22 F_23 F_223 F_181 F_183 F_182 F_185
  · rcases sp_0_z (xs 2) with p2 | p2
    · exact lc_6_ca C S0 hl0 p1 p2 rfl rfl rfl F_0 F_3 F_8 F_11 F_6 F_12 F_7 F_59 F_60 F_62 F_68 F_74 F_4 F_171 F_172 F_18 F_19 F_22 F_23 F_223 F_181 F_183 F_182 F_185
    · exact lc_6_cb C S0 hl0 p1 rfl p2 rfl rfl rfl F_0 F_3 F_8 F_11 F_6 F_12 F_7 F_59 F_60 F_62 F_68 F_74 F_4 F_171 F_172 F_18 F_19 F_22 F_23 F_223 F_181 F_183 F_182 F_185
  · rcases sp_0_z (xs 2) with p2 | p2
    · exact lc_6_da C S0 hl0 p1 p2 rfl rfl rfl F_0 F_3 F_8 F_11 F_6 F_12 F_7 F_59 F_60 F_62 F_68 F_74 F_4 F_171 F_172 F_18 F_19 F_22 F_23 F_223 F_181 F_183 F_182 F_185
    · exact lc_6_db C S0 hl0 p1 rfl p2 rfl rfl rfl F_0 F_3 F_8 F_11 F_6 F_12 F_7 F_59 F_60 F_62 F_68 F_74 F_4 F_171 F_172 F_18 F_19 F_22 F_23 F_223 F_181 F_183 F_182 F_185
  · rcases sp_0_z (xs 2) with p2 | p2
    · exact lc_6_ea C S0 hl0 p1 p2 rfl rfl rfl F_0 F_3 F_8 F_11 F_6 F_12 F_7 F_59 F_60 F_62 F_68 F_74 F_4 F_171 F_172 F_18 F_19 F_22 F_23 F_223 F_181 F_183 F_182 F_185
    · exact lc_6_eb C S0 hl0 p1 rfl p2 rfl rfl rfl F_0 F_3 F_8 F_11 F_6 F_12 F_7 F_59 F_60 F_62 F_68 F_74 F_4 F_171 F_172 F_18 F_19 F_22 F_23 F_223 F_181 F_183 F_182 F_185
  · rcases sp_0_z (xs 2) with p2 | p2
    · exact lc_6_fa C S0 hl0 p1 p2 rfl rfl rfl F_0 F_3 F_8 F_11 F_6 F_12 F_7 F_59 F_60 F_62 F_68 F_74 F_4 F_171 F_172 F_18 F_19 F_22 F_23 F_223 F_181 F_183 F_182 F_185
    · exact lc_6_fb C S0 hl0 p1 rfl p2 rfl rfl rfl F_0 F_3 F_8 F_11 F_6 F_12 F_7 F_59 F_60 F_62 F_68 F_74 F_4 F_171 F_172 F_18 F_19 F_22 F_23 F_223 F_181 F_183 F_182 F_185
  · rcases sp_0_z (xs 2) with p2 | p2
    · exact lc_6_ga C S0 hl0 rfl p1 p2 rfl rfl rfl F_0 F_181
    · exact lc_6_gb C S0 hl0 rfl p1 rfl p2 rfl rfl rfl F_0 F_181
theorem op_7 {X : GX} {p : Program} {l : Launch} {e : Env} {s : State} {m : MethodId} {below : List Frame} {meth : Method} {c : Code} {b : Nat} {xs : Nat → Int32} (C : CC X p l room_1 s m #[Value.ref b] meth c RL cL_law 8 ret) (S0 : SC X b 6 xs s) (hl0 : l.stackTraces = false) : AW X p l e room_1 s m #[Value.ref b] below meth c 8 (lw_Z below #[Value.ref b] s) FF 224 1000 300000 445 [some (.retAddr b), some (.ref 0), some (.ref 181), some (.ref 223), some (.int 0), none, none, none] [] := by
  rcases sp_lotm1_0_1_2thi (xs 1) with p1 | p1 | p1 | p1
  · exact lc_7_a C S0 hl0 rfl p1 rfl rfl rfl rfl F_0 F_181
  · rcases sp_lotm1_0_1_2thi (xs 2) with p2 | p2 | p2 | p2
    · exact lc_7_ba C S0 hl0 p1 rfl p2 rfl rfl rfl F_0 F_181
    · exact lc_7_bb C S0 hl0 p1 p2 rfl rfl rfl F_0 F_3 F_8 F_11 F_6 F_12 F_7 F_59 F_60 F_62 F_68 F_74 F_4 F_171 F_172 F_18 F_19 F_22 F_23 F_223 F_181 F_183 F_182 F_185
    · exact lc_7_bc C S0 hl0 p1 p2 rfl rfl rfl F_0 F_3 F_8 F_11 F_6 F_12 F_7 F_59 F_60 F_62 F_68 F_74 F_4 F_171 F_172 F_18 F_19 F_22 F_23 F_223 F_181 F_183 F_182 F_185
    · exact lc_7_bd C S0 hl0 p1 rfl p2 rfl rfl rfl F_0 F_181
  · rcases sp_lot0_1t40_41thi (xs 2) with p2 | p2 | p2
    · exact lc_7_ca C S0 hl0 p1 rfl p2 rfl rfl rfl F_0 F_181
    · exact lc_7_cb C S0 hl0 p1 rfl p2 rfl rfl rfl F_0 F_3 F_8 F_11 F_6 F_12 F_7 F_59 F_60 F_62 F_68 F_74 F_4 F_171 F_172 F_18 F_19 F_22 F_23 F_223 F_181 F_183 F_182 F_185
    · exact lc_7_cc C S0 hl0 p1 rfl p2 rfl rfl rfl F_0 F_181
  · exact lc_7_d C S0 hl0 rfl p1 rfl rfl rfl rfl F_0 F_181
theorem op_8 {X : GX} {p : Program} {l : Launch} {e : Env} {s : State} {m : MethodId} {below : List Frame} {meth : Method} {c : Code} {b : Nat} {xs : Nat → Int32} (C : CC X p l room_1 s m #[Value.ref b] meth c RL cL_law 8 ret) (S0 : SC X b 6 xs s) (hl0 : l.stackTraces = false) : AW X p l e room_1 s m #[Value.ref b] below meth c 8 (lw_Z below #[Value.ref b] s) FF 224 1000 300000 513 [some (.retAddr b), some (.ref 0), some (.ref 181), some (.ref 223), some (.int 0), none, none, none] [] := by
  exact lc_8_x C S0 hl0 rfl rfl rfl rfl rfl F_0 F_1 F_181
theorem op_9 {X : GX} {p : Program} {l : Launch} {e : Env} {s : State} {m : MethodId} {below : List Frame} {meth : Method} {c : Code} {b : Nat} {xs : Nat → Int32} (C : CC X p l room_1 s m #[Value.ref b] meth c RL cL_law 8 ret) (S0 : SC X b 6 xs s) (hl0 : l.stackTraces = false) : AW X p l e room_1 s m #[Value.ref b] below meth c 8 (lw_Z below #[Value.ref b] s) FF 224 1000 300000 557 [some (.retAddr b), some (.ref 0), some (.ref 181), some (.ref 223), some (.int 0), none, none, none] [] := by
  exact lc_9_x C S0 hl0 rfl rfl rfl rfl rfl F_0 F_3 F_8 F_11 F_6 F_12 F_7 F_59 F_60 F_62 F_68 F_74 F_4 F_171 F_172 F_18 F_19 F_22 F_23 F_181 F_183 F_182 F_185
theorem op_10 {X : GX} {p : Program} {l : Launch} {e : Env} {s : State} {m : MethodId} {below : List Frame} {meth : Method} {c : Code} {b : Nat} {xs : Nat → Int32} (C : CC X p l room_1 s m #[Value.ref b] meth c RL cL_law 8 ret) (S0 : SC X b 6 xs s) (hl0 : l.stackTraces = false) : AW X p l e room_1 s m #[Value.ref b] below meth c 8 (lw_Z below #[Value.ref b] s) FF 224 1000 300000 570 [some (.retAddr b), some (.ref 0), some (.ref 181), some (.ref 223), some (.int 0), none, none, none] [] := by
  rcases sp_lotm1_0thi (xs 1) with p1 | p1
  · exact lc_10_a C S0 hl0 rfl p1 rfl rfl rfl rfl F_0 F_1 F_3 F_8 F_11 F_6 F_12 F_7 F_59 F_181 F_183 F_182
  · exact lc_10_b C S0 hl0 rfl p1 rfl rfl rfl rfl F_0 F_1 F_3 F_8 F_11 F_6 F_12 F_7 F_59 F_181 F_183 F_182
theorem op_11 {X : GX} {p : Program} {l : Launch} {e : Env} {s : State} {m : MethodId} {below : List Frame} {meth : Method} {c : Code} {b : Nat} {xs : Nat → Int32} (C : CC X p l room_1 s m #[Value.ref b] meth c RL cL_law 8 ret) (S0 : SC X b 6 xs s) (hl0 : l.stackTraces = false) : AW X p l e room_1 s m #[Value.ref b] below meth c 8 (lw_Z below #[Value.ref b] s) FF 224 1000 300000 626 [some (.retAddr b), some (.ref 0), some (.ref 181), some (.ref 223), some (.int 0), none, none, none] [] := by
  rcases sp_lotm1_0thi (xs 1) with p1 | p1
  · exact lc_11_a C S0 hl0 rfl p1 rfl rfl rfl rfl F_0 F_3 F_8 F_11 F_6 F_12 F_7 F_59 F_181 F_183 F_182
  · exact lc_11_b C S0 hl0 rfl p1 rfl rfl rfl rfl F_0 F_3 F_8 F_11 F_6 F_12 F_7 F_59 F_181 F_183 F_182
theorem op_12 {X : GX} {p : Program} {l : Launch} {e : Env} {s : State} {m : MethodId} {below : List Frame} {meth : Method} {c : Code} {b : Nat} {xs : Nat → Int32} (C : CC X p l room_1 s m #[Value.ref b] meth c RL cL_law 8 ret) (S0 : SC X b 6 xs s) (hl0 : l.stackTraces = false) : AW X p l e room_1 s m #[Value.ref b] below meth c 8 (lw_Z below #[Value.ref b] s) FF 224 1000 300000 682 [some (.retAddr b), some (.ref 0), some (.ref 181), some (.ref 223), some (.int 0), none, none, none] [] := by
  rcases sp_lotm1_0thi (xs 1) with p1 | p1
  · exact lc_12_a C S0 hl0 rfl p1 rfl rfl rfl rfl F_0 F_3 F_8 F_11 F_6 F_12 F_7 F_59 F_181 F_183 F_182
  · exact lc_12_b C S0 hl0 rfl p1 rfl rfl rfl rfl F_0 F_3 F_8 F_11 F_6 F_12 F_7 F_59 F_181 F_183 F_182
theorem op_13 {X : GX} {p : Program} {l : Launch} {e : Env} {s : State} {m : MethodId} {below : List Frame} {meth : Method} {c : Code} {b : Nat} {xs : Nat → Int32} (C : CC X p l room_1 s m #[Value.ref b] meth c RL cL_law 8 ret) (S0 : SC X b 6 xs s) (hl0 : l.stackTraces = false) : AW X p l e room_1 s m #[Value.ref b] below meth c 8 (lw_Z below #[Value.ref b] s) FF 224 1000 300000 738 [some (.retAddr b), some (.ref 0), some (.ref 181), some (.ref 223), some (.int 0), none, none, none] [] := by
  rcases sp_lotm1_0thi (xs 1) with p1 | p1
  · rcases sp_lotm1_0thi (xs 2) with p2 | p2
    · exact lc_13_aa C S0 hl0 rfl p1 rfl p2 rfl rfl rfl F_0 F_3 F_8 F_11 F_6 F_12 F_7 F_59 F_181 F_183 F_182
    · exact lc_13_ab C S0 hl0 rfl p1 rfl p2 rfl rfl rfl F_0 F_3 F_8 F_11 F_6 F_12 F_7 F_59 F_181 F_183 F_182
  · rcases sp_lotm1_0thi (xs 2) with p2 | p2
    · exact lc_13_ba C S0 hl0 rfl p1 rfl p2 rfl rfl rfl F_0 F_3 F_8 F_11 F_6 F_12 F_7 F_59 F_181 F_183 F_182
    · exact lc_13_bb C S0 hl0 rfl p1 rfl p2 rfl rfl rfl F_0 F_3 F_8 F_11 F_6 F_12 F_7 F_59 F_181 F_183 F_182
theorem op_14 {X : GX} {p : Program} {l : Launch} {e : Env} {s : State} {m : MethodId} {below : List Frame} {meth : Method} {c : Code} {b : Nat} {xs : Nat → Int32} (C : CC X p l room_1 s m #[Value.ref b] meth c RL cL_law 8 ret) (S0 : SC X b 6 xs s) (hl0 : l.stackTraces = false) : AW X p l e room_1 s m #[Value.ref b] below meth c 8 (lw_Z below #[Value.ref b] s) FF 224 1000 300000 806 [some (.retAddr b), some (.ref 0), some (.ref 181), some (.ref 223), some (.int 0), none, none, none] [] := by
  exact lc_14_x C S0 hl0 rfl rfl rfl rfl rfl F_0 F_3 F_7 F_8 F_11 F_6 F_12 F_181 F_183 F_182
theorem op_15 {X : GX} {p : Program} {l : Launch} {e : Env} {s : State} {m : MethodId} {below : List Frame} {meth : Method} {c : Code} {b : Nat} {xs : Nat → Int32} (C : CC X p l room_1 s m #[Value.ref b] meth c RL cL_law 8 ret) (S0 : SC X b 6 xs s) (hl0 : l.stackTraces = false) : AW X p l e room_1 s m #[Value.ref b] below meth c 8 (lw_Z below #[Value.ref b] s) FF 224 1000 300000 850 [some (.retAddr b), some (.ref 0), some (.ref 181), some (.ref 223), some (.int 0), none, none, none] [] := by
  exact lc_15_x C S0 hl0 rfl rfl rfl rfl rfl F_0 F_181
theorem op_16 {X : GX} {p : Program} {l : Launch} {e : Env} {s : State} {m : MethodId} {below : List Frame} {meth : Method} {c : Code} {b : Nat} {xs : Nat → Int32} (C : CC X p l room_1 s m #[Value.ref b] meth c RL cL_law 8 ret) (S0 : SC X b 6 xs s) (hl0 : l.stackTraces = false) : AW X p l e room_1 s m #[Value.ref b] below meth c 8 (lw_Z below #[Value.ref b] s) FF 224 1000 300000 894 [some (.retAddr b), some (.ref 0), some (.ref 181), some (.ref 223), some (.int 0), none, none, none] [] := by
  rcases sp_lotm1_0thi (xs 1) with p1 | p1
  · exact lc_16_a C S0 hl0 rfl p1 rfl rfl rfl rfl F_0 F_59 F_181
  · exact lc_16_b C S0 hl0 rfl p1 rfl rfl rfl rfl F_0 F_59 F_181
theorem op_17 {X : GX} {p : Program} {l : Launch} {e : Env} {s : State} {m : MethodId} {below : List Frame} {meth : Method} {c : Code} {b : Nat} {xs : Nat → Int32} (C : CC X p l room_1 s m #[Value.ref b] meth c RL cL_law 8 ret) (S0 : SC X b 6 xs s) (hl0 : l.stackTraces = false) : AW X p l e room_1 s m #[Value.ref b] below meth c 8 (lw_Z below #[Value.ref b] s) FF 224 1000 300000 962 [some (.retAddr b), some (.ref 0), some (.ref 181), some (.ref 223), some (.int 0), none, none, none] [] := by
  rcases sp_lotm1_0thi (xs 1) with p1 | p1
  · rcases sp_0_z (xs 3) with p3 | p3
    · exact lc_17_aa C S0 hl0 rfl p1 rfl p3 rfl rfl F_0 F_59 F_181
    · exact lc_17_ab C S0 hl0 rfl p1 rfl rfl p3 rfl rfl F_0 F_59 F_181
  · rcases sp_0_z (xs 3) with p3 | p3
    · exact lc_17_ba C S0 hl0 rfl p1 rfl p3 rfl rfl F_0 F_59 F_181
    · exact lc_17_bb C S0 hl0 rfl p1 rfl rfl p3 rfl rfl F_0 F_59 F_181
theorem op_18 {X : GX} {p : Program} {l : Launch} {e : Env} {s : State} {m : MethodId} {below : List Frame} {meth : Method} {c : Code} {b : Nat} {xs : Nat → Int32} (C : CC X p l room_1 s m #[Value.ref b] meth c RL cL_law 8 ret) (S0 : SC X b 6 xs s) (hl0 : l.stackTraces = false) : AW X p l e room_1 s m #[Value.ref b] below meth c 8 (lw_Z below #[Value.ref b] s) FF 224 1000 300000 1058 [some (.retAddr b), some (.ref 0), some (.ref 181), some (.ref 223), some (.int 0), none, none, none] [] := by
  rcases sp_lotm1_0thi (xs 1) with p1 | p1
  · exact lc_18_a C S0 hl0 rfl p1 rfl rfl rfl rfl F_0 F_59 F_181
  · exact lc_18_b C S0 hl0 rfl p1 rfl rfl rfl rfl F_0 F_59 F_181
theorem op_19 {X : GX} {p : Program} {l : Launch} {e : Env} {s : State} {m : MethodId} {below : List Frame} {meth : Method} {c : Code} {b : Nat} {xs : Nat → Int32} (C : CC X p l room_1 s m #[Value.ref b] meth c RL cL_law 8 ret) (S0 : SC X b 6 xs s) (hl0 : l.stackTraces = false) : AW X p l e room_1 s m #[Value.ref b] below meth c 8 (lw_Z below #[Value.ref b] s) FF 224 1000 300000 1126 [some (.retAddr b), some (.ref 0), some (.ref 181), some (.ref 223), some (.int 0), none, none, none] [] := by
  rcases sp_lotm1_0thi (xs 1) with p1 | p1
  · exact lc_19_a C S0 hl0 rfl p1 rfl rfl rfl rfl F_0 F_59 F_181
  · exact lc_19_b C S0 hl0 rfl p1 rfl rfl rfl rfl F_0 F_59 F_181
theorem op_20 {X : GX} {p : Program} {l : Launch} {e : Env} {s : State} {m : MethodId} {below : List Frame} {meth : Method} {c : Code} {b : Nat} {xs : Nat → Int32} (C : CC X p l room_1 s m #[Value.ref b] meth c RL cL_law 8 ret) (S0 : SC X b 6 xs s) (hl0 : l.stackTraces = false) : AW X p l e room_1 s m #[Value.ref b] below meth c 8 (lw_Z below #[Value.ref b] s) FF 224 1000 300000 1194 [some (.retAddr b), some (.ref 0), some (.ref 181), some (.ref 223), some (.int 0), none, none, none] [] := by
  exact lc_20_x C S0 hl0 rfl rfl rfl rfl rfl F_0 F_59 F_181
theorem op_21 {X : GX} {p : Program} {l : Launch} {e : Env} {s : State} {m : MethodId} {below : List Frame} {meth : Method} {c : Code} {b : Nat} {xs : Nat → Int32} (C : CC X p l room_1 s m #[Value.ref b] meth c RL cL_law 8 ret) (S0 : SC X b 6 xs s) (hl0 : l.stackTraces = false) : AW X p l e room_1 s m #[Value.ref b] below meth c 8 (lw_Z below #[Value.ref b] s) FF 224 1000 300000 1219 [some (.retAddr b), some (.ref 0), some (.ref 181), some (.ref 223), some (.int 0), none, none, none] [] := by
  rcases sp_lotm1_0thi (xs 1) with p1 | p1
  · rcases sp_0_z (xs 2) with p2 | p2
    · exact lc_21_aa C S0 hl0 rfl p1 p2 rfl rfl rfl F_0 F_3 F_4 F_181 F_182
    · exact lc_21_ab C S0 hl0 rfl p1 rfl p2 rfl rfl rfl F_0 F_171 F_172 F_181 F_182
  · rcases sp_0_z (xs 2) with p2 | p2
    · exact lc_21_ba C S0 hl0 rfl p1 p2 rfl rfl rfl F_0 F_3 F_4 F_181 F_182
    · exact lc_21_bb C S0 hl0 rfl p1 rfl p2 rfl rfl rfl F_0 F_171 F_172 F_181 F_182
theorem op_22 {X : GX} {p : Program} {l : Launch} {e : Env} {s : State} {m : MethodId} {below : List Frame} {meth : Method} {c : Code} {b : Nat} {xs : Nat → Int32} (C : CC X p l room_1 s m #[Value.ref b] meth c RL cL_law 8 ret) (S0 : SC X b 6 xs s) (hl0 : l.stackTraces = false) : AW X p l e room_1 s m #[Value.ref b] below meth c 8 (lw_Z below #[Value.ref b] s) FF 224 1000 300000 1272 [some (.retAddr b), some (.ref 0), some (.ref 181), some (.ref 223), some (.int 0), none, none, none] [] := by
  rcases sp_lotm1_0thi (xs 1) with p1 | p1
  · exact lc_22_a C S0 hl0 rfl p1 rfl rfl rfl rfl F_0 F_59 F_181
  · exact lc_22_b C S0 hl0 rfl p1 rfl rfl rfl rfl F_0 F_59 F_181
theorem op_23 {X : GX} {p : Program} {l : Launch} {e : Env} {s : State} {m : MethodId} {below : List Frame} {meth : Method} {c : Code} {b : Nat} {xs : Nat → Int32} (C : CC X p l room_1 s m #[Value.ref b] meth c RL cL_law 8 ret) (S0 : SC X b 6 xs s) (hl0 : l.stackTraces = false) : AW X p l e room_1 s m #[Value.ref b] below meth c 8 (lw_Z below #[Value.ref b] s) FF 224 1000 300000 1340 [some (.retAddr b), some (.ref 0), some (.ref 181), some (.ref 223), some (.int 0), none, none, none] [] := by
  rcases sp_lotm1_0thi (xs 1) with p1 | p1
  · exact lc_23_a C S0 hl0 rfl p1 rfl rfl rfl rfl F_0 F_1 F_59 F_181
  · exact lc_23_b C S0 hl0 rfl p1 rfl rfl rfl rfl F_0 F_1 F_59 F_181
theorem op_24 {X : GX} {p : Program} {l : Launch} {e : Env} {s : State} {m : MethodId} {below : List Frame} {meth : Method} {c : Code} {b : Nat} {xs : Nat → Int32} (C : CC X p l room_1 s m #[Value.ref b] meth c RL cL_law 8 ret) (S0 : SC X b 6 xs s) (hl0 : l.stackTraces = false) : AW X p l e room_1 s m #[Value.ref b] below meth c 8 (lw_Z below #[Value.ref b] s) FF 224 1000 300000 1396 [some (.retAddr b), some (.ref 0), some (.ref 181), some (.ref 223), some (.int 0), none, none, none] [] := by
  exact lc_24_x C S0 hl0 rfl rfl rfl rfl rfl F_0 F_1 F_181
theorem op_25 {X : GX} {p : Program} {l : Launch} {e : Env} {s : State} {m : MethodId} {below : List Frame} {meth : Method} {c : Code} {b : Nat} {xs : Nat → Int32} (C : CC X p l room_1 s m #[Value.ref b] meth c RL cL_law 8 ret) (S0 : SC X b 6 xs s) (hl0 : l.stackTraces = false) : AW X p l e room_1 s m #[Value.ref b] below meth c 8 (lw_Z below #[Value.ref b] s) FF 224 1000 300000 1439 [some (.retAddr b), some (.ref 0), some (.ref 181), some (.ref 223), some (.int 0), none, none, none] [] := by
  rcases sp_lotm1_0thi (xs 1) with p1 | p1
  · rcases sp_0_z (xs 2) with p2 | p2
    · exact lc_25_aa C S0 hl0 rfl p1 p2 rfl rfl rfl F_0 F_181 F_182
    · exact lc_25_ab C S0 hl0 rfl p1 rfl p2 rfl rfl rfl F_0 F_181 F_182
  · rcases sp_0_z (xs 2) with p2 | p2
    · exact lc_25_ba C S0 hl0 rfl p1 p2 rfl rfl rfl F_0 F_3 F_181 F_182
    · exact lc_25_bb C S0 hl0 rfl p1 rfl p2 rfl rfl rfl F_0 F_3 F_181 F_182
theorem op_26 {X : GX} {p : Program} {l : Launch} {e : Env} {s : State} {m : MethodId} {below : List Frame} {meth : Method} {c : Code} {b : Nat} {xs : Nat → Int32} (C : CC X p l room_1 s m #[Value.ref b] meth c RL cL_law 8 ret) (S0 : SC X b 6 xs s) (hl0 : l.stackTraces = false) : AW X p l e room_1 s m #[Value.ref b] below meth c 8 (lw_Z below #[Value.ref b] s) FF 224 1000 300000 1504 [some (.retAddr b), some (.ref 0), some (.ref 181), some (.ref 223), some (.int 0), none, none, none] [] := by
  rcases sp_lotm1_0thi (xs 1) with p1 | p1
  · exact lc_26_a C S0 hl0 rfl p1 rfl rfl rfl rfl F_0 F_59 F_181
  · exact lc_26_b C S0 hl0 rfl p1 rfl rfl rfl rfl F_0 F_59 F_181
theorem op_27 {X : GX} {p : Program} {l : Launch} {e : Env} {s : State} {m : MethodId} {below : List Frame} {meth : Method} {c : Code} {b : Nat} {xs : Nat → Int32} (C : CC X p l room_1 s m #[Value.ref b] meth c RL cL_law 8 ret) (S0 : SC X b 6 xs s) (hl0 : l.stackTraces = false) : AW X p l e room_1 s m #[Value.ref b] below meth c 8 (lw_Z below #[Value.ref b] s) FF 224 1000 300000 1567 [some (.retAddr b), some (.ref 0), some (.ref 181), some (.ref 223), some (.int 0), none, none, none] [] := by
  exact lc_27_x C S0 hl0 rfl rfl rfl rfl rfl F_0 F_171 F_115 F_116 F_118 F_3 F_124 F_130 F_172 F_59 F_181 F_182 F_219
theorem op_28 {X : GX} {p : Program} {l : Launch} {e : Env} {s : State} {m : MethodId} {below : List Frame} {meth : Method} {c : Code} {b : Nat} {xs : Nat → Int32} (C : CC X p l room_1 s m #[Value.ref b] meth c RL cL_law 8 ret) (S0 : SC X b 6 xs s) (hl0 : l.stackTraces = false) : AW X p l e room_1 s m #[Value.ref b] below meth c 8 (lw_Z below #[Value.ref b] s) FF 224 1000 300000 1580 [some (.retAddr b), some (.ref 0), some (.ref 181), some (.ref 223), some (.int 0), none, none, none] [] := by
  exact lc_28_x C S0 hl0 rfl rfl rfl rfl rfl F_0 F_3 F_13 F_16 F_6 F_17 F_7 F_181 F_184 F_182
theorem op_29 {X : GX} {p : Program} {l : Launch} {e : Env} {s : State} {m : MethodId} {below : List Frame} {meth : Method} {c : Code} {b : Nat} {xs : Nat → Int32} (C : CC X p l room_1 s m #[Value.ref b] meth c RL cL_law 8 ret) (S0 : SC X b 6 xs s) (hl0 : l.stackTraces = false) : AW X p l e room_1 s m #[Value.ref b] below meth c 8 (lw_Z below #[Value.ref b] s) FF 224 1000 300000 1591 [some (.retAddr b), some (.ref 0), some (.ref 181), some (.ref 223), some (.int 0), none, none, none] [] := by
  exact lc_29_x C S0 hl0 rfl rfl rfl rfl rfl F_0 F_181
theorem op_30 {X : GX} {p : Program} {l : Launch} {e : Env} {s : State} {m : MethodId} {below : List Frame} {meth : Method} {c : Code} {b : Nat} {xs : Nat → Int32} (C : CC X p l room_1 s m #[Value.ref b] meth c RL cL_law 8 ret) (S0 : SC X b 6 xs s) (hl0 : l.stackTraces = false) : AW X p l e room_1 s m #[Value.ref b] below meth c 8 (lw_Z below #[Value.ref b] s) FF 224 1000 300000 1604 [some (.retAddr b), some (.ref 0), some (.ref 181), some (.ref 223), some (.int 0), none, none, none] [] := by
  rcases sp_lotm1_0_1_2_3_4_5_6_7_8_9_10_11_12_13_14_15thi (xs 1) with p1 | p1 | p1 | p1 | p1 | p1 | p1 | p1 | p1 | p1 | p1 | p1 | p1 | p1 | p1 | p1 | p1
  · exact lc_30_a C S0 hl0 rfl p1 rfl rfl rfl rfl F_0 F_181
  · exact lc_30_b C S0 hl0 p1 rfl rfl rfl rfl F_0 F_3 F_4 F_181 F_182
  · exact lc_30_c C S0 hl0 p1 rfl rfl rfl rfl F_0 F_3 F_181 F_182
  · exact lc_30_d C S0 hl0 p1 rfl rfl rfl rfl F_0 F_3 F_181 F_182
  · exact lc_30_e C S0 hl0 p1 rfl rfl rfl rfl F_0 F_59 F_181
  · exact lc_30_f C S0 hl0 p1 rfl rfl rfl rfl F_0 F_3 F_7 F_181
  · exact lc_30_g C S0 hl0 p1 rfl rfl rfl rfl F_0 F_171 F_172 F_181 F_182
  · exact lc_30_h C S0 hl0 p1 rfl rfl rfl rfl F_0 F_3 F_4 F_59 F_181 F_182
  · exact lc_30_i C S0 hl0 p1 rfl rfl rfl rfl F_0 F_3 F_181 F_182
  · exact lc_30_j C S0 hl0 p1 rfl rfl rfl rfl F_0 F_3 F_181 F_182
  · exact lc_30_k C S0 hl0 p1 rfl rfl rfl rfl F_0 F_3 F_181 F_182
  · exact lc_30_l C S0 hl0 p1 rfl rfl rfl rfl F_0 F_59 F_181
  · exact lc_30_m C S0 hl0 p1 rfl rfl rfl rfl F_0 F_59 F_181
  · exact lc_30_n C S0 hl0 p1 rfl rfl rfl rfl F_0 F_3 F_181 F_182
  · exact lc_30_o C S0 hl0 p1 rfl rfl rfl rfl F_0 F_59 F_181
  · exact lc_30_p C S0 hl0 p1 rfl rfl rfl rfl F_0 F_181
  · exact lc_30_q C S0 hl0 rfl p1 rfl rfl rfl rfl F_0 F_181
