/-! every op keeps what class and reference hold together -/
theorem op_0 : OP0 INW := fun F n σ a1 a2 a3 a4 a5 hI => by
  exact op_pw (S := fun V => sFeed V a1 a2 a3 a4 a5) hI (oo_0 F n σ a1 a2 a3 a4 a5 hI.1) (fun V hC => k_feed hC) (fun V hR hS => r_feed hR)
theorem op_1 : OP1 INW := fun F n σ a1 hI => by
  exact op_pw (S := fun V => sEnd V a1) hI (oo_1 F n σ a1 hI.1) (fun V hC => k_end hC) (fun V hR hS => r_end hR)
theorem op_2 : OP2 INW := fun F n σ hI => by
  exact op_tw (S := fun V => sActs V) (cd := wc_L_acts) hI (oo_2 F n σ hI.1) (fun V hC => k_acts hC) (fun V hR hS => r_acts hR hS)
theorem op_3 : OP3 INW := fun F n σ hI => by
  exact op_pw (S := fun V => (V.2.2.2.2.2, V)) hI (oo_3 F n σ hI.1) (fun V hC => k_fault hC) (fun V hR hS => r_fault hR)
theorem op_4 : OP4 INW := fun F n σ hI => by
  exact op_pw (S := fun V => (V.2.2.2.2.1, V)) hI (oo_4 F n σ hI.1) (fun V hC => k_why hC) (fun V hR hS => r_why hR)
theorem op_5 : OP5 INW := fun F n σ hI => by
  exact op_pw (S := fun V => sFile V) hI (oo_5 F n σ hI.1) (fun V hC => k_file hC) (fun V hR hS => r_file hR)
theorem op_6 : OP6 INW := fun F n σ a1 a2 hb hI => by
  exact op_tw (S := fun V => sKind V a1 a2) (cd := wc_L_kind) hI (oo_6 F n σ a1 a2 hb hI.1) (fun V hC => k_kind hC) (fun V hR hS => r_kind hR)
theorem op_7 : OP7 INW := fun F n σ a1 a2 hI => by
  exact op_tw (S := fun V => sRule V a1 a2) (cd := wc_L_rule) hI (oo_7 F n σ a1 a2 hI.1) (fun V hC => k_rule hC) (fun V hR hS => r_rule hR)
theorem op_8 : OP8 INW := fun F n σ hI => by
  exact op_tw (S := fun V => sLock V) (cd := wc_L_lock) hI (oo_8 F n σ hI.1) (fun V hC => k_lock hC) (fun V hR hS => r_lock hR)
theorem op_9 : OP9 INW := fun F n σ hI => by
  exact op_pu hI (oo_9 F n σ hI.1) (fun V hC => k_unlock hC) (fun V hR hS => r_unlock hR)
theorem op_10 : OP10 INW := fun F n σ a1 hI => by
  exact op_tw (S := fun V => sTell V a1) (cd := wc_L_tell) hI (oo_10 F n σ a1 hI.1) (fun V hC => k_tell hC) (fun V hR hS => r_tell hR hS)
theorem op_11 : OP11 INW := fun F n σ a1 hI => by
  exact op_tw (S := fun V => sFree V a1) (cd := wc_L_free) hI (oo_11 F n σ a1 hI.1) (fun V hC => k_free hC) (fun V hR hS => r_free hR hS)
theorem op_12 : OP12 INW := fun F n σ a1 hI => by
  exact op_tw (S := fun V => sSpread V a1) (cd := wc_L_spread) hI (oo_12 F n σ a1 hI.1) (fun V hC => k_spread hC) (fun V hR hS => r_spread hR hS)
theorem op_13 : OP13 INW := fun F n σ a1 a2 hI => by
  exact op_tw (S := fun V => sSwap V a1 a2) (cd := wc_L_swap) hI (oo_13 F n σ a1 a2 hI.1) (fun V hC => k_swap hC) (fun V hR hS => r_swap hR hS)
theorem op_14 : OP14 INW := fun F n σ hI => by
  exact op_tw (S := fun V => sWipe V) (cd := wc_L_wipe) hI (oo_14 F n σ hI.1) (fun V hC => k_wipe hC) (fun V hR hS => r_wipe hR hS)
theorem op_15 : OP15 INW := fun F n σ hI => by
  exact op_tw (S := fun V => sUndo V) (cd := wc_L_undo) hI (oo_15 F n σ hI.1) (fun V hC => k_undo hC) (fun V hR hS => r_undo hR)
theorem op_16 : OP16 INW := fun F n σ a1 a2 hI => by
  obtain ⟨G, hW, -, -⟩ := id hI.1
  exact op_tq hI (oo_16 F n σ a1 a2 hI.1) (tX8_piece (v1 := a1) (v2 := a2) hW hW.2.2.2.2.1) (fun V hR hS => q_piece hR hS)
theorem op_17 : OP17 INW := fun F n σ a1 a2 a3 hb hI => by
  obtain ⟨G, hW, -, -⟩ := id hI.1
  exact op_tq hI (oo_17 F n σ a1 a2 a3 hb hI.1) (tX8_octet (v1 := a1) (v2 := a2) (v3 := a3) hW hW.2.2.2.2.1) (fun V hR hS => q_octet)
theorem op_18 : OP18 INW := fun F n σ a1 a2 hI => by
  obtain ⟨G, hW, -, -⟩ := id hI.1
  exact op_tq hI (oo_18 F n σ a1 a2 hI.1) (tX8_origin (v1 := a1) (v2 := a2) hW hW.2.2.2.2.1) (fun V hR hS => q_origin)
theorem op_19 : OP19 INW := fun F n σ a1 a2 hI => by
  obtain ⟨G, hW, -, -⟩ := id hI.1
  exact op_tq hI (oo_19 F n σ a1 a2 hI.1) (tX8_key (v1 := a1) (v2 := a2) hW hW.2.2.2.2.1) (fun V hR hS => q_key)
theorem op_20 : OP20 INW := fun F n σ a1 hI => by
  obtain ⟨G, hW, -, -⟩ := id hI.1
  exact op_pq hI (oo_20 F n σ a1 hI.1) (tX8_holder (v1 := a1) hW hW.2.2.2.2.1) (fun V hR hS => q_holder)
theorem op_21 : OP21 INW := fun F n σ a1 a2 hb hI => by
  obtain ⟨G, hW, -, -⟩ := id hI.1
  exact op_pq hI (oo_21 F n σ a1 a2 hb hI.1) (tX8_at (v1 := a1) (v2 := a2) hW hW.2.2.2.2.1) (fun V hR hS => q_at hR hS)
theorem op_22 : OP22 INW := fun F n σ a1 a2 hI => by
  exact op_twc (S := fun V => sLik V a1 a2) (cd := wc_L_like) hI (oo_22 F n σ a1 a2 hI.1) (fun V hC => k_lik hC) (fun V hR hS => r_lik hR) (by intro E h; subst h; decide +kernel)
theorem op_23 : OP23 INW := fun F n σ a1 hI => by
  exact op_tw (S := fun V => sWould V a1) (cd := wc_L_would) hI (oo_23 F n σ a1 hI.1) (fun V hC => k_would hC) (fun V hR hS => r_would hR)
theorem op_24 : OP24 INW := fun F n σ hI => by
  exact op_tf (S := fun V => noT V) hI (oo_24 F n σ hI.1) (fun V hC => k_foundF hC) (fun V hR hS => r_foundF hR)
theorem op_25 : OP25 INW := fun F n σ a1 a2 a3 hb hI => by
  obtain ⟨G, hW, -, -⟩ := id hI.1
  exact op_pq hI (oo_25 F n σ a1 a2 a3 hb hI.1) (tX8_memory (v1 := a1) (v2 := a2) (v3 := a3) hW hW.2.2.2.2.1) (fun V hR hS => q_memory)
theorem op_26 : OP26 INW := fun F n σ a1 hI => by
  exact op_tf (S := fun V => V) hI (oo_26 F n σ a1 hI.1) (fun V hC => k_keptF hC) (fun V hR hS => r_keptF hR hS)
theorem op_27 : OP27 INW := fun F n σ hI => by
  exact op_pf (S := fun V => V) hI (oo_27 F n σ hI.1) (fun V hC => k_twiceF hC) (fun V hR hS => r_twiceF hR hS)
theorem op_28 : OP28 INW := fun F n σ hI => by
  exact op_pw (S := fun V => sImage V) hI (oo_28 F n σ hI.1) (fun V hC => k_image hC) (fun V hR hS => r_image hR)
theorem op_29 : OP29 INW := fun F n σ hI => by
  exact op_pw (S := fun V => sBack V) hI (oo_29 F n σ hI.1) (fun V hC => k_back hC) (fun V hR hS => r_back hR)
theorem op_30 : OP30 INW := fun F n σ a1 hI => by
  obtain ⟨G, hW, -, -⟩ := id hI.1
  exact op_pq hI (oo_30 F n σ a1 hI.1) (tX8_count (v1 := a1) hW hW.2.2.2.2.1) (fun V hR hS => q_count hR hS)
