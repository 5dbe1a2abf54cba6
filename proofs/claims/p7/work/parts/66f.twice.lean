/-! twice: cut anew, all that is now told is found again -/
theorem und_lnT {k : Int32} {q : Bool} {L : BL} {a b : Nat} : (und k q L a b).length ≤ b - a := by
  by_cases h : (und k q L a b).length = 0
  · omega
  · have := und_ch (k := k) (q := q) (L := L) (b := b) _ a (Nat.le_refl _) ((und k q L a b).length - 1) (by omega)
    omega
theorem SRT_mem {N : Nat} : ∀ {cs : List CI} {e : Nat}, SRTD N e cs → ∀ c ∈ cs, c.1 < c.2.1 ∧ c.2.1 ≤ N := by
  intro cs
  induction cs with
  | nil => intro e _ c hc; exact absurd hc List.not_mem_nil
  | cons x cs ih =>
    intro e h c hc
    rcases List.mem_cons.mp hc with rfl | hc
    · exact ⟨h.2.1, h.2.2.1⟩
    · exact ih h.2.2.2 c hc
theorem ue_gap {k : Int32} {q : Bool} {L : BL} {a b : Nat} : ∀ (d i : Nat), i + d ≤ (und k q L a b).length → ueA (und k q L a b) b i + d ≤ ueA (und k q L a b) b (i + d) := by
  intro d
  induction d with
  | zero => intro i _; exact Nat.le_refl _
  | succ d ih =>
    intro i h
    have h1 := ih i (by omega)
    have h2 := (ue_st (k := k) (q := q) (L := L) (a := a) (b := b) (i := i + d) (by omega)).1
    show _ ≤ ueA (und k q L a b) b (i + d + 1)
    omega
def PXW (x : Pc) : Prop := (pX x).length ≤ x.2.1 - x.1
theorem tk_all {cf : CFG} {P : List Pc} {x : Pc} (h : ∀ y ∈ P, PXW y) (hx : PXW x) : ∀ y ∈ tk cf P x, PXW y := by
  unfold tk
  by_cases q : okT cf (pX x) = true ∧ P.length < 40
  · rw [if_pos q]
    intro y hy
    rcases List.mem_append.mp hy with hy | hy
    · exact h y hy
    · rw [List.mem_singleton.mp hy]; exact hx
  · rw [if_neg q]; exact h
theorem tks_all {cf : CFG} : ∀ (xs : List Pc) {P : List Pc}, (∀ y ∈ P, PXW y) → (∀ x ∈ xs, PXW x) → ∀ y ∈ xs.foldl (tk cf) P, PXW y := by
  intro xs
  induction xs with
  | nil => intro P h _; exact h
  | cons x xs ih => intro P h hx; exact ih (tk_all h (hx x List.mem_cons_self)) (fun y hy => hx y (List.mem_cons_of_mem _ hy))
theorem pcC_all {cf : CFG} {L : BL} {c : CI} : ∀ x ∈ pcC cf L c, PXW x := by
  unfold pcC
  by_cases q : cf.2.1 = -1
  · rw [if_pos q]
    intro x hx
    rw [List.mem_singleton.mp hx]
    show ((und cf.1 c.2.2.1 L c.1 c.2.1).map (fun x => x.1)).length ≤ c.2.1 - c.1
    rw [List.length_map]; exact und_lnT
  · rw [if_neg q]
    intro x hx
    obtain ⟨d, hd, rfl⟩ := List.mem_map.mp hx
    obtain ⟨h1, h2⟩ := SRT_mem (cutL_srt _ 0 (Nat.le_refl _)) d hd
    rw [List.length_map] at h2
    have e1 : ueA (uOf cf L c) c.2.1 d.1 = ((uOf cf L c).getD d.1 u0).2.1 := if_pos (by omega)
    have e2 := (ue_st (k := cf.1) (q := c.2.2.1) (L := L) (a := c.1) (b := c.2.1) (i := d.2.1 - 1) (by have h2 : d.2.1 ≤ (und cf.1 c.2.2.1 L c.1 c.2.1).length := h2; omega)).2
    have e3 := ue_gap (k := cf.1) (q := c.2.2.1) (L := L) (a := c.1) (b := c.2.1) (d.2.1 - d.1) d.1 (by have h2 : d.2.1 ≤ (und cf.1 c.2.2.1 L c.1 c.2.1).length := h2; omega)
    have e4 : d.2.1 - 1 + 1 = d.2.1 := by omega
    have e5 : d.1 + (d.2.1 - d.1) = d.2.1 := by omega
    rw [e4] at e2
    rw [e5] at e3
    show ((und cf.2.1 d.2.2.1 ((uOf cf L c).map (fun x => x.1)) d.1 d.2.1).map (fun x => x.1)).length ≤ ((uOf cf L c).getD (d.2.1 - 1) u0).2.2 - ((uOf cf L c).getD d.1 u0).2.1
    rw [List.length_map]
    have h3 := und_lnT (k := cf.2.1) (q := d.2.2.1) (L := (uOf cf L c).map (fun x => x.1)) (a := d.1) (b := d.2.1)
    have e2 : ((uOf cf L c).getD (d.2.1 - 1) u0).2.2 = ueA (uOf cf L c) c.2.1 d.2.1 := e2
    have e3 : ueA (uOf cf L c) c.2.1 d.1 + (d.2.1 - d.1) ≤ ueA (uOf cf L c) c.2.1 d.2.1 := e3
    omega
theorem pcs_all {cf : CFG} {L : BL} : ∀ x ∈ pcs cf L, PXW x := by
  have key : ∀ (cs : List CI) {P : List Pc}, (∀ y ∈ P, PXW y) → ∀ y ∈ cs.foldl (tkC cf L) P, PXW y := by
    intro cs
    induction cs with
    | nil => intro P h; exact h
    | cons c cs ih =>
      intro P h
      refine ih (P := tkC cf L P c) ?_
      unfold tkC
      by_cases q : lkd cf L c = true
      · rw [if_pos q]; exact h
      · rw [if_neg q]; exact tks_all _ h pcC_all
  exact key _ (fun y hy => absurd hy List.not_mem_nil)
theorem pcs_w {cf : CFG} {L : BL} {i : Nat} (hi : i < (pcs cf L).length) : PXW ((pcs cf L).getD i pc0) := by
  have e : (pcs cf L).getD i pc0 = (pcs cf L)[i] := by rw [List.getD_eq_getElem?_getD, List.getElem?_eq_getElem hi, Option.getD_some]
  rw [e]; exact pcs_all _ (List.getElem_mem hi)
theorem escC_1 {k c : Int32} {fi : Bool} : 1 ≤ (escC k fi c).length := by
  unfold escC
  repeat' split
  all_goals exact Nat.le_of_ble_eq_true rfl
theorem escL_lnT {k : Int32} : ∀ (t : BL) (fi : Bool), t.length ≤ (escL k fi t).length := by
  intro t
  induction t with
  | nil => intro _; exact Nat.le_refl _
  | cons c t ih =>
    intro fi
    have h1 := escC_1 (k := k) (c := c) (fi := fi)
    have h2 := ih false
    show t.length + 1 ≤ (escC k fi c ++ escL k false t).length
    rw [List.length_append]; omega
theorem esc_len {k : Int32} {q fi : Bool} {t : BL} : t.length ≤ (esc k q fi t).length := by
  have h1 := escL_lnT (k := 1) t fi
  have h2 := escL_lnT (k := k) t fi
  unfold esc
  by_cases c1 : k = 1
  · rw [if_pos c1]
    by_cases c2 : q = true
    · rw [if_pos c2]; exact h1
    · rw [if_neg c2]
      by_cases c3 : sg t = true
      · rw [if_pos c3, List.length_cons, List.length_append]; omega
      · rw [if_neg c3]; exact Nat.le_refl _
  · rw [if_neg c1]; exact h2
theorem escFor_len {cf : CFG} {x : Pc} {t e : BL} (h : escFor cf x t = some e) : t.length ≤ e.length := by
  unfold escFor at h
  by_cases c : cf.2.1 ≠ -1 ∧ cf.1 = 1 ∧ x.2.2.1 = false ∧ sg (mid cf x.2.2.2.1 t) = true
  · rw [if_pos c] at h; exact absurd h (fun q => by cases q)
  · rw [if_neg c] at h
    have h := Option.some.inj h
    subst h
    refine Nat.le_trans ?_ esc_len
    unfold mid
    by_cases c2 : cf.2.1 = -1
    · rw [if_pos c2]; exact Nat.le_refl _
    · rw [if_neg c2]; exact esc_len
def nAt (S : SST) : Nat → Nat
  | 0 => 0
  | i + 1 => nAt S i + (nowOf S i).length
theorem nAt_le {S : SST} : ∀ {i k : Nat}, i ≤ k → nAt S i ≤ nAt S k := by
  intro i k h
  obtain ⟨d, rfl⟩ : ∃ d, k = i + d := ⟨k - i, by omega⟩
  clear h
  induction d with
  | zero => exact Nat.le_refl _
  | succ d ih => exact Nat.le_trans ih (Nat.le_add_right _ _)
theorem nAt_row {S : SST} (hV : VE S.2.1 S.2.2.1 (pcF S)) : ∀ i, i ≤ (pcF S).length → nAt S i ≤ (rowTo S.2.1 S.1 S.2.2.1 (pcF S) i).length := by
  have hO : ORD (pcF S) S.1.length := pcs_ord
  intro i
  induction i with
  | zero => intro _; exact Nat.zero_le _
  | succ i ih =>
    intro hi
    have h1 := ih (by omega)
    have h2 := row_sl (cf := S.2.1) (F := S.1) (told := S.2.2.1) hO (i := i) (by omega)
    have h3 : (nowOf S i).length ≤ (bOf S.2.1 S.1 S.2.2.1 i ((pcF S).getD i pc0)).length := by
      cases ht : S.2.2.1 i with
      | none =>
        rw [now_n ht]
        have e : bOf S.2.1 S.1 S.2.2.1 i ((pcF S).getD i pc0) = sl S.1 ((pcF S).getD i pc0).1 ((pcF S).getD i pc0).2.1 := by unfold bOf; rw [ht]
        rw [e, sl_len (hO.1 i (by omega)).2.2]
        exact pcs_w (show i < (pcs S.2.1 S.1).length from (by omega : i < (pcF S).length))
      | some t =>
        rw [now_s ht]
        have e : bOf S.2.1 S.1 S.2.2.1 i ((pcF S).getD i pc0) = (escFor S.2.1 ((pcF S).getD i pc0) t).getD [] := by unfold bOf; rw [ht]
        obtain ⟨z, hz⟩ := Option.isSome_iff_exists.mp (hV i t (by omega) ht)
        rw [e, hz]
        exact escFor_len hz
    show nAt S i + (nowOf S i).length ≤ _
    omega
theorem nAt_6 {S : SST} (hS : SV S) {i : Nat} (hi : i ≤ (pcF S).length) : nAt S i ≤ 600 := by
  have h1 := nAt_row hS.1 _ (Nat.le_refl _)
  have h2 : (bltS S).length ≤ 600 := hS.2.1
  have h3 : (rowTo S.2.1 S.1 S.2.2.1 (pcF S) (pcF S).length).length ≤ (bltS S).length := by
    show _ ≤ (rowTo S.2.1 S.1 S.2.2.1 (pcF S) (pcF S).length ++ _).length
    rw [List.length_append]; omega
  have := nAt_le (S := S) hi
  omega
theorem now_6 {S : SST} (hS : SV S) {i : Nat} (hi : i < (pcF S).length) : nAt S i + (nowOf S i).length ≤ 600 := nAt_6 hS (i := i + 1) hi
def rcT (S : SST) : List Pc := pcs S.2.1 (bltS S)
def twB (S : SST) : Nat → Nat → Bool
  | 0, _ => true
  | d + 1, i => decide (pX ((rcT S).getD i pc0) = nowOf S i) && twB S d (i + 1)
def sTwi (V : SPV) : Int32 × SPV := (if (rcT V.2.1).length = (pcF V.2.1).length then bI (twB V.2.1 (pcF V.2.1).length 0) else 0, V)
theorem sm_dec {L M X Y : BL} {a b m : Nat} (hm : X.length = m) (hX : ∀ z, z < m → L.getD (a + z) 0 = X.getD z 0) (hY : ∀ z, z < m → M.getD (b + z) 0 = Y.getD z 0) (hl : Y.length = m) : smF L a M b m = decide (X = Y) := by
  by_cases e : X = Y
  · rw [decide_eq_true e]
    exact (smF_all _ _ _).mpr (fun z hz => by rw [hX z hz, hY z hz, e])
  · rw [decide_eq_false e]
    cases hx : smF L a M b m with
    | false => rfl
    | true => exact absurd (bl_ext (hm.trans hl.symm) (fun z hz => by
        have := (smF_all _ _ _).mp hx z (by omega)
        rw [hX z (by omega), hY z (by omega)] at this
        exact this)) e
section TWK
variable {f : AH} {n : Nat} {V : SPV}
theorem f_isNow {S : SST} {i : Nat} {hi ag pc wn fp : Int32} (hp : f 0 = some (.inr (8, pfL hi ag pc wn fp))) (hK : KO f n S) (hC : CUT f 115 (rcT S)) (h1 : i < (pcF S).length) (h2 : i < (rcT S).length) : PQ (mX8_isNow 0 (nI i) (some (75 + i)) (some (131 + i)) f n) (fun y => y = (bI (decide (pX ((rcT S).getD i pc0) = nowOf S i)), f, n)) := by
  have h40 : (pcF S).length ≤ 40 := pcs_40
  obtain ⟨x11, ep⟩ := KO_BD hK h1
  obtain ⟨y9, y10, y11, er⟩ := hC.1.1.2.2.2.1 i h2
  have hT := hK.2.1.1.2.1
  have hR := hC.1.2.1
  have l1 := tx_le h1
  have l2 := tx_le h2
  have l3 := rw_6 hT
  have l4 := rw_6 hR
  have l1 : tAt (pcF S) i + (pX (pOf S i)).length ≤ (txs (pcF S)).length := l1
  have fin63 : ∀ x : Int32, x = bI (decide (pX ((rcT S).getD i pc0) = nowOf S i)) → PQ (mX8_isNow_b63 x f n) (fun y => y = (bI (decide (pX ((rcT S).getD i pc0) = nowOf S i)), f, n)) := fun x hx => pq_ck (pq_ret (by rw [hx]))
  have fin106 : ∀ x : Int32, x = bI (decide (pX ((rcT S).getD i pc0) = nowOf S i)) → PQ (mX8_isNow_b106 x f n) (fun y => y = (bI (decide (pX ((rcT S).getD i pc0) = nowOf S i)), f, n)) := fun x hx => pq_ck (pq_ret (by rw [hx]))
  unfold mX8_isNow mX8_isNow_b62 mX8_isNow_b105
  refine pq_gR hp rfl (pq_sb (pq_ck (pq_call (f_toldForS (f := f) (n := n) (v := nI i) hK.1 (by rw [nI_toInt (by omega)]; omega)) (fun y hy => ?_))))
  obtain ⟨w, rfl, hwO⟩ := hy
  rw [nI_tn (by omega)] at hwO
  cases ht : S.2.2.1 i with
  | none =>
    rw [ht] at hwO
    have hwO : w = none := hwO
    subst hwO
    have en := now_n ht
    refine pq_sb (pq_oNn (pq_sb (pq_gI ep rfl (pq_sb (pq_gI er rfl (pq_eqi (nI_toInt (by omega)) (nI_toInt (by omega)) (fun q => ?_) (fun q => fin63 _ ?_)))))))
    · have e := sm_dec (L := txs (pcF S)) (M := txs (rcT S)) (X := pX (pOf S i)) (Y := pX ((rcT S).getD i pc0)) (a := tAt (pcF S) i) (b := tAt (rcT S) i) rfl (fun z hz => tx_gd h1 hz) (fun z hz => tx_gd h2 (by omega)) (by omega)
      refine pq_gR hp rfl (pq_sb (pq_gR hK.2.1.1.1.1 rfl (pq_gI ep rfl (pq_gR hp rfl (pq_sb (pq_gR hC.1.1.1 rfl (pq_gI er rfl (pq_gI ep rfl (pq_sb (pq_ck (pq_is (f_same (f := f) (n := n) hT hR l1 (by omega)) ?_)))))))))))
      rw [e]
      refine pq_eq (fun q2 => fin63 _ ?_) (fun q2 => fin63 _ ?_)
      · rw [en, decide_eq_false (fun x => (decide_eq_false_iff_not.mp (bI_0.mp q2)) x.symm)]; rfl
      · rw [en, decide_eq_true (show pX ((rcT S).getD i pc0) = pX (pOf S i) from by
          by_cases x : pX (pOf S i) = pX ((rcT S).getD i pc0)
          · exact x.symm
          · exact absurd (bI_0.mpr (decide_eq_false x)) q2)]; rfl
    · rw [en, decide_eq_false (fun x => q (by rw [x]))]; rfl
  | some t =>
    rw [ht] at hwO
    obtain ⟨j, rfl, ⟨b, c, hr, -⟩, h60⟩ := hwO
    have en := now_s ht
    refine pq_sb (pq_oNs (pq_ck (pq_is (f_size hr) (pq_sb (pq_gI er rfl (pq_eqi (nI_toInt (by omega)) (nI_toInt (by omega)) (fun q => ?_) (fun q => fin106 _ ?_)))))))
    · have e := sm_dec (L := t) (M := txs (rcT S)) (X := t) (Y := pX ((rcT S).getD i pc0)) (a := 0) (b := tAt (rcT S) i) rfl (fun z hz => by rw [Nat.zero_add]) (fun z hz => tx_gd h2 (by omega)) (by omega)
      refine pq_gR hp rfl (pq_sb (pq_gR hC.1.1.1 rfl (pq_gI er rfl (pq_ck (pq_is (f_size hr) (pq_ck (pq_is (f_same (f := f) (n := n) (a := 0) hr hR (by omega) (by omega)) ?_)))))))
      rw [e]
      refine pq_eq (fun q2 => fin106 _ ?_) (fun q2 => fin106 _ ?_)
      · rw [en, decide_eq_false (fun x => (decide_eq_false_iff_not.mp (bI_0.mp q2)) x.symm)]; rfl
      · rw [en, decide_eq_true (show pX ((rcT S).getD i pc0) = t from by
          by_cases x : t = pX ((rcT S).getD i pc0)
          · exact x.symm
          · exact absurd (bI_0.mpr (decide_eq_false x)) q2)]; rfl
    · rw [en, decide_eq_false (fun x => q (by rw [x]))]; rfl
theorem k_twi (h : RC f n V) : PQ (mX8_twice 0 f n) (COI (sTwi V)) := by
  unfold mX8_twice sTwi
  refine pq_ck (pq_call (f_again h) (fun y hy => ?_))
  obtain ⟨f1, rfl, h1, hC⟩ := hy
  have hC : CUT f1 115 (rcT V.2.1) := hC
  obtain ⟨ag, hp⟩ := RC_p h1
  have hK := h1.2.2.2.1.1
  have h40 : (pcF V.2.1).length ≤ 40 := pcs_40
  have h41 : (rcT V.2.1).length ≤ 40 := pcs_40
  refine pq_gR hp rfl (pq_sb (pq_ck (pq_is (f_csize hC.1.1) (pq_gR hp rfl (pq_sb (pq_ck (pq_is (f_csize hK.2.1.1.1) (pq_eqi (nI_toInt (by omega)) (nI_toInt (by omega)) (fun q => ?_) (fun q => ?_)))))))))
  · rw [if_pos (show (rcT V.2.1).length = (pcF V.2.1).length by omega)]
    have key : ∀ (d e i : Nat), i + e = (pcF V.2.1).length → PQ (mX8_twice_l25 d 0 (nI i) f1 n) (COI (bI (twB V.2.1 e i), V)) := by
      intro d
      induction d with
      | zero => intro _ _ _; exact pq_none
      | succ d ih =>
        intro e i hi
        unfold mX8_twice_l25 mX8_twice_b72
        refine pq_gR hp rfl (pq_sb (pq_ck (pq_is (f_csize hK.2.1.1.1) (pq_le (nI_toInt (by omega)) (nI_toInt (by omega)) (fun q => ?_) (fun q => ?_)))))
        · obtain rfl : e = 0 := by omega
          exact pq_ck (pq_ret ⟨f1, n, rfl, h1⟩)
        · obtain ⟨e, rfl⟩ : ∃ e', e = e' + 1 := ⟨e - 1, by omega⟩
          have hi1 : i < (pcF V.2.1).length := by omega
          have hi2 : i < (rcT V.2.1).length := by omega
          have g2 : PQ (mX1_get 115 (nI i) f1 n) (fun y => y = (some (131 + i), f1, n)) := pq_tail (f_cgetN hC.1.1 hi2) (fun y hy => by rw [hy, show 115 + 16 + i = 131 + i by omega])
          have es : twB V.2.1 (e + 1) i = (decide (pX ((rcT V.2.1).getD i pc0) = nowOf V.2.1 i) && twB V.2.1 e (i + 1)) := rfl
          refine pq_gR hp rfl (pq_sb (pq_ck (pq_is (f_cg75 hK hi1) (pq_sb (pq_gR hp rfl (pq_sb (pq_ck (pq_is g2 (pq_sb (pq_oNs (pq_oNs (pq_ck (pq_is (f_isNow (f := f1) (n := n) hp hK hC hi1 hi2) ?_)))))))))))))
          rw [es]
          cases hb : decide (pX ((rcT V.2.1).getD i pc0) = nowOf V.2.1 i) with
          | false =>
            rw [Bool.false_and]
            exact pq_t rfl (pq_ck (pq_ret ⟨f1, n, rfl, h1⟩))
          | true =>
            rw [Bool.true_and]
            refine pq_f (show ¬ (1 : Int32) = 0 by decide) ?_
            rw [nI_1]; exact ih e (i + 1) (by omega)
    exact key rFU _ 0 (Nat.zero_add _)
  · rw [if_neg (show ¬ (rcT V.2.1).length = (pcF V.2.1).length by omega)]
    exact pq_ck (pq_ret ⟨f1, n, rfl, h1⟩)
end TWK
section TWR
variable {σ : RS9} {V : SPV}
def NW9 (σ : RS9) (S : SST) (p : Nat) : Prop := (∀ q, q < p → σ.2 51 q = nI (nAt S q)) ∧ ∀ q k, q < p → k < (nowOf S q).length → σ.2 50 (nAt S q + k) = (nowOf S q).getD k 0
def TW9 (σ σ' : RS9) (S : SST) : Prop := FRX RA8 FA8 σ σ' ∧ NW9 σ' S (pcF S).length ∧ σ'.2 51 (pcF S).length = nI (nAt S (pcF S).length) ∧ σ'.1 59 = nI (pcF S).length ∧ PT σ' (decide (S.2.1.1 = 0)) (rcT S)
theorem NW_frx {σ σ' : RS9} {S : SST} {p : Nat} {R F : Nat → Prop} (h : NW9 σ S p) (hX : FRX R F σ σ') (h1 : ¬ R 50) (h2 : ¬ R 51) : NW9 σ' S p := ⟨fun q hq => by rw [hX.1 51 h2]; exact h.1 q hq, fun q k hq hk => by rw [hX.1 50 h1]; exact h.2 q k hq hk⟩
theorem r_cutsBuilt (h : RR9 σ V) (hS : SV V.2.1) : PQ (mX9_cutsBuilt σ) (fun y => TW9 σ y.2 V.2.1) := by
  have hbl : (bltS V.2.1).length ≤ 600 := hS.2.1
  have h40 : (pcF V.2.1).length ≤ 40 := pcs_40
  obtain ⟨h33, -⟩ := RM_33 h.2.1
  unfold mX9_cutsBuilt
  refine pq_call (r_builds (RM_BV h.2.1) pcs_ord (by have := RR_4 h; omega) hS.1) (fun y hy => ?_)
  obtain ⟨σ1, rfl, hU, hF⟩ := hy
  have h49 : RLs σ1 49 (bltS V.2.1) := hU.1
  have e33 : σ1.1 33 = nI (pcF V.2.1).length := (hF.2 33 (fun q => by omega)).trans h33
  show PQ (mX9_cutsBuilt_l20 rFU (nI (bltS V.2.1).length) (σ1.1 33) (0 : Int32) (0 : Int32) (rSf σ1 59 (σ1.1 33))) _
  rw [e33]
  have hF1 : FRX (fun k => R49 k) (fun k => k = 56 ∨ k = 59) σ (rSf σ1 59 (nI (pcF V.2.1).length)) := ⟨fun k hk => hF.1 k hk, fun k hk => (sf_ne (fun q => hk (Or.inr q))).trans (hF.2 k (fun q => hk (Or.inl q)))⟩
  have h49' : RLs (rSf σ1 59 (nI (pcF V.2.1).length)) 49 (bltS V.2.1) := h49
  have h59 : (rSf σ1 59 (nI (pcF V.2.1).length)).1 59 = nI (pcF V.2.1).length := sf_eq
  generalize rSf σ1 59 (nI (pcF V.2.1).length) = s0 at hF1 h49' h59 ⊢
  have hR0 : RR9 s0 V := RR_frx h hF1 (fun k hk q => by omega) (fun k hk q => by omega)
  have hX0 : FRX RA8 FA8 σ s0 := frx_mono hF1 (fun k hk => by omega) (fun k hk => by omega)
  -- the row is read over
  have k99 : ∀ (d i : Nat) (s : RS9), i ≤ (bltS V.2.1).length → FRX RA8 FA8 σ s → s.1 16 = nI (bltS V.2.1).length → s.1 59 = nI (pcF V.2.1).length → NW9 s V.2.1 (pcF V.2.1).length → s.2 51 (pcF V.2.1).length = nI (nAt V.2.1 (pcF V.2.1).length) → RLs s 49 (bltS V.2.1) → RLs s 13 ((bltS V.2.1).take i) → PQ (mX9_cutsBuilt_l99 d (nI (bltS V.2.1).length) (nI i) s) (fun y => TW9 σ y.2 V.2.1) := by
    intro d
    induction d with
    | zero => intro i s _ _ _ _ _ _ _ _; exact pq_none
    | succ d ih =>
      intro i s hi hX h16 k59 hN h51 k49 k13
      unfold mX9_cutsBuilt_l99
      refine pq_le (nI_toInt (by omega)) (nI_toInt (by omega)) (fun q => ?_) (fun q => ?_)
      · have e : i = (bltS V.2.1).length := by omega
        rw [e, List.take_length] at k13
        refine pq_call (r_cutsAll (cf := V.2.1.2.1) (by rw [hX.1 1 (fun q => by omega)]; exact h.2.1.1.2.1) k13 h16 hbl) (fun y hy => ?_)
        obtain ⟨s2, rfl, gP, g⟩ := hy
        exact pq_ret ⟨frx_tr hX (frx_mono g (fun k hk => by omega) (fun k hk => by omega)), NW_frx hN g (fun q => by omega) (fun q => by omega), by rw [g.1 51 (fun q => by omega)]; exact h51, (g.2 59 (fun q => by omega)).trans k59, gP⟩
      · have hi' : i < (bltS V.2.1).length := by omega
        rw [rd_nI (by omega), k49 i hi', nI_1]
        have fr : FRX (fun k => k = 13) NF9 s (rSa s 13 (nI i) ((bltS V.2.1).getD i 0)) := ⟨fun k hk => sa_ne hk, fun k hk => rfl⟩
        exact pq_ck (pq_ck (ih (i + 1) _ (by omega) (frx_tr hX (frx_mono fr (fun k hk => by omega) (fun k hk => absurd hk id))) h16 k59 (NW_frx hN fr (fun q => by omega) (fun q => by omega)) (by rw [fr.1 51 (fun q => by omega)]; exact h51) (RL_frx k49 fr (fun q => by omega)) (RL_53 k13 hi' rfl (by omega))))
  have k37 : ∀ (rec20 : Int32 → Int32 → Int32 → Int32 → RS9 → Option (Int32 × RS9)) (v1 v2 : Int32) (p : Nat), p < (pcF V.2.1).length → (∀ s : RS9, FRX (fun k => k = 50 ∨ k = 51) NF9 s0 s → NW9 s V.2.1 (p + 1) → PQ (rec20 v1 v2 (nI (nAt V.2.1 (p + 1))) (nI (p + 1)) s) (fun y => TW9 σ y.2 V.2.1)) → ∀ (d k : Nat) (s : RS9), k ≤ (nowOf V.2.1 p).length → FRX (fun k => k = 50 ∨ k = 51) NF9 s0 s → NW9 s V.2.1 p → s.2 51 p = nI (nAt V.2.1 p) → (∀ z, z < k → s.2 50 (nAt V.2.1 p + z) = (nowOf V.2.1 p).getD z 0) → PQ (mX9_cutsBuilt_l37 rec20 d v1 v2 (nI (nAt V.2.1 p + k)) (nI p) (nI k) s) (fun y => TW9 σ y.2 V.2.1) := by
    intro rec20 v1 v2 p hp hr d
    have hp6 := now_6 hS hp
    induction d with
    | zero => intro _ _ _ _ _ _ _; exact pq_none
    | succ d ih =>
      intro k s hk hX hN h51 h50
      have hRs : RR9 s V := RR_frx hR0 hX (fun k hk q => by omega) (fun k hk q => q)
      unfold mX9_cutsBuilt_l37 mX9_cutsBuilt_b78
      refine pq_isr (a := nI (nowOf V.2.1 p).length) (pq_tail (r_nowMany hRs.2.1.1.2.2.1 hRs.2.1.2 hp) (fun y hy => by rw [hy, nw_now])) ?_
      refine pq_le (nI_toInt (by omega)) (nI_toInt (by omega)) (fun q => ?_) (fun q => pq_le (show (700 : Int32).toInt = 700 by decide) (nI_toInt (by omega)) (fun q2 => ?_) (fun q2 => ?_))
      · obtain rfl : k = (nowOf V.2.1 p).length := by omega
        rw [nI_1]
        exact hr s hX ⟨fun z hz => by
          by_cases ez : z = p
          · rw [ez]; exact h51
          · exact hN.1 z (by omega), fun z y hz hy => by
          by_cases ez : z = p
          · subst ez; exact h50 y hy
          · exact hN.2 z y (by omega) hy⟩
      · exact absurd q2 (by omega)
      · have hk' : k < (nowOf V.2.1 p).length := by omega
        refine pq_isr (a := (nowOf V.2.1 p).getD k 0) (pq_tail (r_nowByte hRs.2.1.1.2.2.1 hRs.2.1.2 hp (by rw [nw_now]; exact hk')) (fun y hy => by rw [hy, nw_now])) (pq_ck ?_)
        rw [nI_1, nI_1]
        have fr : FRX (fun k => k = 50 ∨ k = 51) NF9 s (rSa s 50 (nI (nAt V.2.1 p + k)) ((nowOf V.2.1 p).getD k 0)) := ⟨fun k hk => sa_ne (fun q => hk (Or.inl q)), fun k hk => rfl⟩
        have e50 : ∀ i, (rSa s 50 (nI (nAt V.2.1 p + k)) ((nowOf V.2.1 p).getD k 0)).2 50 i = if i = nAt V.2.1 p + k then (nowOf V.2.1 p).getD k 0 else s.2 50 i := fun i => sa_nI (by omega)
        have e51 : (rSa s 50 (nI (nAt V.2.1 p + k)) ((nowOf V.2.1 p).getD k 0)).2 51 = s.2 51 := sa_ne (by decide)
        refine ih (k + 1) _ (by omega) (frx_tr hX fr) ⟨fun z hz => by rw [e51]; exact hN.1 z hz, fun z y hz hy => ?_⟩ (by rw [e51]; exact h51) (fun z hz => ?_)
        · have h1 : nAt V.2.1 (z + 1) ≤ nAt V.2.1 p := nAt_le (by omega)
          have h1 : nAt V.2.1 z + (nowOf V.2.1 z).length ≤ nAt V.2.1 p := h1
          rw [e50, if_neg (by omega)]; exact hN.2 z y hz hy
        · rw [e50]
          by_cases ez : z = k
          · rw [ez, if_pos rfl]
          · rw [if_neg (by omega)]; exact h50 z (by omega)
  have k20 : ∀ (d p : Nat) (s : RS9), p ≤ (pcF V.2.1).length → FRX (fun k => k = 50 ∨ k = 51) NF9 s0 s → NW9 s V.2.1 p → PQ (mX9_cutsBuilt_l20 d (nI (bltS V.2.1).length) (nI (pcF V.2.1).length) (nI (nAt V.2.1 p)) (nI p) s) (fun y => TW9 σ y.2 V.2.1) := by
    intro d
    induction d with
    | zero => intro _ _ _ _ _; exact pq_none
    | succ d ih =>
      intro p s hp hX hN
      have fr : FRX (fun k => k = 50 ∨ k = 51) NF9 s (rSa s 51 (nI p) (nI (nAt V.2.1 p))) := ⟨fun k hk => sa_ne (fun q => hk (Or.inr q)), fun k hk => rfl⟩
      have e51 : ∀ i, (rSa s 51 (nI p) (nI (nAt V.2.1 p))).2 51 i = if i = p then nI (nAt V.2.1 p) else s.2 51 i := fun i => sa_nI (by omega)
      have e50 : (rSa s 51 (nI p) (nI (nAt V.2.1 p))).2 50 = s.2 50 := sa_ne (by decide)
      have hN2 : NW9 (rSa s 51 (nI p) (nI (nAt V.2.1 p))) V.2.1 p := ⟨fun z hz => by rw [e51, if_neg (by omega)]; exact hN.1 z hz, fun z y hz hy => by rw [e50]; exact hN.2 z y hz hy⟩
      have hX2 := frx_tr hX fr
      unfold mX9_cutsBuilt_l20
      refine pq_le (nI_toInt (by omega)) (nI_toInt (by omega)) (fun q => ?_) (fun q => ?_)
      · obtain rfl : p = (pcF V.2.1).length := by omega
        have fr2 : FRX NO9 (fun k => k = 16) (rSa s 51 (nI (pcF V.2.1).length) (nI (nAt V.2.1 (pcF V.2.1).length))) (rSf (rSa s 51 (nI (pcF V.2.1).length) (nI (nAt V.2.1 (pcF V.2.1).length))) 16 (nI (bltS V.2.1).length)) := ⟨fun _ _ => rfl, fun k hk => sf_ne hk⟩
        refine pq_ck (k99 rFU 0 _ (Nat.zero_le _) (frx_tr hX0 (frx_tr (frx_mono hX2 (fun k hk => by omega) (fun k hk => absurd hk id)) (frx_mono fr2 (fun k hk => absurd hk id) (fun k hk => by omega)))) sf_eq ?_ (NW_frx hN2 fr2 id id) ?_ (RL_frx (RL_frx h49' hX2 (fun q => by omega)) fr2 (fun q => q)) (fun i hi => absurd hi (by rw [List.take_zero]; exact Nat.not_lt_zero _)))
        · exact (sf_ne (by decide)).trans ((hX2.2 59 (fun q => q)).trans h59)
        · show (rSa s 51 (nI (pcF V.2.1).length) (nI (nAt V.2.1 (pcF V.2.1).length))).2 51 _ = _
          rw [e51, if_pos rfl]
      · have hp' : p < (pcF V.2.1).length := by omega
        exact pq_ck (k37 (fun v1 v2 v3 v4 σ => mX9_cutsBuilt_l20 d v1 v2 v3 v4 σ) _ _ p hp' (fun s2 g hN3 => ih (p + 1) s2 (by omega) g hN3) rFU 0 _ (Nat.zero_le _) hX2 hN2 (by rw [e51, if_pos rfl]) (fun z hz => absurd hz (Nat.not_lt_zero _)))
  exact k20 rFU 0 s0 (Nat.zero_le _) frx_rfl ⟨fun q hq => absurd hq (Nat.not_lt_zero _), fun q k hq _ => absurd hq (Nat.not_lt_zero _)⟩
theorem r_isNow {σ1 : RS9} {S : SST} {i : Nat} (hS : SV S) (h : TW9 σ σ1 S) (h1 : i < (pcF S).length) (h2 : i < (rcT S).length) : PQ (mX9_isNow (nI i) (nI i) σ1) (fun y => y = (bI (decide (pX ((rcT S).getD i pc0) = nowOf S i)), σ1)) := by
  obtain ⟨-, hN, h51, -, hP⟩ := h
  have h40 : (pcF S).length ≤ 40 := pcs_40
  have n6 := now_6 hS h1
  obtain ⟨-, -, -, -, -, -, a41, a42⟩ := hP.2.2 i h2
  have l1 := tx_le h2
  have l2 := hP.2.1.2.1
  have t43 := hP.2.1.2.2.2.1
  have c42 : rGa σ1 42 (nI i) = nI (pX ((rcT S).getD i pc0)).length := (rd_nI (by omega)).trans a42
  have c41 : rGa σ1 41 (nI i) = nI (tAt (rcT S) i) := (rd_nI (by omega)).trans a41
  have c51 : rGa σ1 51 (nI i) = nI (nAt S i) := (rd_nI (by omega)).trans (hN.1 i h1)
  have c52 : rGa σ1 51 (nI (i + 1)) = nI (nAt S i + (nowOf S i).length) := (rd_nI (by omega)).trans (by
    by_cases e : i + 1 = (pcF S).length
    · rw [e, h51, ← e]; rfl
    · exact hN.1 (i + 1) (by omega))
  have hn50 := fun k hk => hN.2 i k h1 hk
  generalize hX : pX ((rcT S).getD i pc0) = X at c42 l1 ⊢
  have hX43 : ∀ k, k < X.length → σ1.2 43 (tAt (rcT S) i + k) = X.getD k 0 := fun k hk => (t43 _ (by omega)).trans (by rw [tx_gd h2 (by rw [hX]; exact hk), hX])
  generalize nowOf S i = Y at n6 c52 hn50 ⊢
  unfold mX9_isNow mX9_isNow_b29
  rw [nI_1, c42, c51, c52, nI_sb (by omega) (by omega), show nAt S i + Y.length - nAt S i = Y.length by omega]
  have l33z : ∀ d k, decide (X = Y) = false → PQ (mX9_isNow_l33 d (nI i) (nI i) 0 k σ1) (fun y => y = (bI (decide (X = Y)), σ1)) := by
    intro d k hz
    cases d with
    | zero => exact pq_none
    | succ d =>
      unfold mX9_isNow_l33 mX9_isNow_b91
      rw [hz]
      exact pq_ck (pq_ite (pq_ck (pq_ret rfl)) (pq_t rfl (pq_ck (pq_ret rfl))))
  have l33 : X.length = Y.length → ∀ d k, k ≤ X.length → (∀ z, z < k → X.getD z 0 = Y.getD z 0) → PQ (mX9_isNow_l33 d (nI i) (nI i) 1 (nI k) σ1) (fun y => y = (bI (decide (X = Y)), σ1)) := by
    intro hl d
    induction d with
    | zero => intro _ _ _; exact pq_none
    | succ d ih =>
      intro k hk he
      unfold mX9_isNow_l33 mX9_isNow_b91 mX9_isNow_b84
      rw [c42, c41, c51]
      refine pq_ck (pq_le (nI_toInt (by omega)) (nI_toInt (by omega)) (fun q => ?_) (fun q => ?_))
      · have e : X = Y := bl_ext hl (fun z hz => he z (by omega))
        rw [decide_eq_true e]; exact pq_ck (pq_ret rfl)
      · have hk' : k < X.length := by omega
        rw [nI_add, nI_add, rd_nI (by omega), rd_nI (by omega), hX43 k hk', hn50 k (by omega)]
        refine pq_f (show ¬ (1 : Int32) = 0 by decide) (pq_ck (pq_ck (pq_ck (pq_ck (pq_eq (fun q2 => ?_) (fun q2 => ?_))))))
        · rw [nI_1]
          exact ih (k + 1) (by omega) (fun z hz => by
            by_cases ez : z = k
            · rw [ez]; exact q2
            · exact he z (by omega))
        · exact l33z d _ (decide_eq_false (fun e => q2 (by rw [e])))
  refine pq_ck (pq_ck (pq_ck (pq_eqi (nI_toInt (by omega)) (nI_toInt (by omega)) (fun q => ?_) (fun q => ?_))))
  · exact l33 (by omega) rFU 0 (Nat.zero_le _) (fun z hz => absurd hz (Nat.not_lt_zero _))
  · exact l33z rFU _ (decide_eq_false (fun e => q (by rw [e])))
theorem r_twi (h : RR9 σ V) (hS : SV V.2.1) : PQ (mX9_twice σ) (RAI (sTwi V)) := by
  have h0 := RR_f0 (x := 0) h
  have h40 : (pcF V.2.1).length ≤ 40 := pcs_40
  have h41 : (rcT V.2.1).length ≤ 40 := pcs_40
  unfold mX9_twice sTwi
  refine pq_call (r_cutsBuilt h0 hS) (fun y hT => ?_)
  obtain ⟨v, σ1⟩ := y
  have hT : TW9 (rSf σ 0 0) σ1 V.2.1 := hT
  have e59 : σ1.1 59 = nI (pcF V.2.1).length := hT.2.2.2.1
  have e33 : σ1.1 33 = nI (rcT V.2.1).length := hT.2.2.2.2.1.1
  have b53 : ∀ v1 : Int32, PQ (mX9_twice_b53 v1 σ1) (RAI (v1, V)) := fun v1 => by
    unfold mX9_twice_b53
    exact pq_call (RR_recut h0 hT.1) (fun y hy => pq_ck (pq_ret ⟨hy, rfl⟩))
  have l0 : ∀ (d : Nat) (k : Int32), PQ (mX9_twice_l28 d 0 k σ1) (RAI (0, V)) := by
    intro d k
    cases d with
    | zero => exact pq_none
    | succ d =>
      unfold mX9_twice_l28
      exact pq_ite (b53 0) (pq_t rfl (b53 0))
  unfold mX9_twice_b25
  show PQ (if σ1.1 33 = σ1.1 59 then _ else _) _
  rw [e33, e59]
  refine pq_eqi (nI_toInt (by omega)) (nI_toInt (by omega)) (fun q => ?_) (fun q => ?_)
  · have hl : (rcT V.2.1).length = (pcF V.2.1).length := by omega
    rw [if_pos hl]
    have key : ∀ (d e i : Nat), i + e = (pcF V.2.1).length → PQ (mX9_twice_l28 d 1 (nI i) σ1) (RAI (bI (twB V.2.1 e i), V)) := by
      intro d
      induction d with
      | zero => intro _ _ _; exact pq_none
      | succ d ih =>
        intro e i hi
        unfold mX9_twice_l28
        rw [e59]
        refine pq_le (nI_toInt (by omega)) (nI_toInt (by omega)) (fun q => ?_) (fun q => ?_)
        · obtain rfl : e = 0 := by omega
          exact b53 1
        · obtain ⟨e, rfl⟩ : ∃ e', e = e' + 1 := ⟨e - 1, by omega⟩
          have es : twB V.2.1 (e + 1) i = (decide (pX ((rcT V.2.1).getD i pc0) = nowOf V.2.1 i) && twB V.2.1 e (i + 1)) := rfl
          refine pq_f (show ¬ (1 : Int32) = 0 by decide) (pq_isr (r_isNow hS hT (by omega) (by omega)) ?_)
          rw [es, nI_1]
          cases hb : decide (pX ((rcT V.2.1).getD i pc0) = nowOf V.2.1 i) with
          | false => rw [Bool.false_and]; exact l0 d _
          | true => rw [Bool.true_and]; exact ih e (i + 1) (by omega)
    exact key rFU _ 0 (Nat.zero_add _)
  · rw [if_neg (show ¬ (rcT V.2.1).length = (pcF V.2.1).length by omega)]
    exact l0 rFU _
end TWR
