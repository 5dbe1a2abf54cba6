/-! what is asked of a piece, of all -/
def wcF (T : BL) : Nat → Nat → Int32 → Int32
  | 0, _, a => a
  | d + 1, i, a => wcF T d (i + 1) (if isLet (T.getD i 0) = true ∧ ¬ (0 < i ∧ isLet (T.getD (i - 1) 0) = true) then a + 1 else a)
def wds (T : BL) : Int32 := wcF T T.length 0 0
def knF (M : List (BL × BL)) (X : BL) : Nat → Nat → Int32
  | 0, _ => -1
  | d + 1, i => if (M.getD i ([], [])).1 = X then nI i else knF M X d (i + 1)
def erF (S : SST) (i : Nat) : Nat → Nat → Bool
  | 0, _ => false
  | d + 1, k => lkB S i k || erF S i d (k + 1)
def ulF (S : SST) : Nat → Nat → Int32 → Int32
  | 0, _, a => a
  | d + 1, i, a => ulF S d (i + 1) (if erF S i i 0 = true then a else a + 1)
def awF (S : SST) : Nat → Nat → Int32 → Int32
  | 0, _, a => a
  | d + 1, i, a => awF S d (i + 1) (a + wds (nowOf S i))
def lgF (S : SST) : Nat → Nat → Int32 → Int32
  | 0, _, a => a
  | d + 1, i, a => lgF S d (i + 1) (jMax a (nI (pX (pOf S i)).length))
def biF (S : SST) : Nat → Nat → Int32 → Int32
  | 0, _, a => a
  | d + 1, i, a => biF S d (i + 1) (a + (nI (pOf S i).2.1 - nI (pOf S i).1))
def pieA (S : SST) (p : Nat) (w : Int32) : Int32 := if w = 0 then nI (pOf S p).1 else if w = 1 then nI (pOf S p).2.1 else if w = 2 then nI (pX (pOf S p)).length else if w = 3 then nI (nowOf S p).length else if w = 4 then bI (S.2.2.1 p).isSome else if w = 5 then nI (lkN S p (pcF S).length) else if w = 6 then wds (nowOf S p) else if w = 7 then knF S.2.2.2 (pX (pOf S p)) S.2.2.2.length 0 else if w = 8 then nI (bsz S.2.1 S.1 S.2.2.1 (pcF S) p) else nI (bbeg S.2.1 S.1 S.2.2.1 (pcF S) p)
def sPie (V : SPV) (p w : Int32) : ANS := if inP V.2.1 p then (if 0 ≤ w.toInt ∧ w.toInt ≤ 9 then (.inl (pieA V.2.1 p.toInt.toNat w), V) else (.inr eN, V)) else (.inr eI, V)
def cntA (V : SPV) (w : Int32) : Int32 := if w = 0 then nI V.2.1.1.length else if w = 1 then V.2.1.2.1.1 else if w = 2 then V.2.1.2.1.2.1 else if w = 3 then nI (pcF V.2.1).length else if w = 4 then nI (tcnt V.2.1.2.2.1 40) else if w = 5 then nI (bltS V.2.1).length else if w = 6 then nI V.2.1.1.length - biF V.2.1 (pcF V.2.1).length 0 0 else if w = 7 then V.2.1.2.1.2.2.1 else if w = 8 then nI V.2.1.2.1.2.2.2.1 else if w = 9 then nI V.2.1.2.1.2.2.2.2.length else if w = 10 then ulF V.2.1 (pcF V.2.1).length 0 0 else if w = 11 then awF V.2.1 (pcF V.2.1).length 0 0 else if w = 12 then nI V.2.1.2.2.2.length else if w = 13 then lgF V.2.1 (pcF V.2.1).length 0 0 else if w = 14 then nI V.2.2.1.length else -1
def sCnt (V : SPV) (w : Int32) : Int32 × SPV := (cntA V w, V)
section PIK
variable {f : AH} {n : Nat} {V : SPV} {T R : BL} {j b c o : Nat}
theorem f_wds5 (hr : isRw f j b c R) (hT : ∀ k, k < T.length → R.getD (o + k) 0 = T.getD k 0) (ho : o + T.length ≤ R.length) : PQ (mX5_countWords j (nI o) (nI T.length) f n) (fun y => y = (wds T, f, n)) := by
  have l1 := rw_6 hr
  have key : ∀ (d e i : Nat) (a : Int32) (v : Bool), i + e = T.length → v = (decide (0 < i) && isLet (T.getD (i - 1) 0)) → PQ (mX5_countWords_l8 d j (nI o) (nI T.length) a (bI v) (nI (o + i)) f n) (fun y => y = (wcF T e i a, f, n)) := by
    intro d
    induction d with
    | zero => intro _ _ _ _ _ _; exact pq_none
    | succ d ih =>
      intro e i a v hi hv
      unfold mX5_countWords_l8 mX5_countWords_b40
      rw [nI_add]
      refine pq_le (nI_toInt (by omega)) (nI_toInt (by omega)) (fun q => ?_) (fun q => ?_)
      · obtain rfl : e = 0 := by omega
        exact pq_ret rfl
      · obtain ⟨e, rfl⟩ : ∃ e', e = e' + 1 := ⟨e - 1, by omega⟩
        refine pq_ck (pq_is (f_getN hr (i := o + i) (by omega)) (pq_is (f_isLetter (f := f) (n := n)) ?_))
        rw [hT i (by omega)]
        unfold wcF
        have nx : ∀ z : Int32, (if isLet (T.getD i 0) = true ∧ ¬ (0 < i ∧ isLet (T.getD (i - 1) 0) = true) then a + 1 else a) = z → PQ (mX5_countWords_l8 d j (nI o) (nI T.length) z (bI (isLet (T.getD i 0))) (nI (o + i) + 1) f n) (fun y => y = (wcF T e (i + 1) (if isLet (T.getD i 0) = true ∧ ¬ (0 < i ∧ isLet (T.getD (i - 1) 0) = true) then a + 1 else a), f, n)) := fun z hz => by
          rw [hz, nI_1]
          exact ih e (i + 1) z (isLet (T.getD i 0)) (by omega) (by rw [decide_eq_true (Nat.succ_pos i), Bool.true_and, Nat.add_sub_cancel])
        have hv2 : v = true ↔ (0 < i ∧ isLet (T.getD (i - 1) 0) = true) := by rw [hv, Bool.and_eq_true, decide_eq_true_iff]
        refine pq_eq (fun q2 => ?_) (fun q2 => pq_eq (fun q3 => ?_) (fun q3 => ?_))
        · exact nx _ (if_neg (fun x => by rw [bI_0.mp q2] at x; exact Bool.false_ne_true x.1))
        · exact nx _ (if_pos ⟨by
            cases hb : isLet (T.getD i 0)
            · exact absurd (bI_0.mpr hb) q2
            · rfl, fun x => by rw [hv2.mpr x] at q3; exact absurd q3 (by decide)⟩)
        · exact nx _ (if_neg (fun x => q3 (bI_0.mpr (by
            cases hb : v
            · rfl
            · exact absurd (hv2.mp hb) x.2))))
  unfold mX5_countWords wds
  exact key rFU _ 0 0 false (Nat.zero_add _) rfl
theorem f_wds8 {S : SST} {i : Nat} {hi ag pc wn fp : Int32} (hp : f 0 = some (.inr (8, pfL hi ag pc wn fp))) (hK : KO f n S) (hi' : i < (pcF S).length) : PQ (mX8_countWords 0 (nI i) (some (75 + i)) f n) (fun y => y = (wds (nowOf S i), f, n)) := by
  have h40 : (pcF S).length ≤ 40 := pcs_40
  obtain ⟨x11, ep⟩ := KO_BD hK hi'
  unfold mX8_countWords mX8_countWords_b43
  refine pq_gR hp rfl (pq_sb (pq_ck (pq_call (f_toldForS (f := f) (n := n) (v := nI i) hK.1 (by rw [nI_toInt (by omega)]; omega)) (fun y hy => ?_))))
  obtain ⟨w, rfl, hwO⟩ := hy
  rw [nI_tn (by omega)] at hwO
  cases ht : S.2.2.1 i with
  | none =>
    rw [ht] at hwO
    have hwO : w = none := hwO
    subst hwO
    have hT := hK.2.1.1.2.1
    rw [now_n ht]
    exact pq_sb (pq_oNn (pq_gR hp rfl (pq_sb (pq_gR hK.2.1.1.1.1 rfl (pq_sb (pq_gI ep rfl (pq_gI ep rfl (pq_sb (pq_ck (pq_is (f_wds5 (T := pX (pOf S i)) (o := tAt (pcF S) i) hT (fun k hk => tx_gd hi' hk) (tx_le hi')) (pq_ret rfl)))))))))))
  | some t =>
    rw [ht] at hwO
    obtain ⟨j, rfl, ⟨b, c, hr, -⟩, h60⟩ := hwO
    rw [now_s ht]
    exact pq_sb (pq_oNs (pq_ck (pq_is (f_size hr) (pq_ck (pq_is (f_wds5 (T := t) (o := 0) hr (fun k hk => by rw [Nat.zero_add]) (by omega)) (pq_ret rfl))))))
theorem f_known {S : SST} {p : Nat} {hi ag pc wn fp : Int32} (hp : f 0 = some (.inr (8, pfL hi ag pc wn fp))) (hK : KO f n S) (hS : SV S) (hpp : p < (pcF S).length) : PQ (mX8_knownPair 0 (some (75 + p)) f n) (fun y => y = (knF S.2.2.2 (pX (pOf S p)) S.2.2.2.length 0, f, n)) := by
  have hm12 : S.2.2.2.length ≤ 12 := hS.2.2.1
  obtain ⟨⟨fr, la, e3, -, full, hc, hf⟩, -⟩ := id hK.1
  obtain ⟨x11, ep⟩ := KO_BD hK hpp
  have hT := hK.2.1.1.2.1
  have l6 := rw_6 hT
  have l1 : tAt (pcF S) p + (pX (pOf S p)).length ≤ (txs (pcF S)).length := tx_le hpp
  have hg : ∀ k, k < S.2.2.2.length → full.getD k ([], []) = S.2.2.2.getD k ([], []) := fun k hk => by rw [hf]; exact (gd_takeP (by omega)).symm
  have hfl : S.2.2.2.length ≤ full.length := by rw [hf, List.length_take]; omega
  have key : ∀ (d e i : Nat) (r : List (BL × BL)) (w : Option Nat), i + e = S.2.2.2.length → PCH f n r w → (∀ k, i + k < S.2.2.2.length → k < r.length ∧ r.getD k ([], []) = S.2.2.2.getD (i + k) ([], [])) → PQ (mX8_knownPair_l10 d 0 (some (75 + p)) w (nI i) f n) (fun y => y = (knF S.2.2.2 (pX (pOf S p)) e i, f, n)) := by
    intro d
    induction d with
    | zero => intro _ _ _ _ _ _ _; exact pq_none
    | succ d ih =>
      intro e i r w hi hcc hr
      unfold mX8_knownPair_l10 mX8_knownPair_b78 mX8_knownPair_b67
      refine pq_gR hp rfl (pq_sb (pq_gI e3 rfl (pq_le (nI_toInt (by omega)) (nI_toInt (by omega)) (fun q => ?_) (fun q => ?_))))
      · obtain rfl : e = 0 := by omega
        exact pq_ret rfl
      · obtain ⟨e, rfl⟩ : ∃ e', e = e' + 1 := ⟨e - 1, by omega⟩
        have h0 := hr 0 (by omega)
        cases r with
        | nil => exact absurd h0.1 (Nat.not_lt_zero _)
        | cons x r =>
          obtain ⟨j, jt, jd, older, rfl, -, ej, ⟨b1, c1, h1, -⟩, -, hrr⟩ := hcc
          have hx : x = S.2.2.2.getD i ([], []) := h0.2
          have hx6 := rw_6 h1
          have nxt : PQ ((gR f j 2 2).bind fun x2 => mX8_knownPair_l10 d 0 (some (75 + p)) x2 (nI i + (1 : Int32)) f n) (fun y => y = (knF S.2.2.2 (pX (pOf S p)) e (i + 1), f, n)) := by
            refine pq_gRw ej rfl ?_
            rw [nI_1]
            exact ih e (i + 1) r older (by omega) hrr (fun k hk => by
              have hz := hr (k + 1) (by omega)
              rw [show i + (k + 1) = i + 1 + k by omega] at hz
              exact ⟨Nat.lt_of_succ_lt_succ hz.1, hz.2⟩)
          refine pq_oNs (pq_gR ej rfl (pq_sb (pq_ck (pq_is (f_size h1) (pq_sb (pq_gI ep rfl (pq_eqi (nI_toInt (by omega)) (nI_toInt (by omega)) (fun q2 => ?_) (fun q2 => ?_))))))))
          · have e9 := sm_dec (L := x.1) (M := txs (pcF S)) (X := x.1) (Y := pX (pOf S p)) (a := 0) (b := tAt (pcF S) p) (m := (pX (pOf S p)).length) (by omega) (fun z hz => by rw [Nat.zero_add]) (fun z hz => tx_gd hpp hz) rfl
            refine pq_gR ej rfl (pq_gR hp rfl (pq_sb (pq_gR hK.2.1.1.1.1 rfl (pq_gI ep rfl (pq_gI ep rfl (pq_sb (pq_ck (pq_is (f_same (f := f) (n := n) (a := 0) h1 hT (by omega) l1) ?_))))))))
            rw [e9]
            unfold knF
            rw [← hx]
            refine pq_eq (fun q3 => ?_) (fun q3 => ?_)
            · rw [if_neg (decide_eq_false_iff_not.mp (bI_0.mp q3))]
              exact pq_sb nxt
            · rw [if_pos (show x.1 = pX (pOf S p) from by
                by_cases hq : x.1 = pX (pOf S p)
                · exact hq
                · exact absurd (bI_0.mpr (decide_eq_false hq)) q3)]
              exact pq_ret rfl
          · unfold knF
            rw [← hx, if_neg (fun hq => q2 (by rw [hq]))]
            exact pq_sb nxt
  unfold mX8_knownPair
  exact pq_gR hp rfl (pq_sb (pq_gRw e3 rfl (key rFU _ 0 full la (Nat.zero_add _) hc (fun k hk => ⟨by omega, by rw [Nat.zero_add]; exact hg k (by omega)⟩))))
end PIK
