/-! found: which pieces hold the word -/
def swB (T : BL) (a : Nat) (W : BL) : Nat → Nat → Bool
  | 0, _ => true
  | d + 1, i => decide (low (T.getD (a + i) 0) = W.getD i 0) && swB T a W d (i + 1)
def hwB (T W : BL) : Nat → Nat → Bool
  | 0, _ => false
  | d + 1, i => swB T i W W.length 0 || hwB T W d (i + 1)
def hwd (T W : BL) : Bool := hwB T W (T.length + 1 - W.length) 0
def fnB (S : SST) (W : BL) : Nat → Nat → Int64 → Int64
  | 0, _, a => a
  | d + 1, i, a => if hwd (nowOf S i) W = true then fnB S W d (i + 1) (a ||| ((1 : Int64) <<< ((nI i).toInt64 &&& 63))) else fnB S W d (i + 1) a
def sFnd (V : SPV) : (Int64 ⊕ String) × SPV := if isWd V.1 = true then (.inl (fnB V.2.1 V.1 (pcF V.2.1).length 0 0), noT V) else (.inr eA, noT V)
def COG {α : Type} (s : (α ⊕ String) × SPV) (y : (α ⊕ String) × HpN) : Prop := ∃ f' n', y = (s.1, f', n') ∧ RC f' n' s.2
def RAG {α : Type} (s : (α ⊕ String) × SPV) (cd : String → Int32) (y : α × RS9) : Prop := RR9 y.2 s.2 ∧ match s.1 with
  | .inl v => y.1 = v ∧ y.2.1 0 = 0
  | .inr E => y.2.1 0 = cd E
section OPG
variable {α : Type} {F : AH} {n : Nat} {σ : RS9}
theorem op_twg {cv : α → Int64} {o : Option ((α ⊕ String) × HpN)} {o' : Option (α × RS9)} {xs : String → Prop} {S : SPV → (α ⊕ String) × SPV} {cd : String → Int32} (hI : INW F n σ) (h : ∃ r r' g0, o = some r ∧ (∀ E : String, r.1 = .inr E → xs E) ∧ r.2.1 223 = oCell g0 ∧ o' = some r' ∧ ∀ g : Nat → Int64, va_up r.2.1 223 (oCell g) = rHm (va_up r.2.1 223 (oCell g)) σ ∧ ∀ n', r.2.2 ≤ n' → INV (rHm (va_up r.2.1 223 (oCell g)) r'.2) n' r'.2) (hk : ∀ V, RC F n V → PQ o (COG (S V))) (hr : ∀ V, RR9 σ V → SV V.2.1 → PQ o' (RAG (S V) cd)) (hx : ∀ E, xs E → cd E ≠ 0) : ∃ r r' g0, o = some r ∧ (∀ E : String, r.1 = .inr E → xs E) ∧ r.2.1 223 = oCell g0 ∧ o' = some r' ∧ CMPT cv cd r.1 (cv r'.1) (r'.2.1 0) ∧ ∀ g : Nat → Int64, va_up r.2.1 223 (oCell g) = rHm (va_up r.2.1 223 (oCell g)) σ ∧ ∀ n', r.2.2 ≤ n' → INW (rHm (va_up r.2.1 223 (oCell g)) r'.2) n' r'.2 := by
  have cg : ∀ {s : (α ⊕ String) × SPV} {y : (α ⊕ String) × HpN}, COG s y → RC y.2.1 y.2.2 s.2 ∧ y.1 = s.1 := fun h => by
    obtain ⟨f', n', rfl, h1⟩ := h
    exact ⟨h1, rfl⟩
  obtain ⟨r, r', g0, e, hE, hg, e', h1⟩ := op_tf (S := fun V => (S V).2) hI h (fun V hC => pq_tail (hk V hC) (fun y hy => (cg hy).1)) (fun V hR hS => pq_tail (hr V hR hS) (fun y hy => hy.1))
  obtain ⟨-, V, hC, hR⟩ := hI
  refine ⟨r, r', g0, e, hE, hg, e', ?_, h1⟩
  have k := (cg (hk V hC r e)).2
  have q := (hr V hR (RC_SV hC) r' e').2
  cases hs : (S V).1 with
  | inl v =>
    rw [hs] at q k
    rw [k]
    exact ⟨q.2, by rw [q.1]⟩
  | inr E =>
    rw [hs] at q k
    have k2 := hE E k
    rw [k]
    exact ⟨q, hx E k2⟩
end OPG
section FNK
variable {f : AH} {n : Nat} {V : SPV} {T W R : BL} {j b c j1 b1 c1 o : Nat}
theorem f_hasSm {a : Nat} (hr : isRw f j b c R) (hw : isRw f j1 b1 c1 W) (hT : ∀ k, k < T.length → R.getD (o + k) 0 = T.getD k 0) (ho : o + T.length ≤ R.length) (ha : a + W.length ≤ T.length) : ∀ d e i, i + e = W.length → PQ (mX5_hasSmall_l2 d j (nI (o + a)) (some j1) (nI i) f n) (fun y => y = (bI (swB T a W e i), f, n)) := by
  have l1 := rw_6 hr
  have l2 := rw_6 hw
  intro d
  induction d with
  | zero => intro _ _ _; exact pq_none
  | succ d ih =>
    intro e i hi
    unfold mX5_hasSmall_l2
    refine pq_sb (pq_ck (pq_is (f_size hw) (pq_le (nI_toInt (by omega)) (nI_toInt (by omega)) (fun q => ?_) (fun q => ?_))))
    · obtain rfl : e = 0 := by omega
      exact pq_ck (pq_ret rfl)
    · obtain ⟨e, rfl⟩ : ∃ e', e = e' + 1 := ⟨e - 1, by omega⟩
      have eg : R.getD (o + a + i) 0 = T.getD (a + i) 0 := by rw [Nat.add_assoc]; exact hT _ (by omega)
      have es : swB T a W (e + 1) i = (decide (low (T.getD (a + i) 0) = W.getD i 0) && swB T a W e (i + 1)) := rfl
      rw [nI_add]
      refine pq_ck (pq_is (f_getN hr (i := o + a + i) (by omega)) (pq_is (f_small (f := f) (n := n)) (pq_ck (pq_is (f_getN hw (i := i) (by omega)) ?_))))
      rw [eg, es]
      refine pq_eq (fun q2 => ?_) (fun q2 => ?_)
      · rw [decide_eq_true q2, Bool.true_and, nI_1]
        exact ih e (i + 1) (by omega)
      · rw [decide_eq_false q2, Bool.false_and]
        exact pq_ck (pq_ret rfl)
theorem f_hasWd5 (hr : isRw f j b c R) (hw : isRw f j1 b1 c1 W) (hT : ∀ k, k < T.length → R.getD (o + k) 0 = T.getD k 0) (ho : o + T.length ≤ R.length) : PQ (mX5_hasWord j (nI o) (nI T.length) (some j1) f n) (fun y => y = (bI (hwd T W), f, n)) := by
  have l1 := rw_6 hr
  have l2 := rw_6 hw
  have key : ∀ d e i, i ≤ T.length + 1 → e = T.length + 1 - W.length - i → PQ (mX5_hasWord_l3 d j (nI o) (nI T.length) (some j1) (nI (o + i)) f n) (fun y => y = (bI (hwB T W e i), f, n)) := by
    intro d
    induction d with
    | zero => intro _ _ _ _; exact pq_none
    | succ d ih =>
      intro e i hi he
      unfold mX5_hasWord_l3
      have e1 : ((nI o + nI T.length) - nI W.length).toInt = (o : Int) + T.length - W.length := i_sub (i_add (nI_toInt (by omega)) (nI_toInt (by omega)) (by omega)) (nI_toInt (by omega)) (by omega)
      refine pq_sb (pq_ck (pq_is (f_size hw) (pq_lt e1 (nI_toInt (by omega)) (fun q => ?_) (fun q => ?_))))
      · obtain rfl : e = 0 := by omega
        exact pq_ck (pq_ret rfl)
      · obtain ⟨e, rfl⟩ : ∃ e', e = e' + 1 := ⟨e - 1, by omega⟩
        have es : hwB T W (e + 1) i = (swB T i W W.length 0 || hwB T W e (i + 1)) := rfl
        refine pq_ck (pq_is (f_hasSm (f := f) (n := n) hr hw hT ho (a := i) (by omega) rFU W.length 0 (Nat.zero_add _)) ?_)
        rw [es]
        cases hb : swB T i W W.length 0 with
        | false =>
          rw [Bool.false_or]
          refine pq_t rfl ?_
          rw [nI_1]
          exact ih e (i + 1) (by omega) (by omega)
        | true =>
          exact pq_f (show ¬ (1 : Int32) = 0 by decide) (pq_ck (pq_ret rfl))
  unfold mX5_hasWord hwd
  exact key rFU _ 0 (by omega) rfl
theorem f_cg75 {S : SST} {i : Nat} (hK : KO f n S) (hi : i < (pcF S).length) : PQ (mX1_get 59 (nI i) f n) (fun y => y = (some (75 + i), f, n)) := pq_tail (f_cgetN hK.2.1.1.1 hi) (fun y hy => by rw [hy, show 59 + 16 + i = 75 + i by omega])
theorem f_hasWd8 {S : SST} {i jw : Nat} {hi ag pc wn fp : Int32} (hp : f 0 = some (.inr (8, pfL hi ag pc wn fp))) (hK : KO f n S) (hw : isRw f jw b1 c1 W) (hi' : i < (pcF S).length) : PQ (mX8_hasWord 0 (nI i) (some jw) f n) (fun y => y = (bI (hwd (nowOf S i) W), f, n)) := by
  have h40 : (pcF S).length ≤ 40 := pcs_40
  obtain ⟨x11, ep⟩ := KO_BD hK hi'
  have e64 : ∀ x : Int32, x = bI (hwd (nowOf S i) W) → PQ (mX8_hasWord_b64 x f n) (fun y => y = (bI (hwd (nowOf S i) W), f, n)) := fun x hx => pq_ck (pq_ret (by rw [hx]))
  unfold mX8_hasWord
  refine pq_gR hp rfl (pq_sb (pq_ck (pq_is (f_cg75 hK hi') (pq_sb (pq_oNs (pq_gR hp rfl (pq_sb (pq_ck (pq_call (f_toldForS (f := f) (n := n) (v := nI i) hK.1 (by rw [nI_toInt (by omega)]; omega)) (fun y hy => ?_))))))))))
  obtain ⟨w, rfl, hwO⟩ := hy
  rw [nI_tn (by omega)] at hwO
  cases ht : S.2.2.1 i with
  | none =>
    rw [ht] at hwO
    have hwO : w = none := hwO
    subst hwO
    have hT := hK.2.1.1.2.1
    refine pq_sb (pq_oNn (pq_gR hp rfl (pq_sb (pq_gR hK.2.1.1.1.1 rfl (pq_gI ep rfl (pq_gI ep rfl (pq_sb (pq_ck (pq_is (f_hasWd5 (T := pX (pOf S i)) (o := tAt (pcF S) i) hT hw (fun k hk => tx_gd hi' hk) (tx_le hi')) (e64 _ ?_))))))))))
    rw [now_n ht]
  | some t =>
    rw [ht] at hwO
    obtain ⟨j, rfl, ⟨b, c, hr, -⟩, h60⟩ := hwO
    refine pq_sb (pq_oNs (pq_ck (pq_is (f_size hr) (pq_ck (pq_is (f_hasWd5 (T := t) (o := 0) hr hw (fun k hk => by rw [Nat.zero_add]) (by omega)) (e64 _ ?_))))))
    rw [now_s ht]
theorem k_fnd (h : RC f n V) : PQ (mX8_found 0 f n) (COG (sFnd V)) := by
  unfold mX8_found sFnd
  refine pq_ck (pq_call (f_takeWord h) (fun y hy => ?_))
  obtain ⟨f1, n1, h1, hc⟩ := hy
  rcases hc with ⟨hw, j, rfl, ⟨b, c, r, -⟩⟩ | ⟨hw, rfl⟩
  · rw [if_pos hw]
    obtain ⟨ag, hp⟩ := RC_p h1
    have hK : KO f1 n1 V.2.1 := h1.2.2.2.1.1
    have h40 : (pcF V.2.1).length ≤ 40 := pcs_40
    have key : ∀ (d e i : Nat) (a : Int64), i + e = (pcF V.2.1).length → PQ (mX8_found_l24 d 0 (some j) a (nI i) f1 n1) (COG (.inl (fnB V.2.1 V.1 e i a), noT V)) := by
      intro d
      induction d with
      | zero => intro _ _ _ _; exact pq_none
      | succ d ih =>
        intro e i a hi
        unfold mX8_found_l24 mX8_found_b53
        refine pq_gR hp rfl (pq_sb (pq_ck (pq_is (f_csize hK.2.1.1.1) (pq_le (nI_toInt (by omega)) (nI_toInt (by omega)) (fun q => ?_) (fun q => ?_)))))
        · obtain rfl : e = 0 := by omega
          exact pq_ret ⟨f1, n1, rfl, h1⟩
        · obtain ⟨e, rfl⟩ : ∃ e', e = e' + 1 := ⟨e - 1, by omega⟩
          refine pq_ck (pq_is (f_hasWd8 (f := f1) (n := n1) hp hK r (show i < (pcF V.2.1).length by omega)) ?_)
          unfold fnB
          cases hb : hwd (nowOf V.2.1 i) V.1 with
          | false =>
            rw [if_neg Bool.false_ne_true]
            refine pq_t rfl ?_
            rw [nI_1]; exact ih e (i + 1) a (by omega)
          | true =>
            rw [if_pos rfl]
            refine pq_f (show ¬ (1 : Int32) = 0 by decide) ?_
            rw [nI_1]; exact ih e (i + 1) _ (by omega)
    exact pq_sb (pq_oNs (key rFU _ 0 0 (Nat.zero_add _)))
  · rw [if_neg (by rw [hw]; exact Bool.false_ne_true)]
    exact pq_sb (pq_oNn (pq_ret ⟨f1, n1, rfl, h1⟩))
end FNK
section FNR
variable {σ : RS9} {V : SPV} {T W : BL}
theorem if_01g {β : Type} {b : Bool} {A B : Option β} {Q : β → Prop} (h1 : b = false → PQ A Q) (h2 : b = true → PQ B Q) : PQ (if bI b = 0 then A else B) Q := by
  cases b with
  | false => exact pq_t rfl (h1 rfl)
  | true => exact pq_f (show ¬ (1 : Int32) = 0 by decide) (h2 rfl)
theorem isWd_le8 (h : isWd T = true) : T.length ≤ 8 := by
  unfold isWd at h
  rw [Bool.and_eq_true, Bool.and_eq_true] at h
  exact of_decide_eq_true h.1.2
theorem r_hasSm {p a : Nat} {rec2 : Int32 → Int32 → Int32 → RS9 → Option (Int32 × RS9)} {Q : Int32 × RS9 → Prop} (hB : ∀ k, k < T.length → PQ (mX9_nowByte (nI p) (nI k) σ) (fun y => y = (T.getD k 0, σ))) (h8 : RLs σ 8 W) (hT : T.length ≤ 600) (ha : a + W.length ≤ T.length) (h1 : swB T a W W.length 0 = true → Q (1, σ)) (h0 : swB T a W W.length 0 = false → PQ (rec2 (nI p) (nI W.length) (nI (a + 1)) σ) Q) : PQ (mX9_hasWord_l19 rec2 rFU (nI p) (nI W.length) (nI a) 1 0 σ) Q := by
  have k0 : PQ (rec2 (nI p) (nI W.length) (nI (a + 1)) σ) Q → ∀ d i, PQ (mX9_hasWord_l19 rec2 d (nI p) (nI W.length) (nI a) 0 i σ) Q := by
    intro hh d i
    cases d with
    | zero => exact pq_none
    | succ d =>
      unfold mX9_hasWord_l19 mX9_hasWord_b86
      rw [nI_1]
      exact pq_ite (pq_t rfl hh) (pq_t rfl (pq_t rfl hh))
  have key : ∀ d e i, i + e = W.length → (swB T a W e i = true → Q (1, σ)) → (swB T a W e i = false → PQ (rec2 (nI p) (nI W.length) (nI (a + 1)) σ) Q) → PQ (mX9_hasWord_l19 rec2 d (nI p) (nI W.length) (nI a) 1 (nI i) σ) Q := by
    intro d
    induction d with
    | zero => intro _ _ _ _ _; exact pq_none
    | succ d ih =>
      intro e i hi g1 g0
      unfold mX9_hasWord_l19
      refine pq_le (nI_toInt (by omega)) (nI_toInt (by omega)) (fun q => ?_) (fun q => ?_)
      · obtain rfl : e = 0 := by omega
        unfold mX9_hasWord_b86
        exact pq_f (show ¬ (1 : Int32) = 0 by decide) (pq_ck (pq_ret (g1 rfl)))
      · obtain ⟨e, rfl⟩ : ∃ e', e = e' + 1 := ⟨e - 1, by omega⟩
        have es : swB T a W (e + 1) i = (decide (low (T.getD (a + i) 0) = W.getD i 0) && swB T a W e (i + 1)) := rfl
        rw [es] at g1 g0
        have e8 : rGa σ 8 (nI i) = W.getD i 0 := (rd_nI (by omega)).trans (h8 i (by omega))
        have b70 : ∀ s : Int32, s = low (T.getD (a + i) 0) → PQ (mX9_hasWord_b70 rec2 (fun v1 v2 v3 v4 v5 σ => mX9_hasWord_l19 rec2 d v1 v2 v3 v4 v5 σ) (nI p) (nI W.length) (nI a) (nI i) (W.getD i 0) s σ) Q := fun s hs => by
          subst hs
          unfold mX9_hasWord_b70 mX9_hasWord_b78
          refine pq_eq (fun q2 => ?_) (fun q2 => ?_)
          · rw [decide_eq_true q2.symm, Bool.true_and] at g1 g0
            rw [nI_1]
            exact ih e (i + 1) (by omega) g1 g0
          · rw [decide_eq_false (fun x => q2 x.symm), Bool.false_and] at g0
            exact k0 (g0 rfl) d _
        refine pq_f (show ¬ (1 : Int32) = 0 by decide) ?_
        rw [nI_add]
        refine pq_isr (hB (a + i) (by omega)) (pq_ck (pq_isr r_isIn ?_))
        rw [kt_65, kt_90, e8]
        refine if_01 (fun q2 => b70 _ ?_) (fun q2 => b70 _ ?_)
        · exact (if_neg (of_decide_eq_false q2)).symm
        · exact (if_pos (of_decide_eq_true q2)).symm
  exact key rFU W.length 0 (Nat.zero_add _) h1 h0
theorem r_hasWd {p : Nat} (h : RR9 σ V) (h8 : RLs σ 8 W) (hW : W.length ≤ 8) (hp : p < (pcF V.2.1).length) : PQ (mX9_hasWord (nI p) (nI W.length) σ) (fun y => y = (bI (hwd (nowOf V.2.1 p) W), σ)) := by
  have h40 : (pcF V.2.1).length ≤ 40 := pcs_40
  have hl : (nowOf V.2.1 p).length ≤ 600 := by
    cases ht : V.2.1.2.2.1 p with
    | none => rw [now_n ht]; have := tx_le hp; have := h.2.1.2.2.1.2.1; show (pX ((pcF V.2.1).getD p pc0)).length ≤ 600; omega
    | some t => rw [now_s ht]; have := ((h.2.1.1.2.2.1 p (by omega)).2 t ht).1; omega
  have hB : ∀ k, k < (nowOf V.2.1 p).length → PQ (mX9_nowByte (nI p) (nI k) σ) (fun y => y = ((nowOf V.2.1 p).getD k 0, σ)) := fun k hk => pq_tail (r_nowByte h.2.1.1.2.2.1 h.2.1.2 hp (by rw [nw_now]; exact hk)) (fun y hy => by rw [hy, nw_now])
  have hM : PQ (mX9_nowMany (nI p) σ) (fun y => y = (nI (nowOf V.2.1 p).length, σ)) := pq_tail (r_nowMany h.2.1.1.2.2.1 h.2.1.2 hp) (fun y hy => by rw [hy, nw_now])
  unfold hwd
  generalize nowOf V.2.1 p = T at hl hB hM ⊢
  have key : ∀ d e a, a ≤ T.length + 1 → e = T.length + 1 - W.length - a → PQ (mX9_hasWord_l2 d (nI p) (nI W.length) (nI a) σ) (fun y => y = (bI (hwB T W e a), σ)) := by
    intro d
    induction d with
    | zero => intro _ _ _ _; exact pq_none
    | succ d ih =>
      intro e a ha he
      unfold mX9_hasWord_l2
      rw [nI_add]
      refine pq_isr hM (pq_lt (nI_toInt (by omega)) (nI_toInt (by omega)) (fun q => ?_) (fun q => ?_))
      · obtain rfl : e = 0 := by omega
        exact pq_ck (pq_ret rfl)
      · obtain ⟨e, rfl⟩ : ∃ e', e = e' + 1 := ⟨e - 1, by omega⟩
        have es : hwB T W (e + 1) a = (swB T a W W.length 0 || hwB T W e (a + 1)) := rfl
        rw [es]
        refine r_hasSm (p := p) (a := a) hB h8 hl (by omega) (fun hb => ?_) (fun hb => ?_)
        · rw [hb]; rfl
        · rw [hb, Bool.false_or]; exact ih e (a + 1) (by omega) (by omega)
  unfold mX9_hasWord
  exact key rFU _ 0 (by omega) rfl
theorem r_fnd (h : RR9 σ V) : PQ (mX9_found σ) (RAG (sFnd V) wc_L_found) := by
  have h1 := RR_tape0 h
  unfold mX9_found sFnd
  refine pq_isr (r_took h) (pq_isr (r_isWord (T := V.1) h.1.2.2 h.1.2.1) ?_)
  unfold mX9_found_b19
  refine if_01g (fun q => ?_) (fun q => ?_)
  · rw [if_neg (show ¬ isWd V.1 = true by rw [q]; exact Bool.false_ne_true)]
    exact pq_f (show ¬ (1 : Int32) ≤ 0 by decide) (pq_ret ⟨RR_f0 h1, sf_eq⟩)
  · rw [if_pos q]
    refine pq_t (show (0 : Int32) ≤ 0 by decide) ?_
    have h0 := RR_f0 (x := 0) h1
    have hz : (rSf (rSf σ 9 0) 0 0).1 0 = 0 := sf_eq
    have h8 : RLs (rSf (rSf σ 9 0) 0 0) 8 V.1 := h.1.2.2
    have hW : V.1.length ≤ 8 := isWd_le8 q
    generalize rSf (rSf σ 9 0) 0 0 = s at h0 hz h8
    obtain ⟨h33, h40⟩ := RM_33 h0.2.1
    have h33 : s.1 33 = nI (pcF V.2.1).length := h33
    have h40 : (pcF V.2.1).length ≤ 40 := h40
    have key : ∀ (d e i : Nat) (a : Int64), i + e = (pcF V.2.1).length → PQ (mX9_found_l36 d (nI V.1.length) a (nI i) s) (RAG (.inl (fnB V.2.1 V.1 e i a), noT V) wc_L_found) := by
      intro d
      induction d with
      | zero => intro _ _ _ _; exact pq_none
      | succ d ih =>
        intro e i a hi
        unfold mX9_found_l36 mX9_found_b64
        rw [h33]
        refine pq_le (nI_toInt (by omega)) (nI_toInt (by omega)) (fun q => ?_) (fun q => ?_)
        · obtain rfl : e = 0 := by omega
          exact pq_ret ⟨h0, rfl, hz⟩
        · obtain ⟨e, rfl⟩ : ∃ e', e = e' + 1 := ⟨e - 1, by omega⟩
          refine pq_isr (a := bI (hwd (nowOf V.2.1 i) V.1)) (r_hasWd (V := noT V) h0 h8 hW (show i < (pcF (noT V).2.1).length from (by omega : i < (pcF V.2.1).length))) ?_
          unfold fnB
          refine if_01g (fun q2 => ?_) (fun q2 => ?_)
          · rw [if_neg (by rw [q2]; exact Bool.false_ne_true), nI_1, Int64.or_zero]
            exact ih e (i + 1) a (by omega)
          · rw [if_pos q2, nI_1]
            exact ih e (i + 1) _ (by omega)
    exact key rFU _ 0 0 (Nat.zero_add _)
end FNR
