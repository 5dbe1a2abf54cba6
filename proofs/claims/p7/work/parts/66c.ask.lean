/-! questions with their answers: one byte, one number -/
def sAt (V : SPV) (i w : Int32) : Int32 × SPV := (gt1 (if w = 0 then V.2.1.1 else bltS V.2.1) i, V)
def sMem (V : SPV) (a b c : Int32) : Int32 × SPV := (if 0 ≤ a.toInt ∧ a.toInt < (V.2.1.2.2.2.length : Int) then gt1 (if b = 0 then (V.2.1.2.2.2.getD a.toInt.toNat ([], [])).1 else (V.2.1.2.2.2.getD a.toInt.toNat ([], [])).2) c else -1, V)
def sOct (V : SPV) (p i w : Int32) : ANS := if inP V.2.1 p then (.inl (gt1 (if w = 0 then pX (pOf V.2.1 p.toInt.toNat) else nowOf V.2.1 p.toInt.toNat) i), V) else (.inr eI, V)
def ogA (S : SST) (p : Nat) (i : Int32) : Int32 := if 0 ≤ i.toInt ∧ i.toInt < ((pX (pOf S p)).length : Int) then (ogs (pcF S)).getD (tAt (pcF S) p + i.toInt.toNat) 0 else -1
def sOrg (V : SPV) (p i : Int32) : ANS := if inP V.2.1 p then (.inl (ogA V.2.1 p.toInt.toNat i), V) else (.inr eI, V)
def keA (S : SST) (p : Nat) (w : Int32) : Int32 := if S.2.1.1 = 0 then (if w = 0 then nI (pOf S p).2.2.2.2.2.1 else nI (pOf S p).2.2.2.2.2.2.1) else -1
def sKey (V : SPV) (p w : Int32) : ANS := if inP V.2.1 p then (if w = 0 ∨ w = 1 then (.inl (keA V.2.1 p.toInt.toNat w), V) else (.inr eN, V)) else (.inr eI, V)
def hlF (S : SST) (b : Int32) : Nat → Nat → Int32
  | 0, _ => -1
  | d + 1, i => if ((pOf S i).1 : Int) ≤ b.toInt ∧ b.toInt < ((pOf S i).2.1 : Int) then nI i else hlF S b d (i + 1)
def sHol (V : SPV) (b : Int32) : Int32 × SPV := (hlF V.2.1 b (pcF V.2.1).length 0, V)
def lkF (S : SST) (p : Nat) (k : Int32) : Nat → Nat → Int32 → Int32
  | 0, _, _ => -1
  | d + 1, i, m => if lkB S p i = true then (if m = k then nI i else lkF S p k d (i + 1) (m + 1)) else lkF S p k d (i + 1) m
def sLik (V : SPV) (p k : Int32) : ANS := if inP V.2.1 p then (.inl (lkF V.2.1 p.toInt.toNat k (pcF V.2.1).length 0 0), V) else (.inr eI, V)
section KQA
variable {f : AH} {n : Nat} {V : SPV}
theorem gd_takeP {L : List (BL × BL)} {i m : Nat} (h : i < m) : (L.take m).getD i ([], []) = L.getD i ([], []) := by
  rw [List.getD_eq_getElem?_getD, List.getD_eq_getElem?_getD, List.getElem?_take_of_lt h]
theorem k_at {i w : Int32} (h : RC f n V) : PQ (mX8_at 0 i w f n) (COI (sAt V i w)) := by
  obtain ⟨ag, hp⟩ := RC_p h
  have hK := h.2.2.2.1.1
  obtain ⟨⟨fr, la, e3, ⟨b, c, hr, -⟩, -⟩, -⟩ := id hK.1
  obtain ⟨qw, hb⟩ := hK.2.2.1.1
  unfold mX8_at sAt
  refine pq_eq (fun q => ?_) (fun q => ?_)
  · rw [if_pos q]
    exact pq_gR hp rfl (pq_sb (pq_gR e3 rfl (pq_sb (pq_ck (pq_is (f_get hr) (pq_ret ⟨f, n, rfl, h⟩))))))
  · rw [if_neg q]
    exact pq_gR hp rfl (pq_sb (pq_gR hb rfl (pq_sb (pq_ck (pq_is (f_get hK.2.2.2.1) (pq_ret ⟨f, n, rfl, h⟩))))))
theorem f_memL {b c : Int32} : ∀ (d : Nat) (r : List (BL × BL)) (w : Option Nat) (i a : Nat), PCH f n r w → i ≤ a → a - i < r.length → a ≤ 600 → PQ (mX8_memory_l29 d (nI a) b c w (nI i) f n) (fun y => y = (gt1 (if b = 0 then (r.getD (a - i) ([], [])).1 else (r.getD (a - i) ([], [])).2) c, f, n)) := by
  intro d
  induction d with
  | zero => intro _ _ _ _ _ _ _ _; exact pq_none
  | succ d ih =>
    intro r w i a hc hi hl ha
    cases r with
    | nil => exact absurd hl (Nat.not_lt_zero _)
    | cons p r =>
      obtain ⟨j, jt, jd, older, rfl, -, ej, ⟨b1, c1, h1, -⟩, ⟨b2, c2, h2, -⟩, hr⟩ := hc
      unfold mX8_memory_l29
      refine pq_le (nI_toInt (by omega)) (nI_toInt (by omega)) (fun q => ?_) (fun q => ?_)
      · have e : a - i = 0 := by omega
        rw [e]
        unfold mX8_memory_b53
        refine pq_oNs (pq_eq (fun q => ?_) (fun q => ?_))
        · rw [if_pos q]
          exact pq_gR ej rfl (pq_sb (pq_ck (pq_is (f_get h1) (pq_ret rfl))))
        · rw [if_neg q]
          exact pq_gR ej rfl (pq_sb (pq_ck (pq_is (f_get h2) (pq_ret rfl))))
      · refine pq_oNs (pq_gRw ej rfl ?_)
        rw [nI_1]
        have e : a - i = (a - (i + 1)) + 1 := by omega
        rw [e]
        exact ih r older (i + 1) a hr (by omega) (by have : a - i < r.length + 1 := hl; omega) ha
theorem k_mem {a b c : Int32} (h : RC f n V) : PQ (mX8_memory 0 a b c f n) (COI (sMem V a b c)) := by
  obtain ⟨ag, hp⟩ := RC_p h
  have hm12 : V.2.1.2.2.2.length ≤ 12 := h.2.2.2.1.2.2.2.1
  obtain ⟨⟨fr, la, e3, -, full, hc, hf⟩, -⟩ := id h.2.2.2.1.1.1
  unfold mX8_memory sMem
  refine pq_lt rfl kt_0 (fun q => ?_) (fun q => ?_)
  · rw [if_neg (by omega)]; exact pq_ret ⟨f, n, rfl, h⟩
  · refine pq_gR hp rfl (pq_sb (pq_gI e3 rfl (pq_lt rfl (nI_toInt (by omega)) (fun q2 => ?_) (fun q2 => ?_))))
    · obtain ⟨e1, e2⟩ := v_nI (v := a) ⟨q, q2⟩ (by omega)
      rw [if_pos ⟨q, q2⟩]
      generalize a.toInt.toNat = p at e1 e2 ⊢
      subst e1
      have hfl : V.2.1.2.2.2.length ≤ full.length := by rw [hf, List.length_take]; omega
      refine pq_gR hp rfl (pq_sb (pq_gRw e3 rfl (pq_tail (f_memL (b := b) (c := c) rFU full la 0 p hc (Nat.zero_le _) (by omega) (by omega)) (fun y hy => ?_))))
      have e : full.getD (p - 0) ([], []) = V.2.1.2.2.2.getD p ([], []) := by rw [hf]; exact (gd_takeP (by omega)).symm
      rw [e] at hy
      rw [hy]; exact ⟨f, n, rfl, h⟩
    · rw [if_neg (by omega)]; exact pq_ret ⟨f, n, rfl, h⟩
theorem f_textB {S : SST} {p : Nat} {i : Int32} (hK : KO f n S) (hp : p < (pcF S).length) : PQ (mX1_textByte 59 (some (75 + p)) i f n) (fun y => y = (gt1 (pX (pOf S p)) i, f, n)) := by
  obtain ⟨x11, ep⟩ := KO_BD hK hp
  have hT := hK.2.1.1.2.1
  have l6 := rw_6 hT
  have l1 : tAt (pcF S) p + (pX (pOf S p)).length ≤ (txs (pcF S)).length := tx_le hp
  unfold mX1_textByte gt1
  refine pq_lt rfl kt_0 (fun q => ?_) (fun q => ?_)
  · rw [if_neg (by omega)]; exact pq_ret rfl
  · refine pq_sb (pq_gI ep rfl (pq_le (nI_toInt (by omega)) rfl (fun q2 => ?_) (fun q2 => ?_)))
    · rw [if_neg (by omega)]; exact pq_ret rfl
    · obtain ⟨e1, e2⟩ := v_nI (v := i) ⟨q, q2⟩ (by omega)
      rw [if_pos ⟨q, q2⟩]
      generalize i.toInt.toNat = k at e1 e2 ⊢
      subst e1
      refine pq_gR hK.2.1.1.1.1 rfl (pq_gI ep rfl (pq_sb (pq_ck ?_)))
      rw [nI_add]
      refine pq_is (f_getN hT (i := tAt (pcF S) p + k) (by omega)) (pq_ret ?_)
      rw [tx_gd hp e2]; rfl
theorem f_nowB {S : SST} {p i hi ag pc wn fp : Int32} (hp : f 0 = some (.inr (8, pfL hi ag pc wn fp))) (hK : KO f n S) (hin : inP S p) : PQ (mX8_nowByte 0 p (some (75 + p.toInt.toNat)) i f n) (fun y => y = (gt1 (nowOf S p.toInt.toNat) i, f, n)) := by
  unfold mX8_nowByte
  refine pq_gR hp rfl (pq_sb (pq_ck (pq_call (f_toldForS (f := f) (n := n) hK.1 (inP_40 hin)) (fun y hy => ?_))))
  obtain ⟨w, rfl, hw⟩ := hy
  cases ht : S.2.2.1 p.toInt.toNat with
  | none =>
    rw [ht] at hw
    have hw : w = none := hw
    subst hw
    rw [now_n ht]
    exact pq_sb (pq_oNn (pq_gR hp rfl (pq_sb (pq_ck (pq_is (f_textB hK (tn_lt hin)) (pq_ret rfl))))))
  | some t =>
    rw [ht] at hw
    obtain ⟨j, rfl, ⟨b, c, hr, -⟩, h60⟩ := hw
    rw [now_s ht]
    exact pq_sb (pq_oNs (pq_ck (pq_is (f_get hr) (pq_ret rfl))))
theorem pq_pot {α : Type} {p : Int32} {k : (Option Nat ⊕ String) × HpN → Option α} {Q : α → Prop} (h : RC f n V) (h1 : inP V.2.1 p → PQ (k (.inl (some (75 + p.toInt.toNat)), f, n)) Q) (h2 : ¬ inP V.2.1 p → PQ (k (.inr eI, f, n)) Q) : PQ ((mX8_pieceOrThrow 0 p f n).bind k) Q := by
  obtain ⟨ag, hp⟩ := RC_p h
  have hK := h.2.2.2.1.1
  unfold mX8_pieceOrThrow
  by_cases hin : inP V.2.1 p
  · refine pq_call (Q1 := fun y => y = (.inl (some (75 + p.toInt.toNat)), f, n)) (pq_gR hp rfl (pq_sb (pq_ck (pq_is (f_cgetI hK.2.1.1.1 hin) (pq_sb (pq_oNs (pq_ret rfl))))))) (fun y hy => ?_)
    subst hy
    exact h1 hin
  · refine pq_call (Q1 := fun y => y = (.inr eI, f, n)) (pq_gR hp rfl (pq_sb (pq_ck (pq_is (f_cgetX hK.2.1.1.1 hin) (pq_sb (pq_oNn (pq_ret rfl))))))) (fun y hy => ?_)
    subst hy
    exact h2 hin
theorem k_oct {p i w : Int32} (h : RC f n V) : PQ (mX8_octet 0 p i w f n) (COK (sOct V p i w)) := by
  obtain ⟨ag, hp⟩ := RC_p h
  have hK := h.2.2.2.1.1
  unfold mX8_octet sOct
  refine pq_ck (pq_pot h (fun hin => ?_) (fun hin => ?_))
  · rw [if_pos hin, tS_l (v := some (75 + p.toInt.toNat)) rfl]
    refine pq_sb (pq_eq (fun q => ?_) (fun q => ?_))
    · rw [if_pos q]
      exact pq_gR hp rfl (pq_sb (pq_ck (pq_is (f_textB hK (tn_lt hin)) (pq_ret ⟨f, n, rfl, h⟩))))
    · rw [if_neg q]
      exact pq_ck (pq_is (f_nowB hp hK hin) (pq_ret ⟨f, n, rfl, h⟩))
  · rw [if_neg hin]; exact pq_ret ⟨f, n, rfl, h⟩
theorem k_org {p i : Int32} (h : RC f n V) : PQ (mX8_origin 0 p i f n) (COK (sOrg V p i)) := by
  obtain ⟨ag, hp⟩ := RC_p h
  have hK := h.2.2.2.1.1
  unfold mX8_origin sOrg
  refine pq_ck (pq_pot h (fun hin => ?_) (fun hin => ?_))
  · have hvN := tn_lt hin
    obtain ⟨x11, ep⟩ := KO_BD hK hvN
    have hO := hK.2.1.1.2.2.1
    have el : (ogs (pcF V.2.1)).length = (txs (pcF V.2.1)).length := hK.2.1.2.2
    have l6 := rw_6 hO
    have l1 : tAt (pcF V.2.1) p.toInt.toNat + (pX (pOf V.2.1 p.toInt.toNat)).length ≤ (txs (pcF V.2.1)).length := tx_le hvN
    rw [if_pos hin, tS_l (v := some (75 + p.toInt.toNat)) rfl]
    unfold ogA
    refine pq_sb (pq_lt rfl kt_0 (fun q => ?_) (fun q => ?_))
    · rw [if_neg (by omega)]; exact pq_ret ⟨f, n, rfl, h⟩
    · refine pq_sb (pq_gI ep rfl (pq_le (nI_toInt (by omega)) rfl (fun q2 => ?_) (fun q2 => ?_)))
      · rw [if_neg (by omega)]; exact pq_ret ⟨f, n, rfl, h⟩
      · obtain ⟨e1, e2⟩ := v_nI (v := i) ⟨q, q2⟩ (by omega)
        rw [if_pos ⟨q, q2⟩]
        generalize i.toInt.toNat = k at e1 e2 ⊢
        subst e1
        refine pq_gR hp rfl (pq_sb (pq_gR hK.2.1.1.1.1 rfl (pq_gI ep rfl (pq_sb (pq_ck ?_)))))
        rw [nI_add]
        exact pq_is (f_getN hO (i := tAt (pcF V.2.1) p.toInt.toNat + k) (by omega)) (pq_ret ⟨f, n, rfl, h⟩)
  · rw [if_neg hin]; exact pq_ret ⟨f, n, rfl, h⟩
theorem k_key {p w : Int32} (h : RC f n V) : PQ (mX8_key 0 p w f n) (COK (sKey V p w)) := by
  obtain ⟨ag, hp⟩ := RC_p h
  have hK := h.2.2.2.1.1
  obtain ⟨⟨fr, la, e3, -⟩, -⟩ := id hK.1
  unfold mX8_key sKey
  refine pq_ck (pq_pot h (fun hin => ?_) (fun hin => ?_))
  · obtain ⟨x11, ep⟩ := KO_BD hK (tn_lt hin)
    have b25 : PQ (mX8_key_b25 0 w (some (75 + p.toInt.toNat)) f n) (COK (.inl (keA V.2.1 p.toInt.toNat w), V)) := by
      unfold mX8_key_b25 keA
      refine pq_gR hp rfl (pq_sb (pq_gI e3 rfl (pq_eq (fun q => ?_) (fun q => ?_))))
      · rw [if_pos q]
        refine pq_eq (fun q2 => ?_) (fun q2 => ?_)
        · rw [if_pos q2]; exact pq_sb (pq_gI ep rfl (pq_ret ⟨f, n, rfl, h⟩))
        · rw [if_neg q2]; exact pq_sb (pq_gI ep rfl (pq_ret ⟨f, n, rfl, h⟩))
      · rw [if_neg q]; exact pq_ret ⟨f, n, rfl, h⟩
    rw [if_pos hin, tS_l (v := some (75 + p.toInt.toNat)) rfl]
    refine pq_sb (pq_eq (fun q => ?_) (fun q => pq_eq (fun q2 => ?_) (fun q2 => ?_)))
    · rw [if_pos (Or.inl q)]; exact b25
    · rw [if_pos (Or.inr q2)]; exact b25
    · rw [if_neg (fun o => o.elim q q2)]; exact pq_ret ⟨f, n, rfl, h⟩
  · rw [if_neg hin]; exact pq_ret ⟨f, n, rfl, h⟩
theorem k_hol {b : Int32} (h : RC f n V) : PQ (mX8_holder 0 b f n) (COI (sHol V b)) := by
  obtain ⟨ag, hp⟩ := RC_p h
  have hK := h.2.2.2.1.1
  have hC := hK.2.1.1.1
  have h40 : (pcF V.2.1).length ≤ 40 := pcs_40
  have key : ∀ (d e i : Nat), i + e = (pcF V.2.1).length → PQ (mX8_holder_l2 d 0 b (nI i) f n) (COI (hlF V.2.1 b e i, V)) := by
    intro d
    induction d with
    | zero => intro _ _ _; exact pq_none
    | succ d ih =>
      intro e i hi
      unfold mX8_holder_l2
      refine pq_gR hp rfl (pq_sb (pq_ck (pq_is (f_csize hC) (pq_le (nI_toInt (by omega)) (nI_toInt (by omega)) (fun q => ?_) (fun q => ?_)))))
      · obtain rfl : e = 0 := by omega
        exact pq_ret ⟨f, n, rfl, h⟩
      · obtain ⟨e, rfl⟩ : ∃ e', e = e' + 1 := ⟨e - 1, by omega⟩
        have hi' : i < (pcF V.2.1).length := by omega
        obtain ⟨x11, ep⟩ := KO_BD hK hi'
        have hord := (pcs_ord (cf := V.2.1.2.1) (L := V.2.1.1)).1 i hi'
        have h4 : V.2.1.1.length ≤ 400 := hK.1.2.2.2.2
        have l1 : (pOf V.2.1 i).2.1 ≤ 400 := Nat.le_trans hord.2.2 h4
        have l0 : (pOf V.2.1 i).1 < (pOf V.2.1 i).2.1 := hord.2.1
        have nxt : PQ (mX8_holder_b44 (fun v0 v1 v2 f n => mX8_holder_l2 d v0 v1 v2 f n) 0 b (nI i) f n) (COI (hlF V.2.1 b e (i + 1), V)) := by
          unfold mX8_holder_b44
          rw [nI_1]; exact ih e (i + 1) (by omega)
        refine pq_gR hp rfl (pq_sb (pq_ck (pq_is (f_cgetN hC hi') (pq_sb (pq_oNs (pq_gI ep rfl ?_))))))
        unfold hlF
        refine pq_lt rfl (nI_toInt (by omega)) (fun q2 => ?_) (fun q2 => pq_gI ep rfl (pq_le (nI_toInt (by omega)) rfl (fun q3 => ?_) (fun q3 => ?_)))
        · rw [if_neg (by omega)]; exact nxt
        · rw [if_neg (by omega)]; exact nxt
        · rw [if_pos ⟨q2, q3⟩]; exact pq_ret ⟨f, n, rfl, h⟩
  unfold mX8_holder sHol
  exact key rFU _ 0 (Nat.zero_add _)
theorem k_lik {p k : Int32} (h : RC f n V) : PQ (mX8_like 0 p k f n) (COK (sLik V p k)) := by
  obtain ⟨ag, hp⟩ := RC_p h
  have hK := h.2.2.2.1.1
  have hC := hK.2.1.1.1
  have h40 : (pcF V.2.1).length ≤ 40 := pcs_40
  unfold mX8_like sLik
  refine pq_ck (pq_pot h (fun hin => ?_) (fun hin => ?_))
  · have key : ∀ (d e i : Nat) (m : Int32), i + e = (pcF V.2.1).length → PQ (mX8_like_l11 d 0 p k m (nI i) f n) (COK (.inl (lkF V.2.1 p.toInt.toNat k e i m), V)) := by
      intro d
      induction d with
      | zero => intro _ _ _ _; exact pq_none
      | succ d ih =>
        intro e i m hi
        unfold mX8_like_l11
        refine pq_gR hp rfl (pq_sb (pq_ck (pq_is (f_csize hC) (pq_le (nI_toInt (by omega)) (nI_toInt (by omega)) (fun q => ?_) (fun q => ?_)))))
        · obtain rfl : e = 0 := by omega
          exact pq_ret ⟨f, n, rfl, h⟩
        · obtain ⟨e, rfl⟩ : ∃ e', e = e' + 1 := ⟨e - 1, by omega⟩
          have hi' : i < (pcF V.2.1).length := by omega
          have nxt : ∀ m : Int32, PQ (mX8_like_b47 (fun v0 v1 v2 v3 v4 f n => mX8_like_l11 d v0 v1 v2 v3 v4 f n) 0 p k m (nI i) f n) (COK (.inl (lkF V.2.1 p.toInt.toNat k e (i + 1) m), V)) := fun m => by
            unfold mX8_like_b47
            rw [nI_1]; exact ih e (i + 1) m (by omega)
          refine pq_gR hp rfl (pq_sb (pq_ck (pq_is (f_areLike (f := f) (n := n) hK.2.1 hin hi') ?_)))
          unfold lkF
          refine pq_eq (fun q2 => ?_) (fun q2 => ?_)
          · rw [if_neg (show ¬ lkB V.2.1 p.toInt.toNat i = true by rw [bI_0.mp q2]; decide)]; exact nxt m
          · rw [if_pos (show lkB V.2.1 p.toInt.toNat i = true by cases hb : lkB V.2.1 p.toInt.toNat i; exact absurd (bI_0.mpr hb) q2; rfl)]
            refine pq_eq (fun q3 => ?_) (fun q3 => ?_)
            · rw [if_pos q3]; exact pq_ret ⟨f, n, rfl, h⟩
            · rw [if_neg q3]; exact nxt (m + 1)
    rw [if_pos hin, tS_l (v := some (75 + p.toInt.toNat)) rfl]
    exact pq_sb (key rFU _ 0 0 (Nat.zero_add _))
  · rw [if_neg hin]; exact pq_ret ⟨f, n, rfl, h⟩
end KQA
