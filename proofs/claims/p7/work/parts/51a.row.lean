/-! a row of the class holds a list of bytes -/
def isRw (f : AH) (j b c : Nat) (L : BL) : Prop := f j = some (.inr (5, [.ref b, .int (nI L.length)])) ∧ (∃ g, f b = some (.inl (0, c, .inl g)) ∧ ∀ i, i < L.length → g i = L.getD i 0) ∧ L.length ≤ c ∧ c ≤ 600
def bI (b : Bool) : Int32 := if b = true then 1 else 0
theorem bI_t : bI true = 1 := rfl
theorem bI_f : bI false = 0 := rfl
theorem bI_0 {b : Bool} : bI b = 0 ↔ b = false := by cases b <;> decide
theorem bI_01 {b : Bool} : bI b = 0 ∨ bI b = 1 := by cases b <;> decide
def sl (L : BL) (a b : Nat) : BL := (L.drop a).take (b - a)
theorem gd_app_l {L M : BL} {i : Nat} (h : i < L.length) : (L ++ M).getD i 0 = L.getD i 0 := by
  rw [List.getD_eq_getElem?_getD, List.getD_eq_getElem?_getD, List.getElem?_append_left h]
theorem gd_app_r {L M : BL} {i : Nat} (h : L.length ≤ i) : (L ++ M).getD i 0 = M.getD (i - L.length) 0 := by
  rw [List.getD_eq_getElem?_getD, List.getD_eq_getElem?_getD, List.getElem?_append_right h]
theorem gd_take {L : BL} {i m : Nat} (h : i < m) : (L.take m).getD i 0 = L.getD i 0 := by
  rw [List.getD_eq_getElem?_getD, List.getD_eq_getElem?_getD, List.getElem?_take_of_lt h]
theorem gd_drop {L : BL} {i m : Nat} : (L.drop m).getD i 0 = L.getD (m + i) 0 := by
  rw [List.getD_eq_getElem?_getD, List.getD_eq_getElem?_getD, List.getElem?_drop]
theorem gd_out {L : BL} {i : Nat} (h : L.length ≤ i) : L.getD i 0 = 0 := by
  rw [List.getD_eq_getElem?_getD, List.getElem?_eq_none h]; rfl
theorem dr_st {L : BL} {i : Nat} (h : i < L.length) : L.drop i = L.getD i 0 :: L.drop (i + 1) := by
  rw [List.drop_eq_getElem_cons h, List.getD_eq_getElem?_getD, List.getElem?_eq_getElem h]; rfl
theorem sl_len {L : BL} {a b : Nat} (h : b ≤ L.length) : (sl L a b).length = b - a := by
  unfold sl
  rw [List.length_take, List.length_drop]; omega
theorem sl_nil {L : BL} {a b : Nat} (h : b ≤ a) : sl L a b = [] := by
  unfold sl
  rw [show b - a = 0 by omega]; rfl
theorem sl_st {L : BL} {a b : Nat} (h : a < b) (hb : b ≤ L.length) : sl L a b = L.getD a 0 :: sl L (a + 1) b := by
  unfold sl
  rw [dr_st (by omega)]
  obtain ⟨d, hd⟩ : ∃ d, b - a = d + 1 := ⟨b - a - 1, by omega⟩
  rw [hd, show b - (a + 1) = d by omega]
  rfl
theorem sl_gd {L : BL} {a b i : Nat} (h : i < b - a) : (sl L a b).getD i 0 = L.getD (a + i) 0 := by
  unfold sl
  rw [gd_take h, gd_drop]
theorem sl_all {L : BL} : sl L 0 L.length = L := by
  unfold sl
  show (List.take (L.length - 0) L) = L
  rw [Nat.sub_zero, List.take_length]
theorem bl_ext {L M : BL} (h1 : L.length = M.length) (h2 : ∀ i, i < L.length → L.getD i 0 = M.getD i 0) : L = M := by
  refine List.ext_getElem h1 (fun i a b => ?_)
  have := h2 i a
  rw [List.getD_eq_getElem?_getD, List.getD_eq_getElem?_getD, List.getElem?_eq_getElem a, List.getElem?_eq_getElem b] at this
  exact this
section RWS
variable {β : Type} {Q : β → Prop} {f : AH} {j b c n : Nat} {L : BL}
theorem rw_jb (hr : isRw f j b c L) : j ≠ b := fun e => by
  obtain ⟨h1, ⟨g, h2, -⟩, -⟩ := hr
  rw [e, h2] at h1; cases h1
theorem rw_tr (hr : isRw f j b c L) {f' : AH} (h1 : f' j = f j) (h2 : f' b = f b) : isRw f' j b c L := by
  unfold isRw at hr ⊢
  rw [h1, h2]; exact hr
theorem rw_6 (hr : isRw f j b c L) : L.length ≤ 600 := Nat.le_trans hr.2.2.1 hr.2.2.2
theorem pq_rwB (hr : isRw f j b c L) {kk : Option Nat → Option β} (h : PQ (kk (some b)) Q) : PQ ((gR f j 5 0).bind kk) Q := pq_gR hr.1 rfl h
theorem pq_rwS (hr : isRw f j b c L) {kk : Int32 → Option β} (h : PQ (kk (nI L.length)) Q) : PQ ((gI f j 5 1).bind kk) Q := pq_gI hr.1 rfl h
theorem pq_rwL (hr : isRw f j b c L) {kk : Nat → Option β} (h : PQ (kk c) Q) : PQ ((gL f b).bind kk) Q := by
  obtain ⟨-, ⟨g, h2, -⟩, -⟩ := hr
  exact pq_gL h2 (by omega) h
theorem pq_rwA (hr : isRw f j b c L) {i : Nat} (hi : i < L.length) {kk : Int32 → Option β} (h : PQ (kk (L.getD i 0)) Q) : PQ ((gIA f b (nI i)).bind kk) Q := by
  have h6 := rw_6 hr
  obtain ⟨-, ⟨g, h2, h3⟩, -⟩ := hr
  refine pq_gIA h2 (fun _ => ?_)
  rw [nI_clamp (by omega), h3 i hi]; exact h
theorem f_size (hr : isRw f j b c L) : PQ (mX5_size j f n) (fun r => r = (nI L.length, f, n)) := by
  unfold mX5_size
  exact pq_rwS hr (pq_ret rfl)
theorem f_getN (hr : isRw f j b c L) {i : Nat} (hi : i < L.length) : PQ (mX5_get j (nI i) f n) (fun r => r = (L.getD i 0, f, n)) := by
  have h6 := rw_6 hr
  have hc := hr.2.2.1
  have hc6 := hr.2.2.2
  unfold mX5_get
  refine pq_f (nI_pos (by omega)) (pq_rwS hr ?_)
  refine pq_f (nI_ge (by omega) (by omega)) (pq_rwB hr (pq_sb (pq_rwL hr ?_)))
  refine pq_f (nI_ge (by omega) (by omega)) (pq_rwB hr (pq_sb (pq_rwA hr hi ?_)))
  exact pq_ret rfl
theorem f_getO (hr : isRw f j b c L) {x : Int32} (hx : x.toInt < 0 ∨ (L.length : Int) ≤ x.toInt) : PQ (mX5_get j x f n) (fun r => r = (-1, f, n)) := by
  have h6 := rw_6 hr
  unfold mX5_get
  refine pq_lt rfl kt_0 (fun _ => pq_ret rfl) (fun h0 => pq_rwS hr ?_)
  exact pq_le (nI_toInt (by omega)) rfl (fun _ => pq_ret rfl) (fun h => by omega)
/-- a byte of a list; none: -1 -/
def gt1 (L : BL) (x : Int32) : Int32 := if 0 ≤ x.toInt ∧ x.toInt < L.length then L.getD x.toInt.toNat 0 else -1
theorem f_get (hr : isRw f j b c L) {x : Int32} : PQ (mX5_get j x f n) (fun r => r = (gt1 L x, f, n)) := by
  have h6 := rw_6 hr
  unfold gt1
  by_cases h : 0 ≤ x.toInt ∧ x.toInt < L.length
  · rw [if_pos h]
    have e : x = nI x.toInt.toNat := Int32.toInt_inj.mp (by rw [nI_toInt (by omega)]; omega)
    have := f_getN (n := n) hr (i := x.toInt.toNat) (by omega)
    rw [← e] at this
    exact this
  · rw [if_neg h]
    exact f_getO hr (by omega)
theorem gt1_N {i : Nat} (h : i < L.length) (h6 : L.length ≤ 700) : gt1 L (nI i) = L.getD i 0 := by
  unfold gt1
  rw [nI_toInt (by omega), if_pos (by omega)]; rfl
theorem gt1_O {i : Nat} (h : L.length ≤ i) (h6 : i ≤ 2000) : gt1 L (nI i) = -1 := by
  unfold gt1
  rw [nI_toInt (by omega), if_neg (by omega)]
theorem f_add (hr : isRw f j b c L) {x : Int32} : PQ (mX5_add j x f n) (fun r => (L.length < c ∧ ∃ f', r = (1, f', n) ∧ isRw f' j b c (L ++ [x]) ∧ ∀ i, i ≠ j → i ≠ b → f' i = f i) ∨ (c ≤ L.length ∧ r = (0, f, n))) := by
  have h6 := rw_6 hr
  have hjb := rw_jb hr
  have hc6 := hr.2.2.2
  unfold mX5_add
  refine pq_rwS hr (pq_f (nI_pos (by omega)) (pq_rwS hr (pq_rwB hr (pq_sb (pq_rwL hr ?_)))))
  refine pq_lt (nI_toInt (by omega)) (nI_toInt (by omega)) (fun h => ?_) (fun h => ?_)
  · refine pq_rwB hr (pq_rwS hr (pq_sb ?_))
    obtain ⟨h1, ⟨g, h2, h3⟩, h4⟩ := hr
    refine pq_pIA h2 (fun _ => ?_)
    have h1' : va_up f b (some (.inl (0, c, .inl (upd g (nI L.length).toNatClampNeg x)))) j = some (.inr (5, [.ref b, .int (nI L.length)])) := (u_ne hjb).trans h1
    refine pq_gI h1' rfl (pq_pO h1' rfl (pq_ck (pq_ret (Or.inl ⟨by omega, _, rfl, ⟨?_, ⟨upd g (nI L.length).toNatClampNeg x, ?_, ?_⟩, ?_, h4.2⟩, ?_⟩))))
    · rw [u_eq, nI_1, List.length_append]; rfl
    · rw [u_ne (Ne.symm hjb), u_eq]
    · intro i hi
      rw [List.length_append] at hi
      rw [nI_clamp (by omega)]
      by_cases e : i = L.length
      · rw [e, gd_app_r (Nat.le_refl _), Nat.sub_self]
        show (if L.length = L.length then x else g L.length) = x
        rw [if_pos rfl]
      · have hi2 : i < L.length := by have : i < L.length + 1 := hi; omega
        rw [gd_app_l hi2]
        show (if i = L.length then x else g i) = _
        rw [if_neg e, h3 i hi2]
    · rw [List.length_append]; show L.length + 1 ≤ c; omega
    · intro i e1 e2
      rw [u_ne e1, u_ne e2]
  · exact pq_ck (pq_ret (Or.inr ⟨by omega, rfl⟩))
theorem f_cutTo (hr : isRw f j b c L) {m : Nat} (hm : m ≤ 2000) : PQ (mX5_cutTo j (nI m) f n) (fun r => ∃ f', r = (0, f', n) ∧ isRw f' j b c (L.take m) ∧ ∀ i, i ≠ j → f' i = f i) := by
  have h6 := rw_6 hr
  have hjb := rw_jb hr
  unfold mX5_cutTo
  refine pq_f (nI_pos (by omega)) (pq_rwS hr ?_)
  refine pq_le (nI_toInt (by omega)) (nI_toInt (by omega)) (fun h => ?_) (fun h => ?_)
  · exact pq_ret ⟨f, rfl, by rw [List.take_of_length_le (by omega)]; exact hr, fun _ _ => rfl⟩
  · obtain ⟨h1, ⟨g, h2, h3⟩, h4, h5⟩ := hr
    refine pq_pO h1 rfl (pq_ret ⟨_, rfl, ⟨?_, ⟨g, ?_, ?_⟩, ?_, h5⟩, fun i e => u_ne e⟩)
    · rw [u_eq, List.length_take, Nat.min_eq_left (by omega)]; rfl
    · rw [u_ne (Ne.symm hjb)]; exact h2
    · intro i hi
      rw [List.length_take] at hi
      rw [gd_take (by omega)]
      exact h3 i (by omega)
    · rw [List.length_take]; omega
theorem f_addPart_l {j1 b1 c1 : Nat} {M : BL} (hj : j1 ≠ j) (hb : b1 ≠ b) {e : Nat} (he : e ≤ M.length) : ∀ (d i : Nat) (f : AH) (L : BL), isRw f j b c L → isRw f j1 b1 c1 M → i ≤ e → PQ (mX5_addPart_l6 d j (some j1) (nI e) 1 (nI i) f n) (fun r => (L.length + (e - i) ≤ c ∧ ∃ f', r = (1, f', n) ∧ isRw f' j b c (L ++ sl M i e) ∧ ∀ i, i ≠ j → i ≠ b → f' i = f i) ∨ (c < L.length + (e - i) ∧ ∃ f' L', r = (0, f', n) ∧ isRw f' j b c L' ∧ ∀ i, i ≠ j → i ≠ b → f' i = f i)) := by
  intro d
  induction d with
  | zero => intro i f L _ _ _; exact pq_none
  | succ d ih =>
    intro i f L hr hm hi
    have h6 := rw_6 hm
    unfold mX5_addPart_l6
    refine pq_le (nI_toInt (by omega)) (nI_toInt (by omega)) (fun h => ?_) (fun h => ?_)
    · refine pq_ck (pq_ret (Or.inl ⟨?_, f, rfl, ?_, fun _ _ _ => rfl⟩))
      · have := hr.2.2.1; omega
      · rw [sl_nil (by omega), List.append_nil]; exact hr
    · refine pq_f (by decide) (pq_sb (pq_ck (pq_is (f_getN hm (by omega)) (pq_ck ?_))))
      refine pq_call (f_add hr) (fun r hq => ?_)
      rcases hq with ⟨hl, f', rfl, hr', hF⟩ | ⟨hl, rfl⟩
      · show PQ (mX5_addPart_l6 d j (some j1) (nI e) 1 (nI i + 1) f' n) _
        rw [nI_1]
        have hm' : isRw f' j1 b1 c1 M := by
          have hb1 : b1 ≠ j := fun q => by
            obtain ⟨-, ⟨g, h2, -⟩, -⟩ := hm
            have h1 := hr.1
            rw [q, h1] at h2; cases h2
          have hj1 : j1 ≠ b := fun q => by
            obtain ⟨-, ⟨g, h2, -⟩, -⟩ := hr
            have h1 := hm.1
            rw [q, h2] at h1; cases h1
          exact rw_tr hm (hF _ hj hj1) (hF _ hb1 hb)
        refine pq_tail (ih (i + 1) f' (L ++ [M.getD i 0]) hr' hm' (by omega)) (fun r hq => ?_)
        rw [List.length_append] at hq
        have e1 : L.length + [M.getD i 0].length + (e - (i + 1)) = L.length + (e - i) := by show L.length + 1 + (e - (i + 1)) = _; omega
        rw [e1] at hq
        rcases hq with ⟨a, f2, rfl, a2, a3⟩ | ⟨a, f2, L2, rfl, a2, a3⟩
        · refine Or.inl ⟨a, f2, rfl, ?_, fun x y z => (a3 x y z).trans (hF x y z)⟩
          rw [sl_st (by omega) he]
          rw [List.append_assoc] at a2
          exact a2
        · exact Or.inr ⟨a, f2, L2, rfl, a2, fun x y z => (a3 x y z).trans (hF x y z)⟩
      · show PQ (mX5_addPart_l6 d j (some j1) (nI e) 0 (nI i + 1) f n) _
        cases d with
        | zero => exact pq_none
        | succ d =>
          unfold mX5_addPart_l6
          rw [nI_1]
          have fin : PQ (mX5_addPart_b35 0 f n) (fun r => (L.length + (e - i) ≤ c ∧ ∃ f', r = (1, f', n) ∧ isRw f' j b c (L ++ sl M i e) ∧ ∀ i, i ≠ j → i ≠ b → f' i = f i) ∨ (c < L.length + (e - i) ∧ ∃ f' L', r = (0, f', n) ∧ isRw f' j b c L' ∧ ∀ i, i ≠ j → i ≠ b → f' i = f i)) := pq_ck (pq_ret (Or.inr ⟨by omega, f, L, rfl, hr, fun _ _ _ => rfl⟩))
          exact pq_le (nI_toInt (by omega)) (nI_toInt (by omega)) (fun _ => fin) (fun _ => pq_t rfl fin)
theorem f_addPart {j1 b1 c1 : Nat} {M : BL} (hj : j1 ≠ j) (hb : b1 ≠ b) {i e : Nat} (he : e ≤ M.length) (hi : i ≤ e) (hr : isRw f j b c L) (hm : isRw f j1 b1 c1 M) : PQ (mX5_addPart j (some j1) (nI i) (nI e) f n) (fun r => (L.length + (e - i) ≤ c ∧ ∃ f', r = (1, f', n) ∧ isRw f' j b c (L ++ sl M i e) ∧ ∀ i, i ≠ j → i ≠ b → f' i = f i) ∨ (c < L.length + (e - i) ∧ ∃ f' L', r = (0, f', n) ∧ isRw f' j b c L' ∧ ∀ i, i ≠ j → i ≠ b → f' i = f i)) := by
  unfold mX5_addPart
  exact f_addPart_l hj hb he rFU i f L hr hm hi
theorem f_init {B k : Nat} (hk : k ≤ 600) (hf : f j = some (.inr (5, [.null, .int 0]))) (hj : j ≠ n) : PQ (mX5_init B j (nI k) f n) (fun r => ∃ f', r = (0, f', n + 1) ∧ isRw f' j n k [] ∧ ∀ i, i ≠ j → i ≠ n → f' i = f i) := by
  have key : ∀ x : Int32, x.toNatClampNeg = k → PQ (mX5_init_b14 B j x f n) (fun r => ∃ f', r = (0, f', n + 1) ∧ isRw f' j n k [] ∧ ∀ i, i ≠ j → i ≠ n → f' i = f i) := by
    intro x hx
    unfold mX5_init_b14
    rw [hx]
    have h1 : va_up f n (some (.inl (0, k, .inl (fun _ => 0)))) j = some (.inr (5, [.null, .int 0])) := (u_ne hj).trans hf
    refine pq_ck (pq_pO h1 rfl (pq_ret ⟨_, rfl, ⟨?_, ⟨fun _ => 0, ?_, fun i hi => absurd hi (Nat.not_lt_zero _)⟩, Nat.zero_le _, hk⟩, ?_⟩))
    · rw [u_eq]; rfl
    · rw [u_ne (Ne.symm hj), u_eq]
    · intro i e1 e2
      rw [u_ne e1, u_ne e2]
  unfold mX5_init
  refine pq_le (nI_toInt (by omega)) kt_0 (fun h => ?_) (fun h => ?_)
  · have h0 : k = 0 := by omega
    exact key 0 (by rw [h0]; rfl)
  · exact key (nI k) (nI_clamp (by omega))
theorem f_part {B i k : Nat} (hr : isRw f j b c L) (hik : i + k ≤ L.length) (hj : j < n) (hb : b < n) : PQ (mX5_part B j (nI i) (nI k) f n) (fun r => ∃ f', r = (some n, f', n + 2) ∧ isRw f' n (n + 1) k (sl L i (i + k)) ∧ ∀ i, i < n → f' i = f i) := by
  have h6 := rw_6 hr
  unfold mX5_part
  refine pq_call (f_init (B := B) (k := k) (j := n) (n := n + 1) (by omega) u_eq (by omega)) (fun r hq => ?_)
  obtain ⟨f1, rfl, hn, hF⟩ := hq
  refine pq_ck ?_
  have hF2 : ∀ i, i < n → f1 i = f i := fun i hi => (hF i (by omega) (by omega)).trans (u_ne (by omega))
  have hr1 : isRw f1 j b c L := rw_tr hr (hF2 j hj) (hF2 b hb)
  show PQ ((mX5_addPart n (some j) (nI i) (nI i + nI k) f1 (n + 1 + 1)).bind fun r4 => some ((some n), (r4.2.1, r4.2.2))) _
  rw [nI_add]
  refine pq_call (f_addPart (j := n) (b := n + 1) (by omega) (by omega) hik (by omega) hn hr1) (fun r hq => ?_)
  rcases hq with ⟨a, f2, rfl, a2, a3⟩ | ⟨a, -⟩
  · exact pq_ret ⟨f2, rfl, a2, fun x hx => (a3 x (by omega) (by omega)).trans (hF2 x hx)⟩
  · have : k < ([] : BL).length + (i + k - i) := a
    have e : ([] : BL).length = 0 := rfl
    omega
end RWS
