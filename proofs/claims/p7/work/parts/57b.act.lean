/-! what an act does to a state -/
theorem sl_ap3 {L : BL} {a b c : Nat} (h1 : a ≤ b) (h2 : b ≤ c) (h3 : c ≤ L.length) : sl L a b ++ sl L b c = sl L a c := by
  have e1 := sl_len (L := L) (a := a) (b := b) (by omega)
  have e2 := sl_len (L := L) (a := b) (b := c) h3
  have e3 := sl_len (L := L) (a := a) (b := c) h3
  refine bl_ext (by rw [List.length_append]; omega) (fun i hi => ?_)
  rw [List.length_append] at hi
  rw [sl_gd (L := L) (a := a) (b := c) (by omega)]
  by_cases h : i < b - a
  · rw [gd_app_l (by omega), sl_gd h]
  · rw [gd_app_r (by omega), sl_gd (by omega), e1]
    rw [show b + (i - (b - a)) = a + i by omega]
theorem rowTo_none {cf : CFG} {F : BL} {told : Nat → Option BL} {P : List Pc} (h : ∀ i, i < P.length → told i = none) (ho : ORD P F.length) : ∀ k, k ≤ P.length → plc P k ≤ F.length ∧ rowTo cf F told P k = sl F 0 (plc P k) := by
  intro k
  induction k with
  | zero => intro _; exact ⟨Nat.zero_le _, (sl_nil (Nat.le_refl _)).symm⟩
  | succ k ih =>
    intro hk
    obtain ⟨h1, h2⟩ := ih (by omega)
    obtain ⟨o1, o2, o3⟩ := ho.1 k (by omega)
    refine ⟨o3, ?_⟩
    show rowTo cf F told P k ++ sl F (plc P k) (P.getD k pc0).1 ++ bOf cf F told k (P.getD k pc0) = sl F 0 (P.getD k pc0).2.1
    have e : bOf cf F told k (P.getD k pc0) = sl F (P.getD k pc0).1 (P.getD k pc0).2.1 := by
      unfold bOf
      rw [h k (by omega)]
    rw [e, h2, sl_ap3 (Nat.zero_le _) o1 (by omega), sl_ap3 (Nat.zero_le _) (by omega) o3]
theorem blt_none {cf : CFG} {F : BL} {told : Nat → Option BL} {P : List Pc} (h : ∀ i, i < P.length → told i = none) (ho : ORD P F.length) : blt cf F told P = F := by
  obtain ⟨h1, h2⟩ := rowTo_none (cf := cf) h ho P.length (Nat.le_refl _)
  unfold blt
  rw [h2, sl_ap3 (Nat.zero_le _) h1 (Nat.le_refl _), sl_all]
abbrev setT (S : SST) (told : Nat → Option BL) : SST := (S.1, S.2.1, told, S.2.2.2)
abbrev setC (S : SST) (cf : CFG) : SST := (S.1, cf, fun _ => none, S.2.2.2)
abbrev inP (S : SST) (p : Int32) : Prop := 0 ≤ p.toInt ∧ p.toInt < (pcF S).length
def pOf (S : SST) (i : Nat) : Pc := (pcF S).getD i pc0
def nowOf (S : SST) (i : Nat) : BL := match S.2.2.1 i with
  | none => pX (pOf S i)
  | some t => t
def finA (S S1 : SST) : Int32 × SST := if 600 < (bltS S1).length then (3, S) else (0, S1)
def frA (S : SST) (p : Int32) : Int32 × SST := if inP S p then (if S.2.2.1 p.toInt.toNat = none then (4, S) else finA S (setT S (tset S.2.2.1 p.toInt.toNat none))) else (1, S)
def wpA (S : SST) : Int32 × SST := if tcnt S.2.2.1 40 = 0 then (4, S) else (0, setT S (fun _ => none))
def memA (S : SST) (x : Pc) (w : BL) : SST := if (pX x).length ≤ 60 then (S.1, S.2.1, S.2.2.1, ((pX x, w) :: S.2.2.2).take 12) else S
def tlA (S : SST) (p : Int32) (w : BL) : Int32 × SST := if inP S p then (if escFor S.2.1 (pOf S p.toInt.toNat) w = none then (2, S) else if 600 < (bltS (setT S (tset S.2.2.1 p.toInt.toNat (some w)))).length then (3, S) else (0, memA (setT S (tset S.2.2.1 p.toInt.toNat (some w))) (pOf S p.toInt.toNat) w)) else (1, S)
def lkB (S : SST) (p i : Nat) : Bool := decide (pX (pOf S p) = pX (pOf S i))
def spT (S : SST) (p : Nat) (t : BL) (m : Nat) : Nat → Option BL := fun i => if i < m ∧ lkB S p i = true then some t else S.2.2.1 i
def spN (S : SST) (p : Nat) (t : BL) : Bool := (List.range (pcF S).length).any (fun i => lkB S p i && (escFor S.2.1 (pOf S i) t).isNone)
def spA (S : SST) (p : Int32) : Int32 × SST := if inP S p then (match S.2.2.1 p.toInt.toNat with
  | none => (4, S)
  | some t => if spN S p.toInt.toNat t = true then (2, S) else finA S (setT S (spT S p.toInt.toNat t (pcF S).length))) else (1, S)
def swT (S : SST) (p o : Nat) : Nat → Option BL := tset (tset S.2.2.1 p (some (nowOf S o))) o (some (nowOf S p))
def swA (S : SST) (p o : Int32) : Int32 × SST := if inP S p ∧ inP S o then (if p = o then (5, S) else if 60 < (nowOf S p.toInt.toNat).length ∨ 60 < (nowOf S o.toInt.toNat).length then (8, S) else if escFor S.2.1 (pOf S p.toInt.toNat) (nowOf S o.toInt.toNat) = none ∨ escFor S.2.1 (pOf S o.toInt.toNat) (nowOf S p.toInt.toNat) = none then (2, S) else finA S (setT S (swT S p.toInt.toNat o.toInt.toNat))) else (1, S)
def loA (S : SST) (w : BL) : Int32 × SST := if lkC S.2.1.2.2.2.2 w = 0 then (0, setC S (S.2.1.1, S.2.1.2.1, S.2.1.2.2.1, S.2.1.2.2.2.1, S.2.1.2.2.2.2 ++ [w])) else (lkC S.2.1.2.2.2.2 w, S)
/-- the act by its number -/
def dA (S : SST) (a x y : Int32) (w : BL) : Int32 × SST :=
  if a = 0 then (0, setC S (x, S.2.1.2)) else
  if a = 1 then (0, setC S (S.2.1.1, x, S.2.1.2.2)) else
  if a = 2 then (0, setC S (S.2.1.1, -1, S.2.1.2.2)) else
  if a = 3 then (0, setC S (S.2.1.1, S.2.1.2.1, 1, S.2.1.2.2.2)) else
  if a = 4 then (0, setC S (S.2.1.1, S.2.1.2.1, 0, S.2.1.2.2.2)) else
  if a = 5 then (0, setC S (S.2.1.1, S.2.1.2.1, S.2.1.2.2.1, x.toInt.toNat, S.2.1.2.2.2.2)) else
  if a = 6 then loA S w else
  if a = 7 then (0, setC S (S.2.1.1, S.2.1.2.1, S.2.1.2.2.1, S.2.1.2.2.2.1, [])) else
  if a = 8 then frA S x else if a = 9 then spA S x else if a = 10 then swA S x y else if a = 11 then wpA S else tlA S x w
/-! states stay good -/
theorem SV_none {S : SST} (h4 : S.1.length ≤ 400) (h12 : S.2.2.2.length ≤ 12) (hn : ∀ i, S.2.2.1 i = none) : SV S := by
  refine ⟨fun i t hi he => ?_, ?_, h12, fun i _ => hn i⟩
  · rw [hn i] at he; cases he
  · have e : bltS S = S.1 := blt_none (fun i _ => hn i) pcs_ord
    rw [e]; omega
theorem SV_C {S : SST} {cf : CFG} (h4 : S.1.length ≤ 400) (hV : SV S) : SV (setC S cf) := SV_none h4 hV.2.2.1 (fun _ => rfl)
theorem finA_c {S S1 : SST} : (finA S S1).1 = 3 ∨ (finA S S1).1 = 0 := by
  unfold finA
  split
  · exact Or.inl rfl
  · exact Or.inr rfl
theorem finA_SV {S S1 : SST} (hV : SV S) (h1 : VE S1.2.1 S1.2.2.1 (pcF S1)) (h2 : S1.2.2.2.length ≤ 12) (h3 : ∀ i, (pcF S1).length ≤ i → S1.2.2.1 i = none) : SV (finA S S1).2 := by
  unfold finA
  split
  · exact hV
  · exact ⟨h1, by show (bltS S1).length ≤ 600; omega, h2, h3⟩
theorem tset_ne {told : Nat → Option BL} {p i : Nat} {o : Option BL} (h : i ≠ p) : tset told p o i = told i := if_neg h
theorem tset_eq {told : Nat → Option BL} {p : Nat} {o : Option BL} : tset told p o p = o := if_pos rfl
theorem VE_tset {cf : CFG} {told : Nat → Option BL} {P : List Pc} {p : Nat} {o : Option BL} (h : VE cf told P) (ho : ∀ t, o = some t → escFor cf (P.getD p pc0) t ≠ none) : VE cf (tset told p o) P := by
  intro i t hi he
  by_cases e : i = p
  · rw [e, tset_eq] at he
    have := ho t he
    rw [e]
    cases hx : escFor cf (P.getD p pc0) t with
    | none => exact absurd hx this
    | some z => rfl
  · rw [tset_ne e] at he
    exact h i t hi he
theorem frA_SV {S : SST} {p : Int32} (hV : SV S) : SV (frA S p).2 := by
  unfold frA
  split
  · split
    · exact hV
    · refine finA_SV hV (VE_tset hV.1 (fun t e => by cases e)) hV.2.2.1 (fun i hi => ?_)
      by_cases e : i = p.toInt.toNat
      · rw [e]; exact tset_eq
      · exact (tset_ne e).trans (hV.2.2.2 i hi)
  · exact hV
theorem wpA_SV {S : SST} (h4 : S.1.length ≤ 400) (hV : SV S) : SV (wpA S).2 := by
  unfold wpA
  split
  · exact hV
  · exact SV_none h4 hV.2.2.1 (fun _ => rfl)
theorem tn_lt {p : Int32} {m : Nat} (h : 0 ≤ p.toInt ∧ p.toInt < (m : Int)) : p.toInt.toNat < m := by omega
theorem tset_out {S : SST} {p : Nat} {o : Option BL} (hV : SV S) (hp : p < (pcF S).length) : ∀ i, (pcF S).length ≤ i → tset S.2.2.1 p o i = none := fun i hi => (tset_ne (by omega)).trans (hV.2.2.2 i hi)
theorem memA_SV {S : SST} {x : Pc} {w : BL} (hV : SV S) : SV (memA S x w) := by
  unfold memA
  split
  · exact ⟨hV.1, hV.2.1, by show (List.take 12 _).length ≤ 12; rw [List.length_take]; omega, hV.2.2.2⟩
  · exact hV
theorem tlA_SV {S : SST} {p : Int32} {w : BL} (hV : SV S) : SV (tlA S p w).2 := by
  unfold tlA
  split
  · rename_i hp
    split
    · exact hV
    · rename_i he
      split
      · exact hV
      · rename_i hb
        exact memA_SV ⟨VE_tset hV.1 (fun t e => by cases e; exact he), by omega, hV.2.2.1, tset_out hV (tn_lt hp)⟩
  · exact hV
theorem spA_SV {S : SST} {p : Int32} (hV : SV S) : SV (spA S p).2 := by
  unfold spA
  split
  · split
    · exact hV
    · rename_i t ht
      split
      · exact hV
      · rename_i hs
        refine finA_SV hV (fun i u hi he => ?_) hV.2.2.1 (fun i hi => ?_)
        · have he : (if i < (pcF S).length ∧ lkB S p.toInt.toNat i = true then some t else S.2.2.1 i) = some u := he
          split at he
          · rename_i hc
            cases he
            cases hx : escFor S.2.1 ((pcF S).getD i pc0) t with
            | some z => show (escFor S.2.1 ((pcF S).getD i pc0) t).isSome = true; rw [hx]; rfl
            | none =>
              refine absurd ?_ hs
              unfold spN
              refine List.any_eq_true.mpr ⟨i, List.mem_range.mpr hi, ?_⟩
              rw [hc.2, show escFor S.2.1 (pOf S i) t = none from hx]; rfl
          · exact hV.1 i u hi he
        · exact (if_neg (fun q => absurd q.1 (Nat.not_lt.mpr hi))).trans (hV.2.2.2 i hi)
  · exact hV
theorem swA_SV {S : SST} {p o : Int32} (hV : SV S) : SV (swA S p o).2 := by
  unfold swA
  split
  · rename_i hp
    split
    · exact hV
    · split
      · exact hV
      · split
        · exact hV
        · rename_i he
          refine finA_SV hV (VE_tset (VE_tset hV.1 (fun t e => ?_)) (fun t e => ?_)) hV.2.2.1 (fun i hi => ?_)
          · cases e; exact fun q => he (Or.inl q)
          · cases e; exact fun q => he (Or.inr q)
          · have h1 := tn_lt hp.1
            have h2 := tn_lt hp.2
            have hi' : (pcF S).length ≤ i := hi
            exact (tset_ne (by omega)).trans ((tset_ne (by omega)).trans (hV.2.2.2 i hi))
  · exact hV
theorem SV_if {c : Prop} {d : Decidable c} {A B : Int32 × SST} (h1 : SV A.2) (h2 : SV B.2) : SV (@ite _ c d A B).2 := by
  by_cases h : c
  · rw [if_pos h]; exact h1
  · rw [if_neg h]; exact h2
theorem loA_SV {S : SST} {w : BL} (h4 : S.1.length ≤ 400) (hV : SV S) : SV (loA S w).2 := SV_if (SV_C h4 hV) hV
theorem dA_SV {S : SST} {a x y : Int32} {w : BL} (h4 : S.1.length ≤ 400) (hV : SV S) : SV (dA S a x y w).2 := SV_if (SV_C h4 hV) (SV_if (SV_C h4 hV) (SV_if (SV_C h4 hV) (SV_if (SV_C h4 hV) (SV_if (SV_C h4 hV) (SV_if (SV_C h4 hV) (SV_if (loA_SV h4 hV) (SV_if (SV_C h4 hV) (SV_if (frA_SV hV) (SV_if (spA_SV hV) (SV_if (swA_SV hV) (SV_if (wpA_SV h4 hV) (tlA_SV hV))))))))))))
