/-! what is built -/
def OUT (j : Nat) : Prop := j < 59 ∨ 224 ≤ j
def bOf (cf : CFG) (F : BL) (told : Nat → Option BL) (i : Nat) (x : Pc) : BL := match told i with
  | none => sl F x.1 x.2.1
  | some t => (escFor cf x t).getD []
def plc (P : List Pc) : Nat → Nat
  | 0 => 0
  | i + 1 => (P.getD i pc0).2.1
def rowTo (cf : CFG) (F : BL) (told : Nat → Option BL) (P : List Pc) : Nat → BL
  | 0 => []
  | i + 1 => rowTo cf F told P i ++ sl F (plc P i) (P.getD i pc0).1 ++ bOf cf F told i (P.getD i pc0)
def blt (cf : CFG) (F : BL) (told : Nat → Option BL) (P : List Pc) : BL := rowTo cf F told P P.length ++ sl F (plc P P.length) F.length
def bbeg (cf : CFG) (F : BL) (told : Nat → Option BL) (P : List Pc) (i : Nat) : Nat := (rowTo cf F told P i ++ sl F (plc P i) (P.getD i pc0).1).length
def bsz (cf : CFG) (F : BL) (told : Nat → Option BL) (P : List Pc) (i : Nat) : Nat := (bOf cf F told i (P.getD i pc0)).length
/-- pieces lie in order -/
def ORD (P : List Pc) (N : Nat) : Prop := (∀ i, i < P.length → plc P i ≤ (P.getD i pc0).1 ∧ (P.getD i pc0).1 < (P.getD i pc0).2.1 ∧ (P.getD i pc0).2.1 ≤ N) ∧ plc P P.length ≤ N
/-- what is told for pieces can be -/
def VE (cf : CFG) (told : Nat → Option BL) (P : List Pc) : Prop := ∀ i t, i < P.length → told i = some t → (escFor cf (P.getD i pc0) t).isSome = true
def TLDS (f : AH) (td : Nat) (told : Nat → Option BL) : Prop := (∃ g : Nat → Option Nat, f td = some (.inl (2, 40, .inr (.inr g))) ∧ ∀ i, i < 40 → (match told i with
  | none => g i = none
  | some t => ∃ j b c, g i = some j ∧ isRw f j b c t ∧ OUT j ∧ OUT b ∧ t.length ≤ 60))
theorem TLDS_tr {f f' : AH} {td : Nat} {told : Nat → Option BL} (h : TLDS f td told) (h1 : f' td = f td) (hF : ∀ i t j b c, i < 40 → told i = some t → isRw f j b c t → OUT j → OUT b → f' j = f j ∧ f' b = f b) : TLDS f' td told := by
  obtain ⟨g, h2, h3⟩ := h
  refine ⟨g, h1.trans h2, fun i hi => ?_⟩
  have h4 := h3 i hi
  cases e : told i with
  | none => rw [e] at h4; exact h4
  | some t =>
    rw [e] at h4
    obtain ⟨j, b, c, k1, k2, k3, k4, k5⟩ := h4
    have k6 := hF i t j b c hi e k2 k3 k4
    exact ⟨j, b, c, k1, rw_tr k2 k6.1 k6.2, k3, k4, k5⟩
theorem rowTo_mono {cf : CFG} {F : BL} {told : Nat → Option BL} {P : List Pc} {i k : Nat} (h : i ≤ k) : (rowTo cf F told P i).length ≤ (rowTo cf F told P k).length := by
  obtain ⟨d, rfl⟩ : ∃ d, k = i + d := ⟨k - i, by omega⟩
  clear h
  induction d with
  | zero => exact Nat.le_refl _
  | succ d ih =>
    refine Nat.le_trans ih ?_
    show _ ≤ (rowTo cf F told P (i + d) ++ sl F (plc P (i + d)) (P.getD (i + d) pc0).1 ++ bOf cf F told (i + d) (P.getD (i + d) pc0)).length
    rw [List.length_append, List.length_append]; omega
theorem blt_ge {cf : CFG} {F : BL} {told : Nat → Option BL} {P : List Pc} {k : Nat} (h : k ≤ P.length) : (rowTo cf F told P k).length ≤ (blt cf F told P).length := by
  refine Nat.le_trans (rowTo_mono h) ?_
  unfold blt
  rw [List.length_append]; omega
section MAK
variable {f : AH} {n c0 : Nat} {P : List Pc}
theorem f_cget {v : Int32} (hC : CB f c0 P) : PQ (mX1_get c0 v f n) (fun y => y = (if 0 ≤ v.toInt ∧ v.toInt < P.length then some (c0 + 16 + v.toInt.toNat) else none, f, n)) := by
  obtain ⟨a1, ⟨g, a2, a2'⟩, a3, a4, a5⟩ := hC
  unfold mX1_get
  refine pq_lt rfl kt_0 (fun q => pq_ret (by rw [if_neg (by omega)])) (fun q => ?_)
  refine pq_gI a1 rfl ?_
  refine pq_le (nI_toInt (by omega)) rfl (fun q2 => pq_ret (by rw [if_neg (by omega)])) (fun q2 => ?_)
  refine pq_gR a1 rfl (pq_sb (pq_gL a2 (by omega) ?_))
  refine pq_le (nI_toInt (by omega)) rfl (fun q3 => by omega) (fun q3 => ?_)
  refine pq_gR a1 rfl (pq_sb (pq_gRA a2 (fun _ => pq_ret ?_)))
  rw [if_pos (by omega)]
  have e : v.toNatClampNeg = v.toInt.toNat := rfl
  rw [e, a2' _ (by omega)]
theorem f_cgetN {i : Nat} (hC : CB f c0 P) (hi : i < P.length) : PQ (mX1_get c0 (nI i) f n) (fun y => y = (some (c0 + 16 + i), f, n)) := by
  have h5 := hC.2.2.2.2
  refine pq_tail (f_cget hC) (fun y hy => ?_)
  rw [nI_toInt (by omega), if_pos (by omega)] at hy
  exact hy
theorem f_csize (hC : CB f c0 P) : PQ (mX1_size c0 f n) (fun y => y = (nI P.length, f, n)) := by
  unfold mX1_size
  exact pq_gI hC.1 rfl (pq_ret rfl)
/-- what is told for a number -/
def toldV (told : Nat → Option BL) (v : Int32) : Option BL := if 0 ≤ v.toInt ∧ v.toInt < 40 then told v.toInt.toNat else none
def TW (f : AH) (o : Option BL) (w : Option Nat) : Prop := match o with
  | none => w = none
  | some t => ∃ j b c, w = some j ∧ isRw f j b c t ∧ OUT j ∧ OUT b ∧ t.length ≤ 60
theorem f_toldFor {st td : Nat} {fs : List Value} {told : Nat → Option BL} {v : Int32} (hst : f st = some (.inr (7, fs))) (h9 : fs[9]? = some (.ref td)) (hT : TLDS f td told) : PQ (mX7_toldFor st v f n) (fun y => ∃ w, y = (w, f, n) ∧ TW f (toldV told v) w) := by
  obtain ⟨g, h2, h3⟩ := hT
  unfold mX7_toldFor toldV
  refine pq_lt rfl kt_0 (fun q => pq_ret ⟨none, rfl, by rw [if_neg (by omega)]; rfl⟩) (fun q => ?_)
  refine pq_gR hst h9 (pq_sb (pq_gL h2 (by omega) ?_))
  refine pq_le kn_40 rfl (fun q2 => pq_ret ⟨none, rfl, by rw [if_neg (by omega)]; rfl⟩) (fun q2 => ?_)
  refine pq_gR hst h9 (pq_sb (pq_gRA h2 (fun _ => pq_ret ⟨_, rfl, ?_⟩)))
  rw [if_pos (by omega)]
  have h4 := h3 v.toInt.toNat (by omega)
  have e : v.toNatClampNeg = v.toInt.toNat := rfl
  rw [e]
  unfold TW
  cases et : told v.toInt.toNat with
  | none => rw [et] at h4; exact h4
  | some t => rw [et] at h4; exact h4
end MAK
