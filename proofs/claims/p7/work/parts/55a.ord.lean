/-! pieces lie in order -/
def SRTD (N : Nat) : Nat → List CI → Prop
  | _, [] => True
  | e, c :: cs => e ≤ c.1 ∧ c.1 < c.2.1 ∧ c.2.1 ≤ N ∧ SRTD N c.2.1 cs
theorem SRT_mono {N : Nat} {cs : List CI} {e e' : Nat} (h : SRTD N e cs) (he : e' ≤ e) : SRTD N e' cs := by
  cases cs with
  | nil => trivial
  | cons c cs => exact ⟨Nat.le_trans he h.1, h.2⟩
theorem cutL_srt {k : Int32} {L : BL} : ∀ (d a : Nat), L.length - a ≤ d → SRTD L.length a (cutL k L a) := by
  intro d
  induction d with
  | zero => intro a h; rw [cutL_end (by omega)]; trivial
  | succ d ih =>
    intro a h
    by_cases ha : a < L.length
    · rw [cutL_st ha]
      have hg := stepK_gt (k := k) ha
      have h2 := ih (stepK k L a).2 (by omega)
      cases e1 : (stepK k L a).1 with
      | none => exact SRT_mono h2 (by omega)
      | some c =>
        have hb := stepK_b ha e1
        exact ⟨hb.1, hb.2.1, hb.2.2.1, SRT_mono h2 hb.2.2.2⟩
    · rw [cutL_end (by omega)]; trivial
theorem plc_l {P R : List Pc} {i : Nat} (h : i ≤ P.length) : plc (P ++ R) i = plc P i := by
  cases i with
  | zero => rfl
  | succ i => show ((P ++ R).getD i pc0).2.1 = _; rw [pgd_l (by omega)]; rfl
theorem ORD_mono {P : List Pc} {N M : Nat} (h : ORD P N) (hm : N ≤ M) : ORD P M := ⟨fun i hi => ⟨(h.1 i hi).1, (h.1 i hi).2.1, Nat.le_trans (h.1 i hi).2.2 hm⟩, Nat.le_trans h.2 hm⟩
theorem ORD_app {P : List Pc} {N : Nat} {x : Pc} (h : ORD P N) (h1 : N ≤ x.1) (h2 : x.1 < x.2.1) : ORD (P ++ [x]) x.2.1 := by
  refine ⟨fun i hi => ?_, ?_⟩
  · rw [List.length_append] at hi
    by_cases e : i = P.length
    · rw [e, plc_l (Nat.le_refl _), pgd_n]
      exact ⟨Nat.le_trans h.2 h1, h2, Nat.le_refl _⟩
    · have hi2 : i < P.length := by have : i < P.length + 1 := hi; omega
      rw [plc_l (by omega), pgd_l hi2]
      have := h.1 i hi2
      exact ⟨this.1, this.2.1, by omega⟩
  · rw [List.length_append]
    show ((P ++ [x]).getD P.length pc0).2.1 ≤ _
    rw [pgd_n]; exact Nat.le_refl _
theorem ORD_tk {cf : CFG} {P : List Pc} {N : Nat} {x : Pc} (h : ORD P N) (h1 : N ≤ x.1) (h2 : x.1 < x.2.1) : ORD (tk cf P x) x.2.1 := by
  unfold tk
  split
  · exact ORD_app h h1 h2
  · exact ORD_mono h (by omega)
/-- where a byte of what is meant begins, or the end -/
def ueA (u : List UI) (b i : Nat) : Nat := if i < u.length then (u.getD i u0).2.1 else b
theorem ue_st {k : Int32} {q : Bool} {L : BL} {a b i : Nat} (hi : i < (und k q L a b).length) : ueA (und k q L a b) b i < ueA (und k q L a b) b (i + 1) ∧ ((und k q L a b).getD i u0).2.2 = ueA (und k q L a b) b (i + 1) := by
  have h := und_ch (k := k) (q := q) (L := L) (b := b) _ a (Nat.le_refl _) i hi
  unfold ueA
  rw [if_pos hi]
  by_cases h1 : i + 1 < (und k q L a b).length
  · rw [if_pos h1, ← h.2.2.2.2.1 h1]
    exact ⟨h.2.1, rfl⟩
  · rw [if_neg h1]
    have h9 := h.2.2.2.2.2 (by omega)
    exact ⟨by have := h.2.1; omega, h9⟩
theorem ue_mono {k : Int32} {q : Bool} {L : BL} {a b i j : Nat} (h : i ≤ j) : ueA (und k q L a b) b i ≤ ueA (und k q L a b) b j := by
  obtain ⟨d, rfl⟩ : ∃ d, j = i + d := ⟨j - i, by omega⟩
  clear h
  induction d with
  | zero => exact Nat.le_refl _
  | succ d ih =>
    refine Nat.le_trans ih ?_
    by_cases h1 : i + d < (und k q L a b).length
    · exact Nat.le_of_lt (ue_st h1).1
    · show ueA _ b (i + d) ≤ ueA _ b (i + d + 1)
      unfold ueA
      rw [if_neg h1, if_neg (by omega)]; exact Nat.le_refl _
theorem ue_end {u : List UI} {b i : Nat} (h : u.length ≤ i) : ueA u b i = b := if_neg (by omega)
theorem ORD_in {cf : CFG} {L : BL} {c : CI} : ∀ (ds : List CI) (P : List Pc) (a N : Nat), SRTD (uOf cf L c).length a ds → ORD P N → N ≤ ueA (uOf cf L c) c.2.1 a → ∃ M, M ≤ c.2.1 ∧ ORD ((ds.map (pcI cf c (uOf cf L c))).foldl (tk cf) P) (Nat.max N M) := by
  intro ds
  induction ds with
  | nil => intro P a N _ h _; exact ⟨0, Nat.zero_le _, ORD_mono h (Nat.le_max_left _ _)⟩
  | cons d ds ih =>
    intro P a N hs h hN
    obtain ⟨h1, h2, h3, h4⟩ := hs
    have hlt : d.1 < (uOf cf L c).length := by omega
    have e1 : (pcI cf c (uOf cf L c) d).1 = ueA (uOf cf L c) c.2.1 d.1 := by
      unfold ueA
      rw [if_pos hlt]; rfl
    have e2 : (pcI cf c (uOf cf L c) d).2.1 = ueA (uOf cf L c) c.2.1 d.2.1 := by
      have := (ue_st (k := cf.1) (q := c.2.2.1) (L := L) (a := c.1) (b := c.2.1) (i := d.2.1 - 1) (by show d.2.1 - 1 < (uOf cf L c).length; omega)).2
      rw [show d.2.1 - 1 + 1 = d.2.1 by omega] at this
      exact this
    have m1 : ueA (uOf cf L c) c.2.1 a ≤ ueA (uOf cf L c) c.2.1 d.1 := ue_mono h1
    have m2 : ueA (uOf cf L c) c.2.1 d.1 < ueA (uOf cf L c) c.2.1 (d.1 + 1) := (ue_st hlt).1
    have m3 : ueA (uOf cf L c) c.2.1 (d.1 + 1) ≤ ueA (uOf cf L c) c.2.1 d.2.1 := ue_mono h2
    have m4 : ueA (uOf cf L c) c.2.1 d.2.1 ≤ c.2.1 := by
      have : ueA (uOf cf L c) c.2.1 d.2.1 ≤ ueA (uOf cf L c) c.2.1 (uOf cf L c).length := ue_mono h3
      rw [ue_end (Nat.le_refl _)] at this
      exact this
    have hT := ORD_tk (cf := cf) (x := pcI cf c (uOf cf L c) d) h (by rw [e1]; omega) (by rw [e1, e2]; omega)
    rw [e2] at hT
    obtain ⟨M, hM1, hM2⟩ := ih _ d.2.1 _ h4 hT (Nat.le_refl _)
    refine ⟨Nat.max (ueA (uOf cf L c) c.2.1 d.2.1) M, Nat.max_le.mpr ⟨m4, hM1⟩, ?_⟩
    exact ORD_mono hM2 (Nat.le_max_right _ _)
theorem ORD_out {cf : CFG} {L : BL} : ∀ (cs : List CI) (P : List Pc) (e N : Nat), SRTD L.length e cs → ORD P N → N ≤ e → N ≤ L.length → ORD (cs.foldl (tkC cf L) P) L.length := by
  intro cs
  induction cs with
  | nil => intro P e N _ h _ hN; exact ORD_mono h hN
  | cons c cs ih =>
    intro P e N hs h hNe hN
    obtain ⟨h1, h2, h3, h4⟩ := hs
    have key : ORD (tkC cf L P c) c.2.1 := by
      unfold tkC
      split
      · exact ORD_mono h (by omega)
      · unfold pcC
        split
        · exact ORD_tk (x := pcO cf L c) h (by show N ≤ c.1; omega) h2
        · have hul : ((uOf cf L c).map (fun x => x.1)).length = (uOf cf L c).length := List.length_map _
          have hsr := cutL_srt (k := cf.2.1) (L := (uOf cf L c).map (fun x => x.1)) _ 0 (Nat.le_refl _)
          rw [hul] at hsr
          have hne := (und_len (k := cf.1) (q := c.2.2.1) (L := L) (b := c.2.1) _ c.1 (Nat.le_refl _)).2 h2
          have h0 : ueA (uOf cf L c) c.2.1 0 = c.1 := by
            unfold ueA
            rw [if_pos (show 0 < (uOf cf L c).length from hne)]
            exact (und_ch (k := cf.1) (q := c.2.2.1) (L := L) (b := c.2.1) _ c.1 (Nat.le_refl _) 0 hne).2.2.2.1 rfl
          obtain ⟨M, hM1, hM2⟩ := ORD_in _ P 0 N hsr h (by rw [h0]; omega)
          exact ORD_mono hM2 (Nat.max_le.mpr ⟨by omega, hM1⟩)
    exact ih _ c.2.1 c.2.1 h4 key (Nat.le_refl _) h3
theorem pcs_ord {cf : CFG} {L : BL} : ORD (pcs cf L) L.length := ORD_out _ [] 0 0 (cutL_srt _ 0 (Nat.le_refl _)) ⟨fun i hi => absurd hi (Nat.not_lt_zero _), Nat.le_refl _⟩ (Nat.le_refl _) (Nat.zero_le _)
