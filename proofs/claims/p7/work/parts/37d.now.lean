section NOWS
variable {G : TE} {F0 : AH} {S : Int32} {f : AH} {n : Nat}
theorem gI_fr {f g : AH} {j c k : Nat} (h : g j = f j) : gI g j c k = gI f j c k := by unfold gI; rw [h]
theorem gR_fr {f g : AH} {j c k : Nat} (h : g j = f j) : gR g j c k = gR f j c k := by unfold gR; rw [h]
theorem gL_fr {f g : AH} {j : Nat} (h : g j = f j) : gL g j = gL f j := by unfold gL; rw [h]
theorem gRA_fr {f g : AH} {j : Nat} {x : Int32} (h : g j = f j) : gRA g j x = gRA f j x := by unfold gRA; rw [h]
def L60 (f : AH) (n v0 : Nat) (v1 : Int32) (p : Nat) : Prop := ∀ (st : Nat) (x : Int32), gR f v0 8 1 = some (some st) → mX7_toldFor st v1 f n = some (none, (f, n)) → gI f p 3 3 = some x → x.toInt ≤ 60
theorem told_fr (hW : WT G F0 S f n) {g : AH} {m st : Nat} {v1 : Int32} {w : Option Nat} (hg : ∀ j, j < n → g j = f j) (hst : G.1 st = 7) (h : mX7_toldFor st v1 g m = some (w, (g, m))) : mX7_toldFor st v1 f n = some (w, (f, n)) := by
  obtain ⟨x, ex, hx⟩ := wt_gR (k := 9) (t := 111) hW hst rfl rfl (by decide)
  have hx : ∃ i, x = some i ∧ G.1 i = 11 := hx
  obtain ⟨ta, rfl, hta⟩ := hx
  have b1 := hW.2.1 st (by omega)
  have b2 := hW.2.1 ta (by omega)
  have e1 : gR g st 7 9 = some (some ta) := (gR_fr (hg st b1)).trans ex
  have e2 := wt_gL (N := 40) hW hta rfl rfl (by decide)
  have e3 : gL g ta = some 40 := (gL_fr (hg ta b2)).trans e2
  have e4 : gRA g ta v1 = gRA f ta v1 := gRA_fr (hg ta b2)
  unfold mX7_toldFor at h ⊢
  by_cases c : v1 < (0 : Int32)
  · rw [if_pos c] at h ⊢
    have q := (Prod.mk.inj (Option.some.inj (show some ((none : Option Nat), (g, m)) = some (w, (g, m)) from h))).1
    rw [← q]; rfl
  · rw [if_neg c, e1] at h
    rw [if_neg c, ex]
    rw [Option.bind_some, Option.bind_some, e3, Option.bind_some] at h
    rw [Option.bind_some, Option.bind_some, e2, Option.bind_some]
    by_cases c2 : nI 40 ≤ v1
    · rw [if_pos c2] at h ⊢
      have q := (Prod.mk.inj (Option.some.inj (show some ((none : Option Nat), (g, m)) = some (w, (g, m)) from h))).1
      rw [← q]; rfl
    · rw [if_neg c2, Option.bind_some, Option.bind_some, e4] at h
      rw [if_neg c2, Option.bind_some, Option.bind_some]
      cases hr : gRA f ta v1 with
      | none => rw [hr] at h; cases h
      | some r =>
        rw [hr] at h
        have q := (Prod.mk.inj (Option.some.inj (show some (r, (g, m)) = some (w, (g, m)) from h))).1
        rw [← q]; rfl
theorem L60_fr (hW : WT G F0 S f n) {g : AH} {m v0 p : Nat} {v1 : Int32} (hg : ∀ j, j < n → g j = f j) (h0 : G.1 v0 = 8) (hp : G.1 p = 3) (h : L60 f n v0 v1 p) : L60 g m v0 v1 p := by
  intro st x e1 e2 e3
  have b0 := hW.2.1 v0 (by omega)
  have b1 := hW.2.1 p (by omega)
  rw [gR_fr (hg v0 b0)] at e1
  rw [gI_fr (hg p b1)] at e3
  obtain ⟨y, ey, hy⟩ := wt_gR (k := 1) (t := 107) hW h0 rfl rfl (by decide)
  have hy : ∃ i, y = some i ∧ G.1 i = 7 := hy
  obtain ⟨i, rfl, hi⟩ := hy
  have hst : G.1 st = 7 := by
    have q := Option.some.inj (Option.some.inj (e1.symm.trans ey))
    rw [q]; exact hi
  exact h st x e1 (told_fr hW hg hst e2) e3
theorem po_af {α β : Type} {Q : β → AH → Nat → Prop} {o : Option (α × HpN)} {P : TE → α → AH → Prop} {k : α × HpN → Option (β × HpN)} (h1 : PO o (fun v f' n' => ∃ G', EXT G G' ∧ WT G' F0 S f' n' ∧ P G' v f')) (h : ∀ v f' n' G', EXT G G' → WT G' F0 S f' n' → P G' v f' → PO (k (v, (f', n'))) Q) : PO (o.bind k) Q := by
  obtain ⟨v, f', n', e, G', hx, hw, hp⟩ := h1
  rw [e]; exact h v f' n' G' hx hw hp
end NOWS
