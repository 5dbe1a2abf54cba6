/-! undoing the escapes of a piece of a row -/
def SRC (r bg fn N : Nat) (σ τ : RS9) : Prop := (∀ i, i < N → τ.2 r i = σ.2 r i ∧ τ.2 bg i = σ.2 bg i ∧ τ.2 fn i = σ.2 fn i ∧ 0 ≤ (σ.2 bg i).toInt ∧ (σ.2 bg i).toInt < (σ.2 fn i).toInt) ∧ ∀ i j, i < j → j < N → (σ.2 fn i).toInt ≤ (σ.2 bg j).toInt
def OU (o ob oe n : Nat) (lo h : Int) (σ τ : RS9) : Prop := ∀ i, i < n → τ.2 o i = σ.2 o i ∧ τ.2 ob i = σ.2 ob i ∧ τ.2 oe i = σ.2 oe i ∧ lo ≤ (σ.2 ob i).toInt ∧ (σ.2 ob i).toInt < (σ.2 oe i).toInt ∧ (σ.2 oe i).toInt ≤ h ∧ ∀ j, j < i → (σ.2 oe j).toInt ≤ (σ.2 ob i).toInt
def FRu (o ob oe : Nat) (σ0 σ : RS9) : Prop := (∀ k, k ≠ o → k ≠ ob → k ≠ oe → σ.2 k = σ0.2 k) ∧ ∀ k, k ≠ 55 → σ.1 k = σ0.1 k
def RU (r bg fn o ob oe : Nat) : Prop := rLen r = 600 ∧ rLen bg = 600 ∧ rLen fn = 600 ∧ rLen o = 600 ∧ rLen ob = 600 ∧ rLen oe = 600 ∧ r ≠ o ∧ r ≠ ob ∧ r ≠ oe ∧ bg ≠ o ∧ bg ≠ ob ∧ bg ≠ oe ∧ fn ≠ o ∧ fn ≠ ob ∧ fn ≠ oe ∧ o ≠ ob ∧ o ≠ oe ∧ ob ≠ oe
theorem src_fr {r bg fn N : Nat} {σ τ σ' τ' : RS9} (h : SRC r bg fn N σ τ) (a1 : σ'.2 r = σ.2 r) (a2 : σ'.2 bg = σ.2 bg) (a3 : σ'.2 fn = σ.2 fn) (b1 : τ'.2 r = τ.2 r) (b2 : τ'.2 bg = τ.2 bg) (b3 : τ'.2 fn = τ.2 fn) : SRC r bg fn N σ' τ' := by
  unfold SRC
  rw [a1, a2, a3, b1, b2, b3]
  exact h
theorem src_mono {r bg fn N : Nat} {σ τ : RS9} (h : SRC r bg fn N σ τ) {t u : Nat} (htu : t ≤ u) (hu : u < N) : (σ.2 fn t).toInt ≤ (σ.2 fn u).toInt := by
  by_cases e : t = u
  · rw [e]; exact Int.le_refl _
  · have h1 := h.2 t u (by omega) hu
    have h2 := (h.1 u hu).2.2.2.2
    omega
/-- three rows written at one place -/
def w3 (s : RS9) (o ob oe n : Nat) (x y z : Int32) : RS9 := rSa (rSa (rSa s o (nI n) x) ob (nI n) y) oe (nI n) z
section W3
variable {s : RS9} {o ob oe n : Nat} {x y z : Int32}
theorem w3_o (hn : n < 600) (h1 : o ≠ ob) (h2 : o ≠ oe) {i : Nat} : (w3 s o ob oe n x y z).2 o i = if i = n then x else s.2 o i := by unfold w3; rw [sa_ne h2, sa_ne h1, sa_nI (by omega)]
theorem w3_b (hn : n < 600) (h1 : o ≠ ob) (h2 : ob ≠ oe) {i : Nat} : (w3 s o ob oe n x y z).2 ob i = if i = n then y else s.2 ob i := by unfold w3; rw [sa_ne h2, sa_nI (by omega), sa_ne h1.symm]
theorem w3_e (hn : n < 600) (h1 : o ≠ oe) (h2 : ob ≠ oe) {i : Nat} : (w3 s o ob oe n x y z).2 oe i = if i = n then z else s.2 oe i := by unfold w3; rw [sa_nI (by omega), sa_ne h2.symm, sa_ne h1.symm]
theorem w3_k {k : Nat} (h1 : k ≠ o) (h2 : k ≠ ob) (h3 : k ≠ oe) : (w3 s o ob oe n x y z).2 k = s.2 k := by unfold w3; rw [sa_ne h3, sa_ne h2, sa_ne h1]
end W3
set_option maxHeartbeats 1000000 in
theorem t2_undoes_l7 {v1 v2 : Int32} {r bg fn o ob oe N b : Nat} {σ0 τ0 : RS9} {lo HI : Int} (hU : RU r bg fn o ob oe) (hb : b ≤ N ∧ N ≤ 600) : ∀ (d n k : Nat) (h : Int) (σ τ : RS9), SRC r bg fn N σ τ → FRu o ob oe σ0 σ → FRu o ob oe τ0 τ → OU o ob oe n lo h σ τ → lo + n ≤ h → (∀ t, k ≤ t → t < N → h ≤ (σ.2 bg t).toInt) → n ≤ k → k ≤ b → h ≤ HI → (∀ t, t < b → (σ.2 fn t).toInt ≤ HI) → 1000 < k + d → P2 (mX9_undoes_l7 d v1 v2 r bg fn (nI b) o ob oe (nI n) (nI k) σ) (mX9_undoes_l7 d v1 v2 r bg fn (nI b) o ob oe (nI n) (nI k) τ) (fun v σ' v' τ' => ∃ n' : Nat, v = nI n' ∧ v' = nI n' ∧ n' ≤ b ∧ (k < b → n < n') ∧ n ≤ n' ∧ lo + n' ≤ HI ∧ OU o ob oe n' lo HI σ' τ' ∧ FRu o ob oe σ0 σ' ∧ FRu o ob oe τ0 τ') := by
  intro d
  induction d with
  | zero => intro n k h σ τ _ _ _ _ _ _ _ _ _ _ hm; exfalso; omega
  | succ d ih =>
    intro n k h σ τ hS hF hF' hO hlo hbg hnk hkb hHI hfn hm
    have hU0 := hU
    obtain ⟨l1, l2, l3, l4, l5, l6, d1, d2, d3, d4, d5, d6, d7, d8, d9, d10, d11, d12⟩ := hU
    have ek : (nI k).toInt = (k : Int) := nI_toInt (by omega)
    have eb : (nI b).toInt = (b : Int) := nI_toInt (by omega)
    unfold mX9_undoes_l7
    refine p2_le eb ek rfl rfl (fun q => ?_) (fun q => ?_)
    · refine p2_ret ⟨n, rfl, rfl, by omega, fun q2 => by omega, Nat.le_refl _, by omega, fun i hi => ?_, hF, hF'⟩
      obtain ⟨a1, a2, a3, a4, a5, a6, a7⟩ := hO i hi
      exact ⟨a1, a2, a3, a4, a5, by omega, a7⟩
    · refine p2_call (t2_means l1 (by omega) (fun x hx => by
        unfold rGa
        have := (hS.1 x.toNatClampNeg (by rw [tn]; omega)).1
        exact this)) (fun v s v' t hq => ?_)
      obtain ⟨hM, m, rfl, rfl, hm1, hm5, hkm⟩ := hq
      dsimp only
      have em : (nI k + nI m) - (1 : Int32) = nI (k + m - 1) := by
        have e : k + m = (k + m - 1) + 1 := by omega
        rw [nI_add, e, nI_pred]; rfl
      have ey : ∀ (u : RS9) (x : Int32), rGa (rSa u o (nI n) x) bg (nI k) = u.2 bg k := fun u x => by
        unfold rGa; rw [sa_ne d4, nI_clamp (by omega)]
      have ez : ∀ (u : RS9) (x y : Int32), rGa (rSa (rSa u o (nI n) x) ob (nI n) y) fn (nI (k + m - 1)) = u.2 fn (k + m - 1) := fun u x y => by
        unfold rGa; rw [sa_ne d8, sa_ne d7, nI_clamp (by omega)]
      rw [em, ey, ey, ez, ez, nI_1, nI_add]
      have cn : ∀ z : Nat, rLen z = 600 → rIn (nI n) (rLen z) = true := fun z hz => by rw [hz]; exact inb_nI (by omega) (by omega)
      refine p2_ck (cn o l4) (cn o l4) ?_
      refine p2_ck (by rw [l2]; exact inb_nI (by omega) (by omega)) (by rw [l2]; exact inb_nI (by omega) (by omega)) ?_
      refine p2_ck (cn ob l5) (cn ob l5) ?_
      refine p2_ck (by rw [l3]; exact inb_nI (by omega) (by omega)) (by rw [l3]; exact inb_nI (by omega) (by omega)) ?_
      refine p2_ck (cn oe l6) (cn oe l6) ?_
      obtain ⟨M1, M2, M3, M4, M5⟩ := hM
      obtain ⟨c1, c2, c3, c4, c5⟩ := hS.1 k (by omega)
      obtain ⟨f1, f2, f3, f4, f5⟩ := hS.1 (k + m - 1) (by omega)
      rw [M1, M2, c2, f3, M5]
      have hh := hbg k (Nat.le_refl _) (by omega)
      have hfk : (σ.2 bg k).toInt < (σ.2 fn (k + m - 1)).toInt := by
        have := src_mono hS (t := k) (u := k + m - 1) (by omega) (by omega)
        omega
      have rk : ∀ z, z ≠ o → z ≠ ob → z ≠ oe → (w3 s o ob oe n (s.1 55) (σ.2 bg k) (σ.2 fn (k + m - 1))).2 z = σ.2 z := fun z e1 e2 e3 => (w3_k e1 e2 e3).trans (by rw [M1])
      have rk' : ∀ z, z ≠ o → z ≠ ob → z ≠ oe → (w3 t o ob oe n (s.1 55) (σ.2 bg k) (σ.2 fn (k + m - 1))).2 z = τ.2 z := fun z e1 e2 e3 => (w3_k e1 e2 e3).trans (by rw [M2])
      have hn6 : n < 600 := by omega
      refine p2_tail (ih (n + 1) (k + m) (σ.2 fn (k + m - 1)).toInt (w3 s o ob oe n (s.1 55) (σ.2 bg k) (σ.2 fn (k + m - 1))) (w3 t o ob oe n (s.1 55) (σ.2 bg k) (σ.2 fn (k + m - 1))) ?_ ?_ ?_ ?_ ?_ ?_ (by omega) hkm ?_ ?_ (by omega)) ?_
      · exact src_fr hS (rk r d1 d2 d3) (rk bg d4 d5 d6) (rk fn d7 d8 d9) (rk' r d1 d2 d3) (rk' bg d4 d5 d6) (rk' fn d7 d8 d9)
      · exact ⟨fun z e1 e2 e3 => (rk z e1 e2 e3).trans (hF.1 z e1 e2 e3), fun z e => (M3 z e).trans (hF.2 z e)⟩
      · exact ⟨fun z e1 e2 e3 => (rk' z e1 e2 e3).trans (hF'.1 z e1 e2 e3), fun z e => (M4 z e).trans (hF'.2 z e)⟩
      · intro i hi
        rw [w3_o hn6 d10 d11, w3_o hn6 d10 d11, w3_b hn6 d10 d12, w3_b hn6 d10 d12, w3_e hn6 d11 d12, w3_e hn6 d11 d12, M1, M2]
        by_cases hin : i = n
        · simp only [if_pos hin]
          refine ⟨trivial, trivial, trivial, by omega, hfk, Int.le_refl _, fun j hj => ?_⟩
          rw [w3_e hn6 d11 d12, if_neg (by omega), M1]
          have := (hO j (by omega)).2.2.2.2.2.1
          omega
        · simp only [if_neg hin]
          obtain ⟨a1, a2, a3, a4, a5, a6, a7⟩ := hO i (by omega)
          refine ⟨a1, a2, a3, a4, a5, by omega, fun j hj => ?_⟩
          rw [w3_e hn6 d11 d12, if_neg (by omega), M1]
          exact a7 j hj
      · omega
      · intro u hu hN
        rw [rk bg d4 d5 d6]
        exact hS.2 (k + m - 1) u (by omega) hN
      · exact hfn _ (by omega)
      · intro u hu
        rw [rk fn d7 d8 d9]
        exact hfn u hu
      · intro v s2 v' t2 ⟨n', a1, a2, a3, a4, a5, a6, a7, a8, a9⟩
        exact ⟨n', a1, a2, a3, fun _ => by omega, by omega, a6, a7, a8, a9⟩
theorem t2_undoes {v1 v2 : Int32} {r bg fn o ob oe N a b : Nat} {σ τ : RS9} (hU : RU r bg fn o ob oe) (hab : a < b ∧ b ≤ N ∧ N ≤ 600) (hS : SRC r bg fn N σ τ) : P2 (mX9_undoes v1 v2 r bg fn (nI a) (nI b) o ob oe σ) (mX9_undoes v1 v2 r bg fn (nI a) (nI b) o ob oe τ) (fun v σ' v' τ' => ∃ n' : Nat, v = nI n' ∧ v' = nI n' ∧ 0 < n' ∧ n' ≤ 600 ∧ (σ.2 bg a).toInt + n' ≤ (σ.2 fn (b - 1)).toInt ∧ OU o ob oe n' (σ.2 bg a).toInt (σ.2 fn (b - 1)).toInt σ' τ' ∧ FRu o ob oe σ σ' ∧ FRu o ob oe τ τ') := by
  unfold mX9_undoes
  refine p2_tail (t2_undoes_l7 (lo := (σ.2 bg a).toInt) (HI := (σ.2 fn (b - 1)).toInt) hU hab.2 rFU 0 a (σ.2 bg a).toInt σ τ hS ⟨fun _ _ _ _ => rfl, fun _ _ => rfl⟩ ⟨fun _ _ _ _ => rfl, fun _ _ => rfl⟩ (fun i hi => absurd hi (by omega)) (by omega) (fun t ht hN => ?_) (by omega) (by omega) ?_ (fun t ht => src_mono hS (by omega) (by omega)) (by unfold rFU; omega)) ?_
  · by_cases e : t = a
    · rw [e]; exact Int.le_refl _
    · have h1 := hS.2 a t (by omega) hN
      have h2 := (hS.1 a (by omega)).2.2.2.2
      omega
  · have h1 := src_mono hS (t := a) (u := b - 1) (by omega) (by omega)
    have h2 := (hS.1 a (by omega)).2.2.2.2
    omega
  · intro v s v' t ⟨n', a1, a2, a3, a4, a5, a6, a7, a8, a9⟩
    exact ⟨n', a1, a2, a4 hab.1, by omega, by omega, a7, a8, a9⟩
