def FT1 (σ σ' : RS9) : Prop := (∀ k, k ≠ 43 → k ≠ 44 → σ'.2 k = σ.2 k) ∧ ∀ k, k ≠ 33 → k ≠ 45 → σ'.1 k = σ.1 k
set_option maxHeartbeats 1000000 in
theorem t2_takes_l137 {t bg : Nat} (ht : rLen t = 600) (hb : rLen bg = 600) : ∀ (d n k bm : Nat) (σ τ : RS9), σ.1 45 = nI bm → τ.1 45 = nI bm → k ≤ n → n ≤ 600 → bm + (n - k) ≤ 600 → 1000 < k + d → P2 (mX9_takes_l137 d t bg (nI n) (nI k) σ) (mX9_takes_l137 d t bg (nI n) (nI k) τ) (fun v σ' v' τ' => FT1 σ σ' ∧ FT1 τ τ' ∧ σ'.1 45 = nI (bm + (n - k)) ∧ τ'.1 45 = nI (bm + (n - k)) ∧ σ'.1 33 = σ.1 33 + 1 ∧ τ'.1 33 = τ.1 33 + 1) := by
  intro d
  induction d with
  | zero => intro n k bm σ τ _ _ _ _ _ hm; exfalso; omega
  | succ d ih =>
    intro n k bm σ τ h1 h2 hkn hn hbm hm
    have en : (nI n).toInt = (n : Int) := nI_toInt (by omega)
    have ek : (nI k).toInt = (k : Int) := nI_toInt (by omega)
    unfold mX9_takes_l137
    refine p2_le en ek rfl rfl (fun q => ?_) (fun q => ?_)
    · have e : n - k = 0 := by omega
      rw [e]
      exact p2_ret ⟨⟨fun _ _ _ => rfl, fun _ e1 _ => sf_ne e1⟩, ⟨fun _ _ _ => rfl, fun _ e1 _ => sf_ne e1⟩, (sf_ne (by decide)).trans h1, (sf_ne (by decide)).trans h2, sf_eq, sf_eq⟩
    · have c1 : rIn (nI k) 600 = true := inb_nI (by omega) (by decide)
      have c2 : rIn (nI bm) 600 = true := inb_nI (by omega) (by decide)
      rw [h1, h2]
      refine p2_ck (by rw [ht]; exact c1) (by rw [ht]; exact c1) ?_
      refine p2_ck c2 c2 ?_
      refine p2_ck (by rw [hb]; exact c1) (by rw [hb]; exact c1) ?_
      refine p2_ck c2 c2 ?_
      rw [nI_1, nI_1]
      refine p2_tail (ih n (k + 1) (bm + 1) _ _ sf_eq sf_eq (by omega) hn (by omega) (by omega)) (fun v s v' t2 hq => ?_)
      obtain ⟨⟨a1, a2⟩, ⟨b1, b2⟩, a3, b3, a4, b4⟩ := hq
      have e : bm + 1 + (n - (k + 1)) = bm + (n - k) := by omega
      rw [e] at a3 b3
      refine ⟨⟨fun z e1 e2 => ?_, fun z e1 e2 => ?_⟩, ⟨fun z e1 e2 => ?_, fun z e1 e2 => ?_⟩, a3, b3, ?_, ?_⟩
      · exact (a1 z e1 e2).trans ((sa_ne e2).trans (sa_ne e1))
      · exact (a2 z e1 e2).trans (sf_ne e2)
      · exact (b1 z e1 e2).trans ((sa_ne e2).trans (sa_ne e1))
      · exact (b2 z e1 e2).trans (sf_ne e2)
      · rw [a4, sf_ne (by decide)]; rfl
      · rw [b4, sf_ne (by decide)]; rfl
def w9 (s : RS9) (p : Nat) (x34 x35 x36 x37 x38 x39 x40 x41 x42 : Int32) : RS9 := rSa (rSa (rSa (rSa (rSa (rSa (rSa (rSa (rSa s 34 (nI p) x34) 35 (nI p) x35) 36 (nI p) x36) 37 (nI p) x37) 38 (nI p) x38) 39 (nI p) x39) 40 (nI p) x40) 41 (nI p) x41) 42 (nI p) x42
section W9
variable {s : RS9} {p i : Nat} {x34 x35 x36 x37 x38 x39 x40 x41 x42 : Int32} (hp : p < 40)
theorem w9_k {k : Nat} (h : k < 34 ∨ 42 < k) : (w9 s p x34 x35 x36 x37 x38 x39 x40 x41 x42).2 k = s.2 k := by
  unfold w9
  rw [sa_ne (by omega), sa_ne (by omega), sa_ne (by omega), sa_ne (by omega), sa_ne (by omega), sa_ne (by omega), sa_ne (by omega), sa_ne (by omega), sa_ne (by omega)]
theorem w9_34 (hp : p < 40) : (w9 s p x34 x35 x36 x37 x38 x39 x40 x41 x42).2 34 i = if i = p then x34 else s.2 34 i := by
  unfold w9
  rw [sa_ne (by decide), sa_ne (by decide), sa_ne (by decide), sa_ne (by decide), sa_ne (by decide), sa_ne (by decide), sa_ne (by decide), sa_ne (by decide), sa_nI (by omega)]
theorem w9_35 (hp : p < 40) : (w9 s p x34 x35 x36 x37 x38 x39 x40 x41 x42).2 35 i = if i = p then x35 else s.2 35 i := by
  unfold w9
  rw [sa_ne (by decide), sa_ne (by decide), sa_ne (by decide), sa_ne (by decide), sa_ne (by decide), sa_ne (by decide), sa_ne (by decide), sa_nI (by omega), sa_ne (by decide)]
theorem w9_36 (hp : p < 40) : (w9 s p x34 x35 x36 x37 x38 x39 x40 x41 x42).2 36 i = if i = p then x36 else s.2 36 i := by
  unfold w9
  rw [sa_ne (by decide), sa_ne (by decide), sa_ne (by decide), sa_ne (by decide), sa_ne (by decide), sa_ne (by decide), sa_nI (by omega), sa_ne (by decide), sa_ne (by decide)]
theorem w9_37 (hp : p < 40) : (w9 s p x34 x35 x36 x37 x38 x39 x40 x41 x42).2 37 i = if i = p then x37 else s.2 37 i := by
  unfold w9
  rw [sa_ne (by decide), sa_ne (by decide), sa_ne (by decide), sa_ne (by decide), sa_ne (by decide), sa_nI (by omega), sa_ne (by decide), sa_ne (by decide), sa_ne (by decide)]
theorem w9_38 (hp : p < 40) : (w9 s p x34 x35 x36 x37 x38 x39 x40 x41 x42).2 38 i = if i = p then x38 else s.2 38 i := by
  unfold w9
  rw [sa_ne (by decide), sa_ne (by decide), sa_ne (by decide), sa_ne (by decide), sa_nI (by omega), sa_ne (by decide), sa_ne (by decide), sa_ne (by decide), sa_ne (by decide)]
theorem w9_41 (hp : p < 40) : (w9 s p x34 x35 x36 x37 x38 x39 x40 x41 x42).2 41 i = if i = p then x41 else s.2 41 i := by
  unfold w9
  rw [sa_ne (by decide), sa_nI (by omega), sa_ne (by decide), sa_ne (by decide), sa_ne (by decide), sa_ne (by decide), sa_ne (by decide), sa_ne (by decide), sa_ne (by decide)]
theorem w9_42 (hp : p < 40) : (w9 s p x34 x35 x36 x37 x38 x39 x40 x41 x42).2 42 i = if i = p then x42 else s.2 42 i := by
  unfold w9
  rw [sa_nI (by omega), sa_ne (by decide), sa_ne (by decide), sa_ne (by decide), sa_ne (by decide), sa_ne (by decide), sa_ne (by decide), sa_ne (by decide), sa_ne (by decide)]
end W9
def FT2 (σ σ' : RS9) : Prop := (∀ k, k < 34 ∨ 44 < k → σ'.2 k = σ.2 k) ∧ ∀ k, k ≠ 33 → k ≠ 45 → σ'.1 k = σ.1 k
set_option maxHeartbeats 1000000 in
theorem pr_take {p n bm : Nat} {L hi : Int} {σ τ σ' τ' : RS9} {x34 x35 x36 x37 x38 x39 x40 y39 y40 : Int32} (hP : PR p L σ τ) (hp : p < 40) (h34 : L ≤ x34.toInt) (h35 : x34.toInt + n ≤ x35.toInt) (h35' : x35.toInt ≤ hi) (hn : 1 ≤ n ∧ n ≤ 600) (hh : hi ≤ 600) (hF : FT1 (w9 σ p x34 x35 x36 x37 x38 x39 x40 (nI bm) (nI n)) σ') (hF' : FT1 (w9 τ p x34 x35 x36 x37 x38 y39 y40 (nI bm) (nI n)) τ') (hb6 : bm ≤ 600) (hbm : σ.1 45 = nI bm) (h45 : σ'.1 45 = nI (bm + n)) (h45' : τ'.1 45 = nI (bm + n)) (h33 : σ'.1 33 = σ.1 33 + 1) (h33' : τ'.1 33 = τ.1 33 + 1) : PR (p + 1) hi σ' τ' ∧ FT2 σ σ' ∧ FT2 τ τ' := by
  obtain ⟨a1, a2, a3, a4, a5, a6, a7, a8⟩ := hP
  have eb : (nI bm).toInt = (bm : Int) := nI_toInt (by omega)
  have en : (nI n).toInt = (n : Int) := nI_toInt (by omega)
  have ebn : (nI (bm + n)).toInt = ((bm + n : Nat) : Int) := nI_toInt (by omega)
  rw [hbm, eb] at a5 a6
  have r : ∀ k, k ≠ 43 → k ≠ 44 → σ'.2 k = (w9 σ p x34 x35 x36 x37 x38 x39 x40 (nI bm) (nI n)).2 k := hF.1
  have r' : ∀ k, k ≠ 43 → k ≠ 44 → τ'.2 k = (w9 τ p x34 x35 x36 x37 x38 y39 y40 (nI bm) (nI n)).2 k := hF'.1
  refine ⟨⟨?_, ?_, by omega, ?_, ?_, ?_, hh, fun i hi2 => ?_⟩, ⟨fun k hk => ?_, fun k e1 e2 => ?_⟩, ⟨fun k hk => ?_, fun k e1 e2 => ?_⟩⟩
  · rw [h33, a1, nI_1]
  · rw [h33', a2, nI_1]
  · rw [h45, h45']
  · rw [h45, ebn]; omega
  · rw [h45, ebn]; omega
  · have q34 : ∀ j, σ'.2 34 j = if j = p then x34 else σ.2 34 j := fun j => by rw [r 34 (by decide) (by decide), w9_34 hp]
    have q35 : ∀ j, σ'.2 35 j = if j = p then x35 else σ.2 35 j := fun j => by rw [r 35 (by decide) (by decide), w9_35 hp]
    have q41 : ∀ j, σ'.2 41 j = if j = p then nI bm else σ.2 41 j := fun j => by rw [r 41 (by decide) (by decide), w9_41 hp]
    have q42 : ∀ j, σ'.2 42 j = if j = p then nI n else σ.2 42 j := fun j => by rw [r 42 (by decide) (by decide), w9_42 hp]
    have q36 : ∀ j, σ'.2 36 j = if j = p then x36 else σ.2 36 j := fun j => by rw [r 36 (by decide) (by decide), w9_36 hp]
    have q37 : ∀ j, σ'.2 37 j = if j = p then x37 else σ.2 37 j := fun j => by rw [r 37 (by decide) (by decide), w9_37 hp]
    have q38 : ∀ j, σ'.2 38 j = if j = p then x38 else σ.2 38 j := fun j => by rw [r 38 (by decide) (by decide), w9_38 hp]
    have t34 : ∀ j, τ'.2 34 j = if j = p then x34 else τ.2 34 j := fun j => by rw [r' 34 (by decide) (by decide), w9_34 hp]
    have t35 : ∀ j, τ'.2 35 j = if j = p then x35 else τ.2 35 j := fun j => by rw [r' 35 (by decide) (by decide), w9_35 hp]
    have t36 : ∀ j, τ'.2 36 j = if j = p then x36 else τ.2 36 j := fun j => by rw [r' 36 (by decide) (by decide), w9_36 hp]
    have t37 : ∀ j, τ'.2 37 j = if j = p then x37 else τ.2 37 j := fun j => by rw [r' 37 (by decide) (by decide), w9_37 hp]
    have t38 : ∀ j, τ'.2 38 j = if j = p then x38 else τ.2 38 j := fun j => by rw [r' 38 (by decide) (by decide), w9_38 hp]
    unfold PE
    rw [q34, q35, q41, q42, q36, q37, q38, t34, t35, t36, t37, t38, h45, ebn]
    by_cases hip : i = p
    · simp only [if_pos hip]
      refine ⟨⟨trivial, trivial, trivial, trivial, trivial⟩, by omega, by omega, h35', fun j hj => ?_, by omega, by omega, by omega⟩
      rw [q35, if_neg (by omega)]
      have := (a8 j (by omega)).2.2.2.1
      omega
    · simp only [if_neg hip]
      obtain ⟨b1, b2, b3, b4, b5, b6, b7, b8⟩ := a8 i (by omega)
      rw [hbm, eb] at b8
      refine ⟨b1, b2, b3, by omega, fun j hj => ?_, b6, b7, by omega⟩
      rw [q35, if_neg (by omega)]
      exact b5 j hj
  · rw [r k (by omega) (by omega), w9_k (by omega)]
  · exact hF.2 k e1 e2
  · rw [r' k (by omega) (by omega), w9_k (by omega)]
  · exact hF'.2 k e1 e2
theorem nI_back {x : Int32} (h0 : 0 ≤ x.toInt) (h1 : x.toInt ≤ 600) : ∃ b : Nat, b ≤ 600 ∧ x = nI b := ⟨x.toInt.toNat, by omega, Int32.toInt_inj.mp (by rw [nI_toInt (by omega)]; omega)⟩
theorem ou_len {o ob oe n : Nat} {lo h : Int} {σ τ : RS9} (hO : OU o ob oe n lo h σ τ) (hn : 0 < n) : (σ.2 ob 0).toInt + n ≤ (σ.2 oe (n - 1)).toInt := by
  have key : ∀ k, k < n → (σ.2 ob 0).toInt + k + 1 ≤ (σ.2 oe k).toInt := by
    intro k
    induction k with
    | zero => intro hk; have := (hO 0 hk).2.2.2.2.1; omega
    | succ k ih =>
      intro hk
      have h1 := ih (by omega)
      have h2 := (hO (k + 1) hk).2.2.2.2.2.2 k (by omega)
      have h3 := (hO (k + 1) hk).2.2.2.2.1
      omega
  have := key (n - 1) (by omega)
  omega
set_option maxHeartbeats 1000000 in
theorem t2_takes {R C c t bg fn n p : Nat} {lo hi L : Int} {v6 v7 : Int32} {σ τ : RS9} (hA : AB R C σ τ) (hP : PR p L σ τ) (hc : c < C) (ht : rLen t = 600 ∧ rLen bg = 600 ∧ rLen fn = 600 ∧ t < 34 ∧ bg < 34 ∧ fn < 34) (hn : n ≤ 600) (hO : OU t bg fn n lo hi σ τ) (hL : L ≤ lo) (hlh : lo ≤ hi) (hh : hi ≤ 600) : P2 (mX9_takes (nI c) t bg fn (nI n) v6 v7 σ) (mX9_takes (nI c) t bg fn (nI n) v6 v7 τ) (fun v σ' v' τ' => ∃ p', PR p' hi σ' τ' ∧ FT2 σ σ' ∧ FT2 τ τ') := by
  have b18 : P2 (mX9_takes_b18 σ) (mX9_takes_b18 τ) (fun v σ' v' τ' => ∃ p', PR p' hi σ' τ' ∧ FT2 σ σ' ∧ FT2 τ τ') := p2_ret ⟨p, pr_mono hP (by omega) hh, ⟨fun _ _ => rfl, fun _ _ _ => rfl⟩, ⟨fun _ _ => rfl, fun _ _ _ => rfl⟩⟩
  have hCE := hA.2.2.2.2.1 c hc
  have hR6 := hA.2.1
  unfold mX9_takes
  refine p2_ro (t2_isLocked hA hc) (fun y _ => ?_)
  dsimp only
  refine p2_eq rfl rfl (fun q => ?_) (fun q => b18)
  refine p2_ro (t2_isPiece hA hP ht.1 hn (fun i hi => (hO i hi).1)) (fun y2 hy2 => ?_)
  dsimp only
  refine p2_eq rfl rfl (fun q2 => b18) (fun q2 => ?_)
  obtain ⟨hn1, hp⟩ := hy2 q2
  obtain ⟨bm, hb6, hbm⟩ := nI_back hP.2.2.2.2.1 (by have := hP.2.2.2.2.2.1; have := hP.2.2.2.2.2.2.1; omega)
  have hbm' : τ.1 45 = nI bm := hP.2.2.2.1.trans hbm
  rw [hP.1, hP.2.1]
  have cp : ∀ z, rLen z = 40 → rIn (nI p) (rLen z) = true := fun z hz => by rw [hz]; exact inb_nI hp (by decide)
  have en1 : nI n - (1 : Int32) = nI (n - 1) := by
    have e : n = (n - 1) + 1 := by omega
    rw [e, nI_pred]; rfl
  have e0 : ∀ u : RS9, rGa u bg (0 : Int32) = u.2 bg 0 := fun u => rfl
  have ef : ∀ (u : RS9) (x : Int32), rGa (rSa u 34 (nI p) x) fn (nI (n - 1)) = u.2 fn (n - 1) := fun u x => by
    unfold rGa; rw [sa_ne (by omega), nI_clamp (by omega)]
  have e19 : ∀ u : RS9, rGa u 19 (nI c) = u.2 19 c := fun u => rd_nI (by omega)
  rw [en1, e0, e0, ef, ef, e19, e19]
  obtain ⟨o1, o2, o3, o4, o5, o6, o7⟩ := hO 0 (by omega)
  obtain ⟨f1, f2, f3, f4, f5, f6, f7⟩ := hO (n - 1) (by omega)
  have hlen := ou_len hO (by omega)
  rw [o2, f3, hCE.2.2.1]
  refine p2_ck (by rw [ht.2.1]; decide) (by rw [ht.2.1]; decide) ?_
  refine p2_ck (cp 34 rfl) (cp 34 rfl) ?_
  refine p2_ck (by rw [ht.2.2.1]; exact inb_nI (by omega) (by decide)) (by rw [ht.2.2.1]; exact inb_nI (by omega) (by decide)) ?_
  refine p2_ck (cp 35 rfl) (cp 35 rfl) ?_
  refine p2_ck (inb_nI (n := 600) (by omega) (by decide)) (inb_nI (n := 600) (by omega) (by decide)) ?_
  refine p2_ck (cp 36 rfl) (cp 36 rfl) ?_
  refine p2_ck (cp 37 rfl) (cp 37 rfl) ?_
  have b87 : ∀ w : Int32, P2 (mX9_takes_b87 (nI c) t bg (nI n) (nI p) 38 (nI p) w (rSa (rSa (rSa (rSa σ 34 (nI p) (σ.2 bg 0)) 35 (nI p) (σ.2 fn (n - 1))) 36 (nI p) (σ.2 19 c)) 37 (nI p) v7)) (mX9_takes_b87 (nI c) t bg (nI n) (nI p) 38 (nI p) w (rSa (rSa (rSa (rSa τ 34 (nI p) (σ.2 bg 0)) 35 (nI p) (σ.2 fn (n - 1))) 36 (nI p) (σ.2 19 c)) 37 (nI p) v7)) (fun v σ' v' τ' => ∃ p', PR p' hi σ' τ' ∧ FT2 σ σ' ∧ FT2 τ τ') := fun w => by
    unfold mX9_takes_b87
    refine p2_ck (cp 38 rfl) (cp 38 rfl) ?_
    refine p2_ck (inb_nI (n := 600) (by omega) (by decide)) (inb_nI (n := 600) (by omega) (by decide)) ?_
    refine p2_ck (cp 39 rfl) (cp 39 rfl) ?_
    refine p2_ck (inb_nI (n := 600) (by omega) (by decide)) (inb_nI (n := 600) (by omega) (by decide)) ?_
    refine p2_ck (cp 40 rfl) (cp 40 rfl) ?_
    refine p2_ck (cp 41 rfl) (cp 41 rfl) ?_
    refine p2_ck (cp 42 rfl) (cp 42 rfl) ?_
    rw [show (rSa (rSa (rSa (rSa σ 34 (nI p) (σ.2 bg 0)) 35 (nI p) (σ.2 fn (n - 1))) 36 (nI p) (σ.2 19 c)) 37 (nI p) v7).1 45 = nI bm from hbm, show (rSa (rSa (rSa (rSa τ 34 (nI p) (σ.2 bg 0)) 35 (nI p) (σ.2 fn (n - 1))) 36 (nI p) (σ.2 19 c)) 37 (nI p) v7).1 45 = nI bm from hbm']
    refine p2_tail (t2_takes_l137 ht.1 ht.2.1 rFU n 0 bm _ _ hbm hbm' (by omega) hn (by have := hP.2.2.2.2.2.1; rw [hbm, nI_toInt (by omega)] at this; omega) (by unfold rFU; omega)) (fun v s v' t2 hq => ?_)
    obtain ⟨g1, g2, g3, g4, g5, g6⟩ := hq
    exact ⟨p + 1, pr_take hP hp (by omega) (by omega) (by omega) ⟨hn1, hn⟩ hh g1 g2 hb6 hbm g3 g4 g5 g6⟩
  refine p2_eq rfl rfl (fun q3 => b87 0) (fun q3 => b87 1)
