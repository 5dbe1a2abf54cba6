/-! at the first both hold the empty value -/
def S00 : SST := ([], (0, -1, 0, 1, []), fun _ => none, [])
def V00 : SPV := ([], S00, [], none, 0, -1)
def gOf (v : Option AE) : Nat → Option Nat := match v with
  | some (.inl (_, _, .inr (.inr g))) => g
  | _ => fun _ => none
def isP0 : Option AE → Bool
  | some (.inr (3, [.int _, .int _, .int _, .int _, .int _, .int _, .int _, .int _, .int _, .int _, .int _, .int _])) => true
  | _ => false
theorem isP0_ok {v : Option AE} (h : isP0 v = true) : okP v := by
  unfold isP0 at h
  split at h
  · exact ⟨_, _, _, _, _, _, _, _, _, _, _, _, rfl⟩
  · cases h
theorem p59_ok : (List.range 40).all (fun i => isP0 (FF (75 + i))) = true := by decide +kernel
theorem p115_ok : (List.range 40).all (fun i => isP0 (FF (131 + i))) = true := by decide +kernel
theorem g74 : ∀ i : Fin 40, gOf (FF 74) (i : Nat) = some (75 + (i : Nat)) := by decide +kernel
theorem g130 : ∀ i : Fin 40, gOf (FF 130) (i : Nat) = some (131 + (i : Nat)) := by decide +kernel
theorem nolt {P : Nat → Prop} : ∀ i, i < 0 → P i := fun i hi => absurd hi (Nat.not_lt_zero _)
theorem rw0 {j b c : Nat} (h1 : FF j = some (.inr (5, [.ref b, .int 0]))) (h2 : FF b = some (.inl (0, c, .inl (fun _ => 0)))) (hc : c ≤ 600) : isRw FF j b c [] := ⟨h1, ⟨_, h2, nolt⟩, Nat.zero_le _, hc⟩
set_option maxRecDepth 100000 in
theorem ff_ss {s : Nat} (h : s = 8 ∨ s = 13 ∨ s = 19 ∨ s = 24 ∨ s = 29 ∨ s = 34 ∨ s = 39 ∨ s = 44 ∨ s = 49 ∨ s = 54) : SSh FF s := by
  rcases h with h | h | h | h | h | h | h | h | h | h <;> subst h <;> exact ⟨⟨_, 0, -1, 0, 1, 0, none, 0, rfl⟩, ⟨_, rfl⟩, ⟨_, rfl⟩⟩
set_option maxRecDepth 100000 in
theorem ff_cs : CSh FF 115 := ⟨⟨0, rfl⟩, ⟨[], rw0 rfl rfl (by decide)⟩, ⟨[], rw0 rfl rfl (by decide)⟩, ⟨[], rw0 rfl rfl (by decide)⟩, ⟨[], rw0 rfl rfl (by decide)⟩, ⟨_, 0, 0, 0, 0, 0, 0, 0, 0, 0, rfl⟩, ⟨_, 0, 0, 0, 0, 0, 0, 0, 0, 0, rfl⟩, ⟨gOf (FF 130), rfl, fun i hi => g130 ⟨i, hi⟩⟩, fun i hi => isP0_ok (List.all_eq_true.mp p115_ok i (List.mem_range.mpr hi))⟩
set_option maxRecDepth 100000 in
theorem ff_cut : CUT FF 59 [] := ⟨⟨⟨rfl, ⟨gOf (FF 74), rfl, fun i hi => g74 ⟨i, hi⟩⟩, fun i hi => isP0_ok (List.all_eq_true.mp p59_ok i (List.mem_range.mpr hi)), nolt, by decide⟩, rw0 rfl rfl (by decide), rw0 rfl rfl (by decide), ⟨[], rw0 rfl rfl (by decide)⟩, ⟨[], rw0 rfl rfl (by decide)⟩, ⟨_, 0, 0, 0, 0, 0, 0, 0, 0, 0, rfl⟩⟩, ⟨_, 0, 0, 0, 0, 0, 0, 0, 0, 0, rfl⟩, rfl⟩
theorem cf00 : CFok (0, -1, 0, 1, []) := ⟨Or.inl rfl, Or.inl rfl, Or.inl rfl, by decide, by decide, fun w hw => by cases hw⟩
theorem pc00 : pcF S00 = [] := rfl
theorem bl00 : bltS S00 = [] := rfl
theorem sv00 : SV S00 := by
  refine ⟨(fun i t hi he => by cases he), ?_, by decide, fun i _ => rfl⟩
  rw [bl00]; decide
set_option maxRecDepth 100000 in
theorem ff_stt : STT FF 224 3 S00 := ⟨⟨4, none, rfl, ⟨5, 0, rw0 rfl rfl (by decide), by unfold IMM; omega, by unfold IMM; omega⟩, [], rfl, rfl⟩, ⟨_, rfl, fun l hl => absurd hl (Nat.not_lt_zero _)⟩, ⟨_, rfl, fun i hi => rfl⟩, cf00, by decide⟩
set_option maxRecDepth 100000 in
theorem ff_ko : KO FF 224 S00 := by
  refine ⟨ff_stt, ?_, ⟨⟨0, rfl⟩, ⟨[], rw0 rfl rfl (by decide)⟩, ⟨[], rw0 rfl rfl (by decide)⟩, ⟨[], rw0 rfl rfl (by decide)⟩⟩, ?_, fun i hi => ?_⟩
  · rw [pc00]; exact ff_cut
  · rw [bl00]; exact rw0 rfl rfl (by decide)
  · rw [pc00] at hi; exact absurd hi (Nat.not_lt_zero _)
set_option maxRecDepth 100000 in
theorem ff_pst : PST FF 224 [] := by
  refine ⟨by decide, gOf (FF 18), rfl, fun i hi => ⟨19 + 5 * i, ?_, by unfold SID; omega, by omega, ff_ss (by omega), fun Q hQ => by cases hQ⟩, fun i k hi hk => ?_⟩
  · rcases (by omega : i = 0 ∨ i = 1 ∨ i = 2 ∨ i = 3 ∨ i = 4 ∨ i = 5 ∨ i = 6 ∨ i = 7) with h | h | h | h | h | h | h | h <;> subst h <;> rfl
  · have key : ∀ i k : Fin 8, gOf (FF 18) (i : Nat) = gOf (FF 18) (k : Nat) → (i : Nat) = (k : Nat) := by decide +kernel
    exact key ⟨i, hi⟩ ⟨k, hk⟩
set_option maxRecDepth 100000 in
theorem ff_rc : RC FF 224 V00 := ⟨by decide, ⟨0, rfl, fun q => absurd rfl q⟩, rw0 rfl rfl (by decide), ⟨ff_ko, sv00⟩, ⟨ff_ss (Or.inl rfl), ⟨ff_ss (Or.inr (Or.inl rfl)), fun Q hQ => by cases hQ⟩, ff_pst, ff_cs⟩, ⟨0, 0, 0, 0, 0, none, 0, 179, rfl⟩⟩
theorem ff_rr : RR9 σ0 V00 := by
  have z0 : ∀ i, i < 443 → i ≠ 4 → i ≠ 2 → μ0 i = 0 := fun i h1 h2 h3 => μ0_0 (by omega) h2 h3
  have hM : MR9 μ0 S00 := by
    refine ⟨⟨⟨z0 0 (by omega) (by omega) (by omega), by decide⟩, nolt⟩, ⟨z0 1 (by omega) (by omega) (by omega), ?_, z0 3 (by omega) (by omega) (by omega), ?_, z0 5 (by omega) (by omega) (by omega), fun l hl => absurd hl (Nat.not_lt_zero _), cf00⟩, fun p hp => ⟨μ0_t hp, fun t ht => by cases ht⟩, z0 42 (by omega) (by omega) (by omega), by decide, fun k hk => absurd hk (Nat.not_lt_zero _)⟩
    · rw [μ0_v (by omega)]; rfl
    · rw [μ0_v (by omega)]; rfl
  refine ⟨⟨rfl, by decide, nolt⟩, ⟨hM, ?_⟩, ⟨rfl, by decide, fun i Q hq => by cases hq⟩, ⟨rfl, fun Q hQ => by cases hQ⟩, rfl, rfl⟩
  show PT σ0 _ (pcF S00)
  rw [pc00]
  exact ⟨⟨rfl, by decide⟩, ⟨rfl, by decide, rfl, nolt, nolt⟩, fun i hi => absurd hi (Nat.not_lt_zero _)⟩
theorem ff_inw : INW FF 224 σ0 := ⟨ff_inv, V00, ff_rc, ff_rr⟩
