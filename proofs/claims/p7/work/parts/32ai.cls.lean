def mX7_copyFrom_b140 (f : AH) (n : Nat) : Option (Int32 × HpN) := some ((0 : Int32), (f, n))
set_option maxHeartbeats 1000000 in
theorem rmX7_copyFrom_b140 {X : GX} {p : Program} {l : Launch} {e : Env} {s : State} {m : MethodId} {args : Array Value} {below : List Frame} {meth : Method} {c : Code} {r : Int32 × HpN} {f : AH} {n cells slots : Nat} (C : CC X p l (RM 0 0 0) s m args meth c RX7 cX7_copyFrom 3 none) (hc : cells + 0 ≤ 0) (hs : slots + 0 ≤ 0) (h : mX7_copyFrom_b140 f n = some r) : AW X p l e (RM 0 0 0) s m args below meth c 3 (ZM X below args s 0 0 (QHv r)) f n cells slots 140 [none, none, none] [] := by
  have h : some ((0 : Int32), (f, n)) = some r := h
  cases h
  exact aw_vret C rfl dX7_copyFrom_140 (by omega) (by omega) ⟨rfl, rfl, rfl⟩
def mX7_copyFrom_l104 : Nat → Nat → (Option Nat) → Int32 → AH → Nat → Option (Int32 × HpN)
  | 0, _, _, _, _, _ => none
  | d + 1, v0, v1, v2, f, n => ((gR f v0 7 9).bind fun x1 => ((x1).bind fun j2 => ((gL f j2).bind fun x3 => (if (nI x3) ≤ v2 then mX7_copyFrom_b140 f n else ((v1).bind fun j4 => ((gR f j4 7 9).bind fun x5 => ((x5).bind fun j6 => ((gL f j6).bind fun x7 => (if (nI x7) ≤ v2 then mX7_copyFrom_b140 f n else ((gR f v0 7 9).bind fun x8 => ((gR f j4 7 9).bind fun x9 => ((x9).bind fun j10 => ((gRA f j10 v2).bind fun x11 => ((x8).bind fun j12 => ((pRA f j12 v2 x11).bind fun f13 => mX7_copyFrom_l104 d v0 (some j4) (v2 + (1 : Int32)) f13 n)))))))))))))))
set_option maxHeartbeats 1000000 in
theorem rmX7_copyFrom_l104 {X : GX} {p : Program} {l : Launch} {e : Env} {s : State} {m : MethodId} {args : Array Value} {below : List Frame} {meth : Method} {c : Code} {r : Int32 × HpN} (C : CC X p l (RM 0 0 0) s m args meth c RX7 cX7_copyFrom 3 none) : ∀ (d : Nat) (v0 : Nat) (v1 : Option Nat) (v2 : Int32) (f : AH) (n cells slots : Nat) (_ : cells + 0 ≤ 0) (_ : slots + 0 ≤ 0) (_ : mX7_copyFrom_l104 d v0 v1 v2 f n = some r), AW X p l e (RM 0 0 0) s m args below meth c 3 (ZM X below args s 0 0 (QHv r)) f n cells slots 104 [some (.ref v0), some (va_rf v1), some (.int v2)] [] := by
  intro d
  induction d with
  | zero =>
    intro v0 v1 v2 f n cells slots hc hs h
    exact nomatch (show (none : Option (Int32 × HpN)) = some r from h)
  | succ d ih =>
    intro v0 v1 v2 f n cells slots hc hs h
    have h : ((gR f v0 7 9).bind fun x1 => ((x1).bind fun j2 => ((gL f j2).bind fun x3 => (if (nI x3) ≤ v2 then mX7_copyFrom_b140 f n else ((v1).bind fun j4 => ((gR f j4 7 9).bind fun x5 => ((x5).bind fun j6 => ((gL f j6).bind fun x7 => (if (nI x7) ≤ v2 then mX7_copyFrom_b140 f n else ((gR f v0 7 9).bind fun x8 => ((gR f j4 7 9).bind fun x9 => ((x9).bind fun j10 => ((gRA f j10 v2).bind fun x11 => ((x8).bind fun j12 => ((pRA f j12 v2 x11).bind fun f13 => mX7_copyFrom_l104 d v0 (some j4) (v2 + (1 : Int32)) f13 n))))))))))))))) = some r := h
    refine aw_iload_n C dX7_copyFrom_104 rfl ?_
    refine aw_ald_n C dX7_copyFrom_105 rfl ?_
    obtain ⟨x1, hx1, h⟩ := Option.bind_eq_some_iff.mp h
    refine ah_getR C gf_X7_34 hx1 dX7_copyFrom_106 ?_
    obtain ⟨j2, hj2, h⟩ := Option.bind_eq_some_iff.mp h
    rw [hj2]
    obtain ⟨x3, hx3, h⟩ := Option.bind_eq_some_iff.mp h
    refine ah_len C hx3 dX7_copyFrom_109 ?_
    refine aw_icmp_ge C 140 dX7_copyFrom_110 (by decide) (fun q => ?_) (fun q => ?_)
    · rw [if_pos q] at h
      refine aw_fl [none, none, none] trivial ?_
      exact rmX7_copyFrom_b140 C (by omega) (by omega) h
    · rw [if_neg q] at h
      refine aw_iload_n C dX7_copyFrom_113 rfl ?_
      refine aw_aload_n C dX7_copyFrom_114 rfl (rf_or v1) ?_
      obtain ⟨j4, hj4, h⟩ := Option.bind_eq_some_iff.mp h
      rw [hj4]
      obtain ⟨x5, hx5, h⟩ := Option.bind_eq_some_iff.mp h
      refine ah_getR C gf_X7_34 hx5 dX7_copyFrom_115 ?_
      obtain ⟨j6, hj6, h⟩ := Option.bind_eq_some_iff.mp h
      rw [hj6]
      obtain ⟨x7, hx7, h⟩ := Option.bind_eq_some_iff.mp h
      refine ah_len C hx7 dX7_copyFrom_118 ?_
      refine aw_icmp_ge C 140 dX7_copyFrom_119 (by decide) (fun q => ?_) (fun q => ?_)
      · rw [if_pos q] at h
        refine aw_fl [none, none, none] trivial ?_
        exact rmX7_copyFrom_b140 C (by omega) (by omega) h
      · rw [if_neg q] at h
        refine aw_ald_n C dX7_copyFrom_122 rfl ?_
        obtain ⟨x8, hx8, h⟩ := Option.bind_eq_some_iff.mp h
        refine ah_getR C gf_X7_34 hx8 dX7_copyFrom_123 ?_
        refine aw_iload_n C dX7_copyFrom_126 rfl ?_
        refine aw_ald_n C dX7_copyFrom_127 rfl ?_
        obtain ⟨x9, hx9, h⟩ := Option.bind_eq_some_iff.mp h
        refine ah_getR C gf_X7_34 hx9 dX7_copyFrom_128 ?_
        refine aw_iload_n C dX7_copyFrom_131 rfl ?_
        obtain ⟨j10, hj10, h⟩ := Option.bind_eq_some_iff.mp h
        rw [hj10]
        obtain ⟨x11, hx11, h⟩ := Option.bind_eq_some_iff.mp h
        refine ah_aald C hx11 dX7_copyFrom_132 ?_
        obtain ⟨j12, hj12, h⟩ := Option.bind_eq_some_iff.mp h
        rw [hj12]
        obtain ⟨f13, hf13, h⟩ := Option.bind_eq_some_iff.mp h
        refine ah_aast C hf13 dX7_copyFrom_133 ?_
        refine aw_iinc C (v2 + (1 : Int32)) dX7_copyFrom_134 rfl (by rw [ki_1]) (by decide) rfl ?_
        refine aw_nl [some (.ref v0), some (.ref j4), some (.int (v2 + (1 : Int32)))] rfl ?_
        refine aw_goto C 104 dX7_copyFrom_137 (by decide) ?_
        refine aw_fl [some (.ref v0), some (va_rf (some j4)), some (.int (v2 + (1 : Int32)))] ⟨rfl, ⟨rfl, ⟨rfl, trivial⟩⟩⟩ ?_
        exact ih v0 (some j4) (v2 + (1 : Int32)) f13 n _ _ (by omega) (by omega) h
def mX7_copyFrom_b102 (v0 : Nat) (v1 : Option Nat) (f : AH) (n : Nat) : Option (Int32 × HpN) := mX7_copyFrom_l104 rFU v0 v1 (0 : Int32) f n
set_option maxHeartbeats 1000000 in
theorem rmX7_copyFrom_b102 {X : GX} {p : Program} {l : Launch} {e : Env} {s : State} {m : MethodId} {args : Array Value} {below : List Frame} {meth : Method} {c : Code} {r : Int32 × HpN} {v0 : Nat} {v1 : Option Nat} {f : AH} {n cells slots : Nat} (C : CC X p l (RM 0 0 0) s m args meth c RX7 cX7_copyFrom 3 none) (hc : cells + 0 ≤ 0) (hs : slots + 0 ≤ 0) (h : mX7_copyFrom_b102 v0 v1 f n = some r) : AW X p l e (RM 0 0 0) s m args below meth c 3 (ZM X below args s 0 0 (QHv r)) f n cells slots 102 [some (.ref v0), some (va_rf v1), none] [] := by
  have h : mX7_copyFrom_l104 rFU v0 v1 (0 : Int32) f n = some r := h
  refine aw_iconst C 0 dX7_copyFrom_102 ki_0 ?_
  refine aw_istore_n C dX7_copyFrom_103 (by decide) (ok_rf 1 rfl) ?_
  refine aw_nl [some (.ref v0), some (va_rf v1), some (.int (0 : Int32))] rfl ?_
  refine aw_fl [some (.ref v0), some (va_rf v1), some (.int (0 : Int32))] ⟨rfl, ⟨rfl, ⟨rfl, trivial⟩⟩⟩ ?_
  exact rmX7_copyFrom_l104 C rFU v0 v1 (0 : Int32) f n _ _ (by omega) (by omega) h
def mX7_copyFrom_l66 : Nat → Nat → (Option Nat) → Int32 → AH → Nat → Option (Int32 × HpN)
  | 0, _, _, _, _, _ => none
  | d + 1, v0, v1, v2, f, n => ((gR f v0 7 8).bind fun x1 => ((x1).bind fun j2 => ((gL f j2).bind fun x3 => (if (nI x3) ≤ v2 then mX7_copyFrom_b102 v0 v1 f n else ((v1).bind fun j4 => ((gR f j4 7 8).bind fun x5 => ((x5).bind fun j6 => ((gL f j6).bind fun x7 => (if (nI x7) ≤ v2 then mX7_copyFrom_b102 v0 (some j4) f n else ((gR f v0 7 8).bind fun x8 => ((gR f j4 7 8).bind fun x9 => ((x9).bind fun j10 => ((gRA f j10 v2).bind fun x11 => ((x8).bind fun j12 => ((pRA f j12 v2 x11).bind fun f13 => mX7_copyFrom_l66 d v0 (some j4) (v2 + (1 : Int32)) f13 n)))))))))))))))
set_option maxHeartbeats 1000000 in
theorem rmX7_copyFrom_l66 {X : GX} {p : Program} {l : Launch} {e : Env} {s : State} {m : MethodId} {args : Array Value} {below : List Frame} {meth : Method} {c : Code} {r : Int32 × HpN} (C : CC X p l (RM 0 0 0) s m args meth c RX7 cX7_copyFrom 3 none) : ∀ (d : Nat) (v0 : Nat) (v1 : Option Nat) (v2 : Int32) (f : AH) (n cells slots : Nat) (_ : cells + 0 ≤ 0) (_ : slots + 0 ≤ 0) (_ : mX7_copyFrom_l66 d v0 v1 v2 f n = some r), AW X p l e (RM 0 0 0) s m args below meth c 3 (ZM X below args s 0 0 (QHv r)) f n cells slots 66 [some (.ref v0), some (va_rf v1), some (.int v2)] [] := by
  intro d
  induction d with
  | zero =>
    intro v0 v1 v2 f n cells slots hc hs h
    exact nomatch (show (none : Option (Int32 × HpN)) = some r from h)
  | succ d ih =>
    intro v0 v1 v2 f n cells slots hc hs h
    have h : ((gR f v0 7 8).bind fun x1 => ((x1).bind fun j2 => ((gL f j2).bind fun x3 => (if (nI x3) ≤ v2 then mX7_copyFrom_b102 v0 v1 f n else ((v1).bind fun j4 => ((gR f j4 7 8).bind fun x5 => ((x5).bind fun j6 => ((gL f j6).bind fun x7 => (if (nI x7) ≤ v2 then mX7_copyFrom_b102 v0 (some j4) f n else ((gR f v0 7 8).bind fun x8 => ((gR f j4 7 8).bind fun x9 => ((x9).bind fun j10 => ((gRA f j10 v2).bind fun x11 => ((x8).bind fun j12 => ((pRA f j12 v2 x11).bind fun f13 => mX7_copyFrom_l66 d v0 (some j4) (v2 + (1 : Int32)) f13 n))))))))))))))) = some r := h
    refine aw_iload_n C dX7_copyFrom_66 rfl ?_
    refine aw_ald_n C dX7_copyFrom_67 rfl ?_
    obtain ⟨x1, hx1, h⟩ := Option.bind_eq_some_iff.mp h
    refine ah_getR C gf_X7_30 hx1 dX7_copyFrom_68 ?_
    obtain ⟨j2, hj2, h⟩ := Option.bind_eq_some_iff.mp h
    rw [hj2]
    obtain ⟨x3, hx3, h⟩ := Option.bind_eq_some_iff.mp h
    refine ah_len C hx3 dX7_copyFrom_71 ?_
    refine aw_icmp_ge C 102 dX7_copyFrom_72 (by decide) (fun q => ?_) (fun q => ?_)
    · rw [if_pos q] at h
      refine aw_fl [some (.ref v0), some (va_rf v1), none] ⟨rfl, ⟨rfl, trivial⟩⟩ ?_
      exact rmX7_copyFrom_b102 C (by omega) (by omega) h
    · rw [if_neg q] at h
      refine aw_iload_n C dX7_copyFrom_75 rfl ?_
      refine aw_aload_n C dX7_copyFrom_76 rfl (rf_or v1) ?_
      obtain ⟨j4, hj4, h⟩ := Option.bind_eq_some_iff.mp h
      rw [hj4]
      obtain ⟨x5, hx5, h⟩ := Option.bind_eq_some_iff.mp h
      refine ah_getR C gf_X7_30 hx5 dX7_copyFrom_77 ?_
      obtain ⟨j6, hj6, h⟩ := Option.bind_eq_some_iff.mp h
      rw [hj6]
      obtain ⟨x7, hx7, h⟩ := Option.bind_eq_some_iff.mp h
      refine ah_len C hx7 dX7_copyFrom_80 ?_
      refine aw_icmp_ge C 102 dX7_copyFrom_81 (by decide) (fun q => ?_) (fun q => ?_)
      · rw [if_pos q] at h
        refine aw_fl [some (.ref v0), some (va_rf (some j4)), none] ⟨rfl, ⟨rfl, trivial⟩⟩ ?_
        exact rmX7_copyFrom_b102 C (by omega) (by omega) h
      · rw [if_neg q] at h
        refine aw_ald_n C dX7_copyFrom_84 rfl ?_
        obtain ⟨x8, hx8, h⟩ := Option.bind_eq_some_iff.mp h
        refine ah_getR C gf_X7_30 hx8 dX7_copyFrom_85 ?_
        refine aw_iload_n C dX7_copyFrom_88 rfl ?_
        refine aw_ald_n C dX7_copyFrom_89 rfl ?_
        obtain ⟨x9, hx9, h⟩ := Option.bind_eq_some_iff.mp h
        refine ah_getR C gf_X7_30 hx9 dX7_copyFrom_90 ?_
        refine aw_iload_n C dX7_copyFrom_93 rfl ?_
        obtain ⟨j10, hj10, h⟩ := Option.bind_eq_some_iff.mp h
        rw [hj10]
        obtain ⟨x11, hx11, h⟩ := Option.bind_eq_some_iff.mp h
        refine ah_aald C hx11 dX7_copyFrom_94 ?_
        obtain ⟨j12, hj12, h⟩ := Option.bind_eq_some_iff.mp h
        rw [hj12]
        obtain ⟨f13, hf13, h⟩ := Option.bind_eq_some_iff.mp h
        refine ah_aast C hf13 dX7_copyFrom_95 ?_
        refine aw_iinc C (v2 + (1 : Int32)) dX7_copyFrom_96 rfl (by rw [ki_1]) (by decide) rfl ?_
        refine aw_nl [some (.ref v0), some (.ref j4), some (.int (v2 + (1 : Int32)))] rfl ?_
        refine aw_goto C 66 dX7_copyFrom_99 (by decide) ?_
        refine aw_fl [some (.ref v0), some (va_rf (some j4)), some (.int (v2 + (1 : Int32)))] ⟨rfl, ⟨rfl, ⟨rfl, trivial⟩⟩⟩ ?_
        exact ih v0 (some j4) (v2 + (1 : Int32)) f13 n _ _ (by omega) (by omega) h
def mX7_copyFrom (v0 : Nat) (v1 : Option Nat) (f : AH) (n : Nat) : Option (Int32 × HpN) := ((v1).bind fun j1 => ((gR f j1 7 0).bind fun x2 => ((pO f v0 7 0 (va_rf x2)).bind fun f3 => ((gI f3 j1 7 1).bind fun x4 => ((pO f3 v0 7 1 (.int x4)).bind fun f5 => ((gI f5 j1 7 2).bind fun x6 => ((pO f5 v0 7 2 (.int x6)).bind fun f7 => ((gI f7 j1 7 3).bind fun x8 => rCk (rNb x8) (((pO f7 v0 7 3 (.int x8)).bind fun f10 => ((gI f10 j1 7 4).bind fun x11 => ((pO f10 v0 7 4 (.int x11)).bind fun f12 => ((gI f12 j1 7 5).bind fun x13 => ((pO f12 v0 7 5 (.int x13)).bind fun f14 => ((gR f14 j1 7 6).bind fun x15 => ((pO f14 v0 7 6 (va_rf x15)).bind fun f16 => ((gI f16 j1 7 7).bind fun x17 => ((pO f16 v0 7 7 (.int x17)).bind fun f18 => mX7_copyFrom_l66 rFU v0 (some j1) (0 : Int32) f18 n))))))))))))))))))
set_option maxHeartbeats 1000000 in
theorem rmX7_copyFrom {X : GX} {l : Launch} {r : Int32 × HpN} {v0 : Nat} {v1 : Option Nat} {f : AH} {n : Nat} (h : mX7_copyFrom v0 v1 f n = some r) : AM X l yX7_copyFrom cX7_copyFrom 3 none 0 0 0 [.ref v0, va_rf v1] f n (QHv r) := by
  have h : ((v1).bind fun j1 => ((gR f j1 7 0).bind fun x2 => ((pO f v0 7 0 (va_rf x2)).bind fun f3 => ((gI f3 j1 7 1).bind fun x4 => ((pO f3 v0 7 1 (.int x4)).bind fun f5 => ((gI f5 j1 7 2).bind fun x6 => ((pO f5 v0 7 2 (.int x6)).bind fun f7 => ((gI f7 j1 7 3).bind fun x8 => rCk (rNb x8) (((pO f7 v0 7 3 (.int x8)).bind fun f10 => ((gI f10 j1 7 4).bind fun x11 => ((pO f10 v0 7 4 (.int x11)).bind fun f12 => ((gI f12 j1 7 5).bind fun x13 => ((pO f12 v0 7 5 (.int x13)).bind fun f14 => ((gR f14 j1 7 6).bind fun x15 => ((pO f14 v0 7 6 (va_rf x15)).bind fun f16 => ((gI f16 j1 7 7).bind fun x17 => ((pO f16 v0 7 7 (.int x17)).bind fun f18 => mX7_copyFrom_l66 rFU v0 (some j1) (0 : Int32) f18 n)))))))))))))))))) = some r := h
  refine AM.of (by decide +kernel) (all1 rfl (all1 (rf_cat _) rfl)) (Nat.le_of_ble_eq_true rfl) (fun p e s m args below meth c C hnm => ?_)
  refine aw_nl [some (.ref v0), some (va_rf v1), none] rfl ?_
  refine aw_ald_n C dX7_copyFrom_0 rfl ?_
  refine aw_aload_n C dX7_copyFrom_1 rfl (rf_or v1) ?_
  obtain ⟨j1, hj1, h⟩ := Option.bind_eq_some_iff.mp h
  rw [hj1]
  obtain ⟨x2, hx2, h⟩ := Option.bind_eq_some_iff.mp h
  refine ah_getR C gf_X7_14 hx2 dX7_copyFrom_2 ?_
  obtain ⟨f3, hf3, h⟩ := Option.bind_eq_some_iff.mp h
  refine ah_put C gf_X7_14 cf7 nf7_0 (rf_nar _ x2) (rf_fit _ x2) hf3 dX7_copyFrom_5 ?_
  refine aw_ald_n C dX7_copyFrom_8 rfl ?_
  refine aw_ald_n C dX7_copyFrom_9 rfl ?_
  obtain ⟨x4, hx4, h⟩ := Option.bind_eq_some_iff.mp h
  refine ah_getI C gf_X7_20 hx4 dX7_copyFrom_10 ?_
  obtain ⟨f5, hf5, h⟩ := Option.bind_eq_some_iff.mp h
  refine ah_put C gf_X7_20 cf7 nf7_1 rfl rfl hf5 dX7_copyFrom_13 ?_
  refine aw_ald_n C dX7_copyFrom_16 rfl ?_
  refine aw_ald_n C dX7_copyFrom_17 rfl ?_
  obtain ⟨x6, hx6, h⟩ := Option.bind_eq_some_iff.mp h
  refine ah_getI C gf_X7_24 hx6 dX7_copyFrom_18 ?_
  obtain ⟨f7, hf7, h⟩ := Option.bind_eq_some_iff.mp h
  refine ah_put C gf_X7_24 cf7 nf7_2 rfl rfl hf7 dX7_copyFrom_21 ?_
  refine aw_ald_n C dX7_copyFrom_24 rfl ?_
  refine aw_ald_n C dX7_copyFrom_25 rfl ?_
  obtain ⟨x8, hx8, h⟩ := Option.bind_eq_some_iff.mp h
  refine ah_getI C gf_X7_37 hx8 dX7_copyFrom_26 ?_
  obtain ⟨hb9, h⟩ := ck_some h
  obtain ⟨f10, hf10, h⟩ := Option.bind_eq_some_iff.mp h
  refine ah_put C gf_X7_37 cf7 nf7_3 (nb_nar hb9) (nb_fit hb9) hf10 dX7_copyFrom_29 ?_
  refine aw_ald_n C dX7_copyFrom_32 rfl ?_
  refine aw_ald_n C dX7_copyFrom_33 rfl ?_
  obtain ⟨x11, hx11, h⟩ := Option.bind_eq_some_iff.mp h
  refine ah_getI C gf_X7_27 hx11 dX7_copyFrom_34 ?_
  obtain ⟨f12, hf12, h⟩ := Option.bind_eq_some_iff.mp h
  refine ah_put C gf_X7_27 cf7 nf7_4 rfl rfl hf12 dX7_copyFrom_37 ?_
  refine aw_ald_n C dX7_copyFrom_40 rfl ?_
  refine aw_ald_n C dX7_copyFrom_41 rfl ?_
  obtain ⟨x13, hx13, h⟩ := Option.bind_eq_some_iff.mp h
  refine ah_getI C gf_X7_41 hx13 dX7_copyFrom_42 ?_
  obtain ⟨f14, hf14, h⟩ := Option.bind_eq_some_iff.mp h
  refine ah_put C gf_X7_41 cf7 nf7_5 rfl rfl hf14 dX7_copyFrom_45 ?_
  refine aw_ald_n C dX7_copyFrom_48 rfl ?_
  refine aw_ald_n C dX7_copyFrom_49 rfl ?_
  obtain ⟨x15, hx15, h⟩ := Option.bind_eq_some_iff.mp h
  refine ah_getR C gf_X7_44 hx15 dX7_copyFrom_50 ?_
  obtain ⟨f16, hf16, h⟩ := Option.bind_eq_some_iff.mp h
  refine ah_put C gf_X7_44 cf7 nf7_6 (rf_nar _ x15) (rf_fit _ x15) hf16 dX7_copyFrom_53 ?_
  refine aw_ald_n C dX7_copyFrom_56 rfl ?_
  refine aw_ald_n C dX7_copyFrom_57 rfl ?_
  obtain ⟨x17, hx17, h⟩ := Option.bind_eq_some_iff.mp h
  refine ah_getI C gf_X7_48 hx17 dX7_copyFrom_58 ?_
  obtain ⟨f18, hf18, h⟩ := Option.bind_eq_some_iff.mp h
  refine ah_put C gf_X7_48 cf7 nf7_7 rfl rfl hf18 dX7_copyFrom_61 ?_
  refine aw_iconst C 0 dX7_copyFrom_64 ki_0 ?_
  refine aw_istore_n C dX7_copyFrom_65 (by decide) rfl ?_
  refine aw_nl [some (.ref v0), some (.ref j1), some (.int (0 : Int32))] rfl ?_
  refine aw_fl [some (.ref v0), some (va_rf (some j1)), some (.int (0 : Int32))] ⟨rfl, ⟨rfl, ⟨rfl, trivial⟩⟩⟩ ?_
  exact rmX7_copyFrom_l66 C rFU v0 (some j1) (0 : Int32) f18 n _ _ (by omega) (by omega) h
def mX7_addLock_b75 (rec24 : Nat → (Option Nat) → Int32 → AH → Nat → Option (Int32 × HpN)) (v0 : Nat) (v1 : Option Nat) (v2 : Int32) (f : AH) (n : Nat) : Option (Int32 × HpN) := rec24 v0 v1 (v2 + (1 : Int32)) f n
set_option maxHeartbeats 1000000 in
theorem rmX7_addLock_b75 {X : GX} {p : Program} {l : Launch} {e : Env} {s : State} {m : MethodId} {args : Array Value} {below : List Frame} {meth : Method} {c : Code} {r : Int32 × HpN} {rec24 : Nat → (Option Nat) → Int32 → AH → Nat → Option (Int32 × HpN)} {v0 : Nat} {v1 : Option Nat} {v2 : Int32} {f : AH} {n cells slots : Nat} (C : CC X p l (RM 2 0 0) s m args meth c RX7 cX7_addLock 4 (some .int)) (Hr24 : ∀ (v0 : Nat) (v1 : Option Nat) (v2 : Int32) (f : AH) (n cells slots : Nat), cells + 0 ≤ 0 → slots + 0 ≤ 0 → rec24 v0 v1 v2 f n = some r → AW X p l e (RM 2 0 0) s m args below meth c 4 (ZM X below args s 0 0 (QHi r)) f n cells slots 24 [some (.ref v0), some (va_rf v1), some (.int v2), none] []) (hc : cells + 0 ≤ 0) (hs : slots + 0 ≤ 0) (h : mX7_addLock_b75 rec24 v0 v1 v2 f n = some r) : AW X p l e (RM 2 0 0) s m args below meth c 4 (ZM X below args s 0 0 (QHi r)) f n cells slots 75 [some (.ref v0), some (va_rf v1), some (.int v2), none] [] := by
  have h : rec24 v0 v1 (v2 + (1 : Int32)) f n = some r := h
  refine aw_iinc C (v2 + (1 : Int32)) dX7_addLock_75 rfl (by rw [ki_1]) (by decide) (ok_rf 1 rfl) ?_
  refine aw_nl [some (.ref v0), some (va_rf v1), some (.int (v2 + (1 : Int32))), none] rfl ?_
  refine aw_goto C 24 dX7_addLock_78 (by decide) ?_
  refine aw_fl [some (.ref v0), some (va_rf v1), some (.int (v2 + (1 : Int32))), none] ⟨rfl, ⟨rfl, ⟨rfl, trivial⟩⟩⟩ ?_
  exact Hr24 v0 v1 (v2 + (1 : Int32)) f n _ _ (by omega) (by omega) h
def mX7_addLock_l24 : Nat → Nat → (Option Nat) → Int32 → AH → Nat → Option (Int32 × HpN)
  | 0, _, _, _, _, _ => none
  | d + 1, v0, v1, v2, f, n => ((gI f v0 7 5).bind fun x1 => (if x1 ≤ v2 then ((gR f v0 7 8).bind fun x2 => ((gI f v0 7 5).bind fun x3 => ((x2).bind fun j4 => ((pRA f j4 x3 v1).bind fun f5 => ((gI f5 v0 7 5).bind fun x6 => ((pO f5 v0 7 5 (.int (x6 + (1 : Int32)))).bind fun f7 => some ((0 : Int32), (f7, n)))))))) else ((gR f v0 7 8).bind fun x8 => ((x8).bind fun j9 => ((gRA f j9 v2).bind fun x10 => (oN x10 (mX7_addLock_b75 (fun v0 v1 v2 f n => mX7_addLock_l24 d v0 v1 v2 f n) v0 v1 v2 f n) (fun j11 => (oN v1 (mX7_addLock_b75 (fun v0 v1 v2 f n => mX7_addLock_l24 d v0 v1 v2 f n) v0 (none : Option Nat) v2 f n) (fun j12 => rCk (isO f j11 5) (((mX5_size j11 f n).bind fun r14 => rCk (isO r14.2.1 j12 5) (((mX5_size j12 r14.2.1 r14.2.2).bind fun r17 => (if r14.1 = r17.1 then rCk (isO r17.2.1 j11 5) (((mX5_size j11 r17.2.1 r17.2.2).bind fun r20 => rCk (isO r20.2.1 j11 5) (((mX5_isSame j11 (0 : Int32) (some j12) (0 : Int32) r20.1 r20.2.1 r20.2.2).bind fun r23 => (if r23.1 = (0 : Int32) then mX7_addLock_b75 (fun v0 v1 v2 f n => mX7_addLock_l24 d v0 v1 v2 f n) v0 (some j12) v2 r23.2.1 r23.2.2 else some ((7 : Int32), (r23.2.1, r23.2.2))))))) else mX7_addLock_b75 (fun v0 v1 v2 f n => mX7_addLock_l24 d v0 v1 v2 f n) v0 (some j12) v2 r17.2.1 r17.2.2))))))))))))))
set_option maxHeartbeats 1000000 in
theorem rmX7_addLock_l24 {X : GX} {p : Program} {l : Launch} {e : Env} {s : State} {m : MethodId} {args : Array Value} {below : List Frame} {meth : Method} {c : Code} {r : Int32 × HpN} (C : CC X p l (RM 2 0 0) s m args meth c RX7 cX7_addLock 4 (some .int)) : ∀ (d : Nat) (v0 : Nat) (v1 : Option Nat) (v2 : Int32) (f : AH) (n cells slots : Nat) (_ : cells + 0 ≤ 0) (_ : slots + 0 ≤ 0) (_ : mX7_addLock_l24 d v0 v1 v2 f n = some r), AW X p l e (RM 2 0 0) s m args below meth c 4 (ZM X below args s 0 0 (QHi r)) f n cells slots 24 [some (.ref v0), some (va_rf v1), some (.int v2), none] [] := by
  intro d
  induction d with
  | zero =>
    intro v0 v1 v2 f n cells slots hc hs h
    exact nomatch (show (none : Option (Int32 × HpN)) = some r from h)
  | succ d ih =>
    intro v0 v1 v2 f n cells slots hc hs h
    have h : ((gI f v0 7 5).bind fun x1 => (if x1 ≤ v2 then ((gR f v0 7 8).bind fun x2 => ((gI f v0 7 5).bind fun x3 => ((x2).bind fun j4 => ((pRA f j4 x3 v1).bind fun f5 => ((gI f5 v0 7 5).bind fun x6 => ((pO f5 v0 7 5 (.int (x6 + (1 : Int32)))).bind fun f7 => some ((0 : Int32), (f7, n)))))))) else ((gR f v0 7 8).bind fun x8 => ((x8).bind fun j9 => ((gRA f j9 v2).bind fun x10 => (oN x10 (mX7_addLock_b75 (fun v0 v1 v2 f n => mX7_addLock_l24 d v0 v1 v2 f n) v0 v1 v2 f n) (fun j11 => (oN v1 (mX7_addLock_b75 (fun v0 v1 v2 f n => mX7_addLock_l24 d v0 v1 v2 f n) v0 (none : Option Nat) v2 f n) (fun j12 => rCk (isO f j11 5) (((mX5_size j11 f n).bind fun r14 => rCk (isO r14.2.1 j12 5) (((mX5_size j12 r14.2.1 r14.2.2).bind fun r17 => (if r14.1 = r17.1 then rCk (isO r17.2.1 j11 5) (((mX5_size j11 r17.2.1 r17.2.2).bind fun r20 => rCk (isO r20.2.1 j11 5) (((mX5_isSame j11 (0 : Int32) (some j12) (0 : Int32) r20.1 r20.2.1 r20.2.2).bind fun r23 => (if r23.1 = (0 : Int32) then mX7_addLock_b75 (fun v0 v1 v2 f n => mX7_addLock_l24 d v0 v1 v2 f n) v0 (some j12) v2 r23.2.1 r23.2.2 else some ((7 : Int32), (r23.2.1, r23.2.2))))))) else mX7_addLock_b75 (fun v0 v1 v2 f n => mX7_addLock_l24 d v0 v1 v2 f n) v0 (some j12) v2 r17.2.1 r17.2.2)))))))))))))) = some r := h
    refine aw_iload_n C dX7_addLock_24 rfl ?_
    refine aw_ald_n C dX7_addLock_25 rfl ?_
    obtain ⟨x1, hx1, h⟩ := Option.bind_eq_some_iff.mp h
    refine ah_getI C gf_X7_41 hx1 dX7_addLock_26 ?_
    refine aw_icmp_ge C 81 dX7_addLock_29 (by decide) (fun q => ?_) (fun q => ?_)
    · rw [if_pos q] at h
      refine aw_ald_n C dX7_addLock_81 rfl ?_
      obtain ⟨x2, hx2, h⟩ := Option.bind_eq_some_iff.mp h
      refine ah_getR C gf_X7_30 hx2 dX7_addLock_82 ?_
      refine aw_ald_n C dX7_addLock_85 rfl ?_
      obtain ⟨x3, hx3, h⟩ := Option.bind_eq_some_iff.mp h
      refine ah_getI C gf_X7_41 hx3 dX7_addLock_86 ?_
      refine aw_aload_n C dX7_addLock_89 rfl (rf_or v1) ?_
      obtain ⟨j4, hj4, h⟩ := Option.bind_eq_some_iff.mp h
      rw [hj4]
      obtain ⟨f5, hf5, h⟩ := Option.bind_eq_some_iff.mp h
      refine ah_aast C hf5 dX7_addLock_90 ?_
      refine aw_ald_n C dX7_addLock_91 rfl ?_
      refine aw_dup C dX7_addLock_92 rfl ?_
      obtain ⟨x6, hx6, h⟩ := Option.bind_eq_some_iff.mp h
      refine ah_getI C gf_X7_41 hx6 dX7_addLock_93 ?_
      refine aw_iconst C 1 dX7_addLock_96 ki_1 ?_
      refine aw_iadd C dX7_addLock_97 ?_
      obtain ⟨f7, hf7, h⟩ := Option.bind_eq_some_iff.mp h
      refine ah_put C gf_X7_41 cf7 nf7_5 rfl rfl hf7 dX7_addLock_98 ?_
      refine aw_iconst C 0 dX7_addLock_101 ki_0 ?_
      cases h
      exact aw_iret C rfl rfl dX7_addLock_102 (by omega) (by omega) ⟨rfl, rfl, rfl⟩
    · rw [if_neg q] at h
      refine aw_ald_n C dX7_addLock_32 rfl ?_
      obtain ⟨x8, hx8, h⟩ := Option.bind_eq_some_iff.mp h
      refine ah_getR C gf_X7_30 hx8 dX7_addLock_33 ?_
      refine aw_iload_n C dX7_addLock_36 rfl ?_
      obtain ⟨j9, hj9, h⟩ := Option.bind_eq_some_iff.mp h
      rw [hj9]
      obtain ⟨x10, hx10, h⟩ := Option.bind_eq_some_iff.mp h
      refine ah_aald C hx10 dX7_addLock_37 ?_
      refine aw_astore_n C dX7_addLock_38 (by decide) rfl (rf_or x10) ?_
      refine aw_nl [some (.ref v0), some (va_rf v1), some (.int v2), some (va_rf x10)] rfl ?_
      refine aw_aload_n C dX7_addLock_39 rfl (rf_or x10) ?_
      cases x10 with
      | none =>
        replace h : mX7_addLock_b75 (fun v0 v1 v2 f n => mX7_addLock_l24 d v0 v1 v2 f n) v0 v1 v2 f n = some r := h
        refine aw_ifnull_n C 75 dX7_addLock_40 (by decide) ?_
        refine aw_fl [some (.ref v0), some (va_rf v1), some (.int v2), none] ⟨rfl, ⟨rfl, ⟨rfl, trivial⟩⟩⟩ ?_
        exact rmX7_addLock_b75 C (fun v0 v1 v2 f n cells slots hc hs h => ih v0 v1 v2 f n cells slots hc hs h) (by omega) (by omega) h
      | some j11 =>
        replace h : (oN v1 (mX7_addLock_b75 (fun v0 v1 v2 f n => mX7_addLock_l24 d v0 v1 v2 f n) v0 (none : Option Nat) v2 f n) (fun j12 => rCk (isO f j11 5) (((mX5_size j11 f n).bind fun r14 => rCk (isO r14.2.1 j12 5) (((mX5_size j12 r14.2.1 r14.2.2).bind fun r17 => (if r14.1 = r17.1 then rCk (isO r17.2.1 j11 5) (((mX5_size j11 r17.2.1 r17.2.2).bind fun r20 => rCk (isO r20.2.1 j11 5) (((mX5_isSame j11 (0 : Int32) (some j12) (0 : Int32) r20.1 r20.2.1 r20.2.2).bind fun r23 => (if r23.1 = (0 : Int32) then mX7_addLock_b75 (fun v0 v1 v2 f n => mX7_addLock_l24 d v0 v1 v2 f n) v0 (some j12) v2 r23.2.1 r23.2.2 else some ((7 : Int32), (r23.2.1, r23.2.2))))))) else mX7_addLock_b75 (fun v0 v1 v2 f n => mX7_addLock_l24 d v0 v1 v2 f n) v0 (some j12) v2 r17.2.1 r17.2.2))))))) = some r := h
        refine aw_ifnull_r C 75 dX7_addLock_40 (by decide) ?_
        refine aw_aload_n C dX7_addLock_43 rfl (rf_or v1) ?_
        cases v1 with
        | none =>
          replace h : mX7_addLock_b75 (fun v0 v1 v2 f n => mX7_addLock_l24 d v0 v1 v2 f n) v0 (none : Option Nat) v2 f n = some r := h
          refine aw_ifnull_n C 75 dX7_addLock_44 (by decide) ?_
          refine aw_fl [some (.ref v0), some (va_rf (none : Option Nat)), some (.int v2), none] ⟨rfl, ⟨rfl, ⟨rfl, trivial⟩⟩⟩ ?_
          exact rmX7_addLock_b75 C (fun v0 v1 v2 f n cells slots hc hs h => ih v0 v1 v2 f n cells slots hc hs h) (by omega) (by omega) h
        | some j12 =>
          replace h : rCk (isO f j11 5) (((mX5_size j11 f n).bind fun r14 => rCk (isO r14.2.1 j12 5) (((mX5_size j12 r14.2.1 r14.2.2).bind fun r17 => (if r14.1 = r17.1 then rCk (isO r17.2.1 j11 5) (((mX5_size j11 r17.2.1 r17.2.2).bind fun r20 => rCk (isO r20.2.1 j11 5) (((mX5_isSame j11 (0 : Int32) (some j12) (0 : Int32) r20.1 r20.2.1 r20.2.2).bind fun r23 => (if r23.1 = (0 : Int32) then mX7_addLock_b75 (fun v0 v1 v2 f n => mX7_addLock_l24 d v0 v1 v2 f n) v0 (some j12) v2 r23.2.1 r23.2.2 else some ((7 : Int32), (r23.2.1, r23.2.2))))))) else mX7_addLock_b75 (fun v0 v1 v2 f n => mX7_addLock_l24 d v0 v1 v2 f n) v0 (some j12) v2 r17.2.1 r17.2.2))))) = some r := h
          refine aw_ifnull_r C 75 dX7_addLock_44 (by decide) ?_
          refine aw_ald_n C dX7_addLock_47 rfl ?_
          obtain ⟨hb13, h⟩ := ck_some h
          obtain ⟨r14, hr14, h⟩ := Option.bind_eq_some_iff.mp h
          obtain ⟨fs15, hf15⟩ := isO_ex hb13
          refine aw_callV C (ci := 5) (b := j11) [] mv_X7_62 rfl rfl hf15 (rmX5_size hr14) rfl dX7_addLock_48 (Nat.le_of_ble_eq_true rfl) (Nat.le_of_ble_eq_true rfl) rfl (Nat.le_of_ble_eq_true rfl) (show cells + 0 ≤ 0 by omega) (show slots + 0 ≤ 0 by omega) (fun v9 f9 n9 hh => ?_)
          obtain ⟨rfl, rfl, rfl⟩ := hh
          refine aw_ald_n C dX7_addLock_51 rfl ?_
          obtain ⟨hb16, h⟩ := ck_some h
          obtain ⟨r17, hr17, h⟩ := Option.bind_eq_some_iff.mp h
          obtain ⟨fs18, hf18⟩ := isO_ex hb16
          refine aw_callV C (ci := 5) (b := j12) [] mv_X7_62 rfl rfl hf18 (rmX5_size hr17) rfl dX7_addLock_52 (Nat.le_of_ble_eq_true rfl) (Nat.le_of_ble_eq_true rfl) rfl (Nat.le_of_ble_eq_true rfl) (show (cells + 0) + 0 ≤ 0 by omega) (show (slots + 0) + 0 ≤ 0 by omega) (fun v9 f9 n9 hh => ?_)
          obtain ⟨rfl, rfl, rfl⟩ := hh
          refine aw_icmp_ne C 75 dX7_addLock_55 (by decide) (fun q => ?_) (fun q => ?_)
          · rw [if_neg q] at h
            refine aw_fl [some (.ref v0), some (va_rf (some j12)), some (.int v2), none] ⟨rfl, ⟨rfl, ⟨rfl, trivial⟩⟩⟩ ?_
            exact rmX7_addLock_b75 C (fun v0 v1 v2 f n cells slots hc hs h => ih v0 v1 v2 f n cells slots hc hs h) (by omega) (by omega) h
          · rw [if_pos q] at h
            refine aw_ald_n C dX7_addLock_58 rfl ?_
            refine aw_iconst C 0 dX7_addLock_59 ki_0 ?_
            refine aw_ald_n C dX7_addLock_60 rfl ?_
            refine aw_iconst C 0 dX7_addLock_61 ki_0 ?_
            refine aw_ald_n C dX7_addLock_62 rfl ?_
            obtain ⟨hb19, h⟩ := ck_some h
            obtain ⟨r20, hr20, h⟩ := Option.bind_eq_some_iff.mp h
            obtain ⟨fs21, hf21⟩ := isO_ex hb19
            refine aw_callV C (ci := 5) (b := j11) [] mv_X7_62 rfl rfl hf21 (rmX5_size hr20) rfl dX7_addLock_63 (Nat.le_of_ble_eq_true rfl) (Nat.le_of_ble_eq_true rfl) rfl (Nat.le_of_ble_eq_true rfl) (show ((cells + 0) + 0) + 0 ≤ 0 by omega) (show ((slots + 0) + 0) + 0 ≤ 0 by omega) (fun v9 f9 n9 hh => ?_)
            obtain ⟨rfl, rfl, rfl⟩ := hh
            obtain ⟨hb22, h⟩ := ck_some h
            obtain ⟨r23, hr23, h⟩ := Option.bind_eq_some_iff.mp h
            obtain ⟨fs24, hf24⟩ := isO_ex hb22
            refine aw_callV C (ci := 5) (b := j11) [.int (0 : Int32), .ref j12, .int (0 : Int32), .int r20.1] mv_X7_66 rfl rfl hf24 (rmX5_isSame hr23) rfl dX7_addLock_66 (Nat.le_of_ble_eq_true rfl) (Nat.le_of_ble_eq_true rfl) rfl (Nat.le_of_ble_eq_true rfl) (show (((cells + 0) + 0) + 0) + 0 ≤ 0 by omega) (show (((slots + 0) + 0) + 0) + 0 ≤ 0 by omega) (fun v9 f9 n9 hh => ?_)
            obtain ⟨rfl, rfl, rfl⟩ := hh
            refine aw_if_eq C 75 dX7_addLock_69 (by decide) (fun q => ?_) (fun q => ?_)
            · rw [if_pos q] at h
              refine aw_fl [some (.ref v0), some (va_rf (some j12)), some (.int v2), none] ⟨rfl, ⟨rfl, ⟨rfl, trivial⟩⟩⟩ ?_
              exact rmX7_addLock_b75 C (fun v0 v1 v2 f n cells slots hc hs h => ih v0 v1 v2 f n cells slots hc hs h) (by omega) (by omega) h
            · rw [if_neg q] at h
              refine aw_bipush C 7 dX7_addLock_72 kb_7 ?_
              cases h
              exact aw_iret C rfl rfl dX7_addLock_74 (by omega) (by omega) ⟨rfl, rfl, rfl⟩
def mX7_addLock_b19 (f : AH) (n : Nat) : Option (Int32 × HpN) := some ((6 : Int32), (f, n))
set_option maxHeartbeats 1000000 in
theorem rmX7_addLock_b19 {X : GX} {p : Program} {l : Launch} {e : Env} {s : State} {m : MethodId} {args : Array Value} {below : List Frame} {meth : Method} {c : Code} {r : Int32 × HpN} {f : AH} {n cells slots : Nat} (C : CC X p l (RM 2 0 0) s m args meth c RX7 cX7_addLock 4 (some .int)) (hc : cells + 0 ≤ 0) (hs : slots + 0 ≤ 0) (h : mX7_addLock_b19 f n = some r) : AW X p l e (RM 2 0 0) s m args below meth c 4 (ZM X below args s 0 0 (QHi r)) f n cells slots 19 [none, none, none, none] [] := by
  have h : some ((6 : Int32), (f, n)) = some r := h
  refine aw_bipush C 6 dX7_addLock_19 kb_6 ?_
  cases h
  exact aw_iret C rfl rfl dX7_addLock_21 (by omega) (by omega) ⟨rfl, rfl, rfl⟩
def mX7_addLock (v0 : Nat) (v1 : Option Nat) (f : AH) (n : Nat) : Option (Int32 × HpN) := ((gI f v0 7 5).bind fun x1 => (if x1 < (0 : Int32) then mX7_addLock_b19 f n else ((gI f v0 7 5).bind fun x2 => ((gR f v0 7 8).bind fun x3 => ((x3).bind fun j4 => ((gL f j4).bind fun x5 => (if x2 < (nI x5) then mX7_addLock_l24 rFU v0 v1 (0 : Int32) f n else mX7_addLock_b19 f n)))))))
set_option maxHeartbeats 1000000 in
theorem rmX7_addLock {X : GX} {l : Launch} {r : Int32 × HpN} {v0 : Nat} {v1 : Option Nat} {f : AH} {n : Nat} (h : mX7_addLock v0 v1 f n = some r) : AM X l yX7_addLock cX7_addLock 4 (some .int) 2 0 0 [.ref v0, va_rf v1] f n (QHi r) := by
  have h : ((gI f v0 7 5).bind fun x1 => (if x1 < (0 : Int32) then mX7_addLock_b19 f n else ((gI f v0 7 5).bind fun x2 => ((gR f v0 7 8).bind fun x3 => ((x3).bind fun j4 => ((gL f j4).bind fun x5 => (if x2 < (nI x5) then mX7_addLock_l24 rFU v0 v1 (0 : Int32) f n else mX7_addLock_b19 f n))))))) = some r := h
  refine AM.of (by decide +kernel) (all1 rfl (all1 (rf_cat _) rfl)) (Nat.le_of_ble_eq_true rfl) (fun p e s m args below meth c C hnm => ?_)
  refine aw_nl [some (.ref v0), some (va_rf v1), none, none] rfl ?_
  refine aw_ald_n C dX7_addLock_0 rfl ?_
  obtain ⟨x1, hx1, h⟩ := Option.bind_eq_some_iff.mp h
  refine ah_getI C gf_X7_41 hx1 dX7_addLock_1 ?_
  refine aw_if_lt C 19 dX7_addLock_4 (by decide) (fun q => ?_) (fun q => ?_)
  · rw [if_pos q] at h
    refine aw_fl [none, none, none, none] trivial ?_
    exact rmX7_addLock_b19 C (by omega) (by omega) h
  · rw [if_neg q] at h
    refine aw_ald_n C dX7_addLock_7 rfl ?_
    obtain ⟨x2, hx2, h⟩ := Option.bind_eq_some_iff.mp h
    refine ah_getI C gf_X7_41 hx2 dX7_addLock_8 ?_
    refine aw_ald_n C dX7_addLock_11 rfl ?_
    obtain ⟨x3, hx3, h⟩ := Option.bind_eq_some_iff.mp h
    refine ah_getR C gf_X7_30 hx3 dX7_addLock_12 ?_
    obtain ⟨j4, hj4, h⟩ := Option.bind_eq_some_iff.mp h
    rw [hj4]
    obtain ⟨x5, hx5, h⟩ := Option.bind_eq_some_iff.mp h
    refine ah_len C hx5 dX7_addLock_15 ?_
    refine aw_icmp_lt C 22 dX7_addLock_16 (by decide) (fun q => ?_) (fun q => ?_)
    · rw [if_pos q] at h
      refine aw_iconst C 0 dX7_addLock_22 ki_0 ?_
      refine aw_istore_n C dX7_addLock_23 (by decide) (ok_rf 1 rfl) ?_
      refine aw_nl [some (.ref v0), some (va_rf v1), some (.int (0 : Int32)), none] rfl ?_
      refine aw_fl [some (.ref v0), some (va_rf v1), some (.int (0 : Int32)), none] ⟨rfl, ⟨rfl, ⟨rfl, trivial⟩⟩⟩ ?_
      exact rmX7_addLock_l24 C rFU v0 v1 (0 : Int32) f n _ _ (by omega) (by omega) h
    · rw [if_neg q] at h
      refine aw_fl [none, none, none, none] trivial ?_
      exact rmX7_addLock_b19 C (by omega) (by omega) h
def mX7_setTold_b20 (f : AH) (n : Nat) : Option (Int32 × HpN) := some ((0 : Int32), (f, n))
set_option maxHeartbeats 1000000 in
theorem rmX7_setTold_b20 {X : GX} {p : Program} {l : Launch} {e : Env} {s : State} {m : MethodId} {args : Array Value} {below : List Frame} {meth : Method} {c : Code} {r : Int32 × HpN} {f : AH} {n cells slots : Nat} (C : CC X p l (RM 0 0 0) s m args meth c RX7 cX7_setTold 3 none) (hc : cells + 0 ≤ 0) (hs : slots + 0 ≤ 0) (h : mX7_setTold_b20 f n = some r) : AW X p l e (RM 0 0 0) s m args below meth c 3 (ZM X below args s 0 0 (QHv r)) f n cells slots 20 [none, none, none] [] := by
  have h : some ((0 : Int32), (f, n)) = some r := h
  cases h
  exact aw_vret C rfl dX7_setTold_20 (by omega) (by omega) ⟨rfl, rfl, rfl⟩
def mX7_setTold (v0 : Nat) (v1 : Int32) (v2 : Option Nat) (f : AH) (n : Nat) : Option (Int32 × HpN) := (if v1 < (0 : Int32) then mX7_setTold_b20 f n else ((gR f v0 7 9).bind fun x1 => ((x1).bind fun j2 => ((gL f j2).bind fun x3 => (if (nI x3) ≤ v1 then mX7_setTold_b20 f n else ((gR f v0 7 9).bind fun x4 => ((x4).bind fun j5 => ((pRA f j5 v1 v2).bind fun f6 => mX7_setTold_b20 f6 n))))))))
set_option maxHeartbeats 1000000 in
theorem rmX7_setTold {X : GX} {l : Launch} {r : Int32 × HpN} {v0 : Nat} {v1 : Int32} {v2 : Option Nat} {f : AH} {n : Nat} (h : mX7_setTold v0 v1 v2 f n = some r) : AM X l yX7_setTold cX7_setTold 3 none 0 0 0 [.ref v0, .int v1, va_rf v2] f n (QHv r) := by
  have h : (if v1 < (0 : Int32) then mX7_setTold_b20 f n else ((gR f v0 7 9).bind fun x1 => ((x1).bind fun j2 => ((gL f j2).bind fun x3 => (if (nI x3) ≤ v1 then mX7_setTold_b20 f n else ((gR f v0 7 9).bind fun x4 => ((x4).bind fun j5 => ((pRA f j5 v1 v2).bind fun f6 => mX7_setTold_b20 f6 n)))))))) = some r := h
  refine AM.of (by decide +kernel) (all1 rfl (all1 rfl (all1 (rf_cat _) rfl))) (Nat.le_of_ble_eq_true rfl) (fun p e s m args below meth c C hnm => ?_)
  refine aw_nl [some (.ref v0), some (.int v1), some (va_rf v2)] rfl ?_
  refine aw_iload_n C dX7_setTold_0 rfl ?_
  refine aw_if_lt C 20 dX7_setTold_1 (by decide) (fun q => ?_) (fun q => ?_)
  · rw [if_pos q] at h
    refine aw_fl [none, none, none] trivial ?_
    exact rmX7_setTold_b20 C (by omega) (by omega) h
  · rw [if_neg q] at h
    refine aw_iload_n C dX7_setTold_4 rfl ?_
    refine aw_ald_n C dX7_setTold_5 rfl ?_
    obtain ⟨x1, hx1, h⟩ := Option.bind_eq_some_iff.mp h
    refine ah_getR C gf_X7_34 hx1 dX7_setTold_6 ?_
    obtain ⟨j2, hj2, h⟩ := Option.bind_eq_some_iff.mp h
    rw [hj2]
    obtain ⟨x3, hx3, h⟩ := Option.bind_eq_some_iff.mp h
    refine ah_len C hx3 dX7_setTold_9 ?_
    refine aw_icmp_ge C 20 dX7_setTold_10 (by decide) (fun q => ?_) (fun q => ?_)
    · rw [if_pos q] at h
      refine aw_fl [none, none, none] trivial ?_
      exact rmX7_setTold_b20 C (by omega) (by omega) h
    · rw [if_neg q] at h
      refine aw_ald_n C dX7_setTold_13 rfl ?_
      obtain ⟨x4, hx4, h⟩ := Option.bind_eq_some_iff.mp h
      refine ah_getR C gf_X7_34 hx4 dX7_setTold_14 ?_
      refine aw_iload_n C dX7_setTold_17 rfl ?_
      refine aw_aload_n C dX7_setTold_18 rfl (rf_or v2) ?_
      obtain ⟨j5, hj5, h⟩ := Option.bind_eq_some_iff.mp h
      rw [hj5]
      obtain ⟨f6, hf6, h⟩ := Option.bind_eq_some_iff.mp h
      refine ah_aast C hf6 dX7_setTold_19 ?_
      refine aw_fl [none, none, none] trivial ?_
      exact rmX7_setTold_b20 C (by omega) (by omega) h
def mX8_freePiece_b58 (s0 : Int32) (f : AH) (n : Nat) : Option (Int32 × HpN) := some (s0, (f, n))
set_option maxHeartbeats 1000000 in
theorem rmX8_freePiece_b58 {X : GX} {p : Program} {l : Launch} {e : Env} {s : State} {m : MethodId} {args : Array Value} {below : List Frame} {meth : Method} {c : Code} {r : Int32 × HpN} {s0 : Int32} {f : AH} {n cells slots : Nat} (C : CC X p l (RM 5 0 0) s m args meth c RX8 cX8_freePiece 2 (some .int)) (hc : cells + 0 ≤ 0) (hs : slots + 0 ≤ 0) (h : mX8_freePiece_b58 s0 f n = some r) : AW X p l e (RM 5 0 0) s m args below meth c 2 (ZM X below args s 0 0 (QHi r)) f n cells slots 58 [none, none] [.int s0] := by
  have h : some (s0, (f, n)) = some r := h
  cases h
  exact aw_iret C rfl rfl dX8_freePiece_58 (by omega) (by omega) ⟨rfl, rfl, rfl⟩
def mX8_freePiece (v0 : Nat) (v1 : Int32) (f : AH) (n : Nat) : Option (Int32 × HpN) := ((gR f v0 8 5).bind fun x1 => ((x1).bind fun j2 => rCk (isO f j2 1) (((mX1_get j2 v1 f n).bind fun r4 => ((some r4.1).bind fun x6 => (oN x6 (some ((1 : Int32), (r4.2.1, r4.2.2))) (fun j7 => ((gR r4.2.1 v0 8 1).bind fun x8 => ((x8).bind fun j9 => rCk (isO r4.2.1 j9 7) (((mX7_toldFor j9 v1 r4.2.1 r4.2.2).bind fun r11 => ((some r11.1).bind fun x13 => (oN x13 (some ((4 : Int32), (r11.2.1, r11.2.2))) (fun j14 => ((gR r11.2.1 v0 8 1).bind fun x15 => ((x15).bind fun j16 => rCk (isO r11.2.1 j16 7) (((mX7_setTold j16 v1 (none : Option Nat) r11.2.1 r11.2.2).bind fun r18 => ((gR r18.2.1 v0 8 7).bind fun x20 => ((gR r18.2.1 v0 8 1).bind fun x21 => ((gR r18.2.1 v0 8 5).bind fun x22 => ((x20).bind fun j23 => rCk (isO r18.2.1 j23 0) (((mX0_make j23 x21 x22 r18.2.1 r18.2.2).bind fun r25 => (if r25.1 = (0 : Int32) then mX8_freePiece_b58 (3 : Int32) r25.2.1 r25.2.2 else mX8_freePiece_b58 (0 : Int32) r25.2.1 r25.2.2)))))))))))))))))))))))))
set_option maxHeartbeats 1000000 in
theorem rmX8_freePiece {X : GX} {l : Launch} {r : Int32 × HpN} {v0 : Nat} {v1 : Int32} {f : AH} {n : Nat} (h : mX8_freePiece v0 v1 f n = some r) : AM X l yX8_freePiece cX8_freePiece 2 (some .int) 5 0 0 [.ref v0, .int v1] f n (QHi r) := by
  have h : ((gR f v0 8 5).bind fun x1 => ((x1).bind fun j2 => rCk (isO f j2 1) (((mX1_get j2 v1 f n).bind fun r4 => ((some r4.1).bind fun x6 => (oN x6 (some ((1 : Int32), (r4.2.1, r4.2.2))) (fun j7 => ((gR r4.2.1 v0 8 1).bind fun x8 => ((x8).bind fun j9 => rCk (isO r4.2.1 j9 7) (((mX7_toldFor j9 v1 r4.2.1 r4.2.2).bind fun r11 => ((some r11.1).bind fun x13 => (oN x13 (some ((4 : Int32), (r11.2.1, r11.2.2))) (fun j14 => ((gR r11.2.1 v0 8 1).bind fun x15 => ((x15).bind fun j16 => rCk (isO r11.2.1 j16 7) (((mX7_setTold j16 v1 (none : Option Nat) r11.2.1 r11.2.2).bind fun r18 => ((gR r18.2.1 v0 8 7).bind fun x20 => ((gR r18.2.1 v0 8 1).bind fun x21 => ((gR r18.2.1 v0 8 5).bind fun x22 => ((x20).bind fun j23 => rCk (isO r18.2.1 j23 0) (((mX0_make j23 x21 x22 r18.2.1 r18.2.2).bind fun r25 => (if r25.1 = (0 : Int32) then mX8_freePiece_b58 (3 : Int32) r25.2.1 r25.2.2 else mX8_freePiece_b58 (0 : Int32) r25.2.1 r25.2.2))))))))))))))))))))))))) = some r := h
  refine AM.of (by decide +kernel) rfl (Nat.le_of_ble_eq_true rfl) (fun p e s m args below meth c C hnm => ?_)
  refine aw_nl [some (.ref v0), some (.int v1)] rfl ?_
  refine aw_ald_n C dX8_freePiece_0 rfl ?_
  obtain ⟨x1, hx1, h⟩ := Option.bind_eq_some_iff.mp h
  refine ah_getR C gf_X8_38 hx1 dX8_freePiece_1 ?_
  refine aw_iload_n C dX8_freePiece_4 rfl ?_
  obtain ⟨j2, hj2, h⟩ := Option.bind_eq_some_iff.mp h
  rw [hj2]
  obtain ⟨hb3, h⟩ := ck_some h
  obtain ⟨r4, hr4, h⟩ := Option.bind_eq_some_iff.mp h
  obtain ⟨fs5, hf5⟩ := isO_ex hb3
  refine aw_callV C (ci := 1) (b := j2) [.int v1] mv_X8_241 rfl rfl hf5 (rmX1_get hr4) rfl dX8_freePiece_5 (Nat.le_of_ble_eq_true rfl) (Nat.le_of_ble_eq_true rfl) rfl (Nat.le_of_ble_eq_true rfl) (show 0 + 0 ≤ 0 by omega) (show 0 + 0 ≤ 0 by omega) (fun v9 f9 n9 hh => ?_)
  obtain ⟨rfl, rfl, rfl⟩ := hh
  obtain ⟨x6, hx6, h⟩ := Option.bind_eq_some_iff.mp h
  rw [Option.some.inj hx6]
  cases x6 with
  | none =>
    replace h : some ((1 : Int32), (r4.2.1, r4.2.2)) = some r := h
    refine aw_ifnonnull_n C 13 dX8_freePiece_8 (by decide) ?_
    refine aw_iconst C 1 dX8_freePiece_11 ki_1 ?_
    cases h
    exact aw_iret C rfl rfl dX8_freePiece_12 (by omega) (by omega) ⟨rfl, rfl, rfl⟩
  | some j7 =>
    replace h : ((gR r4.2.1 v0 8 1).bind fun x8 => ((x8).bind fun j9 => rCk (isO r4.2.1 j9 7) (((mX7_toldFor j9 v1 r4.2.1 r4.2.2).bind fun r11 => ((some r11.1).bind fun x13 => (oN x13 (some ((4 : Int32), (r11.2.1, r11.2.2))) (fun j14 => ((gR r11.2.1 v0 8 1).bind fun x15 => ((x15).bind fun j16 => rCk (isO r11.2.1 j16 7) (((mX7_setTold j16 v1 (none : Option Nat) r11.2.1 r11.2.2).bind fun r18 => ((gR r18.2.1 v0 8 7).bind fun x20 => ((gR r18.2.1 v0 8 1).bind fun x21 => ((gR r18.2.1 v0 8 5).bind fun x22 => ((x20).bind fun j23 => rCk (isO r18.2.1 j23 0) (((mX0_make j23 x21 x22 r18.2.1 r18.2.2).bind fun r25 => (if r25.1 = (0 : Int32) then mX8_freePiece_b58 (3 : Int32) r25.2.1 r25.2.2 else mX8_freePiece_b58 (0 : Int32) r25.2.1 r25.2.2)))))))))))))))))) = some r := h
    refine aw_ifnonnull_r C 13 dX8_freePiece_8 (by decide) ?_
    refine aw_ald_n C dX8_freePiece_13 rfl ?_
    obtain ⟨x8, hx8, h⟩ := Option.bind_eq_some_iff.mp h
    refine ah_getR C gf_X8_21 hx8 dX8_freePiece_14 ?_
    refine aw_iload_n C dX8_freePiece_17 rfl ?_
    obtain ⟨j9, hj9, h⟩ := Option.bind_eq_some_iff.mp h
    rw [hj9]
    obtain ⟨hb10, h⟩ := ck_some h
    obtain ⟨r11, hr11, h⟩ := Option.bind_eq_some_iff.mp h
    obtain ⟨fs12, hf12⟩ := isO_ex hb10
    refine aw_callV C (ci := 7) (b := j9) [.int v1] mv_X8_194 rfl rfl hf12 (rmX7_toldFor hr11) rfl dX8_freePiece_18 (Nat.le_of_ble_eq_true rfl) (Nat.le_of_ble_eq_true rfl) rfl (Nat.le_of_ble_eq_true rfl) (show (0 + 0) + 0 ≤ 0 by omega) (show (0 + 0) + 0 ≤ 0 by omega) (fun v9 f9 n9 hh => ?_)
    obtain ⟨rfl, rfl, rfl⟩ := hh
    obtain ⟨x13, hx13, h⟩ := Option.bind_eq_some_iff.mp h
    rw [Option.some.inj hx13]
    cases x13 with
    | none =>
      replace h : some ((4 : Int32), (r11.2.1, r11.2.2)) = some r := h
      refine aw_ifnonnull_n C 26 dX8_freePiece_21 (by decide) ?_
      refine aw_iconst C 4 dX8_freePiece_24 ki_4 ?_
      cases h
      exact aw_iret C rfl rfl dX8_freePiece_25 (by omega) (by omega) ⟨rfl, rfl, rfl⟩
    | some j14 =>
      replace h : ((gR r11.2.1 v0 8 1).bind fun x15 => ((x15).bind fun j16 => rCk (isO r11.2.1 j16 7) (((mX7_setTold j16 v1 (none : Option Nat) r11.2.1 r11.2.2).bind fun r18 => ((gR r18.2.1 v0 8 7).bind fun x20 => ((gR r18.2.1 v0 8 1).bind fun x21 => ((gR r18.2.1 v0 8 5).bind fun x22 => ((x20).bind fun j23 => rCk (isO r18.2.1 j23 0) (((mX0_make j23 x21 x22 r18.2.1 r18.2.2).bind fun r25 => (if r25.1 = (0 : Int32) then mX8_freePiece_b58 (3 : Int32) r25.2.1 r25.2.2 else mX8_freePiece_b58 (0 : Int32) r25.2.1 r25.2.2))))))))))) = some r := h
      refine aw_ifnonnull_r C 26 dX8_freePiece_21 (by decide) ?_
      refine aw_ald_n C dX8_freePiece_26 rfl ?_
      obtain ⟨x15, hx15, h⟩ := Option.bind_eq_some_iff.mp h
      refine ah_getR C gf_X8_21 hx15 dX8_freePiece_27 ?_
      refine aw_iload_n C dX8_freePiece_30 rfl ?_
      refine aw_null C dX8_freePiece_31 ?_
      obtain ⟨j16, hj16, h⟩ := Option.bind_eq_some_iff.mp h
      rw [hj16]
      obtain ⟨hb17, h⟩ := ck_some h
      obtain ⟨r18, hr18, h⟩ := Option.bind_eq_some_iff.mp h
      obtain ⟨fs19, hf19⟩ := isO_ex hb17
      refine aw_callV C (ci := 7) (b := j16) [.int v1, .null] mv_X8_369 rfl rfl hf19 (rmX7_setTold hr18) rfl dX8_freePiece_32 (Nat.le_of_ble_eq_true rfl) (Nat.le_of_ble_eq_true rfl) rfl (Nat.le_of_ble_eq_true rfl) (show ((0 + 0) + 0) + 0 ≤ 0 by omega) (show ((0 + 0) + 0) + 0 ≤ 0 by omega) (fun v9 f9 n9 hh => ?_)
      obtain ⟨rfl, rfl, rfl⟩ := hh
      refine aw_ald_n C dX8_freePiece_35 rfl ?_
      obtain ⟨x20, hx20, h⟩ := Option.bind_eq_some_iff.mp h
      refine ah_getR C gf_X8_48 hx20 dX8_freePiece_36 ?_
      refine aw_ald_n C dX8_freePiece_39 rfl ?_
      obtain ⟨x21, hx21, h⟩ := Option.bind_eq_some_iff.mp h
      refine ah_getR C gf_X8_21 hx21 dX8_freePiece_40 ?_
      refine aw_ald_n C dX8_freePiece_43 rfl ?_
      obtain ⟨x22, hx22, h⟩ := Option.bind_eq_some_iff.mp h
      refine ah_getR C gf_X8_38 hx22 dX8_freePiece_44 ?_
      obtain ⟨j23, hj23, h⟩ := Option.bind_eq_some_iff.mp h
      rw [hj23]
      obtain ⟨hb24, h⟩ := ck_some h
      obtain ⟨r25, hr25, h⟩ := Option.bind_eq_some_iff.mp h
      obtain ⟨fs26, hf26⟩ := isO_ex hb24
      refine aw_callV C (ci := 0) (b := j23) [va_rf x21, va_rf x22] mv_X8_365 rfl rfl hf26 (rmX0_make hr25) rfl dX8_freePiece_47 (Nat.le_of_ble_eq_true rfl) (Nat.le_of_ble_eq_true rfl) rfl (Nat.le_of_ble_eq_true rfl) (show (((0 + 0) + 0) + 0) + 0 ≤ 0 by omega) (show (((0 + 0) + 0) + 0) + 0 ≤ 0 by omega) (fun v9 f9 n9 hh => ?_)
      obtain ⟨rfl, rfl, rfl⟩ := hh
      refine aw_if_eq C 57 dX8_freePiece_50 (by decide) (fun q => ?_) (fun q => ?_)
      · rw [if_pos q] at h
        refine aw_iconst C 3 dX8_freePiece_57 ki_3 ?_
        refine aw_fl [none, none] trivial ?_
        exact rmX8_freePiece_b58 C (by omega) (by omega) h
      · rw [if_neg q] at h
        refine aw_iconst C 0 dX8_freePiece_53 ki_0 ?_
        refine aw_goto C 58 dX8_freePiece_54 (by decide) ?_
        refine aw_fl [none, none] trivial ?_
        exact rmX8_freePiece_b58 C (by omega) (by omega) h
def mX1_areLike_b66 (s0 : Int32) (f : AH) (n : Nat) : Option (Int32 × HpN) := rCk (rNb s0) (some (s0, (f, n)))
set_option maxHeartbeats 1000000 in
theorem rmX1_areLike_b66 {X : GX} {p : Program} {l : Launch} {e : Env} {s : State} {m : MethodId} {args : Array Value} {below : List Frame} {meth : Method} {c : Code} {r : Int32 × HpN} {s0 : Int32} {f : AH} {n cells slots : Nat} (C : CC X p l (RM 2 0 0) s m args meth c RX1 cX1_areLike 5 (some .boolean)) (hc : cells + 0 ≤ 0) (hs : slots + 0 ≤ 0) (h : mX1_areLike_b66 s0 f n = some r) : AW X p l e (RM 2 0 0) s m args below meth c 5 (ZM X below args s 0 0 (QHi r)) f n cells slots 66 [none, none, none, none, none] [.int s0] := by
  have h : rCk (rNb s0) (some (s0, (f, n))) = some r := h
  obtain ⟨hb1, h⟩ := ck_some h
  cases h
  exact aw_iret C rfl (nb_nar hb1) dX1_areLike_66 (by omega) (by omega) ⟨rfl, rfl, rfl⟩
def mX1_areLike_b65 (f : AH) (n : Nat) : Option (Int32 × HpN) := mX1_areLike_b66 (0 : Int32) f n
set_option maxHeartbeats 1000000 in
theorem rmX1_areLike_b65 {X : GX} {p : Program} {l : Launch} {e : Env} {s : State} {m : MethodId} {args : Array Value} {below : List Frame} {meth : Method} {c : Code} {r : Int32 × HpN} {f : AH} {n cells slots : Nat} (C : CC X p l (RM 2 0 0) s m args meth c RX1 cX1_areLike 5 (some .boolean)) (hc : cells + 0 ≤ 0) (hs : slots + 0 ≤ 0) (h : mX1_areLike_b65 f n = some r) : AW X p l e (RM 2 0 0) s m args below meth c 5 (ZM X below args s 0 0 (QHi r)) f n cells slots 65 [none, none, none, none, none] [] := by
  have h : mX1_areLike_b66 (0 : Int32) f n = some r := h
  refine aw_iconst C 0 dX1_areLike_65 ki_0 ?_
  refine aw_fl [none, none, none, none, none] trivial ?_
  exact rmX1_areLike_b66 C (by omega) (by omega) h
def mX1_areLike (v0 : Nat) (v1 : Int32) (v2 : Int32) (f : AH) (n : Nat) : Option (Int32 × HpN) := rCk (isO f v0 1) (((mX1_get v0 v1 f n).bind fun r2 => ((some r2.1).bind fun x4 => rCk (isO r2.2.1 v0 1) (((mX1_get v0 v2 r2.2.1 r2.2.2).bind fun r6 => ((some r6.1).bind fun x8 => (oN x4 (mX1_areLike_b65 r6.2.1 r6.2.2) (fun j9 => (oN x8 (mX1_areLike_b65 r6.2.1 r6.2.2) (fun j10 => ((gI r6.2.1 j9 3 3).bind fun x11 => ((gI r6.2.1 j10 3 3).bind fun x12 => (if x11 = x12 then ((gR r6.2.1 v0 1 0).bind fun x13 => ((gI r6.2.1 j9 3 2).bind fun x14 => ((gR r6.2.1 v0 1 0).bind fun x15 => ((gI r6.2.1 j10 3 2).bind fun x16 => ((gI r6.2.1 j9 3 3).bind fun x17 => ((x13).bind fun j18 => rCk (isO r6.2.1 j18 5) (((mX5_isSame j18 x14 x15 x16 x17 r6.2.1 r6.2.2).bind fun r20 => (if r20.1 = (0 : Int32) then mX1_areLike_b65 r20.2.1 r20.2.2 else mX1_areLike_b66 (1 : Int32) r20.2.1 r20.2.2))))))))) else mX1_areLike_b65 r6.2.1 r6.2.2)))))))))))))
set_option maxHeartbeats 1000000 in
theorem rmX1_areLike {X : GX} {l : Launch} {r : Int32 × HpN} {v0 : Nat} {v1 : Int32} {v2 : Int32} {f : AH} {n : Nat} (h : mX1_areLike v0 v1 v2 f n = some r) : AM X l yX1_areLike cX1_areLike 5 (some .boolean) 2 0 0 [.ref v0, .int v1, .int v2] f n (QHi r) := by
  have h : rCk (isO f v0 1) (((mX1_get v0 v1 f n).bind fun r2 => ((some r2.1).bind fun x4 => rCk (isO r2.2.1 v0 1) (((mX1_get v0 v2 r2.2.1 r2.2.2).bind fun r6 => ((some r6.1).bind fun x8 => (oN x4 (mX1_areLike_b65 r6.2.1 r6.2.2) (fun j9 => (oN x8 (mX1_areLike_b65 r6.2.1 r6.2.2) (fun j10 => ((gI r6.2.1 j9 3 3).bind fun x11 => ((gI r6.2.1 j10 3 3).bind fun x12 => (if x11 = x12 then ((gR r6.2.1 v0 1 0).bind fun x13 => ((gI r6.2.1 j9 3 2).bind fun x14 => ((gR r6.2.1 v0 1 0).bind fun x15 => ((gI r6.2.1 j10 3 2).bind fun x16 => ((gI r6.2.1 j9 3 3).bind fun x17 => ((x13).bind fun j18 => rCk (isO r6.2.1 j18 5) (((mX5_isSame j18 x14 x15 x16 x17 r6.2.1 r6.2.2).bind fun r20 => (if r20.1 = (0 : Int32) then mX1_areLike_b65 r20.2.1 r20.2.2 else mX1_areLike_b66 (1 : Int32) r20.2.1 r20.2.2))))))))) else mX1_areLike_b65 r6.2.1 r6.2.2))))))))))))) = some r := h
  refine AM.of (by decide +kernel) rfl (Nat.le_of_ble_eq_true rfl) (fun p e s m args below meth c C hnm => ?_)
  refine aw_nl [some (.ref v0), some (.int v1), some (.int v2), none, none] rfl ?_
  refine aw_ald_n C dX1_areLike_0 rfl ?_
  refine aw_iload_n C dX1_areLike_1 rfl ?_
  obtain ⟨hb1, h⟩ := ck_some h
  obtain ⟨r2, hr2, h⟩ := Option.bind_eq_some_iff.mp h
  obtain ⟨fs3, hf3⟩ := isO_ex hb1
  refine aw_callV C (ci := 1) (b := v0) [.int v1] mv_X1_154 rfl rfl hf3 (rmX1_get hr2) rfl dX1_areLike_2 (Nat.le_of_ble_eq_true rfl) (Nat.le_of_ble_eq_true rfl) rfl (Nat.le_of_ble_eq_true rfl) (show 0 + 0 ≤ 0 by omega) (show 0 + 0 ≤ 0 by omega) (fun v9 f9 n9 hh => ?_)
  obtain ⟨rfl, rfl, rfl⟩ := hh
  obtain ⟨x4, hx4, h⟩ := Option.bind_eq_some_iff.mp h
  rw [Option.some.inj hx4]
  refine aw_astore_n C dX1_areLike_5 (by decide) rfl (rf_or x4) ?_
  refine aw_nl [some (.ref v0), some (.int v1), some (.int v2), some (va_rf x4), none] rfl ?_
  refine aw_ald_n C dX1_areLike_6 rfl ?_
  refine aw_iload_n C dX1_areLike_7 rfl ?_
  obtain ⟨hb5, h⟩ := ck_some h
  obtain ⟨r6, hr6, h⟩ := Option.bind_eq_some_iff.mp h
  obtain ⟨fs7, hf7⟩ := isO_ex hb5
  refine aw_callV C (ci := 1) (b := v0) [.int v2] mv_X1_154 rfl rfl hf7 (rmX1_get hr6) rfl dX1_areLike_8 (Nat.le_of_ble_eq_true rfl) (Nat.le_of_ble_eq_true rfl) rfl (Nat.le_of_ble_eq_true rfl) (show (0 + 0) + 0 ≤ 0 by omega) (show (0 + 0) + 0 ≤ 0 by omega) (fun v9 f9 n9 hh => ?_)
  obtain ⟨rfl, rfl, rfl⟩ := hh
  obtain ⟨x8, hx8, h⟩ := Option.bind_eq_some_iff.mp h
  rw [Option.some.inj hx8]
  refine aw_astore C dX1_areLike_11 (by decide) (ok_rf 3 rfl) (rf_or x8) ?_
  refine aw_nl [some (.ref v0), some (.int v1), some (.int v2), some (va_rf x4), some (va_rf x8)] rfl ?_
  refine aw_aload_n C dX1_areLike_13 rfl (rf_or x4) ?_
  cases x4 with
  | none =>
    replace h : mX1_areLike_b65 r6.2.1 r6.2.2 = some r := h
    refine aw_ifnull_n C 65 dX1_areLike_14 (by decide) ?_
    refine aw_fl [none, none, none, none, none] trivial ?_
    exact rmX1_areLike_b65 C (by omega) (by omega) h
  | some j9 =>
    replace h : (oN x8 (mX1_areLike_b65 r6.2.1 r6.2.2) (fun j10 => ((gI r6.2.1 j9 3 3).bind fun x11 => ((gI r6.2.1 j10 3 3).bind fun x12 => (if x11 = x12 then ((gR r6.2.1 v0 1 0).bind fun x13 => ((gI r6.2.1 j9 3 2).bind fun x14 => ((gR r6.2.1 v0 1 0).bind fun x15 => ((gI r6.2.1 j10 3 2).bind fun x16 => ((gI r6.2.1 j9 3 3).bind fun x17 => ((x13).bind fun j18 => rCk (isO r6.2.1 j18 5) (((mX5_isSame j18 x14 x15 x16 x17 r6.2.1 r6.2.2).bind fun r20 => (if r20.1 = (0 : Int32) then mX1_areLike_b65 r20.2.1 r20.2.2 else mX1_areLike_b66 (1 : Int32) r20.2.1 r20.2.2))))))))) else mX1_areLike_b65 r6.2.1 r6.2.2))))) = some r := h
    refine aw_ifnull_r C 65 dX1_areLike_14 (by decide) ?_
    refine aw_aload C dX1_areLike_17 rfl (rf_or x8) ?_
    cases x8 with
    | none =>
      replace h : mX1_areLike_b65 r6.2.1 r6.2.2 = some r := h
      refine aw_ifnull_n C 65 dX1_areLike_19 (by decide) ?_
      refine aw_fl [none, none, none, none, none] trivial ?_
      exact rmX1_areLike_b65 C (by omega) (by omega) h
    | some j10 =>
      replace h : ((gI r6.2.1 j9 3 3).bind fun x11 => ((gI r6.2.1 j10 3 3).bind fun x12 => (if x11 = x12 then ((gR r6.2.1 v0 1 0).bind fun x13 => ((gI r6.2.1 j9 3 2).bind fun x14 => ((gR r6.2.1 v0 1 0).bind fun x15 => ((gI r6.2.1 j10 3 2).bind fun x16 => ((gI r6.2.1 j9 3 3).bind fun x17 => ((x13).bind fun j18 => rCk (isO r6.2.1 j18 5) (((mX5_isSame j18 x14 x15 x16 x17 r6.2.1 r6.2.2).bind fun r20 => (if r20.1 = (0 : Int32) then mX1_areLike_b65 r20.2.1 r20.2.2 else mX1_areLike_b66 (1 : Int32) r20.2.1 r20.2.2))))))))) else mX1_areLike_b65 r6.2.1 r6.2.2))) = some r := h
      refine aw_ifnull_r C 65 dX1_areLike_19 (by decide) ?_
      refine aw_ald_n C dX1_areLike_22 rfl ?_
      obtain ⟨x11, hx11, h⟩ := Option.bind_eq_some_iff.mp h
      refine ah_getI C gf_X1_133 hx11 dX1_areLike_23 ?_
      refine aw_ald C dX1_areLike_26 rfl ?_
      obtain ⟨x12, hx12, h⟩ := Option.bind_eq_some_iff.mp h
      refine ah_getI C gf_X1_133 hx12 dX1_areLike_28 ?_
      refine aw_icmp_ne C 65 dX1_areLike_31 (by decide) (fun q => ?_) (fun q => ?_)
      · rw [if_neg q] at h
        refine aw_fl [none, none, none, none, none] trivial ?_
        exact rmX1_areLike_b65 C (by omega) (by omega) h
      · rw [if_pos q] at h
        refine aw_ald_n C dX1_areLike_34 rfl ?_
        obtain ⟨x13, hx13, h⟩ := Option.bind_eq_some_iff.mp h
        refine ah_getR C gf_X1_14 hx13 dX1_areLike_35 ?_
        refine aw_ald_n C dX1_areLike_38 rfl ?_
        obtain ⟨x14, hx14, h⟩ := Option.bind_eq_some_iff.mp h
        refine ah_getI C gf_X1_130 hx14 dX1_areLike_39 ?_
        refine aw_ald_n C dX1_areLike_42 rfl ?_
        obtain ⟨x15, hx15, h⟩ := Option.bind_eq_some_iff.mp h
        refine ah_getR C gf_X1_14 hx15 dX1_areLike_43 ?_
        refine aw_ald C dX1_areLike_46 rfl ?_
        obtain ⟨x16, hx16, h⟩ := Option.bind_eq_some_iff.mp h
        refine ah_getI C gf_X1_130 hx16 dX1_areLike_48 ?_
        refine aw_ald_n C dX1_areLike_51 rfl ?_
        obtain ⟨x17, hx17, h⟩ := Option.bind_eq_some_iff.mp h
        refine ah_getI C gf_X1_133 hx17 dX1_areLike_52 ?_
        obtain ⟨j18, hj18, h⟩ := Option.bind_eq_some_iff.mp h
        rw [hj18]
        obtain ⟨hb19, h⟩ := ck_some h
        obtain ⟨r20, hr20, h⟩ := Option.bind_eq_some_iff.mp h
        obtain ⟨fs21, hf21⟩ := isO_ex hb19
        refine aw_callV C (ci := 5) (b := j18) [.int x14, va_rf x15, .int x16, .int x17] mv_X1_157 rfl rfl hf21 (rmX5_isSame hr20) rfl dX1_areLike_55 (Nat.le_of_ble_eq_true rfl) (Nat.le_of_ble_eq_true rfl) rfl (Nat.le_of_ble_eq_true rfl) (show ((0 + 0) + 0) + 0 ≤ 0 by omega) (show ((0 + 0) + 0) + 0 ≤ 0 by omega) (fun v9 f9 n9 hh => ?_)
        obtain ⟨rfl, rfl, rfl⟩ := hh
        refine aw_if_eq C 65 dX1_areLike_58 (by decide) (fun q => ?_) (fun q => ?_)
        · rw [if_pos q] at h
          refine aw_fl [none, none, none, none, none] trivial ?_
          exact rmX1_areLike_b65 C (by omega) (by omega) h
        · rw [if_neg q] at h
          refine aw_iconst C 1 dX1_areLike_61 ki_1 ?_
          refine aw_goto C 66 dX1_areLike_62 (by decide) ?_
          refine aw_fl [none, none, none, none, none] trivial ?_
          exact rmX1_areLike_b66 C (by omega) (by omega) h
