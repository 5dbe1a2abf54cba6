/-! THE CLAIM OUT OF ONE WALK OF THE LAW'S BODY. Your part is whole_start (and what it stands on); all else here is the same for every law, but numbers. -/
def R_law : String := "PieceFilesLaw"
def lw_P (b : Addr) (xs : List Int32) (args : Array Value) (s : State) : Prop := args = #[.ref b] ∧ s.IntsAt b xs ∧ xs.length ≤ 6 ∧ (Jvm.Cond.and given_1 narrow_1).before args s = true
def lw_Q (_ : Array Value) (s : State) (o : Outcome) (t : State) : Prop := o = .returned (some (.int 1)) ∧ Framed s o t [] 600002 7302232
def lw_Z (below : List Frame) (a : Array Value) (s : State) : State → Prop := fun t => ∃ o, t.status = .running ∧ Ended t below o ∧ lw_Q a s o t
/-- the law's own end, with 1 on the stack, nothing written that was there before, its room as the claim has it -/
theorem lw_ret {p : Program} {l : Launch} {e : Env} {s : State} {m : MethodId} {below : List Frame} {meth : Method} {c : Code} {b : Nat} (hx : p.tables.exec = Jvm.exec) (hb : c.code = code) (hr : meth.sig.returnType = ret) (hlocks : meth.locks = false) {pc : Nat} {H : Heap} {ls : Array Slot} (hdg : decode code pc = .ok (.ireturn, 1)) : W p l e room_1 s m #[Value.ref b] below meth c H [] 600002 7302232 (lw_Z below #[Value.ref b] s) (F0 m pc ls [.int 1]) := by
  intro T hT X
  obtain ⟨fs, hret, hrun, hended, hW, hframe⟩ := X.leave (v := some (.int 1)) (hlocks := hlocks) (fun h => by rw [hr] at h; cases h)
  have hmeth' : T.vm.method? m = some meth := X.method'
  refine ⟨T.setFrames fs, ?_, .returned (some (.int 1)), hrun, hended, rfl, ⟨_, rfl⟩, hW, hframe⟩
  jvm_step X.here [X.here.top, hx, hb, hdg, hmeth', hr, ret, narrow_b1]
  (try refine ⟨rfl, ?_⟩); (try refine ⟨rfl, ?_⟩)
  first | (intro acts; rw [hret _ acts rfl rfl rfl]) | rw [hret _ _ rfl rfl rfl]
  exact Steps.refl _
/-- what holds at the law's entry: the machine, the code, the tables' words (any of lw_tbl by 'hts w (by decide +kernel)'), the script of L ints xs at the cell b, what the Statement gives of the start (any of its parts by flat_of_before) -/
def lw_At (p : Program) (s : State) (m : MethodId) (meth : Method) (c : Code) (b L : Nat) (xs : Nat → Int32) : Prop :=
  p.tables.exec = Jvm.exec ∧ c.code = code ∧ meth.sig.returnType = ret ∧ c.maxLocals = 8 ∧ s.vm.findClass R_law = some m.cls ∧ (∀ w ∈ lw_tbl, w.before #[Value.ref b] s = true) ∧ va_X b L xs s s.heap ∧ b < s.heap.size ∧ meth.locks = false ∧ (Jvm.Cond.and given_1 narrow_1).before #[Value.ref b] s = true

theorem al_ret {X : GX} {p : Program} {l : Launch} {e : Env} {s : State} {m : MethodId} {below : List Frame} {meth : Method} {c : Code} {b : Nat} {xs : Nat → Int32} {f : AH} {n cells slots L : Nat} {lo : List (Option Value)} (C : CC X p l room_1 s m #[Value.ref b] meth c RL cL_law 8 ret) (S0 : SC X b L xs s) (hc : cells ≤ 600002) (hs : slots ≤ 7302232) : AW X p l e room_1 s m #[Value.ref b] below meth c 8 (lw_Z below #[Value.ref b] s) f n cells slots 1636 lo [.int 1] := by
  intro H locs ls hR hn hS hl
  refine va_forget (fun q hq => ?_) ?_
  · have h : X.1 ≤ q.base := hS.2.2 q hq
    rw [← S0.2.2.2]; exact h
  refine W.widen hc hs ?_
  exact lw_ret C.1 C.2.1 C.2.2.2.2.2.2.2 C.2.2.2.2.2.1 dL_law_1636
theorem al_tail {X : GX} {p : Program} {l : Launch} {e : Env} {s : State} {m : MethodId} {below : List Frame} {meth : Method} {c : Code} {b : Nat} {xs : Nat → Int32} {f : AH} {n cells slots : Nat} (C : CC X p l room_1 s m #[Value.ref b] meth c RL cL_law 8 ret) (S0 : SC X b 6 xs s) (hc : cells ≤ 600002) (hs : slots ≤ 7302232) : AW X p l e room_1 s m #[Value.ref b] below meth c 8 (lw_Z below #[Value.ref b] s) f n cells slots 1629 [some (.retAddr b), none, none, none, some (.int 0), none, none, none] [] := by
  refine aw_iinc C 6 dL_law_1629 rfl (by decide) (by decide) rfl ?_
  refine aw_goto C 23 dL_law_1632 (by decide) ?_
  refine aw_iload C dL_law_23 rfl ?_
  refine aw_raw_n C dL_law_25 rfl ?_
  refine aw_slen C S0 dL_law_26 ?_
  refine aw_bipush C 6 dL_law_27 kb_6 ?_
  refine ae_isub C 0 dL_law_29 (by decide) ?_
  refine aw_icmp_gt C 1635 dL_law_30 (by decide) (fun _ => ?_) (fun q => absurd (by decide) q)
  refine aw_iconst C 1 dL_law_1635 ki_1 ?_
  exact al_ret C S0 hc hs
theorem al_short {X : GX} {p : Program} {l : Launch} {e : Env} {s : State} {m : MethodId} {below : List Frame} {meth : Method} {c : Code} {b : Nat} {xs : Nat → Int32} {f : AH} {n cells slots L : Nat} {lo : List (Option Value)} (C : CC X p l room_1 s m #[Value.ref b] meth c RL cL_law 8 ret) (S0 : SC X b L xs s) (hL : L < 6) (h0 : lo[0]? = some (some (.retAddr b))) (h4 : lo[4]? = some (some (.int 0))) (hc : cells ≤ 600002) (hs : slots ≤ 7302232) : AW X p l e room_1 s m #[Value.ref b] below meth c 8 (lw_Z below #[Value.ref b] s) f n cells slots 23 lo [] := by
  refine aw_iload C dL_law_23 h4 ?_
  refine aw_raw_n C dL_law_25 h0 ?_
  refine aw_slen C S0 dL_law_26 ?_
  refine aw_bipush C 6 dL_law_27 kb_6 ?_
  refine aw_isub C dL_law_29 ?_
  refine aw_icmp_gt C 1635 dL_law_30 (by decide) (fun _ => ?_) (fun q => absurd ?_ q)
  · refine aw_iconst C 1 dL_law_1635 ki_1 ?_
    exact al_ret C S0 hc hs
  · rcases (show L = 0 ∨ L = 1 ∨ L = 2 ∨ L = 3 ∨ L = 4 ∨ L = 5 by omega) with rfl | rfl | rfl | rfl | rfl | rfl <;> decide
