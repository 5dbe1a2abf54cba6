/-! part 22cb.ref -/
section
def mX9_cutsAll_b333 (rec78 : Int32 → RS9 → Option (Int32 × RS9)) (v1 : Int32) (σ : RS9) : Option (Int32 × RS9) := rec78 (v1 + (1 : Int32)) σ
set_option maxHeartbeats 1000000 in
theorem rmX9_cutsAll_b333 {X : GX} {p : Program} {l : Launch} {e : Env} {s : State} {m : MethodId} {args : Array Value} {below : List Frame} {meth : Method} {c : Code} {f : AH} {n : Nat} {r : Int32 × RS9} {rec78 : Int32 → RS9 → Option (Int32 × RS9)} {v1 : Int32} {σ : RS9} (C : CC X p l (RM 7 0 0) s m args meth c RX9 cX9_cutsAll 5 none) (Hr78 : ∀ (v1 : Int32) (σ : RS9), rec78 v1 σ = some r → AW X p l e (RM 7 0 0) s m args below meth c 5 (ZM X below args s 0 0 (QMv f n r)) (rHm f σ) n 0 0 78 [some (.ref 181), some (.int v1), none, none, none] []) (h : mX9_cutsAll_b333 rec78 v1 σ = some r) : AW X p l e (RM 7 0 0) s m args below meth c 5 (ZM X below args s 0 0 (QMv f n r)) (rHm f σ) n 0 0 333 [some (.ref 181), some (.int v1), none, none, none] [] := by
  have h : rec78 (v1 + (1 : Int32)) σ = some r := h
  refine aw_iinc C (v1 + (1 : Int32)) dX9_cutsAll_333 rfl (by rw [ki_1]) (by decide) rfl ?_
  refine aw_nl [some (.ref 181), some (.int (v1 + (1 : Int32))), none, none, none] rfl ?_
  refine aw_goto C 78 dX9_cutsAll_336 (by decide) ?_
  refine aw_fl [some (.ref 181), some (.int (v1 + (1 : Int32))), none, none, none] ⟨rfl, ⟨rfl, trivial⟩⟩ ?_
  exact Hr78 (v1 + (1 : Int32)) σ h
def mX9_cutsAll_b318 (rec78 : Int32 → RS9 → Option (Int32 × RS9)) (rec220 : Int32 → Int32 → Int32 → RS9 → Option (Int32 × RS9)) (v1 : Int32) (v2 : Int32) (v3 : Int32) (s1 : Int32) (s2 : Nat) (s3 : Nat) (s4 : Nat) (s5 : Int32) (s6 : Int32) (σ : RS9) : Option (Int32 × RS9) := rCk (rIn v3 (rLen 29)) (((mX9_takes s1 s2 s3 s4 s5 s6 (rGa σ 29 v3) σ).bind fun r2 => rec220 v1 v2 (v3 + (1 : Int32)) r2.2))
set_option maxHeartbeats 1000000 in
theorem rmX9_cutsAll_b318 {X : GX} {p : Program} {l : Launch} {e : Env} {s : State} {m : MethodId} {args : Array Value} {below : List Frame} {meth : Method} {c : Code} {f : AH} {n : Nat} {r : Int32 × RS9} {rec78 : Int32 → RS9 → Option (Int32 × RS9)} {rec220 : Int32 → Int32 → Int32 → RS9 → Option (Int32 × RS9)} {v1 : Int32} {v2 : Int32} {v3 : Int32} {s1 : Int32} {s2 : Nat} {s3 : Nat} {s4 : Nat} {s5 : Int32} {s6 : Int32} {σ : RS9} (C : CC X p l (RM 7 0 0) s m args meth c RX9 cX9_cutsAll 5 none) (Hr78 : ∀ (v1 : Int32) (σ : RS9), rec78 v1 σ = some r → AW X p l e (RM 7 0 0) s m args below meth c 5 (ZM X below args s 0 0 (QMv f n r)) (rHm f σ) n 0 0 78 [some (.ref 181), some (.int v1), none, none, none] []) (Hr220 : ∀ (v1 : Int32) (v2 : Int32) (v3 : Int32) (σ : RS9), rec220 v1 v2 v3 σ = some r → AW X p l e (RM 7 0 0) s m args below meth c 5 (ZM X below args s 0 0 (QMv f n r)) (rHm f σ) n 0 0 220 [some (.ref 181), some (.int v1), some (.int v2), some (.int v3), none] []) (ias2 : rIsA s2 = true) (ias3 : rIsA s3 = true) (ias4 : rIsA s4 = true) (h : mX9_cutsAll_b318 rec78 rec220 v1 v2 v3 s1 s2 s3 s4 s5 s6 σ = some r) : AW X p l e (RM 7 0 0) s m args below meth c 5 (ZM X below args s 0 0 (QMv f n r)) (rHm f σ) n 0 0 318 [some (.ref 181), some (.int v1), some (.int v2), some (.int v3), none] [.int s6, .int s5, .ref (rAid s4), .ref (rAid s3), .ref (rAid s2), .int s1, .ref 181] := by
  have h : rCk (rIn v3 (rLen 29)) (((mX9_takes s1 s2 s3 s4 s5 s6 (rGa σ 29 v3) σ).bind fun r2 => rec220 v1 v2 (v3 + (1 : Int32)) r2.2)) = some r := h
  refine aw_ald_n C dX9_cutsAll_318 rfl ?_
  refine aw_get C (v := .ref (rAid 29)) gf_X9_69 (hm_M f σ) rfl dX9_cutsAll_319 ?_
  refine aw_iload_n C dX9_cutsAll_322 rfl ?_
  obtain ⟨hb1, h⟩ := ck_some h
  refine am_iald C (rGa σ 29 v3) rfl (inb_vp hb1) rfl dX9_cutsAll_323 ?_
  obtain ⟨r2, h2, h⟩ := Option.bind_eq_some_iff.mp h
  refine aw_callV C (ci := 9) (b := 181) [.int s1, .ref (rAid s2), .ref (rAid s3), .ref (rAid s4), .int s5, .int s6, .int (rGa σ 29 v3)] mv_X9_237 rfl rfl (hm_M f σ) (rmX9_takes ias2 ias3 ias4 h2) rfl dX9_cutsAll_324 (Nat.le_of_ble_eq_true rfl) (Nat.le_of_ble_eq_true rfl) rfl (Nat.le_of_ble_eq_true rfl) (Nat.le_of_ble_eq_true rfl) (Nat.le_of_ble_eq_true rfl) (fun v9 f9 n9 hh => ?_)
  obtain ⟨rfl, rfl, rfl⟩ := hh
  refine aw_iinc C (v3 + (1 : Int32)) dX9_cutsAll_327 rfl (by rw [ki_1]) (by decide) rfl ?_
  refine aw_nl [some (.ref 181), some (.int v1), some (.int v2), some (.int (v3 + (1 : Int32))), none] rfl ?_
  refine aw_goto C 220 dX9_cutsAll_330 (by decide) ?_
  refine aw_fl [some (.ref 181), some (.int v1), some (.int v2), some (.int (v3 + (1 : Int32))), none] ⟨rfl, ⟨rfl, ⟨rfl, ⟨rfl, trivial⟩⟩⟩⟩ ?_
  exact Hr220 v1 v2 (v3 + (1 : Int32)) r2.2 h
def mX9_cutsAll_b247 (rec78 : Int32 → RS9 → Option (Int32 × RS9)) (rec220 : Int32 → Int32 → Int32 → RS9 → Option (Int32 × RS9)) (v1 : Int32) (v2 : Int32) (v3 : Int32) (s1 : Int32) (s2 : Int32) (σ : RS9) : Option (Int32 × RS9) := rCk (rIn v3 (rLen 27)) (rCk (rIn v3 (rLen 28)) (((mX9_undoes s1 s2 23 24 25 (rGa σ 27 v3) (rGa σ 28 v3) 30 31 32 σ).bind fun r3 => rCk (rIn v3 (rLen 27)) ((if (rGa r3.2 27 v3) = (0 : Int32) then mX9_cutsAll_b318 rec78 rec220 v1 v2 v3 v1 30 31 32 r3.1 (1 : Int32) r3.2 else mX9_cutsAll_b318 rec78 rec220 v1 v2 v3 v1 30 31 32 r3.1 (0 : Int32) r3.2)))))
set_option maxHeartbeats 1000000 in
theorem rmX9_cutsAll_b247 {X : GX} {p : Program} {l : Launch} {e : Env} {s : State} {m : MethodId} {args : Array Value} {below : List Frame} {meth : Method} {c : Code} {f : AH} {n : Nat} {r : Int32 × RS9} {rec78 : Int32 → RS9 → Option (Int32 × RS9)} {rec220 : Int32 → Int32 → Int32 → RS9 → Option (Int32 × RS9)} {v1 : Int32} {v2 : Int32} {v3 : Int32} {s1 : Int32} {s2 : Int32} {σ : RS9} (C : CC X p l (RM 7 0 0) s m args meth c RX9 cX9_cutsAll 5 none) (Hr78 : ∀ (v1 : Int32) (σ : RS9), rec78 v1 σ = some r → AW X p l e (RM 7 0 0) s m args below meth c 5 (ZM X below args s 0 0 (QMv f n r)) (rHm f σ) n 0 0 78 [some (.ref 181), some (.int v1), none, none, none] []) (Hr220 : ∀ (v1 : Int32) (v2 : Int32) (v3 : Int32) (σ : RS9), rec220 v1 v2 v3 σ = some r → AW X p l e (RM 7 0 0) s m args below meth c 5 (ZM X below args s 0 0 (QMv f n r)) (rHm f σ) n 0 0 220 [some (.ref 181), some (.int v1), some (.int v2), some (.int v3), none] []) (h : mX9_cutsAll_b247 rec78 rec220 v1 v2 v3 s1 s2 σ = some r) : AW X p l e (RM 7 0 0) s m args below meth c 5 (ZM X below args s 0 0 (QMv f n r)) (rHm f σ) n 0 0 247 [some (.ref 181), some (.int v1), some (.int v2), some (.int v3), none] [.int s2, .int s1, .ref 181] := by
  have h : rCk (rIn v3 (rLen 27)) (rCk (rIn v3 (rLen 28)) (((mX9_undoes s1 s2 23 24 25 (rGa σ 27 v3) (rGa σ 28 v3) 30 31 32 σ).bind fun r3 => rCk (rIn v3 (rLen 27)) ((if (rGa r3.2 27 v3) = (0 : Int32) then mX9_cutsAll_b318 rec78 rec220 v1 v2 v3 v1 30 31 32 r3.1 (1 : Int32) r3.2 else mX9_cutsAll_b318 rec78 rec220 v1 v2 v3 v1 30 31 32 r3.1 (0 : Int32) r3.2))))) = some r := h
  refine aw_ald_n C dX9_cutsAll_247 rfl ?_
  refine aw_get C (v := .ref (rAid 23)) gf_X9_54 (hm_M f σ) rfl dX9_cutsAll_248 ?_
  refine aw_ald_n C dX9_cutsAll_251 rfl ?_
  refine aw_get C (v := .ref (rAid 24)) gf_X9_57 (hm_M f σ) rfl dX9_cutsAll_252 ?_
  refine aw_ald_n C dX9_cutsAll_255 rfl ?_
  refine aw_get C (v := .ref (rAid 25)) gf_X9_60 (hm_M f σ) rfl dX9_cutsAll_256 ?_
  refine aw_ald_n C dX9_cutsAll_259 rfl ?_
  refine aw_get C (v := .ref (rAid 27)) gf_X9_63 (hm_M f σ) rfl dX9_cutsAll_260 ?_
  refine aw_iload_n C dX9_cutsAll_263 rfl ?_
  obtain ⟨hb1, h⟩ := ck_some h
  refine am_iald C (rGa σ 27 v3) rfl (inb_vp hb1) rfl dX9_cutsAll_264 ?_
  refine aw_ald_n C dX9_cutsAll_265 rfl ?_
  refine aw_get C (v := .ref (rAid 28)) gf_X9_66 (hm_M f σ) rfl dX9_cutsAll_266 ?_
  refine aw_iload_n C dX9_cutsAll_269 rfl ?_
  obtain ⟨hb2, h⟩ := ck_some h
  refine am_iald C (rGa σ 28 v3) rfl (inb_vp hb2) rfl dX9_cutsAll_270 ?_
  refine aw_ald_n C dX9_cutsAll_271 rfl ?_
  refine aw_get C (v := .ref (rAid 30)) gf_X9_72 (hm_M f σ) rfl dX9_cutsAll_272 ?_
  refine aw_ald_n C dX9_cutsAll_275 rfl ?_
  refine aw_get C (v := .ref (rAid 31)) gf_X9_75 (hm_M f σ) rfl dX9_cutsAll_276 ?_
  refine aw_ald_n C dX9_cutsAll_279 rfl ?_
  refine aw_get C (v := .ref (rAid 32)) gf_X9_78 (hm_M f σ) rfl dX9_cutsAll_280 ?_
  obtain ⟨r3, h3, h⟩ := Option.bind_eq_some_iff.mp h
  refine aw_callV C (ci := 9) (b := 181) [.int s1, .int s2, .ref (rAid 23), .ref (rAid 24), .ref (rAid 25), .int (rGa σ 27 v3), .int (rGa σ 28 v3), .ref (rAid 30), .ref (rAid 31), .ref (rAid 32)] mv_X9_230 rfl rfl (hm_M f σ) (rmX9_undoes rfl rfl rfl rfl rfl rfl h3) rfl dX9_cutsAll_283 (Nat.le_of_ble_eq_true rfl) (Nat.le_of_ble_eq_true rfl) rfl (Nat.le_of_ble_eq_true rfl) (Nat.le_of_ble_eq_true rfl) (Nat.le_of_ble_eq_true rfl) (fun v9 f9 n9 hh => ?_)
  obtain ⟨rfl, rfl, rfl⟩ := hh
  refine aw_istore C dX9_cutsAll_286 (by decide) rfl ?_
  refine aw_nl [some (.ref 181), some (.int v1), some (.int v2), some (.int v3), some (.int r3.1)] rfl ?_
  refine aw_ald_n C dX9_cutsAll_288 rfl ?_
  refine aw_iload_n C dX9_cutsAll_289 rfl ?_
  refine aw_ald_n C dX9_cutsAll_290 rfl ?_
  refine aw_get C (v := .ref (rAid 30)) gf_X9_72 (hm_M f r3.2) rfl dX9_cutsAll_291 ?_
  refine aw_ald_n C dX9_cutsAll_294 rfl ?_
  refine aw_get C (v := .ref (rAid 31)) gf_X9_75 (hm_M f r3.2) rfl dX9_cutsAll_295 ?_
  refine aw_ald_n C dX9_cutsAll_298 rfl ?_
  refine aw_get C (v := .ref (rAid 32)) gf_X9_78 (hm_M f r3.2) rfl dX9_cutsAll_299 ?_
  refine aw_iload C dX9_cutsAll_302 rfl ?_
  refine aw_ald_n C dX9_cutsAll_304 rfl ?_
  refine aw_get C (v := .ref (rAid 27)) gf_X9_63 (hm_M f r3.2) rfl dX9_cutsAll_305 ?_
  refine aw_iload_n C dX9_cutsAll_308 rfl ?_
  obtain ⟨hb4, h⟩ := ck_some h
  refine am_iald C (rGa r3.2 27 v3) rfl (inb_vp hb4) rfl dX9_cutsAll_309 ?_
  refine aw_if_ne C 317 dX9_cutsAll_310 (by decide) (fun q => ?_) (fun q => ?_)
  · rw [if_neg q] at h
    refine aw_iconst C 0 dX9_cutsAll_317 ki_0 ?_
    refine aw_fl [some (.ref 181), some (.int v1), some (.int v2), some (.int v3), none] ⟨rfl, ⟨rfl, ⟨rfl, ⟨rfl, trivial⟩⟩⟩⟩ ?_
    exact rmX9_cutsAll_b318 C Hr78 Hr220 rfl rfl rfl h
  · rw [if_pos q] at h
    refine aw_iconst C 1 dX9_cutsAll_313 ki_1 ?_
    refine aw_goto C 318 dX9_cutsAll_314 (by decide) ?_
    refine aw_fl [some (.ref 181), some (.int v1), some (.int v2), some (.int v3), none] ⟨rfl, ⟨rfl, ⟨rfl, ⟨rfl, trivial⟩⟩⟩⟩ ?_
    exact rmX9_cutsAll_b318 C Hr78 Hr220 rfl rfl rfl h
def mX9_cutsAll_l220 (rec78 : Int32 → RS9 → Option (Int32 × RS9)) : Nat → Int32 → Int32 → Int32 → RS9 → Option (Int32 × RS9)
  | 0, _, _, _, _ => none
  | d + 1, v1, v2, v3, σ => (if v2 ≤ v3 then mX9_cutsAll_b333 rec78 v1 σ else rCk (rIn (2 : Int32) (rLen 1)) (rCk (rIn v3 (rLen 29)) ((if (rGa σ 29 v3) = (1 : Int32) then mX9_cutsAll_b247 rec78 (fun v1 v2 v3 σ => mX9_cutsAll_l220 rec78 d v1 v2 v3 σ) v1 v2 v3 (rGa σ 1 (2 : Int32)) (1 : Int32) σ else mX9_cutsAll_b247 rec78 (fun v1 v2 v3 σ => mX9_cutsAll_l220 rec78 d v1 v2 v3 σ) v1 v2 v3 (rGa σ 1 (2 : Int32)) (0 : Int32) σ))))
set_option maxHeartbeats 1000000 in
theorem rmX9_cutsAll_l220 {X : GX} {p : Program} {l : Launch} {e : Env} {s : State} {m : MethodId} {args : Array Value} {below : List Frame} {meth : Method} {c : Code} {f : AH} {n : Nat} {r : Int32 × RS9} {rec78 : Int32 → RS9 → Option (Int32 × RS9)} (C : CC X p l (RM 7 0 0) s m args meth c RX9 cX9_cutsAll 5 none) (Hr78 : ∀ (v1 : Int32) (σ : RS9), rec78 v1 σ = some r → AW X p l e (RM 7 0 0) s m args below meth c 5 (ZM X below args s 0 0 (QMv f n r)) (rHm f σ) n 0 0 78 [some (.ref 181), some (.int v1), none, none, none] []) : ∀ (d : Nat) (v1 : Int32) (v2 : Int32) (v3 : Int32) (σ : RS9) (_ : mX9_cutsAll_l220 rec78 d v1 v2 v3 σ = some r), AW X p l e (RM 7 0 0) s m args below meth c 5 (ZM X below args s 0 0 (QMv f n r)) (rHm f σ) n 0 0 220 [some (.ref 181), some (.int v1), some (.int v2), some (.int v3), none] [] := by
  intro d
  induction d with
  | zero =>
    intro v1 v2 v3 σ h
    exact nomatch (show (none : Option (Int32 × RS9)) = some r from h)
  | succ d ih =>
    intro v1 v2 v3 σ h
    have h : (if v2 ≤ v3 then mX9_cutsAll_b333 rec78 v1 σ else rCk (rIn (2 : Int32) (rLen 1)) (rCk (rIn v3 (rLen 29)) ((if (rGa σ 29 v3) = (1 : Int32) then mX9_cutsAll_b247 rec78 (fun v1 v2 v3 σ => mX9_cutsAll_l220 rec78 d v1 v2 v3 σ) v1 v2 v3 (rGa σ 1 (2 : Int32)) (1 : Int32) σ else mX9_cutsAll_b247 rec78 (fun v1 v2 v3 σ => mX9_cutsAll_l220 rec78 d v1 v2 v3 σ) v1 v2 v3 (rGa σ 1 (2 : Int32)) (0 : Int32) σ)))) = some r := h
    refine aw_iload_n C dX9_cutsAll_220 rfl ?_
    refine aw_iload_n C dX9_cutsAll_221 rfl ?_
    refine aw_icmp_ge C 333 dX9_cutsAll_222 (by decide) (fun q => ?_) (fun q => ?_)
    · rw [if_pos q] at h
      refine aw_fl [some (.ref 181), some (.int v1), none, none, none] ⟨rfl, ⟨rfl, trivial⟩⟩ ?_
      exact rmX9_cutsAll_b333 C Hr78 h
    · rw [if_neg q] at h
      refine aw_ald_n C dX9_cutsAll_225 rfl ?_
      refine aw_ald_n C dX9_cutsAll_226 rfl ?_
      refine aw_get C (v := .ref (rAid 1)) gf_X9_7 (hm_M f σ) rfl dX9_cutsAll_227 ?_
      refine aw_iconst C 2 dX9_cutsAll_230 ki_2 ?_
      obtain ⟨hb1, h⟩ := ck_some h
      refine am_iald C (rGa σ 1 (2 : Int32)) rfl (inb_vp hb1) rfl dX9_cutsAll_231 ?_
      refine aw_ald_n C dX9_cutsAll_232 rfl ?_
      refine aw_get C (v := .ref (rAid 29)) gf_X9_69 (hm_M f σ) rfl dX9_cutsAll_233 ?_
      refine aw_iload_n C dX9_cutsAll_236 rfl ?_
      obtain ⟨hb2, h⟩ := ck_some h
      refine am_iald C (rGa σ 29 v3) rfl (inb_vp hb2) rfl dX9_cutsAll_237 ?_
      refine aw_iconst C 1 dX9_cutsAll_238 ki_1 ?_
      refine aw_icmp_ne C 246 dX9_cutsAll_239 (by decide) (fun q => ?_) (fun q => ?_)
      · rw [if_neg q] at h
        refine aw_iconst C 0 dX9_cutsAll_246 ki_0 ?_
        refine aw_fl [some (.ref 181), some (.int v1), some (.int v2), some (.int v3), none] ⟨rfl, ⟨rfl, ⟨rfl, ⟨rfl, trivial⟩⟩⟩⟩ ?_
        exact rmX9_cutsAll_b247 C Hr78 (fun v1 v2 v3 σ h => ih v1 v2 v3 σ h) h
      · rw [if_pos q] at h
        refine aw_iconst C 1 dX9_cutsAll_242 ki_1 ?_
        refine aw_goto C 247 dX9_cutsAll_243 (by decide) ?_
        refine aw_fl [some (.ref 181), some (.int v1), some (.int v2), some (.int v3), none] ⟨rfl, ⟨rfl, ⟨rfl, ⟨rfl, trivial⟩⟩⟩⟩ ?_
        exact rmX9_cutsAll_b247 C Hr78 (fun v1 v2 v3 σ h => ih v1 v2 v3 σ h) h
def mX9_cutsAll_b109 (rec78 : Int32 → RS9 → Option (Int32 × RS9)) (v1 : Int32) (s2 : Int32) (s3 : Int32) (σ : RS9) : Option (Int32 × RS9) := rCk (rIn v1 (rLen 17)) (rCk (rIn v1 (rLen 18)) (((mX9_undoes s2 s3 13 14 15 (rGa σ 17 v1) (rGa σ 18 v1) 23 24 25 σ).bind fun r3 => rCk (rIn (2 : Int32) (rLen 1)) ((if (rGa r3.2 1 (2 : Int32)) = (-1 : Int32) then ((mX9_takes v1 23 24 25 r3.1 (1 : Int32) (0 : Int32) (rSf r3.2 26 r3.1)).bind fun r7 => mX9_cutsAll_b333 rec78 v1 r7.2) else rCk (rIn (2 : Int32) (rLen 1)) (((mX9_cuts (rGa r3.2 1 (2 : Int32)) 23 r3.1 27 28 29 (rSf r3.2 26 r3.1)).bind fun r6 => mX9_cutsAll_l220 rec78 rFU v1 r6.1 (0 : Int32) r6.2)))))))
set_option maxHeartbeats 1000000 in
theorem rmX9_cutsAll_b109 {X : GX} {p : Program} {l : Launch} {e : Env} {s : State} {m : MethodId} {args : Array Value} {below : List Frame} {meth : Method} {c : Code} {f : AH} {n : Nat} {r : Int32 × RS9} {rec78 : Int32 → RS9 → Option (Int32 × RS9)} {v1 : Int32} {s2 : Int32} {s3 : Int32} {σ : RS9} (C : CC X p l (RM 7 0 0) s m args meth c RX9 cX9_cutsAll 5 none) (Hr78 : ∀ (v1 : Int32) (σ : RS9), rec78 v1 σ = some r → AW X p l e (RM 7 0 0) s m args below meth c 5 (ZM X below args s 0 0 (QMv f n r)) (rHm f σ) n 0 0 78 [some (.ref 181), some (.int v1), none, none, none] []) (h : mX9_cutsAll_b109 rec78 v1 s2 s3 σ = some r) : AW X p l e (RM 7 0 0) s m args below meth c 5 (ZM X below args s 0 0 (QMv f n r)) (rHm f σ) n 0 0 109 [some (.ref 181), some (.int v1), none, none, none] [.int s3, .int s2, .ref 181, .ref 181] := by
  have h : rCk (rIn v1 (rLen 17)) (rCk (rIn v1 (rLen 18)) (((mX9_undoes s2 s3 13 14 15 (rGa σ 17 v1) (rGa σ 18 v1) 23 24 25 σ).bind fun r3 => rCk (rIn (2 : Int32) (rLen 1)) ((if (rGa r3.2 1 (2 : Int32)) = (-1 : Int32) then ((mX9_takes v1 23 24 25 r3.1 (1 : Int32) (0 : Int32) (rSf r3.2 26 r3.1)).bind fun r7 => mX9_cutsAll_b333 rec78 v1 r7.2) else rCk (rIn (2 : Int32) (rLen 1)) (((mX9_cuts (rGa r3.2 1 (2 : Int32)) 23 r3.1 27 28 29 (rSf r3.2 26 r3.1)).bind fun r6 => mX9_cutsAll_l220 rec78 rFU v1 r6.1 (0 : Int32) r6.2))))))) = some r := h
  refine aw_ald_n C dX9_cutsAll_109 rfl ?_
  refine aw_get C (v := .ref (rAid 13)) gf_X9_30 (hm_M f σ) rfl dX9_cutsAll_110 ?_
  refine aw_ald_n C dX9_cutsAll_113 rfl ?_
  refine aw_get C (v := .ref (rAid 14)) gf_X9_33 (hm_M f σ) rfl dX9_cutsAll_114 ?_
  refine aw_ald_n C dX9_cutsAll_117 rfl ?_
  refine aw_get C (v := .ref (rAid 15)) gf_X9_36 (hm_M f σ) rfl dX9_cutsAll_118 ?_
  refine aw_ald_n C dX9_cutsAll_121 rfl ?_
  refine aw_get C (v := .ref (rAid 17)) gf_X9_39 (hm_M f σ) rfl dX9_cutsAll_122 ?_
  refine aw_iload_n C dX9_cutsAll_125 rfl ?_
  obtain ⟨hb1, h⟩ := ck_some h
  refine am_iald C (rGa σ 17 v1) rfl (inb_vp hb1) rfl dX9_cutsAll_126 ?_
  refine aw_ald_n C dX9_cutsAll_127 rfl ?_
  refine aw_get C (v := .ref (rAid 18)) gf_X9_42 (hm_M f σ) rfl dX9_cutsAll_128 ?_
  refine aw_iload_n C dX9_cutsAll_131 rfl ?_
  obtain ⟨hb2, h⟩ := ck_some h
  refine am_iald C (rGa σ 18 v1) rfl (inb_vp hb2) rfl dX9_cutsAll_132 ?_
  refine aw_ald_n C dX9_cutsAll_133 rfl ?_
  refine aw_get C (v := .ref (rAid 23)) gf_X9_54 (hm_M f σ) rfl dX9_cutsAll_134 ?_
  refine aw_ald_n C dX9_cutsAll_137 rfl ?_
  refine aw_get C (v := .ref (rAid 24)) gf_X9_57 (hm_M f σ) rfl dX9_cutsAll_138 ?_
  refine aw_ald_n C dX9_cutsAll_141 rfl ?_
  refine aw_get C (v := .ref (rAid 25)) gf_X9_60 (hm_M f σ) rfl dX9_cutsAll_142 ?_
  obtain ⟨r3, h3, h⟩ := Option.bind_eq_some_iff.mp h
  refine aw_callV C (ci := 9) (b := 181) [.int s2, .int s3, .ref (rAid 13), .ref (rAid 14), .ref (rAid 15), .int (rGa σ 17 v1), .int (rGa σ 18 v1), .ref (rAid 23), .ref (rAid 24), .ref (rAid 25)] mv_X9_230 rfl rfl (hm_M f σ) (rmX9_undoes rfl rfl rfl rfl rfl rfl h3) rfl dX9_cutsAll_145 (Nat.le_of_ble_eq_true rfl) (Nat.le_of_ble_eq_true rfl) rfl (Nat.le_of_ble_eq_true rfl) (Nat.le_of_ble_eq_true rfl) (Nat.le_of_ble_eq_true rfl) (fun v9 f9 n9 hh => ?_)
  obtain ⟨rfl, rfl, rfl⟩ := hh
  refine am_put C gf_X9_234 nf9_26 rfl rfl dX9_cutsAll_148 ?_
  refine aw_ald_n C dX9_cutsAll_151 rfl ?_
  refine aw_get C (v := .ref (rAid 1)) gf_X9_7 (hm_M f (rSf r3.2 26 r3.1)) rfl dX9_cutsAll_152 ?_
  refine aw_iconst C 2 dX9_cutsAll_155 ki_2 ?_
  obtain ⟨hb4, h⟩ := ck_some h
  refine am_iald C (rGa r3.2 1 (2 : Int32)) rfl (inb_vp hb4) rfl dX9_cutsAll_156 ?_
  refine aw_iconst C (-1) dX9_cutsAll_157 ki_m1 ?_
  refine aw_icmp_ne C 187 dX9_cutsAll_158 (by decide) (fun q => ?_) (fun q => ?_)
  · rw [if_neg q] at h
    refine aw_ald_n C dX9_cutsAll_187 rfl ?_
    refine aw_ald_n C dX9_cutsAll_188 rfl ?_
    refine aw_get C (v := .ref (rAid 1)) gf_X9_7 (hm_M f (rSf r3.2 26 r3.1)) rfl dX9_cutsAll_189 ?_
    refine aw_iconst C 2 dX9_cutsAll_192 ki_2 ?_
    obtain ⟨hb5, h⟩ := ck_some h
    refine am_iald C (rGa r3.2 1 (2 : Int32)) rfl (inb_vp hb5) rfl dX9_cutsAll_193 ?_
    refine aw_ald_n C dX9_cutsAll_194 rfl ?_
    refine aw_get C (v := .ref (rAid 23)) gf_X9_54 (hm_M f (rSf r3.2 26 r3.1)) rfl dX9_cutsAll_195 ?_
    refine aw_ald_n C dX9_cutsAll_198 rfl ?_
    refine aw_get C (v := .int r3.1) gf_X9_234 (hm_M f (rSf r3.2 26 r3.1)) rfl dX9_cutsAll_199 ?_
    refine aw_ald_n C dX9_cutsAll_202 rfl ?_
    refine aw_get C (v := .ref (rAid 27)) gf_X9_63 (hm_M f (rSf r3.2 26 r3.1)) rfl dX9_cutsAll_203 ?_
    refine aw_ald_n C dX9_cutsAll_206 rfl ?_
    refine aw_get C (v := .ref (rAid 28)) gf_X9_66 (hm_M f (rSf r3.2 26 r3.1)) rfl dX9_cutsAll_207 ?_
    refine aw_ald_n C dX9_cutsAll_210 rfl ?_
    refine aw_get C (v := .ref (rAid 29)) gf_X9_69 (hm_M f (rSf r3.2 26 r3.1)) rfl dX9_cutsAll_211 ?_
    obtain ⟨r6, h6, h⟩ := Option.bind_eq_some_iff.mp h
    refine aw_callV C (ci := 9) (b := 181) [.int (rGa r3.2 1 (2 : Int32)), .ref (rAid 23), .int r3.1, .ref (rAid 27), .ref (rAid 28), .ref (rAid 29)] mv_X9_223 rfl rfl (hm_M f (rSf r3.2 26 r3.1)) (rmX9_cuts rfl rfl rfl rfl h6) rfl dX9_cutsAll_214 (Nat.le_of_ble_eq_true rfl) (Nat.le_of_ble_eq_true rfl) rfl (Nat.le_of_ble_eq_true rfl) (Nat.le_of_ble_eq_true rfl) (Nat.le_of_ble_eq_true rfl) (fun v9 f9 n9 hh => ?_)
    obtain ⟨rfl, rfl, rfl⟩ := hh
    refine aw_istore_n C dX9_cutsAll_217 (by decide) rfl ?_
    refine aw_nl [some (.ref 181), some (.int v1), some (.int r6.1), none, none] rfl ?_
    refine aw_iconst C 0 dX9_cutsAll_218 ki_0 ?_
    refine aw_istore_n C dX9_cutsAll_219 (by decide) rfl ?_
    refine aw_nl [some (.ref 181), some (.int v1), some (.int r6.1), some (.int (0 : Int32)), none] rfl ?_
    refine aw_fl [some (.ref 181), some (.int v1), some (.int r6.1), some (.int (0 : Int32)), none] ⟨rfl, ⟨rfl, ⟨rfl, ⟨rfl, trivial⟩⟩⟩⟩ ?_
    exact rmX9_cutsAll_l220 C Hr78 rFU v1 r6.1 (0 : Int32) r6.2 h
  · rw [if_pos q] at h
    refine aw_ald_n C dX9_cutsAll_161 rfl ?_
    refine aw_iload_n C dX9_cutsAll_162 rfl ?_
    refine aw_ald_n C dX9_cutsAll_163 rfl ?_
    refine aw_get C (v := .ref (rAid 23)) gf_X9_54 (hm_M f (rSf r3.2 26 r3.1)) rfl dX9_cutsAll_164 ?_
    refine aw_ald_n C dX9_cutsAll_167 rfl ?_
    refine aw_get C (v := .ref (rAid 24)) gf_X9_57 (hm_M f (rSf r3.2 26 r3.1)) rfl dX9_cutsAll_168 ?_
    refine aw_ald_n C dX9_cutsAll_171 rfl ?_
    refine aw_get C (v := .ref (rAid 25)) gf_X9_60 (hm_M f (rSf r3.2 26 r3.1)) rfl dX9_cutsAll_172 ?_
    refine aw_ald_n C dX9_cutsAll_175 rfl ?_
    refine aw_get C (v := .int r3.1) gf_X9_234 (hm_M f (rSf r3.2 26 r3.1)) rfl dX9_cutsAll_176 ?_
    refine aw_iconst C 1 dX9_cutsAll_179 ki_1 ?_
    refine aw_iconst C 0 dX9_cutsAll_180 ki_0 ?_
    obtain ⟨r7, h7, h⟩ := Option.bind_eq_some_iff.mp h
    refine aw_callV C (ci := 9) (b := 181) [.int v1, .ref (rAid 23), .ref (rAid 24), .ref (rAid 25), .int r3.1, .int (1 : Int32), .int (0 : Int32)] mv_X9_237 rfl rfl (hm_M f (rSf r3.2 26 r3.1)) (rmX9_takes rfl rfl rfl h7) rfl dX9_cutsAll_181 (Nat.le_of_ble_eq_true rfl) (Nat.le_of_ble_eq_true rfl) rfl (Nat.le_of_ble_eq_true rfl) (Nat.le_of_ble_eq_true rfl) (Nat.le_of_ble_eq_true rfl) (fun v9 f9 n9 hh => ?_)
    obtain ⟨rfl, rfl, rfl⟩ := hh
    refine aw_goto C 333 dX9_cutsAll_184 (by decide) ?_
    refine aw_fl [some (.ref 181), some (.int v1), none, none, none] ⟨rfl, ⟨rfl, trivial⟩⟩ ?_
    exact rmX9_cutsAll_b333 C Hr78 h
def mX9_cutsAll_l78 : Nat → Int32 → RS9 → Option (Int32 × RS9)
  | 0, _, _ => none
  | d + 1, v1, σ => (if (σ.1 22) ≤ v1 then some ((0 : Int32), σ) else rCk (rIn (1 : Int32) (rLen 1)) (rCk (rIn v1 (rLen 19)) ((if (rGa σ 19 v1) = (1 : Int32) then mX9_cutsAll_b109 (fun v1 σ => mX9_cutsAll_l78 d v1 σ) v1 (rGa σ 1 (1 : Int32)) (1 : Int32) σ else mX9_cutsAll_b109 (fun v1 σ => mX9_cutsAll_l78 d v1 σ) v1 (rGa σ 1 (1 : Int32)) (0 : Int32) σ))))
set_option maxHeartbeats 1000000 in
theorem rmX9_cutsAll_l78 {X : GX} {p : Program} {l : Launch} {e : Env} {s : State} {m : MethodId} {args : Array Value} {below : List Frame} {meth : Method} {c : Code} {f : AH} {n : Nat} {r : Int32 × RS9} (C : CC X p l (RM 7 0 0) s m args meth c RX9 cX9_cutsAll 5 none) : ∀ (d : Nat) (v1 : Int32) (σ : RS9) (_ : mX9_cutsAll_l78 d v1 σ = some r), AW X p l e (RM 7 0 0) s m args below meth c 5 (ZM X below args s 0 0 (QMv f n r)) (rHm f σ) n 0 0 78 [some (.ref 181), some (.int v1), none, none, none] [] := by
  intro d
  induction d with
  | zero =>
    intro v1 σ h
    exact nomatch (show (none : Option (Int32 × RS9)) = some r from h)
  | succ d ih =>
    intro v1 σ h
    have h : (if (σ.1 22) ≤ v1 then some ((0 : Int32), σ) else rCk (rIn (1 : Int32) (rLen 1)) (rCk (rIn v1 (rLen 19)) ((if (rGa σ 19 v1) = (1 : Int32) then mX9_cutsAll_b109 (fun v1 σ => mX9_cutsAll_l78 d v1 σ) v1 (rGa σ 1 (1 : Int32)) (1 : Int32) σ else mX9_cutsAll_b109 (fun v1 σ => mX9_cutsAll_l78 d v1 σ) v1 (rGa σ 1 (1 : Int32)) (0 : Int32) σ)))) = some r := h
    refine aw_iload_n C dX9_cutsAll_78 rfl ?_
    refine aw_ald_n C dX9_cutsAll_79 rfl ?_
    refine aw_get C (v := .int (σ.1 22)) gf_X9_227 (hm_M f σ) rfl dX9_cutsAll_80 ?_
    refine aw_icmp_ge C 339 dX9_cutsAll_83 (by decide) (fun q => ?_) (fun q => ?_)
    · rw [if_pos q] at h
      cases h
      exact aw_vret C rfl dX9_cutsAll_339 (Nat.le_refl _) (Nat.le_refl _) ⟨rfl, rfl, rfl⟩
    · rw [if_neg q] at h
      refine aw_ald_n C dX9_cutsAll_86 rfl ?_
      refine aw_ald_n C dX9_cutsAll_87 rfl ?_
      refine aw_ald_n C dX9_cutsAll_88 rfl ?_
      refine aw_get C (v := .ref (rAid 1)) gf_X9_7 (hm_M f σ) rfl dX9_cutsAll_89 ?_
      refine aw_iconst C 1 dX9_cutsAll_92 ki_1 ?_
      obtain ⟨hb1, h⟩ := ck_some h
      refine am_iald C (rGa σ 1 (1 : Int32)) rfl (inb_vp hb1) rfl dX9_cutsAll_93 ?_
      refine aw_ald_n C dX9_cutsAll_94 rfl ?_
      refine aw_get C (v := .ref (rAid 19)) gf_X9_45 (hm_M f σ) rfl dX9_cutsAll_95 ?_
      refine aw_iload_n C dX9_cutsAll_98 rfl ?_
      obtain ⟨hb2, h⟩ := ck_some h
      refine am_iald C (rGa σ 19 v1) rfl (inb_vp hb2) rfl dX9_cutsAll_99 ?_
      refine aw_iconst C 1 dX9_cutsAll_100 ki_1 ?_
      refine aw_icmp_ne C 108 dX9_cutsAll_101 (by decide) (fun q => ?_) (fun q => ?_)
      · rw [if_neg q] at h
        refine aw_iconst C 0 dX9_cutsAll_108 ki_0 ?_
        refine aw_fl [some (.ref 181), some (.int v1), none, none, none] ⟨rfl, ⟨rfl, trivial⟩⟩ ?_
        exact rmX9_cutsAll_b109 C (fun v1 σ h => ih v1 σ h) h
      · rw [if_pos q] at h
        refine aw_iconst C 1 dX9_cutsAll_104 ki_1 ?_
        refine aw_goto C 109 dX9_cutsAll_105 (by decide) ?_
        refine aw_fl [some (.ref 181), some (.int v1), none, none, none] ⟨rfl, ⟨rfl, trivial⟩⟩ ?_
        exact rmX9_cutsAll_b109 C (fun v1 σ h => ih v1 σ h) h
def mX9_cutsAll_l12 : Nat → Int32 → RS9 → Option (Int32 × RS9)
  | 0, _, _ => none
  | d + 1, v1, σ => (if (σ.1 16) ≤ v1 then rCk (rIn (1 : Int32) (rLen 1)) (((mX9_cuts (rGa σ 1 (1 : Int32)) 13 (σ.1 16) 17 18 19 σ).bind fun r2 => mX9_cutsAll_l78 rFU (0 : Int32) (rSf r2.2 22 r2.1))) else rCk (rIn v1 (rLen 14)) (rCk (rIn v1 (rLen 15)) (mX9_cutsAll_l12 d (v1 + (1 : Int32)) (rSa (rSa σ 14 v1 v1) 15 v1 (v1 + (1 : Int32))))))
set_option maxHeartbeats 1000000 in
theorem rmX9_cutsAll_l12 {X : GX} {p : Program} {l : Launch} {e : Env} {s : State} {m : MethodId} {args : Array Value} {below : List Frame} {meth : Method} {c : Code} {f : AH} {n : Nat} {r : Int32 × RS9} (C : CC X p l (RM 7 0 0) s m args meth c RX9 cX9_cutsAll 5 none) : ∀ (d : Nat) (v1 : Int32) (σ : RS9) (_ : mX9_cutsAll_l12 d v1 σ = some r), AW X p l e (RM 7 0 0) s m args below meth c 5 (ZM X below args s 0 0 (QMv f n r)) (rHm f σ) n 0 0 12 [some (.ref 181), some (.int v1), none, none, none] [] := by
  intro d
  induction d with
  | zero =>
    intro v1 σ h
    exact nomatch (show (none : Option (Int32 × RS9)) = some r from h)
  | succ d ih =>
    intro v1 σ h
    have h : (if (σ.1 16) ≤ v1 then rCk (rIn (1 : Int32) (rLen 1)) (((mX9_cuts (rGa σ 1 (1 : Int32)) 13 (σ.1 16) 17 18 19 σ).bind fun r2 => mX9_cutsAll_l78 rFU (0 : Int32) (rSf r2.2 22 r2.1))) else rCk (rIn v1 (rLen 14)) (rCk (rIn v1 (rLen 15)) (mX9_cutsAll_l12 d (v1 + (1 : Int32)) (rSa (rSa σ 14 v1 v1) 15 v1 (v1 + (1 : Int32)))))) = some r := h
    refine aw_iload_n C dX9_cutsAll_12 rfl ?_
    refine aw_ald_n C dX9_cutsAll_13 rfl ?_
    refine aw_get C (v := .int (σ.1 16)) gf_X9_220 (hm_M f σ) rfl dX9_cutsAll_14 ?_
    refine aw_icmp_ge C 42 dX9_cutsAll_17 (by decide) (fun q => ?_) (fun q => ?_)
    · rw [if_pos q] at h
      refine aw_ald_n C dX9_cutsAll_42 rfl ?_
      refine aw_ald_n C dX9_cutsAll_43 rfl ?_
      refine aw_ald_n C dX9_cutsAll_44 rfl ?_
      refine aw_get C (v := .ref (rAid 1)) gf_X9_7 (hm_M f σ) rfl dX9_cutsAll_45 ?_
      refine aw_iconst C 1 dX9_cutsAll_48 ki_1 ?_
      obtain ⟨hb1, h⟩ := ck_some h
      refine am_iald C (rGa σ 1 (1 : Int32)) rfl (inb_vp hb1) rfl dX9_cutsAll_49 ?_
      refine aw_ald_n C dX9_cutsAll_50 rfl ?_
      refine aw_get C (v := .ref (rAid 13)) gf_X9_30 (hm_M f σ) rfl dX9_cutsAll_51 ?_
      refine aw_ald_n C dX9_cutsAll_54 rfl ?_
      refine aw_get C (v := .int (σ.1 16)) gf_X9_220 (hm_M f σ) rfl dX9_cutsAll_55 ?_
      refine aw_ald_n C dX9_cutsAll_58 rfl ?_
      refine aw_get C (v := .ref (rAid 17)) gf_X9_39 (hm_M f σ) rfl dX9_cutsAll_59 ?_
      refine aw_ald_n C dX9_cutsAll_62 rfl ?_
      refine aw_get C (v := .ref (rAid 18)) gf_X9_42 (hm_M f σ) rfl dX9_cutsAll_63 ?_
      refine aw_ald_n C dX9_cutsAll_66 rfl ?_
      refine aw_get C (v := .ref (rAid 19)) gf_X9_45 (hm_M f σ) rfl dX9_cutsAll_67 ?_
      obtain ⟨r2, h2, h⟩ := Option.bind_eq_some_iff.mp h
      refine aw_callV C (ci := 9) (b := 181) [.int (rGa σ 1 (1 : Int32)), .ref (rAid 13), .int (σ.1 16), .ref (rAid 17), .ref (rAid 18), .ref (rAid 19)] mv_X9_223 rfl rfl (hm_M f σ) (rmX9_cuts rfl rfl rfl rfl h2) rfl dX9_cutsAll_70 (Nat.le_of_ble_eq_true rfl) (Nat.le_of_ble_eq_true rfl) rfl (Nat.le_of_ble_eq_true rfl) (Nat.le_of_ble_eq_true rfl) (Nat.le_of_ble_eq_true rfl) (fun v9 f9 n9 hh => ?_)
      obtain ⟨rfl, rfl, rfl⟩ := hh
      refine am_put C gf_X9_227 nf9_22 rfl rfl dX9_cutsAll_73 ?_
      refine aw_iconst C 0 dX9_cutsAll_76 ki_0 ?_
      refine aw_istore_n C dX9_cutsAll_77 (by decide) rfl ?_
      refine aw_nl [some (.ref 181), some (.int (0 : Int32)), none, none, none] rfl ?_
      refine aw_fl [some (.ref 181), some (.int (0 : Int32)), none, none, none] ⟨rfl, ⟨rfl, trivial⟩⟩ ?_
      exact rmX9_cutsAll_l78 C rFU (0 : Int32) (rSf r2.2 22 r2.1) h
    · rw [if_neg q] at h
      refine aw_ald_n C dX9_cutsAll_20 rfl ?_
      refine aw_get C (v := .ref (rAid 14)) gf_X9_33 (hm_M f σ) rfl dX9_cutsAll_21 ?_
      refine aw_iload_n C dX9_cutsAll_24 rfl ?_
      refine aw_iload_n C dX9_cutsAll_25 rfl ?_
      obtain ⟨hb3, h⟩ := ck_some h
      refine am_iast C rfl (inb_vp hb3) dX9_cutsAll_26 ?_
      refine aw_ald_n C dX9_cutsAll_27 rfl ?_
      refine aw_get C (v := .ref (rAid 15)) gf_X9_36 (hm_M f (rSa σ 14 v1 v1)) rfl dX9_cutsAll_28 ?_
      refine aw_iload_n C dX9_cutsAll_31 rfl ?_
      refine aw_iload_n C dX9_cutsAll_32 rfl ?_
      refine aw_iconst C 1 dX9_cutsAll_33 ki_1 ?_
      refine aw_iadd C dX9_cutsAll_34 ?_
      obtain ⟨hb4, h⟩ := ck_some h
      refine am_iast C rfl (inb_vp hb4) dX9_cutsAll_35 ?_
      refine aw_iinc C (v1 + (1 : Int32)) dX9_cutsAll_36 rfl (by rw [ki_1]) (by decide) rfl ?_
      refine aw_nl [some (.ref 181), some (.int (v1 + (1 : Int32))), none, none, none] rfl ?_
      refine aw_goto C 12 dX9_cutsAll_39 (by decide) ?_
      refine aw_fl [some (.ref 181), some (.int (v1 + (1 : Int32))), none, none, none] ⟨rfl, ⟨rfl, trivial⟩⟩ ?_
      exact ih (v1 + (1 : Int32)) (rSa (rSa σ 14 v1 v1) 15 v1 (v1 + (1 : Int32))) h
def mX9_cutsAll (σ : RS9) : Option (Int32 × RS9) := mX9_cutsAll_l12 rFU (0 : Int32) (rSf (rSf σ 33 (0 : Int32)) 45 (0 : Int32))
set_option maxHeartbeats 1000000 in
theorem rmX9_cutsAll {X : GX} {l : Launch} {f : AH} {n : Nat} {r : Int32 × RS9} {σ : RS9} (h : mX9_cutsAll σ = some r) : AM X l yX9_cutsAll cX9_cutsAll 5 none 7 0 0 [.ref 181] (rHm f σ) n (QMv f n r) := by
  have h : mX9_cutsAll_l12 rFU (0 : Int32) (rSf (rSf σ 33 (0 : Int32)) 45 (0 : Int32)) = some r := h
  refine AM.of (by decide +kernel) rfl (Nat.le_of_ble_eq_true rfl) (fun p e s m args below meth c C _ => ?_)
  refine aw_nl [some (.ref 181), none, none, none, none] rfl ?_
  refine aw_ald_n C dX9_cutsAll_0 rfl ?_
  refine aw_iconst C 0 dX9_cutsAll_1 ki_0 ?_
  refine am_put C gf_X9_204 nf9_33 rfl rfl dX9_cutsAll_2 ?_
  refine aw_ald_n C dX9_cutsAll_5 rfl ?_
  refine aw_iconst C 0 dX9_cutsAll_6 ki_0 ?_
  refine am_put C gf_X9_217 nf9_45 rfl rfl dX9_cutsAll_7 ?_
  refine aw_iconst C 0 dX9_cutsAll_10 ki_0 ?_
  refine aw_istore_n C dX9_cutsAll_11 (by decide) rfl ?_
  refine aw_nl [some (.ref 181), some (.int (0 : Int32)), none, none, none] rfl ?_
  refine aw_fl [some (.ref 181), some (.int (0 : Int32)), none, none, none] ⟨rfl, ⟨rfl, trivial⟩⟩ ?_
  exact rmX9_cutsAll_l12 C rFU (0 : Int32) (rSf (rSf σ 33 (0 : Int32)) 45 (0 : Int32)) h
def mX9_cutsFile_l12 : Nat → Int32 → RS9 → Option (Int32 × RS9)
  | 0, _, _ => none
  | d + 1, v1, σ => (if (σ.1 16) ≤ v1 then ((mX9_cutsAll σ).bind fun r1 => some ((0 : Int32), r1.2)) else rCk (rIn ((43 : Int32) + v1) (rLen 1)) (rCk (rIn v1 (rLen 13)) (mX9_cutsFile_l12 d (v1 + (1 : Int32)) (rSa σ 13 v1 (rGa σ 1 ((43 : Int32) + v1))))))
set_option maxHeartbeats 1000000 in
theorem rmX9_cutsFile_l12 {X : GX} {p : Program} {l : Launch} {e : Env} {s : State} {m : MethodId} {args : Array Value} {below : List Frame} {meth : Method} {c : Code} {f : AH} {n : Nat} {r : Int32 × RS9} (C : CC X p l (RM 8 0 0) s m args meth c RX9 cX9_cutsFile 2 none) : ∀ (d : Nat) (v1 : Int32) (σ : RS9) (_ : mX9_cutsFile_l12 d v1 σ = some r), AW X p l e (RM 8 0 0) s m args below meth c 2 (ZM X below args s 0 0 (QMv f n r)) (rHm f σ) n 0 0 12 [some (.ref 181), some (.int v1)] [] := by
  intro d
  induction d with
  | zero =>
    intro v1 σ h
    exact nomatch (show (none : Option (Int32 × RS9)) = some r from h)
  | succ d ih =>
    intro v1 σ h
    have h : (if (σ.1 16) ≤ v1 then ((mX9_cutsAll σ).bind fun r1 => some ((0 : Int32), r1.2)) else rCk (rIn ((43 : Int32) + v1) (rLen 1)) (rCk (rIn v1 (rLen 13)) (mX9_cutsFile_l12 d (v1 + (1 : Int32)) (rSa σ 13 v1 (rGa σ 1 ((43 : Int32) + v1)))))) = some r := h
    refine aw_iload_n C dX9_cutsFile_12 rfl ?_
    refine aw_ald_n C dX9_cutsFile_13 rfl ?_
    refine aw_get C (v := .int (σ.1 16)) gf_X9_220 (hm_M f σ) rfl dX9_cutsFile_14 ?_
    refine aw_icmp_ge C 41 dX9_cutsFile_17 (by decide) (fun q => ?_) (fun q => ?_)
    · rw [if_pos q] at h
      refine aw_ald_n C dX9_cutsFile_41 rfl ?_
      obtain ⟨r1, h1, h⟩ := Option.bind_eq_some_iff.mp h
      refine aw_callV C (ci := 9) (b := 181) [] mv_X9_241 rfl rfl (hm_M f σ) (rmX9_cutsAll h1) rfl dX9_cutsFile_42 (Nat.le_of_ble_eq_true rfl) (Nat.le_of_ble_eq_true rfl) rfl (Nat.le_of_ble_eq_true rfl) (Nat.le_of_ble_eq_true rfl) (Nat.le_of_ble_eq_true rfl) (fun v9 f9 n9 hh => ?_)
      obtain ⟨rfl, rfl, rfl⟩ := hh
      cases h
      exact aw_vret C rfl dX9_cutsFile_45 (Nat.le_refl _) (Nat.le_refl _) ⟨rfl, rfl, rfl⟩
    · rw [if_neg q] at h
      refine aw_ald_n C dX9_cutsFile_20 rfl ?_
      refine aw_get C (v := .ref (rAid 13)) gf_X9_30 (hm_M f σ) rfl dX9_cutsFile_21 ?_
      refine aw_iload_n C dX9_cutsFile_24 rfl ?_
      refine aw_ald_n C dX9_cutsFile_25 rfl ?_
      refine aw_get C (v := .ref (rAid 1)) gf_X9_7 (hm_M f σ) rfl dX9_cutsFile_26 ?_
      refine aw_bipush C 43 dX9_cutsFile_29 kb_43 ?_
      refine aw_iload_n C dX9_cutsFile_31 rfl ?_
      refine aw_iadd C dX9_cutsFile_32 ?_
      obtain ⟨hb2, h⟩ := ck_some h
      refine am_iald C (rGa σ 1 ((43 : Int32) + v1)) rfl (inb_vp hb2) rfl dX9_cutsFile_33 ?_
      obtain ⟨hb3, h⟩ := ck_some h
      refine am_iast C rfl (inb_vp hb3) dX9_cutsFile_34 ?_
      refine aw_iinc C (v1 + (1 : Int32)) dX9_cutsFile_35 rfl (by rw [ki_1]) (by decide) rfl ?_
      refine aw_nl [some (.ref 181), some (.int (v1 + (1 : Int32)))] rfl ?_
      refine aw_goto C 12 dX9_cutsFile_38 (by decide) ?_
      refine aw_fl [some (.ref 181), some (.int (v1 + (1 : Int32)))] ⟨rfl, ⟨rfl, trivial⟩⟩ ?_
      exact ih (v1 + (1 : Int32)) (rSa σ 13 v1 (rGa σ 1 ((43 : Int32) + v1))) h
def mX9_cutsFile (σ : RS9) : Option (Int32 × RS9) := rCk (rIn (0 : Int32) (rLen 1)) (mX9_cutsFile_l12 rFU (0 : Int32) (rSf σ 16 (rGa σ 1 (0 : Int32))))
set_option maxHeartbeats 1000000 in
theorem rmX9_cutsFile {X : GX} {l : Launch} {f : AH} {n : Nat} {r : Int32 × RS9} {σ : RS9} (h : mX9_cutsFile σ = some r) : AM X l yX9_cutsFile cX9_cutsFile 2 none 8 0 0 [.ref 181] (rHm f σ) n (QMv f n r) := by
  have h : rCk (rIn (0 : Int32) (rLen 1)) (mX9_cutsFile_l12 rFU (0 : Int32) (rSf σ 16 (rGa σ 1 (0 : Int32)))) = some r := h
  refine AM.of (by decide +kernel) rfl (Nat.le_of_ble_eq_true rfl) (fun p e s m args below meth c C _ => ?_)
  refine aw_nl [some (.ref 181), none] rfl ?_
  refine aw_ald_n C dX9_cutsFile_0 rfl ?_
  refine aw_ald_n C dX9_cutsFile_1 rfl ?_
  refine aw_get C (v := .ref (rAid 1)) gf_X9_7 (hm_M f σ) rfl dX9_cutsFile_2 ?_
  refine aw_iconst C 0 dX9_cutsFile_5 ki_0 ?_
  obtain ⟨hb1, h⟩ := ck_some h
  refine am_iald C (rGa σ 1 (0 : Int32)) rfl (inb_vp hb1) rfl dX9_cutsFile_6 ?_
  refine am_put C gf_X9_220 nf9_16 rfl rfl dX9_cutsFile_7 ?_
  refine aw_iconst C 0 dX9_cutsFile_10 ki_0 ?_
  refine aw_istore_n C dX9_cutsFile_11 (by decide) rfl ?_
  refine aw_nl [some (.ref 181), some (.int (0 : Int32))] rfl ?_
  refine aw_fl [some (.ref 181), some (.int (0 : Int32))] ⟨rfl, ⟨rfl, trivial⟩⟩ ?_
  exact rmX9_cutsFile_l12 C rFU (0 : Int32) (rSf σ 16 (rGa σ 1 (0 : Int32))) h
def mX9_cutsAnew_l6 : Nat → Int32 → RS9 → Option (Int32 × RS9)
  | 0, _, _ => none
  | d + 1, v1, σ => (if (40 : Int32) ≤ v1 then some ((0 : Int32), σ) else rCk (rIn ((443 : Int32) + ((61 : Int32) * v1)) (rLen 1)) (mX9_cutsAnew_l6 d (v1 + (1 : Int32)) (rSa σ 1 ((443 : Int32) + ((61 : Int32) * v1)) (-1 : Int32))))
set_option maxHeartbeats 1000000 in
theorem rmX9_cutsAnew_l6 {X : GX} {p : Program} {l : Launch} {e : Env} {s : State} {m : MethodId} {args : Array Value} {below : List Frame} {meth : Method} {c : Code} {f : AH} {n : Nat} {r : Int32 × RS9} (C : CC X p l (RM 9 0 0) s m args meth c RX9 cX9_cutsAnew 2 none) : ∀ (d : Nat) (v1 : Int32) (σ : RS9) (_ : mX9_cutsAnew_l6 d v1 σ = some r), AW X p l e (RM 9 0 0) s m args below meth c 2 (ZM X below args s 0 0 (QMv f n r)) (rHm f σ) n 0 0 6 [some (.ref 181), some (.int v1)] [] := by
  intro d
  induction d with
  | zero =>
    intro v1 σ h
    exact nomatch (show (none : Option (Int32 × RS9)) = some r from h)
  | succ d ih =>
    intro v1 σ h
    have h : (if (40 : Int32) ≤ v1 then some ((0 : Int32), σ) else rCk (rIn ((443 : Int32) + ((61 : Int32) * v1)) (rLen 1)) (mX9_cutsAnew_l6 d (v1 + (1 : Int32)) (rSa σ 1 ((443 : Int32) + ((61 : Int32) * v1)) (-1 : Int32)))) = some r := h
    refine aw_iload_n C dX9_cutsAnew_6 rfl ?_
    refine aw_bipush C 40 dX9_cutsAnew_7 kb_40 ?_
    refine aw_icmp_ge C 32 dX9_cutsAnew_9 (by decide) (fun q => ?_) (fun q => ?_)
    · rw [if_pos q] at h
      cases h
      exact aw_vret C rfl dX9_cutsAnew_32 (Nat.le_refl _) (Nat.le_refl _) ⟨rfl, rfl, rfl⟩
    · rw [if_neg q] at h
      refine aw_ald_n C dX9_cutsAnew_12 rfl ?_
      refine aw_get C (v := .ref (rAid 1)) gf_X9_7 (hm_M f σ) rfl dX9_cutsAnew_13 ?_
      refine aw_sipush C 443 dX9_cutsAnew_16 ks_443 ?_
      refine aw_bipush C 61 dX9_cutsAnew_19 kb_61 ?_
      refine aw_iload_n C dX9_cutsAnew_21 rfl ?_
      refine aw_imul C dX9_cutsAnew_22 ?_
      refine aw_iadd C dX9_cutsAnew_23 ?_
      refine aw_iconst C (-1) dX9_cutsAnew_24 ki_m1 ?_
      obtain ⟨hb1, h⟩ := ck_some h
      refine am_iast C rfl (inb_vp hb1) dX9_cutsAnew_25 ?_
      refine aw_iinc C (v1 + (1 : Int32)) dX9_cutsAnew_26 rfl (by rw [ki_1]) (by decide) rfl ?_
      refine aw_nl [some (.ref 181), some (.int (v1 + (1 : Int32)))] rfl ?_
      refine aw_goto C 6 dX9_cutsAnew_29 (by decide) ?_
      refine aw_fl [some (.ref 181), some (.int (v1 + (1 : Int32)))] ⟨rfl, ⟨rfl, trivial⟩⟩ ?_
      exact ih (v1 + (1 : Int32)) (rSa σ 1 ((443 : Int32) + ((61 : Int32) * v1)) (-1 : Int32)) h
def mX9_cutsAnew (σ : RS9) : Option (Int32 × RS9) := ((mX9_cutsFile σ).bind fun r1 => mX9_cutsAnew_l6 rFU (0 : Int32) r1.2)
set_option maxHeartbeats 1000000 in
theorem rmX9_cutsAnew {X : GX} {l : Launch} {f : AH} {n : Nat} {r : Int32 × RS9} {σ : RS9} (h : mX9_cutsAnew σ = some r) : AM X l yX9_cutsAnew cX9_cutsAnew 2 none 9 0 0 [.ref 181] (rHm f σ) n (QMv f n r) := by
  have h : ((mX9_cutsFile σ).bind fun r1 => mX9_cutsAnew_l6 rFU (0 : Int32) r1.2) = some r := h
  refine AM.of (by decide +kernel) rfl (Nat.le_of_ble_eq_true rfl) (fun p e s m args below meth c C _ => ?_)
  refine aw_nl [some (.ref 181), none] rfl ?_
  refine aw_ald_n C dX9_cutsAnew_0 rfl ?_
  obtain ⟨r1, h1, h⟩ := Option.bind_eq_some_iff.mp h
  refine aw_callV C (ci := 9) (b := 181) [] mv_X9_244 rfl rfl (hm_M f σ) (rmX9_cutsFile h1) rfl dX9_cutsAnew_1 (Nat.le_of_ble_eq_true rfl) (Nat.le_of_ble_eq_true rfl) rfl (Nat.le_of_ble_eq_true rfl) (Nat.le_of_ble_eq_true rfl) (Nat.le_of_ble_eq_true rfl) (fun v9 f9 n9 hh => ?_)
  obtain ⟨rfl, rfl, rfl⟩ := hh
  refine aw_iconst C 0 dX9_cutsAnew_4 ki_0 ?_
  refine aw_istore_n C dX9_cutsAnew_5 (by decide) rfl ?_
  refine aw_nl [some (.ref 181), some (.int (0 : Int32))] rfl ?_
  refine aw_fl [some (.ref 181), some (.int (0 : Int32))] ⟨rfl, ⟨rfl, trivial⟩⟩ ?_
  exact rmX9_cutsAnew_l6 C rFU (0 : Int32) r1.2 h
def mX9_rules (v1 : Int32) (v2 : Int32) (σ : RS9) : Option (Int32 × RS9) := rCk (rIn v1 (rLen 1)) (((mX9_cutsAnew (rSa σ 1 v1 v2)).bind fun r2 => some ((0 : Int32), r2.2)))
set_option maxHeartbeats 1000000 in
theorem rmX9_rules {X : GX} {l : Launch} {f : AH} {n : Nat} {r : Int32 × RS9} {v1 : Int32} {v2 : Int32} {σ : RS9} (h : mX9_rules v1 v2 σ = some r) : AM X l yX9_rules cX9_rules 3 (some .int) 10 0 0 [.ref 181, .int v1, .int v2] (rHm f σ) n (QMi f n r) := by
  have h : rCk (rIn v1 (rLen 1)) (((mX9_cutsAnew (rSa σ 1 v1 v2)).bind fun r2 => some ((0 : Int32), r2.2))) = some r := h
  refine AM.of (by decide +kernel) rfl (Nat.le_of_ble_eq_true rfl) (fun p e s m args below meth c C _ => ?_)
  refine aw_nl [some (.ref 181), some (.int v1), some (.int v2)] rfl ?_
  refine aw_ald_n C dX9_rules_0 rfl ?_
  refine aw_get C (v := .ref (rAid 1)) gf_X9_7 (hm_M f σ) rfl dX9_rules_1 ?_
  refine aw_iload_n C dX9_rules_4 rfl ?_
  refine aw_iload_n C dX9_rules_5 rfl ?_
  obtain ⟨hb1, h⟩ := ck_some h
  refine am_iast C rfl (inb_vp hb1) dX9_rules_6 ?_
  refine aw_ald_n C dX9_rules_7 rfl ?_
  obtain ⟨r2, h2, h⟩ := Option.bind_eq_some_iff.mp h
  refine aw_callV C (ci := 9) (b := 181) [] mv_X9_322 rfl rfl (hm_M f (rSa σ 1 v1 v2)) (rmX9_cutsAnew h2) rfl dX9_rules_8 (Nat.le_of_ble_eq_true rfl) (Nat.le_of_ble_eq_true rfl) rfl (Nat.le_of_ble_eq_true rfl) (Nat.le_of_ble_eq_true rfl) (Nat.le_of_ble_eq_true rfl) (fun v9 f9 n9 hh => ?_)
  obtain ⟨rfl, rfl, rfl⟩ := hh
  refine aw_iconst C 0 dX9_rules_11 ki_0 ?_
  cases h
  exact aw_iret C rfl rfl dX9_rules_12 (Nat.le_refl _) (Nat.le_refl _) ⟨rfl, rfl, rfl⟩
def mX9_ruleText_b27 (s0 : Int32) (σ : RS9) : Option (Int32 × RS9) := some (s0, σ)
set_option maxHeartbeats 1000000 in
theorem rmX9_ruleText_b27 {X : GX} {p : Program} {l : Launch} {e : Env} {s : State} {m : MethodId} {args : Array Value} {below : List Frame} {meth : Method} {c : Code} {f : AH} {n : Nat} {r : Int32 × RS9} {s0 : Int32} {σ : RS9} (C : CC X p l (RM 11 0 0) s m args meth c RX9 cX9_ruleText 5 (some .int)) (h : mX9_ruleText_b27 s0 σ = some r) : AW X p l e (RM 11 0 0) s m args below meth c 5 (ZM X below args s 0 0 (QMi f n r)) (rHm f σ) n 0 0 27 [none, none, none, none, none] [.int s0] := by
  have h : some (s0, σ) = some r := h
  cases h
  exact aw_iret C rfl rfl dX9_ruleText_27 (Nat.le_refl _) (Nat.le_refl _) ⟨rfl, rfl, rfl⟩
def mX9_ruleText (v1 : Int32) (v2 : Int32) (v3 : Int32) (σ : RS9) : Option (Int32 × RS9) := ((mX9_number v2 v3 σ).bind fun r1 => (if (r1.2.1 12) = (-1 : Int32) then ((mX9_rules v1 r1.1 r1.2).bind fun r2 => mX9_ruleText_b27 r2.1 r2.2) else mX9_ruleText_b27 (0 : Int32) r1.2))
set_option maxHeartbeats 1000000 in
theorem rmX9_ruleText {X : GX} {l : Launch} {f : AH} {n : Nat} {r : Int32 × RS9} {v1 : Int32} {v2 : Int32} {v3 : Int32} {σ : RS9} (h : mX9_ruleText v1 v2 v3 σ = some r) : AM X l yX9_ruleText cX9_ruleText 5 (some .int) 11 0 0 [.ref 181, .int v1, .int v2, .int v3] (rHm f σ) n (QMi f n r) := by
  have h : ((mX9_number v2 v3 σ).bind fun r1 => (if (r1.2.1 12) = (-1 : Int32) then ((mX9_rules v1 r1.1 r1.2).bind fun r2 => mX9_ruleText_b27 r2.1 r2.2) else mX9_ruleText_b27 (0 : Int32) r1.2)) = some r := h
  refine AM.of (by decide +kernel) rfl (Nat.le_of_ble_eq_true rfl) (fun p e s m args below meth c C _ => ?_)
  refine aw_nl [some (.ref 181), some (.int v1), some (.int v2), some (.int v3), none] rfl ?_
  refine aw_ald_n C dX9_ruleText_0 rfl ?_
  refine aw_iload_n C dX9_ruleText_1 rfl ?_
  refine aw_iload_n C dX9_ruleText_2 rfl ?_
  obtain ⟨r1, h1, h⟩ := Option.bind_eq_some_iff.mp h
  refine aw_callV C (ci := 9) (b := 181) [.int v2, .int v3] mv_X9_358 rfl rfl (hm_M f σ) (rmX9_number h1) rfl dX9_ruleText_3 (Nat.le_of_ble_eq_true rfl) (Nat.le_of_ble_eq_true rfl) rfl (Nat.le_of_ble_eq_true rfl) (Nat.le_of_ble_eq_true rfl) (Nat.le_of_ble_eq_true rfl) (fun v9 f9 n9 hh => ?_)
  obtain ⟨rfl, rfl, rfl⟩ := hh
  refine aw_istore C dX9_ruleText_6 (by decide) rfl ?_
  refine aw_nl [some (.ref 181), some (.int v1), some (.int v2), some (.int v3), some (.int r1.1)] rfl ?_
  refine aw_ald_n C dX9_ruleText_8 rfl ?_
  refine aw_get C (v := .int (r1.2.1 12)) gf_X9_26 (hm_M f r1.2) rfl dX9_ruleText_9 ?_
  refine aw_iconst C (-1) dX9_ruleText_12 ki_m1 ?_
  refine aw_icmp_ne C 26 dX9_ruleText_13 (by decide) (fun q => ?_) (fun q => ?_)
  · rw [if_neg q] at h
    refine aw_iconst C 0 dX9_ruleText_26 ki_0 ?_
    refine aw_fl [none, none, none, none, none] trivial ?_
    exact rmX9_ruleText_b27 C h
  · rw [if_pos q] at h
    refine aw_ald_n C dX9_ruleText_16 rfl ?_
    refine aw_iload_n C dX9_ruleText_17 rfl ?_
    refine aw_iload C dX9_ruleText_18 rfl ?_
    obtain ⟨r2, h2, h⟩ := Option.bind_eq_some_iff.mp h
    refine aw_callV C (ci := 9) (b := 181) [.int v1, .int r1.1] mv_X9_361 rfl rfl (hm_M f r1.2) (rmX9_rules h2) rfl dX9_ruleText_20 (Nat.le_of_ble_eq_true rfl) (Nat.le_of_ble_eq_true rfl) rfl (Nat.le_of_ble_eq_true rfl) (Nat.le_of_ble_eq_true rfl) (Nat.le_of_ble_eq_true rfl) (fun v9 f9 n9 hh => ?_)
    obtain ⟨rfl, rfl, rfl⟩ := hh
    refine aw_goto C 27 dX9_ruleText_23 (by decide) ?_
    refine aw_fl [none, none, none, none, none] trivial ?_
    exact rmX9_ruleText_b27 C h
end
/-! part 22cc.ref -/
section
def mX9_lock0_l141 : Nat → Int32 → Int32 → Int32 → Int32 → RS9 → Option (Int32 × RS9)
  | 0, _, _, _, _, _ => none
  | d + 1, v1, v2, v3, v4, σ => (if v2 ≤ v4 then rCk (rIn (5 : Int32) (rLen 1)) (rCk (rIn (5 : Int32) (rLen 1)) (((mX9_cutsAnew (rSa σ 1 (5 : Int32) ((rGa σ 1 (5 : Int32)) + (1 : Int32)))).bind fun r3 => some ((0 : Int32), r3.2)))) else rCk (rIn (v1 + v4) (rLen 8)) (rCk (rIn ((v3 + (1 : Int32)) + v4) (rLen 1)) (mX9_lock0_l141 d v1 v2 v3 (v4 + (1 : Int32)) (rSa σ 1 ((v3 + (1 : Int32)) + v4) (rGa σ 8 (v1 + v4))))))
set_option maxHeartbeats 1000000 in
theorem rmX9_lock0_l141 {X : GX} {p : Program} {l : Launch} {e : Env} {s : State} {m : MethodId} {args : Array Value} {below : List Frame} {meth : Method} {c : Code} {f : AH} {n : Nat} {r : Int32 × RS9} (C : CC X p l (RM 10 0 0) s m args meth c RX9 cX9_lock0 6 (some .int)) : ∀ (d : Nat) (v1 : Int32) (v2 : Int32) (v3 : Int32) (v4 : Int32) (σ : RS9) (_ : mX9_lock0_l141 d v1 v2 v3 v4 σ = some r), AW X p l e (RM 10 0 0) s m args below meth c 6 (ZM X below args s 0 0 (QMi f n r)) (rHm f σ) n 0 0 141 [some (.ref 181), some (.int v1), some (.int v2), some (.int v3), some (.int v4), none] [] := by
  intro d
  induction d with
  | zero =>
    intro v1 v2 v3 v4 σ h
    exact nomatch (show (none : Option (Int32 × RS9)) = some r from h)
  | succ d ih =>
    intro v1 v2 v3 v4 σ h
    have h : (if v2 ≤ v4 then rCk (rIn (5 : Int32) (rLen 1)) (rCk (rIn (5 : Int32) (rLen 1)) (((mX9_cutsAnew (rSa σ 1 (5 : Int32) ((rGa σ 1 (5 : Int32)) + (1 : Int32)))).bind fun r3 => some ((0 : Int32), r3.2)))) else rCk (rIn (v1 + v4) (rLen 8)) (rCk (rIn ((v3 + (1 : Int32)) + v4) (rLen 1)) (mX9_lock0_l141 d v1 v2 v3 (v4 + (1 : Int32)) (rSa σ 1 ((v3 + (1 : Int32)) + v4) (rGa σ 8 (v1 + v4)))))) = some r := h
    refine aw_iload C dX9_lock0_141 rfl ?_
    refine aw_iload_n C dX9_lock0_143 rfl ?_
    refine aw_icmp_ge C 173 dX9_lock0_144 (by decide) (fun q => ?_) (fun q => ?_)
    · rw [if_pos q] at h
      refine aw_ald_n C dX9_lock0_173 rfl ?_
      refine aw_get C (v := .ref (rAid 1)) gf_X9_7 (hm_M f σ) rfl dX9_lock0_174 ?_
      refine aw_iconst C 5 dX9_lock0_177 ki_5 ?_
      refine aw_dup2 C dX9_lock0_178 rfl rfl ?_
      obtain ⟨hb1, h⟩ := ck_some h
      refine am_iald C (rGa σ 1 (5 : Int32)) rfl (inb_vp hb1) rfl dX9_lock0_179 ?_
      refine aw_iconst C 1 dX9_lock0_180 ki_1 ?_
      refine aw_iadd C dX9_lock0_181 ?_
      obtain ⟨hb2, h⟩ := ck_some h
      refine am_iast C rfl (inb_vp hb2) dX9_lock0_182 ?_
      refine aw_ald_n C dX9_lock0_183 rfl ?_
      obtain ⟨r3, h3, h⟩ := Option.bind_eq_some_iff.mp h
      refine aw_callV C (ci := 9) (b := 181) [] mv_X9_322 rfl rfl (hm_M f (rSa σ 1 (5 : Int32) ((rGa σ 1 (5 : Int32)) + (1 : Int32)))) (rmX9_cutsAnew h3) rfl dX9_lock0_184 (Nat.le_of_ble_eq_true rfl) (Nat.le_of_ble_eq_true rfl) rfl (Nat.le_of_ble_eq_true rfl) (Nat.le_of_ble_eq_true rfl) (Nat.le_of_ble_eq_true rfl) (fun v9 f9 n9 hh => ?_)
      obtain ⟨rfl, rfl, rfl⟩ := hh
      refine aw_iconst C 0 dX9_lock0_187 ki_0 ?_
      cases h
      exact aw_iret C rfl rfl dX9_lock0_188 (Nat.le_refl _) (Nat.le_refl _) ⟨rfl, rfl, rfl⟩
    · rw [if_neg q] at h
      refine aw_ald_n C dX9_lock0_147 rfl ?_
      refine aw_get C (v := .ref (rAid 1)) gf_X9_7 (hm_M f σ) rfl dX9_lock0_148 ?_
      refine aw_iload_n C dX9_lock0_151 rfl ?_
      refine aw_iconst C 1 dX9_lock0_152 ki_1 ?_
      refine aw_iadd C dX9_lock0_153 ?_
      refine aw_iload C dX9_lock0_154 rfl ?_
      refine aw_iadd C dX9_lock0_156 ?_
      refine aw_ald_n C dX9_lock0_157 rfl ?_
      refine aw_get C (v := .ref (rAid 8)) gf_X9_23 (hm_M f σ) rfl dX9_lock0_158 ?_
      refine aw_iload_n C dX9_lock0_161 rfl ?_
      refine aw_iload C dX9_lock0_162 rfl ?_
      refine aw_iadd C dX9_lock0_164 ?_
      obtain ⟨hb4, h⟩ := ck_some h
      refine am_iald C (rGa σ 8 (v1 + v4)) rfl (inb_vp hb4) rfl dX9_lock0_165 ?_
      obtain ⟨hb5, h⟩ := ck_some h
      refine am_iast C rfl (inb_vp hb5) dX9_lock0_166 ?_
      refine aw_iinc C (v4 + (1 : Int32)) dX9_lock0_167 rfl (by rw [ki_1]) (by decide) rfl ?_
      refine aw_nl [some (.ref 181), some (.int v1), some (.int v2), some (.int v3), some (.int (v4 + (1 : Int32))), none] rfl ?_
      refine aw_goto C 141 dX9_lock0_170 (by decide) ?_
      refine aw_fl [some (.ref 181), some (.int v1), some (.int v2), some (.int v3), some (.int (v4 + (1 : Int32))), none] ⟨rfl, ⟨rfl, ⟨rfl, ⟨rfl, ⟨rfl, trivial⟩⟩⟩⟩⟩ ?_
      exact ih v1 v2 v3 (v4 + (1 : Int32)) (rSa σ 1 ((v3 + (1 : Int32)) + v4) (rGa σ 8 (v1 + v4))) h
def mX9_lock0_b104 (rec15 : Int32 → Int32 → Int32 → RS9 → Option (Int32 × RS9)) (v1 : Int32) (v2 : Int32) (v3 : Int32) (v4 : Int32) (σ : RS9) : Option (Int32 × RS9) := (if v4 = (0 : Int32) then rec15 v1 v2 (v3 + (1 : Int32)) σ else some ((7 : Int32), σ))
set_option maxHeartbeats 1000000 in
theorem rmX9_lock0_b104 {X : GX} {p : Program} {l : Launch} {e : Env} {s : State} {m : MethodId} {args : Array Value} {below : List Frame} {meth : Method} {c : Code} {f : AH} {n : Nat} {r : Int32 × RS9} {rec15 : Int32 → Int32 → Int32 → RS9 → Option (Int32 × RS9)} {v1 : Int32} {v2 : Int32} {v3 : Int32} {v4 : Int32} {σ : RS9} (C : CC X p l (RM 10 0 0) s m args meth c RX9 cX9_lock0 6 (some .int)) (Hr15 : ∀ (v1 : Int32) (v2 : Int32) (v3 : Int32) (σ : RS9), rec15 v1 v2 v3 σ = some r → AW X p l e (RM 10 0 0) s m args below meth c 6 (ZM X below args s 0 0 (QMi f n r)) (rHm f σ) n 0 0 15 [some (.ref 181), some (.int v1), some (.int v2), some (.int v3), none, none] []) (h : mX9_lock0_b104 rec15 v1 v2 v3 v4 σ = some r) : AW X p l e (RM 10 0 0) s m args below meth c 6 (ZM X below args s 0 0 (QMi f n r)) (rHm f σ) n 0 0 104 [some (.ref 181), some (.int v1), some (.int v2), some (.int v3), some (.int v4), none] [] := by
  have h : (if v4 = (0 : Int32) then rec15 v1 v2 (v3 + (1 : Int32)) σ else some ((7 : Int32), σ)) = some r := h
  refine aw_iload C dX9_lock0_104 rfl ?_
  refine aw_if_eq C 112 dX9_lock0_106 (by decide) (fun q => ?_) (fun q => ?_)
  · rw [if_pos q] at h
    refine aw_iinc C (v3 + (1 : Int32)) dX9_lock0_112 rfl (by rw [ki_1]) (by decide) rfl ?_
    refine aw_nl [some (.ref 181), some (.int v1), some (.int v2), some (.int (v3 + (1 : Int32))), some (.int v4), none] rfl ?_
    refine aw_goto C 15 dX9_lock0_115 (by decide) ?_
    refine aw_fl [some (.ref 181), some (.int v1), some (.int v2), some (.int (v3 + (1 : Int32))), none, none] ⟨rfl, ⟨rfl, ⟨rfl, ⟨rfl, trivial⟩⟩⟩⟩ ?_
    exact Hr15 v1 v2 (v3 + (1 : Int32)) σ h
  · rw [if_neg q] at h
    refine aw_bipush C 7 dX9_lock0_109 kb_7 ?_
    cases h
    exact aw_iret C rfl rfl dX9_lock0_111 (Nat.le_refl _) (Nat.le_refl _) ⟨rfl, rfl, rfl⟩
def mX9_lock0_b96 (rec15 : Int32 → Int32 → Int32 → RS9 → Option (Int32 × RS9)) (rec51 : Int32 → Int32 → Int32 → Int32 → Int32 → RS9 → Option (Int32 × RS9)) (v1 : Int32) (v2 : Int32) (v3 : Int32) (v5 : Int32) (s0 : Int32) (σ : RS9) : Option (Int32 × RS9) := rec51 v1 v2 v3 s0 (v5 + (1 : Int32)) σ
set_option maxHeartbeats 1000000 in
theorem rmX9_lock0_b96 {X : GX} {p : Program} {l : Launch} {e : Env} {s : State} {m : MethodId} {args : Array Value} {below : List Frame} {meth : Method} {c : Code} {f : AH} {n : Nat} {r : Int32 × RS9} {rec15 : Int32 → Int32 → Int32 → RS9 → Option (Int32 × RS9)} {rec51 : Int32 → Int32 → Int32 → Int32 → Int32 → RS9 → Option (Int32 × RS9)} {v1 : Int32} {v2 : Int32} {v3 : Int32} {v5 : Int32} {s0 : Int32} {σ : RS9} (C : CC X p l (RM 10 0 0) s m args meth c RX9 cX9_lock0 6 (some .int)) (Hr15 : ∀ (v1 : Int32) (v2 : Int32) (v3 : Int32) (σ : RS9), rec15 v1 v2 v3 σ = some r → AW X p l e (RM 10 0 0) s m args below meth c 6 (ZM X below args s 0 0 (QMi f n r)) (rHm f σ) n 0 0 15 [some (.ref 181), some (.int v1), some (.int v2), some (.int v3), none, none] []) (Hr51 : ∀ (v1 : Int32) (v2 : Int32) (v3 : Int32) (v4 : Int32) (v5 : Int32) (σ : RS9), rec51 v1 v2 v3 v4 v5 σ = some r → AW X p l e (RM 10 0 0) s m args below meth c 6 (ZM X below args s 0 0 (QMi f n r)) (rHm f σ) n 0 0 51 [some (.ref 181), some (.int v1), some (.int v2), some (.int v3), some (.int v4), some (.int v5)] []) (h : mX9_lock0_b96 rec15 rec51 v1 v2 v3 v5 s0 σ = some r) : AW X p l e (RM 10 0 0) s m args below meth c 6 (ZM X below args s 0 0 (QMi f n r)) (rHm f σ) n 0 0 96 [some (.ref 181), some (.int v1), some (.int v2), some (.int v3), none, some (.int v5)] [.int s0] := by
  have h : rec51 v1 v2 v3 s0 (v5 + (1 : Int32)) σ = some r := h
  refine aw_istore C dX9_lock0_96 (by decide) rfl ?_
  refine aw_nl [some (.ref 181), some (.int v1), some (.int v2), some (.int v3), some (.int s0), some (.int v5)] rfl ?_
  refine aw_iinc C (v5 + (1 : Int32)) dX9_lock0_98 rfl (by rw [ki_1]) (by decide) rfl ?_
  refine aw_nl [some (.ref 181), some (.int v1), some (.int v2), some (.int v3), some (.int s0), some (.int (v5 + (1 : Int32)))] rfl ?_
  refine aw_goto C 51 dX9_lock0_101 (by decide) ?_
  refine aw_fl [some (.ref 181), some (.int v1), some (.int v2), some (.int v3), some (.int s0), some (.int (v5 + (1 : Int32)))] ⟨rfl, ⟨rfl, ⟨rfl, ⟨rfl, ⟨rfl, ⟨rfl, trivial⟩⟩⟩⟩⟩⟩ ?_
  exact Hr51 v1 v2 v3 s0 (v5 + (1 : Int32)) σ h
def mX9_lock0_l51 (rec15 : Int32 → Int32 → Int32 → RS9 → Option (Int32 × RS9)) : Nat → Int32 → Int32 → Int32 → Int32 → Int32 → RS9 → Option (Int32 × RS9)
  | 0, _, _, _, _, _, _ => none
  | d + 1, v1, v2, v3, v4, v5, σ => (if v2 ≤ v5 then mX9_lock0_b104 rec15 v1 v2 v3 v4 σ else (if v4 = (0 : Int32) then mX9_lock0_b104 rec15 v1 v2 v3 v4 σ else rCk (rIn ((((6 : Int32) + ((9 : Int32) * v3)) + (1 : Int32)) + v5) (rLen 1)) (rCk (rIn (v1 + v5) (rLen 8)) ((if (rGa σ 1 ((((6 : Int32) + ((9 : Int32) * v3)) + (1 : Int32)) + v5)) = (rGa σ 8 (v1 + v5)) then mX9_lock0_b96 rec15 (fun v1 v2 v3 v4 v5 σ => mX9_lock0_l51 rec15 d v1 v2 v3 v4 v5 σ) v1 v2 v3 v5 (1 : Int32) σ else mX9_lock0_b96 rec15 (fun v1 v2 v3 v4 v5 σ => mX9_lock0_l51 rec15 d v1 v2 v3 v4 v5 σ) v1 v2 v3 v5 (0 : Int32) σ)))))
set_option maxHeartbeats 1000000 in
theorem rmX9_lock0_l51 {X : GX} {p : Program} {l : Launch} {e : Env} {s : State} {m : MethodId} {args : Array Value} {below : List Frame} {meth : Method} {c : Code} {f : AH} {n : Nat} {r : Int32 × RS9} {rec15 : Int32 → Int32 → Int32 → RS9 → Option (Int32 × RS9)} (C : CC X p l (RM 10 0 0) s m args meth c RX9 cX9_lock0 6 (some .int)) (Hr15 : ∀ (v1 : Int32) (v2 : Int32) (v3 : Int32) (σ : RS9), rec15 v1 v2 v3 σ = some r → AW X p l e (RM 10 0 0) s m args below meth c 6 (ZM X below args s 0 0 (QMi f n r)) (rHm f σ) n 0 0 15 [some (.ref 181), some (.int v1), some (.int v2), some (.int v3), none, none] []) : ∀ (d : Nat) (v1 : Int32) (v2 : Int32) (v3 : Int32) (v4 : Int32) (v5 : Int32) (σ : RS9) (_ : mX9_lock0_l51 rec15 d v1 v2 v3 v4 v5 σ = some r), AW X p l e (RM 10 0 0) s m args below meth c 6 (ZM X below args s 0 0 (QMi f n r)) (rHm f σ) n 0 0 51 [some (.ref 181), some (.int v1), some (.int v2), some (.int v3), some (.int v4), some (.int v5)] [] := by
  intro d
  induction d with
  | zero =>
    intro v1 v2 v3 v4 v5 σ h
    exact nomatch (show (none : Option (Int32 × RS9)) = some r from h)
  | succ d ih =>
    intro v1 v2 v3 v4 v5 σ h
    have h : (if v2 ≤ v5 then mX9_lock0_b104 rec15 v1 v2 v3 v4 σ else (if v4 = (0 : Int32) then mX9_lock0_b104 rec15 v1 v2 v3 v4 σ else rCk (rIn ((((6 : Int32) + ((9 : Int32) * v3)) + (1 : Int32)) + v5) (rLen 1)) (rCk (rIn (v1 + v5) (rLen 8)) ((if (rGa σ 1 ((((6 : Int32) + ((9 : Int32) * v3)) + (1 : Int32)) + v5)) = (rGa σ 8 (v1 + v5)) then mX9_lock0_b96 rec15 (fun v1 v2 v3 v4 v5 σ => mX9_lock0_l51 rec15 d v1 v2 v3 v4 v5 σ) v1 v2 v3 v5 (1 : Int32) σ else mX9_lock0_b96 rec15 (fun v1 v2 v3 v4 v5 σ => mX9_lock0_l51 rec15 d v1 v2 v3 v4 v5 σ) v1 v2 v3 v5 (0 : Int32) σ))))) = some r := h
    refine aw_iload C dX9_lock0_51 rfl ?_
    refine aw_iload_n C dX9_lock0_53 rfl ?_
    refine aw_icmp_ge C 104 dX9_lock0_54 (by decide) (fun q => ?_) (fun q => ?_)
    · rw [if_pos q] at h
      refine aw_fl [some (.ref 181), some (.int v1), some (.int v2), some (.int v3), some (.int v4), none] ⟨rfl, ⟨rfl, ⟨rfl, ⟨rfl, ⟨rfl, trivial⟩⟩⟩⟩⟩ ?_
      exact rmX9_lock0_b104 C Hr15 h
    · rw [if_neg q] at h
      refine aw_iload C dX9_lock0_57 rfl ?_
      refine aw_if_eq C 104 dX9_lock0_59 (by decide) (fun q => ?_) (fun q => ?_)
      · rw [if_pos q] at h
        refine aw_fl [some (.ref 181), some (.int v1), some (.int v2), some (.int v3), some (.int v4), none] ⟨rfl, ⟨rfl, ⟨rfl, ⟨rfl, ⟨rfl, trivial⟩⟩⟩⟩⟩ ?_
        exact rmX9_lock0_b104 C Hr15 h
      · rw [if_neg q] at h
        refine aw_ald_n C dX9_lock0_62 rfl ?_
        refine aw_get C (v := .ref (rAid 1)) gf_X9_7 (hm_M f σ) rfl dX9_lock0_63 ?_
        refine aw_bipush C 6 dX9_lock0_66 kb_6 ?_
        refine aw_bipush C 9 dX9_lock0_68 kb_9 ?_
        refine aw_iload_n C dX9_lock0_70 rfl ?_
        refine aw_imul C dX9_lock0_71 ?_
        refine aw_iadd C dX9_lock0_72 ?_
        refine aw_iconst C 1 dX9_lock0_73 ki_1 ?_
        refine aw_iadd C dX9_lock0_74 ?_
        refine aw_iload C dX9_lock0_75 rfl ?_
        refine aw_iadd C dX9_lock0_77 ?_
        obtain ⟨hb1, h⟩ := ck_some h
        refine am_iald C (rGa σ 1 ((((6 : Int32) + ((9 : Int32) * v3)) + (1 : Int32)) + v5)) rfl (inb_vp hb1) rfl dX9_lock0_78 ?_
        refine aw_ald_n C dX9_lock0_79 rfl ?_
        refine aw_get C (v := .ref (rAid 8)) gf_X9_23 (hm_M f σ) rfl dX9_lock0_80 ?_
        refine aw_iload_n C dX9_lock0_83 rfl ?_
        refine aw_iload C dX9_lock0_84 rfl ?_
        refine aw_iadd C dX9_lock0_86 ?_
        obtain ⟨hb2, h⟩ := ck_some h
        refine am_iald C (rGa σ 8 (v1 + v5)) rfl (inb_vp hb2) rfl dX9_lock0_87 ?_
        refine aw_icmp_ne C 95 dX9_lock0_88 (by decide) (fun q => ?_) (fun q => ?_)
        · rw [if_neg q] at h
          refine aw_iconst C 0 dX9_lock0_95 ki_0 ?_
          refine aw_fl [some (.ref 181), some (.int v1), some (.int v2), some (.int v3), none, some (.int v5)] ⟨rfl, ⟨rfl, ⟨rfl, ⟨rfl, ⟨rfl, trivial⟩⟩⟩⟩⟩ ?_
          exact rmX9_lock0_b96 C Hr15 (fun v1 v2 v3 v4 v5 σ h => ih v1 v2 v3 v4 v5 σ h) h
        · rw [if_pos q] at h
          refine aw_iconst C 1 dX9_lock0_91 ki_1 ?_
          refine aw_goto C 96 dX9_lock0_92 (by decide) ?_
          refine aw_fl [some (.ref 181), some (.int v1), some (.int v2), some (.int v3), none, some (.int v5)] ⟨rfl, ⟨rfl, ⟨rfl, ⟨rfl, ⟨rfl, trivial⟩⟩⟩⟩⟩ ?_
          exact rmX9_lock0_b96 C Hr15 (fun v1 v2 v3 v4 v5 σ h => ih v1 v2 v3 v4 v5 σ h) h
def mX9_lock0_b46 (rec15 : Int32 → Int32 → Int32 → RS9 → Option (Int32 × RS9)) (v1 : Int32) (v2 : Int32) (v3 : Int32) (s0 : Int32) (σ : RS9) : Option (Int32 × RS9) := mX9_lock0_l51 rec15 rFU v1 v2 v3 s0 (0 : Int32) σ
set_option maxHeartbeats 1000000 in
theorem rmX9_lock0_b46 {X : GX} {p : Program} {l : Launch} {e : Env} {s : State} {m : MethodId} {args : Array Value} {below : List Frame} {meth : Method} {c : Code} {f : AH} {n : Nat} {r : Int32 × RS9} {rec15 : Int32 → Int32 → Int32 → RS9 → Option (Int32 × RS9)} {v1 : Int32} {v2 : Int32} {v3 : Int32} {s0 : Int32} {σ : RS9} (C : CC X p l (RM 10 0 0) s m args meth c RX9 cX9_lock0 6 (some .int)) (Hr15 : ∀ (v1 : Int32) (v2 : Int32) (v3 : Int32) (σ : RS9), rec15 v1 v2 v3 σ = some r → AW X p l e (RM 10 0 0) s m args below meth c 6 (ZM X below args s 0 0 (QMi f n r)) (rHm f σ) n 0 0 15 [some (.ref 181), some (.int v1), some (.int v2), some (.int v3), none, none] []) (h : mX9_lock0_b46 rec15 v1 v2 v3 s0 σ = some r) : AW X p l e (RM 10 0 0) s m args below meth c 6 (ZM X below args s 0 0 (QMi f n r)) (rHm f σ) n 0 0 46 [some (.ref 181), some (.int v1), some (.int v2), some (.int v3), none, none] [.int s0] := by
  have h : mX9_lock0_l51 rec15 rFU v1 v2 v3 s0 (0 : Int32) σ = some r := h
  refine aw_istore C dX9_lock0_46 (by decide) rfl ?_
  refine aw_nl [some (.ref 181), some (.int v1), some (.int v2), some (.int v3), some (.int s0), none] rfl ?_
  refine aw_iconst C 0 dX9_lock0_48 ki_0 ?_
  refine aw_istore C dX9_lock0_49 (by decide) rfl ?_
  refine aw_nl [some (.ref 181), some (.int v1), some (.int v2), some (.int v3), some (.int s0), some (.int (0 : Int32))] rfl ?_
  refine aw_fl [some (.ref 181), some (.int v1), some (.int v2), some (.int v3), some (.int s0), some (.int (0 : Int32))] ⟨rfl, ⟨rfl, ⟨rfl, ⟨rfl, ⟨rfl, ⟨rfl, trivial⟩⟩⟩⟩⟩⟩ ?_
  exact rmX9_lock0_l51 C Hr15 rFU v1 v2 v3 s0 (0 : Int32) σ h
def mX9_lock0_l15 : Nat → Int32 → Int32 → Int32 → RS9 → Option (Int32 × RS9)
  | 0, _, _, _, _ => none
  | d + 1, v1, v2, v3, σ => rCk (rIn (5 : Int32) (rLen 1)) ((if (rGa σ 1 (5 : Int32)) ≤ v3 then rCk (rIn (5 : Int32) (rLen 1)) (rCk (rIn ((6 : Int32) + ((9 : Int32) * (rGa σ 1 (5 : Int32)))) (rLen 1)) (mX9_lock0_l141 rFU v1 v2 ((6 : Int32) + ((9 : Int32) * (rGa σ 1 (5 : Int32)))) (0 : Int32) (rSa σ 1 ((6 : Int32) + ((9 : Int32) * (rGa σ 1 (5 : Int32)))) v2))) else rCk (rIn ((6 : Int32) + ((9 : Int32) * v3)) (rLen 1)) ((if (rGa σ 1 ((6 : Int32) + ((9 : Int32) * v3))) = v2 then mX9_lock0_b46 (fun v1 v2 v3 σ => mX9_lock0_l15 d v1 v2 v3 σ) v1 v2 v3 (1 : Int32) σ else mX9_lock0_b46 (fun v1 v2 v3 σ => mX9_lock0_l15 d v1 v2 v3 σ) v1 v2 v3 (0 : Int32) σ))))
set_option maxHeartbeats 1000000 in
theorem rmX9_lock0_l15 {X : GX} {p : Program} {l : Launch} {e : Env} {s : State} {m : MethodId} {args : Array Value} {below : List Frame} {meth : Method} {c : Code} {f : AH} {n : Nat} {r : Int32 × RS9} (C : CC X p l (RM 10 0 0) s m args meth c RX9 cX9_lock0 6 (some .int)) : ∀ (d : Nat) (v1 : Int32) (v2 : Int32) (v3 : Int32) (σ : RS9) (_ : mX9_lock0_l15 d v1 v2 v3 σ = some r), AW X p l e (RM 10 0 0) s m args below meth c 6 (ZM X below args s 0 0 (QMi f n r)) (rHm f σ) n 0 0 15 [some (.ref 181), some (.int v1), some (.int v2), some (.int v3), none, none] [] := by
  intro d
  induction d with
  | zero =>
    intro v1 v2 v3 σ h
    exact nomatch (show (none : Option (Int32 × RS9)) = some r from h)
  | succ d ih =>
    intro v1 v2 v3 σ h
    have h : rCk (rIn (5 : Int32) (rLen 1)) ((if (rGa σ 1 (5 : Int32)) ≤ v3 then rCk (rIn (5 : Int32) (rLen 1)) (rCk (rIn ((6 : Int32) + ((9 : Int32) * (rGa σ 1 (5 : Int32)))) (rLen 1)) (mX9_lock0_l141 rFU v1 v2 ((6 : Int32) + ((9 : Int32) * (rGa σ 1 (5 : Int32)))) (0 : Int32) (rSa σ 1 ((6 : Int32) + ((9 : Int32) * (rGa σ 1 (5 : Int32)))) v2))) else rCk (rIn ((6 : Int32) + ((9 : Int32) * v3)) (rLen 1)) ((if (rGa σ 1 ((6 : Int32) + ((9 : Int32) * v3))) = v2 then mX9_lock0_b46 (fun v1 v2 v3 σ => mX9_lock0_l15 d v1 v2 v3 σ) v1 v2 v3 (1 : Int32) σ else mX9_lock0_b46 (fun v1 v2 v3 σ => mX9_lock0_l15 d v1 v2 v3 σ) v1 v2 v3 (0 : Int32) σ)))) = some r := h
    refine aw_iload_n C dX9_lock0_15 rfl ?_
    refine aw_ald_n C dX9_lock0_16 rfl ?_
    refine aw_get C (v := .ref (rAid 1)) gf_X9_7 (hm_M f σ) rfl dX9_lock0_17 ?_
    refine aw_iconst C 5 dX9_lock0_20 ki_5 ?_
    obtain ⟨hb1, h⟩ := ck_some h
    refine am_iald C (rGa σ 1 (5 : Int32)) rfl (inb_vp hb1) rfl dX9_lock0_21 ?_
    refine aw_icmp_ge C 118 dX9_lock0_22 (by decide) (fun q => ?_) (fun q => ?_)
    · rw [if_pos q] at h
      refine aw_bipush C 6 dX9_lock0_118 kb_6 ?_
      refine aw_bipush C 9 dX9_lock0_120 kb_9 ?_
      refine aw_ald_n C dX9_lock0_122 rfl ?_
      refine aw_get C (v := .ref (rAid 1)) gf_X9_7 (hm_M f σ) rfl dX9_lock0_123 ?_
      refine aw_iconst C 5 dX9_lock0_126 ki_5 ?_
      obtain ⟨hb2, h⟩ := ck_some h
      refine am_iald C (rGa σ 1 (5 : Int32)) rfl (inb_vp hb2) rfl dX9_lock0_127 ?_
      refine aw_imul C dX9_lock0_128 ?_
      refine aw_iadd C dX9_lock0_129 ?_
      refine aw_istore_n C dX9_lock0_130 (by decide) rfl ?_
      refine aw_nl [some (.ref 181), some (.int v1), some (.int v2), some (.int ((6 : Int32) + ((9 : Int32) * (rGa σ 1 (5 : Int32))))), none, none] rfl ?_
      refine aw_ald_n C dX9_lock0_131 rfl ?_
      refine aw_get C (v := .ref (rAid 1)) gf_X9_7 (hm_M f σ) rfl dX9_lock0_132 ?_
      refine aw_iload_n C dX9_lock0_135 rfl ?_
      refine aw_iload_n C dX9_lock0_136 rfl ?_
      obtain ⟨hb3, h⟩ := ck_some h
      refine am_iast C rfl (inb_vp hb3) dX9_lock0_137 ?_
      refine aw_iconst C 0 dX9_lock0_138 ki_0 ?_
      refine aw_istore C dX9_lock0_139 (by decide) rfl ?_
      refine aw_nl [some (.ref 181), some (.int v1), some (.int v2), some (.int ((6 : Int32) + ((9 : Int32) * (rGa σ 1 (5 : Int32))))), some (.int (0 : Int32)), none] rfl ?_
      refine aw_fl [some (.ref 181), some (.int v1), some (.int v2), some (.int ((6 : Int32) + ((9 : Int32) * (rGa σ 1 (5 : Int32))))), some (.int (0 : Int32)), none] ⟨rfl, ⟨rfl, ⟨rfl, ⟨rfl, ⟨rfl, trivial⟩⟩⟩⟩⟩ ?_
      exact rmX9_lock0_l141 C rFU v1 v2 ((6 : Int32) + ((9 : Int32) * (rGa σ 1 (5 : Int32)))) (0 : Int32) (rSa σ 1 ((6 : Int32) + ((9 : Int32) * (rGa σ 1 (5 : Int32)))) v2) h
    · rw [if_neg q] at h
      refine aw_ald_n C dX9_lock0_25 rfl ?_
      refine aw_get C (v := .ref (rAid 1)) gf_X9_7 (hm_M f σ) rfl dX9_lock0_26 ?_
      refine aw_bipush C 6 dX9_lock0_29 kb_6 ?_
      refine aw_bipush C 9 dX9_lock0_31 kb_9 ?_
      refine aw_iload_n C dX9_lock0_33 rfl ?_
      refine aw_imul C dX9_lock0_34 ?_
      refine aw_iadd C dX9_lock0_35 ?_
      obtain ⟨hb4, h⟩ := ck_some h
      refine am_iald C (rGa σ 1 ((6 : Int32) + ((9 : Int32) * v3))) rfl (inb_vp hb4) rfl dX9_lock0_36 ?_
      refine aw_iload_n C dX9_lock0_37 rfl ?_
      refine aw_icmp_ne C 45 dX9_lock0_38 (by decide) (fun q => ?_) (fun q => ?_)
      · rw [if_neg q] at h
        refine aw_iconst C 0 dX9_lock0_45 ki_0 ?_
        refine aw_fl [some (.ref 181), some (.int v1), some (.int v2), some (.int v3), none, none] ⟨rfl, ⟨rfl, ⟨rfl, ⟨rfl, trivial⟩⟩⟩⟩ ?_
        exact rmX9_lock0_b46 C (fun v1 v2 v3 σ h => ih v1 v2 v3 σ h) h
      · rw [if_pos q] at h
        refine aw_iconst C 1 dX9_lock0_41 ki_1 ?_
        refine aw_goto C 46 dX9_lock0_42 (by decide) ?_
        refine aw_fl [some (.ref 181), some (.int v1), some (.int v2), some (.int v3), none, none] ⟨rfl, ⟨rfl, ⟨rfl, ⟨rfl, trivial⟩⟩⟩⟩ ?_
        exact rmX9_lock0_b46 C (fun v1 v2 v3 σ h => ih v1 v2 v3 σ h) h
def mX9_lock0 (v1 : Int32) (v2 : Int32) (σ : RS9) : Option (Int32 × RS9) := rCk (rIn (5 : Int32) (rLen 1)) ((if (rGa σ 1 (5 : Int32)) = (4 : Int32) then some ((6 : Int32), σ) else mX9_lock0_l15 rFU v1 v2 (0 : Int32) σ))
set_option maxHeartbeats 1000000 in
theorem rmX9_lock0 {X : GX} {l : Launch} {f : AH} {n : Nat} {r : Int32 × RS9} {v1 : Int32} {v2 : Int32} {σ : RS9} (h : mX9_lock0 v1 v2 σ = some r) : AM X l yX9_lock0 cX9_lock0 6 (some .int) 10 0 0 [.ref 181, .int v1, .int v2] (rHm f σ) n (QMi f n r) := by
  have h : rCk (rIn (5 : Int32) (rLen 1)) ((if (rGa σ 1 (5 : Int32)) = (4 : Int32) then some ((6 : Int32), σ) else mX9_lock0_l15 rFU v1 v2 (0 : Int32) σ)) = some r := h
  refine AM.of (by decide +kernel) rfl (Nat.le_of_ble_eq_true rfl) (fun p e s m args below meth c C _ => ?_)
  refine aw_nl [some (.ref 181), some (.int v1), some (.int v2), none, none, none] rfl ?_
  refine aw_ald_n C dX9_lock0_0 rfl ?_
  refine aw_get C (v := .ref (rAid 1)) gf_X9_7 (hm_M f σ) rfl dX9_lock0_1 ?_
  refine aw_iconst C 5 dX9_lock0_4 ki_5 ?_
  obtain ⟨hb1, h⟩ := ck_some h
  refine am_iald C (rGa σ 1 (5 : Int32)) rfl (inb_vp hb1) rfl dX9_lock0_5 ?_
  refine aw_iconst C 4 dX9_lock0_6 ki_4 ?_
  refine aw_icmp_ne C 13 dX9_lock0_7 (by decide) (fun q => ?_) (fun q => ?_)
  · rw [if_neg q] at h
    refine aw_iconst C 0 dX9_lock0_13 ki_0 ?_
    refine aw_istore_n C dX9_lock0_14 (by decide) rfl ?_
    refine aw_nl [some (.ref 181), some (.int v1), some (.int v2), some (.int (0 : Int32)), none, none] rfl ?_
    refine aw_fl [some (.ref 181), some (.int v1), some (.int v2), some (.int (0 : Int32)), none, none] ⟨rfl, ⟨rfl, ⟨rfl, ⟨rfl, trivial⟩⟩⟩⟩ ?_
    exact rmX9_lock0_l15 C rFU v1 v2 (0 : Int32) σ h
  · rw [if_pos q] at h
    refine aw_bipush C 6 dX9_lock0_10 kb_6 ?_
    cases h
    exact aw_iret C rfl rfl dX9_lock0_12 (Nat.le_refl _) (Nat.le_refl _) ⟨rfl, rfl, rfl⟩
def mX9_lockText_b30 (v1 : Int32) (v2 : Int32) (σ : RS9) : Option (Int32 × RS9) := (if (σ.1 12) = (-1 : Int32) then ((mX9_lock0 (σ.1 11) v2 (rSf σ 11 v1)).bind fun r1 => some (r1.1, r1.2)) else some ((0 : Int32), σ))
set_option maxHeartbeats 1000000 in
theorem rmX9_lockText_b30 {X : GX} {p : Program} {l : Launch} {e : Env} {s : State} {m : MethodId} {args : Array Value} {below : List Frame} {meth : Method} {c : Code} {f : AH} {n : Nat} {r : Int32 × RS9} {v1 : Int32} {v2 : Int32} {σ : RS9} (C : CC X p l (RM 11 0 0) s m args meth c RX9 cX9_lockText 4 (some .int)) (h : mX9_lockText_b30 v1 v2 σ = some r) : AW X p l e (RM 11 0 0) s m args below meth c 4 (ZM X below args s 0 0 (QMi f n r)) (rHm f σ) n 0 0 30 [some (.ref 181), some (.int v1), some (.int v2), none] [] := by
  have h : (if (σ.1 12) = (-1 : Int32) then ((mX9_lock0 (σ.1 11) v2 (rSf σ 11 v1)).bind fun r1 => some (r1.1, r1.2)) else some ((0 : Int32), σ)) = some r := h
  refine aw_ald_n C dX9_lockText_30 rfl ?_
  refine aw_get C (v := .int (σ.1 12)) gf_X9_26 (hm_M f σ) rfl dX9_lockText_31 ?_
  refine aw_iconst C (-1) dX9_lockText_34 ki_m1 ?_
  refine aw_icmp_eq C 40 dX9_lockText_35 (by decide) (fun q => ?_) (fun q => ?_)
  · rw [if_pos q] at h
    refine aw_ald_n C dX9_lockText_40 rfl ?_
    refine aw_get C (v := .int (σ.1 11)) gf_X9_340 (hm_M f σ) rfl dX9_lockText_41 ?_
    refine aw_istore_n C dX9_lockText_44 (by decide) rfl ?_
    refine aw_nl [some (.ref 181), some (.int v1), some (.int v2), some (.int (σ.1 11))] rfl ?_
    refine aw_ald_n C dX9_lockText_45 rfl ?_
    refine aw_iload_n C dX9_lockText_46 rfl ?_
    refine am_put C gf_X9_340 nf9_11 rfl rfl dX9_lockText_47 ?_
    refine aw_ald_n C dX9_lockText_50 rfl ?_
    refine aw_iload_n C dX9_lockText_51 rfl ?_
    refine aw_iload_n C dX9_lockText_52 rfl ?_
    obtain ⟨r1, h1, h⟩ := Option.bind_eq_some_iff.mp h
    refine aw_callV C (ci := 9) (b := 181) [.int (σ.1 11), .int v2] mv_X9_355 rfl rfl (hm_M f (rSf σ 11 v1)) (rmX9_lock0 h1) rfl dX9_lockText_53 (Nat.le_of_ble_eq_true rfl) (Nat.le_of_ble_eq_true rfl) rfl (Nat.le_of_ble_eq_true rfl) (Nat.le_of_ble_eq_true rfl) (Nat.le_of_ble_eq_true rfl) (fun v9 f9 n9 hh => ?_)
    obtain ⟨rfl, rfl, rfl⟩ := hh
    cases h
    exact aw_iret C rfl rfl dX9_lockText_56 (Nat.le_refl _) (Nat.le_refl _) ⟨rfl, rfl, rfl⟩
  · rw [if_neg q] at h
    refine aw_iconst C 0 dX9_lockText_38 ki_0 ?_
    cases h
    exact aw_iret C rfl rfl dX9_lockText_39 (Nat.le_refl _) (Nat.le_refl _) ⟨rfl, rfl, rfl⟩
def mX9_lockText (σ : RS9) : Option (Int32 × RS9) := ((mX9_wordEnd σ).bind fun r1 => ((mX9_isIn (r1.1 - (r1.2.1 11)) (1 : Int32) (8 : Int32) r1.2).bind fun r2 => (if r2.1 = (0 : Int32) then ((mX9_wrong (r2.2.1 11) r2.2).bind fun r3 => mX9_lockText_b30 r1.1 (r1.1 - (r1.2.1 11)) r3.2) else mX9_lockText_b30 r1.1 (r1.1 - (r1.2.1 11)) r2.2)))
set_option maxHeartbeats 1000000 in
theorem rmX9_lockText {X : GX} {l : Launch} {f : AH} {n : Nat} {r : Int32 × RS9} {σ : RS9} (h : mX9_lockText σ = some r) : AM X l yX9_lockText cX9_lockText 4 (some .int) 11 0 0 [.ref 181] (rHm f σ) n (QMi f n r) := by
  have h : ((mX9_wordEnd σ).bind fun r1 => ((mX9_isIn (r1.1 - (r1.2.1 11)) (1 : Int32) (8 : Int32) r1.2).bind fun r2 => (if r2.1 = (0 : Int32) then ((mX9_wrong (r2.2.1 11) r2.2).bind fun r3 => mX9_lockText_b30 r1.1 (r1.1 - (r1.2.1 11)) r3.2) else mX9_lockText_b30 r1.1 (r1.1 - (r1.2.1 11)) r2.2))) = some r := h
  refine AM.of (by decide +kernel) rfl (Nat.le_of_ble_eq_true rfl) (fun p e s m args below meth c C _ => ?_)
  refine aw_nl [some (.ref 181), none, none, none] rfl ?_
  refine aw_ald_n C dX9_lockText_0 rfl ?_
  obtain ⟨r1, h1, h⟩ := Option.bind_eq_some_iff.mp h
  refine aw_callV C (ci := 9) (b := 181) [] mv_X9_349 rfl rfl (hm_M f σ) (rmX9_wordEnd h1) rfl dX9_lockText_1 (Nat.le_of_ble_eq_true rfl) (Nat.le_of_ble_eq_true rfl) rfl (Nat.le_of_ble_eq_true rfl) (Nat.le_of_ble_eq_true rfl) (Nat.le_of_ble_eq_true rfl) (fun v9 f9 n9 hh => ?_)
  obtain ⟨rfl, rfl, rfl⟩ := hh
  refine aw_istore_n C dX9_lockText_4 (by decide) rfl ?_
  refine aw_nl [some (.ref 181), some (.int r1.1), none, none] rfl ?_
  refine aw_iload_n C dX9_lockText_5 rfl ?_
  refine aw_ald_n C dX9_lockText_6 rfl ?_
  refine aw_get C (v := .int (r1.2.1 11)) gf_X9_340 (hm_M f r1.2) rfl dX9_lockText_7 ?_
  refine aw_isub C dX9_lockText_10 ?_
  refine aw_istore_n C dX9_lockText_11 (by decide) rfl ?_
  refine aw_nl [some (.ref 181), some (.int r1.1), some (.int (r1.1 - (r1.2.1 11))), none] rfl ?_
  refine aw_iload_n C dX9_lockText_12 rfl ?_
  refine aw_iconst C 1 dX9_lockText_13 ki_1 ?_
  refine aw_bipush C 8 dX9_lockText_14 kb_8 ?_
  obtain ⟨r2, h2, h⟩ := Option.bind_eq_some_iff.mp h
  refine aw_callS C [.int (r1.1 - (r1.2.1 11)), .int (1 : Int32), .int (8 : Int32)] ms_X9_141 (rmX9_isIn h2) rfl dX9_lockText_16 (Nat.le_of_ble_eq_true rfl) (Nat.le_of_ble_eq_true rfl) rfl (Nat.le_of_ble_eq_true rfl) (Nat.le_of_ble_eq_true rfl) (Nat.le_of_ble_eq_true rfl) (fun v9 f9 n9 hh => ?_)
  obtain ⟨rfl, rfl, rfl⟩ := hh
  refine aw_if_ne C 30 dX9_lockText_19 (by decide) (fun q => ?_) (fun q => ?_)
  · rw [if_neg q] at h
    refine aw_fl [some (.ref 181), some (.int r1.1), some (.int (r1.1 - (r1.2.1 11))), none] ⟨rfl, ⟨rfl, ⟨rfl, trivial⟩⟩⟩ ?_
    exact rmX9_lockText_b30 C h
  · rw [if_pos q] at h
    refine aw_ald_n C dX9_lockText_22 rfl ?_
    refine aw_ald_n C dX9_lockText_23 rfl ?_
    refine aw_get C (v := .int (r2.2.1 11)) gf_X9_340 (hm_M f r2.2) rfl dX9_lockText_24 ?_
    obtain ⟨r3, h3, h⟩ := Option.bind_eq_some_iff.mp h
    refine aw_callV C (ci := 9) (b := 181) [.int (r2.2.1 11)] mv_X9_352 rfl rfl (hm_M f r2.2) (rmX9_wrong h3) rfl dX9_lockText_27 (Nat.le_of_ble_eq_true rfl) (Nat.le_of_ble_eq_true rfl) rfl (Nat.le_of_ble_eq_true rfl) (Nat.le_of_ble_eq_true rfl) (Nat.le_of_ble_eq_true rfl) (fun v9 f9 n9 hh => ?_)
    obtain ⟨rfl, rfl, rfl⟩ := hh
    refine aw_fl [some (.ref 181), some (.int r1.1), some (.int (r1.1 - (r1.2.1 11))), none] ⟨rfl, ⟨rfl, ⟨rfl, trivial⟩⟩⟩ ?_
    exact rmX9_lockText_b30 C h
def mX9_unlocks (σ : RS9) : Option (Int32 × RS9) := rCk (rIn (5 : Int32) (rLen 1)) (((mX9_cutsAnew (rSa σ 1 (5 : Int32) (0 : Int32))).bind fun r2 => some ((0 : Int32), r2.2)))
set_option maxHeartbeats 1000000 in
theorem rmX9_unlocks {X : GX} {l : Launch} {f : AH} {n : Nat} {r : Int32 × RS9} {σ : RS9} (h : mX9_unlocks σ = some r) : AM X l yX9_unlocks cX9_unlocks 1 (some .int) 10 0 0 [.ref 181] (rHm f σ) n (QMi f n r) := by
  have h : rCk (rIn (5 : Int32) (rLen 1)) (((mX9_cutsAnew (rSa σ 1 (5 : Int32) (0 : Int32))).bind fun r2 => some ((0 : Int32), r2.2))) = some r := h
  refine AM.of (by decide +kernel) rfl (Nat.le_of_ble_eq_true rfl) (fun p e s m args below meth c C _ => ?_)
  refine aw_nl [some (.ref 181)] rfl ?_
  refine aw_ald_n C dX9_unlocks_0 rfl ?_
  refine aw_get C (v := .ref (rAid 1)) gf_X9_7 (hm_M f σ) rfl dX9_unlocks_1 ?_
  refine aw_iconst C 5 dX9_unlocks_4 ki_5 ?_
  refine aw_iconst C 0 dX9_unlocks_5 ki_0 ?_
  obtain ⟨hb1, h⟩ := ck_some h
  refine am_iast C rfl (inb_vp hb1) dX9_unlocks_6 ?_
  refine aw_ald_n C dX9_unlocks_7 rfl ?_
  obtain ⟨r2, h2, h⟩ := Option.bind_eq_some_iff.mp h
  refine aw_callV C (ci := 9) (b := 181) [] mv_X9_322 rfl rfl (hm_M f (rSa σ 1 (5 : Int32) (0 : Int32))) (rmX9_cutsAnew h2) rfl dX9_unlocks_8 (Nat.le_of_ble_eq_true rfl) (Nat.le_of_ble_eq_true rfl) rfl (Nat.le_of_ble_eq_true rfl) (Nat.le_of_ble_eq_true rfl) (Nat.le_of_ble_eq_true rfl) (fun v9 f9 n9 hh => ?_)
  obtain ⟨rfl, rfl, rfl⟩ := hh
  refine aw_iconst C 0 dX9_unlocks_11 ki_0 ?_
  cases h
  exact aw_iret C rfl rfl dX9_unlocks_12 (Nat.le_refl _) (Nat.le_refl _) ⟨rfl, rfl, rfl⟩
def mX9_word_l2 : Nat → Nat → Nat → Int32 → RS9 → Option (Int32 × RS9)
  | 0, _, _, _, _ => none
  | d + 1, v1, v2, v3, σ => (if (strL v2) ≤ v3 then some ((0 : Int32), (rSf σ 56 ((σ.1 56) + (strL v2)))) else rCk (rIn v3 (sL9.getD v2 0)) (rCk (rIn ((σ.1 56) + v3) (rLen v1)) (mX9_word_l2 d v1 v2 (v3 + (1 : Int32)) (rSa σ v1 ((σ.1 56) + v3) (strC v2 v3)))))
set_option maxHeartbeats 1000000 in
theorem rmX9_word_l2 {X : GX} {p : Program} {l : Launch} {e : Env} {s : State} {m : MethodId} {args : Array Value} {below : List Frame} {meth : Method} {c : Code} {f : AH} {n : Nat} {r : Int32 × RS9} (C : CC X p l (RM 4 0 0) s m args meth c RX9 cX9_word 4 none) : ∀ (d : Nat) (v1 : Nat) (v2 : Nat) (v3 : Int32) (σ : RS9) (_ : rIsA v1 = true) (_ : v2 < 15) (_ : mX9_word_l2 d v1 v2 v3 σ = some r), AW X p l e (RM 4 0 0) s m args below meth c 4 (ZM X below args s 0 0 (QMv f n r)) (rHm f σ) n 0 0 2 [some (.ref 181), some (.ref (rAid v1)), some (.retAddr (X.2.2 (1000 + v2))), some (.int v3)] [] := by
  intro d
  induction d with
  | zero =>
    intro v1 v2 v3 σ ia1 is2 h
    exact nomatch (show (none : Option (Int32 × RS9)) = some r from h)
  | succ d ih =>
    intro v1 v2 v3 σ ia1 is2 h
    have h : (if (strL v2) ≤ v3 then some ((0 : Int32), (rSf σ 56 ((σ.1 56) + (strL v2)))) else rCk (rIn v3 (sL9.getD v2 0)) (rCk (rIn ((σ.1 56) + v3) (rLen v1)) (mX9_word_l2 d v1 v2 (v3 + (1 : Int32)) (rSa σ v1 ((σ.1 56) + v3) (strC v2 v3))))) = some r := h
    refine aw_iload_n C dX9_word_2 rfl ?_
    refine aw_raw_n C dX9_word_3 rfl ?_
    refine am_slen C is2 dX9_word_4 (Nat.le_of_ble_eq_true rfl) (Nat.le_of_ble_eq_true rfl) (Nat.le_of_ble_eq_true rfl) (Nat.le_of_ble_eq_true rfl) (Nat.le_of_ble_eq_true rfl) ?_
    refine aw_icmp_ge C 29 dX9_word_7 (by decide) (fun q => ?_) (fun q => ?_)
    · rw [if_pos q] at h
      refine aw_ald_n C dX9_word_29 rfl ?_
      refine aw_dup C dX9_word_30 rfl ?_
      refine aw_get C (v := .int (σ.1 56)) gf_X9_254 (hm_M f σ) rfl dX9_word_31 ?_
      refine aw_raw_n C dX9_word_34 rfl ?_
      refine am_slen C is2 dX9_word_35 (Nat.le_of_ble_eq_true rfl) (Nat.le_of_ble_eq_true rfl) (Nat.le_of_ble_eq_true rfl) (Nat.le_of_ble_eq_true rfl) (Nat.le_of_ble_eq_true rfl) ?_
      refine aw_iadd C dX9_word_38 ?_
      refine am_put C gf_X9_254 nf9_56 rfl rfl dX9_word_39 ?_
      cases h
      exact aw_vret C rfl dX9_word_42 (Nat.le_refl _) (Nat.le_refl _) ⟨rfl, rfl, rfl⟩
    · rw [if_neg q] at h
      refine aw_ald_n C dX9_word_10 rfl ?_
      refine aw_ald_n C dX9_word_11 rfl ?_
      refine aw_get C (v := .int (σ.1 56)) gf_X9_254 (hm_M f σ) rfl dX9_word_12 ?_
      refine aw_iload_n C dX9_word_15 rfl ?_
      refine aw_iadd C dX9_word_16 ?_
      refine aw_raw_n C dX9_word_17 rfl ?_
      refine aw_iload_n C dX9_word_18 rfl ?_
      obtain ⟨hb4, h⟩ := ck_some h
      refine am_schr C is2 hb4 dX9_word_19 (Nat.le_of_ble_eq_true rfl) (Nat.le_of_ble_eq_true rfl) (Nat.le_of_ble_eq_true rfl) (Nat.le_of_ble_eq_true rfl) (Nat.le_of_ble_eq_true rfl) ?_
      obtain ⟨hb5, h⟩ := ck_some h
      refine am_iast C ia1 (inb_vp hb5) dX9_word_22 ?_
      refine aw_iinc C (v3 + (1 : Int32)) dX9_word_23 rfl (by rw [ki_1]) (by decide) rfl ?_
      refine aw_nl [some (.ref 181), some (.ref (rAid v1)), some (.retAddr (X.2.2 (1000 + v2))), some (.int (v3 + (1 : Int32)))] rfl ?_
      refine aw_goto C 2 dX9_word_26 (by decide) ?_
      refine aw_fl [some (.ref 181), some (.ref (rAid v1)), some (.retAddr (X.2.2 (1000 + v2))), some (.int (v3 + (1 : Int32)))] ⟨rfl, ⟨rfl, ⟨rfl, ⟨rfl, trivial⟩⟩⟩⟩ ?_
      exact ih v1 v2 (v3 + (1 : Int32)) (rSa σ v1 ((σ.1 56) + v3) (strC v2 v3)) ia1 is2 h
def mX9_word (v1 : Nat) (v2 : Nat) (σ : RS9) : Option (Int32 × RS9) := mX9_word_l2 rFU v1 v2 (0 : Int32) σ
set_option maxHeartbeats 1000000 in
theorem rmX9_word {X : GX} {l : Launch} {f : AH} {n : Nat} {r : Int32 × RS9} {v1 : Nat} {v2 : Nat} {σ : RS9} (ia1 : rIsA v1 = true) (is2 : v2 < 15) (h : mX9_word v1 v2 σ = some r) : AM X l yX9_word cX9_word 4 none 4 0 0 [.ref 181, .ref (rAid v1), .retAddr (X.2.2 (1000 + v2))] (rHm f σ) n (QMv f n r) := by
  have h : mX9_word_l2 rFU v1 v2 (0 : Int32) σ = some r := h
  refine AM.of (by decide +kernel) rfl (Nat.le_of_ble_eq_true rfl) (fun p e s m args below meth c C _ => ?_)
  refine aw_nl [some (.ref 181), some (.ref (rAid v1)), some (.retAddr (X.2.2 (1000 + v2))), none] rfl ?_
  refine aw_iconst C 0 dX9_word_0 ki_0 ?_
  refine aw_istore_n C dX9_word_1 (by decide) rfl ?_
  refine aw_nl [some (.ref 181), some (.ref (rAid v1)), some (.retAddr (X.2.2 (1000 + v2))), some (.int (0 : Int32))] rfl ?_
  refine aw_fl [some (.ref 181), some (.ref (rAid v1)), some (.retAddr (X.2.2 (1000 + v2))), some (.int (0 : Int32))] ⟨rfl, ⟨rfl, ⟨rfl, ⟨rfl, trivial⟩⟩⟩⟩ ?_
  exact rmX9_word_l2 C rFU v1 v2 (0 : Int32) σ ia1 is2 h
def mX9_escapesMarkup_b54 (σ : RS9) : Option (Int32 × RS9) := some ((0 : Int32), σ)
set_option maxHeartbeats 1000000 in
theorem rmX9_escapesMarkup_b54 {X : GX} {p : Program} {l : Launch} {e : Env} {s : State} {m : MethodId} {args : Array Value} {below : List Frame} {meth : Method} {c : Code} {f : AH} {n : Nat} {r : Int32 × RS9} {σ : RS9} (C : CC X p l (RM 5 0 0) s m args meth c RX9 cX9_escapesMarkup 3 none) (h : mX9_escapesMarkup_b54 σ = some r) : AW X p l e (RM 5 0 0) s m args below meth c 3 (ZM X below args s 0 0 (QMv f n r)) (rHm f σ) n 0 0 54 [none, none, none] [] := by
  have h : some ((0 : Int32), σ) = some r := h
  cases h
  exact aw_vret C rfl dX9_escapesMarkup_54 (Nat.le_refl _) (Nat.le_refl _) ⟨rfl, rfl, rfl⟩
def mX9_escapesMarkup (v1 : Nat) (v2 : Int32) (σ : RS9) : Option (Int32 × RS9) := (if v2 = (60 : Int32) then ((mX9_word v1 0 σ).bind fun r4 => mX9_escapesMarkup_b54 r4.2) else (if v2 = (62 : Int32) then ((mX9_word v1 1 σ).bind fun r3 => mX9_escapesMarkup_b54 r3.2) else (if v2 = (38 : Int32) then ((mX9_word v1 2 σ).bind fun r2 => mX9_escapesMarkup_b54 r2.2) else ((mX9_plain v1 v2 σ).bind fun r1 => mX9_escapesMarkup_b54 r1.2))))
set_option maxHeartbeats 1000000 in
theorem rmX9_escapesMarkup {X : GX} {l : Launch} {f : AH} {n : Nat} {r : Int32 × RS9} {v1 : Nat} {v2 : Int32} {σ : RS9} (ia1 : rIsA v1 = true) (h : mX9_escapesMarkup v1 v2 σ = some r) : AM X l yX9_escapesMarkup cX9_escapesMarkup 3 none 5 0 0 [.ref 181, .ref (rAid v1), .int v2] (rHm f σ) n (QMv f n r) := by
  have h : (if v2 = (60 : Int32) then ((mX9_word v1 0 σ).bind fun r4 => mX9_escapesMarkup_b54 r4.2) else (if v2 = (62 : Int32) then ((mX9_word v1 1 σ).bind fun r3 => mX9_escapesMarkup_b54 r3.2) else (if v2 = (38 : Int32) then ((mX9_word v1 2 σ).bind fun r2 => mX9_escapesMarkup_b54 r2.2) else ((mX9_plain v1 v2 σ).bind fun r1 => mX9_escapesMarkup_b54 r1.2)))) = some r := h
  refine AM.of (by decide +kernel) rfl (Nat.le_of_ble_eq_true rfl) (fun p e s m args below meth c C _ => ?_)
  refine aw_nl [some (.ref 181), some (.ref (rAid v1)), some (.int v2)] rfl ?_
  refine aw_iload_n C dX9_escapesMarkup_0 rfl ?_
  refine aw_bipush C 60 dX9_escapesMarkup_1 kb_60 ?_
  refine aw_icmp_ne C 16 dX9_escapesMarkup_3 (by decide) (fun q => ?_) (fun q => ?_)
  · rw [if_neg q] at h
    refine aw_iload_n C dX9_escapesMarkup_16 rfl ?_
    refine aw_bipush C 62 dX9_escapesMarkup_17 kb_62 ?_
    refine aw_icmp_ne C 32 dX9_escapesMarkup_19 (by decide) (fun q => ?_) (fun q => ?_)
    · rw [if_neg q] at h
      refine aw_iload_n C dX9_escapesMarkup_32 rfl ?_
      refine aw_bipush C 38 dX9_escapesMarkup_33 kb_38 ?_
      refine aw_icmp_ne C 48 dX9_escapesMarkup_35 (by decide) (fun q => ?_) (fun q => ?_)
      · rw [if_neg q] at h
        refine aw_ald_n C dX9_escapesMarkup_48 rfl ?_
        refine aw_ald_n C dX9_escapesMarkup_49 rfl ?_
        refine aw_iload_n C dX9_escapesMarkup_50 rfl ?_
        obtain ⟨r1, h1, h⟩ := Option.bind_eq_some_iff.mp h
        refine aw_callV C (ci := 9) (b := 181) [.ref (rAid v1), .int v2] mv_X9_261 rfl rfl (hm_M f σ) (rmX9_plain ia1 h1) rfl dX9_escapesMarkup_51 (Nat.le_of_ble_eq_true rfl) (Nat.le_of_ble_eq_true rfl) rfl (Nat.le_of_ble_eq_true rfl) (Nat.le_of_ble_eq_true rfl) (Nat.le_of_ble_eq_true rfl) (fun v9 f9 n9 hh => ?_)
        obtain ⟨rfl, rfl, rfl⟩ := hh
        refine aw_fl [none, none, none] trivial ?_
        exact rmX9_escapesMarkup_b54 C h
      · rw [if_pos q] at h
        refine aw_ald_n C dX9_escapesMarkup_38 rfl ?_
        refine aw_ald_n C dX9_escapesMarkup_39 rfl ?_
        refine aw_ldcK C (C.2.2.2.2.2.2.1.2.2.2.2.2.2.2.2.1.2 2 (by decide)) dX9_escapesMarkup_40 ?_
        obtain ⟨r2, h2, h⟩ := Option.bind_eq_some_iff.mp h
        refine aw_callV C (ci := 9) (b := 181) [.ref (rAid v1), .retAddr (X.2.2 (1000 + 2))] mv_X9_257 rfl rfl (hm_M f σ) (rmX9_word ia1 (by decide) h2) rfl dX9_escapesMarkup_42 (Nat.le_of_ble_eq_true rfl) (Nat.le_of_ble_eq_true rfl) rfl (Nat.le_of_ble_eq_true rfl) (Nat.le_of_ble_eq_true rfl) (Nat.le_of_ble_eq_true rfl) (fun v9 f9 n9 hh => ?_)
        obtain ⟨rfl, rfl, rfl⟩ := hh
        refine aw_goto C 54 dX9_escapesMarkup_45 (by decide) ?_
        refine aw_fl [none, none, none] trivial ?_
        exact rmX9_escapesMarkup_b54 C h
    · rw [if_pos q] at h
      refine aw_ald_n C dX9_escapesMarkup_22 rfl ?_
      refine aw_ald_n C dX9_escapesMarkup_23 rfl ?_
      refine aw_ldcK C (C.2.2.2.2.2.2.1.2.2.2.2.2.2.2.2.1.2 1 (by decide)) dX9_escapesMarkup_24 ?_
      obtain ⟨r3, h3, h⟩ := Option.bind_eq_some_iff.mp h
      refine aw_callV C (ci := 9) (b := 181) [.ref (rAid v1), .retAddr (X.2.2 (1000 + 1))] mv_X9_257 rfl rfl (hm_M f σ) (rmX9_word ia1 (by decide) h3) rfl dX9_escapesMarkup_26 (Nat.le_of_ble_eq_true rfl) (Nat.le_of_ble_eq_true rfl) rfl (Nat.le_of_ble_eq_true rfl) (Nat.le_of_ble_eq_true rfl) (Nat.le_of_ble_eq_true rfl) (fun v9 f9 n9 hh => ?_)
      obtain ⟨rfl, rfl, rfl⟩ := hh
      refine aw_goto C 54 dX9_escapesMarkup_29 (by decide) ?_
      refine aw_fl [none, none, none] trivial ?_
      exact rmX9_escapesMarkup_b54 C h
  · rw [if_pos q] at h
    refine aw_ald_n C dX9_escapesMarkup_6 rfl ?_
    refine aw_ald_n C dX9_escapesMarkup_7 rfl ?_
    refine aw_ldcK C (C.2.2.2.2.2.2.1.2.2.2.2.2.2.2.2.1.2 0 (by decide)) dX9_escapesMarkup_8 ?_
    obtain ⟨r4, h4, h⟩ := Option.bind_eq_some_iff.mp h
    refine aw_callV C (ci := 9) (b := 181) [.ref (rAid v1), .retAddr (X.2.2 (1000 + 0))] mv_X9_257 rfl rfl (hm_M f σ) (rmX9_word ia1 (by decide) h4) rfl dX9_escapesMarkup_10 (Nat.le_of_ble_eq_true rfl) (Nat.le_of_ble_eq_true rfl) rfl (Nat.le_of_ble_eq_true rfl) (Nat.le_of_ble_eq_true rfl) (Nat.le_of_ble_eq_true rfl) (fun v9 f9 n9 hh => ?_)
    obtain ⟨rfl, rfl, rfl⟩ := hh
    refine aw_goto C 54 dX9_escapesMarkup_13 (by decide) ?_
    refine aw_fl [none, none, none] trivial ?_
    exact rmX9_escapesMarkup_b54 C h
end
/-! part 22cd.ref -/
section
def mX9_escapes_b169 (σ : RS9) : Option (Int32 × RS9) := some ((σ.1 56), σ)
set_option maxHeartbeats 1000000 in
theorem rmX9_escapes_b169 {X : GX} {p : Program} {l : Launch} {e : Env} {s : State} {m : MethodId} {args : Array Value} {below : List Frame} {meth : Method} {c : Code} {f : AH} {n : Nat} {r : Int32 × RS9} {σ : RS9} (C : CC X p l (RM 6 0 0) s m args meth c RX9 cX9_escapes 9 (some .int)) (h : mX9_escapes_b169 σ = some r) : AW X p l e (RM 6 0 0) s m args below meth c 9 (ZM X below args s 0 0 (QMi f n r)) (rHm f σ) n 0 0 169 [some (.ref 181), none, none, none, none, none, none, none, none] [] := by
  have h : some ((σ.1 56), σ) = some r := h
  refine aw_ald_n C dX9_escapes_169 rfl ?_
  refine aw_get C (v := .int (σ.1 56)) gf_X9_254 (hm_M f σ) rfl dX9_escapes_170 ?_
  cases h
  exact aw_iret C rfl rfl dX9_escapes_173 (Nat.le_refl _) (Nat.le_refl _) ⟨rfl, rfl, rfl⟩
def mX9_escapes_b150 (rec47 : Int32 → Int32 → Int32 → Nat → Int32 → Nat → Int32 → Int32 → RS9 → Option (Int32 × RS9)) (v1 : Int32) (v2 : Int32) (v3 : Int32) (v4 : Nat) (v5 : Int32) (v6 : Nat) (v7 : Int32) (v8 : Int32) (σ : RS9) : Option (Int32 × RS9) := rec47 v1 v2 v3 v4 v5 v6 v7 (v8 + (1 : Int32)) σ
set_option maxHeartbeats 1000000 in
theorem rmX9_escapes_b150 {X : GX} {p : Program} {l : Launch} {e : Env} {s : State} {m : MethodId} {args : Array Value} {below : List Frame} {meth : Method} {c : Code} {f : AH} {n : Nat} {r : Int32 × RS9} {rec47 : Int32 → Int32 → Int32 → Nat → Int32 → Nat → Int32 → Int32 → RS9 → Option (Int32 × RS9)} {v1 : Int32} {v2 : Int32} {v3 : Int32} {v4 : Nat} {v5 : Int32} {v6 : Nat} {v7 : Int32} {v8 : Int32} {σ : RS9} (C : CC X p l (RM 6 0 0) s m args meth c RX9 cX9_escapes 9 (some .int)) (Hr47 : ∀ (v1 : Int32) (v2 : Int32) (v3 : Int32) (v4 : Nat) (v5 : Int32) (v6 : Nat) (v7 : Int32) (v8 : Int32) (σ : RS9), rIsA v4 = true → rIsA v6 = true → rec47 v1 v2 v3 v4 v5 v6 v7 v8 σ = some r → AW X p l e (RM 6 0 0) s m args below meth c 9 (ZM X below args s 0 0 (QMi f n r)) (rHm f σ) n 0 0 47 [some (.ref 181), some (.int v1), some (.int v2), some (.int v3), some (.ref (rAid v4)), some (.int v5), some (.ref (rAid v6)), some (.int v7), some (.int v8)] []) (ia4 : rIsA v4 = true) (ia6 : rIsA v6 = true) (h : mX9_escapes_b150 rec47 v1 v2 v3 v4 v5 v6 v7 v8 σ = some r) : AW X p l e (RM 6 0 0) s m args below meth c 9 (ZM X below args s 0 0 (QMi f n r)) (rHm f σ) n 0 0 150 [some (.ref 181), some (.int v1), some (.int v2), some (.int v3), some (.ref (rAid v4)), some (.int v5), some (.ref (rAid v6)), some (.int v7), some (.int v8)] [] := by
  have h : rec47 v1 v2 v3 v4 v5 v6 v7 (v8 + (1 : Int32)) σ = some r := h
  refine aw_iinc C (v8 + (1 : Int32)) dX9_escapes_150 rfl (by rw [ki_1]) (by decide) rfl ?_
  refine aw_nl [some (.ref 181), some (.int v1), some (.int v2), some (.int v3), some (.ref (rAid v4)), some (.int v5), some (.ref (rAid v6)), some (.int v7), some (.int (v8 + (1 : Int32)))] rfl ?_
  refine aw_goto C 47 dX9_escapes_153 (by decide) ?_
  refine aw_fl [some (.ref 181), some (.int v1), some (.int v2), some (.int v3), some (.ref (rAid v4)), some (.int v5), some (.ref (rAid v6)), some (.int v7), some (.int (v8 + (1 : Int32)))] ⟨rfl, ⟨rfl, ⟨rfl, ⟨rfl, ⟨rfl, ⟨rfl, ⟨rfl, ⟨rfl, ⟨rfl, trivial⟩⟩⟩⟩⟩⟩⟩⟩⟩ ?_
  exact Hr47 v1 v2 v3 v4 v5 v6 v7 (v8 + (1 : Int32)) σ ia4 ia6 h
def mX9_escapes_b139 (rec47 : Int32 → Int32 → Int32 → Nat → Int32 → Nat → Int32 → Int32 → RS9 → Option (Int32 × RS9)) (v1 : Int32) (v2 : Int32) (v3 : Int32) (v4 : Nat) (v5 : Int32) (v6 : Nat) (v7 : Int32) (v8 : Int32) (σ : RS9) : Option (Int32 × RS9) := rCk (rIn v8 (rLen v4)) (((mX9_plain v6 (rGa σ v4 v8) σ).bind fun r2 => mX9_escapes_b150 rec47 v1 v2 v3 v4 v5 v6 v7 v8 r2.2))
set_option maxHeartbeats 1000000 in
theorem rmX9_escapes_b139 {X : GX} {p : Program} {l : Launch} {e : Env} {s : State} {m : MethodId} {args : Array Value} {below : List Frame} {meth : Method} {c : Code} {f : AH} {n : Nat} {r : Int32 × RS9} {rec47 : Int32 → Int32 → Int32 → Nat → Int32 → Nat → Int32 → Int32 → RS9 → Option (Int32 × RS9)} {v1 : Int32} {v2 : Int32} {v3 : Int32} {v4 : Nat} {v5 : Int32} {v6 : Nat} {v7 : Int32} {v8 : Int32} {σ : RS9} (C : CC X p l (RM 6 0 0) s m args meth c RX9 cX9_escapes 9 (some .int)) (Hr47 : ∀ (v1 : Int32) (v2 : Int32) (v3 : Int32) (v4 : Nat) (v5 : Int32) (v6 : Nat) (v7 : Int32) (v8 : Int32) (σ : RS9), rIsA v4 = true → rIsA v6 = true → rec47 v1 v2 v3 v4 v5 v6 v7 v8 σ = some r → AW X p l e (RM 6 0 0) s m args below meth c 9 (ZM X below args s 0 0 (QMi f n r)) (rHm f σ) n 0 0 47 [some (.ref 181), some (.int v1), some (.int v2), some (.int v3), some (.ref (rAid v4)), some (.int v5), some (.ref (rAid v6)), some (.int v7), some (.int v8)] []) (ia4 : rIsA v4 = true) (ia6 : rIsA v6 = true) (h : mX9_escapes_b139 rec47 v1 v2 v3 v4 v5 v6 v7 v8 σ = some r) : AW X p l e (RM 6 0 0) s m args below meth c 9 (ZM X below args s 0 0 (QMi f n r)) (rHm f σ) n 0 0 139 [some (.ref 181), some (.int v1), some (.int v2), some (.int v3), some (.ref (rAid v4)), some (.int v5), some (.ref (rAid v6)), some (.int v7), some (.int v8)] [] := by
  have h : rCk (rIn v8 (rLen v4)) (((mX9_plain v6 (rGa σ v4 v8) σ).bind fun r2 => mX9_escapes_b150 rec47 v1 v2 v3 v4 v5 v6 v7 v8 r2.2)) = some r := h
  refine aw_ald_n C dX9_escapes_139 rfl ?_
  refine aw_ald C dX9_escapes_140 rfl ?_
  refine aw_ald C dX9_escapes_142 rfl ?_
  refine aw_iload C dX9_escapes_144 rfl ?_
  obtain ⟨hb1, h⟩ := ck_some h
  refine am_iald C (rGa σ v4 v8) ia4 (inb_vp hb1) rfl dX9_escapes_146 ?_
  obtain ⟨r2, h2, h⟩ := Option.bind_eq_some_iff.mp h
  refine aw_callV C (ci := 9) (b := 181) [.ref (rAid v6), .int (rGa σ v4 v8)] mv_X9_261 rfl rfl (hm_M f σ) (rmX9_plain ia6 h2) rfl dX9_escapes_147 (Nat.le_of_ble_eq_true rfl) (Nat.le_of_ble_eq_true rfl) rfl (Nat.le_of_ble_eq_true rfl) (Nat.le_of_ble_eq_true rfl) (Nat.le_of_ble_eq_true rfl) (fun v9 f9 n9 hh => ?_)
  obtain ⟨rfl, rfl, rfl⟩ := hh
  refine aw_fl [some (.ref 181), some (.int v1), some (.int v2), some (.int v3), some (.ref (rAid v4)), some (.int v5), some (.ref (rAid v6)), some (.int v7), some (.int v8)] ⟨rfl, ⟨rfl, ⟨rfl, ⟨rfl, ⟨rfl, ⟨rfl, ⟨rfl, ⟨rfl, ⟨rfl, trivial⟩⟩⟩⟩⟩⟩⟩⟩⟩ ?_
  exact rmX9_escapes_b150 C Hr47 ia4 ia6 h
def mX9_escapes_b116 (rec47 : Int32 → Int32 → Int32 → Nat → Int32 → Nat → Int32 → Int32 → RS9 → Option (Int32 × RS9)) (v1 : Int32) (v2 : Int32) (v3 : Int32) (v4 : Nat) (v5 : Int32) (v6 : Nat) (v7 : Int32) (v8 : Int32) (σ : RS9) : Option (Int32 × RS9) := rCk (rIn v8 (rLen v4)) ((if (rGa σ v4 v8) = (34 : Int32) then ((mX9_puts v6 (34 : Int32) (34 : Int32) σ).bind fun r2 => mX9_escapes_b150 rec47 v1 v2 v3 v4 v5 v6 v7 v8 r2.2) else mX9_escapes_b139 rec47 v1 v2 v3 v4 v5 v6 v7 v8 σ))
set_option maxHeartbeats 1000000 in
theorem rmX9_escapes_b116 {X : GX} {p : Program} {l : Launch} {e : Env} {s : State} {m : MethodId} {args : Array Value} {below : List Frame} {meth : Method} {c : Code} {f : AH} {n : Nat} {r : Int32 × RS9} {rec47 : Int32 → Int32 → Int32 → Nat → Int32 → Nat → Int32 → Int32 → RS9 → Option (Int32 × RS9)} {v1 : Int32} {v2 : Int32} {v3 : Int32} {v4 : Nat} {v5 : Int32} {v6 : Nat} {v7 : Int32} {v8 : Int32} {σ : RS9} (C : CC X p l (RM 6 0 0) s m args meth c RX9 cX9_escapes 9 (some .int)) (Hr47 : ∀ (v1 : Int32) (v2 : Int32) (v3 : Int32) (v4 : Nat) (v5 : Int32) (v6 : Nat) (v7 : Int32) (v8 : Int32) (σ : RS9), rIsA v4 = true → rIsA v6 = true → rec47 v1 v2 v3 v4 v5 v6 v7 v8 σ = some r → AW X p l e (RM 6 0 0) s m args below meth c 9 (ZM X below args s 0 0 (QMi f n r)) (rHm f σ) n 0 0 47 [some (.ref 181), some (.int v1), some (.int v2), some (.int v3), some (.ref (rAid v4)), some (.int v5), some (.ref (rAid v6)), some (.int v7), some (.int v8)] []) (ia4 : rIsA v4 = true) (ia6 : rIsA v6 = true) (h : mX9_escapes_b116 rec47 v1 v2 v3 v4 v5 v6 v7 v8 σ = some r) : AW X p l e (RM 6 0 0) s m args below meth c 9 (ZM X below args s 0 0 (QMi f n r)) (rHm f σ) n 0 0 116 [some (.ref 181), some (.int v1), some (.int v2), some (.int v3), some (.ref (rAid v4)), some (.int v5), some (.ref (rAid v6)), some (.int v7), some (.int v8)] [] := by
  have h : rCk (rIn v8 (rLen v4)) ((if (rGa σ v4 v8) = (34 : Int32) then ((mX9_puts v6 (34 : Int32) (34 : Int32) σ).bind fun r2 => mX9_escapes_b150 rec47 v1 v2 v3 v4 v5 v6 v7 v8 r2.2) else mX9_escapes_b139 rec47 v1 v2 v3 v4 v5 v6 v7 v8 σ)) = some r := h
  refine aw_ald C dX9_escapes_116 rfl ?_
  refine aw_iload C dX9_escapes_118 rfl ?_
  obtain ⟨hb1, h⟩ := ck_some h
  refine am_iald C (rGa σ v4 v8) ia4 (inb_vp hb1) rfl dX9_escapes_120 ?_
  refine aw_bipush C 34 dX9_escapes_121 kb_34 ?_
  refine aw_icmp_ne C 139 dX9_escapes_123 (by decide) (fun q => ?_) (fun q => ?_)
  · rw [if_neg q] at h
    refine aw_fl [some (.ref 181), some (.int v1), some (.int v2), some (.int v3), some (.ref (rAid v4)), some (.int v5), some (.ref (rAid v6)), some (.int v7), some (.int v8)] ⟨rfl, ⟨rfl, ⟨rfl, ⟨rfl, ⟨rfl, ⟨rfl, ⟨rfl, ⟨rfl, ⟨rfl, trivial⟩⟩⟩⟩⟩⟩⟩⟩⟩ ?_
    exact rmX9_escapes_b139 C Hr47 ia4 ia6 h
  · rw [if_pos q] at h
    refine aw_ald_n C dX9_escapes_126 rfl ?_
    refine aw_ald C dX9_escapes_127 rfl ?_
    refine aw_bipush C 34 dX9_escapes_129 kb_34 ?_
    refine aw_bipush C 34 dX9_escapes_131 kb_34 ?_
    obtain ⟨r2, h2, h⟩ := Option.bind_eq_some_iff.mp h
    refine aw_callV C (ci := 9) (b := 181) [.ref (rAid v6), .int (34 : Int32), .int (34 : Int32)] mv_X9_265 rfl rfl (hm_M f σ) (rmX9_puts ia6 h2) rfl dX9_escapes_133 (Nat.le_of_ble_eq_true rfl) (Nat.le_of_ble_eq_true rfl) rfl (Nat.le_of_ble_eq_true rfl) (Nat.le_of_ble_eq_true rfl) (Nat.le_of_ble_eq_true rfl) (fun v9 f9 n9 hh => ?_)
    obtain ⟨rfl, rfl, rfl⟩ := hh
    refine aw_goto C 150 dX9_escapes_136 (by decide) ?_
    refine aw_fl [some (.ref 181), some (.int v1), some (.int v2), some (.int v3), some (.ref (rAid v4)), some (.int v5), some (.ref (rAid v6)), some (.int v7), some (.int v8)] ⟨rfl, ⟨rfl, ⟨rfl, ⟨rfl, ⟨rfl, ⟨rfl, ⟨rfl, ⟨rfl, ⟨rfl, trivial⟩⟩⟩⟩⟩⟩⟩⟩⟩ ?_
    exact rmX9_escapes_b150 C Hr47 ia4 ia6 h
def mX9_escapes_b101 (rec47 : Int32 → Int32 → Int32 → Nat → Int32 → Nat → Int32 → Int32 → RS9 → Option (Int32 × RS9)) (v1 : Int32) (v2 : Int32) (v3 : Int32) (v4 : Nat) (v5 : Int32) (v6 : Nat) (v7 : Int32) (v8 : Int32) (s1 : Int32) (s2 : Nat) (s3 : Int32) (s4 : Int32) (σ : RS9) : Option (Int32 × RS9) := ((mX9_escapesBack s1 s2 s3 s4 σ).bind fun r1 => mX9_escapes_b150 rec47 v1 v2 v3 v4 v5 v6 v7 v8 r1.2)
set_option maxHeartbeats 1000000 in
theorem rmX9_escapes_b101 {X : GX} {p : Program} {l : Launch} {e : Env} {s : State} {m : MethodId} {args : Array Value} {below : List Frame} {meth : Method} {c : Code} {f : AH} {n : Nat} {r : Int32 × RS9} {rec47 : Int32 → Int32 → Int32 → Nat → Int32 → Nat → Int32 → Int32 → RS9 → Option (Int32 × RS9)} {v1 : Int32} {v2 : Int32} {v3 : Int32} {v4 : Nat} {v5 : Int32} {v6 : Nat} {v7 : Int32} {v8 : Int32} {s1 : Int32} {s2 : Nat} {s3 : Int32} {s4 : Int32} {σ : RS9} (C : CC X p l (RM 6 0 0) s m args meth c RX9 cX9_escapes 9 (some .int)) (Hr47 : ∀ (v1 : Int32) (v2 : Int32) (v3 : Int32) (v4 : Nat) (v5 : Int32) (v6 : Nat) (v7 : Int32) (v8 : Int32) (σ : RS9), rIsA v4 = true → rIsA v6 = true → rec47 v1 v2 v3 v4 v5 v6 v7 v8 σ = some r → AW X p l e (RM 6 0 0) s m args below meth c 9 (ZM X below args s 0 0 (QMi f n r)) (rHm f σ) n 0 0 47 [some (.ref 181), some (.int v1), some (.int v2), some (.int v3), some (.ref (rAid v4)), some (.int v5), some (.ref (rAid v6)), some (.int v7), some (.int v8)] []) (ia4 : rIsA v4 = true) (ia6 : rIsA v6 = true) (ias2 : rIsA s2 = true) (h : mX9_escapes_b101 rec47 v1 v2 v3 v4 v5 v6 v7 v8 s1 s2 s3 s4 σ = some r) : AW X p l e (RM 6 0 0) s m args below meth c 9 (ZM X below args s 0 0 (QMi f n r)) (rHm f σ) n 0 0 101 [some (.ref 181), some (.int v1), some (.int v2), some (.int v3), some (.ref (rAid v4)), some (.int v5), some (.ref (rAid v6)), some (.int v7), some (.int v8)] [.int s4, .int s3, .ref (rAid s2), .int s1, .ref 181] := by
  have h : ((mX9_escapesBack s1 s2 s3 s4 σ).bind fun r1 => mX9_escapes_b150 rec47 v1 v2 v3 v4 v5 v6 v7 v8 r1.2) = some r := h
  obtain ⟨r1, h1, h⟩ := Option.bind_eq_some_iff.mp h
  refine aw_callV C (ci := 9) (b := 181) [.int s1, .ref (rAid s2), .int s3, .int s4] mv_X9_275 rfl rfl (hm_M f σ) (rmX9_escapesBack ias2 h1) rfl dX9_escapes_101 (Nat.le_of_ble_eq_true rfl) (Nat.le_of_ble_eq_true rfl) rfl (Nat.le_of_ble_eq_true rfl) (Nat.le_of_ble_eq_true rfl) (Nat.le_of_ble_eq_true rfl) (fun v9 f9 n9 hh => ?_)
  obtain ⟨rfl, rfl, rfl⟩ := hh
  refine aw_goto C 150 dX9_escapes_104 (by decide) ?_
  refine aw_fl [some (.ref 181), some (.int v1), some (.int v2), some (.int v3), some (.ref (rAid v4)), some (.int v5), some (.ref (rAid v6)), some (.int v7), some (.int v8)] ⟨rfl, ⟨rfl, ⟨rfl, ⟨rfl, ⟨rfl, ⟨rfl, ⟨rfl, ⟨rfl, ⟨rfl, trivial⟩⟩⟩⟩⟩⟩⟩⟩⟩ ?_
  exact rmX9_escapes_b150 C Hr47 ia4 ia6 h
def mX9_escapes_b100 (rec47 : Int32 → Int32 → Int32 → Nat → Int32 → Nat → Int32 → Int32 → RS9 → Option (Int32 × RS9)) (v1 : Int32) (v2 : Int32) (v3 : Int32) (v4 : Nat) (v5 : Int32) (v6 : Nat) (v7 : Int32) (v8 : Int32) (s1 : Int32) (s2 : Nat) (s3 : Int32) (σ : RS9) : Option (Int32 × RS9) := mX9_escapes_b101 rec47 v1 v2 v3 v4 v5 v6 v7 v8 s1 s2 s3 (0 : Int32) σ
set_option maxHeartbeats 1000000 in
theorem rmX9_escapes_b100 {X : GX} {p : Program} {l : Launch} {e : Env} {s : State} {m : MethodId} {args : Array Value} {below : List Frame} {meth : Method} {c : Code} {f : AH} {n : Nat} {r : Int32 × RS9} {rec47 : Int32 → Int32 → Int32 → Nat → Int32 → Nat → Int32 → Int32 → RS9 → Option (Int32 × RS9)} {v1 : Int32} {v2 : Int32} {v3 : Int32} {v4 : Nat} {v5 : Int32} {v6 : Nat} {v7 : Int32} {v8 : Int32} {s1 : Int32} {s2 : Nat} {s3 : Int32} {σ : RS9} (C : CC X p l (RM 6 0 0) s m args meth c RX9 cX9_escapes 9 (some .int)) (Hr47 : ∀ (v1 : Int32) (v2 : Int32) (v3 : Int32) (v4 : Nat) (v5 : Int32) (v6 : Nat) (v7 : Int32) (v8 : Int32) (σ : RS9), rIsA v4 = true → rIsA v6 = true → rec47 v1 v2 v3 v4 v5 v6 v7 v8 σ = some r → AW X p l e (RM 6 0 0) s m args below meth c 9 (ZM X below args s 0 0 (QMi f n r)) (rHm f σ) n 0 0 47 [some (.ref 181), some (.int v1), some (.int v2), some (.int v3), some (.ref (rAid v4)), some (.int v5), some (.ref (rAid v6)), some (.int v7), some (.int v8)] []) (ia4 : rIsA v4 = true) (ia6 : rIsA v6 = true) (ias2 : rIsA s2 = true) (h : mX9_escapes_b100 rec47 v1 v2 v3 v4 v5 v6 v7 v8 s1 s2 s3 σ = some r) : AW X p l e (RM 6 0 0) s m args below meth c 9 (ZM X below args s 0 0 (QMi f n r)) (rHm f σ) n 0 0 100 [some (.ref 181), some (.int v1), some (.int v2), some (.int v3), some (.ref (rAid v4)), some (.int v5), some (.ref (rAid v6)), some (.int v7), some (.int v8)] [.int s3, .ref (rAid s2), .int s1, .ref 181] := by
  have h : mX9_escapes_b101 rec47 v1 v2 v3 v4 v5 v6 v7 v8 s1 s2 s3 (0 : Int32) σ = some r := h
  refine aw_iconst C 0 dX9_escapes_100 ki_0 ?_
  refine aw_fl [some (.ref 181), some (.int v1), some (.int v2), some (.int v3), some (.ref (rAid v4)), some (.int v5), some (.ref (rAid v6)), some (.int v7), some (.int v8)] ⟨rfl, ⟨rfl, ⟨rfl, ⟨rfl, ⟨rfl, ⟨rfl, ⟨rfl, ⟨rfl, ⟨rfl, trivial⟩⟩⟩⟩⟩⟩⟩⟩⟩ ?_
  exact rmX9_escapes_b101 C Hr47 ia4 ia6 ias2 h
def mX9_escapes_l47 : Nat → Int32 → Int32 → Int32 → Nat → Int32 → Nat → Int32 → Int32 → RS9 → Option (Int32 × RS9)
  | 0, _, _, _, _, _, _, _, _, _ => none
  | d + 1, v1, v2, v3, v4, v5, v6, v7, v8, σ => (if v5 ≤ v8 then (if v7 = (0 : Int32) then mX9_escapes_b169 σ else ((mX9_plain v6 (34 : Int32) σ).bind fun r1 => mX9_escapes_b169 r1.2)) else (if v1 = (2 : Int32) then rCk (rIn v8 (rLen v4)) (((mX9_escapesMarkup v6 (rGa σ v4 v8) σ).bind fun r4 => mX9_escapes_b150 (fun v1 v2 v3 v4 v5 v6 v7 v8 σ => mX9_escapes_l47 d v1 v2 v3 v4 v5 v6 v7 v8 σ) v1 v2 v3 v4 v5 v6 v7 v8 r4.2)) else (if v1 = (1 : Int32) then (if v2 = (0 : Int32) then (if v7 = (0 : Int32) then mX9_escapes_b139 (fun v1 v2 v3 v4 v5 v6 v7 v8 σ => mX9_escapes_l47 d v1 v2 v3 v4 v5 v6 v7 v8 σ) v1 v2 v3 v4 v5 v6 v7 v8 σ else mX9_escapes_b116 (fun v1 v2 v3 v4 v5 v6 v7 v8 σ => mX9_escapes_l47 d v1 v2 v3 v4 v5 v6 v7 v8 σ) v1 v2 v3 v4 v5 v6 v7 v8 σ) else mX9_escapes_b116 (fun v1 v2 v3 v4 v5 v6 v7 v8 σ => mX9_escapes_l47 d v1 v2 v3 v4 v5 v6 v7 v8 σ) v1 v2 v3 v4 v5 v6 v7 v8 σ) else rCk (rIn v8 (rLen v4)) ((if v3 = (0 : Int32) then mX9_escapes_b100 (fun v1 v2 v3 v4 v5 v6 v7 v8 σ => mX9_escapes_l47 d v1 v2 v3 v4 v5 v6 v7 v8 σ) v1 v2 v3 v4 v5 v6 v7 v8 v1 v6 (rGa σ v4 v8) σ else (if v8 = (0 : Int32) then mX9_escapes_b101 (fun v1 v2 v3 v4 v5 v6 v7 v8 σ => mX9_escapes_l47 d v1 v2 v3 v4 v5 v6 v7 v8 σ) v1 v2 v3 v4 v5 v6 v7 v8 v1 v6 (rGa σ v4 v8) (1 : Int32) σ else mX9_escapes_b100 (fun v1 v2 v3 v4 v5 v6 v7 v8 σ => mX9_escapes_l47 d v1 v2 v3 v4 v5 v6 v7 v8 σ) v1 v2 v3 v4 v5 v6 v7 v8 v1 v6 (rGa σ v4 v8) σ))))))
set_option maxHeartbeats 1000000 in
theorem rmX9_escapes_l47 {X : GX} {p : Program} {l : Launch} {e : Env} {s : State} {m : MethodId} {args : Array Value} {below : List Frame} {meth : Method} {c : Code} {f : AH} {n : Nat} {r : Int32 × RS9} (C : CC X p l (RM 6 0 0) s m args meth c RX9 cX9_escapes 9 (some .int)) : ∀ (d : Nat) (v1 : Int32) (v2 : Int32) (v3 : Int32) (v4 : Nat) (v5 : Int32) (v6 : Nat) (v7 : Int32) (v8 : Int32) (σ : RS9) (_ : rIsA v4 = true) (_ : rIsA v6 = true) (_ : mX9_escapes_l47 d v1 v2 v3 v4 v5 v6 v7 v8 σ = some r), AW X p l e (RM 6 0 0) s m args below meth c 9 (ZM X below args s 0 0 (QMi f n r)) (rHm f σ) n 0 0 47 [some (.ref 181), some (.int v1), some (.int v2), some (.int v3), some (.ref (rAid v4)), some (.int v5), some (.ref (rAid v6)), some (.int v7), some (.int v8)] [] := by
  intro d
  induction d with
  | zero =>
    intro v1 v2 v3 v4 v5 v6 v7 v8 σ ia4 ia6 h
    exact nomatch (show (none : Option (Int32 × RS9)) = some r from h)
  | succ d ih =>
    intro v1 v2 v3 v4 v5 v6 v7 v8 σ ia4 ia6 h
    have h : (if v5 ≤ v8 then (if v7 = (0 : Int32) then mX9_escapes_b169 σ else ((mX9_plain v6 (34 : Int32) σ).bind fun r1 => mX9_escapes_b169 r1.2)) else (if v1 = (2 : Int32) then rCk (rIn v8 (rLen v4)) (((mX9_escapesMarkup v6 (rGa σ v4 v8) σ).bind fun r4 => mX9_escapes_b150 (fun v1 v2 v3 v4 v5 v6 v7 v8 σ => mX9_escapes_l47 d v1 v2 v3 v4 v5 v6 v7 v8 σ) v1 v2 v3 v4 v5 v6 v7 v8 r4.2)) else (if v1 = (1 : Int32) then (if v2 = (0 : Int32) then (if v7 = (0 : Int32) then mX9_escapes_b139 (fun v1 v2 v3 v4 v5 v6 v7 v8 σ => mX9_escapes_l47 d v1 v2 v3 v4 v5 v6 v7 v8 σ) v1 v2 v3 v4 v5 v6 v7 v8 σ else mX9_escapes_b116 (fun v1 v2 v3 v4 v5 v6 v7 v8 σ => mX9_escapes_l47 d v1 v2 v3 v4 v5 v6 v7 v8 σ) v1 v2 v3 v4 v5 v6 v7 v8 σ) else mX9_escapes_b116 (fun v1 v2 v3 v4 v5 v6 v7 v8 σ => mX9_escapes_l47 d v1 v2 v3 v4 v5 v6 v7 v8 σ) v1 v2 v3 v4 v5 v6 v7 v8 σ) else rCk (rIn v8 (rLen v4)) ((if v3 = (0 : Int32) then mX9_escapes_b100 (fun v1 v2 v3 v4 v5 v6 v7 v8 σ => mX9_escapes_l47 d v1 v2 v3 v4 v5 v6 v7 v8 σ) v1 v2 v3 v4 v5 v6 v7 v8 v1 v6 (rGa σ v4 v8) σ else (if v8 = (0 : Int32) then mX9_escapes_b101 (fun v1 v2 v3 v4 v5 v6 v7 v8 σ => mX9_escapes_l47 d v1 v2 v3 v4 v5 v6 v7 v8 σ) v1 v2 v3 v4 v5 v6 v7 v8 v1 v6 (rGa σ v4 v8) (1 : Int32) σ else mX9_escapes_b100 (fun v1 v2 v3 v4 v5 v6 v7 v8 σ => mX9_escapes_l47 d v1 v2 v3 v4 v5 v6 v7 v8 σ) v1 v2 v3 v4 v5 v6 v7 v8 v1 v6 (rGa σ v4 v8) σ)))))) = some r := h
    refine aw_iload C dX9_escapes_47 rfl ?_
    refine aw_iload C dX9_escapes_49 rfl ?_
    refine aw_icmp_ge C 156 dX9_escapes_51 (by decide) (fun q => ?_) (fun q => ?_)
    · rw [if_pos q] at h
      refine aw_iload C dX9_escapes_156 rfl ?_
      refine aw_if_eq C 169 dX9_escapes_158 (by decide) (fun q => ?_) (fun q => ?_)
      · rw [if_pos q] at h
        refine aw_fl [some (.ref 181), none, none, none, none, none, none, none, none] ⟨rfl, trivial⟩ ?_
        exact rmX9_escapes_b169 C h
      · rw [if_neg q] at h
        refine aw_ald_n C dX9_escapes_161 rfl ?_
        refine aw_ald C dX9_escapes_162 rfl ?_
        refine aw_bipush C 34 dX9_escapes_164 kb_34 ?_
        obtain ⟨r1, h1, h⟩ := Option.bind_eq_some_iff.mp h
        refine aw_callV C (ci := 9) (b := 181) [.ref (rAid v6), .int (34 : Int32)] mv_X9_261 rfl rfl (hm_M f σ) (rmX9_plain ia6 h1) rfl dX9_escapes_166 (Nat.le_of_ble_eq_true rfl) (Nat.le_of_ble_eq_true rfl) rfl (Nat.le_of_ble_eq_true rfl) (Nat.le_of_ble_eq_true rfl) (Nat.le_of_ble_eq_true rfl) (fun v9 f9 n9 hh => ?_)
        obtain ⟨rfl, rfl, rfl⟩ := hh
        refine aw_fl [some (.ref 181), none, none, none, none, none, none, none, none] ⟨rfl, trivial⟩ ?_
        exact rmX9_escapes_b169 C h
    · rw [if_neg q] at h
      refine aw_iload_n C dX9_escapes_54 rfl ?_
      refine aw_iconst C 2 dX9_escapes_55 ki_2 ?_
      refine aw_icmp_ne C 73 dX9_escapes_56 (by decide) (fun q => ?_) (fun q => ?_)
      · rw [if_neg q] at h
        refine aw_iload_n C dX9_escapes_73 rfl ?_
        refine aw_iconst C 1 dX9_escapes_74 ki_1 ?_
        refine aw_icmp_eq C 107 dX9_escapes_75 (by decide) (fun q => ?_) (fun q => ?_)
        · rw [if_pos q] at h
          refine aw_iload_n C dX9_escapes_107 rfl ?_
          refine aw_if_ne C 116 dX9_escapes_108 (by decide) (fun q => ?_) (fun q => ?_)
          · rw [if_neg q] at h
            refine aw_fl [some (.ref 181), some (.int v1), some (.int v2), some (.int v3), some (.ref (rAid v4)), some (.int v5), some (.ref (rAid v6)), some (.int v7), some (.int v8)] ⟨rfl, ⟨rfl, ⟨rfl, ⟨rfl, ⟨rfl, ⟨rfl, ⟨rfl, ⟨rfl, ⟨rfl, trivial⟩⟩⟩⟩⟩⟩⟩⟩⟩ ?_
            exact rmX9_escapes_b116 C (fun v1 v2 v3 v4 v5 v6 v7 v8 σ ia4 ia6 h => ih v1 v2 v3 v4 v5 v6 v7 v8 σ ia4 ia6 h) ia4 ia6 h
          · rw [if_pos q] at h
            refine aw_iload C dX9_escapes_111 rfl ?_
            refine aw_if_eq C 139 dX9_escapes_113 (by decide) (fun q => ?_) (fun q => ?_)
            · rw [if_pos q] at h
              refine aw_fl [some (.ref 181), some (.int v1), some (.int v2), some (.int v3), some (.ref (rAid v4)), some (.int v5), some (.ref (rAid v6)), some (.int v7), some (.int v8)] ⟨rfl, ⟨rfl, ⟨rfl, ⟨rfl, ⟨rfl, ⟨rfl, ⟨rfl, ⟨rfl, ⟨rfl, trivial⟩⟩⟩⟩⟩⟩⟩⟩⟩ ?_
              exact rmX9_escapes_b139 C (fun v1 v2 v3 v4 v5 v6 v7 v8 σ ia4 ia6 h => ih v1 v2 v3 v4 v5 v6 v7 v8 σ ia4 ia6 h) ia4 ia6 h
            · rw [if_neg q] at h
              refine aw_fl [some (.ref 181), some (.int v1), some (.int v2), some (.int v3), some (.ref (rAid v4)), some (.int v5), some (.ref (rAid v6)), some (.int v7), some (.int v8)] ⟨rfl, ⟨rfl, ⟨rfl, ⟨rfl, ⟨rfl, ⟨rfl, ⟨rfl, ⟨rfl, ⟨rfl, trivial⟩⟩⟩⟩⟩⟩⟩⟩⟩ ?_
              exact rmX9_escapes_b116 C (fun v1 v2 v3 v4 v5 v6 v7 v8 σ ia4 ia6 h => ih v1 v2 v3 v4 v5 v6 v7 v8 σ ia4 ia6 h) ia4 ia6 h
        · rw [if_neg q] at h
          refine aw_ald_n C dX9_escapes_78 rfl ?_
          refine aw_iload_n C dX9_escapes_79 rfl ?_
          refine aw_ald C dX9_escapes_80 rfl ?_
          refine aw_ald C dX9_escapes_82 rfl ?_
          refine aw_iload C dX9_escapes_84 rfl ?_
          obtain ⟨hb2, h⟩ := ck_some h
          refine am_iald C (rGa σ v4 v8) ia4 (inb_vp hb2) rfl dX9_escapes_86 ?_
          refine aw_iload_n C dX9_escapes_87 rfl ?_
          refine aw_if_eq C 100 dX9_escapes_88 (by decide) (fun q => ?_) (fun q => ?_)
          · rw [if_pos q] at h
            refine aw_fl [some (.ref 181), some (.int v1), some (.int v2), some (.int v3), some (.ref (rAid v4)), some (.int v5), some (.ref (rAid v6)), some (.int v7), some (.int v8)] ⟨rfl, ⟨rfl, ⟨rfl, ⟨rfl, ⟨rfl, ⟨rfl, ⟨rfl, ⟨rfl, ⟨rfl, trivial⟩⟩⟩⟩⟩⟩⟩⟩⟩ ?_
            exact rmX9_escapes_b100 C (fun v1 v2 v3 v4 v5 v6 v7 v8 σ ia4 ia6 h => ih v1 v2 v3 v4 v5 v6 v7 v8 σ ia4 ia6 h) ia4 ia6 ia6 h
          · rw [if_neg q] at h
            refine aw_iload C dX9_escapes_91 rfl ?_
            refine aw_if_ne C 100 dX9_escapes_93 (by decide) (fun q => ?_) (fun q => ?_)
            · rw [if_neg q] at h
              refine aw_fl [some (.ref 181), some (.int v1), some (.int v2), some (.int v3), some (.ref (rAid v4)), some (.int v5), some (.ref (rAid v6)), some (.int v7), some (.int v8)] ⟨rfl, ⟨rfl, ⟨rfl, ⟨rfl, ⟨rfl, ⟨rfl, ⟨rfl, ⟨rfl, ⟨rfl, trivial⟩⟩⟩⟩⟩⟩⟩⟩⟩ ?_
              exact rmX9_escapes_b100 C (fun v1 v2 v3 v4 v5 v6 v7 v8 σ ia4 ia6 h => ih v1 v2 v3 v4 v5 v6 v7 v8 σ ia4 ia6 h) ia4 ia6 ia6 h
            · rw [if_pos q] at h
              refine aw_iconst C 1 dX9_escapes_96 ki_1 ?_
              refine aw_goto C 101 dX9_escapes_97 (by decide) ?_
              refine aw_fl [some (.ref 181), some (.int v1), some (.int v2), some (.int v3), some (.ref (rAid v4)), some (.int v5), some (.ref (rAid v6)), some (.int v7), some (.int v8)] ⟨rfl, ⟨rfl, ⟨rfl, ⟨rfl, ⟨rfl, ⟨rfl, ⟨rfl, ⟨rfl, ⟨rfl, trivial⟩⟩⟩⟩⟩⟩⟩⟩⟩ ?_
              exact rmX9_escapes_b101 C (fun v1 v2 v3 v4 v5 v6 v7 v8 σ ia4 ia6 h => ih v1 v2 v3 v4 v5 v6 v7 v8 σ ia4 ia6 h) ia4 ia6 ia6 h
      · rw [if_pos q] at h
        refine aw_ald_n C dX9_escapes_59 rfl ?_
        refine aw_ald C dX9_escapes_60 rfl ?_
        refine aw_ald C dX9_escapes_62 rfl ?_
        refine aw_iload C dX9_escapes_64 rfl ?_
        obtain ⟨hb3, h⟩ := ck_some h
        refine am_iald C (rGa σ v4 v8) ia4 (inb_vp hb3) rfl dX9_escapes_66 ?_
        obtain ⟨r4, h4, h⟩ := Option.bind_eq_some_iff.mp h
        refine aw_callV C (ci := 9) (b := 181) [.ref (rAid v6), .int (rGa σ v4 v8)] mv_X9_272 rfl rfl (hm_M f σ) (rmX9_escapesMarkup ia6 h4) rfl dX9_escapes_67 (Nat.le_of_ble_eq_true rfl) (Nat.le_of_ble_eq_true rfl) rfl (Nat.le_of_ble_eq_true rfl) (Nat.le_of_ble_eq_true rfl) (Nat.le_of_ble_eq_true rfl) (fun v9 f9 n9 hh => ?_)
        obtain ⟨rfl, rfl, rfl⟩ := hh
        refine aw_goto C 150 dX9_escapes_70 (by decide) ?_
        refine aw_fl [some (.ref 181), some (.int v1), some (.int v2), some (.int v3), some (.ref (rAid v4)), some (.int v5), some (.ref (rAid v6)), some (.int v7), some (.int v8)] ⟨rfl, ⟨rfl, ⟨rfl, ⟨rfl, ⟨rfl, ⟨rfl, ⟨rfl, ⟨rfl, ⟨rfl, trivial⟩⟩⟩⟩⟩⟩⟩⟩⟩ ?_
        exact rmX9_escapes_b150 C (fun v1 v2 v3 v4 v5 v6 v7 v8 σ ia4 ia6 h => ih v1 v2 v3 v4 v5 v6 v7 v8 σ ia4 ia6 h) ia4 ia6 h
def mX9_escapes_b44 (v1 : Int32) (v2 : Int32) (v3 : Int32) (v4 : Nat) (v5 : Int32) (v6 : Nat) (v7 : Int32) (σ : RS9) : Option (Int32 × RS9) := mX9_escapes_l47 rFU v1 v2 v3 v4 v5 v6 v7 (0 : Int32) σ
set_option maxHeartbeats 1000000 in
theorem rmX9_escapes_b44 {X : GX} {p : Program} {l : Launch} {e : Env} {s : State} {m : MethodId} {args : Array Value} {below : List Frame} {meth : Method} {c : Code} {f : AH} {n : Nat} {r : Int32 × RS9} {v1 : Int32} {v2 : Int32} {v3 : Int32} {v4 : Nat} {v5 : Int32} {v6 : Nat} {v7 : Int32} {σ : RS9} (C : CC X p l (RM 6 0 0) s m args meth c RX9 cX9_escapes 9 (some .int)) (ia4 : rIsA v4 = true) (ia6 : rIsA v6 = true) (h : mX9_escapes_b44 v1 v2 v3 v4 v5 v6 v7 σ = some r) : AW X p l e (RM 6 0 0) s m args below meth c 9 (ZM X below args s 0 0 (QMi f n r)) (rHm f σ) n 0 0 44 [some (.ref 181), some (.int v1), some (.int v2), some (.int v3), some (.ref (rAid v4)), some (.int v5), some (.ref (rAid v6)), some (.int v7), none] [] := by
  have h : mX9_escapes_l47 rFU v1 v2 v3 v4 v5 v6 v7 (0 : Int32) σ = some r := h
  refine aw_iconst C 0 dX9_escapes_44 ki_0 ?_
  refine aw_istore C dX9_escapes_45 (by decide) rfl ?_
  refine aw_nl [some (.ref 181), some (.int v1), some (.int v2), some (.int v3), some (.ref (rAid v4)), some (.int v5), some (.ref (rAid v6)), some (.int v7), some (.int (0 : Int32))] rfl ?_
  refine aw_fl [some (.ref 181), some (.int v1), some (.int v2), some (.int v3), some (.ref (rAid v4)), some (.int v5), some (.ref (rAid v6)), some (.int v7), some (.int (0 : Int32))] ⟨rfl, ⟨rfl, ⟨rfl, ⟨rfl, ⟨rfl, ⟨rfl, ⟨rfl, ⟨rfl, ⟨rfl, trivial⟩⟩⟩⟩⟩⟩⟩⟩⟩ ?_
  exact rmX9_escapes_l47 C rFU v1 v2 v3 v4 v5 v6 v7 (0 : Int32) σ ia4 ia6 h
def mX9_escapes_b29 (v1 : Int32) (v2 : Int32) (v3 : Int32) (v4 : Nat) (v5 : Int32) (v6 : Nat) (s0 : Int32) (σ : RS9) : Option (Int32 × RS9) := (if s0 = (0 : Int32) then mX9_escapes_b44 v1 v2 v3 v4 v5 v6 s0 σ else ((mX9_plain v6 (34 : Int32) σ).bind fun r1 => mX9_escapes_b44 v1 v2 v3 v4 v5 v6 s0 r1.2))
set_option maxHeartbeats 1000000 in
theorem rmX9_escapes_b29 {X : GX} {p : Program} {l : Launch} {e : Env} {s : State} {m : MethodId} {args : Array Value} {below : List Frame} {meth : Method} {c : Code} {f : AH} {n : Nat} {r : Int32 × RS9} {v1 : Int32} {v2 : Int32} {v3 : Int32} {v4 : Nat} {v5 : Int32} {v6 : Nat} {s0 : Int32} {σ : RS9} (C : CC X p l (RM 6 0 0) s m args meth c RX9 cX9_escapes 9 (some .int)) (ia4 : rIsA v4 = true) (ia6 : rIsA v6 = true) (h : mX9_escapes_b29 v1 v2 v3 v4 v5 v6 s0 σ = some r) : AW X p l e (RM 6 0 0) s m args below meth c 9 (ZM X below args s 0 0 (QMi f n r)) (rHm f σ) n 0 0 29 [some (.ref 181), some (.int v1), some (.int v2), some (.int v3), some (.ref (rAid v4)), some (.int v5), some (.ref (rAid v6)), none, none] [.int s0] := by
  have h : (if s0 = (0 : Int32) then mX9_escapes_b44 v1 v2 v3 v4 v5 v6 s0 σ else ((mX9_plain v6 (34 : Int32) σ).bind fun r1 => mX9_escapes_b44 v1 v2 v3 v4 v5 v6 s0 r1.2)) = some r := h
  refine aw_istore C dX9_escapes_29 (by decide) rfl ?_
  refine aw_nl [some (.ref 181), some (.int v1), some (.int v2), some (.int v3), some (.ref (rAid v4)), some (.int v5), some (.ref (rAid v6)), some (.int s0), none] rfl ?_
  refine aw_iload C dX9_escapes_31 rfl ?_
  refine aw_if_eq C 44 dX9_escapes_33 (by decide) (fun q => ?_) (fun q => ?_)
  · rw [if_pos q] at h
    refine aw_fl [some (.ref 181), some (.int v1), some (.int v2), some (.int v3), some (.ref (rAid v4)), some (.int v5), some (.ref (rAid v6)), some (.int s0), none] ⟨rfl, ⟨rfl, ⟨rfl, ⟨rfl, ⟨rfl, ⟨rfl, ⟨rfl, ⟨rfl, trivial⟩⟩⟩⟩⟩⟩⟩⟩ ?_
    exact rmX9_escapes_b44 C ia4 ia6 h
  · rw [if_neg q] at h
    refine aw_ald_n C dX9_escapes_36 rfl ?_
    refine aw_ald C dX9_escapes_37 rfl ?_
    refine aw_bipush C 34 dX9_escapes_39 kb_34 ?_
    obtain ⟨r1, h1, h⟩ := Option.bind_eq_some_iff.mp h
    refine aw_callV C (ci := 9) (b := 181) [.ref (rAid v6), .int (34 : Int32)] mv_X9_261 rfl rfl (hm_M f σ) (rmX9_plain ia6 h1) rfl dX9_escapes_41 (Nat.le_of_ble_eq_true rfl) (Nat.le_of_ble_eq_true rfl) rfl (Nat.le_of_ble_eq_true rfl) (Nat.le_of_ble_eq_true rfl) (Nat.le_of_ble_eq_true rfl) (fun v9 f9 n9 hh => ?_)
    obtain ⟨rfl, rfl, rfl⟩ := hh
    refine aw_fl [some (.ref 181), some (.int v1), some (.int v2), some (.int v3), some (.ref (rAid v4)), some (.int v5), some (.ref (rAid v6)), some (.int s0), none] ⟨rfl, ⟨rfl, ⟨rfl, ⟨rfl, ⟨rfl, ⟨rfl, ⟨rfl, ⟨rfl, trivial⟩⟩⟩⟩⟩⟩⟩⟩ ?_
    exact rmX9_escapes_b44 C ia4 ia6 h
def mX9_escapes_b28 (v1 : Int32) (v2 : Int32) (v3 : Int32) (v4 : Nat) (v5 : Int32) (v6 : Nat) (σ : RS9) : Option (Int32 × RS9) := mX9_escapes_b29 v1 v2 v3 v4 v5 v6 (0 : Int32) σ
set_option maxHeartbeats 1000000 in
theorem rmX9_escapes_b28 {X : GX} {p : Program} {l : Launch} {e : Env} {s : State} {m : MethodId} {args : Array Value} {below : List Frame} {meth : Method} {c : Code} {f : AH} {n : Nat} {r : Int32 × RS9} {v1 : Int32} {v2 : Int32} {v3 : Int32} {v4 : Nat} {v5 : Int32} {v6 : Nat} {σ : RS9} (C : CC X p l (RM 6 0 0) s m args meth c RX9 cX9_escapes 9 (some .int)) (ia4 : rIsA v4 = true) (ia6 : rIsA v6 = true) (h : mX9_escapes_b28 v1 v2 v3 v4 v5 v6 σ = some r) : AW X p l e (RM 6 0 0) s m args below meth c 9 (ZM X below args s 0 0 (QMi f n r)) (rHm f σ) n 0 0 28 [some (.ref 181), some (.int v1), some (.int v2), some (.int v3), some (.ref (rAid v4)), some (.int v5), some (.ref (rAid v6)), none, none] [] := by
  have h : mX9_escapes_b29 v1 v2 v3 v4 v5 v6 (0 : Int32) σ = some r := h
  refine aw_iconst C 0 dX9_escapes_28 ki_0 ?_
  refine aw_fl [some (.ref 181), some (.int v1), some (.int v2), some (.int v3), some (.ref (rAid v4)), some (.int v5), some (.ref (rAid v6)), none, none] ⟨rfl, ⟨rfl, ⟨rfl, ⟨rfl, ⟨rfl, ⟨rfl, ⟨rfl, trivial⟩⟩⟩⟩⟩⟩⟩ ?_
  exact rmX9_escapes_b29 C ia4 ia6 h
def mX9_escapes (v1 : Int32) (v2 : Int32) (v3 : Int32) (v4 : Nat) (v5 : Int32) (v6 : Nat) (σ : RS9) : Option (Int32 × RS9) := (if v1 = (1 : Int32) then (if v2 = (0 : Int32) then ((mX9_hasSign v4 v5 (rSf σ 56 (0 : Int32))).bind fun r1 => (if r1.1 = (0 : Int32) then mX9_escapes_b28 v1 v2 v3 v4 v5 v6 r1.2 else mX9_escapes_b29 v1 v2 v3 v4 v5 v6 (1 : Int32) r1.2)) else mX9_escapes_b28 v1 v2 v3 v4 v5 v6 (rSf σ 56 (0 : Int32))) else mX9_escapes_b28 v1 v2 v3 v4 v5 v6 (rSf σ 56 (0 : Int32)))
set_option maxHeartbeats 1000000 in
theorem rmX9_escapes {X : GX} {l : Launch} {f : AH} {n : Nat} {r : Int32 × RS9} {v1 : Int32} {v2 : Int32} {v3 : Int32} {v4 : Nat} {v5 : Int32} {v6 : Nat} {σ : RS9} (ia4 : rIsA v4 = true) (ia6 : rIsA v6 = true) (h : mX9_escapes v1 v2 v3 v4 v5 v6 σ = some r) : AM X l yX9_escapes cX9_escapes 9 (some .int) 6 0 0 [.ref 181, .int v1, .int v2, .int v3, .ref (rAid v4), .int v5, .ref (rAid v6)] (rHm f σ) n (QMi f n r) := by
  have h : (if v1 = (1 : Int32) then (if v2 = (0 : Int32) then ((mX9_hasSign v4 v5 (rSf σ 56 (0 : Int32))).bind fun r1 => (if r1.1 = (0 : Int32) then mX9_escapes_b28 v1 v2 v3 v4 v5 v6 r1.2 else mX9_escapes_b29 v1 v2 v3 v4 v5 v6 (1 : Int32) r1.2)) else mX9_escapes_b28 v1 v2 v3 v4 v5 v6 (rSf σ 56 (0 : Int32))) else mX9_escapes_b28 v1 v2 v3 v4 v5 v6 (rSf σ 56 (0 : Int32))) = some r := h
  refine AM.of (by decide +kernel) rfl (Nat.le_of_ble_eq_true rfl) (fun p e s m args below meth c C _ => ?_)
  refine aw_nl [some (.ref 181), some (.int v1), some (.int v2), some (.int v3), some (.ref (rAid v4)), some (.int v5), some (.ref (rAid v6)), none, none] rfl ?_
  refine aw_ald_n C dX9_escapes_0 rfl ?_
  refine aw_iconst C 0 dX9_escapes_1 ki_0 ?_
  refine am_put C gf_X9_254 nf9_56 rfl rfl dX9_escapes_2 ?_
  refine aw_iload_n C dX9_escapes_5 rfl ?_
  refine aw_iconst C 1 dX9_escapes_6 ki_1 ?_
  refine aw_icmp_ne C 28 dX9_escapes_7 (by decide) (fun q => ?_) (fun q => ?_)
  · rw [if_neg q] at h
    refine aw_fl [some (.ref 181), some (.int v1), some (.int v2), some (.int v3), some (.ref (rAid v4)), some (.int v5), some (.ref (rAid v6)), none, none] ⟨rfl, ⟨rfl, ⟨rfl, ⟨rfl, ⟨rfl, ⟨rfl, ⟨rfl, trivial⟩⟩⟩⟩⟩⟩⟩ ?_
    exact rmX9_escapes_b28 C ia4 ia6 h
  · rw [if_pos q] at h
    refine aw_iload_n C dX9_escapes_10 rfl ?_
    refine aw_if_ne C 28 dX9_escapes_11 (by decide) (fun q => ?_) (fun q => ?_)
    · rw [if_neg q] at h
      refine aw_fl [some (.ref 181), some (.int v1), some (.int v2), some (.int v3), some (.ref (rAid v4)), some (.int v5), some (.ref (rAid v6)), none, none] ⟨rfl, ⟨rfl, ⟨rfl, ⟨rfl, ⟨rfl, ⟨rfl, ⟨rfl, trivial⟩⟩⟩⟩⟩⟩⟩ ?_
      exact rmX9_escapes_b28 C ia4 ia6 h
    · rw [if_pos q] at h
      refine aw_ald C dX9_escapes_14 rfl ?_
      refine aw_iload C dX9_escapes_16 rfl ?_
      obtain ⟨r1, h1, h⟩ := Option.bind_eq_some_iff.mp h
      refine aw_callS C [.ref (rAid v4), .int v5] ms_X9_269 (rmX9_hasSign ia4 h1) rfl dX9_escapes_18 (Nat.le_of_ble_eq_true rfl) (Nat.le_of_ble_eq_true rfl) rfl (Nat.le_of_ble_eq_true rfl) (Nat.le_of_ble_eq_true rfl) (Nat.le_of_ble_eq_true rfl) (fun v9 f9 n9 hh => ?_)
      obtain ⟨rfl, rfl, rfl⟩ := hh
      refine aw_if_eq C 28 dX9_escapes_21 (by decide) (fun q => ?_) (fun q => ?_)
      · rw [if_pos q] at h
        refine aw_fl [some (.ref 181), some (.int v1), some (.int v2), some (.int v3), some (.ref (rAid v4)), some (.int v5), some (.ref (rAid v6)), none, none] ⟨rfl, ⟨rfl, ⟨rfl, ⟨rfl, ⟨rfl, ⟨rfl, ⟨rfl, trivial⟩⟩⟩⟩⟩⟩⟩ ?_
        exact rmX9_escapes_b28 C ia4 ia6 h
      · rw [if_neg q] at h
        refine aw_iconst C 1 dX9_escapes_24 ki_1 ?_
        refine aw_goto C 29 dX9_escapes_25 (by decide) ?_
        refine aw_fl [some (.ref 181), some (.int v1), some (.int v2), some (.int v3), some (.ref (rAid v4)), some (.int v5), some (.ref (rAid v6)), none, none] ⟨rfl, ⟨rfl, ⟨rfl, ⟨rfl, ⟨rfl, ⟨rfl, ⟨rfl, trivial⟩⟩⟩⟩⟩⟩⟩ ?_
        exact rmX9_escapes_b29 C ia4 ia6 h
def mX9_escapedFor_b165 (v3 : Int32) (s1 : Int32) (s2 : Int32) (s3 : Int32) (σ : RS9) : Option (Int32 × RS9) := ((mX9_escapes s1 s2 s3 46 v3 47 σ).bind fun r1 => some (r1.1, r1.2))
set_option maxHeartbeats 1000000 in
theorem rmX9_escapedFor_b165 {X : GX} {p : Program} {l : Launch} {e : Env} {s : State} {m : MethodId} {args : Array Value} {below : List Frame} {meth : Method} {c : Code} {f : AH} {n : Nat} {r : Int32 × RS9} {v3 : Int32} {s1 : Int32} {s2 : Int32} {s3 : Int32} {σ : RS9} (C : CC X p l (RM 7 0 0) s m args meth c RX9 cX9_escapedFor 4 (some .int)) (h : mX9_escapedFor_b165 v3 s1 s2 s3 σ = some r) : AW X p l e (RM 7 0 0) s m args below meth c 4 (ZM X below args s 0 0 (QMi f n r)) (rHm f σ) n 0 0 165 [some (.ref 181), none, none, some (.int v3)] [.int s3, .int s2, .int s1, .ref 181] := by
  have h : ((mX9_escapes s1 s2 s3 46 v3 47 σ).bind fun r1 => some (r1.1, r1.2)) = some r := h
  refine aw_ald_n C dX9_escapedFor_165 rfl ?_
  refine aw_get C (v := .ref (rAid 46)) gf_X9_114 (hm_M f σ) rfl dX9_escapedFor_166 ?_
  refine aw_iload_n C dX9_escapedFor_169 rfl ?_
  refine aw_ald_n C dX9_escapedFor_170 rfl ?_
  refine aw_get C (v := .ref (rAid 47)) gf_X9_117 (hm_M f σ) rfl dX9_escapedFor_171 ?_
  obtain ⟨r1, h1, h⟩ := Option.bind_eq_some_iff.mp h
  refine aw_callV C (ci := 9) (b := 181) [.int s1, .int s2, .int s3, .ref (rAid 46), .int v3, .ref (rAid 47)] mv_X9_279 rfl rfl (hm_M f σ) (rmX9_escapes rfl rfl h1) rfl dX9_escapedFor_174 (Nat.le_of_ble_eq_true rfl) (Nat.le_of_ble_eq_true rfl) rfl (Nat.le_of_ble_eq_true rfl) (Nat.le_of_ble_eq_true rfl) (Nat.le_of_ble_eq_true rfl) (fun v9 f9 n9 hh => ?_)
  obtain ⟨rfl, rfl, rfl⟩ := hh
  cases h
  exact aw_iret C rfl rfl dX9_escapedFor_177 (Nat.le_refl _) (Nat.le_refl _) ⟨rfl, rfl, rfl⟩
def mX9_escapedFor_b150 (v1 : Int32) (v3 : Int32) (s1 : Int32) (s2 : Int32) (σ : RS9) : Option (Int32 × RS9) := rCk (rIn v1 (rLen 38)) ((if (rGa σ 38 v1) = (1 : Int32) then mX9_escapedFor_b165 v3 s1 s2 (1 : Int32) σ else mX9_escapedFor_b165 v3 s1 s2 (0 : Int32) σ))
set_option maxHeartbeats 1000000 in
theorem rmX9_escapedFor_b150 {X : GX} {p : Program} {l : Launch} {e : Env} {s : State} {m : MethodId} {args : Array Value} {below : List Frame} {meth : Method} {c : Code} {f : AH} {n : Nat} {r : Int32 × RS9} {v1 : Int32} {v3 : Int32} {s1 : Int32} {s2 : Int32} {σ : RS9} (C : CC X p l (RM 7 0 0) s m args meth c RX9 cX9_escapedFor 4 (some .int)) (h : mX9_escapedFor_b150 v1 v3 s1 s2 σ = some r) : AW X p l e (RM 7 0 0) s m args below meth c 4 (ZM X below args s 0 0 (QMi f n r)) (rHm f σ) n 0 0 150 [some (.ref 181), some (.int v1), none, some (.int v3)] [.int s2, .int s1, .ref 181] := by
  have h : rCk (rIn v1 (rLen 38)) ((if (rGa σ 38 v1) = (1 : Int32) then mX9_escapedFor_b165 v3 s1 s2 (1 : Int32) σ else mX9_escapedFor_b165 v3 s1 s2 (0 : Int32) σ)) = some r := h
  refine aw_ald_n C dX9_escapedFor_150 rfl ?_
  refine aw_get C (v := .ref (rAid 38)) gf_X9_93 (hm_M f σ) rfl dX9_escapedFor_151 ?_
  refine aw_iload_n C dX9_escapedFor_154 rfl ?_
  obtain ⟨hb1, h⟩ := ck_some h
  refine am_iald C (rGa σ 38 v1) rfl (inb_vp hb1) rfl dX9_escapedFor_155 ?_
  refine aw_iconst C 1 dX9_escapedFor_156 ki_1 ?_
  refine aw_icmp_ne C 164 dX9_escapedFor_157 (by decide) (fun q => ?_) (fun q => ?_)
  · rw [if_neg q] at h
    refine aw_iconst C 0 dX9_escapedFor_164 ki_0 ?_
    refine aw_fl [some (.ref 181), none, none, some (.int v3)] ⟨rfl, ⟨rfl, trivial⟩⟩ ?_
    exact rmX9_escapedFor_b165 C h
  · rw [if_pos q] at h
    refine aw_iconst C 1 dX9_escapedFor_160 ki_1 ?_
    refine aw_goto C 165 dX9_escapedFor_161 (by decide) ?_
    refine aw_fl [some (.ref 181), none, none, some (.int v3)] ⟨rfl, ⟨rfl, trivial⟩⟩ ?_
    exact rmX9_escapedFor_b165 C h
def mX9_escapedFor_b128 (v1 : Int32) (v3 : Int32) (σ : RS9) : Option (Int32 × RS9) := rCk (rIn (1 : Int32) (rLen 1)) (rCk (rIn v1 (rLen 36)) ((if (rGa σ 36 v1) = (1 : Int32) then mX9_escapedFor_b150 v1 v3 (rGa σ 1 (1 : Int32)) (1 : Int32) σ else mX9_escapedFor_b150 v1 v3 (rGa σ 1 (1 : Int32)) (0 : Int32) σ)))
set_option maxHeartbeats 1000000 in
theorem rmX9_escapedFor_b128 {X : GX} {p : Program} {l : Launch} {e : Env} {s : State} {m : MethodId} {args : Array Value} {below : List Frame} {meth : Method} {c : Code} {f : AH} {n : Nat} {r : Int32 × RS9} {v1 : Int32} {v3 : Int32} {σ : RS9} (C : CC X p l (RM 7 0 0) s m args meth c RX9 cX9_escapedFor 4 (some .int)) (h : mX9_escapedFor_b128 v1 v3 σ = some r) : AW X p l e (RM 7 0 0) s m args below meth c 4 (ZM X below args s 0 0 (QMi f n r)) (rHm f σ) n 0 0 128 [some (.ref 181), some (.int v1), none, some (.int v3)] [] := by
  have h : rCk (rIn (1 : Int32) (rLen 1)) (rCk (rIn v1 (rLen 36)) ((if (rGa σ 36 v1) = (1 : Int32) then mX9_escapedFor_b150 v1 v3 (rGa σ 1 (1 : Int32)) (1 : Int32) σ else mX9_escapedFor_b150 v1 v3 (rGa σ 1 (1 : Int32)) (0 : Int32) σ))) = some r := h
  refine aw_ald_n C dX9_escapedFor_128 rfl ?_
  refine aw_ald_n C dX9_escapedFor_129 rfl ?_
  refine aw_get C (v := .ref (rAid 1)) gf_X9_7 (hm_M f σ) rfl dX9_escapedFor_130 ?_
  refine aw_iconst C 1 dX9_escapedFor_133 ki_1 ?_
  obtain ⟨hb1, h⟩ := ck_some h
  refine am_iald C (rGa σ 1 (1 : Int32)) rfl (inb_vp hb1) rfl dX9_escapedFor_134 ?_
  refine aw_ald_n C dX9_escapedFor_135 rfl ?_
  refine aw_get C (v := .ref (rAid 36)) gf_X9_87 (hm_M f σ) rfl dX9_escapedFor_136 ?_
  refine aw_iload_n C dX9_escapedFor_139 rfl ?_
  obtain ⟨hb2, h⟩ := ck_some h
  refine am_iald C (rGa σ 36 v1) rfl (inb_vp hb2) rfl dX9_escapedFor_140 ?_
  refine aw_iconst C 1 dX9_escapedFor_141 ki_1 ?_
  refine aw_icmp_ne C 149 dX9_escapedFor_142 (by decide) (fun q => ?_) (fun q => ?_)
  · rw [if_neg q] at h
    refine aw_iconst C 0 dX9_escapedFor_149 ki_0 ?_
    refine aw_fl [some (.ref 181), some (.int v1), none, some (.int v3)] ⟨rfl, ⟨rfl, ⟨rfl, trivial⟩⟩⟩ ?_
    exact rmX9_escapedFor_b150 C h
  · rw [if_pos q] at h
    refine aw_iconst C 1 dX9_escapedFor_145 ki_1 ?_
    refine aw_goto C 150 dX9_escapedFor_146 (by decide) ?_
    refine aw_fl [some (.ref 181), some (.int v1), none, some (.int v3)] ⟨rfl, ⟨rfl, ⟨rfl, trivial⟩⟩⟩ ?_
    exact rmX9_escapedFor_b150 C h
def mX9_escapedFor_b82 (v1 : Int32) (v2 : Int32) (s1 : Int32) (s2 : Int32) (σ : RS9) : Option (Int32 × RS9) := ((mX9_escapes s1 s2 (1 : Int32) 53 v2 46 σ).bind fun r1 => rCk (rIn (1 : Int32) (rLen 1)) ((if (rGa r1.2 1 (1 : Int32)) = (1 : Int32) then rCk (rIn v1 (rLen 36)) ((if (rGa r1.2 36 v1) = (0 : Int32) then ((mX9_hasSign 46 r1.1 r1.2).bind fun r4 => (if r4.1 = (0 : Int32) then mX9_escapedFor_b128 v1 r1.1 r4.2 else some ((-1 : Int32), r4.2))) else mX9_escapedFor_b128 v1 r1.1 r1.2)) else mX9_escapedFor_b128 v1 r1.1 r1.2)))
set_option maxHeartbeats 1000000 in
theorem rmX9_escapedFor_b82 {X : GX} {p : Program} {l : Launch} {e : Env} {s : State} {m : MethodId} {args : Array Value} {below : List Frame} {meth : Method} {c : Code} {f : AH} {n : Nat} {r : Int32 × RS9} {v1 : Int32} {v2 : Int32} {s1 : Int32} {s2 : Int32} {σ : RS9} (C : CC X p l (RM 7 0 0) s m args meth c RX9 cX9_escapedFor 4 (some .int)) (h : mX9_escapedFor_b82 v1 v2 s1 s2 σ = some r) : AW X p l e (RM 7 0 0) s m args below meth c 4 (ZM X below args s 0 0 (QMi f n r)) (rHm f σ) n 0 0 82 [some (.ref 181), some (.int v1), some (.int v2), none] [.int s2, .int s1, .ref 181] := by
  have h : ((mX9_escapes s1 s2 (1 : Int32) 53 v2 46 σ).bind fun r1 => rCk (rIn (1 : Int32) (rLen 1)) ((if (rGa r1.2 1 (1 : Int32)) = (1 : Int32) then rCk (rIn v1 (rLen 36)) ((if (rGa r1.2 36 v1) = (0 : Int32) then ((mX9_hasSign 46 r1.1 r1.2).bind fun r4 => (if r4.1 = (0 : Int32) then mX9_escapedFor_b128 v1 r1.1 r4.2 else some ((-1 : Int32), r4.2))) else mX9_escapedFor_b128 v1 r1.1 r1.2)) else mX9_escapedFor_b128 v1 r1.1 r1.2))) = some r := h
  refine aw_iconst C 1 dX9_escapedFor_82 ki_1 ?_
  refine aw_ald_n C dX9_escapedFor_83 rfl ?_
  refine aw_get C (v := .ref (rAid 53)) gf_X9_132 (hm_M f σ) rfl dX9_escapedFor_84 ?_
  refine aw_iload_n C dX9_escapedFor_87 rfl ?_
  refine aw_ald_n C dX9_escapedFor_88 rfl ?_
  refine aw_get C (v := .ref (rAid 46)) gf_X9_114 (hm_M f σ) rfl dX9_escapedFor_89 ?_
  obtain ⟨r1, h1, h⟩ := Option.bind_eq_some_iff.mp h
  refine aw_callV C (ci := 9) (b := 181) [.int s1, .int s2, .int (1 : Int32), .ref (rAid 53), .int v2, .ref (rAid 46)] mv_X9_279 rfl rfl (hm_M f σ) (rmX9_escapes rfl rfl h1) rfl dX9_escapedFor_92 (Nat.le_of_ble_eq_true rfl) (Nat.le_of_ble_eq_true rfl) rfl (Nat.le_of_ble_eq_true rfl) (Nat.le_of_ble_eq_true rfl) (Nat.le_of_ble_eq_true rfl) (fun v9 f9 n9 hh => ?_)
  obtain ⟨rfl, rfl, rfl⟩ := hh
  refine aw_istore_n C dX9_escapedFor_95 (by decide) rfl ?_
  refine aw_nl [some (.ref 181), some (.int v1), some (.int v2), some (.int r1.1)] rfl ?_
  refine aw_ald_n C dX9_escapedFor_96 rfl ?_
  refine aw_get C (v := .ref (rAid 1)) gf_X9_7 (hm_M f r1.2) rfl dX9_escapedFor_97 ?_
  refine aw_iconst C 1 dX9_escapedFor_100 ki_1 ?_
  obtain ⟨hb2, h⟩ := ck_some h
  refine am_iald C (rGa r1.2 1 (1 : Int32)) rfl (inb_vp hb2) rfl dX9_escapedFor_101 ?_
  refine aw_iconst C 1 dX9_escapedFor_102 ki_1 ?_
  refine aw_icmp_ne C 128 dX9_escapedFor_103 (by decide) (fun q => ?_) (fun q => ?_)
  · rw [if_neg q] at h
    refine aw_fl [some (.ref 181), some (.int v1), none, some (.int r1.1)] ⟨rfl, ⟨rfl, ⟨rfl, trivial⟩⟩⟩ ?_
    exact rmX9_escapedFor_b128 C h
  · rw [if_pos q] at h
    refine aw_ald_n C dX9_escapedFor_106 rfl ?_
    refine aw_get C (v := .ref (rAid 36)) gf_X9_87 (hm_M f r1.2) rfl dX9_escapedFor_107 ?_
    refine aw_iload_n C dX9_escapedFor_110 rfl ?_
    obtain ⟨hb3, h⟩ := ck_some h
    refine am_iald C (rGa r1.2 36 v1) rfl (inb_vp hb3) rfl dX9_escapedFor_111 ?_
    refine aw_if_ne C 128 dX9_escapedFor_112 (by decide) (fun q => ?_) (fun q => ?_)
    · rw [if_neg q] at h
      refine aw_fl [some (.ref 181), some (.int v1), none, some (.int r1.1)] ⟨rfl, ⟨rfl, ⟨rfl, trivial⟩⟩⟩ ?_
      exact rmX9_escapedFor_b128 C h
    · rw [if_pos q] at h
      refine aw_ald_n C dX9_escapedFor_115 rfl ?_
      refine aw_get C (v := .ref (rAid 46)) gf_X9_114 (hm_M f r1.2) rfl dX9_escapedFor_116 ?_
      refine aw_iload_n C dX9_escapedFor_119 rfl ?_
      obtain ⟨r4, h4, h⟩ := Option.bind_eq_some_iff.mp h
      refine aw_callS C [.ref (rAid 46), .int r1.1] ms_X9_269 (rmX9_hasSign rfl h4) rfl dX9_escapedFor_120 (Nat.le_of_ble_eq_true rfl) (Nat.le_of_ble_eq_true rfl) rfl (Nat.le_of_ble_eq_true rfl) (Nat.le_of_ble_eq_true rfl) (Nat.le_of_ble_eq_true rfl) (fun v9 f9 n9 hh => ?_)
      obtain ⟨rfl, rfl, rfl⟩ := hh
      refine aw_if_eq C 128 dX9_escapedFor_123 (by decide) (fun q => ?_) (fun q => ?_)
      · rw [if_pos q] at h
        refine aw_fl [some (.ref 181), some (.int v1), none, some (.int r1.1)] ⟨rfl, ⟨rfl, ⟨rfl, trivial⟩⟩⟩ ?_
        exact rmX9_escapedFor_b128 C h
      · rw [if_neg q] at h
        refine aw_iconst C (-1) dX9_escapedFor_126 ki_m1 ?_
        cases h
        exact aw_iret C rfl rfl dX9_escapedFor_127 (Nat.le_refl _) (Nat.le_refl _) ⟨rfl, rfl, rfl⟩
def mX9_escapedFor_b47 (v2 : Int32) (s1 : Int32) (s2 : Int32) (s3 : Int32) (σ : RS9) : Option (Int32 × RS9) := ((mX9_escapes s1 s2 s3 53 v2 47 σ).bind fun r1 => some (r1.1, r1.2))
set_option maxHeartbeats 1000000 in
theorem rmX9_escapedFor_b47 {X : GX} {p : Program} {l : Launch} {e : Env} {s : State} {m : MethodId} {args : Array Value} {below : List Frame} {meth : Method} {c : Code} {f : AH} {n : Nat} {r : Int32 × RS9} {v2 : Int32} {s1 : Int32} {s2 : Int32} {s3 : Int32} {σ : RS9} (C : CC X p l (RM 7 0 0) s m args meth c RX9 cX9_escapedFor 4 (some .int)) (h : mX9_escapedFor_b47 v2 s1 s2 s3 σ = some r) : AW X p l e (RM 7 0 0) s m args below meth c 4 (ZM X below args s 0 0 (QMi f n r)) (rHm f σ) n 0 0 47 [some (.ref 181), none, some (.int v2), none] [.int s3, .int s2, .int s1, .ref 181] := by
  have h : ((mX9_escapes s1 s2 s3 53 v2 47 σ).bind fun r1 => some (r1.1, r1.2)) = some r := h
  refine aw_ald_n C dX9_escapedFor_47 rfl ?_
  refine aw_get C (v := .ref (rAid 53)) gf_X9_132 (hm_M f σ) rfl dX9_escapedFor_48 ?_
  refine aw_iload_n C dX9_escapedFor_51 rfl ?_
  refine aw_ald_n C dX9_escapedFor_52 rfl ?_
  refine aw_get C (v := .ref (rAid 47)) gf_X9_117 (hm_M f σ) rfl dX9_escapedFor_53 ?_
  obtain ⟨r1, h1, h⟩ := Option.bind_eq_some_iff.mp h
  refine aw_callV C (ci := 9) (b := 181) [.int s1, .int s2, .int s3, .ref (rAid 53), .int v2, .ref (rAid 47)] mv_X9_279 rfl rfl (hm_M f σ) (rmX9_escapes rfl rfl h1) rfl dX9_escapedFor_56 (Nat.le_of_ble_eq_true rfl) (Nat.le_of_ble_eq_true rfl) rfl (Nat.le_of_ble_eq_true rfl) (Nat.le_of_ble_eq_true rfl) (Nat.le_of_ble_eq_true rfl) (fun v9 f9 n9 hh => ?_)
  obtain ⟨rfl, rfl, rfl⟩ := hh
  cases h
  exact aw_iret C rfl rfl dX9_escapedFor_59 (Nat.le_refl _) (Nat.le_refl _) ⟨rfl, rfl, rfl⟩
def mX9_escapedFor_b32 (v1 : Int32) (v2 : Int32) (s1 : Int32) (s2 : Int32) (σ : RS9) : Option (Int32 × RS9) := rCk (rIn v1 (rLen 38)) ((if (rGa σ 38 v1) = (1 : Int32) then mX9_escapedFor_b47 v2 s1 s2 (1 : Int32) σ else mX9_escapedFor_b47 v2 s1 s2 (0 : Int32) σ))
set_option maxHeartbeats 1000000 in
theorem rmX9_escapedFor_b32 {X : GX} {p : Program} {l : Launch} {e : Env} {s : State} {m : MethodId} {args : Array Value} {below : List Frame} {meth : Method} {c : Code} {f : AH} {n : Nat} {r : Int32 × RS9} {v1 : Int32} {v2 : Int32} {s1 : Int32} {s2 : Int32} {σ : RS9} (C : CC X p l (RM 7 0 0) s m args meth c RX9 cX9_escapedFor 4 (some .int)) (h : mX9_escapedFor_b32 v1 v2 s1 s2 σ = some r) : AW X p l e (RM 7 0 0) s m args below meth c 4 (ZM X below args s 0 0 (QMi f n r)) (rHm f σ) n 0 0 32 [some (.ref 181), some (.int v1), some (.int v2), none] [.int s2, .int s1, .ref 181] := by
  have h : rCk (rIn v1 (rLen 38)) ((if (rGa σ 38 v1) = (1 : Int32) then mX9_escapedFor_b47 v2 s1 s2 (1 : Int32) σ else mX9_escapedFor_b47 v2 s1 s2 (0 : Int32) σ)) = some r := h
  refine aw_ald_n C dX9_escapedFor_32 rfl ?_
  refine aw_get C (v := .ref (rAid 38)) gf_X9_93 (hm_M f σ) rfl dX9_escapedFor_33 ?_
  refine aw_iload_n C dX9_escapedFor_36 rfl ?_
  obtain ⟨hb1, h⟩ := ck_some h
  refine am_iald C (rGa σ 38 v1) rfl (inb_vp hb1) rfl dX9_escapedFor_37 ?_
  refine aw_iconst C 1 dX9_escapedFor_38 ki_1 ?_
  refine aw_icmp_ne C 46 dX9_escapedFor_39 (by decide) (fun q => ?_) (fun q => ?_)
  · rw [if_neg q] at h
    refine aw_iconst C 0 dX9_escapedFor_46 ki_0 ?_
    refine aw_fl [some (.ref 181), none, some (.int v2), none] ⟨rfl, ⟨rfl, trivial⟩⟩ ?_
    exact rmX9_escapedFor_b47 C h
  · rw [if_pos q] at h
    refine aw_iconst C 1 dX9_escapedFor_42 ki_1 ?_
    refine aw_goto C 47 dX9_escapedFor_43 (by decide) ?_
    refine aw_fl [some (.ref 181), none, some (.int v2), none] ⟨rfl, ⟨rfl, trivial⟩⟩ ?_
    exact rmX9_escapedFor_b47 C h
def mX9_escapedFor (v1 : Int32) (v2 : Int32) (σ : RS9) : Option (Int32 × RS9) := rCk (rIn (2 : Int32) (rLen 1)) ((if (rGa σ 1 (2 : Int32)) = (-1 : Int32) then rCk (rIn (1 : Int32) (rLen 1)) (rCk (rIn v1 (rLen 36)) ((if (rGa σ 36 v1) = (1 : Int32) then mX9_escapedFor_b32 v1 v2 (rGa σ 1 (1 : Int32)) (1 : Int32) σ else mX9_escapedFor_b32 v1 v2 (rGa σ 1 (1 : Int32)) (0 : Int32) σ))) else rCk (rIn (2 : Int32) (rLen 1)) (rCk (rIn v1 (rLen 37)) ((if (rGa σ 37 v1) = (1 : Int32) then mX9_escapedFor_b82 v1 v2 (rGa σ 1 (2 : Int32)) (1 : Int32) σ else mX9_escapedFor_b82 v1 v2 (rGa σ 1 (2 : Int32)) (0 : Int32) σ)))))
set_option maxHeartbeats 1000000 in
theorem rmX9_escapedFor {X : GX} {l : Launch} {f : AH} {n : Nat} {r : Int32 × RS9} {v1 : Int32} {v2 : Int32} {σ : RS9} (h : mX9_escapedFor v1 v2 σ = some r) : AM X l yX9_escapedFor cX9_escapedFor 4 (some .int) 7 0 0 [.ref 181, .int v1, .int v2] (rHm f σ) n (QMi f n r) := by
  have h : rCk (rIn (2 : Int32) (rLen 1)) ((if (rGa σ 1 (2 : Int32)) = (-1 : Int32) then rCk (rIn (1 : Int32) (rLen 1)) (rCk (rIn v1 (rLen 36)) ((if (rGa σ 36 v1) = (1 : Int32) then mX9_escapedFor_b32 v1 v2 (rGa σ 1 (1 : Int32)) (1 : Int32) σ else mX9_escapedFor_b32 v1 v2 (rGa σ 1 (1 : Int32)) (0 : Int32) σ))) else rCk (rIn (2 : Int32) (rLen 1)) (rCk (rIn v1 (rLen 37)) ((if (rGa σ 37 v1) = (1 : Int32) then mX9_escapedFor_b82 v1 v2 (rGa σ 1 (2 : Int32)) (1 : Int32) σ else mX9_escapedFor_b82 v1 v2 (rGa σ 1 (2 : Int32)) (0 : Int32) σ))))) = some r := h
  refine AM.of (by decide +kernel) rfl (Nat.le_of_ble_eq_true rfl) (fun p e s m args below meth c C _ => ?_)
  refine aw_nl [some (.ref 181), some (.int v1), some (.int v2), none] rfl ?_
  refine aw_ald_n C dX9_escapedFor_0 rfl ?_
  refine aw_get C (v := .ref (rAid 1)) gf_X9_7 (hm_M f σ) rfl dX9_escapedFor_1 ?_
  refine aw_iconst C 2 dX9_escapedFor_4 ki_2 ?_
  obtain ⟨hb1, h⟩ := ck_some h
  refine am_iald C (rGa σ 1 (2 : Int32)) rfl (inb_vp hb1) rfl dX9_escapedFor_5 ?_
  refine aw_iconst C (-1) dX9_escapedFor_6 ki_m1 ?_
  refine aw_icmp_ne C 60 dX9_escapedFor_7 (by decide) (fun q => ?_) (fun q => ?_)
  · rw [if_neg q] at h
    refine aw_ald_n C dX9_escapedFor_60 rfl ?_
    refine aw_ald_n C dX9_escapedFor_61 rfl ?_
    refine aw_get C (v := .ref (rAid 1)) gf_X9_7 (hm_M f σ) rfl dX9_escapedFor_62 ?_
    refine aw_iconst C 2 dX9_escapedFor_65 ki_2 ?_
    obtain ⟨hb2, h⟩ := ck_some h
    refine am_iald C (rGa σ 1 (2 : Int32)) rfl (inb_vp hb2) rfl dX9_escapedFor_66 ?_
    refine aw_ald_n C dX9_escapedFor_67 rfl ?_
    refine aw_get C (v := .ref (rAid 37)) gf_X9_90 (hm_M f σ) rfl dX9_escapedFor_68 ?_
    refine aw_iload_n C dX9_escapedFor_71 rfl ?_
    obtain ⟨hb3, h⟩ := ck_some h
    refine am_iald C (rGa σ 37 v1) rfl (inb_vp hb3) rfl dX9_escapedFor_72 ?_
    refine aw_iconst C 1 dX9_escapedFor_73 ki_1 ?_
    refine aw_icmp_ne C 81 dX9_escapedFor_74 (by decide) (fun q => ?_) (fun q => ?_)
    · rw [if_neg q] at h
      refine aw_iconst C 0 dX9_escapedFor_81 ki_0 ?_
      refine aw_fl [some (.ref 181), some (.int v1), some (.int v2), none] ⟨rfl, ⟨rfl, ⟨rfl, trivial⟩⟩⟩ ?_
      exact rmX9_escapedFor_b82 C h
    · rw [if_pos q] at h
      refine aw_iconst C 1 dX9_escapedFor_77 ki_1 ?_
      refine aw_goto C 82 dX9_escapedFor_78 (by decide) ?_
      refine aw_fl [some (.ref 181), some (.int v1), some (.int v2), none] ⟨rfl, ⟨rfl, ⟨rfl, trivial⟩⟩⟩ ?_
      exact rmX9_escapedFor_b82 C h
  · rw [if_pos q] at h
    refine aw_ald_n C dX9_escapedFor_10 rfl ?_
    refine aw_ald_n C dX9_escapedFor_11 rfl ?_
    refine aw_get C (v := .ref (rAid 1)) gf_X9_7 (hm_M f σ) rfl dX9_escapedFor_12 ?_
    refine aw_iconst C 1 dX9_escapedFor_15 ki_1 ?_
    obtain ⟨hb4, h⟩ := ck_some h
    refine am_iald C (rGa σ 1 (1 : Int32)) rfl (inb_vp hb4) rfl dX9_escapedFor_16 ?_
    refine aw_ald_n C dX9_escapedFor_17 rfl ?_
    refine aw_get C (v := .ref (rAid 36)) gf_X9_87 (hm_M f σ) rfl dX9_escapedFor_18 ?_
    refine aw_iload_n C dX9_escapedFor_21 rfl ?_
    obtain ⟨hb5, h⟩ := ck_some h
    refine am_iald C (rGa σ 36 v1) rfl (inb_vp hb5) rfl dX9_escapedFor_22 ?_
    refine aw_iconst C 1 dX9_escapedFor_23 ki_1 ?_
    refine aw_icmp_ne C 31 dX9_escapedFor_24 (by decide) (fun q => ?_) (fun q => ?_)
    · rw [if_neg q] at h
      refine aw_iconst C 0 dX9_escapedFor_31 ki_0 ?_
      refine aw_fl [some (.ref 181), some (.int v1), some (.int v2), none] ⟨rfl, ⟨rfl, ⟨rfl, trivial⟩⟩⟩ ?_
      exact rmX9_escapedFor_b32 C h
    · rw [if_pos q] at h
      refine aw_iconst C 1 dX9_escapedFor_27 ki_1 ?_
      refine aw_goto C 32 dX9_escapedFor_28 (by decide) ?_
      refine aw_fl [some (.ref 181), some (.int v1), some (.int v2), none] ⟨rfl, ⟨rfl, ⟨rfl, trivial⟩⟩⟩ ?_
      exact rmX9_escapedFor_b32 C h
def mX9_builtOf (v1 : Int32) (σ : RS9) : Option (Int32 × RS9) := ((mX9_toldOf v1 σ).bind fun r1 => (if r1.1 = (-1 : Int32) then rCk (rIn v1 (rLen 35)) (rCk (rIn v1 (rLen 34)) (some (((rGa r1.2 35 v1) - (rGa r1.2 34 v1)), r1.2))) else ((mX9_holdsTold v1 r1.2).bind fun r2 => ((mX9_toldOf v1 r2.2).bind fun r3 => ((mX9_escapedFor v1 r3.1 r3.2).bind fun r4 => some (r4.1, r4.2))))))
set_option maxHeartbeats 1000000 in
theorem rmX9_builtOf {X : GX} {l : Launch} {f : AH} {n : Nat} {r : Int32 × RS9} {v1 : Int32} {σ : RS9} (h : mX9_builtOf v1 σ = some r) : AM X l yX9_builtOf cX9_builtOf 2 (some .int) 8 0 0 [.ref 181, .int v1] (rHm f σ) n (QMi f n r) := by
  have h : ((mX9_toldOf v1 σ).bind fun r1 => (if r1.1 = (-1 : Int32) then rCk (rIn v1 (rLen 35)) (rCk (rIn v1 (rLen 34)) (some (((rGa r1.2 35 v1) - (rGa r1.2 34 v1)), r1.2))) else ((mX9_holdsTold v1 r1.2).bind fun r2 => ((mX9_toldOf v1 r2.2).bind fun r3 => ((mX9_escapedFor v1 r3.1 r3.2).bind fun r4 => some (r4.1, r4.2)))))) = some r := h
  refine AM.of (by decide +kernel) rfl (Nat.le_of_ble_eq_true rfl) (fun p e s m args below meth c C _ => ?_)
  refine aw_nl [some (.ref 181), some (.int v1)] rfl ?_
  refine aw_ald_n C dX9_builtOf_0 rfl ?_
  refine aw_iload_n C dX9_builtOf_1 rfl ?_
  obtain ⟨r1, h1, h⟩ := Option.bind_eq_some_iff.mp h
  refine aw_callV C (ci := 9) (b := 181) [.int v1] mv_X9_247 rfl rfl (hm_M f σ) (rmX9_toldOf h1) rfl dX9_builtOf_2 (Nat.le_of_ble_eq_true rfl) (Nat.le_of_ble_eq_true rfl) rfl (Nat.le_of_ble_eq_true rfl) (Nat.le_of_ble_eq_true rfl) (Nat.le_of_ble_eq_true rfl) (fun v9 f9 n9 hh => ?_)
  obtain ⟨rfl, rfl, rfl⟩ := hh
  refine aw_iconst C (-1) dX9_builtOf_5 ki_m1 ?_
  refine aw_icmp_ne C 23 dX9_builtOf_6 (by decide) (fun q => ?_) (fun q => ?_)
  · rw [if_neg q] at h
    refine aw_ald_n C dX9_builtOf_23 rfl ?_
    refine aw_iload_n C dX9_builtOf_24 rfl ?_
    obtain ⟨r2, h2, h⟩ := Option.bind_eq_some_iff.mp h
    refine aw_callV C (ci := 9) (b := 181) [.int v1] mv_X9_283 rfl rfl (hm_M f r1.2) (rmX9_holdsTold h2) rfl dX9_builtOf_25 (Nat.le_of_ble_eq_true rfl) (Nat.le_of_ble_eq_true rfl) rfl (Nat.le_of_ble_eq_true rfl) (Nat.le_of_ble_eq_true rfl) (Nat.le_of_ble_eq_true rfl) (fun v9 f9 n9 hh => ?_)
    obtain ⟨rfl, rfl, rfl⟩ := hh
    refine aw_ald_n C dX9_builtOf_28 rfl ?_
    refine aw_iload_n C dX9_builtOf_29 rfl ?_
    refine aw_ald_n C dX9_builtOf_30 rfl ?_
    refine aw_iload_n C dX9_builtOf_31 rfl ?_
    obtain ⟨r3, h3, h⟩ := Option.bind_eq_some_iff.mp h
    refine aw_callV C (ci := 9) (b := 181) [.int v1] mv_X9_247 rfl rfl (hm_M f r2.2) (rmX9_toldOf h3) rfl dX9_builtOf_32 (Nat.le_of_ble_eq_true rfl) (Nat.le_of_ble_eq_true rfl) rfl (Nat.le_of_ble_eq_true rfl) (Nat.le_of_ble_eq_true rfl) (Nat.le_of_ble_eq_true rfl) (fun v9 f9 n9 hh => ?_)
    obtain ⟨rfl, rfl, rfl⟩ := hh
    obtain ⟨r4, h4, h⟩ := Option.bind_eq_some_iff.mp h
    refine aw_callV C (ci := 9) (b := 181) [.int v1, .int r3.1] mv_X9_287 rfl rfl (hm_M f r3.2) (rmX9_escapedFor h4) rfl dX9_builtOf_35 (Nat.le_of_ble_eq_true rfl) (Nat.le_of_ble_eq_true rfl) rfl (Nat.le_of_ble_eq_true rfl) (Nat.le_of_ble_eq_true rfl) (Nat.le_of_ble_eq_true rfl) (fun v9 f9 n9 hh => ?_)
    obtain ⟨rfl, rfl, rfl⟩ := hh
    cases h
    exact aw_iret C rfl rfl dX9_builtOf_38 (Nat.le_refl _) (Nat.le_refl _) ⟨rfl, rfl, rfl⟩
  · rw [if_pos q] at h
    refine aw_ald_n C dX9_builtOf_9 rfl ?_
    refine aw_get C (v := .ref (rAid 35)) gf_X9_84 (hm_M f r1.2) rfl dX9_builtOf_10 ?_
    refine aw_iload_n C dX9_builtOf_13 rfl ?_
    obtain ⟨hb5, h⟩ := ck_some h
    refine am_iald C (rGa r1.2 35 v1) rfl (inb_vp hb5) rfl dX9_builtOf_14 ?_
    refine aw_ald_n C dX9_builtOf_15 rfl ?_
    refine aw_get C (v := .ref (rAid 34)) gf_X9_81 (hm_M f r1.2) rfl dX9_builtOf_16 ?_
    refine aw_iload_n C dX9_builtOf_19 rfl ?_
    obtain ⟨hb6, h⟩ := ck_some h
    refine am_iald C (rGa r1.2 34 v1) rfl (inb_vp hb6) rfl dX9_builtOf_20 ?_
    refine aw_isub C dX9_builtOf_21 ?_
    cases h
    exact aw_iret C rfl rfl dX9_builtOf_22 (Nat.le_refl _) (Nat.le_refl _) ⟨rfl, rfl, rfl⟩
end
/-! part 22ce.ref -/
section
def mX9_builtMany_l9 : Nat → Int32 → Int32 → RS9 → Option (Int32 × RS9)
  | 0, _, _, _ => none
  | d + 1, v1, v2, σ => (if (σ.1 33) ≤ v2 then some (v1, σ) else ((mX9_builtOf v2 σ).bind fun r1 => rCk (rIn v2 (rLen 35)) (rCk (rIn v2 (rLen 34)) (mX9_builtMany_l9 d (v1 + (r1.1 - ((rGa r1.2 35 v2) - (rGa r1.2 34 v2)))) (v2 + (1 : Int32)) r1.2))))
set_option maxHeartbeats 1000000 in
theorem rmX9_builtMany_l9 {X : GX} {p : Program} {l : Launch} {e : Env} {s : State} {m : MethodId} {args : Array Value} {below : List Frame} {meth : Method} {c : Code} {f : AH} {n : Nat} {r : Int32 × RS9} (C : CC X p l (RM 9 0 0) s m args meth c RX9 cX9_builtMany 3 (some .int)) : ∀ (d : Nat) (v1 : Int32) (v2 : Int32) (σ : RS9) (_ : mX9_builtMany_l9 d v1 v2 σ = some r), AW X p l e (RM 9 0 0) s m args below meth c 3 (ZM X below args s 0 0 (QMi f n r)) (rHm f σ) n 0 0 9 [some (.ref 181), some (.int v1), some (.int v2)] [] := by
  intro d
  induction d with
  | zero =>
    intro v1 v2 σ h
    exact nomatch (show (none : Option (Int32 × RS9)) = some r from h)
  | succ d ih =>
    intro v1 v2 σ h
    have h : (if (σ.1 33) ≤ v2 then some (v1, σ) else ((mX9_builtOf v2 σ).bind fun r1 => rCk (rIn v2 (rLen 35)) (rCk (rIn v2 (rLen 34)) (mX9_builtMany_l9 d (v1 + (r1.1 - ((rGa r1.2 35 v2) - (rGa r1.2 34 v2)))) (v2 + (1 : Int32)) r1.2)))) = some r := h
    refine aw_iload_n C dX9_builtMany_9 rfl ?_
    refine aw_ald_n C dX9_builtMany_10 rfl ?_
    refine aw_get C (v := .int (σ.1 33)) gf_X9_204 (hm_M f σ) rfl dX9_builtMany_11 ?_
    refine aw_icmp_ge C 45 dX9_builtMany_14 (by decide) (fun q => ?_) (fun q => ?_)
    · rw [if_pos q] at h
      refine aw_iload_n C dX9_builtMany_45 rfl ?_
      cases h
      exact aw_iret C rfl rfl dX9_builtMany_46 (Nat.le_refl _) (Nat.le_refl _) ⟨rfl, rfl, rfl⟩
    · rw [if_neg q] at h
      refine aw_iload_n C dX9_builtMany_17 rfl ?_
      refine aw_ald_n C dX9_builtMany_18 rfl ?_
      refine aw_iload_n C dX9_builtMany_19 rfl ?_
      obtain ⟨r1, h1, h⟩ := Option.bind_eq_some_iff.mp h
      refine aw_callV C (ci := 9) (b := 181) [.int v2] mv_X9_290 rfl rfl (hm_M f σ) (rmX9_builtOf h1) rfl dX9_builtMany_20 (Nat.le_of_ble_eq_true rfl) (Nat.le_of_ble_eq_true rfl) rfl (Nat.le_of_ble_eq_true rfl) (Nat.le_of_ble_eq_true rfl) (Nat.le_of_ble_eq_true rfl) (fun v9 f9 n9 hh => ?_)
      obtain ⟨rfl, rfl, rfl⟩ := hh
      refine aw_ald_n C dX9_builtMany_23 rfl ?_
      refine aw_get C (v := .ref (rAid 35)) gf_X9_84 (hm_M f r1.2) rfl dX9_builtMany_24 ?_
      refine aw_iload_n C dX9_builtMany_27 rfl ?_
      obtain ⟨hb2, h⟩ := ck_some h
      refine am_iald C (rGa r1.2 35 v2) rfl (inb_vp hb2) rfl dX9_builtMany_28 ?_
      refine aw_ald_n C dX9_builtMany_29 rfl ?_
      refine aw_get C (v := .ref (rAid 34)) gf_X9_81 (hm_M f r1.2) rfl dX9_builtMany_30 ?_
      refine aw_iload_n C dX9_builtMany_33 rfl ?_
      obtain ⟨hb3, h⟩ := ck_some h
      refine am_iald C (rGa r1.2 34 v2) rfl (inb_vp hb3) rfl dX9_builtMany_34 ?_
      refine aw_isub C dX9_builtMany_35 ?_
      refine aw_isub C dX9_builtMany_36 ?_
      refine aw_iadd C dX9_builtMany_37 ?_
      refine aw_istore_n C dX9_builtMany_38 (by decide) rfl ?_
      refine aw_nl [some (.ref 181), some (.int (v1 + (r1.1 - ((rGa r1.2 35 v2) - (rGa r1.2 34 v2))))), some (.int v2)] rfl ?_
      refine aw_iinc C (v2 + (1 : Int32)) dX9_builtMany_39 rfl (by rw [ki_1]) (by decide) rfl ?_
      refine aw_nl [some (.ref 181), some (.int (v1 + (r1.1 - ((rGa r1.2 35 v2) - (rGa r1.2 34 v2))))), some (.int (v2 + (1 : Int32)))] rfl ?_
      refine aw_goto C 9 dX9_builtMany_42 (by decide) ?_
      refine aw_fl [some (.ref 181), some (.int (v1 + (r1.1 - ((rGa r1.2 35 v2) - (rGa r1.2 34 v2))))), some (.int (v2 + (1 : Int32)))] ⟨rfl, ⟨rfl, ⟨rfl, trivial⟩⟩⟩ ?_
      exact ih (v1 + (r1.1 - ((rGa r1.2 35 v2) - (rGa r1.2 34 v2)))) (v2 + (1 : Int32)) r1.2 h
def mX9_builtMany (σ : RS9) : Option (Int32 × RS9) := rCk (rIn (0 : Int32) (rLen 1)) (mX9_builtMany_l9 rFU (rGa σ 1 (0 : Int32)) (0 : Int32) σ)
set_option maxHeartbeats 1000000 in
theorem rmX9_builtMany {X : GX} {l : Launch} {f : AH} {n : Nat} {r : Int32 × RS9} {σ : RS9} (h : mX9_builtMany σ = some r) : AM X l yX9_builtMany cX9_builtMany 3 (some .int) 9 0 0 [.ref 181] (rHm f σ) n (QMi f n r) := by
  have h : rCk (rIn (0 : Int32) (rLen 1)) (mX9_builtMany_l9 rFU (rGa σ 1 (0 : Int32)) (0 : Int32) σ) = some r := h
  refine AM.of (by decide +kernel) rfl (Nat.le_of_ble_eq_true rfl) (fun p e s m args below meth c C _ => ?_)
  refine aw_nl [some (.ref 181), none, none] rfl ?_
  refine aw_ald_n C dX9_builtMany_0 rfl ?_
  refine aw_get C (v := .ref (rAid 1)) gf_X9_7 (hm_M f σ) rfl dX9_builtMany_1 ?_
  refine aw_iconst C 0 dX9_builtMany_4 ki_0 ?_
  obtain ⟨hb1, h⟩ := ck_some h
  refine am_iald C (rGa σ 1 (0 : Int32)) rfl (inb_vp hb1) rfl dX9_builtMany_5 ?_
  refine aw_istore_n C dX9_builtMany_6 (by decide) rfl ?_
  refine aw_nl [some (.ref 181), some (.int (rGa σ 1 (0 : Int32))), none] rfl ?_
  refine aw_iconst C 0 dX9_builtMany_7 ki_0 ?_
  refine aw_istore_n C dX9_builtMany_8 (by decide) rfl ?_
  refine aw_nl [some (.ref 181), some (.int (rGa σ 1 (0 : Int32))), some (.int (0 : Int32))] rfl ?_
  refine aw_fl [some (.ref 181), some (.int (rGa σ 1 (0 : Int32))), some (.int (0 : Int32))] ⟨rfl, ⟨rfl, ⟨rfl, trivial⟩⟩⟩ ?_
  exact rmX9_builtMany_l9 C rFU (rGa σ 1 (0 : Int32)) (0 : Int32) σ h
def mX9_free0_b50 (s0 : Int32) (σ : RS9) : Option (Int32 × RS9) := some (s0, σ)
set_option maxHeartbeats 1000000 in
theorem rmX9_free0_b50 {X : GX} {p : Program} {l : Launch} {e : Env} {s : State} {m : MethodId} {args : Array Value} {below : List Frame} {meth : Method} {c : Code} {f : AH} {n : Nat} {r : Int32 × RS9} {s0 : Int32} {σ : RS9} (C : CC X p l (RM 10 0 0) s m args meth c RX9 cX9_free0 2 (some .int)) (h : mX9_free0_b50 s0 σ = some r) : AW X p l e (RM 10 0 0) s m args below meth c 2 (ZM X below args s 0 0 (QMi f n r)) (rHm f σ) n 0 0 50 [none, none] [.int s0] := by
  have h : some (s0, σ) = some r := h
  cases h
  exact aw_iret C rfl rfl dX9_free0_50 (Nat.le_refl _) (Nat.le_refl _) ⟨rfl, rfl, rfl⟩
def mX9_free0 (v1 : Int32) (σ : RS9) : Option (Int32 × RS9) := ((mX9_isPieceThere v1 σ).bind fun r1 => (if r1.1 = (0 : Int32) then some ((1 : Int32), r1.2) else ((mX9_toldOf v1 r1.2).bind fun r2 => (if r2.1 = (-1 : Int32) then some ((4 : Int32), r2.2) else rCk (rIn ((443 : Int32) + ((61 : Int32) * v1)) (rLen 1)) (((mX9_builtMany (rSa r2.2 1 ((443 : Int32) + ((61 : Int32) * v1)) (-1 : Int32))).bind fun r4 => (if r4.1 ≤ (600 : Int32) then mX9_free0_b50 (0 : Int32) r4.2 else mX9_free0_b50 (3 : Int32) r4.2)))))))
set_option maxHeartbeats 1000000 in
theorem rmX9_free0 {X : GX} {l : Launch} {f : AH} {n : Nat} {r : Int32 × RS9} {v1 : Int32} {σ : RS9} (h : mX9_free0 v1 σ = some r) : AM X l yX9_free0 cX9_free0 2 (some .int) 10 0 0 [.ref 181, .int v1] (rHm f σ) n (QMi f n r) := by
  have h : ((mX9_isPieceThere v1 σ).bind fun r1 => (if r1.1 = (0 : Int32) then some ((1 : Int32), r1.2) else ((mX9_toldOf v1 r1.2).bind fun r2 => (if r2.1 = (-1 : Int32) then some ((4 : Int32), r2.2) else rCk (rIn ((443 : Int32) + ((61 : Int32) * v1)) (rLen 1)) (((mX9_builtMany (rSa r2.2 1 ((443 : Int32) + ((61 : Int32) * v1)) (-1 : Int32))).bind fun r4 => (if r4.1 ≤ (600 : Int32) then mX9_free0_b50 (0 : Int32) r4.2 else mX9_free0_b50 (3 : Int32) r4.2))))))) = some r := h
  refine AM.of (by decide +kernel) rfl (Nat.le_of_ble_eq_true rfl) (fun p e s m args below meth c C _ => ?_)
  refine aw_nl [some (.ref 181), some (.int v1)] rfl ?_
  refine aw_ald_n C dX9_free0_0 rfl ?_
  refine aw_iload_n C dX9_free0_1 rfl ?_
  obtain ⟨r1, h1, h⟩ := Option.bind_eq_some_iff.mp h
  refine aw_callV C (ci := 9) (b := 181) [.int v1] mv_X9_293 rfl rfl (hm_M f σ) (rmX9_isPieceThere h1) rfl dX9_free0_2 (Nat.le_of_ble_eq_true rfl) (Nat.le_of_ble_eq_true rfl) rfl (Nat.le_of_ble_eq_true rfl) (Nat.le_of_ble_eq_true rfl) (Nat.le_of_ble_eq_true rfl) (fun v9 f9 n9 hh => ?_)
  obtain ⟨rfl, rfl, rfl⟩ := hh
  refine aw_if_ne C 10 dX9_free0_5 (by decide) (fun q => ?_) (fun q => ?_)
  · rw [if_neg q] at h
    refine aw_ald_n C dX9_free0_10 rfl ?_
    refine aw_iload_n C dX9_free0_11 rfl ?_
    obtain ⟨r2, h2, h⟩ := Option.bind_eq_some_iff.mp h
    refine aw_callV C (ci := 9) (b := 181) [.int v1] mv_X9_247 rfl rfl (hm_M f r1.2) (rmX9_toldOf h2) rfl dX9_free0_12 (Nat.le_of_ble_eq_true rfl) (Nat.le_of_ble_eq_true rfl) rfl (Nat.le_of_ble_eq_true rfl) (Nat.le_of_ble_eq_true rfl) (Nat.le_of_ble_eq_true rfl) (fun v9 f9 n9 hh => ?_)
    obtain ⟨rfl, rfl, rfl⟩ := hh
    refine aw_iconst C (-1) dX9_free0_15 ki_m1 ?_
    refine aw_icmp_ne C 21 dX9_free0_16 (by decide) (fun q => ?_) (fun q => ?_)
    · rw [if_neg q] at h
      refine aw_ald_n C dX9_free0_21 rfl ?_
      refine aw_get C (v := .ref (rAid 1)) gf_X9_7 (hm_M f r2.2) rfl dX9_free0_22 ?_
      refine aw_sipush C 443 dX9_free0_25 ks_443 ?_
      refine aw_bipush C 61 dX9_free0_28 kb_61 ?_
      refine aw_iload_n C dX9_free0_30 rfl ?_
      refine aw_imul C dX9_free0_31 ?_
      refine aw_iadd C dX9_free0_32 ?_
      refine aw_iconst C (-1) dX9_free0_33 ki_m1 ?_
      obtain ⟨hb3, h⟩ := ck_some h
      refine am_iast C rfl (inb_vp hb3) dX9_free0_34 ?_
      refine aw_ald_n C dX9_free0_35 rfl ?_
      obtain ⟨r4, h4, h⟩ := Option.bind_eq_some_iff.mp h
      refine aw_callV C (ci := 9) (b := 181) [] mv_X9_300 rfl rfl (hm_M f (rSa r2.2 1 ((443 : Int32) + ((61 : Int32) * v1)) (-1 : Int32))) (rmX9_builtMany h4) rfl dX9_free0_36 (Nat.le_of_ble_eq_true rfl) (Nat.le_of_ble_eq_true rfl) rfl (Nat.le_of_ble_eq_true rfl) (Nat.le_of_ble_eq_true rfl) (Nat.le_of_ble_eq_true rfl) (fun v9 f9 n9 hh => ?_)
      obtain ⟨rfl, rfl, rfl⟩ := hh
      refine aw_sipush C 600 dX9_free0_39 ks_600 ?_
      refine aw_icmp_le C 49 dX9_free0_42 (by decide) (fun q => ?_) (fun q => ?_)
      · rw [if_pos q] at h
        refine aw_iconst C 0 dX9_free0_49 ki_0 ?_
        refine aw_fl [none, none] trivial ?_
        exact rmX9_free0_b50 C h
      · rw [if_neg q] at h
        refine aw_iconst C 3 dX9_free0_45 ki_3 ?_
        refine aw_goto C 50 dX9_free0_46 (by decide) ?_
        refine aw_fl [none, none] trivial ?_
        exact rmX9_free0_b50 C h
    · rw [if_pos q] at h
      refine aw_iconst C 4 dX9_free0_19 ki_4 ?_
      cases h
      exact aw_iret C rfl rfl dX9_free0_20 (Nat.le_refl _) (Nat.le_refl _) ⟨rfl, rfl, rfl⟩
  · rw [if_pos q] at h
    refine aw_iconst C 1 dX9_free0_8 ki_1 ?_
    cases h
    exact aw_iret C rfl rfl dX9_free0_9 (Nat.le_refl _) (Nat.le_refl _) ⟨rfl, rfl, rfl⟩
def mX9_spread0_b113 (s0 : Int32) (σ : RS9) : Option (Int32 × RS9) := some (s0, σ)
set_option maxHeartbeats 1000000 in
theorem rmX9_spread0_b113 {X : GX} {p : Program} {l : Launch} {e : Env} {s : State} {m : MethodId} {args : Array Value} {below : List Frame} {meth : Method} {c : Code} {f : AH} {n : Nat} {r : Int32 × RS9} {s0 : Int32} {σ : RS9} (C : CC X p l (RM 10 0 0) s m args meth c RX9 cX9_spread0 4 (some .int)) (h : mX9_spread0_b113 s0 σ = some r) : AW X p l e (RM 10 0 0) s m args below meth c 4 (ZM X below args s 0 0 (QMi f n r)) (rHm f σ) n 0 0 113 [none, none, none, none] [.int s0] := by
  have h : some (s0, σ) = some r := h
  cases h
  exact aw_iret C rfl rfl dX9_spread0_113 (Nat.le_refl _) (Nat.le_refl _) ⟨rfl, rfl, rfl⟩
def mX9_spread0_b92 (rec39 : Int32 → Int32 → Int32 → RS9 → Option (Int32 × RS9)) (v1 : Int32) (v2 : Int32) (v3 : Int32) (σ : RS9) : Option (Int32 × RS9) := rec39 v1 v2 (v3 + (1 : Int32)) σ
set_option maxHeartbeats 1000000 in
theorem rmX9_spread0_b92 {X : GX} {p : Program} {l : Launch} {e : Env} {s : State} {m : MethodId} {args : Array Value} {below : List Frame} {meth : Method} {c : Code} {f : AH} {n : Nat} {r : Int32 × RS9} {rec39 : Int32 → Int32 → Int32 → RS9 → Option (Int32 × RS9)} {v1 : Int32} {v2 : Int32} {v3 : Int32} {σ : RS9} (C : CC X p l (RM 10 0 0) s m args meth c RX9 cX9_spread0 4 (some .int)) (Hr39 : ∀ (v1 : Int32) (v2 : Int32) (v3 : Int32) (σ : RS9), rec39 v1 v2 v3 σ = some r → AW X p l e (RM 10 0 0) s m args below meth c 4 (ZM X below args s 0 0 (QMi f n r)) (rHm f σ) n 0 0 39 [some (.ref 181), some (.int v1), some (.int v2), some (.int v3)] []) (h : mX9_spread0_b92 rec39 v1 v2 v3 σ = some r) : AW X p l e (RM 10 0 0) s m args below meth c 4 (ZM X below args s 0 0 (QMi f n r)) (rHm f σ) n 0 0 92 [some (.ref 181), some (.int v1), some (.int v2), some (.int v3)] [] := by
  have h : rec39 v1 v2 (v3 + (1 : Int32)) σ = some r := h
  refine aw_iinc C (v3 + (1 : Int32)) dX9_spread0_92 rfl (by rw [ki_1]) (by decide) rfl ?_
  refine aw_nl [some (.ref 181), some (.int v1), some (.int v2), some (.int (v3 + (1 : Int32)))] rfl ?_
  refine aw_goto C 39 dX9_spread0_95 (by decide) ?_
  refine aw_fl [some (.ref 181), some (.int v1), some (.int v2), some (.int (v3 + (1 : Int32)))] ⟨rfl, ⟨rfl, ⟨rfl, ⟨rfl, trivial⟩⟩⟩⟩ ?_
  exact Hr39 v1 v2 (v3 + (1 : Int32)) σ h
def mX9_spread0_l39 : Nat → Int32 → Int32 → Int32 → RS9 → Option (Int32 × RS9)
  | 0, _, _, _, _ => none
  | d + 1, v1, v2, v3, σ => (if (σ.1 33) ≤ v3 then ((mX9_builtMany σ).bind fun r1 => (if r1.1 ≤ (600 : Int32) then mX9_spread0_b113 (0 : Int32) r1.2 else mX9_spread0_b113 (3 : Int32) r1.2)) else ((mX9_areLike v1 v3 σ).bind fun r2 => (if r2.1 = (0 : Int32) then mX9_spread0_b92 (fun v1 v2 v3 σ => mX9_spread0_l39 d v1 v2 v3 σ) v1 v2 v3 r2.2 else (if v3 = v1 then mX9_spread0_b92 (fun v1 v2 v3 σ => mX9_spread0_l39 d v1 v2 v3 σ) v1 v2 v3 r2.2 else ((mX9_escapedFor v3 v2 r2.2).bind fun r3 => (if r3.1 = (-1 : Int32) then some ((2 : Int32), r3.2) else ((mX9_tells v3 v2 r3.2).bind fun r4 => mX9_spread0_b92 (fun v1 v2 v3 σ => mX9_spread0_l39 d v1 v2 v3 σ) v1 v2 v3 (rSf r4.2 57 ((r4.2.1 57) + (1 : Int32))))))))))
set_option maxHeartbeats 1000000 in
theorem rmX9_spread0_l39 {X : GX} {p : Program} {l : Launch} {e : Env} {s : State} {m : MethodId} {args : Array Value} {below : List Frame} {meth : Method} {c : Code} {f : AH} {n : Nat} {r : Int32 × RS9} (C : CC X p l (RM 10 0 0) s m args meth c RX9 cX9_spread0 4 (some .int)) : ∀ (d : Nat) (v1 : Int32) (v2 : Int32) (v3 : Int32) (σ : RS9) (_ : mX9_spread0_l39 d v1 v2 v3 σ = some r), AW X p l e (RM 10 0 0) s m args below meth c 4 (ZM X below args s 0 0 (QMi f n r)) (rHm f σ) n 0 0 39 [some (.ref 181), some (.int v1), some (.int v2), some (.int v3)] [] := by
  intro d
  induction d with
  | zero =>
    intro v1 v2 v3 σ h
    exact nomatch (show (none : Option (Int32 × RS9)) = some r from h)
  | succ d ih =>
    intro v1 v2 v3 σ h
    have h : (if (σ.1 33) ≤ v3 then ((mX9_builtMany σ).bind fun r1 => (if r1.1 ≤ (600 : Int32) then mX9_spread0_b113 (0 : Int32) r1.2 else mX9_spread0_b113 (3 : Int32) r1.2)) else ((mX9_areLike v1 v3 σ).bind fun r2 => (if r2.1 = (0 : Int32) then mX9_spread0_b92 (fun v1 v2 v3 σ => mX9_spread0_l39 d v1 v2 v3 σ) v1 v2 v3 r2.2 else (if v3 = v1 then mX9_spread0_b92 (fun v1 v2 v3 σ => mX9_spread0_l39 d v1 v2 v3 σ) v1 v2 v3 r2.2 else ((mX9_escapedFor v3 v2 r2.2).bind fun r3 => (if r3.1 = (-1 : Int32) then some ((2 : Int32), r3.2) else ((mX9_tells v3 v2 r3.2).bind fun r4 => mX9_spread0_b92 (fun v1 v2 v3 σ => mX9_spread0_l39 d v1 v2 v3 σ) v1 v2 v3 (rSf r4.2 57 ((r4.2.1 57) + (1 : Int32)))))))))) = some r := h
    refine aw_iload_n C dX9_spread0_39 rfl ?_
    refine aw_ald_n C dX9_spread0_40 rfl ?_
    refine aw_get C (v := .int (σ.1 33)) gf_X9_204 (hm_M f σ) rfl dX9_spread0_41 ?_
    refine aw_icmp_ge C 98 dX9_spread0_44 (by decide) (fun q => ?_) (fun q => ?_)
    · rw [if_pos q] at h
      refine aw_ald_n C dX9_spread0_98 rfl ?_
      obtain ⟨r1, h1, h⟩ := Option.bind_eq_some_iff.mp h
      refine aw_callV C (ci := 9) (b := 181) [] mv_X9_300 rfl rfl (hm_M f σ) (rmX9_builtMany h1) rfl dX9_spread0_99 (Nat.le_of_ble_eq_true rfl) (Nat.le_of_ble_eq_true rfl) rfl (Nat.le_of_ble_eq_true rfl) (Nat.le_of_ble_eq_true rfl) (Nat.le_of_ble_eq_true rfl) (fun v9 f9 n9 hh => ?_)
      obtain ⟨rfl, rfl, rfl⟩ := hh
      refine aw_sipush C 600 dX9_spread0_102 ks_600 ?_
      refine aw_icmp_le C 112 dX9_spread0_105 (by decide) (fun q => ?_) (fun q => ?_)
      · rw [if_pos q] at h
        refine aw_iconst C 0 dX9_spread0_112 ki_0 ?_
        refine aw_fl [none, none, none, none] trivial ?_
        exact rmX9_spread0_b113 C h
      · rw [if_neg q] at h
        refine aw_iconst C 3 dX9_spread0_108 ki_3 ?_
        refine aw_goto C 113 dX9_spread0_109 (by decide) ?_
        refine aw_fl [none, none, none, none] trivial ?_
        exact rmX9_spread0_b113 C h
    · rw [if_neg q] at h
      refine aw_ald_n C dX9_spread0_47 rfl ?_
      refine aw_iload_n C dX9_spread0_48 rfl ?_
      refine aw_iload_n C dX9_spread0_49 rfl ?_
      obtain ⟨r2, h2, h⟩ := Option.bind_eq_some_iff.mp h
      refine aw_callV C (ci := 9) (b := 181) [.int v1, .int v3] mv_X9_309 rfl rfl (hm_M f σ) (rmX9_areLike h2) rfl dX9_spread0_50 (Nat.le_of_ble_eq_true rfl) (Nat.le_of_ble_eq_true rfl) rfl (Nat.le_of_ble_eq_true rfl) (Nat.le_of_ble_eq_true rfl) (Nat.le_of_ble_eq_true rfl) (fun v9 f9 n9 hh => ?_)
      obtain ⟨rfl, rfl, rfl⟩ := hh
      refine aw_if_eq C 92 dX9_spread0_53 (by decide) (fun q => ?_) (fun q => ?_)
      · rw [if_pos q] at h
        refine aw_fl [some (.ref 181), some (.int v1), some (.int v2), some (.int v3)] ⟨rfl, ⟨rfl, ⟨rfl, ⟨rfl, trivial⟩⟩⟩⟩ ?_
        exact rmX9_spread0_b92 C (fun v1 v2 v3 σ h => ih v1 v2 v3 σ h) h
      · rw [if_neg q] at h
        refine aw_iload_n C dX9_spread0_56 rfl ?_
        refine aw_iload_n C dX9_spread0_57 rfl ?_
        refine aw_icmp_ne C 64 dX9_spread0_58 (by decide) (fun q => ?_) (fun q => ?_)
        · rw [if_neg q] at h
          refine aw_ald_n C dX9_spread0_64 rfl ?_
          refine aw_iload_n C dX9_spread0_65 rfl ?_
          refine aw_iload_n C dX9_spread0_66 rfl ?_
          obtain ⟨r3, h3, h⟩ := Option.bind_eq_some_iff.mp h
          refine aw_callV C (ci := 9) (b := 181) [.int v3, .int v2] mv_X9_287 rfl rfl (hm_M f r2.2) (rmX9_escapedFor h3) rfl dX9_spread0_67 (Nat.le_of_ble_eq_true rfl) (Nat.le_of_ble_eq_true rfl) rfl (Nat.le_of_ble_eq_true rfl) (Nat.le_of_ble_eq_true rfl) (Nat.le_of_ble_eq_true rfl) (fun v9 f9 n9 hh => ?_)
          obtain ⟨rfl, rfl, rfl⟩ := hh
          refine aw_iconst C (-1) dX9_spread0_70 ki_m1 ?_
          refine aw_icmp_ne C 76 dX9_spread0_71 (by decide) (fun q => ?_) (fun q => ?_)
          · rw [if_neg q] at h
            refine aw_ald_n C dX9_spread0_76 rfl ?_
            refine aw_iload_n C dX9_spread0_77 rfl ?_
            refine aw_iload_n C dX9_spread0_78 rfl ?_
            obtain ⟨r4, h4, h⟩ := Option.bind_eq_some_iff.mp h
            refine aw_callV C (ci := 9) (b := 181) [.int v3, .int v2] mv_X9_296 rfl rfl (hm_M f r3.2) (rmX9_tells h4) rfl dX9_spread0_79 (Nat.le_of_ble_eq_true rfl) (Nat.le_of_ble_eq_true rfl) rfl (Nat.le_of_ble_eq_true rfl) (Nat.le_of_ble_eq_true rfl) (Nat.le_of_ble_eq_true rfl) (fun v9 f9 n9 hh => ?_)
            obtain ⟨rfl, rfl, rfl⟩ := hh
            refine aw_ald_n C dX9_spread0_82 rfl ?_
            refine aw_dup C dX9_spread0_83 rfl ?_
            refine aw_get C (v := .int (r4.2.1 57)) gf_X9_306 (hm_M f r4.2) rfl dX9_spread0_84 ?_
            refine aw_iconst C 1 dX9_spread0_87 ki_1 ?_
            refine aw_iadd C dX9_spread0_88 ?_
            refine am_put C gf_X9_306 nf9_57 rfl rfl dX9_spread0_89 ?_
            refine aw_fl [some (.ref 181), some (.int v1), some (.int v2), some (.int v3)] ⟨rfl, ⟨rfl, ⟨rfl, ⟨rfl, trivial⟩⟩⟩⟩ ?_
            exact rmX9_spread0_b92 C (fun v1 v2 v3 σ h => ih v1 v2 v3 σ h) h
          · rw [if_pos q] at h
            refine aw_iconst C 2 dX9_spread0_74 ki_2 ?_
            cases h
            exact aw_iret C rfl rfl dX9_spread0_75 (Nat.le_refl _) (Nat.le_refl _) ⟨rfl, rfl, rfl⟩
        · rw [if_pos q] at h
          refine aw_goto C 92 dX9_spread0_61 (by decide) ?_
          refine aw_fl [some (.ref 181), some (.int v1), some (.int v2), some (.int v3)] ⟨rfl, ⟨rfl, ⟨rfl, ⟨rfl, trivial⟩⟩⟩⟩ ?_
          exact rmX9_spread0_b92 C (fun v1 v2 v3 σ h => ih v1 v2 v3 σ h) h
def mX9_spread0 (v1 : Int32) (σ : RS9) : Option (Int32 × RS9) := ((mX9_isPieceThere v1 (rSf σ 57 (0 : Int32))).bind fun r1 => (if r1.1 = (0 : Int32) then some ((1 : Int32), r1.2) else ((mX9_toldOf v1 r1.2).bind fun r2 => (if r2.1 = (-1 : Int32) then some ((4 : Int32), r2.2) else ((mX9_toldOf v1 r2.2).bind fun r3 => ((mX9_holdsTold v1 r3.2).bind fun r4 => mX9_spread0_l39 rFU v1 r3.1 (0 : Int32) r4.2))))))
set_option maxHeartbeats 1000000 in
theorem rmX9_spread0 {X : GX} {l : Launch} {f : AH} {n : Nat} {r : Int32 × RS9} {v1 : Int32} {σ : RS9} (h : mX9_spread0 v1 σ = some r) : AM X l yX9_spread0 cX9_spread0 4 (some .int) 10 0 0 [.ref 181, .int v1] (rHm f σ) n (QMi f n r) := by
  have h : ((mX9_isPieceThere v1 (rSf σ 57 (0 : Int32))).bind fun r1 => (if r1.1 = (0 : Int32) then some ((1 : Int32), r1.2) else ((mX9_toldOf v1 r1.2).bind fun r2 => (if r2.1 = (-1 : Int32) then some ((4 : Int32), r2.2) else ((mX9_toldOf v1 r2.2).bind fun r3 => ((mX9_holdsTold v1 r3.2).bind fun r4 => mX9_spread0_l39 rFU v1 r3.1 (0 : Int32) r4.2)))))) = some r := h
  refine AM.of (by decide +kernel) rfl (Nat.le_of_ble_eq_true rfl) (fun p e s m args below meth c C _ => ?_)
  refine aw_nl [some (.ref 181), some (.int v1), none, none] rfl ?_
  refine aw_ald_n C dX9_spread0_0 rfl ?_
  refine aw_iconst C 0 dX9_spread0_1 ki_0 ?_
  refine am_put C gf_X9_306 nf9_57 rfl rfl dX9_spread0_2 ?_
  refine aw_ald_n C dX9_spread0_5 rfl ?_
  refine aw_iload_n C dX9_spread0_6 rfl ?_
  obtain ⟨r1, h1, h⟩ := Option.bind_eq_some_iff.mp h
  refine aw_callV C (ci := 9) (b := 181) [.int v1] mv_X9_293 rfl rfl (hm_M f (rSf σ 57 (0 : Int32))) (rmX9_isPieceThere h1) rfl dX9_spread0_7 (Nat.le_of_ble_eq_true rfl) (Nat.le_of_ble_eq_true rfl) rfl (Nat.le_of_ble_eq_true rfl) (Nat.le_of_ble_eq_true rfl) (Nat.le_of_ble_eq_true rfl) (fun v9 f9 n9 hh => ?_)
  obtain ⟨rfl, rfl, rfl⟩ := hh
  refine aw_if_ne C 15 dX9_spread0_10 (by decide) (fun q => ?_) (fun q => ?_)
  · rw [if_neg q] at h
    refine aw_ald_n C dX9_spread0_15 rfl ?_
    refine aw_iload_n C dX9_spread0_16 rfl ?_
    obtain ⟨r2, h2, h⟩ := Option.bind_eq_some_iff.mp h
    refine aw_callV C (ci := 9) (b := 181) [.int v1] mv_X9_247 rfl rfl (hm_M f r1.2) (rmX9_toldOf h2) rfl dX9_spread0_17 (Nat.le_of_ble_eq_true rfl) (Nat.le_of_ble_eq_true rfl) rfl (Nat.le_of_ble_eq_true rfl) (Nat.le_of_ble_eq_true rfl) (Nat.le_of_ble_eq_true rfl) (fun v9 f9 n9 hh => ?_)
    obtain ⟨rfl, rfl, rfl⟩ := hh
    refine aw_iconst C (-1) dX9_spread0_20 ki_m1 ?_
    refine aw_icmp_ne C 26 dX9_spread0_21 (by decide) (fun q => ?_) (fun q => ?_)
    · rw [if_neg q] at h
      refine aw_ald_n C dX9_spread0_26 rfl ?_
      refine aw_iload_n C dX9_spread0_27 rfl ?_
      obtain ⟨r3, h3, h⟩ := Option.bind_eq_some_iff.mp h
      refine aw_callV C (ci := 9) (b := 181) [.int v1] mv_X9_247 rfl rfl (hm_M f r2.2) (rmX9_toldOf h3) rfl dX9_spread0_28 (Nat.le_of_ble_eq_true rfl) (Nat.le_of_ble_eq_true rfl) rfl (Nat.le_of_ble_eq_true rfl) (Nat.le_of_ble_eq_true rfl) (Nat.le_of_ble_eq_true rfl) (fun v9 f9 n9 hh => ?_)
      obtain ⟨rfl, rfl, rfl⟩ := hh
      refine aw_istore_n C dX9_spread0_31 (by decide) rfl ?_
      refine aw_nl [some (.ref 181), some (.int v1), some (.int r3.1), none] rfl ?_
      refine aw_ald_n C dX9_spread0_32 rfl ?_
      refine aw_iload_n C dX9_spread0_33 rfl ?_
      obtain ⟨r4, h4, h⟩ := Option.bind_eq_some_iff.mp h
      refine aw_callV C (ci := 9) (b := 181) [.int v1] mv_X9_283 rfl rfl (hm_M f r3.2) (rmX9_holdsTold h4) rfl dX9_spread0_34 (Nat.le_of_ble_eq_true rfl) (Nat.le_of_ble_eq_true rfl) rfl (Nat.le_of_ble_eq_true rfl) (Nat.le_of_ble_eq_true rfl) (Nat.le_of_ble_eq_true rfl) (fun v9 f9 n9 hh => ?_)
      obtain ⟨rfl, rfl, rfl⟩ := hh
      refine aw_iconst C 0 dX9_spread0_37 ki_0 ?_
      refine aw_istore_n C dX9_spread0_38 (by decide) rfl ?_
      refine aw_nl [some (.ref 181), some (.int v1), some (.int r3.1), some (.int (0 : Int32))] rfl ?_
      refine aw_fl [some (.ref 181), some (.int v1), some (.int r3.1), some (.int (0 : Int32))] ⟨rfl, ⟨rfl, ⟨rfl, ⟨rfl, trivial⟩⟩⟩⟩ ?_
      exact rmX9_spread0_l39 C rFU v1 r3.1 (0 : Int32) r4.2 h
    · rw [if_pos q] at h
      refine aw_iconst C 4 dX9_spread0_24 ki_4 ?_
      cases h
      exact aw_iret C rfl rfl dX9_spread0_25 (Nat.le_refl _) (Nat.le_refl _) ⟨rfl, rfl, rfl⟩
  · rw [if_pos q] at h
    refine aw_iconst C 1 dX9_spread0_13 ki_1 ?_
    cases h
    exact aw_iret C rfl rfl dX9_spread0_14 (Nat.le_refl _) (Nat.le_refl _) ⟨rfl, rfl, rfl⟩
def mX9_pieceText_b35 (s0 : Int32) (σ : RS9) : Option (Int32 × RS9) := some (s0, σ)
set_option maxHeartbeats 1000000 in
theorem rmX9_pieceText_b35 {X : GX} {p : Program} {l : Launch} {e : Env} {s : State} {m : MethodId} {args : Array Value} {below : List Frame} {meth : Method} {c : Code} {f : AH} {n : Nat} {r : Int32 × RS9} {s0 : Int32} {σ : RS9} (C : CC X p l (RM 11 0 0) s m args meth c RX9 cX9_pieceText 3 (some .int)) (h : mX9_pieceText_b35 s0 σ = some r) : AW X p l e (RM 11 0 0) s m args below meth c 3 (ZM X below args s 0 0 (QMi f n r)) (rHm f σ) n 0 0 35 [none, none, none] [.int s0] := by
  have h : some (s0, σ) = some r := h
  cases h
  exact aw_iret C rfl rfl dX9_pieceText_35 (Nat.le_refl _) (Nat.le_refl _) ⟨rfl, rfl, rfl⟩
def mX9_pieceText (v1 : Int32) (σ : RS9) : Option (Int32 × RS9) := ((mX9_number (0 : Int32) (39 : Int32) σ).bind fun r1 => (if (r1.2.1 12) = (-1 : Int32) then (if v1 = (0 : Int32) then ((mX9_spread0 r1.1 r1.2).bind fun r2 => mX9_pieceText_b35 r2.1 r2.2) else ((mX9_free0 r1.1 r1.2).bind fun r3 => mX9_pieceText_b35 r3.1 r3.2)) else some ((0 : Int32), r1.2)))
set_option maxHeartbeats 1000000 in
theorem rmX9_pieceText {X : GX} {l : Launch} {f : AH} {n : Nat} {r : Int32 × RS9} {v1 : Int32} {σ : RS9} (h : mX9_pieceText v1 σ = some r) : AM X l yX9_pieceText cX9_pieceText 3 (some .int) 11 0 0 [.ref 181, .int v1] (rHm f σ) n (QMi f n r) := by
  have h : ((mX9_number (0 : Int32) (39 : Int32) σ).bind fun r1 => (if (r1.2.1 12) = (-1 : Int32) then (if v1 = (0 : Int32) then ((mX9_spread0 r1.1 r1.2).bind fun r2 => mX9_pieceText_b35 r2.1 r2.2) else ((mX9_free0 r1.1 r1.2).bind fun r3 => mX9_pieceText_b35 r3.1 r3.2)) else some ((0 : Int32), r1.2))) = some r := h
  refine AM.of (by decide +kernel) rfl (Nat.le_of_ble_eq_true rfl) (fun p e s m args below meth c C _ => ?_)
  refine aw_nl [some (.ref 181), some (.int v1), none] rfl ?_
  refine aw_ald_n C dX9_pieceText_0 rfl ?_
  refine aw_iconst C 0 dX9_pieceText_1 ki_0 ?_
  refine aw_bipush C 39 dX9_pieceText_2 kb_39 ?_
  obtain ⟨r1, h1, h⟩ := Option.bind_eq_some_iff.mp h
  refine aw_callV C (ci := 9) (b := 181) [.int (0 : Int32), .int (39 : Int32)] mv_X9_358 rfl rfl (hm_M f σ) (rmX9_number h1) rfl dX9_pieceText_4 (Nat.le_of_ble_eq_true rfl) (Nat.le_of_ble_eq_true rfl) rfl (Nat.le_of_ble_eq_true rfl) (Nat.le_of_ble_eq_true rfl) (Nat.le_of_ble_eq_true rfl) (fun v9 f9 n9 hh => ?_)
  obtain ⟨rfl, rfl, rfl⟩ := hh
  refine aw_istore_n C dX9_pieceText_7 (by decide) rfl ?_
  refine aw_nl [some (.ref 181), some (.int v1), some (.int r1.1)] rfl ?_
  refine aw_ald_n C dX9_pieceText_8 rfl ?_
  refine aw_get C (v := .int (r1.2.1 12)) gf_X9_26 (hm_M f r1.2) rfl dX9_pieceText_9 ?_
  refine aw_iconst C (-1) dX9_pieceText_12 ki_m1 ?_
  refine aw_icmp_eq C 18 dX9_pieceText_13 (by decide) (fun q => ?_) (fun q => ?_)
  · rw [if_pos q] at h
    refine aw_iload_n C dX9_pieceText_18 rfl ?_
    refine aw_if_eq C 30 dX9_pieceText_19 (by decide) (fun q => ?_) (fun q => ?_)
    · rw [if_pos q] at h
      refine aw_ald_n C dX9_pieceText_30 rfl ?_
      refine aw_iload_n C dX9_pieceText_31 rfl ?_
      obtain ⟨r2, h2, h⟩ := Option.bind_eq_some_iff.mp h
      refine aw_callV C (ci := 9) (b := 181) [.int r1.1] mv_X9_370 rfl rfl (hm_M f r1.2) (rmX9_spread0 h2) rfl dX9_pieceText_32 (Nat.le_of_ble_eq_true rfl) (Nat.le_of_ble_eq_true rfl) rfl (Nat.le_of_ble_eq_true rfl) (Nat.le_of_ble_eq_true rfl) (Nat.le_of_ble_eq_true rfl) (fun v9 f9 n9 hh => ?_)
      obtain ⟨rfl, rfl, rfl⟩ := hh
      refine aw_fl [none, none, none] trivial ?_
      exact rmX9_pieceText_b35 C h
    · rw [if_neg q] at h
      refine aw_ald_n C dX9_pieceText_22 rfl ?_
      refine aw_iload_n C dX9_pieceText_23 rfl ?_
      obtain ⟨r3, h3, h⟩ := Option.bind_eq_some_iff.mp h
      refine aw_callV C (ci := 9) (b := 181) [.int r1.1] mv_X9_367 rfl rfl (hm_M f r1.2) (rmX9_free0 h3) rfl dX9_pieceText_24 (Nat.le_of_ble_eq_true rfl) (Nat.le_of_ble_eq_true rfl) rfl (Nat.le_of_ble_eq_true rfl) (Nat.le_of_ble_eq_true rfl) (Nat.le_of_ble_eq_true rfl) (fun v9 f9 n9 hh => ?_)
      obtain ⟨rfl, rfl, rfl⟩ := hh
      refine aw_goto C 35 dX9_pieceText_27 (by decide) ?_
      refine aw_fl [none, none, none] trivial ?_
      exact rmX9_pieceText_b35 C h
  · rw [if_neg q] at h
    refine aw_iconst C 0 dX9_pieceText_16 ki_0 ?_
    cases h
    exact aw_iret C rfl rfl dX9_pieceText_17 (Nat.le_refl _) (Nat.le_refl _) ⟨rfl, rfl, rfl⟩
def mX9_swap0_b195 (s0 : Int32) (σ : RS9) : Option (Int32 × RS9) := some (s0, σ)
set_option maxHeartbeats 1000000 in
theorem rmX9_swap0_b195 {X : GX} {p : Program} {l : Launch} {e : Env} {s : State} {m : MethodId} {args : Array Value} {below : List Frame} {meth : Method} {c : Code} {f : AH} {n : Nat} {r : Int32 × RS9} {s0 : Int32} {σ : RS9} (C : CC X p l (RM 10 0 0) s m args meth c RX9 cX9_swap0 6 (some .int)) (h : mX9_swap0_b195 s0 σ = some r) : AW X p l e (RM 10 0 0) s m args below meth c 6 (ZM X below args s 0 0 (QMi f n r)) (rHm f σ) n 0 0 195 [none, none, none, none, none, none] [.int s0] := by
  have h : some (s0, σ) = some r := h
  cases h
  exact aw_iret C rfl rfl dX9_swap0_195 (Nat.le_refl _) (Nat.le_refl _) ⟨rfl, rfl, rfl⟩
def mX9_swap0_l136 : Nat → Int32 → Int32 → Int32 → RS9 → Option (Int32 × RS9)
  | 0, _, _, _, _ => none
  | d + 1, v2, v3, v5, σ => (if v3 ≤ v5 then ((mX9_escapedFor v2 v3 σ).bind fun r1 => (if r1.1 = (-1 : Int32) then some ((2 : Int32), r1.2) else ((mX9_tells v2 v3 r1.2).bind fun r2 => ((mX9_builtMany r2.2).bind fun r3 => (if r3.1 ≤ (600 : Int32) then mX9_swap0_b195 (0 : Int32) r3.2 else mX9_swap0_b195 (3 : Int32) r3.2))))) else rCk (rIn v5 (rLen 58)) (rCk (rIn v5 (rLen 53)) (mX9_swap0_l136 d v2 v3 (v5 + (1 : Int32)) (rSa σ 53 v5 (rGa σ 58 v5)))))
set_option maxHeartbeats 1000000 in
theorem rmX9_swap0_l136 {X : GX} {p : Program} {l : Launch} {e : Env} {s : State} {m : MethodId} {args : Array Value} {below : List Frame} {meth : Method} {c : Code} {f : AH} {n : Nat} {r : Int32 × RS9} (C : CC X p l (RM 10 0 0) s m args meth c RX9 cX9_swap0 6 (some .int)) : ∀ (d : Nat) (v2 : Int32) (v3 : Int32) (v5 : Int32) (σ : RS9) (_ : mX9_swap0_l136 d v2 v3 v5 σ = some r), AW X p l e (RM 10 0 0) s m args below meth c 6 (ZM X below args s 0 0 (QMi f n r)) (rHm f σ) n 0 0 136 [some (.ref 181), none, some (.int v2), some (.int v3), none, some (.int v5)] [] := by
  intro d
  induction d with
  | zero =>
    intro v2 v3 v5 σ h
    exact nomatch (show (none : Option (Int32 × RS9)) = some r from h)
  | succ d ih =>
    intro v2 v3 v5 σ h
    have h : (if v3 ≤ v5 then ((mX9_escapedFor v2 v3 σ).bind fun r1 => (if r1.1 = (-1 : Int32) then some ((2 : Int32), r1.2) else ((mX9_tells v2 v3 r1.2).bind fun r2 => ((mX9_builtMany r2.2).bind fun r3 => (if r3.1 ≤ (600 : Int32) then mX9_swap0_b195 (0 : Int32) r3.2 else mX9_swap0_b195 (3 : Int32) r3.2))))) else rCk (rIn v5 (rLen 58)) (rCk (rIn v5 (rLen 53)) (mX9_swap0_l136 d v2 v3 (v5 + (1 : Int32)) (rSa σ 53 v5 (rGa σ 58 v5))))) = some r := h
    refine aw_iload C dX9_swap0_136 rfl ?_
    refine aw_iload_n C dX9_swap0_138 rfl ?_
    refine aw_icmp_ge C 162 dX9_swap0_139 (by decide) (fun q => ?_) (fun q => ?_)
    · rw [if_pos q] at h
      refine aw_ald_n C dX9_swap0_162 rfl ?_
      refine aw_iload_n C dX9_swap0_163 rfl ?_
      refine aw_iload_n C dX9_swap0_164 rfl ?_
      obtain ⟨r1, h1, h⟩ := Option.bind_eq_some_iff.mp h
      refine aw_callV C (ci := 9) (b := 181) [.int v2, .int v3] mv_X9_287 rfl rfl (hm_M f σ) (rmX9_escapedFor h1) rfl dX9_swap0_165 (Nat.le_of_ble_eq_true rfl) (Nat.le_of_ble_eq_true rfl) rfl (Nat.le_of_ble_eq_true rfl) (Nat.le_of_ble_eq_true rfl) (Nat.le_of_ble_eq_true rfl) (fun v9 f9 n9 hh => ?_)
      obtain ⟨rfl, rfl, rfl⟩ := hh
      refine aw_iconst C (-1) dX9_swap0_168 ki_m1 ?_
      refine aw_icmp_ne C 174 dX9_swap0_169 (by decide) (fun q => ?_) (fun q => ?_)
      · rw [if_neg q] at h
        refine aw_ald_n C dX9_swap0_174 rfl ?_
        refine aw_iload_n C dX9_swap0_175 rfl ?_
        refine aw_iload_n C dX9_swap0_176 rfl ?_
        obtain ⟨r2, h2, h⟩ := Option.bind_eq_some_iff.mp h
        refine aw_callV C (ci := 9) (b := 181) [.int v2, .int v3] mv_X9_296 rfl rfl (hm_M f r1.2) (rmX9_tells h2) rfl dX9_swap0_177 (Nat.le_of_ble_eq_true rfl) (Nat.le_of_ble_eq_true rfl) rfl (Nat.le_of_ble_eq_true rfl) (Nat.le_of_ble_eq_true rfl) (Nat.le_of_ble_eq_true rfl) (fun v9 f9 n9 hh => ?_)
        obtain ⟨rfl, rfl, rfl⟩ := hh
        refine aw_ald_n C dX9_swap0_180 rfl ?_
        obtain ⟨r3, h3, h⟩ := Option.bind_eq_some_iff.mp h
        refine aw_callV C (ci := 9) (b := 181) [] mv_X9_300 rfl rfl (hm_M f r2.2) (rmX9_builtMany h3) rfl dX9_swap0_181 (Nat.le_of_ble_eq_true rfl) (Nat.le_of_ble_eq_true rfl) rfl (Nat.le_of_ble_eq_true rfl) (Nat.le_of_ble_eq_true rfl) (Nat.le_of_ble_eq_true rfl) (fun v9 f9 n9 hh => ?_)
        obtain ⟨rfl, rfl, rfl⟩ := hh
        refine aw_sipush C 600 dX9_swap0_184 ks_600 ?_
        refine aw_icmp_le C 194 dX9_swap0_187 (by decide) (fun q => ?_) (fun q => ?_)
        · rw [if_pos q] at h
          refine aw_iconst C 0 dX9_swap0_194 ki_0 ?_
          refine aw_fl [none, none, none, none, none, none] trivial ?_
          exact rmX9_swap0_b195 C h
        · rw [if_neg q] at h
          refine aw_iconst C 3 dX9_swap0_190 ki_3 ?_
          refine aw_goto C 195 dX9_swap0_191 (by decide) ?_
          refine aw_fl [none, none, none, none, none, none] trivial ?_
          exact rmX9_swap0_b195 C h
      · rw [if_pos q] at h
        refine aw_iconst C 2 dX9_swap0_172 ki_2 ?_
        cases h
        exact aw_iret C rfl rfl dX9_swap0_173 (Nat.le_refl _) (Nat.le_refl _) ⟨rfl, rfl, rfl⟩
    · rw [if_neg q] at h
      refine aw_ald_n C dX9_swap0_142 rfl ?_
      refine aw_get C (v := .ref (rAid 53)) gf_X9_132 (hm_M f σ) rfl dX9_swap0_143 ?_
      refine aw_iload C dX9_swap0_146 rfl ?_
      refine aw_ald_n C dX9_swap0_148 rfl ?_
      refine aw_get C (v := .ref (rAid 58)) gf_X9_135 (hm_M f σ) rfl dX9_swap0_149 ?_
      refine aw_iload C dX9_swap0_152 rfl ?_
      obtain ⟨hb4, h⟩ := ck_some h
      refine am_iald C (rGa σ 58 v5) rfl (inb_vp hb4) rfl dX9_swap0_154 ?_
      obtain ⟨hb5, h⟩ := ck_some h
      refine am_iast C rfl (inb_vp hb5) dX9_swap0_155 ?_
      refine aw_iinc C (v5 + (1 : Int32)) dX9_swap0_156 rfl (by rw [ki_1]) (by decide) rfl ?_
      refine aw_nl [some (.ref 181), none, some (.int v2), some (.int v3), none, some (.int (v5 + (1 : Int32)))] rfl ?_
      refine aw_goto C 136 dX9_swap0_159 (by decide) ?_
      refine aw_fl [some (.ref 181), none, some (.int v2), some (.int v3), none, some (.int (v5 + (1 : Int32)))] ⟨rfl, ⟨rfl, ⟨rfl, ⟨rfl, trivial⟩⟩⟩⟩ ?_
      exact ih v2 v3 (v5 + (1 : Int32)) (rSa σ 53 v5 (rGa σ 58 v5)) h
def mX9_swap0_l86 : Nat → Int32 → Int32 → Int32 → Int32 → Int32 → RS9 → Option (Int32 × RS9)
  | 0, _, _, _, _, _, _ => none
  | d + 1, v1, v2, v3, v4, v5, σ => (if v4 ≤ v5 then ((mX9_escapedFor v1 v4 σ).bind fun r1 => (if r1.1 = (-1 : Int32) then some ((2 : Int32), r1.2) else ((mX9_tells v1 v4 r1.2).bind fun r2 => mX9_swap0_l136 rFU v2 v3 (0 : Int32) r2.2))) else ((mX9_nowByte v2 v5 σ).bind fun r3 => rCk (rIn v5 (rLen 53)) (mX9_swap0_l86 d v1 v2 v3 v4 (v5 + (1 : Int32)) (rSa r3.2 53 v5 r3.1))))
set_option maxHeartbeats 1000000 in
theorem rmX9_swap0_l86 {X : GX} {p : Program} {l : Launch} {e : Env} {s : State} {m : MethodId} {args : Array Value} {below : List Frame} {meth : Method} {c : Code} {f : AH} {n : Nat} {r : Int32 × RS9} (C : CC X p l (RM 10 0 0) s m args meth c RX9 cX9_swap0 6 (some .int)) : ∀ (d : Nat) (v1 : Int32) (v2 : Int32) (v3 : Int32) (v4 : Int32) (v5 : Int32) (σ : RS9) (_ : mX9_swap0_l86 d v1 v2 v3 v4 v5 σ = some r), AW X p l e (RM 10 0 0) s m args below meth c 6 (ZM X below args s 0 0 (QMi f n r)) (rHm f σ) n 0 0 86 [some (.ref 181), some (.int v1), some (.int v2), some (.int v3), some (.int v4), some (.int v5)] [] := by
  intro d
  induction d with
  | zero =>
    intro v1 v2 v3 v4 v5 σ h
    exact nomatch (show (none : Option (Int32 × RS9)) = some r from h)
  | succ d ih =>
    intro v1 v2 v3 v4 v5 σ h
    have h : (if v4 ≤ v5 then ((mX9_escapedFor v1 v4 σ).bind fun r1 => (if r1.1 = (-1 : Int32) then some ((2 : Int32), r1.2) else ((mX9_tells v1 v4 r1.2).bind fun r2 => mX9_swap0_l136 rFU v2 v3 (0 : Int32) r2.2))) else ((mX9_nowByte v2 v5 σ).bind fun r3 => rCk (rIn v5 (rLen 53)) (mX9_swap0_l86 d v1 v2 v3 v4 (v5 + (1 : Int32)) (rSa r3.2 53 v5 r3.1)))) = some r := h
    refine aw_iload C dX9_swap0_86 rfl ?_
    refine aw_iload C dX9_swap0_88 rfl ?_
    refine aw_icmp_ge C 113 dX9_swap0_90 (by decide) (fun q => ?_) (fun q => ?_)
    · rw [if_pos q] at h
      refine aw_ald_n C dX9_swap0_113 rfl ?_
      refine aw_iload_n C dX9_swap0_114 rfl ?_
      refine aw_iload C dX9_swap0_115 rfl ?_
      obtain ⟨r1, h1, h⟩ := Option.bind_eq_some_iff.mp h
      refine aw_callV C (ci := 9) (b := 181) [.int v1, .int v4] mv_X9_287 rfl rfl (hm_M f σ) (rmX9_escapedFor h1) rfl dX9_swap0_117 (Nat.le_of_ble_eq_true rfl) (Nat.le_of_ble_eq_true rfl) rfl (Nat.le_of_ble_eq_true rfl) (Nat.le_of_ble_eq_true rfl) (Nat.le_of_ble_eq_true rfl) (fun v9 f9 n9 hh => ?_)
      obtain ⟨rfl, rfl, rfl⟩ := hh
      refine aw_iconst C (-1) dX9_swap0_120 ki_m1 ?_
      refine aw_icmp_ne C 126 dX9_swap0_121 (by decide) (fun q => ?_) (fun q => ?_)
      · rw [if_neg q] at h
        refine aw_ald_n C dX9_swap0_126 rfl ?_
        refine aw_iload_n C dX9_swap0_127 rfl ?_
        refine aw_iload C dX9_swap0_128 rfl ?_
        obtain ⟨r2, h2, h⟩ := Option.bind_eq_some_iff.mp h
        refine aw_callV C (ci := 9) (b := 181) [.int v1, .int v4] mv_X9_296 rfl rfl (hm_M f r1.2) (rmX9_tells h2) rfl dX9_swap0_130 (Nat.le_of_ble_eq_true rfl) (Nat.le_of_ble_eq_true rfl) rfl (Nat.le_of_ble_eq_true rfl) (Nat.le_of_ble_eq_true rfl) (Nat.le_of_ble_eq_true rfl) (fun v9 f9 n9 hh => ?_)
        obtain ⟨rfl, rfl, rfl⟩ := hh
        refine aw_iconst C 0 dX9_swap0_133 ki_0 ?_
        refine aw_istore C dX9_swap0_134 (by decide) rfl ?_
        refine aw_nl [some (.ref 181), some (.int v1), some (.int v2), some (.int v3), some (.int v4), some (.int (0 : Int32))] rfl ?_
        refine aw_fl [some (.ref 181), none, some (.int v2), some (.int v3), none, some (.int (0 : Int32))] ⟨rfl, ⟨rfl, ⟨rfl, ⟨rfl, trivial⟩⟩⟩⟩ ?_
        exact rmX9_swap0_l136 C rFU v2 v3 (0 : Int32) r2.2 h
      · rw [if_pos q] at h
        refine aw_iconst C 2 dX9_swap0_124 ki_2 ?_
        cases h
        exact aw_iret C rfl rfl dX9_swap0_125 (Nat.le_refl _) (Nat.le_refl _) ⟨rfl, rfl, rfl⟩
    · rw [if_neg q] at h
      refine aw_ald_n C dX9_swap0_93 rfl ?_
      refine aw_get C (v := .ref (rAid 53)) gf_X9_132 (hm_M f σ) rfl dX9_swap0_94 ?_
      refine aw_iload C dX9_swap0_97 rfl ?_
      refine aw_ald_n C dX9_swap0_99 rfl ?_
      refine aw_iload_n C dX9_swap0_100 rfl ?_
      refine aw_iload C dX9_swap0_101 rfl ?_
      obtain ⟨r3, h3, h⟩ := Option.bind_eq_some_iff.mp h
      refine aw_callV C (ci := 9) (b := 181) [.int v2, .int v5] mv_X9_316 rfl rfl (hm_M f σ) (rmX9_nowByte h3) rfl dX9_swap0_103 (Nat.le_of_ble_eq_true rfl) (Nat.le_of_ble_eq_true rfl) rfl (Nat.le_of_ble_eq_true rfl) (Nat.le_of_ble_eq_true rfl) (Nat.le_of_ble_eq_true rfl) (fun v9 f9 n9 hh => ?_)
      obtain ⟨rfl, rfl, rfl⟩ := hh
      obtain ⟨hb4, h⟩ := ck_some h
      refine am_iast C rfl (inb_vp hb4) dX9_swap0_106 ?_
      refine aw_iinc C (v5 + (1 : Int32)) dX9_swap0_107 rfl (by rw [ki_1]) (by decide) rfl ?_
      refine aw_nl [some (.ref 181), some (.int v1), some (.int v2), some (.int v3), some (.int v4), some (.int (v5 + (1 : Int32)))] rfl ?_
      refine aw_goto C 86 dX9_swap0_110 (by decide) ?_
      refine aw_fl [some (.ref 181), some (.int v1), some (.int v2), some (.int v3), some (.int v4), some (.int (v5 + (1 : Int32)))] ⟨rfl, ⟨rfl, ⟨rfl, ⟨rfl, ⟨rfl, ⟨rfl, trivial⟩⟩⟩⟩⟩⟩ ?_
      exact ih v1 v2 v3 v4 (v5 + (1 : Int32)) (rSa r3.2 53 v5 r3.1) h
def mX9_swap0_l57 : Nat → Int32 → Int32 → Int32 → Int32 → Int32 → RS9 → Option (Int32 × RS9)
  | 0, _, _, _, _, _, _ => none
  | d + 1, v1, v2, v3, v4, v5, σ => (if v3 ≤ v5 then mX9_swap0_l86 rFU v1 v2 v3 v4 (0 : Int32) σ else ((mX9_nowByte v1 v5 σ).bind fun r1 => rCk (rIn v5 (rLen 58)) (mX9_swap0_l57 d v1 v2 v3 v4 (v5 + (1 : Int32)) (rSa r1.2 58 v5 r1.1))))
set_option maxHeartbeats 1000000 in
theorem rmX9_swap0_l57 {X : GX} {p : Program} {l : Launch} {e : Env} {s : State} {m : MethodId} {args : Array Value} {below : List Frame} {meth : Method} {c : Code} {f : AH} {n : Nat} {r : Int32 × RS9} (C : CC X p l (RM 10 0 0) s m args meth c RX9 cX9_swap0 6 (some .int)) : ∀ (d : Nat) (v1 : Int32) (v2 : Int32) (v3 : Int32) (v4 : Int32) (v5 : Int32) (σ : RS9) (_ : mX9_swap0_l57 d v1 v2 v3 v4 v5 σ = some r), AW X p l e (RM 10 0 0) s m args below meth c 6 (ZM X below args s 0 0 (QMi f n r)) (rHm f σ) n 0 0 57 [some (.ref 181), some (.int v1), some (.int v2), some (.int v3), some (.int v4), some (.int v5)] [] := by
  intro d
  induction d with
  | zero =>
    intro v1 v2 v3 v4 v5 σ h
    exact nomatch (show (none : Option (Int32 × RS9)) = some r from h)
  | succ d ih =>
    intro v1 v2 v3 v4 v5 σ h
    have h : (if v3 ≤ v5 then mX9_swap0_l86 rFU v1 v2 v3 v4 (0 : Int32) σ else ((mX9_nowByte v1 v5 σ).bind fun r1 => rCk (rIn v5 (rLen 58)) (mX9_swap0_l57 d v1 v2 v3 v4 (v5 + (1 : Int32)) (rSa r1.2 58 v5 r1.1)))) = some r := h
    refine aw_iload C dX9_swap0_57 rfl ?_
    refine aw_iload_n C dX9_swap0_59 rfl ?_
    refine aw_icmp_ge C 83 dX9_swap0_60 (by decide) (fun q => ?_) (fun q => ?_)
    · rw [if_pos q] at h
      refine aw_iconst C 0 dX9_swap0_83 ki_0 ?_
      refine aw_istore C dX9_swap0_84 (by decide) rfl ?_
      refine aw_nl [some (.ref 181), some (.int v1), some (.int v2), some (.int v3), some (.int v4), some (.int (0 : Int32))] rfl ?_
      refine aw_fl [some (.ref 181), some (.int v1), some (.int v2), some (.int v3), some (.int v4), some (.int (0 : Int32))] ⟨rfl, ⟨rfl, ⟨rfl, ⟨rfl, ⟨rfl, ⟨rfl, trivial⟩⟩⟩⟩⟩⟩ ?_
      exact rmX9_swap0_l86 C rFU v1 v2 v3 v4 (0 : Int32) σ h
    · rw [if_neg q] at h
      refine aw_ald_n C dX9_swap0_63 rfl ?_
      refine aw_get C (v := .ref (rAid 58)) gf_X9_135 (hm_M f σ) rfl dX9_swap0_64 ?_
      refine aw_iload C dX9_swap0_67 rfl ?_
      refine aw_ald_n C dX9_swap0_69 rfl ?_
      refine aw_iload_n C dX9_swap0_70 rfl ?_
      refine aw_iload C dX9_swap0_71 rfl ?_
      obtain ⟨r1, h1, h⟩ := Option.bind_eq_some_iff.mp h
      refine aw_callV C (ci := 9) (b := 181) [.int v1, .int v5] mv_X9_316 rfl rfl (hm_M f σ) (rmX9_nowByte h1) rfl dX9_swap0_73 (Nat.le_of_ble_eq_true rfl) (Nat.le_of_ble_eq_true rfl) rfl (Nat.le_of_ble_eq_true rfl) (Nat.le_of_ble_eq_true rfl) (Nat.le_of_ble_eq_true rfl) (fun v9 f9 n9 hh => ?_)
      obtain ⟨rfl, rfl, rfl⟩ := hh
      obtain ⟨hb2, h⟩ := ck_some h
      refine am_iast C rfl (inb_vp hb2) dX9_swap0_76 ?_
      refine aw_iinc C (v5 + (1 : Int32)) dX9_swap0_77 rfl (by rw [ki_1]) (by decide) rfl ?_
      refine aw_nl [some (.ref 181), some (.int v1), some (.int v2), some (.int v3), some (.int v4), some (.int (v5 + (1 : Int32)))] rfl ?_
      refine aw_goto C 57 dX9_swap0_80 (by decide) ?_
      refine aw_fl [some (.ref 181), some (.int v1), some (.int v2), some (.int v3), some (.int v4), some (.int (v5 + (1 : Int32)))] ⟨rfl, ⟨rfl, ⟨rfl, ⟨rfl, ⟨rfl, ⟨rfl, trivial⟩⟩⟩⟩⟩⟩ ?_
      exact ih v1 v2 v3 v4 (v5 + (1 : Int32)) (rSa r1.2 58 v5 r1.1) h
def mX9_swap0_b51 (σ : RS9) : Option (Int32 × RS9) := some ((8 : Int32), σ)
set_option maxHeartbeats 1000000 in
theorem rmX9_swap0_b51 {X : GX} {p : Program} {l : Launch} {e : Env} {s : State} {m : MethodId} {args : Array Value} {below : List Frame} {meth : Method} {c : Code} {f : AH} {n : Nat} {r : Int32 × RS9} {σ : RS9} (C : CC X p l (RM 10 0 0) s m args meth c RX9 cX9_swap0 6 (some .int)) (h : mX9_swap0_b51 σ = some r) : AW X p l e (RM 10 0 0) s m args below meth c 6 (ZM X below args s 0 0 (QMi f n r)) (rHm f σ) n 0 0 51 [none, none, none, none, none, none] [] := by
  have h : some ((8 : Int32), σ) = some r := h
  refine aw_bipush C 8 dX9_swap0_51 kb_8 ?_
  cases h
  exact aw_iret C rfl rfl dX9_swap0_53 (Nat.le_refl _) (Nat.le_refl _) ⟨rfl, rfl, rfl⟩
def mX9_swap0_b16 (σ : RS9) : Option (Int32 × RS9) := some ((1 : Int32), σ)
set_option maxHeartbeats 1000000 in
theorem rmX9_swap0_b16 {X : GX} {p : Program} {l : Launch} {e : Env} {s : State} {m : MethodId} {args : Array Value} {below : List Frame} {meth : Method} {c : Code} {f : AH} {n : Nat} {r : Int32 × RS9} {σ : RS9} (C : CC X p l (RM 10 0 0) s m args meth c RX9 cX9_swap0 6 (some .int)) (h : mX9_swap0_b16 σ = some r) : AW X p l e (RM 10 0 0) s m args below meth c 6 (ZM X below args s 0 0 (QMi f n r)) (rHm f σ) n 0 0 16 [none, none, none, none, none, none] [] := by
  have h : some ((1 : Int32), σ) = some r := h
  refine aw_iconst C 1 dX9_swap0_16 ki_1 ?_
  cases h
  exact aw_iret C rfl rfl dX9_swap0_17 (Nat.le_refl _) (Nat.le_refl _) ⟨rfl, rfl, rfl⟩
def mX9_swap0 (v1 : Int32) (v2 : Int32) (σ : RS9) : Option (Int32 × RS9) := ((mX9_isPieceThere v1 σ).bind fun r1 => (if r1.1 = (0 : Int32) then mX9_swap0_b16 r1.2 else ((mX9_isPieceThere v2 r1.2).bind fun r2 => (if r2.1 = (0 : Int32) then mX9_swap0_b16 r2.2 else (if v1 = v2 then some ((5 : Int32), r2.2) else ((mX9_nowMany v1 r2.2).bind fun r3 => ((mX9_nowMany v2 r3.2).bind fun r4 => (if (60 : Int32) < r3.1 then mX9_swap0_b51 r4.2 else (if r4.1 ≤ (60 : Int32) then mX9_swap0_l57 rFU v1 v2 r3.1 r4.1 (0 : Int32) r4.2 else mX9_swap0_b51 r4.2)))))))))
set_option maxHeartbeats 1000000 in
theorem rmX9_swap0 {X : GX} {l : Launch} {f : AH} {n : Nat} {r : Int32 × RS9} {v1 : Int32} {v2 : Int32} {σ : RS9} (h : mX9_swap0 v1 v2 σ = some r) : AM X l yX9_swap0 cX9_swap0 6 (some .int) 10 0 0 [.ref 181, .int v1, .int v2] (rHm f σ) n (QMi f n r) := by
  have h : ((mX9_isPieceThere v1 σ).bind fun r1 => (if r1.1 = (0 : Int32) then mX9_swap0_b16 r1.2 else ((mX9_isPieceThere v2 r1.2).bind fun r2 => (if r2.1 = (0 : Int32) then mX9_swap0_b16 r2.2 else (if v1 = v2 then some ((5 : Int32), r2.2) else ((mX9_nowMany v1 r2.2).bind fun r3 => ((mX9_nowMany v2 r3.2).bind fun r4 => (if (60 : Int32) < r3.1 then mX9_swap0_b51 r4.2 else (if r4.1 ≤ (60 : Int32) then mX9_swap0_l57 rFU v1 v2 r3.1 r4.1 (0 : Int32) r4.2 else mX9_swap0_b51 r4.2))))))))) = some r := h
  refine AM.of (by decide +kernel) rfl (Nat.le_of_ble_eq_true rfl) (fun p e s m args below meth c C _ => ?_)
  refine aw_nl [some (.ref 181), some (.int v1), some (.int v2), none, none, none] rfl ?_
  refine aw_ald_n C dX9_swap0_0 rfl ?_
  refine aw_iload_n C dX9_swap0_1 rfl ?_
  obtain ⟨r1, h1, h⟩ := Option.bind_eq_some_iff.mp h
  refine aw_callV C (ci := 9) (b := 181) [.int v1] mv_X9_293 rfl rfl (hm_M f σ) (rmX9_isPieceThere h1) rfl dX9_swap0_2 (Nat.le_of_ble_eq_true rfl) (Nat.le_of_ble_eq_true rfl) rfl (Nat.le_of_ble_eq_true rfl) (Nat.le_of_ble_eq_true rfl) (Nat.le_of_ble_eq_true rfl) (fun v9 f9 n9 hh => ?_)
  obtain ⟨rfl, rfl, rfl⟩ := hh
  refine aw_if_eq C 16 dX9_swap0_5 (by decide) (fun q => ?_) (fun q => ?_)
  · rw [if_pos q] at h
    refine aw_fl [none, none, none, none, none, none] trivial ?_
    exact rmX9_swap0_b16 C h
  · rw [if_neg q] at h
    refine aw_ald_n C dX9_swap0_8 rfl ?_
    refine aw_iload_n C dX9_swap0_9 rfl ?_
    obtain ⟨r2, h2, h⟩ := Option.bind_eq_some_iff.mp h
    refine aw_callV C (ci := 9) (b := 181) [.int v2] mv_X9_293 rfl rfl (hm_M f r1.2) (rmX9_isPieceThere h2) rfl dX9_swap0_10 (Nat.le_of_ble_eq_true rfl) (Nat.le_of_ble_eq_true rfl) rfl (Nat.le_of_ble_eq_true rfl) (Nat.le_of_ble_eq_true rfl) (Nat.le_of_ble_eq_true rfl) (fun v9 f9 n9 hh => ?_)
    obtain ⟨rfl, rfl, rfl⟩ := hh
    refine aw_if_ne C 18 dX9_swap0_13 (by decide) (fun q => ?_) (fun q => ?_)
    · rw [if_neg q] at h
      refine aw_iload_n C dX9_swap0_18 rfl ?_
      refine aw_iload_n C dX9_swap0_19 rfl ?_
      refine aw_icmp_ne C 25 dX9_swap0_20 (by decide) (fun q => ?_) (fun q => ?_)
      · rw [if_neg q] at h
        refine aw_ald_n C dX9_swap0_25 rfl ?_
        refine aw_iload_n C dX9_swap0_26 rfl ?_
        obtain ⟨r3, h3, h⟩ := Option.bind_eq_some_iff.mp h
        refine aw_callV C (ci := 9) (b := 181) [.int v1] mv_X9_313 rfl rfl (hm_M f r2.2) (rmX9_nowMany h3) rfl dX9_swap0_27 (Nat.le_of_ble_eq_true rfl) (Nat.le_of_ble_eq_true rfl) rfl (Nat.le_of_ble_eq_true rfl) (Nat.le_of_ble_eq_true rfl) (Nat.le_of_ble_eq_true rfl) (fun v9 f9 n9 hh => ?_)
        obtain ⟨rfl, rfl, rfl⟩ := hh
        refine aw_istore_n C dX9_swap0_30 (by decide) rfl ?_
        refine aw_nl [some (.ref 181), some (.int v1), some (.int v2), some (.int r3.1), none, none] rfl ?_
        refine aw_ald_n C dX9_swap0_31 rfl ?_
        refine aw_iload_n C dX9_swap0_32 rfl ?_
        obtain ⟨r4, h4, h⟩ := Option.bind_eq_some_iff.mp h
        refine aw_callV C (ci := 9) (b := 181) [.int v2] mv_X9_313 rfl rfl (hm_M f r3.2) (rmX9_nowMany h4) rfl dX9_swap0_33 (Nat.le_of_ble_eq_true rfl) (Nat.le_of_ble_eq_true rfl) rfl (Nat.le_of_ble_eq_true rfl) (Nat.le_of_ble_eq_true rfl) (Nat.le_of_ble_eq_true rfl) (fun v9 f9 n9 hh => ?_)
        obtain ⟨rfl, rfl, rfl⟩ := hh
        refine aw_istore C dX9_swap0_36 (by decide) rfl ?_
        refine aw_nl [some (.ref 181), some (.int v1), some (.int v2), some (.int r3.1), some (.int r4.1), none] rfl ?_
        refine aw_iload_n C dX9_swap0_38 rfl ?_
        refine aw_bipush C 60 dX9_swap0_39 kb_60 ?_
        refine aw_icmp_gt C 51 dX9_swap0_41 (by decide) (fun q => ?_) (fun q => ?_)
        · rw [if_pos q] at h
          refine aw_fl [none, none, none, none, none, none] trivial ?_
          exact rmX9_swap0_b51 C h
        · rw [if_neg q] at h
          refine aw_iload C dX9_swap0_44 rfl ?_
          refine aw_bipush C 60 dX9_swap0_46 kb_60 ?_
          refine aw_icmp_le C 54 dX9_swap0_48 (by decide) (fun q => ?_) (fun q => ?_)
          · rw [if_pos q] at h
            refine aw_iconst C 0 dX9_swap0_54 ki_0 ?_
            refine aw_istore C dX9_swap0_55 (by decide) rfl ?_
            refine aw_nl [some (.ref 181), some (.int v1), some (.int v2), some (.int r3.1), some (.int r4.1), some (.int (0 : Int32))] rfl ?_
            refine aw_fl [some (.ref 181), some (.int v1), some (.int v2), some (.int r3.1), some (.int r4.1), some (.int (0 : Int32))] ⟨rfl, ⟨rfl, ⟨rfl, ⟨rfl, ⟨rfl, ⟨rfl, trivial⟩⟩⟩⟩⟩⟩ ?_
            exact rmX9_swap0_l57 C rFU v1 v2 r3.1 r4.1 (0 : Int32) r4.2 h
          · rw [if_neg q] at h
            refine aw_fl [none, none, none, none, none, none] trivial ?_
            exact rmX9_swap0_b51 C h
      · rw [if_pos q] at h
        refine aw_iconst C 5 dX9_swap0_23 ki_5 ?_
        cases h
        exact aw_iret C rfl rfl dX9_swap0_24 (Nat.le_refl _) (Nat.le_refl _) ⟨rfl, rfl, rfl⟩
    · rw [if_pos q] at h
      refine aw_fl [none, none, none, none, none, none] trivial ?_
      exact rmX9_swap0_b16 C h
def mX9_swapText_b34 (s0 : Int32) (σ : RS9) : Option (Int32 × RS9) := some (s0, σ)
set_option maxHeartbeats 1000000 in
theorem rmX9_swapText_b34 {X : GX} {p : Program} {l : Launch} {e : Env} {s : State} {m : MethodId} {args : Array Value} {below : List Frame} {meth : Method} {c : Code} {f : AH} {n : Nat} {r : Int32 × RS9} {s0 : Int32} {σ : RS9} (C : CC X p l (RM 11 0 0) s m args meth c RX9 cX9_swapText 3 (some .int)) (h : mX9_swapText_b34 s0 σ = some r) : AW X p l e (RM 11 0 0) s m args below meth c 3 (ZM X below args s 0 0 (QMi f n r)) (rHm f σ) n 0 0 34 [none, none, none] [.int s0] := by
  have h : some (s0, σ) = some r := h
  cases h
  exact aw_iret C rfl rfl dX9_swapText_34 (Nat.le_refl _) (Nat.le_refl _) ⟨rfl, rfl, rfl⟩
def mX9_swapText (σ : RS9) : Option (Int32 × RS9) := ((mX9_number (0 : Int32) (39 : Int32) σ).bind fun r1 => ((mX9_number (0 : Int32) (39 : Int32) r1.2).bind fun r2 => (if (r2.2.1 12) = (-1 : Int32) then ((mX9_swap0 r1.1 r2.1 r2.2).bind fun r3 => mX9_swapText_b34 r3.1 r3.2) else mX9_swapText_b34 (0 : Int32) r2.2)))
set_option maxHeartbeats 1000000 in
theorem rmX9_swapText {X : GX} {l : Launch} {f : AH} {n : Nat} {r : Int32 × RS9} {σ : RS9} (h : mX9_swapText σ = some r) : AM X l yX9_swapText cX9_swapText 3 (some .int) 11 0 0 [.ref 181] (rHm f σ) n (QMi f n r) := by
  have h : ((mX9_number (0 : Int32) (39 : Int32) σ).bind fun r1 => ((mX9_number (0 : Int32) (39 : Int32) r1.2).bind fun r2 => (if (r2.2.1 12) = (-1 : Int32) then ((mX9_swap0 r1.1 r2.1 r2.2).bind fun r3 => mX9_swapText_b34 r3.1 r3.2) else mX9_swapText_b34 (0 : Int32) r2.2))) = some r := h
  refine AM.of (by decide +kernel) rfl (Nat.le_of_ble_eq_true rfl) (fun p e s m args below meth c C _ => ?_)
  refine aw_nl [some (.ref 181), none, none] rfl ?_
  refine aw_ald_n C dX9_swapText_0 rfl ?_
  refine aw_iconst C 0 dX9_swapText_1 ki_0 ?_
  refine aw_bipush C 39 dX9_swapText_2 kb_39 ?_
  obtain ⟨r1, h1, h⟩ := Option.bind_eq_some_iff.mp h
  refine aw_callV C (ci := 9) (b := 181) [.int (0 : Int32), .int (39 : Int32)] mv_X9_358 rfl rfl (hm_M f σ) (rmX9_number h1) rfl dX9_swapText_4 (Nat.le_of_ble_eq_true rfl) (Nat.le_of_ble_eq_true rfl) rfl (Nat.le_of_ble_eq_true rfl) (Nat.le_of_ble_eq_true rfl) (Nat.le_of_ble_eq_true rfl) (fun v9 f9 n9 hh => ?_)
  obtain ⟨rfl, rfl, rfl⟩ := hh
  refine aw_istore_n C dX9_swapText_7 (by decide) rfl ?_
  refine aw_nl [some (.ref 181), some (.int r1.1), none] rfl ?_
  refine aw_ald_n C dX9_swapText_8 rfl ?_
  refine aw_iconst C 0 dX9_swapText_9 ki_0 ?_
  refine aw_bipush C 39 dX9_swapText_10 kb_39 ?_
  obtain ⟨r2, h2, h⟩ := Option.bind_eq_some_iff.mp h
  refine aw_callV C (ci := 9) (b := 181) [.int (0 : Int32), .int (39 : Int32)] mv_X9_358 rfl rfl (hm_M f r1.2) (rmX9_number h2) rfl dX9_swapText_12 (Nat.le_of_ble_eq_true rfl) (Nat.le_of_ble_eq_true rfl) rfl (Nat.le_of_ble_eq_true rfl) (Nat.le_of_ble_eq_true rfl) (Nat.le_of_ble_eq_true rfl) (fun v9 f9 n9 hh => ?_)
  obtain ⟨rfl, rfl, rfl⟩ := hh
  refine aw_istore_n C dX9_swapText_15 (by decide) rfl ?_
  refine aw_nl [some (.ref 181), some (.int r1.1), some (.int r2.1)] rfl ?_
  refine aw_ald_n C dX9_swapText_16 rfl ?_
  refine aw_get C (v := .int (r2.2.1 12)) gf_X9_26 (hm_M f r2.2) rfl dX9_swapText_17 ?_
  refine aw_iconst C (-1) dX9_swapText_20 ki_m1 ?_
  refine aw_icmp_ne C 33 dX9_swapText_21 (by decide) (fun q => ?_) (fun q => ?_)
  · rw [if_neg q] at h
    refine aw_iconst C 0 dX9_swapText_33 ki_0 ?_
    refine aw_fl [none, none, none] trivial ?_
    exact rmX9_swapText_b34 C h
  · rw [if_pos q] at h
    refine aw_ald_n C dX9_swapText_24 rfl ?_
    refine aw_iload_n C dX9_swapText_25 rfl ?_
    refine aw_iload_n C dX9_swapText_26 rfl ?_
    obtain ⟨r3, h3, h⟩ := Option.bind_eq_some_iff.mp h
    refine aw_callV C (ci := 9) (b := 181) [.int r1.1, .int r2.1] mv_X9_364 rfl rfl (hm_M f r2.2) (rmX9_swap0 h3) rfl dX9_swapText_27 (Nat.le_of_ble_eq_true rfl) (Nat.le_of_ble_eq_true rfl) rfl (Nat.le_of_ble_eq_true rfl) (Nat.le_of_ble_eq_true rfl) (Nat.le_of_ble_eq_true rfl) (fun v9 f9 n9 hh => ?_)
    obtain ⟨rfl, rfl, rfl⟩ := hh
    refine aw_goto C 34 dX9_swapText_30 (by decide) ?_
    refine aw_fl [none, none, none] trivial ?_
    exact rmX9_swapText_b34 C h
end
