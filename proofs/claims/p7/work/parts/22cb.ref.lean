def mX9_cutsAll_b333 (rec78 : Int32 → RS9 → Option (Int32 × RS9)) (v1 : Int32) (σ : RS9) : Option (Int32 × RS9) := rec78 (v1 + (1 : Int32)) σ
set_option maxHeartbeats 1000000 in
theorem rmX9_cutsAll_b333 {X : GX} {p : Program} {l : Launch} {e : Env} {s : State} {m : MethodId} {args : Array Value} {below : List Frame} {meth : Method} {c : Code} {f : AH} {n : Nat} {r : Int32 × RS9} {rec78 : Int32 → RS9 → Option (Int32 × RS9)} {v1 : Int32} {σ : RS9} (C : CC X p l (RM 7 0 0) s m args meth c RX9 cX9_cutsAll 5 none) (Hr78 : ∀ (v1 : Int32) (σ : RS9), rec78 v1 σ = some r → AW X p l e (RM 7 0 0) s m args below meth c 5 (ZM X below args s 0 0 (QMv f n r)) (rHm f σ) n 0 0 78 [some (.ref 181), some (.int v1), none, none, none] []) (h : mX9_cutsAll_b333 rec78 v1 σ = some r) : AW X p l e (RM 7 0 0) s m args below meth c 5 (ZM X below args s 0 0 (QMv f n r)) (rHm f σ) n 0 0 333 [some (.ref 181), some (.int v1), none, none, none] [] := by
  have h : rec78 (v1 + (1 : Int32)) σ = some r := h
  refine aw_iinc C (v1 + (1 : Int32)) dX9_cutsAll_333 rfl (by rw [ki_1]) (by decide) rfl ?_
  refine aw_nl [some (.ref 181), some (.int (v1 + (1 : Int32))), none, none, none] rfl ?_
  refine aw_goto C 78 dX9_cutsAll_336 (by decide) ?_
  refine aw_fl [some (.ref 181), some (.int (v1 + (1 : Int32))), none, none, none] ⟨rfl, ⟨rfl, trivial⟩⟩ ?_
  exact Hr78 (v1 + (1 : Int32)) σ h
def mX9_cutsAll_b318 (rec78 : Int32 → RS9 → Option (Int32 × RS9)) (rec220 : Int32 → Int32 → Int32 → RS9 → Option (Int32 × RS9)) (v1 : Int32) (v2 : Int32) (v3 : Int32) (s1 : Int32) (s2 : Nat) (s3 : Nat) (s4 : Nat) (s5 : Int32) (s6 : Int32) (σ : RS9) : Option (Int32 × RS9) := rCk (rIn v3 (rLen 29)) (((mX9_takes s1 s2 s3 s4 s5 s6 (rGa σ 29 v3) σ).bind fun r2 => rec220 v1 v2 (v3 + (1 : Int32)) r2.2))
set_option maxHeartbeats 1000000 in
theorem rmX9_cutsAll_b318 {X : GX} {p : Program} {l : Launch} {e : Env} {s : State} {m : MethodId} {args : Array Value} {below : List Frame} {meth : Method} {c : Code} {f : AH} {n : Nat} {r : Int32 × RS9} {rec78 : Int32 → RS9 → Option (Int32 × RS9)} {rec220 : Int32 → Int32 → Int32 → RS9 → Option (Int32 × RS9)} {v1 : Int32} {v2 : Int32} {v3 : Int32} {s1 : Int32} {s2 : Nat} {s3 : Nat} {s4 : Nat} {s5 : Int32} {s6 : Int32} {σ : RS9} (C : CC X p l (RM 7 0 0) s m args meth c RX9 cX9_cutsAll 5 none) (Hr78 : ∀ (v1 : Int32) (σ : RS9), rec78 v1 σ = some r → AW X p l e (RM 7 0 0) s m args below meth c 5 (ZM X below args s 0 0 (QMv f n r)) (rHm f σ) n 0 0 78 [some (.ref 181), some (.int v1), none, none, none] []) (Hr220 : ∀ (v1 : Int32) (v2 : Int32) (v3 : Int32) (σ : RS9), rec220 v1 v2 v3 σ = some r → AW X p l e (RM 7 0 0) s m args below meth c 5 (ZM X below args s 0 0 (QMv f n r)) (rHm f σ) n 0 0 220 [some (.ref 181), some (.int v1), some (.int v2), some (.int v3), none] []) (ias2 : rIsA s2 = true) (ias3 : rIsA s3 = true) (ias4 : rIsA s4 = true) (h : mX9_cutsAll_b318 rec78 rec220 v1 v2 v3 s1 s2 s3 s4 s5 s6 σ = some r) : AW X p l e (RM 7 0 0) s m args below meth c 5 (ZM X below args s 0 0 (QMv f n r)) (rHm f σ) n 0 0 318 [some (.ref 181), some (.int v1), some (.int v2), some (.int v3), none] [.int s6, .int s5, .ref (rAid s4), .ref (rAid s3), .ref (rAid s2), .int s1, .ref 181] := by
  have h : rCk (rIn v3 (rLen 29)) (((mX9_takes s1 s2 s3 s4 s5 s6 (rGa σ 29 v3) σ).bind fun r2 => rec220 v1 v2 (v3 + (1 : Int32)) r2.2)) = some r := h
  refine aw_ald_n C dX9_cutsAll_318 rfl ?_
  refine aw_get C (v := .ref (rAid 29)) gf_X9_69 (hm_M f σ) rfl dX9_cutsAll_319 ?_
  refine aw_iload_n C dX9_cutsAll_322 rfl ?_
  obtain ⟨hb1, h⟩ := ck_some h
  refine am_iald C (rGa σ 29 v3) rfl (inb_vp hb1) rfl dX9_cutsAll_323 ?_
  obtain ⟨r2, h2, h⟩ := Option.bind_eq_some_iff.mp h
  refine aw_callV C (ci := 9) (b := 181) [.int s1, .ref (rAid s2), .ref (rAid s3), .ref (rAid s4), .int s5, .int s6, .int (rGa σ 29 v3)] mv_X9_237 rfl rfl (hm_M f σ) (rmX9_takes ias2 ias3 ias4 h2) rfl dX9_cutsAll_324 (Nat.le_of_ble_eq_true rfl) (Nat.le_of_ble_eq_true rfl) rfl (Nat.le_of_ble_eq_true rfl) (Nat.le_of_ble_eq_true rfl) (Nat.le_of_ble_eq_true rfl) (fun v9 f9 n9 hh => ?_)
  obtain ⟨rfl, rfl, rfl⟩ := hh
  refine aw_iinc C (v3 + (1 : Int32)) dX9_cutsAll_327 rfl (by rw [ki_1]) (by decide) rfl ?_
  refine aw_nl [some (.ref 181), some (.int v1), some (.int v2), some (.int (v3 + (1 : Int32))), none] rfl ?_
  refine aw_goto C 220 dX9_cutsAll_330 (by decide) ?_
  refine aw_fl [some (.ref 181), some (.int v1), some (.int v2), some (.int (v3 + (1 : Int32))), none] ⟨rfl, ⟨rfl, ⟨rfl, ⟨rfl, trivial⟩⟩⟩⟩ ?_
  exact Hr220 v1 v2 (v3 + (1 : Int32)) r2.2 h
def mX9_cutsAll_b247 (rec78 : Int32 → RS9 → Option (Int32 × RS9)) (rec220 : Int32 → Int32 → Int32 → RS9 → Option (Int32 × RS9)) (v1 : Int32) (v2 : Int32) (v3 : Int32) (s1 : Int32) (s2 : Int32) (σ : RS9) : Option (Int32 × RS9) := rCk (rIn v3 (rLen 27)) (rCk (rIn v3 (rLen 28)) (((mX9_undoes s1 s2 23 24 25 (rGa σ 27 v3) (rGa σ 28 v3) 30 31 32 σ).bind fun r3 => rCk (rIn v3 (rLen 27)) ((if (rGa r3.2 27 v3) = (0 : Int32) then mX9_cutsAll_b318 rec78 rec220 v1 v2 v3 v1 30 31 32 r3.1 (1 : Int32) r3.2 else mX9_cutsAll_b318 rec78 rec220 v1 v2 v3 v1 30 31 32 r3.1 (0 : Int32) r3.2)))))
set_option maxHeartbeats 1000000 in
theorem rmX9_cutsAll_b247 {X : GX} {p : Program} {l : Launch} {e : Env} {s : State} {m : MethodId} {args : Array Value} {below : List Frame} {meth : Method} {c : Code} {f : AH} {n : Nat} {r : Int32 × RS9} {rec78 : Int32 → RS9 → Option (Int32 × RS9)} {rec220 : Int32 → Int32 → Int32 → RS9 → Option (Int32 × RS9)} {v1 : Int32} {v2 : Int32} {v3 : Int32} {s1 : Int32} {s2 : Int32} {σ : RS9} (C : CC X p l (RM 7 0 0) s m args meth c RX9 cX9_cutsAll 5 none) (Hr78 : ∀ (v1 : Int32) (σ : RS9), rec78 v1 σ = some r → AW X p l e (RM 7 0 0) s m args below meth c 5 (ZM X below args s 0 0 (QMv f n r)) (rHm f σ) n 0 0 78 [some (.ref 181), some (.int v1), none, none, none] []) (Hr220 : ∀ (v1 : Int32) (v2 : Int32) (v3 : Int32) (σ : RS9), rec220 v1 v2 v3 σ = some r → AW X p l e (RM 7 0 0) s m args below meth c 5 (ZM X below args s 0 0 (QMv f n r)) (rHm f σ) n 0 0 220 [some (.ref 181), some (.int v1), some (.int v2), some (.int v3), none] []) (h : mX9_cutsAll_b247 rec78 rec220 v1 v2 v3 s1 s2 σ = some r) : AW X p l e (RM 7 0 0) s m args below meth c 5 (ZM X below args s 0 0 (QMv f n r)) (rHm f σ) n 0 0 247 [some (.ref 181), some (.int v1), some (.int v2), some (.int v3), none] [.int s2, .int s1, .ref 181] := by
  have h : rCk (rIn v3 (rLen 27)) (rCk (rIn v3 (rLen 28)) (((mX9_undoes s1 s2 23 24 25 (rGa σ 27 v3) (rGa σ 28 v3) 30 31 32 σ).bind fun r3 => rCk (rIn v3 (rLen 27)) ((if (rGa r3.2 27 v3) = (0 : Int32) then mX9_cutsAll_b318 rec78 rec220 v1 v2 v3 v1 30 31 32 r3.1 (1 : Int32) r3.2 else mX9_cutsAll_b318 rec78 rec220 v1 v2 v3 v1 30 31 32 r3.1 (0 : Int32) r3.2))))) = some r := h
  refine aw_ald_n C dX9_cutsAll_247 rfl ?_
  refine aw_get C (v := .ref (rAid 23)) gf_X9_54 (hm_M f σ) rfl dX9_cutsAll_248 ?_
  refine aw_ald_n C dX9_cutsAll_251 rfl ?_
  refine aw_get C (v := .ref (rAid 24)) gf_X9_57 (hm_M f σ) rfl dX9_cutsAll_252 ?_
  refine aw_ald_n C dX9_cutsAll_255 rfl ?_
  refine aw_get C (v := .ref (rAid 25)) gf_X9_60 (hm_M f σ) rfl dX9_cutsAll_256 ?_
  refine aw_ald_n C dX9_cutsAll_259 rfl ?_
  refine aw_get C (v := .ref (rAid 27)) gf_X9_63 (hm_M f σ) rfl dX9_cutsAll_260 ?_
  refine aw_iload_n C dX9_cutsAll_263 rfl ?_
  obtain ⟨hb1, h⟩ := ck_some h
  refine am_iald C (rGa σ 27 v3) rfl (inb_vp hb1) rfl dX9_cutsAll_264 ?_
  refine aw_ald_n C dX9_cutsAll_265 rfl ?_
  refine aw_get C (v := .ref (rAid 28)) gf_X9_66 (hm_M f σ) rfl dX9_cutsAll_266 ?_
  refine aw_iload_n C dX9_cutsAll_269 rfl ?_
  obtain ⟨hb2, h⟩ := ck_some h
  refine am_iald C (rGa σ 28 v3) rfl (inb_vp hb2) rfl dX9_cutsAll_270 ?_
  refine aw_ald_n C dX9_cutsAll_271 rfl ?_
  refine aw_get C (v := .ref (rAid 30)) gf_X9_72 (hm_M f σ) rfl dX9_cutsAll_272 ?_
  refine aw_ald_n C dX9_cutsAll_275 rfl ?_
  refine aw_get C (v := .ref (rAid 31)) gf_X9_75 (hm_M f σ) rfl dX9_cutsAll_276 ?_
  refine aw_ald_n C dX9_cutsAll_279 rfl ?_
  refine aw_get C (v := .ref (rAid 32)) gf_X9_78 (hm_M f σ) rfl dX9_cutsAll_280 ?_
  obtain ⟨r3, h3, h⟩ := Option.bind_eq_some_iff.mp h
  refine aw_callV C (ci := 9) (b := 181) [.int s1, .int s2, .ref (rAid 23), .ref (rAid 24), .ref (rAid 25), .int (rGa σ 27 v3), .int (rGa σ 28 v3), .ref (rAid 30), .ref (rAid 31), .ref (rAid 32)] mv_X9_230 rfl rfl (hm_M f σ) (rmX9_undoes rfl rfl rfl rfl rfl rfl h3) rfl dX9_cutsAll_283 (Nat.le_of_ble_eq_true rfl) (Nat.le_of_ble_eq_true rfl) rfl (Nat.le_of_ble_eq_true rfl) (Nat.le_of_ble_eq_true rfl) (Nat.le_of_ble_eq_true rfl) (fun v9 f9 n9 hh => ?_)
  obtain ⟨rfl, rfl, rfl⟩ := hh
  refine aw_istore C dX9_cutsAll_286 (by decide) rfl ?_
  refine aw_nl [some (.ref 181), some (.int v1), some (.int v2), some (.int v3), some (.int r3.1)] rfl ?_
  refine aw_ald_n C dX9_cutsAll_288 rfl ?_
  refine aw_iload_n C dX9_cutsAll_289 rfl ?_
  refine aw_ald_n C dX9_cutsAll_290 rfl ?_
  refine aw_get C (v := .ref (rAid 30)) gf_X9_72 (hm_M f r3.2) rfl dX9_cutsAll_291 ?_
  refine aw_ald_n C dX9_cutsAll_294 rfl ?_
  refine aw_get C (v := .ref (rAid 31)) gf_X9_75 (hm_M f r3.2) rfl dX9_cutsAll_295 ?_
  refine aw_ald_n C dX9_cutsAll_298 rfl ?_
  refine aw_get C (v := .ref (rAid 32)) gf_X9_78 (hm_M f r3.2) rfl dX9_cutsAll_299 ?_
  refine aw_iload C dX9_cutsAll_302 rfl ?_
  refine aw_ald_n C dX9_cutsAll_304 rfl ?_
  refine aw_get C (v := .ref (rAid 27)) gf_X9_63 (hm_M f r3.2) rfl dX9_cutsAll_305 ?_
  refine aw_iload_n C dX9_cutsAll_308 rfl ?_
  obtain ⟨hb4, h⟩ := ck_some h
  refine am_iald C (rGa r3.2 27 v3) rfl (inb_vp hb4) rfl dX9_cutsAll_309 ?_
  refine aw_if_ne C 317 dX9_cutsAll_310 (by decide) (fun q => ?_) (fun q => ?_)
  · rw [if_neg q] at h
    refine aw_iconst C 0 dX9_cutsAll_317 ki_0 ?_
    refine aw_fl [some (.ref 181), some (.int v1), some (.int v2), some (.int v3), none] ⟨rfl, ⟨rfl, ⟨rfl, ⟨rfl, trivial⟩⟩⟩⟩ ?_
    exact rmX9_cutsAll_b318 C Hr78 Hr220 rfl rfl rfl h
  · rw [if_pos q] at h
    refine aw_iconst C 1 dX9_cutsAll_313 ki_1 ?_
    refine aw_goto C 318 dX9_cutsAll_314 (by decide) ?_
    refine aw_fl [some (.ref 181), some (.int v1), some (.int v2), some (.int v3), none] ⟨rfl, ⟨rfl, ⟨rfl, ⟨rfl, trivial⟩⟩⟩⟩ ?_
    exact rmX9_cutsAll_b318 C Hr78 Hr220 rfl rfl rfl h
def mX9_cutsAll_l220 (rec78 : Int32 → RS9 → Option (Int32 × RS9)) : Nat → Int32 → Int32 → Int32 → RS9 → Option (Int32 × RS9)
  | 0, _, _, _, _ => none
  | d + 1, v1, v2, v3, σ => (if v2 ≤ v3 then mX9_cutsAll_b333 rec78 v1 σ else rCk (rIn (2 : Int32) (rLen 1)) (rCk (rIn v3 (rLen 29)) ((if (rGa σ 29 v3) = (1 : Int32) then mX9_cutsAll_b247 rec78 (fun v1 v2 v3 σ => mX9_cutsAll_l220 rec78 d v1 v2 v3 σ) v1 v2 v3 (rGa σ 1 (2 : Int32)) (1 : Int32) σ else mX9_cutsAll_b247 rec78 (fun v1 v2 v3 σ => mX9_cutsAll_l220 rec78 d v1 v2 v3 σ) v1 v2 v3 (rGa σ 1 (2 : Int32)) (0 : Int32) σ))))
set_option maxHeartbeats 1000000 in
theorem rmX9_cutsAll_l220 {X : GX} {p : Program} {l : Launch} {e : Env} {s : State} {m : MethodId} {args : Array Value} {below : List Frame} {meth : Method} {c : Code} {f : AH} {n : Nat} {r : Int32 × RS9} {rec78 : Int32 → RS9 → Option (Int32 × RS9)} (C : CC X p l (RM 7 0 0) s m args meth c RX9 cX9_cutsAll 5 none) (Hr78 : ∀ (v1 : Int32) (σ : RS9), rec78 v1 σ = some r → AW X p l e (RM 7 0 0) s m args below meth c 5 (ZM X below args s 0 0 (QMv f n r)) (rHm f σ) n 0 0 78 [some (.ref 181), some (.int v1), none, none, none] []) : ∀ (d : Nat) (v1 : Int32) (v2 : Int32) (v3 : Int32) (σ : RS9) (_ : mX9_cutsAll_l220 rec78 d v1 v2 v3 σ = some r), AW X p l e (RM 7 0 0) s m args below meth c 5 (ZM X below args s 0 0 (QMv f n r)) (rHm f σ) n 0 0 220 [some (.ref 181), some (.int v1), some (.int v2), some (.int v3), none] [] := by
  intro d
  induction d with
  | zero =>
    intro v1 v2 v3 σ h
    exact nomatch (show (none : Option (Int32 × RS9)) = some r from h)
  | succ d ih =>
    intro v1 v2 v3 σ h
    have h : (if v2 ≤ v3 then mX9_cutsAll_b333 rec78 v1 σ else rCk (rIn (2 : Int32) (rLen 1)) (rCk (rIn v3 (rLen 29)) ((if (rGa σ 29 v3) = (1 : Int32) then mX9_cutsAll_b247 rec78 (fun v1 v2 v3 σ => mX9_cutsAll_l220 rec78 d v1 v2 v3 σ) v1 v2 v3 (rGa σ 1 (2 : Int32)) (1 : Int32) σ else mX9_cutsAll_b247 rec78 (fun v1 v2 v3 σ => mX9_cutsAll_l220 rec78 d v1 v2 v3 σ) v1 v2 v3 (rGa σ 1 (2 : Int32)) (0 : Int32) σ)))) = some r := h
    refine aw_iload_n C dX9_cutsAll_220 rfl ?_
    refine aw_iload_n C dX9_cutsAll_221 rfl ?_
    refine aw_icmp_ge C 333 dX9_cutsAll_222 (by decide) (fun q => ?_) (fun q => ?_)
    · rw [if_pos q] at h
      refine aw_fl [some (.ref 181), some (.int v1), none, none, none] ⟨rfl, ⟨rfl, trivial⟩⟩ ?_
      exact rmX9_cutsAll_b333 C Hr78 h
    · rw [if_neg q] at h
      refine aw_ald_n C dX9_cutsAll_225 rfl ?_
      refine aw_ald_n C dX9_cutsAll_226 rfl ?_
      refine aw_get C (v := .ref (rAid 1)) gf_X9_7 (hm_M f σ) rfl dX9_cutsAll_227 ?_
      refine aw_iconst C 2 dX9_cutsAll_230 ki_2 ?_
      obtain ⟨hb1, h⟩ := ck_some h
      refine am_iald C (rGa σ 1 (2 : Int32)) rfl (inb_vp hb1) rfl dX9_cutsAll_231 ?_
      refine aw_ald_n C dX9_cutsAll_232 rfl ?_
      refine aw_get C (v := .ref (rAid 29)) gf_X9_69 (hm_M f σ) rfl dX9_cutsAll_233 ?_
      refine aw_iload_n C dX9_cutsAll_236 rfl ?_
      obtain ⟨hb2, h⟩ := ck_some h
      refine am_iald C (rGa σ 29 v3) rfl (inb_vp hb2) rfl dX9_cutsAll_237 ?_
      refine aw_iconst C 1 dX9_cutsAll_238 ki_1 ?_
      refine aw_icmp_ne C 246 dX9_cutsAll_239 (by decide) (fun q => ?_) (fun q => ?_)
      · rw [if_neg q] at h
        refine aw_iconst C 0 dX9_cutsAll_246 ki_0 ?_
        refine aw_fl [some (.ref 181), some (.int v1), some (.int v2), some (.int v3), none] ⟨rfl, ⟨rfl, ⟨rfl, ⟨rfl, trivial⟩⟩⟩⟩ ?_
        exact rmX9_cutsAll_b247 C Hr78 (fun v1 v2 v3 σ h => ih v1 v2 v3 σ h) h
      · rw [if_pos q] at h
        refine aw_iconst C 1 dX9_cutsAll_242 ki_1 ?_
        refine aw_goto C 247 dX9_cutsAll_243 (by decide) ?_
        refine aw_fl [some (.ref 181), some (.int v1), some (.int v2), some (.int v3), none] ⟨rfl, ⟨rfl, ⟨rfl, ⟨rfl, trivial⟩⟩⟩⟩ ?_
        exact rmX9_cutsAll_b247 C Hr78 (fun v1 v2 v3 σ h => ih v1 v2 v3 σ h) h
def mX9_cutsAll_b109 (rec78 : Int32 → RS9 → Option (Int32 × RS9)) (v1 : Int32) (s2 : Int32) (s3 : Int32) (σ : RS9) : Option (Int32 × RS9) := rCk (rIn v1 (rLen 17)) (rCk (rIn v1 (rLen 18)) (((mX9_undoes s2 s3 13 14 15 (rGa σ 17 v1) (rGa σ 18 v1) 23 24 25 σ).bind fun r3 => rCk (rIn (2 : Int32) (rLen 1)) ((if (rGa r3.2 1 (2 : Int32)) = (-1 : Int32) then ((mX9_takes v1 23 24 25 r3.1 (1 : Int32) (0 : Int32) (rSf r3.2 26 r3.1)).bind fun r7 => mX9_cutsAll_b333 rec78 v1 r7.2) else rCk (rIn (2 : Int32) (rLen 1)) (((mX9_cuts (rGa r3.2 1 (2 : Int32)) 23 r3.1 27 28 29 (rSf r3.2 26 r3.1)).bind fun r6 => mX9_cutsAll_l220 rec78 rFU v1 r6.1 (0 : Int32) r6.2)))))))
set_option maxHeartbeats 1000000 in
theorem rmX9_cutsAll_b109 {X : GX} {p : Program} {l : Launch} {e : Env} {s : State} {m : MethodId} {args : Array Value} {below : List Frame} {meth : Method} {c : Code} {f : AH} {n : Nat} {r : Int32 × RS9} {rec78 : Int32 → RS9 → Option (Int32 × RS9)} {v1 : Int32} {s2 : Int32} {s3 : Int32} {σ : RS9} (C : CC X p l (RM 7 0 0) s m args meth c RX9 cX9_cutsAll 5 none) (Hr78 : ∀ (v1 : Int32) (σ : RS9), rec78 v1 σ = some r → AW X p l e (RM 7 0 0) s m args below meth c 5 (ZM X below args s 0 0 (QMv f n r)) (rHm f σ) n 0 0 78 [some (.ref 181), some (.int v1), none, none, none] []) (h : mX9_cutsAll_b109 rec78 v1 s2 s3 σ = some r) : AW X p l e (RM 7 0 0) s m args below meth c 5 (ZM X below args s 0 0 (QMv f n r)) (rHm f σ) n 0 0 109 [some (.ref 181), some (.int v1), none, none, none] [.int s3, .int s2, .ref 181, .ref 181] := by
  have h : rCk (rIn v1 (rLen 17)) (rCk (rIn v1 (rLen 18)) (((mX9_undoes s2 s3 13 14 15 (rGa σ 17 v1) (rGa σ 18 v1) 23 24 25 σ).bind fun r3 => rCk (rIn (2 : Int32) (rLen 1)) ((if (rGa r3.2 1 (2 : Int32)) = (-1 : Int32) then ((mX9_takes v1 23 24 25 r3.1 (1 : Int32) (0 : Int32) (rSf r3.2 26 r3.1)).bind fun r7 => mX9_cutsAll_b333 rec78 v1 r7.2) else rCk (rIn (2 : Int32) (rLen 1)) (((mX9_cuts (rGa r3.2 1 (2 : Int32)) 23 r3.1 27 28 29 (rSf r3.2 26 r3.1)).bind fun r6 => mX9_cutsAll_l220 rec78 rFU v1 r6.1 (0 : Int32) r6.2))))))) = some r := h
  refine aw_ald_n C dX9_cutsAll_109 rfl ?_
  refine aw_get C (v := .ref (rAid 13)) gf_X9_30 (hm_M f σ) rfl dX9_cutsAll_110 ?_
  refine aw_ald_n C dX9_cutsAll_113 rfl ?_
  refine aw_get C (v := .ref (rAid 14)) gf_X9_33 (hm_M f σ) rfl dX9_cutsAll_114 ?_
  refine aw_ald_n C dX9_cutsAll_117 rfl ?_
  refine aw_get C (v := .ref (rAid 15)) gf_X9_36 (hm_M f σ) rfl dX9_cutsAll_118 ?_
  refine aw_ald_n C dX9_cutsAll_121 rfl ?_
  refine aw_get C (v := .ref (rAid 17)) gf_X9_39 (hm_M f σ) rfl dX9_cutsAll_122 ?_
  refine aw_iload_n C dX9_cutsAll_125 rfl ?_
  obtain ⟨hb1, h⟩ := ck_some h
  refine am_iald C (rGa σ 17 v1) rfl (inb_vp hb1) rfl dX9_cutsAll_126 ?_
  refine aw_ald_n C dX9_cutsAll_127 rfl ?_
  refine aw_get C (v := .ref (rAid 18)) gf_X9_42 (hm_M f σ) rfl dX9_cutsAll_128 ?_
  refine aw_iload_n C dX9_cutsAll_131 rfl ?_
  obtain ⟨hb2, h⟩ := ck_some h
  refine am_iald C (rGa σ 18 v1) rfl (inb_vp hb2) rfl dX9_cutsAll_132 ?_
  refine aw_ald_n C dX9_cutsAll_133 rfl ?_
  refine aw_get C (v := .ref (rAid 23)) gf_X9_54 (hm_M f σ) rfl dX9_cutsAll_134 ?_
  refine aw_ald_n C dX9_cutsAll_137 rfl ?_
  refine aw_get C (v := .ref (rAid 24)) gf_X9_57 (hm_M f σ) rfl dX9_cutsAll_138 ?_
  refine aw_ald_n C dX9_cutsAll_141 rfl ?_
  refine aw_get C (v := .ref (rAid 25)) gf_X9_60 (hm_M f σ) rfl dX9_cutsAll_142 ?_
  obtain ⟨r3, h3, h⟩ := Option.bind_eq_some_iff.mp h
  refine aw_callV C (ci := 9) (b := 181) [.int s2, .int s3, .ref (rAid 13), .ref (rAid 14), .ref (rAid 15), .int (rGa σ 17 v1), .int (rGa σ 18 v1), .ref (rAid 23), .ref (rAid 24), .ref (rAid 25)] mv_X9_230 rfl rfl (hm_M f σ) (rmX9_undoes rfl rfl rfl rfl rfl rfl h3) rfl dX9_cutsAll_145 (Nat.le_of_ble_eq_true rfl) (Nat.le_of_ble_eq_true rfl) rfl (Nat.le_of_ble_eq_true rfl) (Nat.le_of_ble_eq_true rfl) (Nat.le_of_ble_eq_true rfl) (fun v9 f9 n9 hh => ?_)
  obtain ⟨rfl, rfl, rfl⟩ := hh
  refine am_put C gf_X9_234 nf9_26 rfl rfl dX9_cutsAll_148 ?_
  refine aw_ald_n C dX9_cutsAll_151 rfl ?_
  refine aw_get C (v := .ref (rAid 1)) gf_X9_7 (hm_M f (rSf r3.2 26 r3.1)) rfl dX9_cutsAll_152 ?_
  refine aw_iconst C 2 dX9_cutsAll_155 ki_2 ?_
  obtain ⟨hb4, h⟩ := ck_some h
  refine am_iald C (rGa r3.2 1 (2 : Int32)) rfl (inb_vp hb4) rfl dX9_cutsAll_156 ?_
  refine aw_iconst C (-1) dX9_cutsAll_157 ki_m1 ?_
  refine aw_icmp_ne C 187 dX9_cutsAll_158 (by decide) (fun q => ?_) (fun q => ?_)
  · rw [if_neg q] at h
    refine aw_ald_n C dX9_cutsAll_187 rfl ?_
    refine aw_ald_n C dX9_cutsAll_188 rfl ?_
    refine aw_get C (v := .ref (rAid 1)) gf_X9_7 (hm_M f (rSf r3.2 26 r3.1)) rfl dX9_cutsAll_189 ?_
    refine aw_iconst C 2 dX9_cutsAll_192 ki_2 ?_
    obtain ⟨hb5, h⟩ := ck_some h
    refine am_iald C (rGa r3.2 1 (2 : Int32)) rfl (inb_vp hb5) rfl dX9_cutsAll_193 ?_
    refine aw_ald_n C dX9_cutsAll_194 rfl ?_
    refine aw_get C (v := .ref (rAid 23)) gf_X9_54 (hm_M f (rSf r3.2 26 r3.1)) rfl dX9_cutsAll_195 ?_
    refine aw_ald_n C dX9_cutsAll_198 rfl ?_
    refine aw_get C (v := .int r3.1) gf_X9_234 (hm_M f (rSf r3.2 26 r3.1)) rfl dX9_cutsAll_199 ?_
    refine aw_ald_n C dX9_cutsAll_202 rfl ?_
    refine aw_get C (v := .ref (rAid 27)) gf_X9_63 (hm_M f (rSf r3.2 26 r3.1)) rfl dX9_cutsAll_203 ?_
    refine aw_ald_n C dX9_cutsAll_206 rfl ?_
    refine aw_get C (v := .ref (rAid 28)) gf_X9_66 (hm_M f (rSf r3.2 26 r3.1)) rfl dX9_cutsAll_207 ?_
    refine aw_ald_n C dX9_cutsAll_210 rfl ?_
    refine aw_get C (v := .ref (rAid 29)) gf_X9_69 (hm_M f (rSf r3.2 26 r3.1)) rfl dX9_cutsAll_211 ?_
    obtain ⟨r6, h6, h⟩ := Option.bind_eq_some_iff.mp h
    refine aw_callV C (ci := 9) (b := 181) [.int (rGa r3.2 1 (2 : Int32)), .ref (rAid 23), .int r3.1, .ref (rAid 27), .ref (rAid 28), .ref (rAid 29)] mv_X9_223 rfl rfl (hm_M f (rSf r3.2 26 r3.1)) (rmX9_cuts rfl rfl rfl rfl h6) rfl dX9_cutsAll_214 (Nat.le_of_ble_eq_true rfl) (Nat.le_of_ble_eq_true rfl) rfl (Nat.le_of_ble_eq_true rfl) (Nat.le_of_ble_eq_true rfl) (Nat.le_of_ble_eq_true rfl) (fun v9 f9 n9 hh => ?_)
    obtain ⟨rfl, rfl, rfl⟩ := hh
    refine aw_istore_n C dX9_cutsAll_217 (by decide) rfl ?_
    refine aw_nl [some (.ref 181), some (.int v1), some (.int r6.1), none, none] rfl ?_
    refine aw_iconst C 0 dX9_cutsAll_218 ki_0 ?_
    refine aw_istore_n C dX9_cutsAll_219 (by decide) rfl ?_
    refine aw_nl [some (.ref 181), some (.int v1), some (.int r6.1), some (.int (0 : Int32)), none] rfl ?_
    refine aw_fl [some (.ref 181), some (.int v1), some (.int r6.1), some (.int (0 : Int32)), none] ⟨rfl, ⟨rfl, ⟨rfl, ⟨rfl, trivial⟩⟩⟩⟩ ?_
    exact rmX9_cutsAll_l220 C Hr78 rFU v1 r6.1 (0 : Int32) r6.2 h
  · rw [if_pos q] at h
    refine aw_ald_n C dX9_cutsAll_161 rfl ?_
    refine aw_iload_n C dX9_cutsAll_162 rfl ?_
    refine aw_ald_n C dX9_cutsAll_163 rfl ?_
    refine aw_get C (v := .ref (rAid 23)) gf_X9_54 (hm_M f (rSf r3.2 26 r3.1)) rfl dX9_cutsAll_164 ?_
    refine aw_ald_n C dX9_cutsAll_167 rfl ?_
    refine aw_get C (v := .ref (rAid 24)) gf_X9_57 (hm_M f (rSf r3.2 26 r3.1)) rfl dX9_cutsAll_168 ?_
    refine aw_ald_n C dX9_cutsAll_171 rfl ?_
    refine aw_get C (v := .ref (rAid 25)) gf_X9_60 (hm_M f (rSf r3.2 26 r3.1)) rfl dX9_cutsAll_172 ?_
    refine aw_ald_n C dX9_cutsAll_175 rfl ?_
    refine aw_get C (v := .int r3.1) gf_X9_234 (hm_M f (rSf r3.2 26 r3.1)) rfl dX9_cutsAll_176 ?_
    refine aw_iconst C 1 dX9_cutsAll_179 ki_1 ?_
    refine aw_iconst C 0 dX9_cutsAll_180 ki_0 ?_
    obtain ⟨r7, h7, h⟩ := Option.bind_eq_some_iff.mp h
    refine aw_callV C (ci := 9) (b := 181) [.int v1, .ref (rAid 23), .ref (rAid 24), .ref (rAid 25), .int r3.1, .int (1 : Int32), .int (0 : Int32)] mv_X9_237 rfl rfl (hm_M f (rSf r3.2 26 r3.1)) (rmX9_takes rfl rfl rfl h7) rfl dX9_cutsAll_181 (Nat.le_of_ble_eq_true rfl) (Nat.le_of_ble_eq_true rfl) rfl (Nat.le_of_ble_eq_true rfl) (Nat.le_of_ble_eq_true rfl) (Nat.le_of_ble_eq_true rfl) (fun v9 f9 n9 hh => ?_)
    obtain ⟨rfl, rfl, rfl⟩ := hh
    refine aw_goto C 333 dX9_cutsAll_184 (by decide) ?_
    refine aw_fl [some (.ref 181), some (.int v1), none, none, none] ⟨rfl, ⟨rfl, trivial⟩⟩ ?_
    exact rmX9_cutsAll_b333 C Hr78 h
def mX9_cutsAll_l78 : Nat → Int32 → RS9 → Option (Int32 × RS9)
  | 0, _, _ => none
  | d + 1, v1, σ => (if (σ.1 22) ≤ v1 then some ((0 : Int32), σ) else rCk (rIn (1 : Int32) (rLen 1)) (rCk (rIn v1 (rLen 19)) ((if (rGa σ 19 v1) = (1 : Int32) then mX9_cutsAll_b109 (fun v1 σ => mX9_cutsAll_l78 d v1 σ) v1 (rGa σ 1 (1 : Int32)) (1 : Int32) σ else mX9_cutsAll_b109 (fun v1 σ => mX9_cutsAll_l78 d v1 σ) v1 (rGa σ 1 (1 : Int32)) (0 : Int32) σ))))
set_option maxHeartbeats 1000000 in
theorem rmX9_cutsAll_l78 {X : GX} {p : Program} {l : Launch} {e : Env} {s : State} {m : MethodId} {args : Array Value} {below : List Frame} {meth : Method} {c : Code} {f : AH} {n : Nat} {r : Int32 × RS9} (C : CC X p l (RM 7 0 0) s m args meth c RX9 cX9_cutsAll 5 none) : ∀ (d : Nat) (v1 : Int32) (σ : RS9) (_ : mX9_cutsAll_l78 d v1 σ = some r), AW X p l e (RM 7 0 0) s m args below meth c 5 (ZM X below args s 0 0 (QMv f n r)) (rHm f σ) n 0 0 78 [some (.ref 181), some (.int v1), none, none, none] [] := by
  intro d
  induction d with
  | zero =>
    intro v1 σ h
    exact nomatch (show (none : Option (Int32 × RS9)) = some r from h)
  | succ d ih =>
    intro v1 σ h
    have h : (if (σ.1 22) ≤ v1 then some ((0 : Int32), σ) else rCk (rIn (1 : Int32) (rLen 1)) (rCk (rIn v1 (rLen 19)) ((if (rGa σ 19 v1) = (1 : Int32) then mX9_cutsAll_b109 (fun v1 σ => mX9_cutsAll_l78 d v1 σ) v1 (rGa σ 1 (1 : Int32)) (1 : Int32) σ else mX9_cutsAll_b109 (fun v1 σ => mX9_cutsAll_l78 d v1 σ) v1 (rGa σ 1 (1 : Int32)) (0 : Int32) σ)))) = some r := h
    refine aw_iload_n C dX9_cutsAll_78 rfl ?_
    refine aw_ald_n C dX9_cutsAll_79 rfl ?_
    refine aw_get C (v := .int (σ.1 22)) gf_X9_227 (hm_M f σ) rfl dX9_cutsAll_80 ?_
    refine aw_icmp_ge C 339 dX9_cutsAll_83 (by decide) (fun q => ?_) (fun q => ?_)
    · rw [if_pos q] at h
      cases h
      exact aw_vret C rfl dX9_cutsAll_339 (Nat.le_refl _) (Nat.le_refl _) ⟨rfl, rfl, rfl⟩
    · rw [if_neg q] at h
      refine aw_ald_n C dX9_cutsAll_86 rfl ?_
      refine aw_ald_n C dX9_cutsAll_87 rfl ?_
      refine aw_ald_n C dX9_cutsAll_88 rfl ?_
      refine aw_get C (v := .ref (rAid 1)) gf_X9_7 (hm_M f σ) rfl dX9_cutsAll_89 ?_
      refine aw_iconst C 1 dX9_cutsAll_92 ki_1 ?_
      obtain ⟨hb1, h⟩ := ck_some h
      refine am_iald C (rGa σ 1 (1 : Int32)) rfl (inb_vp hb1) rfl dX9_cutsAll_93 ?_
      refine aw_ald_n C dX9_cutsAll_94 rfl ?_
      refine aw_get C (v := .ref (rAid 19)) gf_X9_45 (hm_M f σ) rfl dX9_cutsAll_95 ?_
      refine aw_iload_n C dX9_cutsAll_98 rfl ?_
      obtain ⟨hb2, h⟩ := ck_some h
      refine am_iald C (rGa σ 19 v1) rfl (inb_vp hb2) rfl dX9_cutsAll_99 ?_
      refine aw_iconst C 1 dX9_cutsAll_100 ki_1 ?_
      refine aw_icmp_ne C 108 dX9_cutsAll_101 (by decide) (fun q => ?_) (fun q => ?_)
      · rw [if_neg q] at h
        refine aw_iconst C 0 dX9_cutsAll_108 ki_0 ?_
        refine aw_fl [some (.ref 181), some (.int v1), none, none, none] ⟨rfl, ⟨rfl, trivial⟩⟩ ?_
        exact rmX9_cutsAll_b109 C (fun v1 σ h => ih v1 σ h) h
      · rw [if_pos q] at h
        refine aw_iconst C 1 dX9_cutsAll_104 ki_1 ?_
        refine aw_goto C 109 dX9_cutsAll_105 (by decide) ?_
        refine aw_fl [some (.ref 181), some (.int v1), none, none, none] ⟨rfl, ⟨rfl, trivial⟩⟩ ?_
        exact rmX9_cutsAll_b109 C (fun v1 σ h => ih v1 σ h) h
def mX9_cutsAll_l12 : Nat → Int32 → RS9 → Option (Int32 × RS9)
  | 0, _, _ => none
  | d + 1, v1, σ => (if (σ.1 16) ≤ v1 then rCk (rIn (1 : Int32) (rLen 1)) (((mX9_cuts (rGa σ 1 (1 : Int32)) 13 (σ.1 16) 17 18 19 σ).bind fun r2 => mX9_cutsAll_l78 rFU (0 : Int32) (rSf r2.2 22 r2.1))) else rCk (rIn v1 (rLen 14)) (rCk (rIn v1 (rLen 15)) (mX9_cutsAll_l12 d (v1 + (1 : Int32)) (rSa (rSa σ 14 v1 v1) 15 v1 (v1 + (1 : Int32))))))
set_option maxHeartbeats 1000000 in
theorem rmX9_cutsAll_l12 {X : GX} {p : Program} {l : Launch} {e : Env} {s : State} {m : MethodId} {args : Array Value} {below : List Frame} {meth : Method} {c : Code} {f : AH} {n : Nat} {r : Int32 × RS9} (C : CC X p l (RM 7 0 0) s m args meth c RX9 cX9_cutsAll 5 none) : ∀ (d : Nat) (v1 : Int32) (σ : RS9) (_ : mX9_cutsAll_l12 d v1 σ = some r), AW X p l e (RM 7 0 0) s m args below meth c 5 (ZM X below args s 0 0 (QMv f n r)) (rHm f σ) n 0 0 12 [some (.ref 181), some (.int v1), none, none, none] [] := by
  intro d
  induction d with
  | zero =>
    intro v1 σ h
    exact nomatch (show (none : Option (Int32 × RS9)) = some r from h)
  | succ d ih =>
    intro v1 σ h
    have h : (if (σ.1 16) ≤ v1 then rCk (rIn (1 : Int32) (rLen 1)) (((mX9_cuts (rGa σ 1 (1 : Int32)) 13 (σ.1 16) 17 18 19 σ).bind fun r2 => mX9_cutsAll_l78 rFU (0 : Int32) (rSf r2.2 22 r2.1))) else rCk (rIn v1 (rLen 14)) (rCk (rIn v1 (rLen 15)) (mX9_cutsAll_l12 d (v1 + (1 : Int32)) (rSa (rSa σ 14 v1 v1) 15 v1 (v1 + (1 : Int32)))))) = some r := h
    refine aw_iload_n C dX9_cutsAll_12 rfl ?_
    refine aw_ald_n C dX9_cutsAll_13 rfl ?_
    refine aw_get C (v := .int (σ.1 16)) gf_X9_220 (hm_M f σ) rfl dX9_cutsAll_14 ?_
    refine aw_icmp_ge C 42 dX9_cutsAll_17 (by decide) (fun q => ?_) (fun q => ?_)
    · rw [if_pos q] at h
      refine aw_ald_n C dX9_cutsAll_42 rfl ?_
      refine aw_ald_n C dX9_cutsAll_43 rfl ?_
      refine aw_ald_n C dX9_cutsAll_44 rfl ?_
      refine aw_get C (v := .ref (rAid 1)) gf_X9_7 (hm_M f σ) rfl dX9_cutsAll_45 ?_
      refine aw_iconst C 1 dX9_cutsAll_48 ki_1 ?_
      obtain ⟨hb1, h⟩ := ck_some h
      refine am_iald C (rGa σ 1 (1 : Int32)) rfl (inb_vp hb1) rfl dX9_cutsAll_49 ?_
      refine aw_ald_n C dX9_cutsAll_50 rfl ?_
      refine aw_get C (v := .ref (rAid 13)) gf_X9_30 (hm_M f σ) rfl dX9_cutsAll_51 ?_
      refine aw_ald_n C dX9_cutsAll_54 rfl ?_
      refine aw_get C (v := .int (σ.1 16)) gf_X9_220 (hm_M f σ) rfl dX9_cutsAll_55 ?_
      refine aw_ald_n C dX9_cutsAll_58 rfl ?_
      refine aw_get C (v := .ref (rAid 17)) gf_X9_39 (hm_M f σ) rfl dX9_cutsAll_59 ?_
      refine aw_ald_n C dX9_cutsAll_62 rfl ?_
      refine aw_get C (v := .ref (rAid 18)) gf_X9_42 (hm_M f σ) rfl dX9_cutsAll_63 ?_
      refine aw_ald_n C dX9_cutsAll_66 rfl ?_
      refine aw_get C (v := .ref (rAid 19)) gf_X9_45 (hm_M f σ) rfl dX9_cutsAll_67 ?_
      obtain ⟨r2, h2, h⟩ := Option.bind_eq_some_iff.mp h
      refine aw_callV C (ci := 9) (b := 181) [.int (rGa σ 1 (1 : Int32)), .ref (rAid 13), .int (σ.1 16), .ref (rAid 17), .ref (rAid 18), .ref (rAid 19)] mv_X9_223 rfl rfl (hm_M f σ) (rmX9_cuts rfl rfl rfl rfl h2) rfl dX9_cutsAll_70 (Nat.le_of_ble_eq_true rfl) (Nat.le_of_ble_eq_true rfl) rfl (Nat.le_of_ble_eq_true rfl) (Nat.le_of_ble_eq_true rfl) (Nat.le_of_ble_eq_true rfl) (fun v9 f9 n9 hh => ?_)
      obtain ⟨rfl, rfl, rfl⟩ := hh
      refine am_put C gf_X9_227 nf9_22 rfl rfl dX9_cutsAll_73 ?_
      refine aw_iconst C 0 dX9_cutsAll_76 ki_0 ?_
      refine aw_istore_n C dX9_cutsAll_77 (by decide) rfl ?_
      refine aw_nl [some (.ref 181), some (.int (0 : Int32)), none, none, none] rfl ?_
      refine aw_fl [some (.ref 181), some (.int (0 : Int32)), none, none, none] ⟨rfl, ⟨rfl, trivial⟩⟩ ?_
      exact rmX9_cutsAll_l78 C rFU (0 : Int32) (rSf r2.2 22 r2.1) h
    · rw [if_neg q] at h
      refine aw_ald_n C dX9_cutsAll_20 rfl ?_
      refine aw_get C (v := .ref (rAid 14)) gf_X9_33 (hm_M f σ) rfl dX9_cutsAll_21 ?_
      refine aw_iload_n C dX9_cutsAll_24 rfl ?_
      refine aw_iload_n C dX9_cutsAll_25 rfl ?_
      obtain ⟨hb3, h⟩ := ck_some h
      refine am_iast C rfl (inb_vp hb3) dX9_cutsAll_26 ?_
      refine aw_ald_n C dX9_cutsAll_27 rfl ?_
      refine aw_get C (v := .ref (rAid 15)) gf_X9_36 (hm_M f (rSa σ 14 v1 v1)) rfl dX9_cutsAll_28 ?_
      refine aw_iload_n C dX9_cutsAll_31 rfl ?_
      refine aw_iload_n C dX9_cutsAll_32 rfl ?_
      refine aw_iconst C 1 dX9_cutsAll_33 ki_1 ?_
      refine aw_iadd C dX9_cutsAll_34 ?_
      obtain ⟨hb4, h⟩ := ck_some h
      refine am_iast C rfl (inb_vp hb4) dX9_cutsAll_35 ?_
      refine aw_iinc C (v1 + (1 : Int32)) dX9_cutsAll_36 rfl (by rw [ki_1]) (by decide) rfl ?_
      refine aw_nl [some (.ref 181), some (.int (v1 + (1 : Int32))), none, none, none] rfl ?_
      refine aw_goto C 12 dX9_cutsAll_39 (by decide) ?_
      refine aw_fl [some (.ref 181), some (.int (v1 + (1 : Int32))), none, none, none] ⟨rfl, ⟨rfl, trivial⟩⟩ ?_
      exact ih (v1 + (1 : Int32)) (rSa (rSa σ 14 v1 v1) 15 v1 (v1 + (1 : Int32))) h
def mX9_cutsAll (σ : RS9) : Option (Int32 × RS9) := mX9_cutsAll_l12 rFU (0 : Int32) (rSf (rSf σ 33 (0 : Int32)) 45 (0 : Int32))
set_option maxHeartbeats 1000000 in
theorem rmX9_cutsAll {X : GX} {l : Launch} {f : AH} {n : Nat} {r : Int32 × RS9} {σ : RS9} (h : mX9_cutsAll σ = some r) : AM X l yX9_cutsAll cX9_cutsAll 5 none 7 0 0 [.ref 181] (rHm f σ) n (QMv f n r) := by
  have h : mX9_cutsAll_l12 rFU (0 : Int32) (rSf (rSf σ 33 (0 : Int32)) 45 (0 : Int32)) = some r := h
  refine AM.of (by decide +kernel) rfl (Nat.le_of_ble_eq_true rfl) (fun p e s m args below meth c C _ => ?_)
  refine aw_nl [some (.ref 181), none, none, none, none] rfl ?_
  refine aw_ald_n C dX9_cutsAll_0 rfl ?_
  refine aw_iconst C 0 dX9_cutsAll_1 ki_0 ?_
  refine am_put C gf_X9_204 nf9_33 rfl rfl dX9_cutsAll_2 ?_
  refine aw_ald_n C dX9_cutsAll_5 rfl ?_
  refine aw_iconst C 0 dX9_cutsAll_6 ki_0 ?_
  refine am_put C gf_X9_217 nf9_45 rfl rfl dX9_cutsAll_7 ?_
  refine aw_iconst C 0 dX9_cutsAll_10 ki_0 ?_
  refine aw_istore_n C dX9_cutsAll_11 (by decide) rfl ?_
  refine aw_nl [some (.ref 181), some (.int (0 : Int32)), none, none, none] rfl ?_
  refine aw_fl [some (.ref 181), some (.int (0 : Int32)), none, none, none] ⟨rfl, ⟨rfl, trivial⟩⟩ ?_
  exact rmX9_cutsAll_l12 C rFU (0 : Int32) (rSf (rSf σ 33 (0 : Int32)) 45 (0 : Int32)) h
def mX9_cutsFile_l12 : Nat → Int32 → RS9 → Option (Int32 × RS9)
  | 0, _, _ => none
  | d + 1, v1, σ => (if (σ.1 16) ≤ v1 then ((mX9_cutsAll σ).bind fun r1 => some ((0 : Int32), r1.2)) else rCk (rIn ((43 : Int32) + v1) (rLen 1)) (rCk (rIn v1 (rLen 13)) (mX9_cutsFile_l12 d (v1 + (1 : Int32)) (rSa σ 13 v1 (rGa σ 1 ((43 : Int32) + v1))))))
set_option maxHeartbeats 1000000 in
theorem rmX9_cutsFile_l12 {X : GX} {p : Program} {l : Launch} {e : Env} {s : State} {m : MethodId} {args : Array Value} {below : List Frame} {meth : Method} {c : Code} {f : AH} {n : Nat} {r : Int32 × RS9} (C : CC X p l (RM 8 0 0) s m args meth c RX9 cX9_cutsFile 2 none) : ∀ (d : Nat) (v1 : Int32) (σ : RS9) (_ : mX9_cutsFile_l12 d v1 σ = some r), AW X p l e (RM 8 0 0) s m args below meth c 2 (ZM X below args s 0 0 (QMv f n r)) (rHm f σ) n 0 0 12 [some (.ref 181), some (.int v1)] [] := by
  intro d
  induction d with
  | zero =>
    intro v1 σ h
    exact nomatch (show (none : Option (Int32 × RS9)) = some r from h)
  | succ d ih =>
    intro v1 σ h
    have h : (if (σ.1 16) ≤ v1 then ((mX9_cutsAll σ).bind fun r1 => some ((0 : Int32), r1.2)) else rCk (rIn ((43 : Int32) + v1) (rLen 1)) (rCk (rIn v1 (rLen 13)) (mX9_cutsFile_l12 d (v1 + (1 : Int32)) (rSa σ 13 v1 (rGa σ 1 ((43 : Int32) + v1)))))) = some r := h
    refine aw_iload_n C dX9_cutsFile_12 rfl ?_
    refine aw_ald_n C dX9_cutsFile_13 rfl ?_
    refine aw_get C (v := .int (σ.1 16)) gf_X9_220 (hm_M f σ) rfl dX9_cutsFile_14 ?_
    refine aw_icmp_ge C 41 dX9_cutsFile_17 (by decide) (fun q => ?_) (fun q => ?_)
    · rw [if_pos q] at h
      refine aw_ald_n C dX9_cutsFile_41 rfl ?_
      obtain ⟨r1, h1, h⟩ := Option.bind_eq_some_iff.mp h
      refine aw_callV C (ci := 9) (b := 181) [] mv_X9_241 rfl rfl (hm_M f σ) (rmX9_cutsAll h1) rfl dX9_cutsFile_42 (Nat.le_of_ble_eq_true rfl) (Nat.le_of_ble_eq_true rfl) rfl (Nat.le_of_ble_eq_true rfl) (Nat.le_of_ble_eq_true rfl) (Nat.le_of_ble_eq_true rfl) (fun v9 f9 n9 hh => ?_)
      obtain ⟨rfl, rfl, rfl⟩ := hh
      cases h
      exact aw_vret C rfl dX9_cutsFile_45 (Nat.le_refl _) (Nat.le_refl _) ⟨rfl, rfl, rfl⟩
    · rw [if_neg q] at h
      refine aw_ald_n C dX9_cutsFile_20 rfl ?_
      refine aw_get C (v := .ref (rAid 13)) gf_X9_30 (hm_M f σ) rfl dX9_cutsFile_21 ?_
      refine aw_iload_n C dX9_cutsFile_24 rfl ?_
      refine aw_ald_n C dX9_cutsFile_25 rfl ?_
      refine aw_get C (v := .ref (rAid 1)) gf_X9_7 (hm_M f σ) rfl dX9_cutsFile_26 ?_
      refine aw_bipush C 43 dX9_cutsFile_29 kb_43 ?_
      refine aw_iload_n C dX9_cutsFile_31 rfl ?_
      refine aw_iadd C dX9_cutsFile_32 ?_
      obtain ⟨hb2, h⟩ := ck_some h
      refine am_iald C (rGa σ 1 ((43 : Int32) + v1)) rfl (inb_vp hb2) rfl dX9_cutsFile_33 ?_
      obtain ⟨hb3, h⟩ := ck_some h
      refine am_iast C rfl (inb_vp hb3) dX9_cutsFile_34 ?_
      refine aw_iinc C (v1 + (1 : Int32)) dX9_cutsFile_35 rfl (by rw [ki_1]) (by decide) rfl ?_
      refine aw_nl [some (.ref 181), some (.int (v1 + (1 : Int32)))] rfl ?_
      refine aw_goto C 12 dX9_cutsFile_38 (by decide) ?_
      refine aw_fl [some (.ref 181), some (.int (v1 + (1 : Int32)))] ⟨rfl, ⟨rfl, trivial⟩⟩ ?_
      exact ih (v1 + (1 : Int32)) (rSa σ 13 v1 (rGa σ 1 ((43 : Int32) + v1))) h
def mX9_cutsFile (σ : RS9) : Option (Int32 × RS9) := rCk (rIn (0 : Int32) (rLen 1)) (mX9_cutsFile_l12 rFU (0 : Int32) (rSf σ 16 (rGa σ 1 (0 : Int32))))
set_option maxHeartbeats 1000000 in
theorem rmX9_cutsFile {X : GX} {l : Launch} {f : AH} {n : Nat} {r : Int32 × RS9} {σ : RS9} (h : mX9_cutsFile σ = some r) : AM X l yX9_cutsFile cX9_cutsFile 2 none 8 0 0 [.ref 181] (rHm f σ) n (QMv f n r) := by
  have h : rCk (rIn (0 : Int32) (rLen 1)) (mX9_cutsFile_l12 rFU (0 : Int32) (rSf σ 16 (rGa σ 1 (0 : Int32)))) = some r := h
  refine AM.of (by decide +kernel) rfl (Nat.le_of_ble_eq_true rfl) (fun p e s m args below meth c C _ => ?_)
  refine aw_nl [some (.ref 181), none] rfl ?_
  refine aw_ald_n C dX9_cutsFile_0 rfl ?_
  refine aw_ald_n C dX9_cutsFile_1 rfl ?_
  refine aw_get C (v := .ref (rAid 1)) gf_X9_7 (hm_M f σ) rfl dX9_cutsFile_2 ?_
  refine aw_iconst C 0 dX9_cutsFile_5 ki_0 ?_
  obtain ⟨hb1, h⟩ := ck_some h
  refine am_iald C (rGa σ 1 (0 : Int32)) rfl (inb_vp hb1) rfl dX9_cutsFile_6 ?_
  refine am_put C gf_X9_220 nf9_16 rfl rfl dX9_cutsFile_7 ?_
  refine aw_iconst C 0 dX9_cutsFile_10 ki_0 ?_
  refine aw_istore_n C dX9_cutsFile_11 (by decide) rfl ?_
  refine aw_nl [some (.ref 181), some (.int (0 : Int32))] rfl ?_
  refine aw_fl [some (.ref 181), some (.int (0 : Int32))] ⟨rfl, ⟨rfl, trivial⟩⟩ ?_
  exact rmX9_cutsFile_l12 C rFU (0 : Int32) (rSf σ 16 (rGa σ 1 (0 : Int32))) h
def mX9_cutsAnew_l6 : Nat → Int32 → RS9 → Option (Int32 × RS9)
  | 0, _, _ => none
  | d + 1, v1, σ => (if (40 : Int32) ≤ v1 then some ((0 : Int32), σ) else rCk (rIn ((443 : Int32) + ((61 : Int32) * v1)) (rLen 1)) (mX9_cutsAnew_l6 d (v1 + (1 : Int32)) (rSa σ 1 ((443 : Int32) + ((61 : Int32) * v1)) (-1 : Int32))))
set_option maxHeartbeats 1000000 in
theorem rmX9_cutsAnew_l6 {X : GX} {p : Program} {l : Launch} {e : Env} {s : State} {m : MethodId} {args : Array Value} {below : List Frame} {meth : Method} {c : Code} {f : AH} {n : Nat} {r : Int32 × RS9} (C : CC X p l (RM 9 0 0) s m args meth c RX9 cX9_cutsAnew 2 none) : ∀ (d : Nat) (v1 : Int32) (σ : RS9) (_ : mX9_cutsAnew_l6 d v1 σ = some r), AW X p l e (RM 9 0 0) s m args below meth c 2 (ZM X below args s 0 0 (QMv f n r)) (rHm f σ) n 0 0 6 [some (.ref 181), some (.int v1)] [] := by
  intro d
  induction d with
  | zero =>
    intro v1 σ h
    exact nomatch (show (none : Option (Int32 × RS9)) = some r from h)
  | succ d ih =>
    intro v1 σ h
    have h : (if (40 : Int32) ≤ v1 then some ((0 : Int32), σ) else rCk (rIn ((443 : Int32) + ((61 : Int32) * v1)) (rLen 1)) (mX9_cutsAnew_l6 d (v1 + (1 : Int32)) (rSa σ 1 ((443 : Int32) + ((61 : Int32) * v1)) (-1 : Int32)))) = some r := h
    refine aw_iload_n C dX9_cutsAnew_6 rfl ?_
    refine aw_bipush C 40 dX9_cutsAnew_7 kb_40 ?_
    refine aw_icmp_ge C 32 dX9_cutsAnew_9 (by decide) (fun q => ?_) (fun q => ?_)
    · rw [if_pos q] at h
      cases h
      exact aw_vret C rfl dX9_cutsAnew_32 (Nat.le_refl _) (Nat.le_refl _) ⟨rfl, rfl, rfl⟩
    · rw [if_neg q] at h
      refine aw_ald_n C dX9_cutsAnew_12 rfl ?_
      refine aw_get C (v := .ref (rAid 1)) gf_X9_7 (hm_M f σ) rfl dX9_cutsAnew_13 ?_
      refine aw_sipush C 443 dX9_cutsAnew_16 ks_443 ?_
      refine aw_bipush C 61 dX9_cutsAnew_19 kb_61 ?_
      refine aw_iload_n C dX9_cutsAnew_21 rfl ?_
      refine aw_imul C dX9_cutsAnew_22 ?_
      refine aw_iadd C dX9_cutsAnew_23 ?_
      refine aw_iconst C (-1) dX9_cutsAnew_24 ki_m1 ?_
      obtain ⟨hb1, h⟩ := ck_some h
      refine am_iast C rfl (inb_vp hb1) dX9_cutsAnew_25 ?_
      refine aw_iinc C (v1 + (1 : Int32)) dX9_cutsAnew_26 rfl (by rw [ki_1]) (by decide) rfl ?_
      refine aw_nl [some (.ref 181), some (.int (v1 + (1 : Int32)))] rfl ?_
      refine aw_goto C 6 dX9_cutsAnew_29 (by decide) ?_
      refine aw_fl [some (.ref 181), some (.int (v1 + (1 : Int32)))] ⟨rfl, ⟨rfl, trivial⟩⟩ ?_
      exact ih (v1 + (1 : Int32)) (rSa σ 1 ((443 : Int32) + ((61 : Int32) * v1)) (-1 : Int32)) h
def mX9_cutsAnew (σ : RS9) : Option (Int32 × RS9) := ((mX9_cutsFile σ).bind fun r1 => mX9_cutsAnew_l6 rFU (0 : Int32) r1.2)
set_option maxHeartbeats 1000000 in
theorem rmX9_cutsAnew {X : GX} {l : Launch} {f : AH} {n : Nat} {r : Int32 × RS9} {σ : RS9} (h : mX9_cutsAnew σ = some r) : AM X l yX9_cutsAnew cX9_cutsAnew 2 none 9 0 0 [.ref 181] (rHm f σ) n (QMv f n r) := by
  have h : ((mX9_cutsFile σ).bind fun r1 => mX9_cutsAnew_l6 rFU (0 : Int32) r1.2) = some r := h
  refine AM.of (by decide +kernel) rfl (Nat.le_of_ble_eq_true rfl) (fun p e s m args below meth c C _ => ?_)
  refine aw_nl [some (.ref 181), none] rfl ?_
  refine aw_ald_n C dX9_cutsAnew_0 rfl ?_
  obtain ⟨r1, h1, h⟩ := Option.bind_eq_some_iff.mp h
  refine aw_callV C (ci := 9) (b := 181) [] mv_X9_244 rfl rfl (hm_M f σ) (rmX9_cutsFile h1) rfl dX9_cutsAnew_1 (Nat.le_of_ble_eq_true rfl) (Nat.le_of_ble_eq_true rfl) rfl (Nat.le_of_ble_eq_true rfl) (Nat.le_of_ble_eq_true rfl) (Nat.le_of_ble_eq_true rfl) (fun v9 f9 n9 hh => ?_)
  obtain ⟨rfl, rfl, rfl⟩ := hh
  refine aw_iconst C 0 dX9_cutsAnew_4 ki_0 ?_
  refine aw_istore_n C dX9_cutsAnew_5 (by decide) rfl ?_
  refine aw_nl [some (.ref 181), some (.int (0 : Int32))] rfl ?_
  refine aw_fl [some (.ref 181), some (.int (0 : Int32))] ⟨rfl, ⟨rfl, trivial⟩⟩ ?_
  exact rmX9_cutsAnew_l6 C rFU (0 : Int32) r1.2 h
def mX9_rules (v1 : Int32) (v2 : Int32) (σ : RS9) : Option (Int32 × RS9) := rCk (rIn v1 (rLen 1)) (((mX9_cutsAnew (rSa σ 1 v1 v2)).bind fun r2 => some ((0 : Int32), r2.2)))
set_option maxHeartbeats 1000000 in
theorem rmX9_rules {X : GX} {l : Launch} {f : AH} {n : Nat} {r : Int32 × RS9} {v1 : Int32} {v2 : Int32} {σ : RS9} (h : mX9_rules v1 v2 σ = some r) : AM X l yX9_rules cX9_rules 3 (some .int) 10 0 0 [.ref 181, .int v1, .int v2] (rHm f σ) n (QMi f n r) := by
  have h : rCk (rIn v1 (rLen 1)) (((mX9_cutsAnew (rSa σ 1 v1 v2)).bind fun r2 => some ((0 : Int32), r2.2))) = some r := h
  refine AM.of (by decide +kernel) rfl (Nat.le_of_ble_eq_true rfl) (fun p e s m args below meth c C _ => ?_)
  refine aw_nl [some (.ref 181), some (.int v1), some (.int v2)] rfl ?_
  refine aw_ald_n C dX9_rules_0 rfl ?_
  refine aw_get C (v := .ref (rAid 1)) gf_X9_7 (hm_M f σ) rfl dX9_rules_1 ?_
  refine aw_iload_n C dX9_rules_4 rfl ?_
  refine aw_iload_n C dX9_rules_5 rfl ?_
  obtain ⟨hb1, h⟩ := ck_some h
  refine am_iast C rfl (inb_vp hb1) dX9_rules_6 ?_
  refine aw_ald_n C dX9_rules_7 rfl ?_
  obtain ⟨r2, h2, h⟩ := Option.bind_eq_some_iff.mp h
  refine aw_callV C (ci := 9) (b := 181) [] mv_X9_322 rfl rfl (hm_M f (rSa σ 1 v1 v2)) (rmX9_cutsAnew h2) rfl dX9_rules_8 (Nat.le_of_ble_eq_true rfl) (Nat.le_of_ble_eq_true rfl) rfl (Nat.le_of_ble_eq_true rfl) (Nat.le_of_ble_eq_true rfl) (Nat.le_of_ble_eq_true rfl) (fun v9 f9 n9 hh => ?_)
  obtain ⟨rfl, rfl, rfl⟩ := hh
  refine aw_iconst C 0 dX9_rules_11 ki_0 ?_
  cases h
  exact aw_iret C rfl rfl dX9_rules_12 (Nat.le_refl _) (Nat.le_refl _) ⟨rfl, rfl, rfl⟩
def mX9_ruleText_b27 (s0 : Int32) (σ : RS9) : Option (Int32 × RS9) := some (s0, σ)
set_option maxHeartbeats 1000000 in
theorem rmX9_ruleText_b27 {X : GX} {p : Program} {l : Launch} {e : Env} {s : State} {m : MethodId} {args : Array Value} {below : List Frame} {meth : Method} {c : Code} {f : AH} {n : Nat} {r : Int32 × RS9} {s0 : Int32} {σ : RS9} (C : CC X p l (RM 11 0 0) s m args meth c RX9 cX9_ruleText 5 (some .int)) (h : mX9_ruleText_b27 s0 σ = some r) : AW X p l e (RM 11 0 0) s m args below meth c 5 (ZM X below args s 0 0 (QMi f n r)) (rHm f σ) n 0 0 27 [none, none, none, none, none] [.int s0] := by
  have h : some (s0, σ) = some r := h
  cases h
  exact aw_iret C rfl rfl dX9_ruleText_27 (Nat.le_refl _) (Nat.le_refl _) ⟨rfl, rfl, rfl⟩
def mX9_ruleText (v1 : Int32) (v2 : Int32) (v3 : Int32) (σ : RS9) : Option (Int32 × RS9) := ((mX9_number v2 v3 σ).bind fun r1 => (if (r1.2.1 12) = (-1 : Int32) then ((mX9_rules v1 r1.1 r1.2).bind fun r2 => mX9_ruleText_b27 r2.1 r2.2) else mX9_ruleText_b27 (0 : Int32) r1.2))
set_option maxHeartbeats 1000000 in
theorem rmX9_ruleText {X : GX} {l : Launch} {f : AH} {n : Nat} {r : Int32 × RS9} {v1 : Int32} {v2 : Int32} {v3 : Int32} {σ : RS9} (h : mX9_ruleText v1 v2 v3 σ = some r) : AM X l yX9_ruleText cX9_ruleText 5 (some .int) 11 0 0 [.ref 181, .int v1, .int v2, .int v3] (rHm f σ) n (QMi f n r) := by
  have h : ((mX9_number v2 v3 σ).bind fun r1 => (if (r1.2.1 12) = (-1 : Int32) then ((mX9_rules v1 r1.1 r1.2).bind fun r2 => mX9_ruleText_b27 r2.1 r2.2) else mX9_ruleText_b27 (0 : Int32) r1.2)) = some r := h
  refine AM.of (by decide +kernel) rfl (Nat.le_of_ble_eq_true rfl) (fun p e s m args below meth c C _ => ?_)
  refine aw_nl [some (.ref 181), some (.int v1), some (.int v2), some (.int v3), none] rfl ?_
  refine aw_ald_n C dX9_ruleText_0 rfl ?_
  refine aw_iload_n C dX9_ruleText_1 rfl ?_
  refine aw_iload_n C dX9_ruleText_2 rfl ?_
  obtain ⟨r1, h1, h⟩ := Option.bind_eq_some_iff.mp h
  refine aw_callV C (ci := 9) (b := 181) [.int v2, .int v3] mv_X9_358 rfl rfl (hm_M f σ) (rmX9_number h1) rfl dX9_ruleText_3 (Nat.le_of_ble_eq_true rfl) (Nat.le_of_ble_eq_true rfl) rfl (Nat.le_of_ble_eq_true rfl) (Nat.le_of_ble_eq_true rfl) (Nat.le_of_ble_eq_true rfl) (fun v9 f9 n9 hh => ?_)
  obtain ⟨rfl, rfl, rfl⟩ := hh
  refine aw_istore C dX9_ruleText_6 (by decide) rfl ?_
  refine aw_nl [some (.ref 181), some (.int v1), some (.int v2), some (.int v3), some (.int r1.1)] rfl ?_
  refine aw_ald_n C dX9_ruleText_8 rfl ?_
  refine aw_get C (v := .int (r1.2.1 12)) gf_X9_26 (hm_M f r1.2) rfl dX9_ruleText_9 ?_
  refine aw_iconst C (-1) dX9_ruleText_12 ki_m1 ?_
  refine aw_icmp_ne C 26 dX9_ruleText_13 (by decide) (fun q => ?_) (fun q => ?_)
  · rw [if_neg q] at h
    refine aw_iconst C 0 dX9_ruleText_26 ki_0 ?_
    refine aw_fl [none, none, none, none, none] trivial ?_
    exact rmX9_ruleText_b27 C h
  · rw [if_pos q] at h
    refine aw_ald_n C dX9_ruleText_16 rfl ?_
    refine aw_iload_n C dX9_ruleText_17 rfl ?_
    refine aw_iload C dX9_ruleText_18 rfl ?_
    obtain ⟨r2, h2, h⟩ := Option.bind_eq_some_iff.mp h
    refine aw_callV C (ci := 9) (b := 181) [.int v1, .int r1.1] mv_X9_361 rfl rfl (hm_M f r1.2) (rmX9_rules h2) rfl dX9_ruleText_20 (Nat.le_of_ble_eq_true rfl) (Nat.le_of_ble_eq_true rfl) rfl (Nat.le_of_ble_eq_true rfl) (Nat.le_of_ble_eq_true rfl) (Nat.le_of_ble_eq_true rfl) (fun v9 f9 n9 hh => ?_)
    obtain ⟨rfl, rfl, rfl⟩ := hh
    refine aw_goto C 27 dX9_ruleText_23 (by decide) ?_
    refine aw_fl [none, none, none, none, none] trivial ?_
    exact rmX9_ruleText_b27 C h
