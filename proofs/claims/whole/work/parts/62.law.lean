/-! ===== the law: one case for each kind of call ===== -/
abbrev mLw (N : String) : MI := (⟨RL, N, ""⟩, cL_law, 4, ret)
abbrev Lw (i : Nat) : List (Option Value) := [some (.ref 2), some (.ref 3), some (.ref 139), some (.int (nI i))]
def bz (x : Int32) : Int32 := if x = 0 then 0 else 1
theorem bz_01 (x : Int32) : bz x = 0 ∨ bz x = 1 := by
  unfold bz
  split
  · exact Or.inl rfl
  · exact Or.inr rfl
section LR
variable {G : Gl} {Y : MI} {R : Room} {F : Fn} {gc gs pc i c : Nat} {L : List (Option Value)} {S : List Value} {h : Hp}
theorem V_a5 {n : Int} (d0 : decode Y.2.1 pc = .ok (.aload_n 0, 1)) (d1 : decode Y.2.1 (pc + 1) = .ok (.iload_n 3, 1)) (d2 : decode Y.2.1 (pc + 2) = .ok (.iconst n, 1)) (d3 : decode Y.2.1 (pc + 3) = .ok (.iadd, 1)) (d4 : decode Y.2.1 (pc + 4) = .ok (.iaload, 1)) (hn : Int32.ofInt n = nI c) (hi : i + c < G.2.2.2.2.2.1 ∧ G.2.2.2.2.2.1 < 2147483648)
    (K : V G Y R F gc gs (pc + 5) (Lw i) (.int (G.2.2.2.2.2.2 (i + c)) :: S) h) : V G Y R F gc gs pc (Lw i) S h := by
  refine V_aload_n (pc := pc) d0 rfl ?_
  refine V_iload_n (pc := pc + 1) d1 rfl ?_
  refine V_iconst (pc := pc + 2) (nI c) d2 hn ?_
  refine V_iadd (pc := pc + 3) d3 ?_
  exact V_sld (pc := pc + 4) (i + c) d4 (nI_add i c) hi K
theorem V_bz {x : Int32} (d0 : decode Y.2.1 pc = .ok (.ifCond .eq 7, 3)) (d1 : decode Y.2.1 (pc + 3) = .ok (.iconst 1, 1)) (d2 : decode Y.2.1 (pc + 4) = .ok (.goto 4, 3)) (d3 : decode Y.2.1 (pc + 7) = .ok (.iconst 0, 1))
    (K : V G Y R F gc gs (pc + 8) L (.int (bz x) :: S) h) : V G Y R F gc gs pc L (.int x :: S) h := by
  refine V_if_eq (pc := pc) (pc + 7) d0 (by omega) (fun c => ?_) (fun c => ?_)
  · refine V_iconst (pc := pc + 7) 0 d3 (by decide) ?_
    rw [bz, if_pos c] at K
    exact K
  · refine V_iconst (pc := pc + 3) 1 d1 (by decide) ?_
    refine V_goto (pc := pc + 4) (pc + 8) d2 (by omega) ?_
    rw [bz, if_neg c] at K
    exact K
theorem V_cvI2 {Y' : MI} {R' : Room} {idx k : Nat} {q : vw_C} {St : List Value} {Kq : Int32 → Hp → Prop} (As : List Value) (hd : decode Y.2.1 pc = .ok (.invokevirtual idx, 3)) (w : CkM Y.1.cls idx Y' As.length) (w2 : Cond.instanceMethod Y'.1 ∈ TBg ∧ Cond.selects Y'.1.cls Y'.1 Y'.1 ∈ TBg)
    (hq : cl_[c]? = some q ∧ q.1 = Y'.1.cls) (hT : h.2.2.1 k = c + 1) (hst : St = As.reverse ++ .ref k :: S) (hW : (S.map fun v => v.category).sum ≤ 8) (hR : R'.frames + 1 ≤ R.frames ∧ 8 + (Y'.2.2.1 + 11) + R'.locals ≤ R.locals) (hg : gc + R'.cells ≤ R.cells ∧ gs + R'.slots ≤ R.slots)
    (M : CM G Y' R' (.ref k :: As) h (QI Kq)) (hQ : ∀ (r : Int32) (h' : Hp), Kq r h' → V G Y R F (gc + R'.cells) (gs + R'.slots) (pc + 3) L (.int r :: S) h') : V G Y R F gc gs pc L St h :=
  V_callv (R' := R') hd w w2 hq hT hst hW hR hg M (fun v h' hq => by
    match v, hq with
    | some (.int r), hq => exact hQ r h' hq)
end LR
abbrev NX (G : Gl) (F : Fn) (N : String) (gc gs i : Nat) : Prop := ∀ (σ : Sg) (b : Bool), Rel σ b → V G (mLw N) room_1 F (gc + 119) (gs + 1862) 1731 (Lw i) [] (σ, sh b)
abbrev OKi (G : Gl) (gc gs i : Nat) : Prop := (i + 6 ≤ G.2.2.2.2.2.1 ∧ G.2.2.2.2.2.1 < 2147483648) ∧ gc + 119 ≤ 600000 ∧ gs + 1862 ≤ 7302250
section LC
variable {G : Gl} {F : Fn} {N : String} {gc gs i : Nat} {σ : Sg} {b : Bool}
theorem cs_0 (h : Rel σ b) (hk : OKi G gc gs i) (hX : NX G F N gc gs i) : V G (mLw N) room_1 F gc gs 212 (Lw i) [] (σ, sh b) := by
  refine V_aload_n (pc := 212) d_L_law_212 rfl ?_
  refine V_a5 (pc := 213) (c := 1) d_L_law_213 d_L_law_214 d_L_law_215 d_L_law_216 d_L_law_217 (by decide) (by have := hk.1; omega) ?_
  refine V_a5 (pc := 218) (c := 2) d_L_law_218 d_L_law_219 d_L_law_220 d_L_law_221 d_L_law_222 (by decide) (by have := hk.1; omega) ?_
  refine V_a5 (pc := 223) (c := 3) d_L_law_223 d_L_law_224 d_L_law_225 d_L_law_226 d_L_law_227 (by decide) (by have := hk.1; omega) ?_
  refine V_cvI2 (pc := 228) (R' := rl 3) (c := 11) [_, _, _] d_L_law_228 c_L_13 k_X11_stretch ⟨rfl, rfl⟩ (tt_3 b) rfl (Nat.le_of_ble_eq_true rfl) ⟨Nat.le_of_ble_eq_true rfl, Nat.le_of_ble_eq_true rfl⟩ (by have := hk.2; simp only [rl, rm, room_1] <;> omega) (pr_stretch h) (fun r h1 M => ?_)
  obtain ⟨e1, M⟩ := M
  refine V_aload_n (pc := 231) d_L_law_231 rfl ?_
  refine V_a5 (pc := 232) (c := 1) d_L_law_232 d_L_law_233 d_L_law_234 d_L_law_235 d_L_law_236 (by decide) (by have := hk.1; omega) ?_
  refine V_a5 (pc := 237) (c := 2) d_L_law_237 d_L_law_238 d_L_law_239 d_L_law_240 d_L_law_241 (by decide) (by have := hk.1; omega) ?_
  refine V_a5 (pc := 242) (c := 3) d_L_law_242 d_L_law_243 d_L_law_244 d_L_law_245 d_L_law_246 (by decide) (by have := hk.1; omega) ?_
  refine V_cvI2 (pc := 247) (R' := rl 2) (c := 12) [_, _, _] d_L_law_247 c_L_17 k_X12_stretch ⟨rfl, rfl⟩ (by rw [e1]; exact tt_139 b) rfl (Nat.le_of_ble_eq_true rfl) ⟨Nat.le_of_ble_eq_true rfl, Nat.le_of_ble_eq_true rfl⟩ (by have := hk.2; simp only [rl, rm, room_1] <;> omega) M (fun r' h2 hh => ?_)
  obtain ⟨e2, σ', e3, h'⟩ := hh
  subst e2 e3
  refine V_icmp_eq (pc := 250) 1731 d_L_law_250 (by decide) (fun _ => ?_) (fun e => absurd rfl e)
  exact V_wd (by simp only [rl, rm] <;> omega) (by simp only [rl, rm] <;> omega) (hX σ' b h')
theorem cs_1 (h : Rel σ b) (hk : OKi G gc gs i) (hX : NX G F N gc gs i) : V G (mLw N) room_1 F gc gs 255 (Lw i) [] (σ, sh b) := by
  refine V_aload_n (pc := 255) d_L_law_255 rfl ?_
  refine V_a5 (pc := 256) (c := 1) d_L_law_256 d_L_law_257 d_L_law_258 d_L_law_259 d_L_law_260 (by decide) (by have := hk.1; omega) ?_
  refine V_a5 (pc := 261) (c := 2) d_L_law_261 d_L_law_262 d_L_law_263 d_L_law_264 d_L_law_265 (by decide) (by have := hk.1; omega) ?_
  refine V_cvI2 (pc := 266) (R' := rl 3) (c := 11) [_, _] d_L_law_266 c_L_18 k_X11_gauge ⟨rfl, rfl⟩ (tt_3 b) rfl (Nat.le_of_ble_eq_true rfl) ⟨Nat.le_of_ble_eq_true rfl, Nat.le_of_ble_eq_true rfl⟩ (by have := hk.2; simp only [rl, rm, room_1] <;> omega) (pr_gauge h) (fun r h1 M => ?_)
  obtain ⟨e1, M⟩ := M
  refine V_aload_n (pc := 269) d_L_law_269 rfl ?_
  refine V_a5 (pc := 270) (c := 1) d_L_law_270 d_L_law_271 d_L_law_272 d_L_law_273 d_L_law_274 (by decide) (by have := hk.1; omega) ?_
  refine V_a5 (pc := 275) (c := 2) d_L_law_275 d_L_law_276 d_L_law_277 d_L_law_278 d_L_law_279 (by decide) (by have := hk.1; omega) ?_
  refine V_cvI2 (pc := 280) (R' := rl 3) (c := 12) [_, _] d_L_law_280 c_L_22 k_X12_gauge ⟨rfl, rfl⟩ (by rw [e1]; exact tt_139 b) rfl (Nat.le_of_ble_eq_true rfl) ⟨Nat.le_of_ble_eq_true rfl, Nat.le_of_ble_eq_true rfl⟩ (by have := hk.2; simp only [rl, rm, room_1] <;> omega) M (fun r' h2 hh => ?_)
  obtain ⟨e2, σ', e3, h'⟩ := hh
  subst e2 e3
  refine V_icmp_eq (pc := 283) 1731 d_L_law_283 (by decide) (fun _ => ?_) (fun e => absurd rfl e)
  exact V_wd (by simp only [rl, rm] <;> omega) (by simp only [rl, rm] <;> omega) (hX σ' b h')
theorem cs_2 (h : Rel σ b) (hk : OKi G gc gs i) (hX : NX G F N gc gs i) : V G (mLw N) room_1 F gc gs 288 (Lw i) [] (σ, sh b) := by
  refine V_aload_n (pc := 288) d_L_law_288 rfl ?_
  refine V_a5 (pc := 289) (c := 1) d_L_law_289 d_L_law_290 d_L_law_291 d_L_law_292 d_L_law_293 (by decide) (by have := hk.1; omega) ?_
  refine V_a5 (pc := 294) (c := 2) d_L_law_294 d_L_law_295 d_L_law_296 d_L_law_297 d_L_law_298 (by decide) (by have := hk.1; omega) ?_
  refine V_a5 (pc := 299) (c := 3) d_L_law_299 d_L_law_300 d_L_law_301 d_L_law_302 d_L_law_303 (by decide) (by have := hk.1; omega) ?_
  refine V_cvI2 (pc := 304) (R' := rl 3) (c := 11) [_, _, _] d_L_law_304 c_L_23 k_X11_shift ⟨rfl, rfl⟩ (tt_3 b) rfl (Nat.le_of_ble_eq_true rfl) ⟨Nat.le_of_ble_eq_true rfl, Nat.le_of_ble_eq_true rfl⟩ (by have := hk.2; simp only [rl, rm, room_1] <;> omega) (pr_shift h) (fun r h1 M => ?_)
  obtain ⟨e1, M⟩ := M
  refine V_aload_n (pc := 307) d_L_law_307 rfl ?_
  refine V_a5 (pc := 308) (c := 1) d_L_law_308 d_L_law_309 d_L_law_310 d_L_law_311 d_L_law_312 (by decide) (by have := hk.1; omega) ?_
  refine V_a5 (pc := 313) (c := 2) d_L_law_313 d_L_law_314 d_L_law_315 d_L_law_316 d_L_law_317 (by decide) (by have := hk.1; omega) ?_
  refine V_a5 (pc := 318) (c := 3) d_L_law_318 d_L_law_319 d_L_law_320 d_L_law_321 d_L_law_322 (by decide) (by have := hk.1; omega) ?_
  refine V_cvI2 (pc := 323) (R' := rl 3) (c := 12) [_, _, _] d_L_law_323 c_L_26 k_X12_shift ⟨rfl, rfl⟩ (by rw [e1]; exact tt_139 b) rfl (Nat.le_of_ble_eq_true rfl) ⟨Nat.le_of_ble_eq_true rfl, Nat.le_of_ble_eq_true rfl⟩ (by have := hk.2; simp only [rl, rm, room_1] <;> omega) M (fun r' h2 hh => ?_)
  obtain ⟨e2, σ', e3, h'⟩ := hh
  subst e2 e3
  refine V_icmp_eq (pc := 326) 1731 d_L_law_326 (by decide) (fun _ => ?_) (fun e => absurd rfl e)
  exact V_wd (by simp only [rl, rm] <;> omega) (by simp only [rl, rm] <;> omega) (hX σ' b h')
theorem cs_3 (h : Rel σ b) (hk : OKi G gc gs i) (hX : NX G F N gc gs i) : V G (mLw N) room_1 F gc gs 331 (Lw i) [] (σ, sh b) := by
  refine V_aload_n (pc := 331) d_L_law_331 rfl ?_
  refine V_a5 (pc := 332) (c := 1) d_L_law_332 d_L_law_333 d_L_law_334 d_L_law_335 d_L_law_336 (by decide) (by have := hk.1; omega) ?_
  refine V_a5 (pc := 337) (c := 2) d_L_law_337 d_L_law_338 d_L_law_339 d_L_law_340 d_L_law_341 (by decide) (by have := hk.1; omega) ?_
  refine V_bz (pc := 342) d_L_law_342 d_L_law_345 d_L_law_346 d_L_law_349 ?_
  refine V_cvI2 (pc := 350) (R' := rl 3) (c := 11) [_, _] d_L_law_350 c_L_27 k_X11_cold ⟨rfl, rfl⟩ (tt_3 b) rfl (Nat.le_of_ble_eq_true rfl) ⟨Nat.le_of_ble_eq_true rfl, Nat.le_of_ble_eq_true rfl⟩ (by have := hk.2; simp only [rl, rm, room_1] <;> omega) (pr_cold h (bz_01 _)) (fun r h1 M => ?_)
  obtain ⟨e1, M⟩ := M
  refine V_aload_n (pc := 353) d_L_law_353 rfl ?_
  refine V_a5 (pc := 354) (c := 1) d_L_law_354 d_L_law_355 d_L_law_356 d_L_law_357 d_L_law_358 (by decide) (by have := hk.1; omega) ?_
  refine V_a5 (pc := 359) (c := 2) d_L_law_359 d_L_law_360 d_L_law_361 d_L_law_362 d_L_law_363 (by decide) (by have := hk.1; omega) ?_
  refine V_bz (pc := 364) d_L_law_364 d_L_law_367 d_L_law_368 d_L_law_371 ?_
  refine V_cvI2 (pc := 372) (R' := rl 3) (c := 12) [_, _] d_L_law_372 c_L_31 k_X12_cold ⟨rfl, rfl⟩ (by rw [e1]; exact tt_139 b) rfl (Nat.le_of_ble_eq_true rfl) ⟨Nat.le_of_ble_eq_true rfl, Nat.le_of_ble_eq_true rfl⟩ (by have := hk.2; simp only [rl, rm, room_1] <;> omega) M (fun r' h2 hh => ?_)
  obtain ⟨e2, σ', e3, h'⟩ := hh
  subst e2 e3
  refine V_icmp_eq (pc := 375) 1731 d_L_law_375 (by decide) (fun _ => ?_) (fun e => absurd rfl e)
  exact V_wd (by simp only [rl, rm] <;> omega) (by simp only [rl, rm] <;> omega) (hX σ' b h')
theorem cs_4 (h : Rel σ b) (hk : OKi G gc gs i) (hX : NX G F N gc gs i) : V G (mLw N) room_1 F gc gs 380 (Lw i) [] (σ, sh b) := by
  refine V_aload_n (pc := 380) d_L_law_380 rfl ?_
  refine V_a5 (pc := 381) (c := 1) d_L_law_381 d_L_law_382 d_L_law_383 d_L_law_384 d_L_law_385 (by decide) (by have := hk.1; omega) ?_
  refine V_a5 (pc := 386) (c := 2) d_L_law_386 d_L_law_387 d_L_law_388 d_L_law_389 d_L_law_390 (by decide) (by have := hk.1; omega) ?_
  refine V_bz (pc := 391) d_L_law_391 d_L_law_394 d_L_law_395 d_L_law_398 ?_
  refine V_cvI2 (pc := 399) (R' := rl 3) (c := 11) [_, _] d_L_law_399 c_L_32 k_X11_light ⟨rfl, rfl⟩ (tt_3 b) rfl (Nat.le_of_ble_eq_true rfl) ⟨Nat.le_of_ble_eq_true rfl, Nat.le_of_ble_eq_true rfl⟩ (by have := hk.2; simp only [rl, rm, room_1] <;> omega) (pr_light h (bz_01 _)) (fun r h1 M => ?_)
  obtain ⟨e1, M⟩ := M
  refine V_aload_n (pc := 402) d_L_law_402 rfl ?_
  refine V_a5 (pc := 403) (c := 1) d_L_law_403 d_L_law_404 d_L_law_405 d_L_law_406 d_L_law_407 (by decide) (by have := hk.1; omega) ?_
  refine V_a5 (pc := 408) (c := 2) d_L_law_408 d_L_law_409 d_L_law_410 d_L_law_411 d_L_law_412 (by decide) (by have := hk.1; omega) ?_
  refine V_bz (pc := 413) d_L_law_413 d_L_law_416 d_L_law_417 d_L_law_420 ?_
  refine V_cvI2 (pc := 421) (R' := rl 3) (c := 12) [_, _] d_L_law_421 c_L_35 k_X12_light ⟨rfl, rfl⟩ (by rw [e1]; exact tt_139 b) rfl (Nat.le_of_ble_eq_true rfl) ⟨Nat.le_of_ble_eq_true rfl, Nat.le_of_ble_eq_true rfl⟩ (by have := hk.2; simp only [rl, rm, room_1] <;> omega) M (fun r' h2 hh => ?_)
  obtain ⟨e2, σ', e3, h'⟩ := hh
  subst e2 e3
  refine V_icmp_eq (pc := 424) 1731 d_L_law_424 (by decide) (fun _ => ?_) (fun e => absurd rfl e)
  exact V_wd (by simp only [rl, rm] <;> omega) (by simp only [rl, rm] <;> omega) (hX σ' b h')
theorem cs_5 (h : Rel σ b) (hk : OKi G gc gs i) (hX : NX G F N gc gs i) : V G (mLw N) room_1 F gc gs 429 (Lw i) [] (σ, sh b) := by
  refine V_aload_n (pc := 429) d_L_law_429 rfl ?_
  refine V_a5 (pc := 430) (c := 1) d_L_law_430 d_L_law_431 d_L_law_432 d_L_law_433 d_L_law_434 (by decide) (by have := hk.1; omega) ?_
  refine V_a5 (pc := 435) (c := 2) d_L_law_435 d_L_law_436 d_L_law_437 d_L_law_438 d_L_law_439 (by decide) (by have := hk.1; omega) ?_
  refine V_a5 (pc := 440) (c := 3) d_L_law_440 d_L_law_441 d_L_law_442 d_L_law_443 d_L_law_444 (by decide) (by have := hk.1; omega) ?_
  refine V_a5 (pc := 445) (c := 4) d_L_law_445 d_L_law_446 d_L_law_447 d_L_law_448 d_L_law_449 (by decide) (by have := hk.1; omega) ?_
  refine V_cvI2 (pc := 450) (R' := rl 4) (c := 11) [_, _, _, _] d_L_law_450 c_L_36 k_X11_boat ⟨rfl, rfl⟩ (tt_3 b) rfl (Nat.le_of_ble_eq_true rfl) ⟨Nat.le_of_ble_eq_true rfl, Nat.le_of_ble_eq_true rfl⟩ (by have := hk.2; simp only [rl, rm, room_1] <;> omega) (pr_boat h) (fun r h1 M => ?_)
  obtain ⟨e1, M⟩ := M
  refine V_aload_n (pc := 453) d_L_law_453 rfl ?_
  refine V_a5 (pc := 454) (c := 1) d_L_law_454 d_L_law_455 d_L_law_456 d_L_law_457 d_L_law_458 (by decide) (by have := hk.1; omega) ?_
  refine V_a5 (pc := 459) (c := 2) d_L_law_459 d_L_law_460 d_L_law_461 d_L_law_462 d_L_law_463 (by decide) (by have := hk.1; omega) ?_
  refine V_a5 (pc := 464) (c := 3) d_L_law_464 d_L_law_465 d_L_law_466 d_L_law_467 d_L_law_468 (by decide) (by have := hk.1; omega) ?_
  refine V_a5 (pc := 469) (c := 4) d_L_law_469 d_L_law_470 d_L_law_471 d_L_law_472 d_L_law_473 (by decide) (by have := hk.1; omega) ?_
  refine V_cvI2 (pc := 474) (R' := rl 3) (c := 12) [_, _, _, _] d_L_law_474 c_L_40 k_X12_boat ⟨rfl, rfl⟩ (by rw [e1]; exact tt_139 b) rfl (Nat.le_of_ble_eq_true rfl) ⟨Nat.le_of_ble_eq_true rfl, Nat.le_of_ble_eq_true rfl⟩ (by have := hk.2; simp only [rl, rm, room_1] <;> omega) M (fun r' h2 hh => ?_)
  obtain ⟨e2, σ', e3, h'⟩ := hh
  subst e2 e3
  refine V_icmp_eq (pc := 477) 1731 d_L_law_477 (by decide) (fun _ => ?_) (fun e => absurd rfl e)
  exact V_wd (by simp only [rl, rm] <;> omega) (by simp only [rl, rm] <;> omega) (hX σ' b h')
theorem cs_6 (h : Rel σ b) (hk : OKi G gc gs i) (hX : NX G F N gc gs i) : V G (mLw N) room_1 F gc gs 482 (Lw i) [] (σ, sh b) := by
  refine V_aload_n (pc := 482) d_L_law_482 rfl ?_
  refine V_a5 (pc := 483) (c := 1) d_L_law_483 d_L_law_484 d_L_law_485 d_L_law_486 d_L_law_487 (by decide) (by have := hk.1; omega) ?_
  refine V_a5 (pc := 488) (c := 2) d_L_law_488 d_L_law_489 d_L_law_490 d_L_law_491 d_L_law_492 (by decide) (by have := hk.1; omega) ?_
  refine V_a5 (pc := 493) (c := 3) d_L_law_493 d_L_law_494 d_L_law_495 d_L_law_496 d_L_law_497 (by decide) (by have := hk.1; omega) ?_
  refine V_a5 (pc := 498) (c := 4) d_L_law_498 d_L_law_499 d_L_law_500 d_L_law_501 d_L_law_502 (by decide) (by have := hk.1; omega) ?_
  refine V_cvI2 (pc := 503) (R' := rl 4) (c := 11) [_, _, _, _] d_L_law_503 c_L_41 k_X11_bale ⟨rfl, rfl⟩ (tt_3 b) rfl (Nat.le_of_ble_eq_true rfl) ⟨Nat.le_of_ble_eq_true rfl, Nat.le_of_ble_eq_true rfl⟩ (by have := hk.2; simp only [rl, rm, room_1] <;> omega) (pr_bale h) (fun r h1 M => ?_)
  obtain ⟨e1, M⟩ := M
  refine V_aload_n (pc := 506) d_L_law_506 rfl ?_
  refine V_a5 (pc := 507) (c := 1) d_L_law_507 d_L_law_508 d_L_law_509 d_L_law_510 d_L_law_511 (by decide) (by have := hk.1; omega) ?_
  refine V_a5 (pc := 512) (c := 2) d_L_law_512 d_L_law_513 d_L_law_514 d_L_law_515 d_L_law_516 (by decide) (by have := hk.1; omega) ?_
  refine V_a5 (pc := 517) (c := 3) d_L_law_517 d_L_law_518 d_L_law_519 d_L_law_520 d_L_law_521 (by decide) (by have := hk.1; omega) ?_
  refine V_a5 (pc := 522) (c := 4) d_L_law_522 d_L_law_523 d_L_law_524 d_L_law_525 d_L_law_526 (by decide) (by have := hk.1; omega) ?_
  refine V_cvI2 (pc := 527) (R' := rl 3) (c := 12) [_, _, _, _] d_L_law_527 c_L_44 k_X12_bale ⟨rfl, rfl⟩ (by rw [e1]; exact tt_139 b) rfl (Nat.le_of_ble_eq_true rfl) ⟨Nat.le_of_ble_eq_true rfl, Nat.le_of_ble_eq_true rfl⟩ (by have := hk.2; simp only [rl, rm, room_1] <;> omega) M (fun r' h2 hh => ?_)
  obtain ⟨e2, σ', e3, h'⟩ := hh
  subst e2 e3
  refine V_icmp_eq (pc := 530) 1731 d_L_law_530 (by decide) (fun _ => ?_) (fun e => absurd rfl e)
  exact V_wd (by simp only [rl, rm] <;> omega) (by simp only [rl, rm] <;> omega) (hX σ' b h')
theorem cs_7 (h : Rel σ b) (hk : OKi G gc gs i) (hX : NX G F N gc gs i) : V G (mLw N) room_1 F gc gs 535 (Lw i) [] (σ, sh b) := by
  refine V_aload_n (pc := 535) d_L_law_535 rfl ?_
  refine V_a5 (pc := 536) (c := 1) d_L_law_536 d_L_law_537 d_L_law_538 d_L_law_539 d_L_law_540 (by decide) (by have := hk.1; omega) ?_
  refine V_a5 (pc := 541) (c := 2) d_L_law_541 d_L_law_542 d_L_law_543 d_L_law_544 d_L_law_545 (by decide) (by have := hk.1; omega) ?_
  refine V_cvI2 (pc := 546) (R' := rl 3) (c := 11) [_, _] d_L_law_546 c_L_45 k_X11_lade ⟨rfl, rfl⟩ (tt_3 b) rfl (Nat.le_of_ble_eq_true rfl) ⟨Nat.le_of_ble_eq_true rfl, Nat.le_of_ble_eq_true rfl⟩ (by have := hk.2; simp only [rl, rm, room_1] <;> omega) (pr_lade h) (fun r h1 M => ?_)
  obtain ⟨e1, M⟩ := M
  refine V_aload_n (pc := 549) d_L_law_549 rfl ?_
  refine V_a5 (pc := 550) (c := 1) d_L_law_550 d_L_law_551 d_L_law_552 d_L_law_553 d_L_law_554 (by decide) (by have := hk.1; omega) ?_
  refine V_a5 (pc := 555) (c := 2) d_L_law_555 d_L_law_556 d_L_law_557 d_L_law_558 d_L_law_559 (by decide) (by have := hk.1; omega) ?_
  refine V_cvI2 (pc := 560) (R' := rl 3) (c := 12) [_, _] d_L_law_560 c_L_48 k_X12_lade ⟨rfl, rfl⟩ (by rw [e1]; exact tt_139 b) rfl (Nat.le_of_ble_eq_true rfl) ⟨Nat.le_of_ble_eq_true rfl, Nat.le_of_ble_eq_true rfl⟩ (by have := hk.2; simp only [rl, rm, room_1] <;> omega) M (fun r' h2 hh => ?_)
  obtain ⟨e2, σ', e3, h'⟩ := hh
  subst e2 e3
  refine V_icmp_eq (pc := 563) 1731 d_L_law_563 (by decide) (fun _ => ?_) (fun e => absurd rfl e)
  exact V_wd (by simp only [rl, rm] <;> omega) (by simp only [rl, rm] <;> omega) (hX σ' b h')
theorem cs_8 (h : Rel σ b) (hk : OKi G gc gs i) (hX : NX G F N gc gs i) : V G (mLw N) room_1 F gc gs 568 (Lw i) [] (σ, sh b) := by
  refine V_aload_n (pc := 568) d_L_law_568 rfl ?_
  refine V_a5 (pc := 569) (c := 1) d_L_law_569 d_L_law_570 d_L_law_571 d_L_law_572 d_L_law_573 (by decide) (by have := hk.1; omega) ?_
  refine V_cvI2 (pc := 574) (R' := rl 4) (c := 11) [_] d_L_law_574 c_L_49 k_X11_land ⟨rfl, rfl⟩ (tt_3 b) rfl (Nat.le_of_ble_eq_true rfl) ⟨Nat.le_of_ble_eq_true rfl, Nat.le_of_ble_eq_true rfl⟩ (by have := hk.2; simp only [rl, rm, room_1] <;> omega) (pr_land h) (fun r h1 M => ?_)
  obtain ⟨e1, M⟩ := M
  refine V_aload_n (pc := 577) d_L_law_577 rfl ?_
  refine V_a5 (pc := 578) (c := 1) d_L_law_578 d_L_law_579 d_L_law_580 d_L_law_581 d_L_law_582 (by decide) (by have := hk.1; omega) ?_
  refine V_cvI2 (pc := 583) (R' := rl 3) (c := 12) [_] d_L_law_583 c_L_53 k_X12_land ⟨rfl, rfl⟩ (by rw [e1]; exact tt_139 b) rfl (Nat.le_of_ble_eq_true rfl) ⟨Nat.le_of_ble_eq_true rfl, Nat.le_of_ble_eq_true rfl⟩ (by have := hk.2; simp only [rl, rm, room_1] <;> omega) M (fun r' h2 hh => ?_)
  obtain ⟨e2, σ', e3, h'⟩ := hh
  subst e2 e3
  refine V_icmp_eq (pc := 586) 1731 d_L_law_586 (by decide) (fun _ => ?_) (fun e => absurd rfl e)
  exact V_wd (by simp only [rl, rm] <;> omega) (by simp only [rl, rm] <;> omega) (hX σ' b h')
theorem cs_9 (h : Rel σ b) (hk : OKi G gc gs i) (hX : NX G F N gc gs i) : V G (mLw N) room_1 F gc gs 591 (Lw i) [] (σ, sh b) := by
  refine V_aload_n (pc := 591) d_L_law_591 rfl ?_
  refine V_a5 (pc := 592) (c := 1) d_L_law_592 d_L_law_593 d_L_law_594 d_L_law_595 d_L_law_596 (by decide) (by have := hk.1; omega) ?_
  refine V_cvI2 (pc := 597) (R' := rl 4) (c := 11) [_] d_L_law_597 c_L_54 k_X11_lose ⟨rfl, rfl⟩ (tt_3 b) rfl (Nat.le_of_ble_eq_true rfl) ⟨Nat.le_of_ble_eq_true rfl, Nat.le_of_ble_eq_true rfl⟩ (by have := hk.2; simp only [rl, rm, room_1] <;> omega) (pr_lose h) (fun r h1 M => ?_)
  obtain ⟨e1, M⟩ := M
  refine V_aload_n (pc := 600) d_L_law_600 rfl ?_
  refine V_a5 (pc := 601) (c := 1) d_L_law_601 d_L_law_602 d_L_law_603 d_L_law_604 d_L_law_605 (by decide) (by have := hk.1; omega) ?_
  refine V_cvI2 (pc := 606) (R' := rl 3) (c := 12) [_] d_L_law_606 c_L_57 k_X12_lose ⟨rfl, rfl⟩ (by rw [e1]; exact tt_139 b) rfl (Nat.le_of_ble_eq_true rfl) ⟨Nat.le_of_ble_eq_true rfl, Nat.le_of_ble_eq_true rfl⟩ (by have := hk.2; simp only [rl, rm, room_1] <;> omega) M (fun r' h2 hh => ?_)
  obtain ⟨e2, σ', e3, h'⟩ := hh
  subst e2 e3
  refine V_icmp_eq (pc := 609) 1731 d_L_law_609 (by decide) (fun _ => ?_) (fun e => absurd rfl e)
  exact V_wd (by simp only [rl, rm] <;> omega) (by simp only [rl, rm] <;> omega) (hX σ' b h')
theorem cs_10 (h : Rel σ b) (hk : OKi G gc gs i) (hX : NX G F N gc gs i) : V G (mLw N) room_1 F gc gs 614 (Lw i) [] (σ, sh b) := by
  refine V_aload_n (pc := 614) d_L_law_614 rfl ?_
  refine V_a5 (pc := 615) (c := 1) d_L_law_615 d_L_law_616 d_L_law_617 d_L_law_618 d_L_law_619 (by decide) (by have := hk.1; omega) ?_
  refine V_a5 (pc := 620) (c := 2) d_L_law_620 d_L_law_621 d_L_law_622 d_L_law_623 d_L_law_624 (by decide) (by have := hk.1; omega) ?_
  refine V_bz (pc := 625) d_L_law_625 d_L_law_628 d_L_law_629 d_L_law_632 ?_
  refine V_cvI2 (pc := 633) (R' := rl 5) (c := 11) [_, _] d_L_law_633 c_L_58 k_X11_leave ⟨rfl, rfl⟩ (tt_3 b) rfl (Nat.le_of_ble_eq_true rfl) ⟨Nat.le_of_ble_eq_true rfl, Nat.le_of_ble_eq_true rfl⟩ (by have := hk.2; simp only [rl, rm, room_1] <;> omega) (pr_leave h (bz_01 _)) (fun r h1 M => ?_)
  obtain ⟨e1, M⟩ := M
  refine V_aload_n (pc := 636) d_L_law_636 rfl ?_
  refine V_a5 (pc := 637) (c := 1) d_L_law_637 d_L_law_638 d_L_law_639 d_L_law_640 d_L_law_641 (by decide) (by have := hk.1; omega) ?_
  refine V_a5 (pc := 642) (c := 2) d_L_law_642 d_L_law_643 d_L_law_644 d_L_law_645 d_L_law_646 (by decide) (by have := hk.1; omega) ?_
  refine V_bz (pc := 647) d_L_law_647 d_L_law_650 d_L_law_651 d_L_law_654 ?_
  refine V_cvI2 (pc := 655) (R' := rl 5) (c := 12) [_, _] d_L_law_655 c_L_61 k_X12_leave ⟨rfl, rfl⟩ (by rw [e1]; exact tt_139 b) rfl (Nat.le_of_ble_eq_true rfl) ⟨Nat.le_of_ble_eq_true rfl, Nat.le_of_ble_eq_true rfl⟩ (by have := hk.2; simp only [rl, rm, room_1] <;> omega) M (fun r' h2 hh => ?_)
  obtain ⟨e2, σ', e3, h'⟩ := hh
  subst e2 e3
  refine V_icmp_eq (pc := 658) 1731 d_L_law_658 (by decide) (fun _ => ?_) (fun e => absurd rfl e)
  exact V_wd (by simp only [rl, rm] <;> omega) (by simp only [rl, rm] <;> omega) (hX σ' b h')
theorem cs_11 (h : Rel σ b) (hk : OKi G gc gs i) (hX : NX G F N gc gs i) : V G (mLw N) room_1 F gc gs 663 (Lw i) [] (σ, sh b) := by
  refine V_aload_n (pc := 663) d_L_law_663 rfl ?_
  refine V_a5 (pc := 664) (c := 1) d_L_law_664 d_L_law_665 d_L_law_666 d_L_law_667 d_L_law_668 (by decide) (by have := hk.1; omega) ?_
  refine V_cvI2 (pc := 669) (R' := rl 4) (c := 11) [_] d_L_law_669 c_L_62 k_X11_off ⟨rfl, rfl⟩ (tt_3 b) rfl (Nat.le_of_ble_eq_true rfl) ⟨Nat.le_of_ble_eq_true rfl, Nat.le_of_ble_eq_true rfl⟩ (by have := hk.2; simp only [rl, rm, room_1] <;> omega) (pr_off h) (fun r h1 M => ?_)
  obtain ⟨e1, M⟩ := M
  refine V_aload_n (pc := 672) d_L_law_672 rfl ?_
  refine V_a5 (pc := 673) (c := 1) d_L_law_673 d_L_law_674 d_L_law_675 d_L_law_676 d_L_law_677 (by decide) (by have := hk.1; omega) ?_
  refine V_cvI2 (pc := 678) (R' := rl 4) (c := 12) [_] d_L_law_678 c_L_65 k_X12_off ⟨rfl, rfl⟩ (by rw [e1]; exact tt_139 b) rfl (Nat.le_of_ble_eq_true rfl) ⟨Nat.le_of_ble_eq_true rfl, Nat.le_of_ble_eq_true rfl⟩ (by have := hk.2; simp only [rl, rm, room_1] <;> omega) M (fun r' h2 hh => ?_)
  obtain ⟨e2, σ', e3, h'⟩ := hh
  subst e2 e3
  refine V_icmp_eq (pc := 681) 1731 d_L_law_681 (by decide) (fun _ => ?_) (fun e => absurd rfl e)
  exact V_wd (by simp only [rl, rm] <;> omega) (by simp only [rl, rm] <;> omega) (hX σ' b h')
theorem cs_12 (h : Rel σ b) (hk : OKi G gc gs i) (hX : NX G F N gc gs i) : V G (mLw N) room_1 F gc gs 686 (Lw i) [] (σ, sh b) := by
  refine V_aload_n (pc := 686) d_L_law_686 rfl ?_
  refine V_a5 (pc := 687) (c := 1) d_L_law_687 d_L_law_688 d_L_law_689 d_L_law_690 d_L_law_691 (by decide) (by have := hk.1; omega) ?_
  refine V_cvI2 (pc := 692) (R' := rl 5) (c := 11) [_] d_L_law_692 c_L_66 k_X11_go ⟨rfl, rfl⟩ (tt_3 b) rfl (Nat.le_of_ble_eq_true rfl) ⟨Nat.le_of_ble_eq_true rfl, Nat.le_of_ble_eq_true rfl⟩ (by have := hk.2; simp only [rl, rm, room_1] <;> omega) (pr_go h) (fun r h1 M => ?_)
  obtain ⟨e1, M⟩ := M
  refine V_aload_n (pc := 695) d_L_law_695 rfl ?_
  refine V_a5 (pc := 696) (c := 1) d_L_law_696 d_L_law_697 d_L_law_698 d_L_law_699 d_L_law_700 (by decide) (by have := hk.1; omega) ?_
  refine V_cvI2 (pc := 701) (R' := rl 3) (c := 12) [_] d_L_law_701 c_L_69 k_X12_go ⟨rfl, rfl⟩ (by rw [e1]; exact tt_139 b) rfl (Nat.le_of_ble_eq_true rfl) ⟨Nat.le_of_ble_eq_true rfl, Nat.le_of_ble_eq_true rfl⟩ (by have := hk.2; simp only [rl, rm, room_1] <;> omega) M (fun r' h2 hh => ?_)
  obtain ⟨e2, σ', e3, h'⟩ := hh
  subst e2 e3
  refine V_icmp_eq (pc := 704) 1731 d_L_law_704 (by decide) (fun _ => ?_) (fun e => absurd rfl e)
  exact V_wd (by simp only [rl, rm] <;> omega) (by simp only [rl, rm] <;> omega) (hX σ' b h')
theorem cs_13 (h : Rel σ b) (hk : OKi G gc gs i) (hX : NX G F N gc gs i) : V G (mLw N) room_1 F gc gs 709 (Lw i) [] (σ, sh b) := by
  refine V_aload_n (pc := 709) d_L_law_709 rfl ?_
  refine V_a5 (pc := 710) (c := 1) d_L_law_710 d_L_law_711 d_L_law_712 d_L_law_713 d_L_law_714 (by decide) (by have := hk.1; omega) ?_
  refine V_a5 (pc := 715) (c := 2) d_L_law_715 d_L_law_716 d_L_law_717 d_L_law_718 d_L_law_719 (by decide) (by have := hk.1; omega) ?_
  refine V_cvI2 (pc := 720) (R' := rl 3) (c := 11) [_, _] d_L_law_720 c_L_70 k_X11_yard ⟨rfl, rfl⟩ (tt_3 b) rfl (Nat.le_of_ble_eq_true rfl) ⟨Nat.le_of_ble_eq_true rfl, Nat.le_of_ble_eq_true rfl⟩ (by have := hk.2; simp only [rl, rm, room_1] <;> omega) (pr_yard h) (fun r h1 M => ?_)
  obtain ⟨e1, M⟩ := M
  refine V_aload_n (pc := 723) d_L_law_723 rfl ?_
  refine V_a5 (pc := 724) (c := 1) d_L_law_724 d_L_law_725 d_L_law_726 d_L_law_727 d_L_law_728 (by decide) (by have := hk.1; omega) ?_
  refine V_a5 (pc := 729) (c := 2) d_L_law_729 d_L_law_730 d_L_law_731 d_L_law_732 d_L_law_733 (by decide) (by have := hk.1; omega) ?_
  refine V_cvI2 (pc := 734) (R' := rl 3) (c := 12) [_, _] d_L_law_734 c_L_73 k_X12_yard ⟨rfl, rfl⟩ (by rw [e1]; exact tt_139 b) rfl (Nat.le_of_ble_eq_true rfl) ⟨Nat.le_of_ble_eq_true rfl, Nat.le_of_ble_eq_true rfl⟩ (by have := hk.2; simp only [rl, rm, room_1] <;> omega) M (fun r' h2 hh => ?_)
  obtain ⟨e2, σ', e3, h'⟩ := hh
  subst e2 e3
  refine V_icmp_eq (pc := 737) 1731 d_L_law_737 (by decide) (fun _ => ?_) (fun e => absurd rfl e)
  exact V_wd (by simp only [rl, rm] <;> omega) (by simp only [rl, rm] <;> omega) (hX σ' b h')
theorem cs_14 (h : Rel σ b) (hk : OKi G gc gs i) (hX : NX G F N gc gs i) : V G (mLw N) room_1 F gc gs 742 (Lw i) [] (σ, sh b) := by
  refine V_aload_n (pc := 742) d_L_law_742 rfl ?_
  refine V_a5 (pc := 743) (c := 1) d_L_law_743 d_L_law_744 d_L_law_745 d_L_law_746 d_L_law_747 (by decide) (by have := hk.1; omega) ?_
  refine V_a5 (pc := 748) (c := 2) d_L_law_748 d_L_law_749 d_L_law_750 d_L_law_751 d_L_law_752 (by decide) (by have := hk.1; omega) ?_
  refine V_cvI2 (pc := 753) (R' := rl 3) (c := 11) [_, _] d_L_law_753 c_L_74 k_X11_wood ⟨rfl, rfl⟩ (tt_3 b) rfl (Nat.le_of_ble_eq_true rfl) ⟨Nat.le_of_ble_eq_true rfl, Nat.le_of_ble_eq_true rfl⟩ (by have := hk.2; simp only [rl, rm, room_1] <;> omega) (pr_wood h) (fun r h1 M => ?_)
  obtain ⟨e1, M⟩ := M
  refine V_aload_n (pc := 756) d_L_law_756 rfl ?_
  refine V_a5 (pc := 757) (c := 1) d_L_law_757 d_L_law_758 d_L_law_759 d_L_law_760 d_L_law_761 (by decide) (by have := hk.1; omega) ?_
  refine V_a5 (pc := 762) (c := 2) d_L_law_762 d_L_law_763 d_L_law_764 d_L_law_765 d_L_law_766 (by decide) (by have := hk.1; omega) ?_
  refine V_cvI2 (pc := 767) (R' := rl 3) (c := 12) [_, _] d_L_law_767 c_L_77 k_X12_wood ⟨rfl, rfl⟩ (by rw [e1]; exact tt_139 b) rfl (Nat.le_of_ble_eq_true rfl) ⟨Nat.le_of_ble_eq_true rfl, Nat.le_of_ble_eq_true rfl⟩ (by have := hk.2; simp only [rl, rm, room_1] <;> omega) M (fun r' h2 hh => ?_)
  obtain ⟨e2, σ', e3, h'⟩ := hh
  subst e2 e3
  refine V_icmp_eq (pc := 770) 1731 d_L_law_770 (by decide) (fun _ => ?_) (fun e => absurd rfl e)
  exact V_wd (by simp only [rl, rm] <;> omega) (by simp only [rl, rm] <;> omega) (hX σ' b h')
theorem cs_15 (h : Rel σ b) (hk : OKi G gc gs i) (hX : NX G F N gc gs i) : V G (mLw N) room_1 F gc gs 775 (Lw i) [] (σ, sh b) := by
  refine V_aload_n (pc := 775) d_L_law_775 rfl ?_
  refine V_a5 (pc := 776) (c := 1) d_L_law_776 d_L_law_777 d_L_law_778 d_L_law_779 d_L_law_780 (by decide) (by have := hk.1; omega) ?_
  refine V_a5 (pc := 781) (c := 2) d_L_law_781 d_L_law_782 d_L_law_783 d_L_law_784 d_L_law_785 (by decide) (by have := hk.1; omega) ?_
  refine V_a5 (pc := 786) (c := 3) d_L_law_786 d_L_law_787 d_L_law_788 d_L_law_789 d_L_law_790 (by decide) (by have := hk.1; omega) ?_
  refine V_cvI2 (pc := 791) (R' := rl 4) (c := 11) [_, _, _] d_L_law_791 c_L_78 k_X11_trip ⟨rfl, rfl⟩ (tt_3 b) rfl (Nat.le_of_ble_eq_true rfl) ⟨Nat.le_of_ble_eq_true rfl, Nat.le_of_ble_eq_true rfl⟩ (by have := hk.2; simp only [rl, rm, room_1] <;> omega) (pr_trip h) (fun r h1 M => ?_)
  obtain ⟨e1, M⟩ := M
  refine V_aload_n (pc := 794) d_L_law_794 rfl ?_
  refine V_a5 (pc := 795) (c := 1) d_L_law_795 d_L_law_796 d_L_law_797 d_L_law_798 d_L_law_799 (by decide) (by have := hk.1; omega) ?_
  refine V_a5 (pc := 800) (c := 2) d_L_law_800 d_L_law_801 d_L_law_802 d_L_law_803 d_L_law_804 (by decide) (by have := hk.1; omega) ?_
  refine V_a5 (pc := 805) (c := 3) d_L_law_805 d_L_law_806 d_L_law_807 d_L_law_808 d_L_law_809 (by decide) (by have := hk.1; omega) ?_
  refine V_cvI2 (pc := 810) (R' := rl 3) (c := 12) [_, _, _] d_L_law_810 c_L_81 k_X12_trip ⟨rfl, rfl⟩ (by rw [e1]; exact tt_139 b) rfl (Nat.le_of_ble_eq_true rfl) ⟨Nat.le_of_ble_eq_true rfl, Nat.le_of_ble_eq_true rfl⟩ (by have := hk.2; simp only [rl, rm, room_1] <;> omega) M (fun r' h2 hh => ?_)
  obtain ⟨e2, σ', e3, h'⟩ := hh
  subst e2 e3
  refine V_icmp_eq (pc := 813) 1731 d_L_law_813 (by decide) (fun _ => ?_) (fun e => absurd rfl e)
  exact V_wd (by simp only [rl, rm] <;> omega) (by simp only [rl, rm] <;> omega) (hX σ' b h')
theorem cs_16 (h : Rel σ b) (hk : OKi G gc gs i) (hX : NX G F N gc gs i) : V G (mLw N) room_1 F gc gs 818 (Lw i) [] (σ, sh b) := by
  refine V_aload_n (pc := 818) d_L_law_818 rfl ?_
  refine V_a5 (pc := 819) (c := 1) d_L_law_819 d_L_law_820 d_L_law_821 d_L_law_822 d_L_law_823 (by decide) (by have := hk.1; omega) ?_
  refine V_a5 (pc := 824) (c := 2) d_L_law_824 d_L_law_825 d_L_law_826 d_L_law_827 d_L_law_828 (by decide) (by have := hk.1; omega) ?_
  refine V_a5 (pc := 829) (c := 3) d_L_law_829 d_L_law_830 d_L_law_831 d_L_law_832 d_L_law_833 (by decide) (by have := hk.1; omega) ?_
  refine V_cvI2 (pc := 834) (R' := rl 2) (c := 11) [_, _, _] d_L_law_834 c_L_82 k_X11_rule ⟨rfl, rfl⟩ (tt_3 b) rfl (Nat.le_of_ble_eq_true rfl) ⟨Nat.le_of_ble_eq_true rfl, Nat.le_of_ble_eq_true rfl⟩ (by have := hk.2; simp only [rl, rm, room_1] <;> omega) (pr_rule h) (fun r h1 M => ?_)
  obtain ⟨e1, M⟩ := M
  refine V_aload_n (pc := 837) d_L_law_837 rfl ?_
  refine V_a5 (pc := 838) (c := 1) d_L_law_838 d_L_law_839 d_L_law_840 d_L_law_841 d_L_law_842 (by decide) (by have := hk.1; omega) ?_
  refine V_a5 (pc := 843) (c := 2) d_L_law_843 d_L_law_844 d_L_law_845 d_L_law_846 d_L_law_847 (by decide) (by have := hk.1; omega) ?_
  refine V_a5 (pc := 848) (c := 3) d_L_law_848 d_L_law_849 d_L_law_850 d_L_law_851 d_L_law_852 (by decide) (by have := hk.1; omega) ?_
  refine V_cvI2 (pc := 853) (R' := rl 3) (c := 12) [_, _, _] d_L_law_853 c_L_85 k_X12_rule ⟨rfl, rfl⟩ (by rw [e1]; exact tt_139 b) rfl (Nat.le_of_ble_eq_true rfl) ⟨Nat.le_of_ble_eq_true rfl, Nat.le_of_ble_eq_true rfl⟩ (by have := hk.2; simp only [rl, rm, room_1] <;> omega) M (fun r' h2 hh => ?_)
  obtain ⟨e2, σ', e3, h'⟩ := hh
  subst e2 e3
  refine V_icmp_eq (pc := 856) 1731 d_L_law_856 (by decide) (fun _ => ?_) (fun e => absurd rfl e)
  exact V_wd (by simp only [rl, rm] <;> omega) (by simp only [rl, rm] <;> omega) (hX σ' b h')
theorem cs_17 (h : Rel σ b) (hk : OKi G gc gs i) (hX : NX G F N gc gs i) : V G (mLw N) room_1 F gc gs 861 (Lw i) [] (σ, sh b) := by
  refine V_aload_n (pc := 861) d_L_law_861 rfl ?_
  refine V_cvI2 (pc := 862) (R' := rm 5 119 1862) (c := 11) [] d_L_law_862 c_L_86 k_X11_image ⟨rfl, rfl⟩ (tt_3 b) rfl (Nat.le_of_ble_eq_true rfl) ⟨Nat.le_of_ble_eq_true rfl, Nat.le_of_ble_eq_true rfl⟩ (by have := hk.2; simp only [rl, rm, room_1] <;> omega) (pr_image h) (fun r h1 M => ?_)
  obtain ⟨e1, M⟩ := M
  refine V_aload_n (pc := 865) d_L_law_865 rfl ?_
  refine V_cvI2 (pc := 866) (R' := rl 2) (c := 12) [] d_L_law_866 c_L_90 k_X12_image ⟨rfl, rfl⟩ (by rw [e1]; exact tt_139 true) rfl (Nat.le_of_ble_eq_true rfl) ⟨Nat.le_of_ble_eq_true rfl, Nat.le_of_ble_eq_true rfl⟩ (by have := hk.2; simp only [rl, rm, room_1] <;> omega) M (fun r' h2 hh => ?_)
  obtain ⟨e2, σ', e3, h'⟩ := hh
  subst e2 e3
  refine V_icmp_eq (pc := 869) 1731 d_L_law_869 (by decide) (fun _ => ?_) (fun e => absurd rfl e)
  exact V_wd (by simp only [rl, rm] <;> omega) (by simp only [rl, rm] <;> omega) (hX σ' true h')
theorem cs_18 (h : Rel σ b) (hk : OKi G gc gs i) (hX : NX G F N gc gs i) : V G (mLw N) room_1 F gc gs 874 (Lw i) [] (σ, sh b) := by
  refine V_aload_n (pc := 874) d_L_law_874 rfl ?_
  refine V_cvI2 (pc := 875) (R' := rl 5) (c := 11) [] d_L_law_875 c_L_91 k_X11_back ⟨rfl, rfl⟩ (tt_3 b) rfl (Nat.le_of_ble_eq_true rfl) ⟨Nat.le_of_ble_eq_true rfl, Nat.le_of_ble_eq_true rfl⟩ (by have := hk.2; simp only [rl, rm, room_1] <;> omega) (pr_back h) (fun r h1 M => ?_)
  obtain ⟨e1, M⟩ := M
  refine V_aload_n (pc := 878) d_L_law_878 rfl ?_
  refine V_cvI2 (pc := 879) (R' := rl 2) (c := 12) [] d_L_law_879 c_L_94 k_X12_back ⟨rfl, rfl⟩ (by rw [e1]; exact tt_139 b) rfl (Nat.le_of_ble_eq_true rfl) ⟨Nat.le_of_ble_eq_true rfl, Nat.le_of_ble_eq_true rfl⟩ (by have := hk.2; simp only [rl, rm, room_1] <;> omega) M (fun r' h2 hh => ?_)
  obtain ⟨e2, σ', e3, h'⟩ := hh
  subst e2 e3
  refine V_icmp_eq (pc := 882) 1731 d_L_law_882 (by decide) (fun _ => ?_) (fun e => absurd rfl e)
  exact V_wd (by simp only [rl, rm] <;> omega) (by simp only [rl, rm] <;> omega) (hX σ' b h')
theorem cs_19 (h : Rel σ b) (hk : OKi G gc gs i) (hX : NX G F N gc gs i) : V G (mLw N) room_1 F gc gs 887 (Lw i) [] (σ, sh b) := by
  refine V_aload_n (pc := 887) d_L_law_887 rfl ?_
  refine V_a5 (pc := 888) (c := 1) d_L_law_888 d_L_law_889 d_L_law_890 d_L_law_891 d_L_law_892 (by decide) (by have := hk.1; omega) ?_
  refine V_cvI2 (pc := 893) (R' := rl 3) (c := 11) [_] d_L_law_893 c_L_95 k_X11_height ⟨rfl, rfl⟩ (tt_3 b) rfl (Nat.le_of_ble_eq_true rfl) ⟨Nat.le_of_ble_eq_true rfl, Nat.le_of_ble_eq_true rfl⟩ (by have := hk.2; simp only [rl, rm, room_1] <;> omega) (pr_height h) (fun r h1 M => ?_)
  obtain ⟨e1, M⟩ := M
  refine V_aload_n (pc := 896) d_L_law_896 rfl ?_
  refine V_a5 (pc := 897) (c := 1) d_L_law_897 d_L_law_898 d_L_law_899 d_L_law_900 d_L_law_901 (by decide) (by have := hk.1; omega) ?_
  refine V_cvI2 (pc := 902) (R' := rl 3) (c := 12) [_] d_L_law_902 c_L_98 k_X12_height ⟨rfl, rfl⟩ (by rw [e1]; exact tt_139 b) rfl (Nat.le_of_ble_eq_true rfl) ⟨Nat.le_of_ble_eq_true rfl, Nat.le_of_ble_eq_true rfl⟩ (by have := hk.2; simp only [rl, rm, room_1] <;> omega) M (fun r' h2 hh => ?_)
  obtain ⟨e2, σ', e3, h'⟩ := hh
  subst e2 e3
  refine V_icmp_eq (pc := 905) 1731 d_L_law_905 (by decide) (fun _ => ?_) (fun e => absurd rfl e)
  exact V_wd (by simp only [rl, rm] <;> omega) (by simp only [rl, rm] <;> omega) (hX σ' b h')
theorem cs_20 (h : Rel σ b) (hk : OKi G gc gs i) (hX : NX G F N gc gs i) : V G (mLw N) room_1 F gc gs 910 (Lw i) [] (σ, sh b) := by
  refine V_aload_n (pc := 910) d_L_law_910 rfl ?_
  refine V_a5 (pc := 911) (c := 1) d_L_law_911 d_L_law_912 d_L_law_913 d_L_law_914 d_L_law_915 (by decide) (by have := hk.1; omega) ?_
  refine V_a5 (pc := 916) (c := 2) d_L_law_916 d_L_law_917 d_L_law_918 d_L_law_919 d_L_law_920 (by decide) (by have := hk.1; omega) ?_
  refine V_cvI2 (pc := 921) (R' := rl 4) (c := 11) [_, _] d_L_law_921 c_L_99 k_X11_stretchTold ⟨rfl, rfl⟩ (tt_3 b) rfl (Nat.le_of_ble_eq_true rfl) ⟨Nat.le_of_ble_eq_true rfl, Nat.le_of_ble_eq_true rfl⟩ (by have := hk.2; simp only [rl, rm, room_1] <;> omega) (pr_stretchTold h) (fun r h1 M => ?_)
  obtain ⟨e1, M⟩ := M
  refine V_aload_n (pc := 924) d_L_law_924 rfl ?_
  refine V_a5 (pc := 925) (c := 1) d_L_law_925 d_L_law_926 d_L_law_927 d_L_law_928 d_L_law_929 (by decide) (by have := hk.1; omega) ?_
  refine V_a5 (pc := 930) (c := 2) d_L_law_930 d_L_law_931 d_L_law_932 d_L_law_933 d_L_law_934 (by decide) (by have := hk.1; omega) ?_
  refine V_cvI2 (pc := 935) (R' := rl 3) (c := 12) [_, _] d_L_law_935 c_L_102 k_X12_stretchTold ⟨rfl, rfl⟩ (by rw [e1]; exact tt_139 b) rfl (Nat.le_of_ble_eq_true rfl) ⟨Nat.le_of_ble_eq_true rfl, Nat.le_of_ble_eq_true rfl⟩ (by have := hk.2; simp only [rl, rm, room_1] <;> omega) M (fun r' h2 hh => ?_)
  obtain ⟨e2, σ', e3, h'⟩ := hh
  subst e2 e3
  refine V_icmp_eq (pc := 938) 1731 d_L_law_938 (by decide) (fun _ => ?_) (fun e => absurd rfl e)
  exact V_wd (by simp only [rl, rm] <;> omega) (by simp only [rl, rm] <;> omega) (hX σ' b h')
theorem cs_21 (h : Rel σ b) (hk : OKi G gc gs i) (hX : NX G F N gc gs i) : V G (mLw N) room_1 F gc gs 943 (Lw i) [] (σ, sh b) := by
  refine V_aload_n (pc := 943) d_L_law_943 rfl ?_
  refine V_a5 (pc := 944) (c := 1) d_L_law_944 d_L_law_945 d_L_law_946 d_L_law_947 d_L_law_948 (by decide) (by have := hk.1; omega) ?_
  refine V_a5 (pc := 949) (c := 2) d_L_law_949 d_L_law_950 d_L_law_951 d_L_law_952 d_L_law_953 (by decide) (by have := hk.1; omega) ?_
  refine V_cvI2 (pc := 954) (R' := rl 3) (c := 11) [_, _] d_L_law_954 c_L_103 k_X11_water ⟨rfl, rfl⟩ (tt_3 b) rfl (Nat.le_of_ble_eq_true rfl) ⟨Nat.le_of_ble_eq_true rfl, Nat.le_of_ble_eq_true rfl⟩ (by have := hk.2; simp only [rl, rm, room_1] <;> omega) (pr_water h) (fun r h1 M => ?_)
  obtain ⟨e1, M⟩ := M
  refine V_aload_n (pc := 957) d_L_law_957 rfl ?_
  refine V_a5 (pc := 958) (c := 1) d_L_law_958 d_L_law_959 d_L_law_960 d_L_law_961 d_L_law_962 (by decide) (by have := hk.1; omega) ?_
  refine V_a5 (pc := 963) (c := 2) d_L_law_963 d_L_law_964 d_L_law_965 d_L_law_966 d_L_law_967 (by decide) (by have := hk.1; omega) ?_
  refine V_cvI2 (pc := 968) (R' := rl 4) (c := 12) [_, _] d_L_law_968 c_L_106 k_X12_water ⟨rfl, rfl⟩ (by rw [e1]; exact tt_139 b) rfl (Nat.le_of_ble_eq_true rfl) ⟨Nat.le_of_ble_eq_true rfl, Nat.le_of_ble_eq_true rfl⟩ (by have := hk.2; simp only [rl, rm, room_1] <;> omega) M (fun r' h2 hh => ?_)
  obtain ⟨e2, σ', e3, h'⟩ := hh
  subst e2 e3
  refine V_icmp_eq (pc := 971) 1731 d_L_law_971 (by decide) (fun _ => ?_) (fun e => absurd rfl e)
  exact V_wd (by simp only [rl, rm] <;> omega) (by simp only [rl, rm] <;> omega) (hX σ' b h')
theorem cs_22 (h : Rel σ b) (hk : OKi G gc gs i) (hX : NX G F N gc gs i) : V G (mLw N) room_1 F gc gs 976 (Lw i) [] (σ, sh b) := by
  refine V_aload_n (pc := 976) d_L_law_976 rfl ?_
  refine V_a5 (pc := 977) (c := 1) d_L_law_977 d_L_law_978 d_L_law_979 d_L_law_980 d_L_law_981 (by decide) (by have := hk.1; omega) ?_
  refine V_a5 (pc := 982) (c := 2) d_L_law_982 d_L_law_983 d_L_law_984 d_L_law_985 d_L_law_986 (by decide) (by have := hk.1; omega) ?_
  refine V_cvI2 (pc := 987) (R' := rl 3) (c := 11) [_, _] d_L_law_987 c_L_107 k_X11_boatTold ⟨rfl, rfl⟩ (tt_3 b) rfl (Nat.le_of_ble_eq_true rfl) ⟨Nat.le_of_ble_eq_true rfl, Nat.le_of_ble_eq_true rfl⟩ (by have := hk.2; simp only [rl, rm, room_1] <;> omega) (pr_boatTold h) (fun r h1 M => ?_)
  obtain ⟨e1, M⟩ := M
  refine V_aload_n (pc := 990) d_L_law_990 rfl ?_
  refine V_a5 (pc := 991) (c := 1) d_L_law_991 d_L_law_992 d_L_law_993 d_L_law_994 d_L_law_995 (by decide) (by have := hk.1; omega) ?_
  refine V_a5 (pc := 996) (c := 2) d_L_law_996 d_L_law_997 d_L_law_998 d_L_law_999 d_L_law_1000 (by decide) (by have := hk.1; omega) ?_
  refine V_cvI2 (pc := 1001) (R' := rl 3) (c := 12) [_, _] d_L_law_1001 c_L_110 k_X12_boatTold ⟨rfl, rfl⟩ (by rw [e1]; exact tt_139 b) rfl (Nat.le_of_ble_eq_true rfl) ⟨Nat.le_of_ble_eq_true rfl, Nat.le_of_ble_eq_true rfl⟩ (by have := hk.2; simp only [rl, rm, room_1] <;> omega) M (fun r' h2 hh => ?_)
  obtain ⟨e2, σ', e3, h'⟩ := hh
  subst e2 e3
  refine V_icmp_eq (pc := 1004) 1731 d_L_law_1004 (by decide) (fun _ => ?_) (fun e => absurd rfl e)
  exact V_wd (by simp only [rl, rm] <;> omega) (by simp only [rl, rm] <;> omega) (hX σ' b h')
theorem cs_23 (h : Rel σ b) (hk : OKi G gc gs i) (hX : NX G F N gc gs i) : V G (mLw N) room_1 F gc gs 1009 (Lw i) [] (σ, sh b) := by
  refine V_aload_n (pc := 1009) d_L_law_1009 rfl ?_
  refine V_a5 (pc := 1010) (c := 1) d_L_law_1010 d_L_law_1011 d_L_law_1012 d_L_law_1013 d_L_law_1014 (by decide) (by have := hk.1; omega) ?_
  refine V_a5 (pc := 1015) (c := 2) d_L_law_1015 d_L_law_1016 d_L_law_1017 d_L_law_1018 d_L_law_1019 (by decide) (by have := hk.1; omega) ?_
  refine V_cvI2 (pc := 1020) (R' := rl 3) (c := 11) [_, _] d_L_law_1020 c_L_111 k_X11_baleTold ⟨rfl, rfl⟩ (tt_3 b) rfl (Nat.le_of_ble_eq_true rfl) ⟨Nat.le_of_ble_eq_true rfl, Nat.le_of_ble_eq_true rfl⟩ (by have := hk.2; simp only [rl, rm, room_1] <;> omega) (pr_baleTold h) (fun r h1 M => ?_)
  obtain ⟨e1, M⟩ := M
  refine V_aload_n (pc := 1023) d_L_law_1023 rfl ?_
  refine V_a5 (pc := 1024) (c := 1) d_L_law_1024 d_L_law_1025 d_L_law_1026 d_L_law_1027 d_L_law_1028 (by decide) (by have := hk.1; omega) ?_
  refine V_a5 (pc := 1029) (c := 2) d_L_law_1029 d_L_law_1030 d_L_law_1031 d_L_law_1032 d_L_law_1033 (by decide) (by have := hk.1; omega) ?_
  refine V_cvI2 (pc := 1034) (R' := rl 3) (c := 12) [_, _] d_L_law_1034 c_L_114 k_X12_baleTold ⟨rfl, rfl⟩ (by rw [e1]; exact tt_139 b) rfl (Nat.le_of_ble_eq_true rfl) ⟨Nat.le_of_ble_eq_true rfl, Nat.le_of_ble_eq_true rfl⟩ (by have := hk.2; simp only [rl, rm, room_1] <;> omega) M (fun r' h2 hh => ?_)
  obtain ⟨e2, σ', e3, h'⟩ := hh
  subst e2 e3
  refine V_icmp_eq (pc := 1037) 1731 d_L_law_1037 (by decide) (fun _ => ?_) (fun e => absurd rfl e)
  exact V_wd (by simp only [rl, rm] <;> omega) (by simp only [rl, rm] <;> omega) (hX σ' b h')
theorem cs_24 (h : Rel σ b) (hk : OKi G gc gs i) (hX : NX G F N gc gs i) : V G (mLw N) room_1 F gc gs 1042 (Lw i) [] (σ, sh b) := by
  refine V_aload_n (pc := 1042) d_L_law_1042 rfl ?_
  refine V_a5 (pc := 1043) (c := 1) d_L_law_1043 d_L_law_1044 d_L_law_1045 d_L_law_1046 d_L_law_1047 (by decide) (by have := hk.1; omega) ?_
  refine V_a5 (pc := 1048) (c := 2) d_L_law_1048 d_L_law_1049 d_L_law_1050 d_L_law_1051 d_L_law_1052 (by decide) (by have := hk.1; omega) ?_
  refine V_bz (pc := 1053) d_L_law_1053 d_L_law_1056 d_L_law_1057 d_L_law_1060 ?_
  refine V_cvI2 (pc := 1061) (R' := rl 5) (c := 11) [_, _] d_L_law_1061 c_L_115 k_X11_why ⟨rfl, rfl⟩ (tt_3 b) rfl (Nat.le_of_ble_eq_true rfl) ⟨Nat.le_of_ble_eq_true rfl, Nat.le_of_ble_eq_true rfl⟩ (by have := hk.2; simp only [rl, rm, room_1] <;> omega) (pr_why h) (fun r h1 M => ?_)
  obtain ⟨e1, M⟩ := M
  refine V_aload_n (pc := 1064) d_L_law_1064 rfl ?_
  refine V_a5 (pc := 1065) (c := 1) d_L_law_1065 d_L_law_1066 d_L_law_1067 d_L_law_1068 d_L_law_1069 (by decide) (by have := hk.1; omega) ?_
  refine V_a5 (pc := 1070) (c := 2) d_L_law_1070 d_L_law_1071 d_L_law_1072 d_L_law_1073 d_L_law_1074 (by decide) (by have := hk.1; omega) ?_
  refine V_bz (pc := 1075) d_L_law_1075 d_L_law_1078 d_L_law_1079 d_L_law_1082 ?_
  refine V_cvI2 (pc := 1083) (R' := rl 5) (c := 12) [_, _] d_L_law_1083 c_L_118 k_X12_why ⟨rfl, rfl⟩ (by rw [e1]; exact tt_139 b) rfl (Nat.le_of_ble_eq_true rfl) ⟨Nat.le_of_ble_eq_true rfl, Nat.le_of_ble_eq_true rfl⟩ (by have := hk.2; simp only [rl, rm, room_1] <;> omega) M (fun r' h2 hh => ?_)
  obtain ⟨e2, σ', e3, h'⟩ := hh
  subst e2 e3
  refine V_icmp_eq (pc := 1086) 1731 d_L_law_1086 (by decide) (fun _ => ?_) (fun e => absurd rfl e)
  exact V_wd (by simp only [rl, rm] <;> omega) (by simp only [rl, rm] <;> omega) (hX σ' b h')
theorem cs_25 (h : Rel σ b) (hk : OKi G gc gs i) (hX : NX G F N gc gs i) : V G (mLw N) room_1 F gc gs 1091 (Lw i) [] (σ, sh b) := by
  refine V_aload_n (pc := 1091) d_L_law_1091 rfl ?_
  refine V_a5 (pc := 1092) (c := 1) d_L_law_1092 d_L_law_1093 d_L_law_1094 d_L_law_1095 d_L_law_1096 (by decide) (by have := hk.1; omega) ?_
  refine V_a5 (pc := 1097) (c := 2) d_L_law_1097 d_L_law_1098 d_L_law_1099 d_L_law_1100 d_L_law_1101 (by decide) (by have := hk.1; omega) ?_
  refine V_a5 (pc := 1102) (c := 3) d_L_law_1102 d_L_law_1103 d_L_law_1104 d_L_law_1105 d_L_law_1106 (by decide) (by have := hk.1; omega) ?_
  refine V_cvI2 (pc := 1107) (R' := rl 3) (c := 11) [_, _, _] d_L_law_1107 c_L_119 k_X11_knows ⟨rfl, rfl⟩ (tt_3 b) rfl (Nat.le_of_ble_eq_true rfl) ⟨Nat.le_of_ble_eq_true rfl, Nat.le_of_ble_eq_true rfl⟩ (by have := hk.2; simp only [rl, rm, room_1] <;> omega) (pr_knows h) (fun r h1 M => ?_)
  obtain ⟨e1, M⟩ := M
  refine V_aload_n (pc := 1110) d_L_law_1110 rfl ?_
  refine V_a5 (pc := 1111) (c := 1) d_L_law_1111 d_L_law_1112 d_L_law_1113 d_L_law_1114 d_L_law_1115 (by decide) (by have := hk.1; omega) ?_
  refine V_a5 (pc := 1116) (c := 2) d_L_law_1116 d_L_law_1117 d_L_law_1118 d_L_law_1119 d_L_law_1120 (by decide) (by have := hk.1; omega) ?_
  refine V_a5 (pc := 1121) (c := 3) d_L_law_1121 d_L_law_1122 d_L_law_1123 d_L_law_1124 d_L_law_1125 (by decide) (by have := hk.1; omega) ?_
  refine V_cvI2 (pc := 1126) (R' := rl 3) (c := 12) [_, _, _] d_L_law_1126 c_L_122 k_X12_knows ⟨rfl, rfl⟩ (by rw [e1]; exact tt_139 b) rfl (Nat.le_of_ble_eq_true rfl) ⟨Nat.le_of_ble_eq_true rfl, Nat.le_of_ble_eq_true rfl⟩ (by have := hk.2; simp only [rl, rm, room_1] <;> omega) M (fun r' h2 hh => ?_)
  obtain ⟨e2, σ', e3, h'⟩ := hh
  subst e2 e3
  refine V_icmp_eq (pc := 1129) 1731 d_L_law_1129 (by decide) (fun _ => ?_) (fun e => absurd rfl e)
  exact V_wd (by simp only [rl, rm] <;> omega) (by simp only [rl, rm] <;> omega) (hX σ' b h')
theorem cs_26 (h : Rel σ b) (hk : OKi G gc gs i) (hX : NX G F N gc gs i) : V G (mLw N) room_1 F gc gs 1134 (Lw i) [] (σ, sh b) := by
  refine V_aload_n (pc := 1134) d_L_law_1134 rfl ?_
  refine V_a5 (pc := 1135) (c := 1) d_L_law_1135 d_L_law_1136 d_L_law_1137 d_L_law_1138 d_L_law_1139 (by decide) (by have := hk.1; omega) ?_
  refine V_a5 (pc := 1140) (c := 2) d_L_law_1140 d_L_law_1141 d_L_law_1142 d_L_law_1143 d_L_law_1144 (by decide) (by have := hk.1; omega) ?_
  refine V_a5 (pc := 1145) (c := 3) d_L_law_1145 d_L_law_1146 d_L_law_1147 d_L_law_1148 d_L_law_1149 (by decide) (by have := hk.1; omega) ?_
  refine V_cvI2 (pc := 1150) (R' := rl 3) (c := 11) [_, _, _] d_L_law_1150 c_L_123 k_X11_box ⟨rfl, rfl⟩ (tt_3 b) rfl (Nat.le_of_ble_eq_true rfl) ⟨Nat.le_of_ble_eq_true rfl, Nat.le_of_ble_eq_true rfl⟩ (by have := hk.2; simp only [rl, rm, room_1] <;> omega) (pr_box h) (fun r h1 M => ?_)
  obtain ⟨e1, M⟩ := M
  refine V_aload_n (pc := 1153) d_L_law_1153 rfl ?_
  refine V_a5 (pc := 1154) (c := 1) d_L_law_1154 d_L_law_1155 d_L_law_1156 d_L_law_1157 d_L_law_1158 (by decide) (by have := hk.1; omega) ?_
  refine V_a5 (pc := 1159) (c := 2) d_L_law_1159 d_L_law_1160 d_L_law_1161 d_L_law_1162 d_L_law_1163 (by decide) (by have := hk.1; omega) ?_
  refine V_a5 (pc := 1164) (c := 3) d_L_law_1164 d_L_law_1165 d_L_law_1166 d_L_law_1167 d_L_law_1168 (by decide) (by have := hk.1; omega) ?_
  refine V_cvI2 (pc := 1169) (R' := rl 3) (c := 12) [_, _, _] d_L_law_1169 c_L_126 k_X12_box ⟨rfl, rfl⟩ (by rw [e1]; exact tt_139 b) rfl (Nat.le_of_ble_eq_true rfl) ⟨Nat.le_of_ble_eq_true rfl, Nat.le_of_ble_eq_true rfl⟩ (by have := hk.2; simp only [rl, rm, room_1] <;> omega) M (fun r' h2 hh => ?_)
  obtain ⟨e2, σ', e3, h'⟩ := hh
  subst e2 e3
  refine V_icmp_eq (pc := 1172) 1731 d_L_law_1172 (by decide) (fun _ => ?_) (fun e => absurd rfl e)
  exact V_wd (by simp only [rl, rm] <;> omega) (by simp only [rl, rm] <;> omega) (hX σ' b h')
theorem cs_27 (h : Rel σ b) (hk : OKi G gc gs i) (hX : NX G F N gc gs i) : V G (mLw N) room_1 F gc gs 1177 (Lw i) [] (σ, sh b) := by
  refine V_aload_n (pc := 1177) d_L_law_1177 rfl ?_
  refine V_a5 (pc := 1178) (c := 1) d_L_law_1178 d_L_law_1179 d_L_law_1180 d_L_law_1181 d_L_law_1182 (by decide) (by have := hk.1; omega) ?_
  refine V_a5 (pc := 1183) (c := 2) d_L_law_1183 d_L_law_1184 d_L_law_1185 d_L_law_1186 d_L_law_1187 (by decide) (by have := hk.1; omega) ?_
  refine V_cvI2 (pc := 1188) (R' := rl 4) (c := 11) [_, _] d_L_law_1188 c_L_127 k_X11_lading ⟨rfl, rfl⟩ (tt_3 b) rfl (Nat.le_of_ble_eq_true rfl) ⟨Nat.le_of_ble_eq_true rfl, Nat.le_of_ble_eq_true rfl⟩ (by have := hk.2; simp only [rl, rm, room_1] <;> omega) (pr_lading h) (fun r h1 M => ?_)
  obtain ⟨e1, M⟩ := M
  refine V_aload_n (pc := 1191) d_L_law_1191 rfl ?_
  refine V_a5 (pc := 1192) (c := 1) d_L_law_1192 d_L_law_1193 d_L_law_1194 d_L_law_1195 d_L_law_1196 (by decide) (by have := hk.1; omega) ?_
  refine V_a5 (pc := 1197) (c := 2) d_L_law_1197 d_L_law_1198 d_L_law_1199 d_L_law_1200 d_L_law_1201 (by decide) (by have := hk.1; omega) ?_
  refine V_cvI2 (pc := 1202) (R' := rl 3) (c := 12) [_, _] d_L_law_1202 c_L_130 k_X12_lading ⟨rfl, rfl⟩ (by rw [e1]; exact tt_139 b) rfl (Nat.le_of_ble_eq_true rfl) ⟨Nat.le_of_ble_eq_true rfl, Nat.le_of_ble_eq_true rfl⟩ (by have := hk.2; simp only [rl, rm, room_1] <;> omega) M (fun r' h2 hh => ?_)
  obtain ⟨e2, σ', e3, h'⟩ := hh
  subst e2 e3
  refine V_icmp_eq (pc := 1205) 1731 d_L_law_1205 (by decide) (fun _ => ?_) (fun e => absurd rfl e)
  exact V_wd (by simp only [rl, rm] <;> omega) (by simp only [rl, rm] <;> omega) (hX σ' b h')
theorem cs_28 (h : Rel σ b) (hk : OKi G gc gs i) (hX : NX G F N gc gs i) : V G (mLw N) room_1 F gc gs 1210 (Lw i) [] (σ, sh b) := by
  refine V_aload_n (pc := 1210) d_L_law_1210 rfl ?_
  refine V_a5 (pc := 1211) (c := 1) d_L_law_1211 d_L_law_1212 d_L_law_1213 d_L_law_1214 d_L_law_1215 (by decide) (by have := hk.1; omega) ?_
  refine V_a5 (pc := 1216) (c := 2) d_L_law_1216 d_L_law_1217 d_L_law_1218 d_L_law_1219 d_L_law_1220 (by decide) (by have := hk.1; omega) ?_
  refine V_a5 (pc := 1221) (c := 3) d_L_law_1221 d_L_law_1222 d_L_law_1223 d_L_law_1224 d_L_law_1225 (by decide) (by have := hk.1; omega) ?_
  refine V_cvI2 (pc := 1226) (R' := rl 4) (c := 11) [_, _, _] d_L_law_1226 c_L_131 k_X11_wooding ⟨rfl, rfl⟩ (tt_3 b) rfl (Nat.le_of_ble_eq_true rfl) ⟨Nat.le_of_ble_eq_true rfl, Nat.le_of_ble_eq_true rfl⟩ (by have := hk.2; simp only [rl, rm, room_1] <;> omega) (pr_wooding h) (fun r h1 M => ?_)
  obtain ⟨e1, M⟩ := M
  refine V_aload_n (pc := 1229) d_L_law_1229 rfl ?_
  refine V_a5 (pc := 1230) (c := 1) d_L_law_1230 d_L_law_1231 d_L_law_1232 d_L_law_1233 d_L_law_1234 (by decide) (by have := hk.1; omega) ?_
  refine V_a5 (pc := 1235) (c := 2) d_L_law_1235 d_L_law_1236 d_L_law_1237 d_L_law_1238 d_L_law_1239 (by decide) (by have := hk.1; omega) ?_
  refine V_a5 (pc := 1240) (c := 3) d_L_law_1240 d_L_law_1241 d_L_law_1242 d_L_law_1243 d_L_law_1244 (by decide) (by have := hk.1; omega) ?_
  refine V_cvI2 (pc := 1245) (R' := rl 5) (c := 12) [_, _, _] d_L_law_1245 c_L_134 k_X12_wooding ⟨rfl, rfl⟩ (by rw [e1]; exact tt_139 b) rfl (Nat.le_of_ble_eq_true rfl) ⟨Nat.le_of_ble_eq_true rfl, Nat.le_of_ble_eq_true rfl⟩ (by have := hk.2; simp only [rl, rm, room_1] <;> omega) M (fun r' h2 hh => ?_)
  obtain ⟨e2, σ', e3, h'⟩ := hh
  subst e2 e3
  refine V_icmp_eq (pc := 1248) 1731 d_L_law_1248 (by decide) (fun _ => ?_) (fun e => absurd rfl e)
  exact V_wd (by simp only [rl, rm] <;> omega) (by simp only [rl, rm] <;> omega) (hX σ' b h')
theorem cs_29 (h : Rel σ b) (hk : OKi G gc gs i) (hX : NX G F N gc gs i) : V G (mLw N) room_1 F gc gs 1253 (Lw i) [] (σ, sh b) := by
  refine V_aload_n (pc := 1253) d_L_law_1253 rfl ?_
  refine V_a5 (pc := 1254) (c := 1) d_L_law_1254 d_L_law_1255 d_L_law_1256 d_L_law_1257 d_L_law_1258 (by decide) (by have := hk.1; omega) ?_
  refine V_a5 (pc := 1259) (c := 2) d_L_law_1259 d_L_law_1260 d_L_law_1261 d_L_law_1262 d_L_law_1263 (by decide) (by have := hk.1; omega) ?_
  refine V_a5 (pc := 1264) (c := 3) d_L_law_1264 d_L_law_1265 d_L_law_1266 d_L_law_1267 d_L_law_1268 (by decide) (by have := hk.1; omega) ?_
  refine V_a5 (pc := 1269) (c := 4) d_L_law_1269 d_L_law_1270 d_L_law_1271 d_L_law_1272 d_L_law_1273 (by decide) (by have := hk.1; omega) ?_
  refine V_cvI2 (pc := 1274) (R' := rl 4) (c := 11) [_, _, _, _] d_L_law_1274 c_L_135 k_X11_bought ⟨rfl, rfl⟩ (tt_3 b) rfl (Nat.le_of_ble_eq_true rfl) ⟨Nat.le_of_ble_eq_true rfl, Nat.le_of_ble_eq_true rfl⟩ (by have := hk.2; simp only [rl, rm, room_1] <;> omega) (pr_bought h) (fun r h1 M => ?_)
  obtain ⟨e1, M⟩ := M
  refine V_aload_n (pc := 1277) d_L_law_1277 rfl ?_
  refine V_a5 (pc := 1278) (c := 1) d_L_law_1278 d_L_law_1279 d_L_law_1280 d_L_law_1281 d_L_law_1282 (by decide) (by have := hk.1; omega) ?_
  refine V_a5 (pc := 1283) (c := 2) d_L_law_1283 d_L_law_1284 d_L_law_1285 d_L_law_1286 d_L_law_1287 (by decide) (by have := hk.1; omega) ?_
  refine V_a5 (pc := 1288) (c := 3) d_L_law_1288 d_L_law_1289 d_L_law_1290 d_L_law_1291 d_L_law_1292 (by decide) (by have := hk.1; omega) ?_
  refine V_a5 (pc := 1293) (c := 4) d_L_law_1293 d_L_law_1294 d_L_law_1295 d_L_law_1296 d_L_law_1297 (by decide) (by have := hk.1; omega) ?_
  refine V_cvI2 (pc := 1298) (R' := rl 6) (c := 12) [_, _, _, _] d_L_law_1298 c_L_138 k_X12_bought ⟨rfl, rfl⟩ (by rw [e1]; exact tt_139 b) rfl (Nat.le_of_ble_eq_true rfl) ⟨Nat.le_of_ble_eq_true rfl, Nat.le_of_ble_eq_true rfl⟩ (by have := hk.2; simp only [rl, rm, room_1] <;> omega) M (fun r' h2 hh => ?_)
  obtain ⟨e2, σ', e3, h'⟩ := hh
  subst e2 e3
  refine V_icmp_eq (pc := 1301) 1731 d_L_law_1301 (by decide) (fun _ => ?_) (fun e => absurd rfl e)
  exact V_wd (by simp only [rl, rm] <;> omega) (by simp only [rl, rm] <;> omega) (hX σ' b h')
theorem cs_30 (h : Rel σ b) (hk : OKi G gc gs i) (hX : NX G F N gc gs i) : V G (mLw N) room_1 F gc gs 1306 (Lw i) [] (σ, sh b) := by
  refine V_aload_n (pc := 1306) d_L_law_1306 rfl ?_
  refine V_cvI2 (pc := 1307) (R' := rl 4) (c := 11) [] d_L_law_1307 c_L_139 k_X11_lights ⟨rfl, rfl⟩ (tt_3 b) rfl (Nat.le_of_ble_eq_true rfl) ⟨Nat.le_of_ble_eq_true rfl, Nat.le_of_ble_eq_true rfl⟩ (by have := hk.2; simp only [rl, rm, room_1] <;> omega) (pr_lights h) (fun r h1 M => ?_)
  obtain ⟨e1, M⟩ := M
  refine V_aload_n (pc := 1310) d_L_law_1310 rfl ?_
  refine V_cvI2 (pc := 1311) (R' := rl 2) (c := 12) [] d_L_law_1311 c_L_142 k_X12_lights ⟨rfl, rfl⟩ (by rw [e1]; exact tt_139 b) rfl (Nat.le_of_ble_eq_true rfl) ⟨Nat.le_of_ble_eq_true rfl, Nat.le_of_ble_eq_true rfl⟩ (by have := hk.2; simp only [rl, rm, room_1] <;> omega) M (fun r' h2 hh => ?_)
  obtain ⟨e2, σ', e3, h'⟩ := hh
  subst e2 e3
  refine V_icmp_eq (pc := 1314) 1731 d_L_law_1314 (by decide) (fun _ => ?_) (fun e => absurd rfl e)
  exact V_wd (by simp only [rl, rm] <;> omega) (by simp only [rl, rm] <;> omega) (hX σ' b h')
theorem cs_31 (h : Rel σ b) (hk : OKi G gc gs i) (hX : NX G F N gc gs i) : V G (mLw N) room_1 F gc gs 1319 (Lw i) [] (σ, sh b) := by
  refine V_aload_n (pc := 1319) d_L_law_1319 rfl ?_
  refine V_a5 (pc := 1320) (c := 1) d_L_law_1320 d_L_law_1321 d_L_law_1322 d_L_law_1323 d_L_law_1324 (by decide) (by have := hk.1; omega) ?_
  refine V_a5 (pc := 1325) (c := 2) d_L_law_1325 d_L_law_1326 d_L_law_1327 d_L_law_1328 d_L_law_1329 (by decide) (by have := hk.1; omega) ?_
  refine V_a5 (pc := 1330) (c := 3) d_L_law_1330 d_L_law_1331 d_L_law_1332 d_L_law_1333 d_L_law_1334 (by decide) (by have := hk.1; omega) ?_
  refine V_a5 (pc := 1335) (c := 4) d_L_law_1335 d_L_law_1336 d_L_law_1337 d_L_law_1338 d_L_law_1339 (by decide) (by have := hk.1; omega) ?_
  refine V_bz (pc := 1340) d_L_law_1340 d_L_law_1343 d_L_law_1344 d_L_law_1347 ?_
  refine V_a5 (pc := 1348) (c := 5) d_L_law_1348 d_L_law_1349 d_L_law_1350 d_L_law_1351 d_L_law_1352 (by decide) (by have := hk.1; omega) ?_
  refine V_bz (pc := 1353) d_L_law_1353 d_L_law_1356 d_L_law_1357 d_L_law_1360 ?_
  refine V_cvI2 (pc := 1361) (R' := rl 4) (c := 11) [_, _, _, _, _] d_L_law_1361 c_L_143 k_X11_gives ⟨rfl, rfl⟩ (tt_3 b) rfl (Nat.le_of_ble_eq_true rfl) ⟨Nat.le_of_ble_eq_true rfl, Nat.le_of_ble_eq_true rfl⟩ (by have := hk.2; simp only [rl, rm, room_1] <;> omega) (pr_gives h) (fun r h1 M => ?_)
  obtain ⟨e1, M⟩ := M
  refine V_aload_n (pc := 1364) d_L_law_1364 rfl ?_
  refine V_a5 (pc := 1365) (c := 1) d_L_law_1365 d_L_law_1366 d_L_law_1367 d_L_law_1368 d_L_law_1369 (by decide) (by have := hk.1; omega) ?_
  refine V_a5 (pc := 1370) (c := 2) d_L_law_1370 d_L_law_1371 d_L_law_1372 d_L_law_1373 d_L_law_1374 (by decide) (by have := hk.1; omega) ?_
  refine V_a5 (pc := 1375) (c := 3) d_L_law_1375 d_L_law_1376 d_L_law_1377 d_L_law_1378 d_L_law_1379 (by decide) (by have := hk.1; omega) ?_
  refine V_a5 (pc := 1380) (c := 4) d_L_law_1380 d_L_law_1381 d_L_law_1382 d_L_law_1383 d_L_law_1384 (by decide) (by have := hk.1; omega) ?_
  refine V_bz (pc := 1385) d_L_law_1385 d_L_law_1388 d_L_law_1389 d_L_law_1392 ?_
  refine V_a5 (pc := 1393) (c := 5) d_L_law_1393 d_L_law_1394 d_L_law_1395 d_L_law_1396 d_L_law_1397 (by decide) (by have := hk.1; omega) ?_
  refine V_bz (pc := 1398) d_L_law_1398 d_L_law_1401 d_L_law_1402 d_L_law_1405 ?_
  refine V_cvI2 (pc := 1406) (R' := rl 4) (c := 12) [_, _, _, _, _] d_L_law_1406 c_L_147 k_X12_gives ⟨rfl, rfl⟩ (by rw [e1]; exact tt_139 b) rfl (Nat.le_of_ble_eq_true rfl) ⟨Nat.le_of_ble_eq_true rfl, Nat.le_of_ble_eq_true rfl⟩ (by have := hk.2; simp only [rl, rm, room_1] <;> omega) M (fun r' h2 hh => ?_)
  obtain ⟨e2, σ', e3, h'⟩ := hh
  subst e2 e3
  refine V_icmp_eq (pc := 1409) 1731 d_L_law_1409 (by decide) (fun _ => ?_) (fun e => absurd rfl e)
  exact V_wd (by simp only [rl, rm] <;> omega) (by simp only [rl, rm] <;> omega) (hX σ' b h')
theorem cs_32 (h : Rel σ b) (hk : OKi G gc gs i) (hX : NX G F N gc gs i) : V G (mLw N) room_1 F gc gs 1414 (Lw i) [] (σ, sh b) := by
  refine V_aload_n (pc := 1414) d_L_law_1414 rfl ?_
  refine V_a5 (pc := 1415) (c := 1) d_L_law_1415 d_L_law_1416 d_L_law_1417 d_L_law_1418 d_L_law_1419 (by decide) (by have := hk.1; omega) ?_
  refine V_cvI2 (pc := 1420) (R' := rl 3) (c := 11) [_] d_L_law_1420 c_L_148 k_X11_count ⟨rfl, rfl⟩ (tt_3 b) rfl (Nat.le_of_ble_eq_true rfl) ⟨Nat.le_of_ble_eq_true rfl, Nat.le_of_ble_eq_true rfl⟩ (by have := hk.2; simp only [rl, rm, room_1] <;> omega) (pr_count h) (fun r h1 M => ?_)
  obtain ⟨e1, M⟩ := M
  refine V_aload_n (pc := 1423) d_L_law_1423 rfl ?_
  refine V_a5 (pc := 1424) (c := 1) d_L_law_1424 d_L_law_1425 d_L_law_1426 d_L_law_1427 d_L_law_1428 (by decide) (by have := hk.1; omega) ?_
  refine V_cvI2 (pc := 1429) (R' := rl 2) (c := 12) [_] d_L_law_1429 c_L_151 k_X12_count ⟨rfl, rfl⟩ (by rw [e1]; exact tt_139 b) rfl (Nat.le_of_ble_eq_true rfl) ⟨Nat.le_of_ble_eq_true rfl, Nat.le_of_ble_eq_true rfl⟩ (by have := hk.2; simp only [rl, rm, room_1] <;> omega) M (fun r' h2 hh => ?_)
  obtain ⟨e2, σ', e3, h'⟩ := hh
  subst e2 e3
  refine V_icmp_eq (pc := 1432) 1731 d_L_law_1432 (by decide) (fun _ => ?_) (fun e => absurd rfl e)
  exact V_wd (by simp only [rl, rm] <;> omega) (by simp only [rl, rm] <;> omega) (hX σ' b h')
theorem cs_33 (h : Rel σ b) (hk : OKi G gc gs i) (hX : NX G F N gc gs i) : V G (mLw N) room_1 F gc gs 1437 (Lw i) [] (σ, sh b) := by
  refine V_aload_n (pc := 1437) d_L_law_1437 rfl ?_
  refine V_a5 (pc := 1438) (c := 1) d_L_law_1438 d_L_law_1439 d_L_law_1440 d_L_law_1441 d_L_law_1442 (by decide) (by have := hk.1; omega) ?_
  refine V_a5 (pc := 1443) (c := 2) d_L_law_1443 d_L_law_1444 d_L_law_1445 d_L_law_1446 d_L_law_1447 (by decide) (by have := hk.1; omega) ?_
  refine V_a5 (pc := 1448) (c := 3) d_L_law_1448 d_L_law_1449 d_L_law_1450 d_L_law_1451 d_L_law_1452 (by decide) (by have := hk.1; omega) ?_
  refine V_cvI2 (pc := 1453) (R' := rl 42) (c := 11) [_, _, _] d_L_law_1453 c_L_152 k_X11_act ⟨rfl, rfl⟩ (tt_3 b) rfl (Nat.le_of_ble_eq_true rfl) ⟨Nat.le_of_ble_eq_true rfl, Nat.le_of_ble_eq_true rfl⟩ (by have := hk.2; simp only [rl, rm, room_1] <;> omega) (pr_act h) (fun r h1 M => ?_)
  obtain ⟨e1, M⟩ := M
  refine V_aload_n (pc := 1456) d_L_law_1456 rfl ?_
  refine V_a5 (pc := 1457) (c := 1) d_L_law_1457 d_L_law_1458 d_L_law_1459 d_L_law_1460 d_L_law_1461 (by decide) (by have := hk.1; omega) ?_
  refine V_a5 (pc := 1462) (c := 2) d_L_law_1462 d_L_law_1463 d_L_law_1464 d_L_law_1465 d_L_law_1466 (by decide) (by have := hk.1; omega) ?_
  refine V_a5 (pc := 1467) (c := 3) d_L_law_1467 d_L_law_1468 d_L_law_1469 d_L_law_1470 d_L_law_1471 (by decide) (by have := hk.1; omega) ?_
  refine V_cvI2 (pc := 1472) (R' := rl 9) (c := 12) [_, _, _] d_L_law_1472 c_L_155 k_X12_act ⟨rfl, rfl⟩ (by rw [e1]; exact tt_139 b) rfl (Nat.le_of_ble_eq_true rfl) ⟨Nat.le_of_ble_eq_true rfl, Nat.le_of_ble_eq_true rfl⟩ (by have := hk.2; simp only [rl, rm, room_1] <;> omega) M (fun r' h2 hh => ?_)
  obtain ⟨e2, σ', e3, h'⟩ := hh
  subst e2 e3
  refine V_icmp_eq (pc := 1475) 1731 d_L_law_1475 (by decide) (fun _ => ?_) (fun e => absurd rfl e)
  exact V_wd (by simp only [rl, rm] <;> omega) (by simp only [rl, rm] <;> omega) (hX σ' b h')
theorem cs_34 (h : Rel σ b) (hk : OKi G gc gs i) (hX : NX G F N gc gs i) : V G (mLw N) room_1 F gc gs 1480 (Lw i) [] (σ, sh b) := by
  refine V_aload_n (pc := 1480) d_L_law_1480 rfl ?_
  refine V_a5 (pc := 1481) (c := 1) d_L_law_1481 d_L_law_1482 d_L_law_1483 d_L_law_1484 d_L_law_1485 (by decide) (by have := hk.1; omega) ?_
  refine V_cvI2 (pc := 1486) (R' := rl 2) (c := 11) [_] d_L_law_1486 c_L_156 k_X11_trace ⟨rfl, rfl⟩ (tt_3 b) rfl (Nat.le_of_ble_eq_true rfl) ⟨Nat.le_of_ble_eq_true rfl, Nat.le_of_ble_eq_true rfl⟩ (by have := hk.2; simp only [rl, rm, room_1] <;> omega) (pr_trace h) (fun r h1 M => ?_)
  obtain ⟨e1, M⟩ := M
  refine V_aload_n (pc := 1489) d_L_law_1489 rfl ?_
  refine V_a5 (pc := 1490) (c := 1) d_L_law_1490 d_L_law_1491 d_L_law_1492 d_L_law_1493 d_L_law_1494 (by decide) (by have := hk.1; omega) ?_
  refine V_cvI2 (pc := 1495) (R' := rl 2) (c := 12) [_] d_L_law_1495 c_L_159 k_X12_trace ⟨rfl, rfl⟩ (by rw [e1]; exact tt_139 b) rfl (Nat.le_of_ble_eq_true rfl) ⟨Nat.le_of_ble_eq_true rfl, Nat.le_of_ble_eq_true rfl⟩ (by have := hk.2; simp only [rl, rm, room_1] <;> omega) M (fun r' h2 hh => ?_)
  obtain ⟨e2, σ', e3, h'⟩ := hh
  subst e2 e3
  refine V_icmp_eq (pc := 1498) 1731 d_L_law_1498 (by decide) (fun _ => ?_) (fun e => absurd rfl e)
  exact V_wd (by simp only [rl, rm] <;> omega) (by simp only [rl, rm] <;> omega) (hX σ' b h')
theorem cs_35 (h : Rel σ b) (hk : OKi G gc gs i) (hX : NX G F N gc gs i) : V G (mLw N) room_1 F gc gs 1503 (Lw i) [] (σ, sh b) := by
  refine V_aload_n (pc := 1503) d_L_law_1503 rfl ?_
  refine V_a5 (pc := 1504) (c := 1) d_L_law_1504 d_L_law_1505 d_L_law_1506 d_L_law_1507 d_L_law_1508 (by decide) (by have := hk.1; omega) ?_
  refine V_a5 (pc := 1509) (c := 2) d_L_law_1509 d_L_law_1510 d_L_law_1511 d_L_law_1512 d_L_law_1513 (by decide) (by have := hk.1; omega) ?_
  refine V_a5 (pc := 1514) (c := 3) d_L_law_1514 d_L_law_1515 d_L_law_1516 d_L_law_1517 d_L_law_1518 (by decide) (by have := hk.1; omega) ?_
  refine V_cvI2 (pc := 1519) (R' := rl 3) (c := 11) [_, _, _] d_L_law_1519 c_L_160 k_X11_sheet ⟨rfl, rfl⟩ (tt_3 b) rfl (Nat.le_of_ble_eq_true rfl) ⟨Nat.le_of_ble_eq_true rfl, Nat.le_of_ble_eq_true rfl⟩ (by have := hk.2; simp only [rl, rm, room_1] <;> omega) (pr_sheet h) (fun r h1 M => ?_)
  obtain ⟨e1, M⟩ := M
  refine V_aload_n (pc := 1522) d_L_law_1522 rfl ?_
  refine V_a5 (pc := 1523) (c := 1) d_L_law_1523 d_L_law_1524 d_L_law_1525 d_L_law_1526 d_L_law_1527 (by decide) (by have := hk.1; omega) ?_
  refine V_a5 (pc := 1528) (c := 2) d_L_law_1528 d_L_law_1529 d_L_law_1530 d_L_law_1531 d_L_law_1532 (by decide) (by have := hk.1; omega) ?_
  refine V_a5 (pc := 1533) (c := 3) d_L_law_1533 d_L_law_1534 d_L_law_1535 d_L_law_1536 d_L_law_1537 (by decide) (by have := hk.1; omega) ?_
  refine V_cvI2 (pc := 1538) (R' := rl 2) (c := 12) [_, _, _] d_L_law_1538 c_L_163 k_X12_sheet ⟨rfl, rfl⟩ (by rw [e1]; exact tt_139 b) rfl (Nat.le_of_ble_eq_true rfl) ⟨Nat.le_of_ble_eq_true rfl, Nat.le_of_ble_eq_true rfl⟩ (by have := hk.2; simp only [rl, rm, room_1] <;> omega) M (fun r' h2 hh => ?_)
  obtain ⟨e2, σ', e3, h'⟩ := hh
  subst e2 e3
  refine V_icmp_eq (pc := 1541) 1731 d_L_law_1541 (by decide) (fun _ => ?_) (fun e => absurd rfl e)
  exact V_wd (by simp only [rl, rm] <;> omega) (by simp only [rl, rm] <;> omega) (hX σ' b h')
theorem cs_36 (h : Rel σ b) (hk : OKi G gc gs i) (hX : NX G F N gc gs i) : V G (mLw N) room_1 F gc gs 1546 (Lw i) [] (σ, sh b) := by
  refine V_aload_n (pc := 1546) d_L_law_1546 rfl ?_
  refine V_a5 (pc := 1547) (c := 1) d_L_law_1547 d_L_law_1548 d_L_law_1549 d_L_law_1550 d_L_law_1551 (by decide) (by have := hk.1; omega) ?_
  refine V_a5 (pc := 1552) (c := 2) d_L_law_1552 d_L_law_1553 d_L_law_1554 d_L_law_1555 d_L_law_1556 (by decide) (by have := hk.1; omega) ?_
  refine V_a5 (pc := 1557) (c := 3) d_L_law_1557 d_L_law_1558 d_L_law_1559 d_L_law_1560 d_L_law_1561 (by decide) (by have := hk.1; omega) ?_
  refine V_cvI2 (pc := 1562) (R' := rl 3) (c := 11) [_, _, _] d_L_law_1562 c_L_164 k_X11_cell ⟨rfl, rfl⟩ (tt_3 b) rfl (Nat.le_of_ble_eq_true rfl) ⟨Nat.le_of_ble_eq_true rfl, Nat.le_of_ble_eq_true rfl⟩ (by have := hk.2; simp only [rl, rm, room_1] <;> omega) (pr_cell h) (fun r h1 M => ?_)
  obtain ⟨e1, M⟩ := M
  refine V_aload_n (pc := 1565) d_L_law_1565 rfl ?_
  refine V_a5 (pc := 1566) (c := 1) d_L_law_1566 d_L_law_1567 d_L_law_1568 d_L_law_1569 d_L_law_1570 (by decide) (by have := hk.1; omega) ?_
  refine V_a5 (pc := 1571) (c := 2) d_L_law_1571 d_L_law_1572 d_L_law_1573 d_L_law_1574 d_L_law_1575 (by decide) (by have := hk.1; omega) ?_
  refine V_a5 (pc := 1576) (c := 3) d_L_law_1576 d_L_law_1577 d_L_law_1578 d_L_law_1579 d_L_law_1580 (by decide) (by have := hk.1; omega) ?_
  refine V_cvI2 (pc := 1581) (R' := rl 2) (c := 12) [_, _, _] d_L_law_1581 c_L_167 k_X12_cell ⟨rfl, rfl⟩ (by rw [e1]; exact tt_139 b) rfl (Nat.le_of_ble_eq_true rfl) ⟨Nat.le_of_ble_eq_true rfl, Nat.le_of_ble_eq_true rfl⟩ (by have := hk.2; simp only [rl, rm, room_1] <;> omega) M (fun r' h2 hh => ?_)
  obtain ⟨e2, σ', e3, h'⟩ := hh
  subst e2 e3
  refine V_icmp_eq (pc := 1584) 1731 d_L_law_1584 (by decide) (fun _ => ?_) (fun e => absurd rfl e)
  exact V_wd (by simp only [rl, rm] <;> omega) (by simp only [rl, rm] <;> omega) (hX σ' b h')
theorem cs_37 (h : Rel σ b) (hk : OKi G gc gs i) (hX : NX G F N gc gs i) : V G (mLw N) room_1 F gc gs 1589 (Lw i) [] (σ, sh b) := by
  refine V_aload_n (pc := 1589) d_L_law_1589 rfl ?_
  refine V_a5 (pc := 1590) (c := 1) d_L_law_1590 d_L_law_1591 d_L_law_1592 d_L_law_1593 d_L_law_1594 (by decide) (by have := hk.1; omega) ?_
  refine V_a5 (pc := 1595) (c := 2) d_L_law_1595 d_L_law_1596 d_L_law_1597 d_L_law_1598 d_L_law_1599 (by decide) (by have := hk.1; omega) ?_
  refine V_cvI2 (pc := 1600) (R' := rl 3) (c := 11) [_, _] d_L_law_1600 c_L_168 k_X11_none ⟨rfl, rfl⟩ (tt_3 b) rfl (Nat.le_of_ble_eq_true rfl) ⟨Nat.le_of_ble_eq_true rfl, Nat.le_of_ble_eq_true rfl⟩ (by have := hk.2; simp only [rl, rm, room_1] <;> omega) (pr_none h) (fun r h1 M => ?_)
  obtain ⟨e1, M⟩ := M
  refine V_aload_n (pc := 1603) d_L_law_1603 rfl ?_
  refine V_a5 (pc := 1604) (c := 1) d_L_law_1604 d_L_law_1605 d_L_law_1606 d_L_law_1607 d_L_law_1608 (by decide) (by have := hk.1; omega) ?_
  refine V_a5 (pc := 1609) (c := 2) d_L_law_1609 d_L_law_1610 d_L_law_1611 d_L_law_1612 d_L_law_1613 (by decide) (by have := hk.1; omega) ?_
  refine V_cvI2 (pc := 1614) (R' := rl 2) (c := 12) [_, _] d_L_law_1614 c_L_171 k_X12_none ⟨rfl, rfl⟩ (by rw [e1]; exact tt_139 b) rfl (Nat.le_of_ble_eq_true rfl) ⟨Nat.le_of_ble_eq_true rfl, Nat.le_of_ble_eq_true rfl⟩ (by have := hk.2; simp only [rl, rm, room_1] <;> omega) M (fun r' h2 hh => ?_)
  obtain ⟨e2, σ', e3, h'⟩ := hh
  subst e2 e3
  refine V_icmp_eq (pc := 1617) 1731 d_L_law_1617 (by decide) (fun _ => ?_) (fun e => absurd rfl e)
  exact V_wd (by simp only [rl, rm] <;> omega) (by simp only [rl, rm] <;> omega) (hX σ' b h')
theorem cs_38 (h : Rel σ b) (hk : OKi G gc gs i) (hX : NX G F N gc gs i) : V G (mLw N) room_1 F gc gs 1622 (Lw i) [] (σ, sh b) := by
  refine V_aload_n (pc := 1622) d_L_law_1622 rfl ?_
  refine V_a5 (pc := 1623) (c := 1) d_L_law_1623 d_L_law_1624 d_L_law_1625 d_L_law_1626 d_L_law_1627 (by decide) (by have := hk.1; omega) ?_
  refine V_a5 (pc := 1628) (c := 2) d_L_law_1628 d_L_law_1629 d_L_law_1630 d_L_law_1631 d_L_law_1632 (by decide) (by have := hk.1; omega) ?_
  refine V_a5 (pc := 1633) (c := 3) d_L_law_1633 d_L_law_1634 d_L_law_1635 d_L_law_1636 d_L_law_1637 (by decide) (by have := hk.1; omega) ?_
  refine V_a5 (pc := 1638) (c := 4) d_L_law_1638 d_L_law_1639 d_L_law_1640 d_L_law_1641 d_L_law_1642 (by decide) (by have := hk.1; omega) ?_
  refine V_cvI2 (pc := 1643) (R' := rl 3) (c := 11) [_, _, _, _] d_L_law_1643 c_L_172 k_X11_gauges ⟨rfl, rfl⟩ (tt_3 b) rfl (Nat.le_of_ble_eq_true rfl) ⟨Nat.le_of_ble_eq_true rfl, Nat.le_of_ble_eq_true rfl⟩ (by have := hk.2; simp only [rl, rm, room_1] <;> omega) (pr_gauges h) (fun r h1 M => ?_)
  obtain ⟨e1, M⟩ := M
  refine V_aload_n (pc := 1646) d_L_law_1646 rfl ?_
  refine V_a5 (pc := 1647) (c := 1) d_L_law_1647 d_L_law_1648 d_L_law_1649 d_L_law_1650 d_L_law_1651 (by decide) (by have := hk.1; omega) ?_
  refine V_a5 (pc := 1652) (c := 2) d_L_law_1652 d_L_law_1653 d_L_law_1654 d_L_law_1655 d_L_law_1656 (by decide) (by have := hk.1; omega) ?_
  refine V_a5 (pc := 1657) (c := 3) d_L_law_1657 d_L_law_1658 d_L_law_1659 d_L_law_1660 d_L_law_1661 (by decide) (by have := hk.1; omega) ?_
  refine V_a5 (pc := 1662) (c := 4) d_L_law_1662 d_L_law_1663 d_L_law_1664 d_L_law_1665 d_L_law_1666 (by decide) (by have := hk.1; omega) ?_
  refine V_cvI2 (pc := 1667) (R' := rl 3) (c := 12) [_, _, _, _] d_L_law_1667 c_L_175 k_X12_gauges ⟨rfl, rfl⟩ (by rw [e1]; exact tt_139 b) rfl (Nat.le_of_ble_eq_true rfl) ⟨Nat.le_of_ble_eq_true rfl, Nat.le_of_ble_eq_true rfl⟩ (by have := hk.2; simp only [rl, rm, room_1] <;> omega) M (fun r' h2 hh => ?_)
  obtain ⟨e2, σ', e3, h'⟩ := hh
  subst e2 e3
  refine V_icmp_eq (pc := 1670) 1731 d_L_law_1670 (by decide) (fun _ => ?_) (fun e => absurd rfl e)
  exact V_wd (by simp only [rl, rm] <;> omega) (by simp only [rl, rm] <;> omega) (hX σ' b h')
theorem cs_39 (h : Rel σ b) (hk : OKi G gc gs i) (hX : NX G F N gc gs i) : V G (mLw N) room_1 F gc gs 1675 (Lw i) [] (σ, sh b) := by
  refine V_aload_n (pc := 1675) d_L_law_1675 rfl ?_
  refine V_a5 (pc := 1676) (c := 1) d_L_law_1676 d_L_law_1677 d_L_law_1678 d_L_law_1679 d_L_law_1680 (by decide) (by have := hk.1; omega) ?_
  refine V_a5 (pc := 1681) (c := 2) d_L_law_1681 d_L_law_1682 d_L_law_1683 d_L_law_1684 d_L_law_1685 (by decide) (by have := hk.1; omega) ?_
  refine V_a5 (pc := 1686) (c := 3) d_L_law_1686 d_L_law_1687 d_L_law_1688 d_L_law_1689 d_L_law_1690 (by decide) (by have := hk.1; omega) ?_
  refine V_cvI2 (pc := 1691) (R' := rl 4) (c := 11) [_, _, _] d_L_law_1691 c_L_176 k_X11_forge ⟨rfl, rfl⟩ (tt_3 b) rfl (Nat.le_of_ble_eq_true rfl) ⟨Nat.le_of_ble_eq_true rfl, Nat.le_of_ble_eq_true rfl⟩ (by have := hk.2; simp only [rl, rm, room_1] <;> omega) (pr_forge h) (fun r h1 M => ?_)
  obtain ⟨e1, M⟩ := M
  refine V_aload_n (pc := 1694) d_L_law_1694 rfl ?_
  refine V_a5 (pc := 1695) (c := 1) d_L_law_1695 d_L_law_1696 d_L_law_1697 d_L_law_1698 d_L_law_1699 (by decide) (by have := hk.1; omega) ?_
  refine V_a5 (pc := 1700) (c := 2) d_L_law_1700 d_L_law_1701 d_L_law_1702 d_L_law_1703 d_L_law_1704 (by decide) (by have := hk.1; omega) ?_
  refine V_a5 (pc := 1705) (c := 3) d_L_law_1705 d_L_law_1706 d_L_law_1707 d_L_law_1708 d_L_law_1709 (by decide) (by have := hk.1; omega) ?_
  refine V_cvI2 (pc := 1710) (R' := rl 3) (c := 12) [_, _, _] d_L_law_1710 c_L_179 k_X12_forge ⟨rfl, rfl⟩ (by rw [e1]; exact tt_139 b) rfl (Nat.le_of_ble_eq_true rfl) ⟨Nat.le_of_ble_eq_true rfl, Nat.le_of_ble_eq_true rfl⟩ (by have := hk.2; simp only [rl, rm, room_1] <;> omega) M (fun r' h2 hh => ?_)
  obtain ⟨e2, σ', e3, h'⟩ := hh
  subst e2 e3
  refine V_icmp_eq (pc := 1713) 1731 d_L_law_1713 (by decide) (fun _ => ?_) (fun e => absurd rfl e)
  exact V_wd (by simp only [rl, rm] <;> omega) (by simp only [rl, rm] <;> omega) (hX σ' b h')
theorem cs_40 (h : Rel σ b) (hk : OKi G gc gs i) (hX : NX G F N gc gs i) : V G (mLw N) room_1 F gc gs 1718 (Lw i) [] (σ, sh b) := by
  refine V_aload_n (pc := 1718) d_L_law_1718 rfl ?_
  refine V_cvI2 (pc := 1719) (R' := rl 1) (c := 11) [] d_L_law_1719 c_L_180 k_X11_status ⟨rfl, rfl⟩ (tt_3 b) rfl (Nat.le_of_ble_eq_true rfl) ⟨Nat.le_of_ble_eq_true rfl, Nat.le_of_ble_eq_true rfl⟩ (by have := hk.2; simp only [rl, rm, room_1] <;> omega) (pr_status h) (fun r h1 M => ?_)
  obtain ⟨e1, M⟩ := M
  refine V_aload_n (pc := 1722) d_L_law_1722 rfl ?_
  refine V_cvI2 (pc := 1723) (R' := rl 1) (c := 12) [] d_L_law_1723 c_L_183 k_X12_status ⟨rfl, rfl⟩ (by rw [e1]; exact tt_139 b) rfl (Nat.le_of_ble_eq_true rfl) ⟨Nat.le_of_ble_eq_true rfl, Nat.le_of_ble_eq_true rfl⟩ (by have := hk.2; simp only [rl, rm, room_1] <;> omega) M (fun r' h2 hh => ?_)
  obtain ⟨e2, σ', e3, h'⟩ := hh
  subst e2 e3
  refine V_icmp_eq (pc := 1726) 1731 d_L_law_1726 (by decide) (fun _ => ?_) (fun e => absurd rfl e)
  exact V_wd (by simp only [rl, rm] <;> omega) (by simp only [rl, rm] <;> omega) (hX σ' b h')
theorem law_sw {x : Int32} (h : Rel σ b) (hk : OKi G gc gs i) (hX : NX G F N gc gs i) : V G (mLw N) room_1 F gc gs 33 (Lw i) [.int x] (σ, sh b) := by
  by_cases hw : 0 ≤ x.toInt ∧ x.toInt ≤ 40
  · obtain ⟨j, hj, e, -⟩ := nat_of (n := 41) hw.1 (by omega) (by omega)
    clear hw
    subst e
    rcases Nat.lt_or_eq_of_le (Nat.le_of_lt_succ hj) with hj | e
    rotate_left
    · exact V_tableIn (pc := 33) 1718 d_L_law_33 (by rw [e]; decide) (by rw [e]; decide) (by rw [e]; rfl) (by decide) (cs_40 h hk hX)
    rcases Nat.lt_or_eq_of_le (Nat.le_of_lt_succ hj) with hj | e
    rotate_left
    · exact V_tableIn (pc := 33) 1675 d_L_law_33 (by rw [e]; decide) (by rw [e]; decide) (by rw [e]; rfl) (by decide) (cs_39 h hk hX)
    rcases Nat.lt_or_eq_of_le (Nat.le_of_lt_succ hj) with hj | e
    rotate_left
    · exact V_tableIn (pc := 33) 1622 d_L_law_33 (by rw [e]; decide) (by rw [e]; decide) (by rw [e]; rfl) (by decide) (cs_38 h hk hX)
    rcases Nat.lt_or_eq_of_le (Nat.le_of_lt_succ hj) with hj | e
    rotate_left
    · exact V_tableIn (pc := 33) 1589 d_L_law_33 (by rw [e]; decide) (by rw [e]; decide) (by rw [e]; rfl) (by decide) (cs_37 h hk hX)
    rcases Nat.lt_or_eq_of_le (Nat.le_of_lt_succ hj) with hj | e
    rotate_left
    · exact V_tableIn (pc := 33) 1546 d_L_law_33 (by rw [e]; decide) (by rw [e]; decide) (by rw [e]; rfl) (by decide) (cs_36 h hk hX)
    rcases Nat.lt_or_eq_of_le (Nat.le_of_lt_succ hj) with hj | e
    rotate_left
    · exact V_tableIn (pc := 33) 1503 d_L_law_33 (by rw [e]; decide) (by rw [e]; decide) (by rw [e]; rfl) (by decide) (cs_35 h hk hX)
    rcases Nat.lt_or_eq_of_le (Nat.le_of_lt_succ hj) with hj | e
    rotate_left
    · exact V_tableIn (pc := 33) 1480 d_L_law_33 (by rw [e]; decide) (by rw [e]; decide) (by rw [e]; rfl) (by decide) (cs_34 h hk hX)
    rcases Nat.lt_or_eq_of_le (Nat.le_of_lt_succ hj) with hj | e
    rotate_left
    · exact V_tableIn (pc := 33) 1437 d_L_law_33 (by rw [e]; decide) (by rw [e]; decide) (by rw [e]; rfl) (by decide) (cs_33 h hk hX)
    rcases Nat.lt_or_eq_of_le (Nat.le_of_lt_succ hj) with hj | e
    rotate_left
    · exact V_tableIn (pc := 33) 1414 d_L_law_33 (by rw [e]; decide) (by rw [e]; decide) (by rw [e]; rfl) (by decide) (cs_32 h hk hX)
    rcases Nat.lt_or_eq_of_le (Nat.le_of_lt_succ hj) with hj | e
    rotate_left
    · exact V_tableIn (pc := 33) 1319 d_L_law_33 (by rw [e]; decide) (by rw [e]; decide) (by rw [e]; rfl) (by decide) (cs_31 h hk hX)
    rcases Nat.lt_or_eq_of_le (Nat.le_of_lt_succ hj) with hj | e
    rotate_left
    · exact V_tableIn (pc := 33) 1306 d_L_law_33 (by rw [e]; decide) (by rw [e]; decide) (by rw [e]; rfl) (by decide) (cs_30 h hk hX)
    rcases Nat.lt_or_eq_of_le (Nat.le_of_lt_succ hj) with hj | e
    rotate_left
    · exact V_tableIn (pc := 33) 1253 d_L_law_33 (by rw [e]; decide) (by rw [e]; decide) (by rw [e]; rfl) (by decide) (cs_29 h hk hX)
    rcases Nat.lt_or_eq_of_le (Nat.le_of_lt_succ hj) with hj | e
    rotate_left
    · exact V_tableIn (pc := 33) 1210 d_L_law_33 (by rw [e]; decide) (by rw [e]; decide) (by rw [e]; rfl) (by decide) (cs_28 h hk hX)
    rcases Nat.lt_or_eq_of_le (Nat.le_of_lt_succ hj) with hj | e
    rotate_left
    · exact V_tableIn (pc := 33) 1177 d_L_law_33 (by rw [e]; decide) (by rw [e]; decide) (by rw [e]; rfl) (by decide) (cs_27 h hk hX)
    rcases Nat.lt_or_eq_of_le (Nat.le_of_lt_succ hj) with hj | e
    rotate_left
    · exact V_tableIn (pc := 33) 1134 d_L_law_33 (by rw [e]; decide) (by rw [e]; decide) (by rw [e]; rfl) (by decide) (cs_26 h hk hX)
    rcases Nat.lt_or_eq_of_le (Nat.le_of_lt_succ hj) with hj | e
    rotate_left
    · exact V_tableIn (pc := 33) 1091 d_L_law_33 (by rw [e]; decide) (by rw [e]; decide) (by rw [e]; rfl) (by decide) (cs_25 h hk hX)
    rcases Nat.lt_or_eq_of_le (Nat.le_of_lt_succ hj) with hj | e
    rotate_left
    · exact V_tableIn (pc := 33) 1042 d_L_law_33 (by rw [e]; decide) (by rw [e]; decide) (by rw [e]; rfl) (by decide) (cs_24 h hk hX)
    rcases Nat.lt_or_eq_of_le (Nat.le_of_lt_succ hj) with hj | e
    rotate_left
    · exact V_tableIn (pc := 33) 1009 d_L_law_33 (by rw [e]; decide) (by rw [e]; decide) (by rw [e]; rfl) (by decide) (cs_23 h hk hX)
    rcases Nat.lt_or_eq_of_le (Nat.le_of_lt_succ hj) with hj | e
    rotate_left
    · exact V_tableIn (pc := 33) 976 d_L_law_33 (by rw [e]; decide) (by rw [e]; decide) (by rw [e]; rfl) (by decide) (cs_22 h hk hX)
    rcases Nat.lt_or_eq_of_le (Nat.le_of_lt_succ hj) with hj | e
    rotate_left
    · exact V_tableIn (pc := 33) 943 d_L_law_33 (by rw [e]; decide) (by rw [e]; decide) (by rw [e]; rfl) (by decide) (cs_21 h hk hX)
    rcases Nat.lt_or_eq_of_le (Nat.le_of_lt_succ hj) with hj | e
    rotate_left
    · exact V_tableIn (pc := 33) 910 d_L_law_33 (by rw [e]; decide) (by rw [e]; decide) (by rw [e]; rfl) (by decide) (cs_20 h hk hX)
    rcases Nat.lt_or_eq_of_le (Nat.le_of_lt_succ hj) with hj | e
    rotate_left
    · exact V_tableIn (pc := 33) 887 d_L_law_33 (by rw [e]; decide) (by rw [e]; decide) (by rw [e]; rfl) (by decide) (cs_19 h hk hX)
    rcases Nat.lt_or_eq_of_le (Nat.le_of_lt_succ hj) with hj | e
    rotate_left
    · exact V_tableIn (pc := 33) 874 d_L_law_33 (by rw [e]; decide) (by rw [e]; decide) (by rw [e]; rfl) (by decide) (cs_18 h hk hX)
    rcases Nat.lt_or_eq_of_le (Nat.le_of_lt_succ hj) with hj | e
    rotate_left
    · exact V_tableIn (pc := 33) 861 d_L_law_33 (by rw [e]; decide) (by rw [e]; decide) (by rw [e]; rfl) (by decide) (cs_17 h hk hX)
    rcases Nat.lt_or_eq_of_le (Nat.le_of_lt_succ hj) with hj | e
    rotate_left
    · exact V_tableIn (pc := 33) 818 d_L_law_33 (by rw [e]; decide) (by rw [e]; decide) (by rw [e]; rfl) (by decide) (cs_16 h hk hX)
    rcases Nat.lt_or_eq_of_le (Nat.le_of_lt_succ hj) with hj | e
    rotate_left
    · exact V_tableIn (pc := 33) 775 d_L_law_33 (by rw [e]; decide) (by rw [e]; decide) (by rw [e]; rfl) (by decide) (cs_15 h hk hX)
    rcases Nat.lt_or_eq_of_le (Nat.le_of_lt_succ hj) with hj | e
    rotate_left
    · exact V_tableIn (pc := 33) 742 d_L_law_33 (by rw [e]; decide) (by rw [e]; decide) (by rw [e]; rfl) (by decide) (cs_14 h hk hX)
    rcases Nat.lt_or_eq_of_le (Nat.le_of_lt_succ hj) with hj | e
    rotate_left
    · exact V_tableIn (pc := 33) 709 d_L_law_33 (by rw [e]; decide) (by rw [e]; decide) (by rw [e]; rfl) (by decide) (cs_13 h hk hX)
    rcases Nat.lt_or_eq_of_le (Nat.le_of_lt_succ hj) with hj | e
    rotate_left
    · exact V_tableIn (pc := 33) 686 d_L_law_33 (by rw [e]; decide) (by rw [e]; decide) (by rw [e]; rfl) (by decide) (cs_12 h hk hX)
    rcases Nat.lt_or_eq_of_le (Nat.le_of_lt_succ hj) with hj | e
    rotate_left
    · exact V_tableIn (pc := 33) 663 d_L_law_33 (by rw [e]; decide) (by rw [e]; decide) (by rw [e]; rfl) (by decide) (cs_11 h hk hX)
    rcases Nat.lt_or_eq_of_le (Nat.le_of_lt_succ hj) with hj | e
    rotate_left
    · exact V_tableIn (pc := 33) 614 d_L_law_33 (by rw [e]; decide) (by rw [e]; decide) (by rw [e]; rfl) (by decide) (cs_10 h hk hX)
    rcases Nat.lt_or_eq_of_le (Nat.le_of_lt_succ hj) with hj | e
    rotate_left
    · exact V_tableIn (pc := 33) 591 d_L_law_33 (by rw [e]; decide) (by rw [e]; decide) (by rw [e]; rfl) (by decide) (cs_9 h hk hX)
    rcases Nat.lt_or_eq_of_le (Nat.le_of_lt_succ hj) with hj | e
    rotate_left
    · exact V_tableIn (pc := 33) 568 d_L_law_33 (by rw [e]; decide) (by rw [e]; decide) (by rw [e]; rfl) (by decide) (cs_8 h hk hX)
    rcases Nat.lt_or_eq_of_le (Nat.le_of_lt_succ hj) with hj | e
    rotate_left
    · exact V_tableIn (pc := 33) 535 d_L_law_33 (by rw [e]; decide) (by rw [e]; decide) (by rw [e]; rfl) (by decide) (cs_7 h hk hX)
    rcases Nat.lt_or_eq_of_le (Nat.le_of_lt_succ hj) with hj | e
    rotate_left
    · exact V_tableIn (pc := 33) 482 d_L_law_33 (by rw [e]; decide) (by rw [e]; decide) (by rw [e]; rfl) (by decide) (cs_6 h hk hX)
    rcases Nat.lt_or_eq_of_le (Nat.le_of_lt_succ hj) with hj | e
    rotate_left
    · exact V_tableIn (pc := 33) 429 d_L_law_33 (by rw [e]; decide) (by rw [e]; decide) (by rw [e]; rfl) (by decide) (cs_5 h hk hX)
    rcases Nat.lt_or_eq_of_le (Nat.le_of_lt_succ hj) with hj | e
    rotate_left
    · exact V_tableIn (pc := 33) 380 d_L_law_33 (by rw [e]; decide) (by rw [e]; decide) (by rw [e]; rfl) (by decide) (cs_4 h hk hX)
    rcases Nat.lt_or_eq_of_le (Nat.le_of_lt_succ hj) with hj | e
    rotate_left
    · exact V_tableIn (pc := 33) 331 d_L_law_33 (by rw [e]; decide) (by rw [e]; decide) (by rw [e]; rfl) (by decide) (cs_3 h hk hX)
    rcases Nat.lt_or_eq_of_le (Nat.le_of_lt_succ hj) with hj | e
    rotate_left
    · exact V_tableIn (pc := 33) 288 d_L_law_33 (by rw [e]; decide) (by rw [e]; decide) (by rw [e]; rfl) (by decide) (cs_2 h hk hX)
    rcases Nat.lt_or_eq_of_le (Nat.le_of_lt_succ hj) with hj | e
    rotate_left
    · exact V_tableIn (pc := 33) 255 d_L_law_33 (by rw [e]; decide) (by rw [e]; decide) (by rw [e]; rfl) (by decide) (cs_1 h hk hX)
    rcases Nat.lt_or_eq_of_le (Nat.le_of_lt_succ hj) with hj | e
    rotate_left
    · exact V_tableIn (pc := 33) 212 d_L_law_33 (by rw [e]; decide) (by rw [e]; decide) (by rw [e]; rfl) (by decide) (cs_0 h hk hX)
    exact absurd hj (Nat.not_lt_zero _)
  · refine V_tableOut (pc := 33) 1731 d_L_law_33 (by omega) (by decide) ?_
    exact V_wd (Nat.le_add_right _ _) (Nat.le_add_right _ _) (hX σ b h)
end LC
section LL
variable {G : Gl} {F : Fn} {N : String}
/-- one round of the loop, and its end -/
theorem law_head {gc gs i : Nat} {h : Hp} (hL : G.2.2.2.2.2.1 ≤ 3072) (hi : i ≤ 3078) (hE : V G (mLw N) room_1 F gc gs 1737 (Lw i) [] h) (hB : i + 6 ≤ G.2.2.2.2.2.1 → V G (mLw N) room_1 F gc gs 27 (Lw i) [] h) : V G (mLw N) room_1 F gc gs 18 (Lw i) [] h := by
  refine V_iload_n (pc := 18) d_L_law_18 rfl ?_
  refine V_aload_n (pc := 19) d_L_law_19 rfl ?_
  refine V_slen (pc := 20) d_L_law_20 ?_
  refine V_bipush (pc := 21) (nI 6) d_L_law_21 (by decide) ?_
  refine V_isub (pc := 23) d_L_law_23 ?_
  have e6 : (nI G.2.2.2.2.2.1 - nI 6).toInt = (G.2.2.2.2.2.1 : Int) - (6 : Nat) := pk_sub_toInt (by omega) (by omega)
  have ei : (nI i).toInt = (i : Int) := nI_toInt (by omega)
  refine B_icmp_gt (pc := 24) 1737 d_L_law_24 (by decide) (fun c => hE) (fun c => hB ?_)
  rw [e6, ei] at c
  omega
theorem law_loop (hL : G.2.2.2.2.2.1 ≤ 3072) (hE : ∀ (k : Nat) (h : Hp), k ≤ 513 → V G (mLw N) room_1 F (189 + 119 * k) (11406 + 1862 * k) 1737 (Lw (6 * k)) [] h) : ∀ n k : Nat, k + n = 513 → ∀ (σ : Sg) (b : Bool), Rel σ b → V G (mLw N) room_1 F (189 + 119 * k) (11406 + 1862 * k) 18 (Lw (6 * k)) [] (σ, sh b) := by
  intro n
  induction n with
  | zero =>
    intro k hk σ b h
    refine law_head hL (by omega) (hE k _ (by omega)) (fun c => ?_)
    omega
  | succ n ih =>
    intro k hk σ b h
    refine law_head hL (by omega) (hE k _ (by omega)) (fun c => ?_)
    refine V_aload_n (pc := 27) d_L_law_27 rfl ?_
    refine V_iload_n (pc := 28) d_L_law_28 rfl ?_
    refine V_sld (pc := 29) (6 * k) d_L_law_29 rfl (by omega) ?_
    refine V_bipush (pc := 30) (nI 63) d_L_law_30 (by decide) ?_
    refine V_iand (pc := 32) d_L_law_32 ?_
    refine law_sw (gc := 189 + 119 * k) (gs := 11406 + 1862 * k) (i := 6 * k) h ⟨⟨c, by omega⟩, by omega, by omega⟩ (fun σ' b' h' => ?_)
    refine V_iinc (pc := 1731) d_L_law_1731 rfl (by show _ < 4; decide) ?_
    refine V_goto (pc := 1734) 18 d_L_law_1734 (by decide) ?_
    have e : nI (6 * k) + Int32.ofInt 6 = nI (6 * (k + 1)) := by rw [show Int32.ofInt 6 = nI 6 from by decide, nI_add, Nat.mul_succ]
    have K := ih (k + 1) (by omega) σ' b' h'
    rw [show 189 + 119 * (k + 1) = 189 + 119 * k + 119 by omega, show 11406 + 1862 * (k + 1) = 11406 + 1862 * k + 1862 by omega] at K
    show V G (mLw N) room_1 F _ _ 18 [some (.ref 2), some (.ref 3), some (.ref 139), some (.int (nI (6 * k) + Int32.ofInt 6))] [] _
    rw [e]
    exact K
theorem law_all (hL : G.2.2.2.2.2.1 ≤ 3072) (hE : ∀ (k : Nat) (h : Hp), k ≤ 513 → V G (mLw N) room_1 F (189 + 119 * k) (11406 + 1862 * k) 1737 (Lw (6 * k)) [] h) : V G (mLw N) room_1 F 0 0 0 [some (.ref 2), none, none, none] [] (s0, stg 3 []) := by
  refine S_newC0 (pc := 0) (c := 11) 4 d_L_law_0 rfl g_L_7 n_X11 z_X11 (by constructor <;> simp only [room_1] <;> omega) (by decide +kernel : TF 3 = 12) (by decide +kernel : LF 3 = 0) rfl (s0_z (by omega) (by omega) (by omega) (by omega)) ?_
  refine V_dup (pc := 3) d_L_law_3 rfl ?_
  refine V_ciV (pc := 4) d_L_law_4 c_L_9 k_X11_init ⟨rfl, rfl⟩ (Nat.le_of_ble_eq_true rfl) ⟨Nat.le_of_ble_eq_true rfl, Nat.le_of_ble_eq_true rfl⟩ (by constructor <;> simp only [rm, room_1] <;> omega) (ct_X11_init ?_)
  refine V_astore_n (pc := 7) d_L_law_7 (by show _ < 4; decide) ?_
  refine S_newC0 (pc := 8) (c := 12) 140 d_L_law_8 rfl g_L_10 n_X12 z_X12 (by constructor <;> simp only [rm, room_1] <;> omega) (by decide +kernel : TF 139 = 13) (by decide +kernel : LF 139 = 0) rfl (s0_z (by omega) (by omega) (by omega) (by omega)) ?_
  refine V_dup (pc := 11) d_L_law_11 rfl ?_
  refine V_ciV (pc := 12) d_L_law_12 c_L_12 k_X12_init ⟨rfl, rfl⟩ (Nat.le_of_ble_eq_true rfl) ⟨Nat.le_of_ble_eq_true rfl, Nat.le_of_ble_eq_true rfl⟩ (by constructor <;> simp only [rm, room_1] <;> omega) (ct_X12_init ?_)
  rw [stg_first]
  refine V_astore_n (pc := 15) d_L_law_15 (by show _ < 4; decide) ?_
  refine V_iconst (pc := 16) (nI (6 * 0)) d_L_law_16 (by decide) ?_
  refine V_istore_n (pc := 17) d_L_law_17 (by show _ < 4; decide) ?_
  exact V_wd (by simp only [rm] <;> omega) (by simp only [rm] <;> omega) (law_loop hL hE 513 0 rfl s0 false rel_0)
end LL
