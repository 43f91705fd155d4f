theorem Mo.fo {σ : ST} {μ μ2 : Hp} (h : Mo σ μ) (hf : Fo μ2 μ) : Mo σ μ2 := by
  obtain ⟨co, wh, un, lr, mr, hr, at9, fa, op, sg, hm, p, t, ro, og, tc, op9, sp, nw, se, le, mo, ot, h60, h61, h62, h63, h64, h65, h66, h67, h68, h69, h70, h71, h72, h73, h74, h75, h76, h77, h78, h79, h80, hmk, hr1⟩ := h
  exact ⟨co, wh, un, lr, mr, hr, at9, fa, op, sg, hm, p, t, ro, og, tc, op9, sp, nw, se, le, mo, ot, (hf _ (by decide)).trans h60, (hf _ (by decide)).trans h61, (hf _ (by decide)).trans h62, (hf _ (by decide)).trans h63, (hf _ (by decide)).trans h64, (hf _ (by decide)).trans h65, (hf _ (by decide)).trans h66, (hf _ (by decide)).trans h67, (hf _ (by decide)).trans h68, (hf _ (by decide)).trans h69, (hf _ (by decide)).trans h70, (hf _ (by decide)).trans h71, (hf _ (by decide)).trans h72, (hf _ (by decide)).trans h73, (hf _ (by decide)).trans h74, (hf _ (by decide)).trans h75, (hf _ (by decide)).trans h76, (hf _ (by decide)).trans h77, (hf _ (by decide)).trans h78, (hf _ (by decide)).trans h79, (hf _ (by decide)).trans h80, hmk.kept (fun i a b => hf i (by omega)), hr1⟩
theorem Cl.fp {σ : ST} {μ μ2 : Hp} (h : Cl σ μ) (hf : Fp μ2 μ) : Cl σ μ2 := by
  obtain ⟨h0, g1, g2, g3, g4, g5, g6, g7, g8⟩ := h
  exact ⟨(hf _ (by omega)).trans h0, g1.kept (fun i a b => hf i (by omega)), g2.kept (fun i a b => hf i (by omega)), g3.kept (fun i a b => hf i (by omega)), g4.kept (fun i a b => hf i (by omega)), g5.kept (fun i a b => hf i (by omega)), g6.kept (fun i a b => hf i (by omega)), g7.kept (fun i a b => hf i (by omega)), g8.kept (fun i a b => hf i (by omega))⟩
theorem Mo.c60 {σ : ST} {μ : Hp} (h : Mo σ μ) : ∃ fs, μ 60 = some (.inr (8, fs)) := by
  obtain ⟨co, wh, un, lr, mr, hr, at9, fa, op, sg, hm, p, t, ro, og, tc, op9, sp, nw, se, le, mo, ot, h60, -⟩ := h
  exact ⟨_, h60⟩
theorem ix_in {a b N : Nat} (h : a + b < N) (hN : N < 2 ^ 31) : vp_in (nI a + nI b) N := by
  rw [nI_add]
  exact nI_in' h hN
/-- the law's locals at its n-th call -/
abbrev lawL (n : Nat) : List (Nat × Value) := [(3, .int (nI (5 * n))), (2, .ref 60), (1, .ref 0), (0, .ref 1000)]
/-- what the law's rest needs: both hold the same state -/
def Nx (G : Cx) (P : Option Value → Hp → Prop) (n k : Nat) : Prop := ∀ (σ : ST) (μ : Hp), Cl σ μ → Mo σ μ → Ws (n + 1) σ → V G M_L_law 17 (41 * k) (2870 * k) P 1753 (lawL n) [] μ

set_option maxRecDepth 20000 in
set_option maxHeartbeats 4000000 in
theorem law_lamp {G : Cx} {P : Option Value → Hp → Prop} {n k : Nat} {σ : ST} {μ : Hp} (hL : 5 * n + 5 ≤ cL G) (hL2 : cL G ≤ 2560) (hn : n < 8192) (h : Cl σ μ) (h9 : Mo σ μ) (hs : Ws n σ) (nx : Nx G P n k) : V G M_L_law 17 (41 * k + 41) (2870 * k + 2870) P 244 (lawL n) [] μ := by
  refine v_aload_n 2 dL_law_244 rfl rfl ?_
  refine v_aload_n 3 dL_law_245 rfl rfl ?_
  refine v_iload_n 0 dL_law_246 rfl rfl ?_
  refine v_iconst (v := 1) dL_law_247 (by first | rfl | decide) ?_
  refine v_iadd dL_law_248 ?_
  refine v_roi (ro_script G) dL_law_249 (ix_in (a := 5 * n) (b := 1) (by omega) (by omega)) (by omega) ?_
  refine v_aload_n 3 dL_law_250 rfl rfl ?_
  refine v_iload_n 0 dL_law_251 rfl rfl ?_
  refine v_iconst (v := 2) dL_law_252 (by first | rfl | decide) ?_
  refine v_iadd dL_law_253 ?_
  refine v_roi (ro_script G) dL_law_254 (ix_in (a := 5 * n) (b := 2) (by omega) (by omega)) (by omega) ?_
  refine v_aload_n 3 dL_law_255 rfl rfl ?_
  refine v_iload_n 0 dL_law_256 rfl rfl ?_
  refine v_iconst (v := 3) dL_law_257 (by first | rfl | decide) ?_
  refine v_iadd dL_law_258 ?_
  refine v_roi (ro_script G) dL_law_259 (ix_in (a := 5 * n) (b := 3) (by omega) (by omega)) (by omega) ?_
  refine v_aload_n 3 dL_law_260 rfl rfl ?_
  refine v_iload_n 0 dL_law_261 rfl rfl ?_
  refine v_iconst (v := 4) dL_law_262 (by first | rfl | decide) ?_
  refine v_iadd dL_law_263 ?_
  refine v_roi (ro_script G) dL_law_264 (ix_in (a := 5 * n) (b := 4) (by omega) (by omega)) (by omega) ?_
  refine v_callV (mc := 41 * k + 41) (ms := 2870 * k + 2870) (c_X6_lamp 14 h hs.1.1.1) cs_L_13 dL_law_265 h.1 rfl rfl (Nat.le_of_ble_eq_true rfl) ?_
  rintro _ m1 ⟨rfl, h1, f1⟩
  have h9b := h9.fo f1
  obtain ⟨fs9, h60⟩ := h9b.c60
  refine v_aload_n 1 dL_law_268 rfl rfl ?_
  refine v_aload_n 3 dL_law_269 rfl rfl ?_
  refine v_iload_n 0 dL_law_270 rfl rfl ?_
  refine v_iconst (v := 1) dL_law_271 (by first | rfl | decide) ?_
  refine v_iadd dL_law_272 ?_
  refine v_roi (ro_script G) dL_law_273 (ix_in (a := 5 * n) (b := 1) (by omega) (by omega)) (by omega) ?_
  refine v_aload_n 3 dL_law_274 rfl rfl ?_
  refine v_iload_n 0 dL_law_275 rfl rfl ?_
  refine v_iconst (v := 2) dL_law_276 (by first | rfl | decide) ?_
  refine v_iadd dL_law_277 ?_
  refine v_roi (ro_script G) dL_law_278 (ix_in (a := 5 * n) (b := 2) (by omega) (by omega)) (by omega) ?_
  refine v_aload_n 3 dL_law_279 rfl rfl ?_
  refine v_iload_n 0 dL_law_280 rfl rfl ?_
  refine v_iconst (v := 3) dL_law_281 (by first | rfl | decide) ?_
  refine v_iadd dL_law_282 ?_
  refine v_roi (ro_script G) dL_law_283 (ix_in (a := 5 * n) (b := 3) (by omega) (by omega)) (by omega) ?_
  refine v_aload_n 3 dL_law_284 rfl rfl ?_
  refine v_iload_n 0 dL_law_285 rfl rfl ?_
  refine v_iconst (v := 4) dL_law_286 (by first | rfl | decide) ?_
  refine v_iadd dL_law_287 ?_
  refine v_roi (ro_script G) dL_law_288 (ix_in (a := 5 * n) (b := 4) (by omega) (by omega)) (by omega) ?_
  refine v_callV (mc := 41 * k + 41) (ms := 2870 * k + 2870) (c_X7_lamp 14 h9b hs.1.1.1 (ph_lv hs.1.1.2)) cs_L_17 dL_law_289 h60 rfl rfl (Nat.le_of_ble_eq_true rfl) ?_
  rintro _ m2 ⟨rfl, h2, f2⟩
  refine v_icmp_eq (tgt := 1753) dL_law_292 (by decide) (fun _ => ?_) (fun z9 => absurd rfl z9)
  refine v_bud (mc1 := 41 * k) (ms1 := 2870 * k) (by omega) (by omega) ?_
  exact nx _ _ (h1.fp f2) h2 ((ws_lamp hs _ _ _ _).mono (Nat.le_succ n))

set_option maxRecDepth 20000 in
set_option maxHeartbeats 4000000 in
theorem law_add {G : Cx} {P : Option Value → Hp → Prop} {n k : Nat} {σ : ST} {μ : Hp} (hL : 5 * n + 5 ≤ cL G) (hL2 : cL G ≤ 2560) (hn : n < 8192) (h : Cl σ μ) (h9 : Mo σ μ) (hs : Ws n σ) (nx : Nx G P n k) : V G M_L_law 17 (41 * k + 41) (2870 * k + 2870) P 297 (lawL n) [] μ := by
  refine v_aload_n 2 dL_law_297 rfl rfl ?_
  refine v_aload_n 3 dL_law_298 rfl rfl ?_
  refine v_iload_n 0 dL_law_299 rfl rfl ?_
  refine v_iconst (v := 1) dL_law_300 (by first | rfl | decide) ?_
  refine v_iadd dL_law_301 ?_
  refine v_roi (ro_script G) dL_law_302 (ix_in (a := 5 * n) (b := 1) (by omega) (by omega)) (by omega) ?_
  refine v_aload_n 3 dL_law_303 rfl rfl ?_
  refine v_iload_n 0 dL_law_304 rfl rfl ?_
  refine v_iconst (v := 2) dL_law_305 (by first | rfl | decide) ?_
  refine v_iadd dL_law_306 ?_
  refine v_roi (ro_script G) dL_law_307 (ix_in (a := 5 * n) (b := 2) (by omega) (by omega)) (by omega) ?_
  refine v_aload_n 3 dL_law_308 rfl rfl ?_
  refine v_iload_n 0 dL_law_309 rfl rfl ?_
  refine v_iconst (v := 3) dL_law_310 (by first | rfl | decide) ?_
  refine v_iadd dL_law_311 ?_
  refine v_roi (ro_script G) dL_law_312 (ix_in (a := 5 * n) (b := 3) (by omega) (by omega)) (by omega) ?_
  refine v_callV (mc := 41 * k + 41) (ms := 2870 * k + 2870) (c_X6_add 15 h hs.1.1.1) cs_L_18 dL_law_313 h.1 rfl rfl (Nat.le_of_ble_eq_true rfl) ?_
  rintro _ m1 ⟨rfl, h1, f1⟩
  have h9b := h9.fo f1
  obtain ⟨fs9, h60⟩ := h9b.c60
  refine v_aload_n 1 dL_law_316 rfl rfl ?_
  refine v_aload_n 3 dL_law_317 rfl rfl ?_
  refine v_iload_n 0 dL_law_318 rfl rfl ?_
  refine v_iconst (v := 1) dL_law_319 (by first | rfl | decide) ?_
  refine v_iadd dL_law_320 ?_
  refine v_roi (ro_script G) dL_law_321 (ix_in (a := 5 * n) (b := 1) (by omega) (by omega)) (by omega) ?_
  refine v_aload_n 3 dL_law_322 rfl rfl ?_
  refine v_iload_n 0 dL_law_323 rfl rfl ?_
  refine v_iconst (v := 2) dL_law_324 (by first | rfl | decide) ?_
  refine v_iadd dL_law_325 ?_
  refine v_roi (ro_script G) dL_law_326 (ix_in (a := 5 * n) (b := 2) (by omega) (by omega)) (by omega) ?_
  refine v_aload_n 3 dL_law_327 rfl rfl ?_
  refine v_iload_n 0 dL_law_328 rfl rfl ?_
  refine v_iconst (v := 3) dL_law_329 (by first | rfl | decide) ?_
  refine v_iadd dL_law_330 ?_
  refine v_roi (ro_script G) dL_law_331 (ix_in (a := 5 * n) (b := 3) (by omega) (by omega)) (by omega) ?_
  refine v_callV (mc := 41 * k + 41) (ms := 2870 * k + 2870) (c_X7_add 15 h9b hs.1.1.1) cs_L_22 dL_law_332 h60 rfl rfl (Nat.le_of_ble_eq_true rfl) ?_
  rintro _ m2 ⟨rfl, h2, f2⟩
  refine v_icmp_eq (tgt := 1753) dL_law_335 (by decide) (fun _ => ?_) (fun z9 => absurd rfl z9)
  refine v_bud (mc1 := 41 * k) (ms1 := 2870 * k) (by omega) (by omega) ?_
  exact nx _ _ (h1.fp f2) h2 ((ws_add hs _ _ _).mono (Nat.le_succ n))

set_option maxRecDepth 20000 in
set_option maxHeartbeats 4000000 in
theorem law_change {G : Cx} {P : Option Value → Hp → Prop} {n k : Nat} {σ : ST} {μ : Hp} (hL : 5 * n + 5 ≤ cL G) (hL2 : cL G ≤ 2560) (hn : n < 8192) (h : Cl σ μ) (h9 : Mo σ μ) (hs : Ws n σ) (nx : Nx G P n k) : V G M_L_law 17 (41 * k + 41) (2870 * k + 2870) P 340 (lawL n) [] μ := by
  refine v_aload_n 2 dL_law_340 rfl rfl ?_
  refine v_aload_n 3 dL_law_341 rfl rfl ?_
  refine v_iload_n 0 dL_law_342 rfl rfl ?_
  refine v_iconst (v := 1) dL_law_343 (by first | rfl | decide) ?_
  refine v_iadd dL_law_344 ?_
  refine v_roi (ro_script G) dL_law_345 (ix_in (a := 5 * n) (b := 1) (by omega) (by omega)) (by omega) ?_
  refine v_aload_n 3 dL_law_346 rfl rfl ?_
  refine v_iload_n 0 dL_law_347 rfl rfl ?_
  refine v_iconst (v := 2) dL_law_348 (by first | rfl | decide) ?_
  refine v_iadd dL_law_349 ?_
  refine v_roi (ro_script G) dL_law_350 (ix_in (a := 5 * n) (b := 2) (by omega) (by omega)) (by omega) ?_
  refine v_aload_n 3 dL_law_351 rfl rfl ?_
  refine v_iload_n 0 dL_law_352 rfl rfl ?_
  refine v_iconst (v := 3) dL_law_353 (by first | rfl | decide) ?_
  refine v_iadd dL_law_354 ?_
  refine v_roi (ro_script G) dL_law_355 (ix_in (a := 5 * n) (b := 3) (by omega) (by omega)) (by omega) ?_
  refine v_callV (mc := 41 * k + 41) (ms := 2870 * k + 2870) (c_X6_change 13 h hs.1.1.1) cs_L_23 dL_law_356 h.1 rfl rfl (Nat.le_of_ble_eq_true rfl) ?_
  rintro _ m1 ⟨rfl, h1, f1⟩
  have h9b := h9.fo f1
  obtain ⟨fs9, h60⟩ := h9b.c60
  refine v_aload_n 1 dL_law_359 rfl rfl ?_
  refine v_aload_n 3 dL_law_360 rfl rfl ?_
  refine v_iload_n 0 dL_law_361 rfl rfl ?_
  refine v_iconst (v := 1) dL_law_362 (by first | rfl | decide) ?_
  refine v_iadd dL_law_363 ?_
  refine v_roi (ro_script G) dL_law_364 (ix_in (a := 5 * n) (b := 1) (by omega) (by omega)) (by omega) ?_
  refine v_aload_n 3 dL_law_365 rfl rfl ?_
  refine v_iload_n 0 dL_law_366 rfl rfl ?_
  refine v_iconst (v := 2) dL_law_367 (by first | rfl | decide) ?_
  refine v_iadd dL_law_368 ?_
  refine v_roi (ro_script G) dL_law_369 (ix_in (a := 5 * n) (b := 2) (by omega) (by omega)) (by omega) ?_
  refine v_aload_n 3 dL_law_370 rfl rfl ?_
  refine v_iload_n 0 dL_law_371 rfl rfl ?_
  refine v_iconst (v := 3) dL_law_372 (by first | rfl | decide) ?_
  refine v_iadd dL_law_373 ?_
  refine v_roi (ro_script G) dL_law_374 (ix_in (a := 5 * n) (b := 3) (by omega) (by omega)) (by omega) ?_
  refine v_callV (mc := 41 * k + 41) (ms := 2870 * k + 2870) (c_X7_change 14 h9b hs.1.1.1) cs_L_26 dL_law_375 h60 rfl rfl (Nat.le_of_ble_eq_true rfl) ?_
  rintro _ m2 ⟨rfl, h2, f2⟩
  refine v_icmp_eq (tgt := 1753) dL_law_378 (by decide) (fun _ => ?_) (fun z9 => absurd rfl z9)
  refine v_bud (mc1 := 41 * k) (ms1 := 2870 * k) (by omega) (by omega) ?_
  exact nx _ _ (h1.fp f2) h2 ((ws_change hs _ _ _).mono (Nat.le_succ n))

set_option maxRecDepth 20000 in
set_option maxHeartbeats 4000000 in
theorem law_turn {G : Cx} {P : Option Value → Hp → Prop} {n k : Nat} {σ : ST} {μ : Hp} (hL : 5 * n + 5 ≤ cL G) (hL2 : cL G ≤ 2560) (hn : n < 8192) (h : Cl σ μ) (h9 : Mo σ μ) (hs : Ws n σ) (nx : Nx G P n k) : V G M_L_law 17 (41 * k + 41) (2870 * k + 2870) P 383 (lawL n) [] μ := by
  refine v_aload_n 2 dL_law_383 rfl rfl ?_
  refine v_aload_n 3 dL_law_384 rfl rfl ?_
  refine v_iload_n 0 dL_law_385 rfl rfl ?_
  refine v_iconst (v := 1) dL_law_386 (by first | rfl | decide) ?_
  refine v_iadd dL_law_387 ?_
  refine v_roi (ro_script G) dL_law_388 (ix_in (a := 5 * n) (b := 1) (by omega) (by omega)) (by omega) ?_
  refine v_aload_n 3 dL_law_389 rfl rfl ?_
  refine v_iload_n 0 dL_law_390 rfl rfl ?_
  refine v_iconst (v := 2) dL_law_391 (by first | rfl | decide) ?_
  refine v_iadd dL_law_392 ?_
  refine v_roi (ro_script G) dL_law_393 (ix_in (a := 5 * n) (b := 2) (by omega) (by omega)) (by omega) ?_
  refine v_callV (mc := 41 * k + 41) (ms := 2870 * k + 2870) (c_X6_turn 14 h hs.1.1.1) cs_L_27 dL_law_394 h.1 rfl rfl (Nat.le_of_ble_eq_true rfl) ?_
  rintro _ m1 ⟨rfl, h1, f1⟩
  have h9b := h9.fo f1
  obtain ⟨fs9, h60⟩ := h9b.c60
  refine v_aload_n 1 dL_law_397 rfl rfl ?_
  refine v_aload_n 3 dL_law_398 rfl rfl ?_
  refine v_iload_n 0 dL_law_399 rfl rfl ?_
  refine v_iconst (v := 1) dL_law_400 (by first | rfl | decide) ?_
  refine v_iadd dL_law_401 ?_
  refine v_roi (ro_script G) dL_law_402 (ix_in (a := 5 * n) (b := 1) (by omega) (by omega)) (by omega) ?_
  refine v_aload_n 3 dL_law_403 rfl rfl ?_
  refine v_iload_n 0 dL_law_404 rfl rfl ?_
  refine v_iconst (v := 2) dL_law_405 (by first | rfl | decide) ?_
  refine v_iadd dL_law_406 ?_
  refine v_roi (ro_script G) dL_law_407 (ix_in (a := 5 * n) (b := 2) (by omega) (by omega)) (by omega) ?_
  refine v_callV (mc := 41 * k + 41) (ms := 2870 * k + 2870) (c_X7_turn 14 h9b hs.1.1.1) cs_L_31 dL_law_408 h60 rfl rfl (Nat.le_of_ble_eq_true rfl) ?_
  rintro _ m2 ⟨rfl, h2, f2⟩
  refine v_icmp_eq (tgt := 1753) dL_law_411 (by decide) (fun _ => ?_) (fun z9 => absurd rfl z9)
  refine v_bud (mc1 := 41 * k) (ms1 := 2870 * k) (by omega) (by omega) ?_
  exact nx _ _ (h1.fp f2) h2 ((ws_turn hs _ _).mono (Nat.le_succ n))

set_option maxRecDepth 20000 in
set_option maxHeartbeats 4000000 in
theorem law_move {G : Cx} {P : Option Value → Hp → Prop} {n k : Nat} {σ : ST} {μ : Hp} (hL : 5 * n + 5 ≤ cL G) (hL2 : cL G ≤ 2560) (hn : n < 8192) (h : Cl σ μ) (h9 : Mo σ μ) (hs : Ws n σ) (nx : Nx G P n k) : V G M_L_law 17 (41 * k + 41) (2870 * k + 2870) P 416 (lawL n) [] μ := by
  refine v_aload_n 2 dL_law_416 rfl rfl ?_
  refine v_aload_n 3 dL_law_417 rfl rfl ?_
  refine v_iload_n 0 dL_law_418 rfl rfl ?_
  refine v_iconst (v := 1) dL_law_419 (by first | rfl | decide) ?_
  refine v_iadd dL_law_420 ?_
  refine v_roi (ro_script G) dL_law_421 (ix_in (a := 5 * n) (b := 1) (by omega) (by omega)) (by omega) ?_
  refine v_aload_n 3 dL_law_422 rfl rfl ?_
  refine v_iload_n 0 dL_law_423 rfl rfl ?_
  refine v_iconst (v := 2) dL_law_424 (by first | rfl | decide) ?_
  refine v_iadd dL_law_425 ?_
  refine v_roi (ro_script G) dL_law_426 (ix_in (a := 5 * n) (b := 2) (by omega) (by omega)) (by omega) ?_
  refine v_callV (mc := 41 * k + 41) (ms := 2870 * k + 2870) (c_X6_move 15 h hs.1.1.1) cs_L_32 dL_law_427 h.1 rfl rfl (Nat.le_of_ble_eq_true rfl) ?_
  rintro _ m1 ⟨rfl, h1, f1⟩
  have h9b := h9.fo f1
  obtain ⟨fs9, h60⟩ := h9b.c60
  refine v_aload_n 1 dL_law_430 rfl rfl ?_
  refine v_aload_n 3 dL_law_431 rfl rfl ?_
  refine v_iload_n 0 dL_law_432 rfl rfl ?_
  refine v_iconst (v := 1) dL_law_433 (by first | rfl | decide) ?_
  refine v_iadd dL_law_434 ?_
  refine v_roi (ro_script G) dL_law_435 (ix_in (a := 5 * n) (b := 1) (by omega) (by omega)) (by omega) ?_
  refine v_aload_n 3 dL_law_436 rfl rfl ?_
  refine v_iload_n 0 dL_law_437 rfl rfl ?_
  refine v_iconst (v := 2) dL_law_438 (by first | rfl | decide) ?_
  refine v_iadd dL_law_439 ?_
  refine v_roi (ro_script G) dL_law_440 (ix_in (a := 5 * n) (b := 2) (by omega) (by omega)) (by omega) ?_
  refine v_callV (mc := 41 * k + 41) (ms := 2870 * k + 2870) (c_X7_move 14 h9b hs.1.1.1) cs_L_35 dL_law_441 h60 rfl rfl (Nat.le_of_ble_eq_true rfl) ?_
  rintro _ m2 ⟨rfl, h2, f2⟩
  refine v_icmp_eq (tgt := 1753) dL_law_444 (by decide) (fun _ => ?_) (fun z9 => absurd rfl z9)
  refine v_bud (mc1 := 41 * k) (ms1 := 2870 * k) (by omega) (by omega) ?_
  exact nx _ _ (h1.fp f2) h2 ((ws_move hs _ _).mono (Nat.le_succ n))

set_option maxRecDepth 20000 in
set_option maxHeartbeats 4000000 in
theorem law_cut {G : Cx} {P : Option Value → Hp → Prop} {n k : Nat} {σ : ST} {μ : Hp} (hL : 5 * n + 5 ≤ cL G) (hL2 : cL G ≤ 2560) (hn : n < 8192) (h : Cl σ μ) (h9 : Mo σ μ) (hs : Ws n σ) (nx : Nx G P n k) : V G M_L_law 17 (41 * k + 41) (2870 * k + 2870) P 449 (lawL n) [] μ := by
  refine v_aload_n 2 dL_law_449 rfl rfl ?_
  refine v_aload_n 3 dL_law_450 rfl rfl ?_
  refine v_iload_n 0 dL_law_451 rfl rfl ?_
  refine v_iconst (v := 1) dL_law_452 (by first | rfl | decide) ?_
  refine v_iadd dL_law_453 ?_
  refine v_roi (ro_script G) dL_law_454 (ix_in (a := 5 * n) (b := 1) (by omega) (by omega)) (by omega) ?_
  refine v_callV (mc := 41 * k + 41) (ms := 2870 * k + 2870) (c_X6_cut 15 h hs.1.1.1) cs_L_36 dL_law_455 h.1 rfl rfl (Nat.le_of_ble_eq_true rfl) ?_
  rintro _ m1 ⟨rfl, h1, f1⟩
  have h9b := h9.fo f1
  obtain ⟨fs9, h60⟩ := h9b.c60
  refine v_aload_n 1 dL_law_458 rfl rfl ?_
  refine v_aload_n 3 dL_law_459 rfl rfl ?_
  refine v_iload_n 0 dL_law_460 rfl rfl ?_
  refine v_iconst (v := 1) dL_law_461 (by first | rfl | decide) ?_
  refine v_iadd dL_law_462 ?_
  refine v_roi (ro_script G) dL_law_463 (ix_in (a := 5 * n) (b := 1) (by omega) (by omega)) (by omega) ?_
  refine v_callV (mc := 41 * k + 41) (ms := 2870 * k + 2870) (c_X7_cut 14 h9b hs.1.1.1) cs_L_40 dL_law_464 h60 rfl rfl (Nat.le_of_ble_eq_true rfl) ?_
  rintro _ m2 ⟨rfl, h2, f2⟩
  refine v_icmp_eq (tgt := 1753) dL_law_467 (by decide) (fun _ => ?_) (fun z9 => absurd rfl z9)
  refine v_bud (mc1 := 41 * k) (ms1 := 2870 * k) (by omega) (by omega) ?_
  exact nx _ _ (h1.fp f2) h2 ((ws_cut hs _).mono (Nat.le_succ n))

set_option maxRecDepth 20000 in
set_option maxHeartbeats 4000000 in
theorem law_clear {G : Cx} {P : Option Value → Hp → Prop} {n k : Nat} {σ : ST} {μ : Hp} (hL : 5 * n + 5 ≤ cL G) (hL2 : cL G ≤ 2560) (hn : n < 8192) (h : Cl σ μ) (h9 : Mo σ μ) (hs : Ws n σ) (nx : Nx G P n k) : V G M_L_law 17 (41 * k + 41) (2870 * k + 2870) P 472 (lawL n) [] μ := by
  refine v_aload_n 2 dL_law_472 rfl rfl ?_
  refine v_callV (mc := 41 * k + 41) (ms := 2870 * k + 2870) (c_X6_clear 16 h hs.1.1.1) cs_L_41 dL_law_473 h.1 rfl rfl (Nat.le_of_ble_eq_true rfl) ?_
  rintro _ m1 ⟨rfl, h1, f1⟩
  have h9b := h9.fo f1
  obtain ⟨fs9, h60⟩ := h9b.c60
  refine v_aload_n 1 dL_law_476 rfl rfl ?_
  refine v_callV (mc := 41 * k + 41) (ms := 2870 * k + 2870) (c_X7_clear 16 h9b hs.1.1.1) cs_L_45 dL_law_477 h60 rfl rfl (Nat.le_of_ble_eq_true rfl) ?_
  rintro _ m2 ⟨rfl, h2, f2⟩
  refine v_icmp_eq (tgt := 1753) dL_law_480 (by decide) (fun _ => ?_) (fun z9 => absurd rfl z9)
  refine v_bud (mc1 := 41 * k) (ms1 := 2870 * k) (by omega) (by omega) ?_
  exact nx _ _ (h1.fp f2) h2 ((ws_clear hs).mono (Nat.le_succ n))

set_option maxRecDepth 20000 in
set_option maxHeartbeats 4000000 in
theorem law_of {G : Cx} {P : Option Value → Hp → Prop} {n k : Nat} {σ : ST} {μ : Hp} (hL : 5 * n + 5 ≤ cL G) (hL2 : cL G ≤ 2560) (hn : n < 8192) (h : Cl σ μ) (h9 : Mo σ μ) (hs : Ws n σ) (nx : Nx G P n k) : V G M_L_law 17 (41 * k + 41) (2870 * k + 2870) P 485 (lawL n) [] μ := by
  refine v_aload_n 2 dL_law_485 rfl rfl ?_
  refine v_aload_n 3 dL_law_486 rfl rfl ?_
  refine v_iload_n 0 dL_law_487 rfl rfl ?_
  refine v_iconst (v := 1) dL_law_488 (by first | rfl | decide) ?_
  refine v_iadd dL_law_489 ?_
  refine v_roi (ro_script G) dL_law_490 (ix_in (a := 5 * n) (b := 1) (by omega) (by omega)) (by omega) ?_
  refine v_aload_n 3 dL_law_491 rfl rfl ?_
  refine v_iload_n 0 dL_law_492 rfl rfl ?_
  refine v_iconst (v := 2) dL_law_493 (by first | rfl | decide) ?_
  refine v_iadd dL_law_494 ?_
  refine v_roi (ro_script G) dL_law_495 (ix_in (a := 5 * n) (b := 2) (by omega) (by omega)) (by omega) ?_
  refine v_callV (mc := 41 * k + 41) (ms := 2870 * k + 2870) (c_X6_of 14 h hs.1.1.1) cs_L_46 dL_law_496 h.1 rfl rfl (Nat.le_of_ble_eq_true rfl) ?_
  refine rt_k ?_
  obtain ⟨fs9, h60⟩ := h9.c60
  refine v_aload_n 1 dL_law_499 rfl rfl ?_
  refine v_aload_n 3 dL_law_500 rfl rfl ?_
  refine v_iload_n 0 dL_law_501 rfl rfl ?_
  refine v_iconst (v := 1) dL_law_502 (by first | rfl | decide) ?_
  refine v_iadd dL_law_503 ?_
  refine v_roi (ro_script G) dL_law_504 (ix_in (a := 5 * n) (b := 1) (by omega) (by omega)) (by omega) ?_
  refine v_aload_n 3 dL_law_505 rfl rfl ?_
  refine v_iload_n 0 dL_law_506 rfl rfl ?_
  refine v_iconst (v := 2) dL_law_507 (by first | rfl | decide) ?_
  refine v_iadd dL_law_508 ?_
  refine v_roi (ro_script G) dL_law_509 (ix_in (a := 5 * n) (b := 2) (by omega) (by omega)) (by omega) ?_
  refine v_callV (mc := 41 * k + 41) (ms := 2870 * k + 2870) (c_X7_of 14 h9 hs.1.1.1) cs_L_49 dL_law_510 h60 rfl rfl (Nat.le_of_ble_eq_true rfl) ?_
  rintro _ m2 ⟨rfl, h2, f2⟩
  refine v_icmp_eq (tgt := 1753) dL_law_513 (by decide) (fun _ => ?_) (fun z9 => absurd rfl z9)
  refine v_bud (mc1 := 41 * k) (ms1 := 2870 * k) (by omega) (by omega) ?_
  exact nx _ _ (h.fp f2) h2 (hs.mono (Nat.le_succ n))

set_option maxRecDepth 20000 in
set_option maxHeartbeats 4000000 in
theorem law_isUnder {G : Cx} {P : Option Value → Hp → Prop} {n k : Nat} {σ : ST} {μ : Hp} (hL : 5 * n + 5 ≤ cL G) (hL2 : cL G ≤ 2560) (hn : n < 8192) (h : Cl σ μ) (h9 : Mo σ μ) (hs : Ws n σ) (nx : Nx G P n k) : V G M_L_law 17 (41 * k + 41) (2870 * k + 2870) P 518 (lawL n) [] μ := by
  refine v_aload_n 2 dL_law_518 rfl rfl ?_
  refine v_aload_n 3 dL_law_519 rfl rfl ?_
  refine v_iload_n 0 dL_law_520 rfl rfl ?_
  refine v_iconst (v := 1) dL_law_521 (by first | rfl | decide) ?_
  refine v_iadd dL_law_522 ?_
  refine v_roi (ro_script G) dL_law_523 (ix_in (a := 5 * n) (b := 1) (by omega) (by omega)) (by omega) ?_
  refine v_aload_n 3 dL_law_524 rfl rfl ?_
  refine v_iload_n 0 dL_law_525 rfl rfl ?_
  refine v_iconst (v := 2) dL_law_526 (by first | rfl | decide) ?_
  refine v_iadd dL_law_527 ?_
  refine v_roi (ro_script G) dL_law_528 (ix_in (a := 5 * n) (b := 2) (by omega) (by omega)) (by omega) ?_
  refine v_callV (mc := 41 * k + 41) (ms := 2870 * k + 2870) (c_X6_isUnder 15 h hs.1.1.1) cs_L_50 dL_law_529 h.1 rfl rfl (Nat.le_of_ble_eq_true rfl) ?_
  refine rt_k ?_
  obtain ⟨fs9, h60⟩ := h9.c60
  refine v_aload_n 1 dL_law_532 rfl rfl ?_
  refine v_aload_n 3 dL_law_533 rfl rfl ?_
  refine v_iload_n 0 dL_law_534 rfl rfl ?_
  refine v_iconst (v := 1) dL_law_535 (by first | rfl | decide) ?_
  refine v_iadd dL_law_536 ?_
  refine v_roi (ro_script G) dL_law_537 (ix_in (a := 5 * n) (b := 1) (by omega) (by omega)) (by omega) ?_
  refine v_aload_n 3 dL_law_538 rfl rfl ?_
  refine v_iload_n 0 dL_law_539 rfl rfl ?_
  refine v_iconst (v := 2) dL_law_540 (by first | rfl | decide) ?_
  refine v_iadd dL_law_541 ?_
  refine v_roi (ro_script G) dL_law_542 (ix_in (a := 5 * n) (b := 2) (by omega) (by omega)) (by omega) ?_
  refine v_callV (mc := 41 * k + 41) (ms := 2870 * k + 2870) (c_X7_isUnder 14 h9 hs.1.1.1) cs_L_53 dL_law_543 h60 rfl rfl (Nat.le_of_ble_eq_true rfl) ?_
  rintro _ m2 ⟨rfl, h2, f2⟩
  refine v_icmp_eq (tgt := 1753) dL_law_546 (by decide) (fun _ => ?_) (fun z9 => absurd rfl z9)
  refine v_bud (mc1 := 41 * k) (ms1 := 2870 * k) (by omega) (by omega) ?_
  exact nx _ _ (h.fp f2) h2 (hs.mono (Nat.le_succ n))

set_option maxRecDepth 20000 in
set_option maxHeartbeats 4000000 in
theorem law_light {G : Cx} {P : Option Value → Hp → Prop} {n k : Nat} {σ : ST} {μ : Hp} (hL : 5 * n + 5 ≤ cL G) (hL2 : cL G ≤ 2560) (hn : n < 8192) (h : Cl σ μ) (h9 : Mo σ μ) (hs : Ws n σ) (nx : Nx G P n k) : V G M_L_law 17 (41 * k + 41) (2870 * k + 2870) P 551 (lawL n) [] μ := by
  refine v_aload_n 2 dL_law_551 rfl rfl ?_
  refine v_aload_n 3 dL_law_552 rfl rfl ?_
  refine v_iload_n 0 dL_law_553 rfl rfl ?_
  refine v_iconst (v := 1) dL_law_554 (by first | rfl | decide) ?_
  refine v_iadd dL_law_555 ?_
  refine v_roi (ro_script G) dL_law_556 (ix_in (a := 5 * n) (b := 1) (by omega) (by omega)) (by omega) ?_
  refine v_aload_n 3 dL_law_557 rfl rfl ?_
  refine v_iload_n 0 dL_law_558 rfl rfl ?_
  refine v_iconst (v := 2) dL_law_559 (by first | rfl | decide) ?_
  refine v_iadd dL_law_560 ?_
  refine v_roi (ro_script G) dL_law_561 (ix_in (a := 5 * n) (b := 2) (by omega) (by omega)) (by omega) ?_
  refine v_callV (mc := 41 * k + 41) (ms := 2870 * k + 2870) (c_X6_light 11 h hs.1.1.1) cs_L_54 dL_law_562 h.1 rfl rfl (Nat.le_of_ble_eq_true rfl) ?_
  rintro _ m1 ⟨rfl, h1, f1⟩
  have h9b := h9.fo f1
  obtain ⟨fs9, h60⟩ := h9b.c60
  refine v_aload_n 1 dL_law_565 rfl rfl ?_
  refine v_aload_n 3 dL_law_566 rfl rfl ?_
  refine v_iload_n 0 dL_law_567 rfl rfl ?_
  refine v_iconst (v := 1) dL_law_568 (by first | rfl | decide) ?_
  refine v_iadd dL_law_569 ?_
  refine v_roi (ro_script G) dL_law_570 (ix_in (a := 5 * n) (b := 1) (by omega) (by omega)) (by omega) ?_
  refine v_aload_n 3 dL_law_571 rfl rfl ?_
  refine v_iload_n 0 dL_law_572 rfl rfl ?_
  refine v_iconst (v := 2) dL_law_573 (by first | rfl | decide) ?_
  refine v_iadd dL_law_574 ?_
  refine v_roi (ro_script G) dL_law_575 (ix_in (a := 5 * n) (b := 2) (by omega) (by omega)) (by omega) ?_
  refine v_callV (mc := 41 * k + 41) (ms := 2870 * k + 2870) (c_X7_light 11 h9b hs.1.1.1 (ph_eb hs.1.1.2 100)) cs_L_58 dL_law_576 h60 rfl rfl (Nat.le_of_ble_eq_true rfl) ?_
  rintro _ m2 ⟨rfl, h2, f2⟩
  refine v_lc_eq (tgt := 1753) dL_law_579 dL_law_580 (by decide) (fun _ => ?_) (fun z9 => absurd rfl z9)
  refine v_bud (mc1 := 41 * k) (ms1 := 2870 * k) (by omega) (by omega) ?_
  exact nx _ _ (h1.fp f2) h2 (hs.mono (Nat.le_succ n))

set_option maxRecDepth 20000 in
set_option maxHeartbeats 4000000 in
theorem law_left {G : Cx} {P : Option Value → Hp → Prop} {n k : Nat} {σ : ST} {μ : Hp} (hL : 5 * n + 5 ≤ cL G) (hL2 : cL G ≤ 2560) (hn : n < 8192) (h : Cl σ μ) (h9 : Mo σ μ) (hs : Ws n σ) (nx : Nx G P n k) : V G M_L_law 17 (41 * k + 41) (2870 * k + 2870) P 585 (lawL n) [] μ := by
  refine v_aload_n 2 dL_law_585 rfl rfl ?_
  refine v_aload_n 3 dL_law_586 rfl rfl ?_
  refine v_iload_n 0 dL_law_587 rfl rfl ?_
  refine v_iconst (v := 1) dL_law_588 (by first | rfl | decide) ?_
  refine v_iadd dL_law_589 ?_
  refine v_roi (ro_script G) dL_law_590 (ix_in (a := 5 * n) (b := 1) (by omega) (by omega)) (by omega) ?_
  refine v_aload_n 3 dL_law_591 rfl rfl ?_
  refine v_iload_n 0 dL_law_592 rfl rfl ?_
  refine v_iconst (v := 2) dL_law_593 (by first | rfl | decide) ?_
  refine v_iadd dL_law_594 ?_
  refine v_roi (ro_script G) dL_law_595 (ix_in (a := 5 * n) (b := 2) (by omega) (by omega)) (by omega) ?_
  refine v_callV (mc := 41 * k + 41) (ms := 2870 * k + 2870) (c_X6_left 11 h hs.1.1.1) cs_L_59 dL_law_596 h.1 rfl rfl (Nat.le_of_ble_eq_true rfl) ?_
  rintro _ m1 ⟨rfl, h1, f1⟩
  have h9b := h9.fo f1
  obtain ⟨fs9, h60⟩ := h9b.c60
  refine v_aload_n 1 dL_law_599 rfl rfl ?_
  refine v_aload_n 3 dL_law_600 rfl rfl ?_
  refine v_iload_n 0 dL_law_601 rfl rfl ?_
  refine v_iconst (v := 1) dL_law_602 (by first | rfl | decide) ?_
  refine v_iadd dL_law_603 ?_
  refine v_roi (ro_script G) dL_law_604 (ix_in (a := 5 * n) (b := 1) (by omega) (by omega)) (by omega) ?_
  refine v_aload_n 3 dL_law_605 rfl rfl ?_
  refine v_iload_n 0 dL_law_606 rfl rfl ?_
  refine v_iconst (v := 2) dL_law_607 (by first | rfl | decide) ?_
  refine v_iadd dL_law_608 ?_
  refine v_roi (ro_script G) dL_law_609 (ix_in (a := 5 * n) (b := 2) (by omega) (by omega)) (by omega) ?_
  refine v_callV (mc := 41 * k + 41) (ms := 2870 * k + 2870) (c_X7_left 11 h9b hs.1.1.1 (ph_eb hs.1.1.2 100) hs.1.1.2) cs_L_62 dL_law_610 h60 rfl rfl (Nat.le_of_ble_eq_true rfl) ?_
  rintro _ m2 ⟨rfl, h2, f2⟩
  refine v_lc_eq (tgt := 1753) dL_law_613 dL_law_614 (by decide) (fun _ => ?_) (fun z9 => absurd rfl z9)
  refine v_bud (mc1 := 41 * k) (ms1 := 2870 * k) (by omega) (by omega) ?_
  exact nx _ _ (h1.fp f2) h2 (hs.mono (Nat.le_succ n))

set_option maxRecDepth 20000 in
set_option maxHeartbeats 4000000 in
theorem law_degree {G : Cx} {P : Option Value → Hp → Prop} {n k : Nat} {σ : ST} {μ : Hp} (hL : 5 * n + 5 ≤ cL G) (hL2 : cL G ≤ 2560) (hn : n < 8192) (h : Cl σ μ) (h9 : Mo σ μ) (hs : Ws n σ) (nx : Nx G P n k) : V G M_L_law 17 (41 * k + 41) (2870 * k + 2870) P 619 (lawL n) [] μ := by
  refine v_aload_n 2 dL_law_619 rfl rfl ?_
  refine v_aload_n 3 dL_law_620 rfl rfl ?_
  refine v_iload_n 0 dL_law_621 rfl rfl ?_
  refine v_iconst (v := 1) dL_law_622 (by first | rfl | decide) ?_
  refine v_iadd dL_law_623 ?_
  refine v_roi (ro_script G) dL_law_624 (ix_in (a := 5 * n) (b := 1) (by omega) (by omega)) (by omega) ?_
  refine v_aload_n 3 dL_law_625 rfl rfl ?_
  refine v_iload_n 0 dL_law_626 rfl rfl ?_
  refine v_iconst (v := 2) dL_law_627 (by first | rfl | decide) ?_
  refine v_iadd dL_law_628 ?_
  refine v_roi (ro_script G) dL_law_629 (ix_in (a := 5 * n) (b := 2) (by omega) (by omega)) (by omega) ?_
  refine v_callV (mc := 41 * k + 41) (ms := 2870 * k + 2870) (c_X6_degree 11 h hs.1.1.1) cs_L_63 dL_law_630 h.1 rfl rfl (Nat.le_of_ble_eq_true rfl) ?_
  rintro _ m1 ⟨rfl, h1, f1⟩
  have h9b := h9.fo f1
  obtain ⟨fs9, h60⟩ := h9b.c60
  refine v_aload_n 1 dL_law_633 rfl rfl ?_
  refine v_aload_n 3 dL_law_634 rfl rfl ?_
  refine v_iload_n 0 dL_law_635 rfl rfl ?_
  refine v_iconst (v := 1) dL_law_636 (by first | rfl | decide) ?_
  refine v_iadd dL_law_637 ?_
  refine v_roi (ro_script G) dL_law_638 (ix_in (a := 5 * n) (b := 1) (by omega) (by omega)) (by omega) ?_
  refine v_aload_n 3 dL_law_639 rfl rfl ?_
  refine v_iload_n 0 dL_law_640 rfl rfl ?_
  refine v_iconst (v := 2) dL_law_641 (by first | rfl | decide) ?_
  refine v_iadd dL_law_642 ?_
  refine v_roi (ro_script G) dL_law_643 (ix_in (a := 5 * n) (b := 2) (by omega) (by omega)) (by omega) ?_
  refine v_callV (mc := 41 * k + 41) (ms := 2870 * k + 2870) (c_X7_degree 11 h9b hs.1.1.1 (ph_eb hs.1.1.2 100) hs.1.1.2) cs_L_66 dL_law_644 h60 rfl rfl (Nat.le_of_ble_eq_true rfl) ?_
  rintro _ m2 ⟨rfl, h2, f2⟩
  refine v_lc_eq (tgt := 1753) dL_law_647 dL_law_648 (by decide) (fun _ => ?_) (fun z9 => absurd rfl z9)
  refine v_bud (mc1 := 41 * k) (ms1 := 2870 * k) (by omega) (by omega) ?_
  exact nx _ _ (h1.fp f2) h2 ((ws_degree hs _ _).mono (Nat.le_succ n))

set_option maxRecDepth 20000 in
set_option maxHeartbeats 4000000 in
theorem law_sort {G : Cx} {P : Option Value → Hp → Prop} {n k : Nat} {σ : ST} {μ : Hp} (hL : 5 * n + 5 ≤ cL G) (hL2 : cL G ≤ 2560) (hn : n < 8192) (h : Cl σ μ) (h9 : Mo σ μ) (hs : Ws n σ) (nx : Nx G P n k) : V G M_L_law 17 (41 * k + 41) (2870 * k + 2870) P 653 (lawL n) [] μ := by
  refine v_aload_n 2 dL_law_653 rfl rfl ?_
  refine v_aload_n 3 dL_law_654 rfl rfl ?_
  refine v_iload_n 0 dL_law_655 rfl rfl ?_
  refine v_iconst (v := 1) dL_law_656 (by first | rfl | decide) ?_
  refine v_iadd dL_law_657 ?_
  refine v_roi (ro_script G) dL_law_658 (ix_in (a := 5 * n) (b := 1) (by omega) (by omega)) (by omega) ?_
  refine v_callV (mc := 41 * k + 41) (ms := 2870 * k + 2870) (c_X6_sort 11 h hs.1.1.1) cs_L_67 dL_law_659 h.1 rfl rfl (Nat.le_of_ble_eq_true rfl) ?_
  rintro _ m1 ⟨rfl, h1, f1⟩
  have h9b := h9.fo f1
  obtain ⟨fs9, h60⟩ := h9b.c60
  refine v_aload_n 1 dL_law_662 rfl rfl ?_
  refine v_aload_n 3 dL_law_663 rfl rfl ?_
  refine v_iload_n 0 dL_law_664 rfl rfl ?_
  refine v_iconst (v := 1) dL_law_665 (by first | rfl | decide) ?_
  refine v_iadd dL_law_666 ?_
  refine v_roi (ro_script G) dL_law_667 (ix_in (a := 5 * n) (b := 1) (by omega) (by omega)) (by omega) ?_
  refine v_callV (mc := 41 * k + 41) (ms := 2870 * k + 2870) (c_X7_sort 11 h9b hs.1.1.1 (ph_eb hs.1.1.2 100) hs.1.1.2) cs_L_70 dL_law_668 h60 rfl rfl (Nat.le_of_ble_eq_true rfl) ?_
  rintro _ m2 ⟨rfl, h2, f2⟩
  refine v_icmp_eq (tgt := 1753) dL_law_671 (by decide) (fun _ => ?_) (fun z9 => absurd rfl z9)
  refine v_bud (mc1 := 41 * k) (ms1 := 2870 * k) (by omega) (by omega) ?_
  exact nx _ _ (h1.fp f2) h2 ((ws_sort hs _).mono (Nat.le_succ n))

set_option maxRecDepth 20000 in
set_option maxHeartbeats 4000000 in
theorem law_order {G : Cx} {P : Option Value → Hp → Prop} {n k : Nat} {σ : ST} {μ : Hp} (hL : 5 * n + 5 ≤ cL G) (hL2 : cL G ≤ 2560) (hn : n < 8192) (h : Cl σ μ) (h9 : Mo σ μ) (hs : Ws n σ) (nx : Nx G P n k) : V G M_L_law 17 (41 * k + 41) (2870 * k + 2870) P 676 (lawL n) [] μ := by
  refine v_aload_n 2 dL_law_676 rfl rfl ?_
  refine v_aload_n 3 dL_law_677 rfl rfl ?_
  refine v_iload_n 0 dL_law_678 rfl rfl ?_
  refine v_iconst (v := 1) dL_law_679 (by first | rfl | decide) ?_
  refine v_iadd dL_law_680 ?_
  refine v_roi (ro_script G) dL_law_681 (ix_in (a := 5 * n) (b := 1) (by omega) (by omega)) (by omega) ?_
  refine v_callV (mc := 41 * k + 41) (ms := 2870 * k + 2870) (c_X6_order 5 h hs.1.1.1) cs_L_71 dL_law_682 h.1 rfl rfl (Nat.le_of_ble_eq_true rfl) ?_
  rintro _ m1 ⟨rfl, h1, f1⟩
  have h9b := h9.fo f1
  obtain ⟨fs9, h60⟩ := h9b.c60
  refine v_aload_n 1 dL_law_685 rfl rfl ?_
  refine v_aload_n 3 dL_law_686 rfl rfl ?_
  refine v_iload_n 0 dL_law_687 rfl rfl ?_
  refine v_iconst (v := 1) dL_law_688 (by first | rfl | decide) ?_
  refine v_iadd dL_law_689 ?_
  refine v_roi (ro_script G) dL_law_690 (ix_in (a := 5 * n) (b := 1) (by omega) (by omega)) (by omega) ?_
  refine v_callV (mc := 41 * k + 41) (ms := 2870 * k + 2870) (c_X7_order 5 h9b hs.1.1.1 (ph_eb hs.1.1.2 20)) cs_L_74 dL_law_691 h60 rfl rfl (Nat.le_of_ble_eq_true rfl) ?_
  rintro _ m2 ⟨rfl, h2, f2⟩
  refine v_icmp_eq (tgt := 1753) dL_law_694 (by decide) (fun _ => ?_) (fun z9 => absurd rfl z9)
  refine v_bud (mc1 := 41 * k) (ms1 := 2870 * k) (by omega) (by omega) ?_
  exact nx _ _ (h1.fp f2) h2 (hs.mono (Nat.le_succ n))

set_option maxRecDepth 20000 in
set_option maxHeartbeats 4000000 in
theorem law_orderLight {G : Cx} {P : Option Value → Hp → Prop} {n k : Nat} {σ : ST} {μ : Hp} (hL : 5 * n + 5 ≤ cL G) (hL2 : cL G ≤ 2560) (hn : n < 8192) (h : Cl σ μ) (h9 : Mo σ μ) (hs : Ws n σ) (nx : Nx G P n k) : V G M_L_law 17 (41 * k + 41) (2870 * k + 2870) P 699 (lawL n) [] μ := by
  refine v_aload_n 2 dL_law_699 rfl rfl ?_
  refine v_aload_n 3 dL_law_700 rfl rfl ?_
  refine v_iload_n 0 dL_law_701 rfl rfl ?_
  refine v_iconst (v := 1) dL_law_702 (by first | rfl | decide) ?_
  refine v_iadd dL_law_703 ?_
  refine v_roi (ro_script G) dL_law_704 (ix_in (a := 5 * n) (b := 1) (by omega) (by omega)) (by omega) ?_
  refine v_aload_n 3 dL_law_705 rfl rfl ?_
  refine v_iload_n 0 dL_law_706 rfl rfl ?_
  refine v_iconst (v := 2) dL_law_707 (by first | rfl | decide) ?_
  refine v_iadd dL_law_708 ?_
  refine v_roi (ro_script G) dL_law_709 (ix_in (a := 5 * n) (b := 2) (by omega) (by omega)) (by omega) ?_
  refine v_callV (mc := 41 * k + 41) (ms := 2870 * k + 2870) (c_X6_orderLight 5 h hs.1.1.1) cs_L_75 dL_law_710 h.1 rfl rfl (Nat.le_of_ble_eq_true rfl) ?_
  rintro _ m1 ⟨rfl, h1, f1⟩
  have h9b := h9.fo f1
  obtain ⟨fs9, h60⟩ := h9b.c60
  refine v_aload_n 1 dL_law_713 rfl rfl ?_
  refine v_aload_n 3 dL_law_714 rfl rfl ?_
  refine v_iload_n 0 dL_law_715 rfl rfl ?_
  refine v_iconst (v := 1) dL_law_716 (by first | rfl | decide) ?_
  refine v_iadd dL_law_717 ?_
  refine v_roi (ro_script G) dL_law_718 (ix_in (a := 5 * n) (b := 1) (by omega) (by omega)) (by omega) ?_
  refine v_aload_n 3 dL_law_719 rfl rfl ?_
  refine v_iload_n 0 dL_law_720 rfl rfl ?_
  refine v_iconst (v := 2) dL_law_721 (by first | rfl | decide) ?_
  refine v_iadd dL_law_722 ?_
  refine v_roi (ro_script G) dL_law_723 (ix_in (a := 5 * n) (b := 2) (by omega) (by omega)) (by omega) ?_
  refine v_callV (mc := 41 * k + 41) (ms := 2870 * k + 2870) (c_X7_orderLight 5 h9b hs.1.1.1 (ph_eb hs.1.1.2 20)) cs_L_78 dL_law_724 h60 rfl rfl (Nat.le_of_ble_eq_true rfl) ?_
  rintro _ m2 ⟨rfl, h2, f2⟩
  refine v_lc_eq (tgt := 1753) dL_law_727 dL_law_728 (by decide) (fun _ => ?_) (fun z9 => absurd rfl z9)
  refine v_bud (mc1 := 41 * k) (ms1 := 2870 * k) (by omega) (by omega) ?_
  exact nx _ _ (h1.fp f2) h2 (hs.mono (Nat.le_succ n))

set_option maxRecDepth 20000 in
set_option maxHeartbeats 4000000 in
theorem law_matrix {G : Cx} {P : Option Value → Hp → Prop} {n k : Nat} {σ : ST} {μ : Hp} (hL : 5 * n + 5 ≤ cL G) (hL2 : cL G ≤ 2560) (hn : n < 8192) (h : Cl σ μ) (h9 : Mo σ μ) (hs : Ws n σ) (nx : Nx G P n k) : V G M_L_law 17 (41 * k + 41) (2870 * k + 2870) P 733 (lawL n) [] μ := by
  refine v_aload_n 2 dL_law_733 rfl rfl ?_
  refine v_aload_n 3 dL_law_734 rfl rfl ?_
  refine v_iload_n 0 dL_law_735 rfl rfl ?_
  refine v_iconst (v := 1) dL_law_736 (by first | rfl | decide) ?_
  refine v_iadd dL_law_737 ?_
  refine v_roi (ro_script G) dL_law_738 (ix_in (a := 5 * n) (b := 1) (by omega) (by omega)) (by omega) ?_
  refine v_aload_n 3 dL_law_739 rfl rfl ?_
  refine v_iload_n 0 dL_law_740 rfl rfl ?_
  refine v_iconst (v := 2) dL_law_741 (by first | rfl | decide) ?_
  refine v_iadd dL_law_742 ?_
  refine v_roi (ro_script G) dL_law_743 (ix_in (a := 5 * n) (b := 2) (by omega) (by omega)) (by omega) ?_
  refine v_aload_n 3 dL_law_744 rfl rfl ?_
  refine v_iload_n 0 dL_law_745 rfl rfl ?_
  refine v_iconst (v := 3) dL_law_746 (by first | rfl | decide) ?_
  refine v_iadd dL_law_747 ?_
  refine v_roi (ro_script G) dL_law_748 (ix_in (a := 5 * n) (b := 3) (by omega) (by omega)) (by omega) ?_
  refine v_callV (mc := 41 * k + 41) (ms := 2870 * k + 2870) (c_X6_matrix 12 h hs.1.1.1) cs_L_79 dL_law_749 h.1 rfl rfl (Nat.le_of_ble_eq_true rfl) ?_
  rintro _ m1 ⟨rfl, h1, f1⟩
  have h9b := h9.fo f1
  obtain ⟨fs9, h60⟩ := h9b.c60
  refine v_aload_n 1 dL_law_752 rfl rfl ?_
  refine v_aload_n 3 dL_law_753 rfl rfl ?_
  refine v_iload_n 0 dL_law_754 rfl rfl ?_
  refine v_iconst (v := 1) dL_law_755 (by first | rfl | decide) ?_
  refine v_iadd dL_law_756 ?_
  refine v_roi (ro_script G) dL_law_757 (ix_in (a := 5 * n) (b := 1) (by omega) (by omega)) (by omega) ?_
  refine v_aload_n 3 dL_law_758 rfl rfl ?_
  refine v_iload_n 0 dL_law_759 rfl rfl ?_
  refine v_iconst (v := 2) dL_law_760 (by first | rfl | decide) ?_
  refine v_iadd dL_law_761 ?_
  refine v_roi (ro_script G) dL_law_762 (ix_in (a := 5 * n) (b := 2) (by omega) (by omega)) (by omega) ?_
  refine v_aload_n 3 dL_law_763 rfl rfl ?_
  refine v_iload_n 0 dL_law_764 rfl rfl ?_
  refine v_iconst (v := 3) dL_law_765 (by first | rfl | decide) ?_
  refine v_iadd dL_law_766 ?_
  refine v_roi (ro_script G) dL_law_767 (ix_in (a := 5 * n) (b := 3) (by omega) (by omega)) (by omega) ?_
  refine v_callV (mc := 41 * k + 41) (ms := 2870 * k + 2870) (c_X7_matrix 12 h9b hs.1.1.1) cs_L_83 dL_law_768 h60 rfl rfl (Nat.le_of_ble_eq_true rfl) ?_
  rintro _ m2 ⟨rfl, h2, f2⟩
  refine v_lc_eq (tgt := 1753) dL_law_771 dL_law_772 (by decide) (fun _ => ?_) (fun z9 => absurd rfl z9)
  refine v_bud (mc1 := 41 * k) (ms1 := 2870 * k) (by omega) (by omega) ?_
  exact nx _ _ (h1.fp f2) h2 (hs.mono (Nat.le_succ n))

set_option maxRecDepth 20000 in
set_option maxHeartbeats 4000000 in
theorem law_trade {G : Cx} {P : Option Value → Hp → Prop} {n k : Nat} {σ : ST} {μ : Hp} (hL : 5 * n + 5 ≤ cL G) (hL2 : cL G ≤ 2560) (hn : n < 8192) (h : Cl σ μ) (h9 : Mo σ μ) (hs : Ws n σ) (nx : Nx G P n k) : V G M_L_law 17 (41 * k + 41) (2870 * k + 2870) P 777 (lawL n) [] μ := by
  refine v_aload_n 2 dL_law_777 rfl rfl ?_
  refine v_aload_n 3 dL_law_778 rfl rfl ?_
  refine v_iload_n 0 dL_law_779 rfl rfl ?_
  refine v_iconst (v := 1) dL_law_780 (by first | rfl | decide) ?_
  refine v_iadd dL_law_781 ?_
  refine v_roi (ro_script G) dL_law_782 (ix_in (a := 5 * n) (b := 1) (by omega) (by omega)) (by omega) ?_
  refine v_aload_n 3 dL_law_783 rfl rfl ?_
  refine v_iload_n 0 dL_law_784 rfl rfl ?_
  refine v_iconst (v := 2) dL_law_785 (by first | rfl | decide) ?_
  refine v_iadd dL_law_786 ?_
  refine v_roi (ro_script G) dL_law_787 (ix_in (a := 5 * n) (b := 2) (by omega) (by omega)) (by omega) ?_
  refine v_callV (mc := 41 * k + 41) (ms := 2870 * k + 2870) (c_X6_trade 13 h hs.1.1.1) cs_L_84 dL_law_788 h.1 rfl rfl (Nat.le_of_ble_eq_true rfl) ?_
  rintro _ m1 ⟨rfl, h1, f1⟩
  have h9b := h9.fo f1
  obtain ⟨fs9, h60⟩ := h9b.c60
  refine v_aload_n 1 dL_law_791 rfl rfl ?_
  refine v_aload_n 3 dL_law_792 rfl rfl ?_
  refine v_iload_n 0 dL_law_793 rfl rfl ?_
  refine v_iconst (v := 1) dL_law_794 (by first | rfl | decide) ?_
  refine v_iadd dL_law_795 ?_
  refine v_roi (ro_script G) dL_law_796 (ix_in (a := 5 * n) (b := 1) (by omega) (by omega)) (by omega) ?_
  refine v_aload_n 3 dL_law_797 rfl rfl ?_
  refine v_iload_n 0 dL_law_798 rfl rfl ?_
  refine v_iconst (v := 2) dL_law_799 (by first | rfl | decide) ?_
  refine v_iadd dL_law_800 ?_
  refine v_roi (ro_script G) dL_law_801 (ix_in (a := 5 * n) (b := 2) (by omega) (by omega)) (by omega) ?_
  refine v_callV (mc := 41 * k + 41) (ms := 2870 * k + 2870) (c_X7_trade 12 h9b hs.1.1.1) cs_L_87 dL_law_802 h60 rfl rfl (Nat.le_of_ble_eq_true rfl) ?_
  rintro _ m2 ⟨rfl, h2, f2⟩
  refine v_icmp_eq (tgt := 1753) dL_law_805 (by decide) (fun _ => ?_) (fun z9 => absurd rfl z9)
  refine v_bud (mc1 := 41 * k) (ms1 := 2870 * k) (by omega) (by omega) ?_
  exact nx _ _ (h1.fp f2) h2 (hs.mono (Nat.le_succ n))

