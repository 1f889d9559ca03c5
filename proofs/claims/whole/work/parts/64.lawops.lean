/-! THE LAW's calls, one block each -/
theorem lg_cmp_self (x : Int64) : lg_cmp x x = 0 := by
  have h : ¬ x < x := fun h => absurd h (by exact Int64.lt_irrefl)
  simp [lg_cmp, h]
theorem GoL.at {Ln : Nat} {xs : Nat → Int32} {p1 p2 : Nat} {L : List (Option Value)} {s1 s2 : List Value} {μ : gm_M} (h : p1 = p2) (h2 : s1 = s2) (g : GoL Ln xs p2 L s2 μ) : GoL Ln xs p1 L s1 μ := by
  subst h h2; exact g
theorem pm_type {r : RS} {μ : gm_M} (hC : CA r μ) (x : Int32) (b : Int32) : ∃ (v : Int32) (r2 : RS), Sat yX11_type cX11_type 4 (some .int) 5 [(.ref 0), (.int x), (.int b)] μ (fun r' μ' => r' = some (.int v) ∧ CA r2 μ' ∧ FrR 0 51 μ μ') ∧ ∀ μ1, MA r μ1 → Sat yX12_type cX12_type 3 (some .int) 2 [(.ref 52), (.int x), (.int b)] μ1 (fun r' μ' => r' = some (.int v) ∧ MA r2 μ' ∧ FrR 52 80 μ1 μ') := by
  by_cases h0 : x = 0
  · subst h0; exact ⟨_, _, p_type0 hC b, fun _ hM => m_type0 hM b⟩
  · by_cases h1 : x = 1
    · subst h1; exact ⟨_, _, p_type1 hC b, fun _ hM => m_type1 hM b⟩
    · exact ⟨_, _, p_typeB hC h0 h1 b, fun _ hM => m_typeB hM h0 h1 b⟩
theorem pm_wipe {r : RS} {μ : gm_M} (hC : CA r μ) (x : Int32) : ∃ (v : Int32) (r2 : RS), Sat yX11_wipe cX11_wipe 4 (some .int) 5 [(.ref 0), (.int x)] μ (fun r' μ' => r' = some (.int v) ∧ CA r2 μ' ∧ FrR 0 51 μ μ') ∧ ∀ μ1, MA r μ1 → Sat yX12_wipe cX12_wipe 3 (some .int) 2 [(.ref 52), (.int x)] μ1 (fun r' μ' => r' = some (.int v) ∧ MA r2 μ' ∧ FrR 52 80 μ1 μ') := by
  by_cases h0 : x = 0
  · subst h0; exact ⟨_, _, p_wipe0 hC, fun _ hM => m_wipe0 hM⟩
  · by_cases h1 : x = 1
    · subst h1; exact ⟨_, _, p_wipe1 hC, fun _ hM => m_wipe1 hM⟩
    · exact ⟨_, _, p_wipeB hC h0 h1, fun _ hM => m_wipeB hM h0 h1⟩
theorem pm_undo {r : RS} {μ : gm_M} (hC : CA r μ) (x : Int32) : ∃ (v : Int32) (r2 : RS), Sat yX11_undo cX11_undo 3 (some .int) 5 [(.ref 0), (.int x)] μ (fun r' μ' => r' = some (.int v) ∧ CA r2 μ' ∧ FrR 0 51 μ μ') ∧ ∀ μ1, MA r μ1 → Sat yX12_undo cX12_undo 2 (some .int) 2 [(.ref 52), (.int x)] μ1 (fun r' μ' => r' = some (.int v) ∧ MA r2 μ' ∧ FrR 52 80 μ1 μ') := by
  by_cases h0 : x = 0
  · subst h0; exact ⟨_, _, p_undo0 hC, fun _ hM => m_undo0 hM⟩
  · by_cases h1 : x = 1
    · subst h1; exact ⟨_, _, p_undo1 hC, fun _ hM => m_undo1 hM⟩
    · exact ⟨_, _, p_undoB hC h0 h1, fun _ hM => m_undoB hM h0 h1⟩
theorem gin_01 {x : Int32} (h0 : ¬ x = 0) (h1 : ¬ x = 1) : ¬ gin x 0 1 = true := by
  intro g
  obtain ⟨k, hk, rfl⟩ := gin_of (N := 1) (by decide) (by decide) g
  rcases (show k = 0 ∨ k = 1 by omega) with rfl | rfl
  · exact h0 (by decide)
  · exact h1 (by decide)
theorem m_faultS {r : RS} {μ : gm_M} (hA : MA r μ) (t : Int32) {v : Int32} (e : sFault r t = v) : Sat yX12_fault cX12_fault 2 (some .int) 5 [(.ref 52), (.int t)] μ (fun r' μ' => r' = some (.int v) ∧ MA r μ' ∧ FrR 52 80 μ μ') :=
  Sat.post (fun _ _ h => ⟨by rw [← e]; exact h.1, hA.fx h.2, h.2.fm⟩) (m_fault hA t)
theorem pm_fault {r : RS} {μ : gm_M} (hC : CA r μ) (x : Int32) : ∃ (v : Int32) (r2 : RS), Sat yX11_fault cX11_fault 2 (some .int) 1 [(.ref 0), (.int x)] μ (fun r' μ' => r' = some (.int v) ∧ CA r2 μ' ∧ FrR 0 51 μ μ') ∧ ∀ μ1, MA r μ1 → Sat yX12_fault cX12_fault 2 (some .int) 5 [(.ref 52), (.int x)] μ1 (fun r' μ' => r' = some (.int v) ∧ MA r2 μ' ∧ FrR 52 80 μ1 μ') := by
  by_cases h0 : x = 0
  · subst h0; exact ⟨_, _, p_fault0 hC, fun _ hM => m_faultS hM 0 (by unfold sFault; rw [if_pos (by decide), if_pos rfl])⟩
  · by_cases h1 : x = 1
    · subst h1; exact ⟨_, _, p_fault1 hC, fun _ hM => m_faultS hM 1 (by unfold sFault; rw [if_pos (by decide), if_neg (by decide)])⟩
    · exact ⟨_, _, p_faultB hC h0 h1, fun _ hM => m_faultS hM x (by unfold sFault; rw [if_neg (gin_01 h0 h1)])⟩
theorem lw_op_type {Ln : Nat} {xs : Nat → Int32} {i : Nat} {r : RS} {μ : gm_M} (hi : i + 6 ≤ Ln) (hL : Ln ≤ 3072) (hC : CA r μ) (hM : MA r μ) (K : ∀ r2 μ2, CA r2 μ2 → MA r2 μ2 → GoL Ln xs 1275 (lwL i) [] μ2) : GoL Ln xs 188 (lwL i) [] μ := by
  obtain ⟨v, r2, hp, hm⟩ := pm_type hC (xs (i + 1)) (xs (i + 2))
  refine gl_a1 dL_law_188 ?_
  refine gl_arg1 hi hL dL_law_189 dL_law_190 dL_law_191 dL_law_192 dL_law_193 ?_
  refine gl_arg2 hi hL dL_law_194 dL_law_195 dL_law_196 dL_law_197 dL_law_198 ?_
  refine gl_V (As := [.int (xs (i + 1)), .int (xs (i + 2))]) (rest := []) (c0 := 0) mcX11_type mvX11_type kL_13 rfl dL_law_199 rfl rfl rfl (hp) ?_
  rintro _ μ1 ⟨rfl, hC1, hf⟩
  have hM1 := hM.out hf
  refine GoL.at (p2 := 202) (s2 := [_]) rfl rfl ?_
  refine gl_a2 dL_law_202 ?_
  refine gl_arg1 hi hL dL_law_203 dL_law_204 dL_law_205 dL_law_206 dL_law_207 ?_
  refine gl_arg2 hi hL dL_law_208 dL_law_209 dL_law_210 dL_law_211 dL_law_212 ?_
  refine gl_V (As := [.int (xs (i + 1)), .int (xs (i + 2))]) (rest := [_]) (c0 := 52) mcX12_type mvX12_type kL_17 rfl dL_law_213 rfl rfl rfl (hm μ1 hM1) ?_
  rintro _ μ2 ⟨rfl, hM2, hf2⟩
  exact gl_ceq 1275 dL_law_216 rfl rfl (K _ μ2 (hC1.out hf2) hM2)
theorem lw_op_wipe {Ln : Nat} {xs : Nat → Int32} {i : Nat} {r : RS} {μ : gm_M} (hi : i + 6 ≤ Ln) (hL : Ln ≤ 3072) (hC : CA r μ) (hM : MA r μ) (K : ∀ r2 μ2, CA r2 μ2 → MA r2 μ2 → GoL Ln xs 1275 (lwL i) [] μ2) : GoL Ln xs 221 (lwL i) [] μ := by
  obtain ⟨v, r2, hp, hm⟩ := pm_wipe hC (xs (i + 1))
  refine gl_a1 dL_law_221 ?_
  refine gl_arg1 hi hL dL_law_222 dL_law_223 dL_law_224 dL_law_225 dL_law_226 ?_
  refine gl_V (As := [.int (xs (i + 1))]) (rest := []) (c0 := 0) mcX11_wipe mvX11_wipe kL_18 rfl dL_law_227 rfl rfl rfl (hp) ?_
  rintro _ μ1 ⟨rfl, hC1, hf⟩
  have hM1 := hM.out hf
  refine GoL.at (p2 := 230) (s2 := [_]) rfl rfl ?_
  refine gl_a2 dL_law_230 ?_
  refine gl_arg1 hi hL dL_law_231 dL_law_232 dL_law_233 dL_law_234 dL_law_235 ?_
  refine gl_V (As := [.int (xs (i + 1))]) (rest := [_]) (c0 := 52) mcX12_wipe mvX12_wipe kL_22 rfl dL_law_236 rfl rfl rfl (hm μ1 hM1) ?_
  rintro _ μ2 ⟨rfl, hM2, hf2⟩
  exact gl_ceq 1275 dL_law_239 rfl rfl (K _ μ2 (hC1.out hf2) hM2)
theorem lw_op_undo {Ln : Nat} {xs : Nat → Int32} {i : Nat} {r : RS} {μ : gm_M} (hi : i + 6 ≤ Ln) (hL : Ln ≤ 3072) (hC : CA r μ) (hM : MA r μ) (K : ∀ r2 μ2, CA r2 μ2 → MA r2 μ2 → GoL Ln xs 1275 (lwL i) [] μ2) : GoL Ln xs 244 (lwL i) [] μ := by
  obtain ⟨v, r2, hp, hm⟩ := pm_undo hC (xs (i + 1))
  refine gl_a1 dL_law_244 ?_
  refine gl_arg1 hi hL dL_law_245 dL_law_246 dL_law_247 dL_law_248 dL_law_249 ?_
  refine gl_V (As := [.int (xs (i + 1))]) (rest := []) (c0 := 0) mcX11_undo mvX11_undo kL_23 rfl dL_law_250 rfl rfl rfl (hp) ?_
  rintro _ μ1 ⟨rfl, hC1, hf⟩
  have hM1 := hM.out hf
  refine GoL.at (p2 := 253) (s2 := [_]) rfl rfl ?_
  refine gl_a2 dL_law_253 ?_
  refine gl_arg1 hi hL dL_law_254 dL_law_255 dL_law_256 dL_law_257 dL_law_258 ?_
  refine gl_V (As := [.int (xs (i + 1))]) (rest := [_]) (c0 := 52) mcX12_undo mvX12_undo kL_26 rfl dL_law_259 rfl rfl rfl (hm μ1 hM1) ?_
  rintro _ μ2 ⟨rfl, hM2, hf2⟩
  exact gl_ceq 1275 dL_law_262 rfl rfl (K _ μ2 (hC1.out hf2) hM2)
theorem lw_op_fault {Ln : Nat} {xs : Nat → Int32} {i : Nat} {r : RS} {μ : gm_M} (hi : i + 6 ≤ Ln) (hL : Ln ≤ 3072) (hC : CA r μ) (hM : MA r μ) (K : ∀ r2 μ2, CA r2 μ2 → MA r2 μ2 → GoL Ln xs 1275 (lwL i) [] μ2) : GoL Ln xs 267 (lwL i) [] μ := by
  obtain ⟨v, r2, hp, hm⟩ := pm_fault hC (xs (i + 1))
  refine gl_a1 dL_law_267 ?_
  refine gl_arg1 hi hL dL_law_268 dL_law_269 dL_law_270 dL_law_271 dL_law_272 ?_
  refine gl_V (As := [.int (xs (i + 1))]) (rest := []) (c0 := 0) mcX11_fault mvX11_fault kL_27 rfl dL_law_273 rfl rfl rfl (hp) ?_
  rintro _ μ1 ⟨rfl, hC1, hf⟩
  have hM1 := hM.out hf
  refine GoL.at (p2 := 276) (s2 := [_]) rfl rfl ?_
  refine gl_a2 dL_law_276 ?_
  refine gl_arg1 hi hL dL_law_277 dL_law_278 dL_law_279 dL_law_280 dL_law_281 ?_
  refine gl_V (As := [.int (xs (i + 1))]) (rest := [_]) (c0 := 52) mcX12_fault mvX12_fault kL_30 rfl dL_law_282 rfl rfl rfl (hm μ1 hM1) ?_
  rintro _ μ2 ⟨rfl, hM2, hf2⟩
  exact gl_ceq 1275 dL_law_285 rfl rfl (K _ μ2 (hC1.out hf2) hM2)
theorem lw_op_wheel {Ln : Nat} {xs : Nat → Int32} {i : Nat} {r : RS} {μ : gm_M} (hi : i + 6 ≤ Ln) (hL : Ln ≤ 3072) (hC : CA r μ) (hM : MA r μ) (K : ∀ r2 μ2, CA r2 μ2 → MA r2 μ2 → GoL Ln xs 1275 (lwL i) [] μ2) : GoL Ln xs 290 (lwL i) [] μ := by
  refine gl_a1 dL_law_290 ?_
  refine gl_arg1 hi hL dL_law_291 dL_law_292 dL_law_293 dL_law_294 dL_law_295 ?_
  refine gl_arg2 hi hL dL_law_296 dL_law_297 dL_law_298 dL_law_299 dL_law_300 ?_
  refine gl_V (As := [.int (xs (i + 1)), .int (xs (i + 2))]) (rest := []) (c0 := 0) mcX11_wheel mvX11_wheel kL_31 rfl dL_law_301 rfl rfl rfl (p_wheel hC.q (xs (i + 1)) (xs (i + 2))) ?_
  rintro _ μ1 ⟨rfl, hf⟩
  have hC1 := hC.fr hf
  have hM1 := hM.out hf.inn
  refine GoL.at (p2 := 304) (s2 := [_]) rfl rfl ?_
  refine gl_a2 dL_law_304 ?_
  refine gl_arg1 hi hL dL_law_305 dL_law_306 dL_law_307 dL_law_308 dL_law_309 ?_
  refine gl_arg2 hi hL dL_law_310 dL_law_311 dL_law_312 dL_law_313 dL_law_314 ?_
  refine gl_V (As := [.int (xs (i + 1)), .int (xs (i + 2))]) (rest := [_]) (c0 := 52) mcX12_wheel mvX12_wheel kL_34 rfl dL_law_315 rfl rfl rfl (m_wheel hM1 (xs (i + 1)) (xs (i + 2))) ?_
  rintro _ μ2 ⟨rfl, hx⟩
  exact gl_ceq 1275 dL_law_318 rfl rfl (K _ μ2 (hC1.out hx.fm) (hM1.fx hx))
theorem lw_op_warm {Ln : Nat} {xs : Nat → Int32} {i : Nat} {r : RS} {μ : gm_M} (hi : i + 6 ≤ Ln) (hL : Ln ≤ 3072) (hC : CA r μ) (hM : MA r μ) (K : ∀ r2 μ2, CA r2 μ2 → MA r2 μ2 → GoL Ln xs 1275 (lwL i) [] μ2) : GoL Ln xs 323 (lwL i) [] μ := by
  refine gl_a1 dL_law_323 ?_
  refine gl_arg1 hi hL dL_law_324 dL_law_325 dL_law_326 dL_law_327 dL_law_328 ?_
  refine gl_V (As := [.int (xs (i + 1))]) (rest := []) (c0 := 0) mcX11_warm mvX11_warm kL_35 rfl dL_law_329 rfl rfl rfl (p_warm hC.q (xs (i + 1))) ?_
  rintro _ μ1 ⟨rfl, hf⟩
  have hC1 := hC.fr hf
  have hM1 := hM.out hf.inn
  refine GoL.at (p2 := 332) (s2 := [_]) rfl rfl ?_
  refine gl_a2 dL_law_332 ?_
  refine gl_arg1 hi hL dL_law_333 dL_law_334 dL_law_335 dL_law_336 dL_law_337 ?_
  refine gl_V (As := [.int (xs (i + 1))]) (rest := [_]) (c0 := 52) mcX12_warm mvX12_warm kL_38 rfl dL_law_338 rfl rfl rfl (m_warm hM1 (xs (i + 1))) ?_
  rintro _ μ2 ⟨rfl, hx⟩
  exact gl_ceq 1275 dL_law_341 rfl rfl (K _ μ2 (hC1.out hx.fm) (hM1.fx hx))
theorem lw_op_set {Ln : Nat} {xs : Nat → Int32} {i : Nat} {r : RS} {μ : gm_M} (hi : i + 6 ≤ Ln) (hL : Ln ≤ 3072) (hC : CA r μ) (hM : MA r μ) (K : ∀ r2 μ2, CA r2 μ2 → MA r2 μ2 → GoL Ln xs 1275 (lwL i) [] μ2) : GoL Ln xs 346 (lwL i) [] μ := by
  refine gl_a1 dL_law_346 ?_
  refine gl_arg1 hi hL dL_law_347 dL_law_348 dL_law_349 dL_law_350 dL_law_351 ?_
  refine gl_arg2 hi hL dL_law_352 dL_law_353 dL_law_354 dL_law_355 dL_law_356 ?_
  refine gl_V (As := [.int (xs (i + 1)), .int (xs (i + 2))]) (rest := []) (c0 := 0) mcX11_set mvX11_set kL_39 rfl dL_law_357 rfl rfl rfl (p_set hC (xs (i + 1)) (xs (i + 2))) ?_
  rintro _ μ1 ⟨rfl, hC1, hf⟩
  have hM1 := hM.out hf
  refine GoL.at (p2 := 360) (s2 := [_]) rfl rfl ?_
  refine gl_a2 dL_law_360 ?_
  refine gl_arg1 hi hL dL_law_361 dL_law_362 dL_law_363 dL_law_364 dL_law_365 ?_
  refine gl_arg2 hi hL dL_law_366 dL_law_367 dL_law_368 dL_law_369 dL_law_370 ?_
  refine gl_V (As := [.int (xs (i + 1)), .int (xs (i + 2))]) (rest := [_]) (c0 := 52) mcX12_set mvX12_set kL_42 rfl dL_law_371 rfl rfl rfl (m_set hM1 (xs (i + 1)) (xs (i + 2))) ?_
  rintro _ μ2 ⟨rfl, hM2, hf2⟩
  exact gl_ceq 1275 dL_law_374 rfl rfl (K _ μ2 (hC1.out hf2) hM2)
theorem lw_op_turning {Ln : Nat} {xs : Nat → Int32} {i : Nat} {r : RS} {μ : gm_M} (hi : i + 6 ≤ Ln) (hL : Ln ≤ 3072) (hC : CA r μ) (hM : MA r μ) (K : ∀ r2 μ2, CA r2 μ2 → MA r2 μ2 → GoL Ln xs 1275 (lwL i) [] μ2) : GoL Ln xs 379 (lwL i) [] μ := by
  refine gl_a1 dL_law_379 ?_
  refine gl_arg1 hi hL dL_law_380 dL_law_381 dL_law_382 dL_law_383 dL_law_384 ?_
  refine gl_arg2 hi hL dL_law_385 dL_law_386 dL_law_387 dL_law_388 dL_law_389 ?_
  refine gl_V (As := [.int (xs (i + 1)), .int (xs (i + 2))]) (rest := []) (c0 := 0) mcX11_turning mvX11_turning kL_43 rfl dL_law_390 rfl rfl rfl (p_turning hC (xs (i + 1)) (xs (i + 2))) ?_
  rintro _ μ1 ⟨rfl, hC1, hf⟩
  have hM1 := hM.out hf
  refine GoL.at (p2 := 393) (s2 := [_]) rfl rfl ?_
  refine gl_a2 dL_law_393 ?_
  refine gl_arg1 hi hL dL_law_394 dL_law_395 dL_law_396 dL_law_397 dL_law_398 ?_
  refine gl_arg2 hi hL dL_law_399 dL_law_400 dL_law_401 dL_law_402 dL_law_403 ?_
  refine gl_V (As := [.int (xs (i + 1)), .int (xs (i + 2))]) (rest := [_]) (c0 := 52) mcX12_turning mvX12_turning kL_46 rfl dL_law_404 rfl rfl rfl (m_turning hM1 (xs (i + 1)) (xs (i + 2))) ?_
  rintro _ μ2 ⟨rfl, hM2, hf2⟩
  exact gl_ceq 1275 dL_law_407 rfl rfl (K _ μ2 (hC1.out hf2) hM2)
theorem lw_op_knock {Ln : Nat} {xs : Nat → Int32} {i : Nat} {r : RS} {μ : gm_M} (hi : i + 6 ≤ Ln) (hL : Ln ≤ 3072) (hC : CA r μ) (hM : MA r μ) (K : ∀ r2 μ2, CA r2 μ2 → MA r2 μ2 → GoL Ln xs 1275 (lwL i) [] μ2) : GoL Ln xs 412 (lwL i) [] μ := by
  refine gl_a1 dL_law_412 ?_
  refine gl_arg1 hi hL dL_law_413 dL_law_414 dL_law_415 dL_law_416 dL_law_417 ?_
  refine gl_arg2 hi hL dL_law_418 dL_law_419 dL_law_420 dL_law_421 dL_law_422 ?_
  refine gl_V (As := [.int (xs (i + 1)), .int (xs (i + 2))]) (rest := []) (c0 := 0) mcX11_knock mvX11_knock kL_47 rfl dL_law_423 rfl rfl rfl (p_knock hC (xs (i + 1)) (xs (i + 2))) ?_
  rintro _ μ1 ⟨rfl, hC1, hf⟩
  have hM1 := hM.out hf
  refine GoL.at (p2 := 426) (s2 := [_]) rfl rfl ?_
  refine gl_a2 dL_law_426 ?_
  refine gl_arg1 hi hL dL_law_427 dL_law_428 dL_law_429 dL_law_430 dL_law_431 ?_
  refine gl_arg2 hi hL dL_law_432 dL_law_433 dL_law_434 dL_law_435 dL_law_436 ?_
  refine gl_V (As := [.int (xs (i + 1)), .int (xs (i + 2))]) (rest := [_]) (c0 := 52) mcX12_knock mvX12_knock kL_50 rfl dL_law_437 rfl rfl rfl (m_knock hM1 (xs (i + 1)) (xs (i + 2))) ?_
  rintro _ μ2 ⟨rfl, hM2, hf2⟩
  exact gl_ceq 1275 dL_law_440 rfl rfl (K _ μ2 (hC1.out hf2) hM2)
theorem lw_op_back {Ln : Nat} {xs : Nat → Int32} {i : Nat} {r : RS} {μ : gm_M} (hi : i + 6 ≤ Ln) (hL : Ln ≤ 3072) (hC : CA r μ) (hM : MA r μ) (K : ∀ r2 μ2, CA r2 μ2 → MA r2 μ2 → GoL Ln xs 1275 (lwL i) [] μ2) : GoL Ln xs 445 (lwL i) [] μ := by
  refine gl_a1 dL_law_445 ?_
  refine gl_arg1 hi hL dL_law_446 dL_law_447 dL_law_448 dL_law_449 dL_law_450 ?_
  refine gl_V (As := [.int (xs (i + 1))]) (rest := []) (c0 := 0) mcX11_back mvX11_back kL_51 rfl dL_law_451 rfl rfl rfl (p_back hC (xs (i + 1))) ?_
  rintro _ μ1 ⟨rfl, hC1, hf⟩
  have hM1 := hM.out hf
  refine GoL.at (p2 := 454) (s2 := [_]) rfl rfl ?_
  refine gl_a2 dL_law_454 ?_
  refine gl_arg1 hi hL dL_law_455 dL_law_456 dL_law_457 dL_law_458 dL_law_459 ?_
  refine gl_V (As := [.int (xs (i + 1))]) (rest := [_]) (c0 := 52) mcX12_back mvX12_back kL_54 rfl dL_law_460 rfl rfl rfl (m_back hM1 (xs (i + 1))) ?_
  rintro _ μ2 ⟨rfl, hM2, hf2⟩
  exact gl_ceq 1275 dL_law_463 rfl rfl (K _ μ2 (hC1.out hf2) hM2)
theorem lw_op_read {Ln : Nat} {xs : Nat → Int32} {i : Nat} {r : RS} {μ : gm_M} (hi : i + 6 ≤ Ln) (hL : Ln ≤ 3072) (hC : CA r μ) (hM : MA r μ) (K : ∀ r2 μ2, CA r2 μ2 → MA r2 μ2 → GoL Ln xs 1275 (lwL i) [] μ2) : GoL Ln xs 468 (lwL i) [] μ := by
  refine gl_a1 dL_law_468 ?_
  refine gl_arg1 hi hL dL_law_469 dL_law_470 dL_law_471 dL_law_472 dL_law_473 ?_
  refine gl_V (As := [.int (xs (i + 1))]) (rest := []) (c0 := 0) mcX11_read mvX11_read kL_55 rfl dL_law_474 rfl rfl rfl (p_read hC (xs (i + 1))) ?_
  rintro _ μ1 ⟨rfl, hC1, hf⟩
  have hM1 := hM.out hf
  refine GoL.at (p2 := 477) (s2 := [_]) rfl rfl ?_
  refine gl_a2 dL_law_477 ?_
  refine gl_arg1 hi hL dL_law_478 dL_law_479 dL_law_480 dL_law_481 dL_law_482 ?_
  refine gl_V (As := [.int (xs (i + 1))]) (rest := [_]) (c0 := 52) mcX12_read mvX12_read kL_58 rfl dL_law_483 rfl rfl rfl (m_read hM1 (xs (i + 1))) ?_
  rintro _ μ2 ⟨rfl, hM2, hf2⟩
  exact gl_ceq 1275 dL_law_486 rfl rfl (K _ μ2 (hC1.out hf2) hM2)
theorem lw_op_at {Ln : Nat} {xs : Nat → Int32} {i : Nat} {r : RS} {μ : gm_M} (hi : i + 6 ≤ Ln) (hL : Ln ≤ 3072) (hC : CA r μ) (hM : MA r μ) (K : ∀ r2 μ2, CA r2 μ2 → MA r2 μ2 → GoL Ln xs 1275 (lwL i) [] μ2) : GoL Ln xs 491 (lwL i) [] μ := by
  refine gl_a1 dL_law_491 ?_
  refine gl_arg1 hi hL dL_law_492 dL_law_493 dL_law_494 dL_law_495 dL_law_496 ?_
  refine gl_arg2 hi hL dL_law_497 dL_law_498 dL_law_499 dL_law_500 dL_law_501 ?_
  refine gl_arg3 hi hL dL_law_502 dL_law_503 dL_law_504 dL_law_505 dL_law_506 ?_
  refine gl_V (As := [.int (xs (i + 1)), .int (xs (i + 2)), .int (xs (i + 3))]) (rest := []) (c0 := 0) mcX11_at mvX11_at kL_59 rfl dL_law_507 rfl rfl rfl (p_at hC.q (xs (i + 1)) (xs (i + 2)) (xs (i + 3))) ?_
  rintro _ μ1 ⟨rfl, hf⟩
  have hC1 := hC.fr hf
  have hM1 := hM.out hf.inn
  refine GoL.at (p2 := 510) (s2 := [_]) rfl rfl ?_
  refine gl_a2 dL_law_510 ?_
  refine gl_arg1 hi hL dL_law_511 dL_law_512 dL_law_513 dL_law_514 dL_law_515 ?_
  refine gl_arg2 hi hL dL_law_516 dL_law_517 dL_law_518 dL_law_519 dL_law_520 ?_
  refine gl_arg3 hi hL dL_law_521 dL_law_522 dL_law_523 dL_law_524 dL_law_525 ?_
  refine gl_V (As := [.int (xs (i + 1)), .int (xs (i + 2)), .int (xs (i + 3))]) (rest := [_]) (c0 := 52) mcX12_at mvX12_at kL_63 rfl dL_law_526 rfl rfl rfl (m_at hM1 (xs (i + 1)) (xs (i + 2)) (xs (i + 3))) ?_
  rintro _ μ2 ⟨rfl, hx⟩
  exact gl_ceq 1275 dL_law_529 rfl rfl (K _ μ2 (hC1.out hx.fm) (hM1.fx hx))
theorem lw_op_longs {Ln : Nat} {xs : Nat → Int32} {i : Nat} {r : RS} {μ : gm_M} (hi : i + 6 ≤ Ln) (hL : Ln ≤ 3072) (hC : CA r μ) (hM : MA r μ) (K : ∀ r2 μ2, CA r2 μ2 → MA r2 μ2 → GoL Ln xs 1275 (lwL i) [] μ2) : GoL Ln xs 534 (lwL i) [] μ := by
  refine gl_a1 dL_law_534 ?_
  refine gl_arg1 hi hL dL_law_535 dL_law_536 dL_law_537 dL_law_538 dL_law_539 ?_
  refine gl_V (As := [.int (xs (i + 1))]) (rest := []) (c0 := 0) mcX11_longs mvX11_longs kL_64 rfl dL_law_540 rfl rfl rfl (p_longs hC.q (xs (i + 1))) ?_
  rintro _ μ1 ⟨rfl, hf⟩
  have hC1 := hC.fr hf
  have hM1 := hM.out hf.inn
  refine GoL.at (p2 := 543) (s2 := [_]) rfl rfl ?_
  refine gl_a2 dL_law_543 ?_
  refine gl_arg1 hi hL dL_law_544 dL_law_545 dL_law_546 dL_law_547 dL_law_548 ?_
  refine gl_V (As := [.int (xs (i + 1))]) (rest := [_]) (c0 := 52) mcX12_longs mvX12_longs kL_67 rfl dL_law_549 rfl rfl rfl (m_longs hM1 (xs (i + 1))) ?_
  rintro _ μ2 ⟨rfl, hx⟩
  exact gl_ceq 1275 dL_law_552 rfl rfl (K _ μ2 (hC1.out hx.fm) (hM1.fx hx))
theorem lw_op_scream {Ln : Nat} {xs : Nat → Int32} {i : Nat} {r : RS} {μ : gm_M} (hi : i + 6 ≤ Ln) (hL : Ln ≤ 3072) (hC : CA r μ) (hM : MA r μ) (K : ∀ r2 μ2, CA r2 μ2 → MA r2 μ2 → GoL Ln xs 1275 (lwL i) [] μ2) : GoL Ln xs 557 (lwL i) [] μ := by
  refine gl_a1 dL_law_557 ?_
  refine gl_arg1 hi hL dL_law_558 dL_law_559 dL_law_560 dL_law_561 dL_law_562 ?_
  refine gl_V (As := [.int (xs (i + 1))]) (rest := []) (c0 := 0) mcX11_scream mvX11_scream kL_68 rfl dL_law_563 rfl rfl rfl (p_scream hC.q (xs (i + 1))) ?_
  rintro _ μ1 ⟨rfl, hf⟩
  have hC1 := hC.fr hf
  have hM1 := hM.out hf.inn
  refine GoL.at (p2 := 566) (s2 := [_]) rfl rfl ?_
  refine gl_a2 dL_law_566 ?_
  refine gl_arg1 hi hL dL_law_567 dL_law_568 dL_law_569 dL_law_570 dL_law_571 ?_
  refine gl_V (As := [.int (xs (i + 1))]) (rest := [_]) (c0 := 52) mcX12_scream mvX12_scream kL_71 rfl dL_law_572 rfl rfl rfl (m_scream hM1 (xs (i + 1))) ?_
  rintro _ μ2 ⟨rfl, hx⟩
  exact gl_ceq 1275 dL_law_575 rfl rfl (K _ μ2 (hC1.out hx.fm) (hM1.fx hx))
theorem lw_op_chord {Ln : Nat} {xs : Nat → Int32} {i : Nat} {r : RS} {μ : gm_M} (hi : i + 6 ≤ Ln) (hL : Ln ≤ 3072) (hC : CA r μ) (hM : MA r μ) (K : ∀ r2 μ2, CA r2 μ2 → MA r2 μ2 → GoL Ln xs 1275 (lwL i) [] μ2) : GoL Ln xs 580 (lwL i) [] μ := by
  refine gl_a1 dL_law_580 ?_
  refine gl_arg1 hi hL dL_law_581 dL_law_582 dL_law_583 dL_law_584 dL_law_585 ?_
  refine gl_arg2 hi hL dL_law_586 dL_law_587 dL_law_588 dL_law_589 dL_law_590 ?_
  refine gl_V (As := [.int (xs (i + 1)), .int (xs (i + 2))]) (rest := []) (c0 := 0) mcX11_chord mvX11_chord kL_72 rfl dL_law_591 rfl rfl rfl (p_chord hC.q (xs (i + 1)) (xs (i + 2))) ?_
  rintro _ μ1 ⟨rfl, hf⟩
  have hC1 := hC.fr hf
  have hM1 := hM.out hf.inn
  refine GoL.at (p2 := 594) (s2 := [_]) rfl rfl ?_
  refine gl_a2 dL_law_594 ?_
  refine gl_arg1 hi hL dL_law_595 dL_law_596 dL_law_597 dL_law_598 dL_law_599 ?_
  refine gl_arg2 hi hL dL_law_600 dL_law_601 dL_law_602 dL_law_603 dL_law_604 ?_
  refine gl_V (As := [.int (xs (i + 1)), .int (xs (i + 2))]) (rest := [_]) (c0 := 52) mcX12_chord mvX12_chord kL_75 rfl dL_law_605 rfl rfl rfl (m_chord hM1 (xs (i + 1)) (xs (i + 2))) ?_
  rintro _ μ2 ⟨rfl, hx⟩
  exact gl_ceq 1275 dL_law_608 rfl rfl (K _ μ2 (hC1.out hx.fm) (hM1.fx hx))
theorem lw_op_hush {Ln : Nat} {xs : Nat → Int32} {i : Nat} {r : RS} {μ : gm_M} (hi : i + 6 ≤ Ln) (hL : Ln ≤ 3072) (hC : CA r μ) (hM : MA r μ) (K : ∀ r2 μ2, CA r2 μ2 → MA r2 μ2 → GoL Ln xs 1275 (lwL i) [] μ2) : GoL Ln xs 613 (lwL i) [] μ := by
  refine gl_a1 dL_law_613 ?_
  refine gl_V (As := []) (rest := []) (c0 := 0) mcX11_hush mvX11_hush kL_76 rfl dL_law_614 rfl rfl rfl (p_hush hC.q ) ?_
  rintro _ μ1 ⟨rfl, hf⟩
  have hC1 := hC.fr hf
  have hM1 := hM.out hf.inn
  refine GoL.at (p2 := 617) (s2 := [_]) rfl rfl ?_
  refine gl_a2 dL_law_617 ?_
  refine gl_V (As := []) (rest := [_]) (c0 := 52) mcX12_hush mvX12_hush kL_80 rfl dL_law_618 rfl rfl rfl (m_hush hM1 ) ?_
  rintro _ μ2 ⟨rfl, hx⟩
  exact gl_ceq 1275 dL_law_621 rfl rfl (K _ μ2 (hC1.out hx.fm) (hM1.fx hx))
theorem lw_op_ripe {Ln : Nat} {xs : Nat → Int32} {i : Nat} {r : RS} {μ : gm_M} (hi : i + 6 ≤ Ln) (hL : Ln ≤ 3072) (hC : CA r μ) (hM : MA r μ) (K : ∀ r2 μ2, CA r2 μ2 → MA r2 μ2 → GoL Ln xs 1275 (lwL i) [] μ2) : GoL Ln xs 626 (lwL i) [] μ := by
  refine gl_a1 dL_law_626 ?_
  refine gl_arg1 hi hL dL_law_627 dL_law_628 dL_law_629 dL_law_630 dL_law_631 ?_
  refine gl_arg2 hi hL dL_law_632 dL_law_633 dL_law_634 dL_law_635 dL_law_636 ?_
  refine gl_arg3 hi hL dL_law_637 dL_law_638 dL_law_639 dL_law_640 dL_law_641 ?_
  refine gl_V (As := [.int (xs (i + 1)), .int (xs (i + 2)), .int (xs (i + 3))]) (rest := []) (c0 := 0) mcX11_ripe mvX11_ripe kL_81 rfl dL_law_642 rfl rfl rfl (p_ripe hC.q (xs (i + 1)) (xs (i + 2)) (xs (i + 3))) ?_
  rintro _ μ1 ⟨rfl, hf⟩
  have hC1 := hC.fr hf
  have hM1 := hM.out hf.inn
  refine GoL.at (p2 := 645) (s2 := [_]) rfl rfl ?_
  refine gl_a2 dL_law_645 ?_
  refine gl_arg1 hi hL dL_law_646 dL_law_647 dL_law_648 dL_law_649 dL_law_650 ?_
  refine gl_arg2 hi hL dL_law_651 dL_law_652 dL_law_653 dL_law_654 dL_law_655 ?_
  refine gl_arg3 hi hL dL_law_656 dL_law_657 dL_law_658 dL_law_659 dL_law_660 ?_
  refine gl_V (As := [.int (xs (i + 1)), .int (xs (i + 2)), .int (xs (i + 3))]) (rest := [_]) (c0 := 52) mcX12_ripe mvX12_ripe kL_84 rfl dL_law_661 rfl rfl rfl (m_ripe hM1 (xs (i + 1)) (xs (i + 2)) (xs (i + 3))) ?_
  rintro _ μ2 ⟨rfl, hx⟩
  exact gl_ceq 1275 dL_law_664 rfl rfl (K _ μ2 (hC1.out hx.fm) (hM1.fx hx))
theorem lw_op_cold {Ln : Nat} {xs : Nat → Int32} {i : Nat} {r : RS} {μ : gm_M} (hi : i + 6 ≤ Ln) (hL : Ln ≤ 3072) (hC : CA r μ) (hM : MA r μ) (K : ∀ r2 μ2, CA r2 μ2 → MA r2 μ2 → GoL Ln xs 1275 (lwL i) [] μ2) : GoL Ln xs 669 (lwL i) [] μ := by
  refine gl_a1 dL_law_669 ?_
  refine gl_arg1 hi hL dL_law_670 dL_law_671 dL_law_672 dL_law_673 dL_law_674 ?_
  refine gl_arg2 hi hL dL_law_675 dL_law_676 dL_law_677 dL_law_678 dL_law_679 ?_
  refine gl_V (As := [.int (xs (i + 1)), .int (xs (i + 2))]) (rest := []) (c0 := 0) mcX11_cold mvX11_cold kL_85 rfl dL_law_680 rfl rfl rfl (p_cold hC.q (xs (i + 1)) (xs (i + 2))) ?_
  rintro _ μ1 ⟨rfl, hf⟩
  have hC1 := hC.fr hf
  have hM1 := hM.out hf.inn
  refine GoL.at (p2 := 683) (s2 := [_]) rfl rfl ?_
  refine gl_a2 dL_law_683 ?_
  refine gl_arg1 hi hL dL_law_684 dL_law_685 dL_law_686 dL_law_687 dL_law_688 ?_
  refine gl_arg2 hi hL dL_law_689 dL_law_690 dL_law_691 dL_law_692 dL_law_693 ?_
  refine gl_V (As := [.int (xs (i + 1)), .int (xs (i + 2))]) (rest := [_]) (c0 := 52) mcX12_cold mvX12_cold kL_88 rfl dL_law_694 rfl rfl rfl (m_cold hM1 (xs (i + 1)) (xs (i + 2))) ?_
  rintro _ μ2 ⟨rfl, hx⟩
  exact gl_ceq 1275 dL_law_697 rfl rfl (K _ μ2 (hC1.out hx.fm) (hM1.fx hx))
theorem lw_op_come {Ln : Nat} {xs : Nat → Int32} {i : Nat} {r : RS} {μ : gm_M} (hi : i + 6 ≤ Ln) (hL : Ln ≤ 3072) (hC : CA r μ) (hM : MA r μ) (K : ∀ r2 μ2, CA r2 μ2 → MA r2 μ2 → GoL Ln xs 1275 (lwL i) [] μ2) : GoL Ln xs 702 (lwL i) [] μ := by
  refine gl_a1 dL_law_702 ?_
  refine gl_arg1 hi hL dL_law_703 dL_law_704 dL_law_705 dL_law_706 dL_law_707 ?_
  refine gl_arg2 hi hL dL_law_708 dL_law_709 dL_law_710 dL_law_711 dL_law_712 ?_
  refine gl_V (As := [.int (xs (i + 1)), .int (xs (i + 2))]) (rest := []) (c0 := 0) mcX11_come mvX11_come kL_89 rfl dL_law_713 rfl rfl rfl (p_come hC.q (xs (i + 1)) (xs (i + 2))) ?_
  rintro _ μ1 ⟨rfl, hf⟩
  have hC1 := hC.fr hf
  have hM1 := hM.out hf.inn
  refine GoL.at (p2 := 716) (s2 := [_]) rfl rfl ?_
  refine gl_a2 dL_law_716 ?_
  refine gl_arg1 hi hL dL_law_717 dL_law_718 dL_law_719 dL_law_720 dL_law_721 ?_
  refine gl_arg2 hi hL dL_law_722 dL_law_723 dL_law_724 dL_law_725 dL_law_726 ?_
  refine gl_V (As := [.int (xs (i + 1)), .int (xs (i + 2))]) (rest := [_]) (c0 := 52) mcX12_come mvX12_come kL_92 rfl dL_law_727 rfl rfl rfl (m_come hM1 (xs (i + 1)) (xs (i + 2))) ?_
  rintro _ μ2 ⟨rfl, hx⟩
  exact gl_ceq 1275 dL_law_730 rfl rfl (K _ μ2 (hC1.out hx.fm) (hM1.fx hx))
theorem lw_op_sale {Ln : Nat} {xs : Nat → Int32} {i : Nat} {r : RS} {μ : gm_M} (hi : i + 6 ≤ Ln) (hL : Ln ≤ 3072) (hC : CA r μ) (hM : MA r μ) (K : ∀ r2 μ2, CA r2 μ2 → MA r2 μ2 → GoL Ln xs 1275 (lwL i) [] μ2) : GoL Ln xs 735 (lwL i) [] μ := by
  refine gl_a1 dL_law_735 ?_
  refine gl_V (As := []) (rest := []) (c0 := 0) mcX11_sale mvX11_sale kL_93 rfl dL_law_736 rfl rfl rfl (p_sale hC.q ) ?_
  rintro _ μ1 ⟨rfl, hf⟩
  have hC1 := hC.fr hf
  have hM1 := hM.out hf.inn
  refine GoL.at (p2 := 739) (s2 := [_]) rfl rfl ?_
  refine gl_a2 dL_law_739 ?_
  refine gl_V (As := []) (rest := [_]) (c0 := 52) mcX12_sale mvX12_sale kL_96 rfl dL_law_740 rfl rfl rfl (m_sale hM1 ) ?_
  rintro _ μ2 ⟨rfl, hx⟩
  exact gl_ceq 1275 dL_law_743 rfl rfl (K _ μ2 (hC1.out hx.fm) (hM1.fx hx))
theorem lw_op_listen {Ln : Nat} {xs : Nat → Int32} {i : Nat} {r : RS} {μ : gm_M} (hi : i + 6 ≤ Ln) (hL : Ln ≤ 3072) (hC : CA r μ) (hM : MA r μ) (K : ∀ r2 μ2, CA r2 μ2 → MA r2 μ2 → GoL Ln xs 1275 (lwL i) [] μ2) : GoL Ln xs 748 (lwL i) [] μ := by
  refine gl_a1 dL_law_748 ?_
  refine gl_arg1 hi hL dL_law_749 dL_law_750 dL_law_751 dL_law_752 dL_law_753 ?_
  refine gl_arg2 hi hL dL_law_754 dL_law_755 dL_law_756 dL_law_757 dL_law_758 ?_
  refine gl_arg3 hi hL dL_law_759 dL_law_760 dL_law_761 dL_law_762 dL_law_763 ?_
  refine gl_V (As := [.int (xs (i + 1)), .int (xs (i + 2)), .int (xs (i + 3))]) (rest := []) (c0 := 0) mcX11_listen mvX11_listen kL_97 rfl dL_law_764 rfl rfl rfl (p_listen hC (xs (i + 1)) (xs (i + 2)) (xs (i + 3))) ?_
  rintro _ μ1 ⟨rfl, hC1, hf⟩
  have hM1 := hM.out hf
  refine GoL.at (p2 := 767) (s2 := [_]) rfl rfl ?_
  refine gl_a2 dL_law_767 ?_
  refine gl_arg1 hi hL dL_law_768 dL_law_769 dL_law_770 dL_law_771 dL_law_772 ?_
  refine gl_arg2 hi hL dL_law_773 dL_law_774 dL_law_775 dL_law_776 dL_law_777 ?_
  refine gl_arg3 hi hL dL_law_778 dL_law_779 dL_law_780 dL_law_781 dL_law_782 ?_
  refine gl_V (As := [.int (xs (i + 1)), .int (xs (i + 2)), .int (xs (i + 3))]) (rest := [_]) (c0 := 52) mcX12_listen mvX12_listen kL_100 rfl dL_law_783 rfl rfl rfl (m_listen hM1 (xs (i + 1)) (xs (i + 2)) (xs (i + 3))) ?_
  rintro _ μ2 ⟨rfl, hM2, hf2⟩
  exact gl_ceq 1275 dL_law_786 rfl rfl (K _ μ2 (hC1.out hf2) hM2)
theorem lw_op_forget {Ln : Nat} {xs : Nat → Int32} {i : Nat} {r : RS} {μ : gm_M} (hi : i + 6 ≤ Ln) (hL : Ln ≤ 3072) (hC : CA r μ) (hM : MA r μ) (K : ∀ r2 μ2, CA r2 μ2 → MA r2 μ2 → GoL Ln xs 1275 (lwL i) [] μ2) : GoL Ln xs 791 (lwL i) [] μ := by
  refine gl_a1 dL_law_791 ?_
  refine gl_V (As := []) (rest := []) (c0 := 0) mcX11_forget mvX11_forget kL_101 rfl dL_law_792 rfl rfl rfl (p_forget hC ) ?_
  rintro _ μ1 ⟨rfl, hC1, hf⟩
  have hM1 := hM.out hf
  refine GoL.at (p2 := 795) (s2 := [_]) rfl rfl ?_
  refine gl_a2 dL_law_795 ?_
  refine gl_V (As := []) (rest := [_]) (c0 := 52) mcX12_forget mvX12_forget kL_104 rfl dL_law_796 rfl rfl rfl (m_forget hM1 ) ?_
  rintro _ μ2 ⟨rfl, hM2, hf2⟩
  exact gl_ceq 1275 dL_law_799 rfl rfl (K _ μ2 (hC1.out hf2) hM2)
theorem lw_op_never {Ln : Nat} {xs : Nat → Int32} {i : Nat} {r : RS} {μ : gm_M} (hi : i + 6 ≤ Ln) (hL : Ln ≤ 3072) (hC : CA r μ) (hM : MA r μ) (K : ∀ r2 μ2, CA r2 μ2 → MA r2 μ2 → GoL Ln xs 1275 (lwL i) [] μ2) : GoL Ln xs 804 (lwL i) [] μ := by
  refine gl_a1 dL_law_804 ?_
  refine gl_V (As := []) (rest := []) (c0 := 0) mcX11_never mvX11_never kL_105 rfl dL_law_805 rfl rfl rfl (p_never hC.q ) ?_
  rintro _ μ1 ⟨rfl, hf⟩
  have hC1 := hC.fr hf
  have hM1 := hM.out hf.inn
  refine GoL.at (p2 := 808) (s2 := [_]) rfl rfl ?_
  refine gl_a2 dL_law_808 ?_
  refine gl_V (As := []) (rest := [_]) (c0 := 52) mcX12_never mvX12_never kL_108 rfl dL_law_809 rfl rfl rfl (m_never hM1 ) ?_
  rintro _ μ2 ⟨rfl, hx⟩
  exact gl_ceq 1275 dL_law_812 rfl rfl (K _ μ2 (hC1.out hx.fm) (hM1.fx hx))
theorem lw_op_was {Ln : Nat} {xs : Nat → Int32} {i : Nat} {r : RS} {μ : gm_M} (hi : i + 6 ≤ Ln) (hL : Ln ≤ 3072) (hC : CA r μ) (hM : MA r μ) (K : ∀ r2 μ2, CA r2 μ2 → MA r2 μ2 → GoL Ln xs 1275 (lwL i) [] μ2) : GoL Ln xs 817 (lwL i) [] μ := by
  refine gl_a1 dL_law_817 ?_
  refine gl_arg1 hi hL dL_law_818 dL_law_819 dL_law_820 dL_law_821 dL_law_822 ?_
  refine gl_arg2 hi hL dL_law_823 dL_law_824 dL_law_825 dL_law_826 dL_law_827 ?_
  refine gl_V (As := [.int (xs (i + 1)), .int (xs (i + 2))]) (rest := []) (c0 := 0) mcX11_was mvX11_was kL_109 rfl dL_law_828 rfl rfl rfl (p_was hC.q (xs (i + 1)) (xs (i + 2))) ?_
  rintro _ μ1 ⟨rfl, hf⟩
  have hC1 := hC.fr hf
  have hM1 := hM.out hf.inn
  refine GoL.at (p2 := 831) (s2 := [_]) rfl rfl ?_
  refine gl_a2 dL_law_831 ?_
  refine gl_arg1 hi hL dL_law_832 dL_law_833 dL_law_834 dL_law_835 dL_law_836 ?_
  refine gl_arg2 hi hL dL_law_837 dL_law_838 dL_law_839 dL_law_840 dL_law_841 ?_
  refine gl_V (As := [.int (xs (i + 1)), .int (xs (i + 2))]) (rest := [_]) (c0 := 52) mcX12_was mvX12_was kL_112 rfl dL_law_842 rfl rfl rfl (m_was hM1 (xs (i + 1)) (xs (i + 2))) ?_
  rintro _ μ2 ⟨rfl, hx⟩
  exact gl_ceq 1275 dL_law_845 rfl rfl (K _ μ2 (hC1.out hx.fm) (hM1.fx hx))
theorem lw_op_ask {Ln : Nat} {xs : Nat → Int32} {i : Nat} {r : RS} {μ : gm_M} (hi : i + 6 ≤ Ln) (hL : Ln ≤ 3072) (hC : CA r μ) (hM : MA r μ) (K : ∀ r2 μ2, CA r2 μ2 → MA r2 μ2 → GoL Ln xs 1275 (lwL i) [] μ2) : GoL Ln xs 850 (lwL i) [] μ := by
  refine gl_a1 dL_law_850 ?_
  refine gl_arg1 hi hL dL_law_851 dL_law_852 dL_law_853 dL_law_854 dL_law_855 ?_
  refine gl_V (As := [.int (xs (i + 1))]) (rest := []) (c0 := 0) mcX11_ask mvX11_ask kL_113 rfl dL_law_856 rfl rfl rfl (p_ask hC.q (xs (i + 1))) ?_
  rintro _ μ1 ⟨rfl, hf⟩
  have hC1 := hC.fr hf
  have hM1 := hM.out hf.inn
  refine GoL.at (p2 := 859) (s2 := [_]) rfl rfl ?_
  refine gl_a2 dL_law_859 ?_
  refine gl_arg1 hi hL dL_law_860 dL_law_861 dL_law_862 dL_law_863 dL_law_864 ?_
  refine gl_V (As := [.int (xs (i + 1))]) (rest := [_]) (c0 := 52) mcX12_ask mvX12_ask kL_116 rfl dL_law_865 rfl rfl rfl (m_ask hM1 (xs (i + 1))) ?_
  rintro _ μ2 ⟨rfl, hx⟩
  exact gl_ceq 1275 dL_law_868 rfl rfl (K _ μ2 (hC1.out hx.fm) (hM1.fx hx))
theorem lw_op_frost {Ln : Nat} {xs : Nat → Int32} {i : Nat} {r : RS} {μ : gm_M} (hi : i + 6 ≤ Ln) (hL : Ln ≤ 3072) (hC : CA r μ) (hM : MA r μ) (K : ∀ r2 μ2, CA r2 μ2 → MA r2 μ2 → GoL Ln xs 1275 (lwL i) [] μ2) : GoL Ln xs 873 (lwL i) [] μ := by
  refine gl_a1 dL_law_873 ?_
  refine gl_arg1 hi hL dL_law_874 dL_law_875 dL_law_876 dL_law_877 dL_law_878 ?_
  refine gl_arg2 hi hL dL_law_879 dL_law_880 dL_law_881 dL_law_882 dL_law_883 ?_
  refine gl_arg3 hi hL dL_law_884 dL_law_885 dL_law_886 dL_law_887 dL_law_888 ?_
  refine gl_arg4 hi hL dL_law_889 dL_law_890 dL_law_891 dL_law_892 dL_law_893 ?_
  refine gl_arg5 hi hL dL_law_894 dL_law_895 dL_law_896 dL_law_897 dL_law_898 ?_
  refine gl_V (As := [.int (xs (i + 1)), .int (xs (i + 2)), .int (xs (i + 3)), .int (xs (i + 4)), .int (xs (i + 5))]) (rest := []) (c0 := 0) mcX11_frost mvX11_frost kL_117 rfl dL_law_899 rfl rfl rfl (p_frost hC.q (xs (i + 1)) (xs (i + 2)) (xs (i + 3)) (xs (i + 4)) (xs (i + 5))) ?_
  rintro _ μ1 ⟨rfl, hf⟩
  have hC1 := hC.fr hf
  have hM1 := hM.out hf.inn
  refine GoL.at (p2 := 902) (s2 := [_]) rfl rfl ?_
  refine gl_a2 dL_law_902 ?_
  refine gl_arg1 hi hL dL_law_903 dL_law_904 dL_law_905 dL_law_906 dL_law_907 ?_
  refine gl_arg2 hi hL dL_law_908 dL_law_909 dL_law_910 dL_law_911 dL_law_912 ?_
  refine gl_arg3 hi hL dL_law_913 dL_law_914 dL_law_915 dL_law_916 dL_law_917 ?_
  refine gl_arg4 hi hL dL_law_918 dL_law_919 dL_law_920 dL_law_921 dL_law_922 ?_
  refine gl_arg5 hi hL dL_law_923 dL_law_924 dL_law_925 dL_law_926 dL_law_927 ?_
  refine gl_V (As := [.int (xs (i + 1)), .int (xs (i + 2)), .int (xs (i + 3)), .int (xs (i + 4)), .int (xs (i + 5))]) (rest := [_]) (c0 := 52) mcX12_frost mvX12_frost kL_121 rfl dL_law_928 rfl rfl rfl (m_frost hM1 (xs (i + 1)) (xs (i + 2)) (xs (i + 3)) (xs (i + 4)) (xs (i + 5))) ?_
  rintro _ μ2 ⟨rfl, hx⟩
  exact gl_lcmp dL_law_931 (gl_ifeq 1275 dL_law_932 rfl (lg_cmp_self _) (K _ μ2 (hC1.out hx.fm) (hM1.fx hx)))
theorem lw_op_summer {Ln : Nat} {xs : Nat → Int32} {i : Nat} {r : RS} {μ : gm_M} (hi : i + 6 ≤ Ln) (hL : Ln ≤ 3072) (hC : CA r μ) (hM : MA r μ) (K : ∀ r2 μ2, CA r2 μ2 → MA r2 μ2 → GoL Ln xs 1275 (lwL i) [] μ2) : GoL Ln xs 937 (lwL i) [] μ := by
  refine gl_a1 dL_law_937 ?_
  refine gl_arg1 hi hL dL_law_938 dL_law_939 dL_law_940 dL_law_941 dL_law_942 ?_
  refine gl_arg2 hi hL dL_law_943 dL_law_944 dL_law_945 dL_law_946 dL_law_947 ?_
  refine gl_arg3 hi hL dL_law_948 dL_law_949 dL_law_950 dL_law_951 dL_law_952 ?_
  refine gl_V (As := [.int (xs (i + 1)), .int (xs (i + 2)), .int (xs (i + 3))]) (rest := []) (c0 := 0) mcX11_summer mvX11_summer kL_122 rfl dL_law_953 rfl rfl rfl (p_summer hC.q (xs (i + 1)) (xs (i + 2)) (xs (i + 3))) ?_
  rintro _ μ1 ⟨rfl, hf⟩
  have hC1 := hC.fr hf
  have hM1 := hM.out hf.inn
  refine GoL.at (p2 := 956) (s2 := [_]) rfl rfl ?_
  refine gl_a2 dL_law_956 ?_
  refine gl_arg1 hi hL dL_law_957 dL_law_958 dL_law_959 dL_law_960 dL_law_961 ?_
  refine gl_arg2 hi hL dL_law_962 dL_law_963 dL_law_964 dL_law_965 dL_law_966 ?_
  refine gl_arg3 hi hL dL_law_967 dL_law_968 dL_law_969 dL_law_970 dL_law_971 ?_
  refine gl_V (As := [.int (xs (i + 1)), .int (xs (i + 2)), .int (xs (i + 3))]) (rest := [_]) (c0 := 52) mcX12_summer mvX12_summer kL_125 rfl dL_law_972 rfl rfl rfl (m_summer hM1 (xs (i + 1)) (xs (i + 2)) (xs (i + 3))) ?_
  rintro _ μ2 ⟨rfl, hx⟩
  exact gl_ceq 1275 dL_law_975 rfl rfl (K _ μ2 (hC1.out hx.fm) (hM1.fx hx))
theorem lw_op_sheet {Ln : Nat} {xs : Nat → Int32} {i : Nat} {r : RS} {μ : gm_M} (hi : i + 6 ≤ Ln) (hL : Ln ≤ 3072) (hC : CA r μ) (hM : MA r μ) (K : ∀ r2 μ2, CA r2 μ2 → MA r2 μ2 → GoL Ln xs 1275 (lwL i) [] μ2) : GoL Ln xs 980 (lwL i) [] μ := by
  refine gl_a1 dL_law_980 ?_
  refine gl_arg1 hi hL dL_law_981 dL_law_982 dL_law_983 dL_law_984 dL_law_985 ?_
  refine gl_arg2 hi hL dL_law_986 dL_law_987 dL_law_988 dL_law_989 dL_law_990 ?_
  refine gl_arg3 hi hL dL_law_991 dL_law_992 dL_law_993 dL_law_994 dL_law_995 ?_
  refine gl_V (As := [.int (xs (i + 1)), .int (xs (i + 2)), .int (xs (i + 3))]) (rest := []) (c0 := 0) mcX11_sheet mvX11_sheet kL_126 rfl dL_law_996 rfl rfl rfl (p_sheet hC (xs (i + 1)) (xs (i + 2)) (xs (i + 3))) ?_
  rintro _ μ1 ⟨rfl, hC1, hf⟩
  have hM1 := hM.out hf
  refine GoL.at (p2 := 999) (s2 := [_]) rfl rfl ?_
  refine gl_a2 dL_law_999 ?_
  refine gl_arg1 hi hL dL_law_1000 dL_law_1001 dL_law_1002 dL_law_1003 dL_law_1004 ?_
  refine gl_arg2 hi hL dL_law_1005 dL_law_1006 dL_law_1007 dL_law_1008 dL_law_1009 ?_
  refine gl_arg3 hi hL dL_law_1010 dL_law_1011 dL_law_1012 dL_law_1013 dL_law_1014 ?_
  refine gl_V (As := [.int (xs (i + 1)), .int (xs (i + 2)), .int (xs (i + 3))]) (rest := [_]) (c0 := 52) mcX12_sheet mvX12_sheet kL_129 rfl dL_law_1015 rfl rfl rfl (m_sheet hM1 (xs (i + 1)) (xs (i + 2)) (xs (i + 3))) ?_
  rintro _ μ2 ⟨rfl, hM2, hf2⟩
  exact gl_ceq 1275 dL_law_1018 rfl rfl (K _ μ2 (hC1.out hf2) hM2)
theorem lw_op_lose {Ln : Nat} {xs : Nat → Int32} {i : Nat} {r : RS} {μ : gm_M} (hi : i + 6 ≤ Ln) (hL : Ln ≤ 3072) (hC : CA r μ) (hM : MA r μ) (K : ∀ r2 μ2, CA r2 μ2 → MA r2 μ2 → GoL Ln xs 1275 (lwL i) [] μ2) : GoL Ln xs 1023 (lwL i) [] μ := by
  refine gl_a1 dL_law_1023 ?_
  refine gl_arg1 hi hL dL_law_1024 dL_law_1025 dL_law_1026 dL_law_1027 dL_law_1028 ?_
  refine gl_V (As := [.int (xs (i + 1))]) (rest := []) (c0 := 0) mcX11_lose mvX11_lose kL_130 rfl dL_law_1029 rfl rfl rfl (p_lose hC (xs (i + 1))) ?_
  rintro _ μ1 ⟨rfl, hC1, hf⟩
  have hM1 := hM.out hf
  refine GoL.at (p2 := 1032) (s2 := [_]) rfl rfl ?_
  refine gl_a2 dL_law_1032 ?_
  refine gl_arg1 hi hL dL_law_1033 dL_law_1034 dL_law_1035 dL_law_1036 dL_law_1037 ?_
  refine gl_V (As := [.int (xs (i + 1))]) (rest := [_]) (c0 := 52) mcX12_lose mvX12_lose kL_133 rfl dL_law_1038 rfl rfl rfl (m_lose hM1 (xs (i + 1))) ?_
  rintro _ μ2 ⟨rfl, hM2, hf2⟩
  exact gl_ceq 1275 dL_law_1041 rfl rfl (K _ μ2 (hC1.out hf2) hM2)
theorem lw_op_put {Ln : Nat} {xs : Nat → Int32} {i : Nat} {r : RS} {μ : gm_M} (hi : i + 6 ≤ Ln) (hL : Ln ≤ 3072) (hC : CA r μ) (hM : MA r μ) (K : ∀ r2 μ2, CA r2 μ2 → MA r2 μ2 → GoL Ln xs 1275 (lwL i) [] μ2) : GoL Ln xs 1046 (lwL i) [] μ := by
  refine gl_a1 dL_law_1046 ?_
  refine gl_arg1 hi hL dL_law_1047 dL_law_1048 dL_law_1049 dL_law_1050 dL_law_1051 ?_
  refine gl_arg2 hi hL dL_law_1052 dL_law_1053 dL_law_1054 dL_law_1055 dL_law_1056 ?_
  refine gl_arg3 hi hL dL_law_1057 dL_law_1058 dL_law_1059 dL_law_1060 dL_law_1061 ?_
  refine gl_arg4 hi hL dL_law_1062 dL_law_1063 dL_law_1064 dL_law_1065 dL_law_1066 ?_
  refine gl_V (As := [.int (xs (i + 1)), .int (xs (i + 2)), .int (xs (i + 3)), .int (xs (i + 4))]) (rest := []) (c0 := 0) mcX11_put mvX11_put kL_134 rfl dL_law_1067 rfl rfl rfl (p_put hC (xs (i + 1)) (xs (i + 2)) (xs (i + 3)) (xs (i + 4))) ?_
  rintro _ μ1 ⟨rfl, hC1, hf⟩
  have hM1 := hM.out hf
  refine GoL.at (p2 := 1070) (s2 := [_]) rfl rfl ?_
  refine gl_a2 dL_law_1070 ?_
  refine gl_arg1 hi hL dL_law_1071 dL_law_1072 dL_law_1073 dL_law_1074 dL_law_1075 ?_
  refine gl_arg2 hi hL dL_law_1076 dL_law_1077 dL_law_1078 dL_law_1079 dL_law_1080 ?_
  refine gl_arg3 hi hL dL_law_1081 dL_law_1082 dL_law_1083 dL_law_1084 dL_law_1085 ?_
  refine gl_arg4 hi hL dL_law_1086 dL_law_1087 dL_law_1088 dL_law_1089 dL_law_1090 ?_
  refine gl_V (As := [.int (xs (i + 1)), .int (xs (i + 2)), .int (xs (i + 3)), .int (xs (i + 4))]) (rest := [_]) (c0 := 52) mcX12_put mvX12_put kL_138 rfl dL_law_1091 rfl rfl rfl (m_put hM1 (xs (i + 1)) (xs (i + 2)) (xs (i + 3)) (xs (i + 4))) ?_
  rintro _ μ2 ⟨rfl, hM2, hf2⟩
  exact gl_ceq 1275 dL_law_1094 rfl rfl (K _ μ2 (hC1.out hf2) hM2)
theorem lw_op_get {Ln : Nat} {xs : Nat → Int32} {i : Nat} {r : RS} {μ : gm_M} (hi : i + 6 ≤ Ln) (hL : Ln ≤ 3072) (hC : CA r μ) (hM : MA r μ) (K : ∀ r2 μ2, CA r2 μ2 → MA r2 μ2 → GoL Ln xs 1275 (lwL i) [] μ2) : GoL Ln xs 1099 (lwL i) [] μ := by
  refine gl_a1 dL_law_1099 ?_
  refine gl_arg1 hi hL dL_law_1100 dL_law_1101 dL_law_1102 dL_law_1103 dL_law_1104 ?_
  refine gl_arg2 hi hL dL_law_1105 dL_law_1106 dL_law_1107 dL_law_1108 dL_law_1109 ?_
  refine gl_arg3 hi hL dL_law_1110 dL_law_1111 dL_law_1112 dL_law_1113 dL_law_1114 ?_
  refine gl_V (As := [.int (xs (i + 1)), .int (xs (i + 2)), .int (xs (i + 3))]) (rest := []) (c0 := 0) mcX11_get mvX11_get kL_139 rfl dL_law_1115 rfl rfl rfl (p_get hC (xs (i + 1)) (xs (i + 2)) (xs (i + 3))) ?_
  rintro _ μ1 ⟨rfl, hC1, hf⟩
  have hM1 := hM.out hf
  refine GoL.at (p2 := 1118) (s2 := [_]) rfl rfl ?_
  refine gl_a2 dL_law_1118 ?_
  refine gl_arg1 hi hL dL_law_1119 dL_law_1120 dL_law_1121 dL_law_1122 dL_law_1123 ?_
  refine gl_arg2 hi hL dL_law_1124 dL_law_1125 dL_law_1126 dL_law_1127 dL_law_1128 ?_
  refine gl_arg3 hi hL dL_law_1129 dL_law_1130 dL_law_1131 dL_law_1132 dL_law_1133 ?_
  refine gl_V (As := [.int (xs (i + 1)), .int (xs (i + 2)), .int (xs (i + 3))]) (rest := [_]) (c0 := 52) mcX12_get mvX12_get kL_142 rfl dL_law_1134 rfl rfl rfl (m_get hM1 (xs (i + 1)) (xs (i + 2)) (xs (i + 3))) ?_
  rintro _ μ2 ⟨rfl, hM2, hf2⟩
  exact gl_ceq 1275 dL_law_1137 rfl rfl (K _ μ2 (hC1.out hf2) hM2)
theorem lw_op_copy {Ln : Nat} {xs : Nat → Int32} {i : Nat} {r : RS} {μ : gm_M} (hi : i + 6 ≤ Ln) (hL : Ln ≤ 3072) (hC : CA r μ) (hM : MA r μ) (K : ∀ r2 μ2, CA r2 μ2 → MA r2 μ2 → GoL Ln xs 1275 (lwL i) [] μ2) : GoL Ln xs 1142 (lwL i) [] μ := by
  refine gl_a1 dL_law_1142 ?_
  refine gl_arg1 hi hL dL_law_1143 dL_law_1144 dL_law_1145 dL_law_1146 dL_law_1147 ?_
  refine gl_arg2 hi hL dL_law_1148 dL_law_1149 dL_law_1150 dL_law_1151 dL_law_1152 ?_
  refine gl_arg3 hi hL dL_law_1153 dL_law_1154 dL_law_1155 dL_law_1156 dL_law_1157 ?_
  refine gl_arg4 hi hL dL_law_1158 dL_law_1159 dL_law_1160 dL_law_1161 dL_law_1162 ?_
  refine gl_arg5 hi hL dL_law_1163 dL_law_1164 dL_law_1165 dL_law_1166 dL_law_1167 ?_
  refine gl_V (As := [.int (xs (i + 1)), .int (xs (i + 2)), .int (xs (i + 3)), .int (xs (i + 4)), .int (xs (i + 5))]) (rest := []) (c0 := 0) mcX11_copy mvX11_copy kL_143 rfl dL_law_1168 rfl rfl rfl (p_copy hC (xs (i + 1)) (xs (i + 2)) (xs (i + 3)) (xs (i + 4)) (xs (i + 5))) ?_
  rintro _ μ1 ⟨rfl, hC1, hf⟩
  have hM1 := hM.out hf
  refine GoL.at (p2 := 1171) (s2 := [_]) rfl rfl ?_
  refine gl_a2 dL_law_1171 ?_
  refine gl_arg1 hi hL dL_law_1172 dL_law_1173 dL_law_1174 dL_law_1175 dL_law_1176 ?_
  refine gl_arg2 hi hL dL_law_1177 dL_law_1178 dL_law_1179 dL_law_1180 dL_law_1181 ?_
  refine gl_arg3 hi hL dL_law_1182 dL_law_1183 dL_law_1184 dL_law_1185 dL_law_1186 ?_
  refine gl_arg4 hi hL dL_law_1187 dL_law_1188 dL_law_1189 dL_law_1190 dL_law_1191 ?_
  refine gl_arg5 hi hL dL_law_1192 dL_law_1193 dL_law_1194 dL_law_1195 dL_law_1196 ?_
  refine gl_V (As := [.int (xs (i + 1)), .int (xs (i + 2)), .int (xs (i + 3)), .int (xs (i + 4)), .int (xs (i + 5))]) (rest := [_]) (c0 := 52) mcX12_copy mvX12_copy kL_147 rfl dL_law_1197 rfl rfl rfl (m_copy hM1 (xs (i + 1)) (xs (i + 2)) (xs (i + 3)) (xs (i + 4)) (xs (i + 5))) ?_
  rintro _ μ2 ⟨rfl, hM2, hf2⟩
  exact gl_ceq 1275 dL_law_1200 rfl rfl (K _ μ2 (hC1.out hf2) hM2)
theorem lw_op_write {Ln : Nat} {xs : Nat → Int32} {i : Nat} {r : RS} {μ : gm_M} (hi : i + 6 ≤ Ln) (hL : Ln ≤ 3072) (hC : CA r μ) (hM : MA r μ) (K : ∀ r2 μ2, CA r2 μ2 → MA r2 μ2 → GoL Ln xs 1275 (lwL i) [] μ2) : GoL Ln xs 1205 (lwL i) [] μ := by
  refine gl_a1 dL_law_1205 ?_
  refine gl_arg1 hi hL dL_law_1206 dL_law_1207 dL_law_1208 dL_law_1209 dL_law_1210 ?_
  refine gl_arg2 hi hL dL_law_1211 dL_law_1212 dL_law_1213 dL_law_1214 dL_law_1215 ?_
  refine gl_V (As := [.int (xs (i + 1)), .int (xs (i + 2))]) (rest := []) (c0 := 0) mcX11_write mvX11_write kL_148 rfl dL_law_1216 rfl rfl rfl (p_write hC (xs (i + 1)) (xs (i + 2))) ?_
  rintro _ μ1 ⟨rfl, hC1, hf⟩
  have hM1 := hM.out hf
  refine GoL.at (p2 := 1219) (s2 := [_]) rfl rfl ?_
  refine gl_a2 dL_law_1219 ?_
  refine gl_arg1 hi hL dL_law_1220 dL_law_1221 dL_law_1222 dL_law_1223 dL_law_1224 ?_
  refine gl_arg2 hi hL dL_law_1225 dL_law_1226 dL_law_1227 dL_law_1228 dL_law_1229 ?_
  refine gl_V (As := [.int (xs (i + 1)), .int (xs (i + 2))]) (rest := [_]) (c0 := 52) mcX12_write mvX12_write kL_151 rfl dL_law_1230 rfl rfl rfl (m_write hM1 (xs (i + 1)) (xs (i + 2))) ?_
  rintro _ μ2 ⟨rfl, hM2, hf2⟩
  exact gl_ceq 1275 dL_law_1233 rfl rfl (K _ μ2 (hC1.out hf2) hM2)
theorem lw_op_count {Ln : Nat} {xs : Nat → Int32} {i : Nat} {r : RS} {μ : gm_M} (hi : i + 6 ≤ Ln) (hL : Ln ≤ 3072) (hC : CA r μ) (hM : MA r μ) (K : ∀ r2 μ2, CA r2 μ2 → MA r2 μ2 → GoL Ln xs 1275 (lwL i) [] μ2) : GoL Ln xs 1238 (lwL i) [] μ := by
  refine gl_a1 dL_law_1238 ?_
  refine gl_arg1 hi hL dL_law_1239 dL_law_1240 dL_law_1241 dL_law_1242 dL_law_1243 ?_
  refine gl_V (As := [.int (xs (i + 1))]) (rest := []) (c0 := 0) mcX11_count mvX11_count kL_152 rfl dL_law_1244 rfl rfl rfl (p_count hC (xs (i + 1))) ?_
  rintro _ μ1 ⟨rfl, hC1, hf⟩
  have hM1 := hM.out hf
  refine GoL.at (p2 := 1247) (s2 := [_]) rfl rfl ?_
  refine gl_a2 dL_law_1247 ?_
  refine gl_arg1 hi hL dL_law_1248 dL_law_1249 dL_law_1250 dL_law_1251 dL_law_1252 ?_
  refine gl_V (As := [.int (xs (i + 1))]) (rest := [_]) (c0 := 52) mcX12_count mvX12_count kL_155 rfl dL_law_1253 rfl rfl rfl (m_count hM1 (xs (i + 1))) ?_
  rintro _ μ2 ⟨rfl, hM2, hx⟩
  exact gl_ceq 1275 dL_law_1256 rfl rfl (K _ μ2 (hC1.out hx.fm) hM2)
theorem lw_op_digest {Ln : Nat} {xs : Nat → Int32} {i : Nat} {r : RS} {μ : gm_M} (hi : i + 6 ≤ Ln) (hL : Ln ≤ 3072) (hC : CA r μ) (hM : MA r μ) (K : ∀ r2 μ2, CA r2 μ2 → MA r2 μ2 → GoL Ln xs 1275 (lwL i) [] μ2) : GoL Ln xs 1261 (lwL i) [] μ := by
  refine gl_a1 dL_law_1261 ?_
  refine gl_V (As := []) (rest := []) (c0 := 0) mcX11_digest mvX11_digest kL_156 rfl dL_law_1262 rfl rfl rfl (p_digest hC ) ?_
  rintro _ μ1 ⟨rfl, hC1, hf⟩
  have hM1 := hM.out hf
  refine GoL.at (p2 := 1265) (s2 := [_]) rfl rfl ?_
  refine gl_a2 dL_law_1265 ?_
  refine gl_V (As := []) (rest := [_]) (c0 := 52) mcX12_digest mvX12_digest kL_160 rfl dL_law_1266 rfl rfl rfl (m_digest hM1 ) ?_
  rintro _ μ2 ⟨rfl, hM2, hx⟩
  exact gl_lcmp dL_law_1269 (gl_ifeq 1275 dL_law_1270 rfl (lg_cmp_self _) (K _ μ2 (hC1.out hx.fm) hM2))
