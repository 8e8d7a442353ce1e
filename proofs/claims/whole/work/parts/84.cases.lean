/-- the law answers true -/
def zLp : Option zAV → zM → Prop := fun r _ => r = some (zI 1)
theorem zcmp_0 {z : Int} : zcmp z z = 0 := by unfold zcmp; simp
set_option maxRecDepth 100000 in
set_option maxHeartbeats 4000000 in
theorem lw_wall {X : zX} {E : zE} {μ : zM} {i N : Int} (h : zRel N μ) (hN : N ≤ 100000) (h0 : 0 ≤ i) (h1 : i + 6 ≤ (zsl E : Int)) (hL : zsl E ≤ 3072) (kk : ∀ ξ, zRel (N + 1) ξ → MW X E cL_law RL room_1 (some .boolean) zLp 1299 [zR 9002, zR 0, zR 393, zI i] [] ξ) : MW X E cL_law RL room_1 (some .boolean) zLp 192 [zR 9002, zR 0, zR 393, zI i] [] μ := by
  by_cases hb : (zsx E (i + 2).toNat).toInt = 0
  · refine z_aload_1 dL_law_192 ?_
    refine z_aload_0 dL_law_193 ?_
    refine z_iload_3 dL_law_194 ?_
    refine z_iconst dL_law_195 (by decide) ?_
    refine z_iadd dL_law_196 (by omega) ?_
    refine z_sld (by omega) (by omega) dL_law_197 ?_
    refine z_aload_0 dL_law_198 ?_
    refine z_iload_3 dL_law_199 ?_
    refine z_iconst dL_law_200 (by decide) ?_
    refine z_iadd dL_law_201 (by omega) ?_
    refine z_sld (by omega) (by omega) dL_law_202 ?_
    refine z_ifeq (tgt := 210) dL_law_203 (by decide) (fun _ => ?_) (fun h9 => absurd hb h9)
    refine z_iconst dL_law_210 (by decide) ?_
    refine z_callV2 (k_X11_wall (zRel_x h hN) (Or.inl rfl)) m_X11_wall zl_0 l_L_13 (Nat.le_of_ble_eq_true rfl) ⟨(Nat.le_of_ble_eq_true rfl), (Nat.le_of_ble_eq_true rfl)⟩ ⟨rfl, rfl⟩ dL_law_211 (fun r ν hX => ?_)
    obtain ⟨⟨z, rfl⟩, hi⟩ := hi_wall hX
    have g := zRel_n h hN hi
    refine z_aload_2 dL_law_214 ?_
    refine z_aload_0 dL_law_215 ?_
    refine z_iload_3 dL_law_216 ?_
    refine z_iconst dL_law_217 (by decide) ?_
    refine z_iadd dL_law_218 (by omega) ?_
    refine z_sld (by omega) (by omega) dL_law_219 ?_
    refine z_aload_0 dL_law_220 ?_
    refine z_iload_3 dL_law_221 ?_
    refine z_iconst dL_law_222 (by decide) ?_
    refine z_iadd dL_law_223 (by omega) ?_
    refine z_sld (by omega) (by omega) dL_law_224 ?_
    refine z_ifeq (tgt := 232) dL_law_225 (by decide) (fun _ => ?_) (fun h9 => absurd hb h9)
    refine z_iconst dL_law_232 (by decide) ?_
    refine z_callV2 (k_X12_wall g.1 (Or.inl rfl)) m_X12_wall zl_393 l_L_17 (Nat.le_of_ble_eq_true rfl) ⟨(Nat.le_of_ble_eq_true rfl), (Nat.le_of_ble_eq_true rfl)⟩ ⟨rfl, rfl⟩ dL_law_233 (fun u ξ hM => ?_)
    obtain ⟨z2, e1, rfl, hR⟩ := pr_wall (Or.inl rfl) h hX hM
    cases e1
    exact z_icmpeq (tgt := 1299) dL_law_236 (by decide) (fun _ => kk _ hR) (fun h9 => absurd rfl h9)
  · refine z_aload_1 dL_law_192 ?_
    refine z_aload_0 dL_law_193 ?_
    refine z_iload_3 dL_law_194 ?_
    refine z_iconst dL_law_195 (by decide) ?_
    refine z_iadd dL_law_196 (by omega) ?_
    refine z_sld (by omega) (by omega) dL_law_197 ?_
    refine z_aload_0 dL_law_198 ?_
    refine z_iload_3 dL_law_199 ?_
    refine z_iconst dL_law_200 (by decide) ?_
    refine z_iadd dL_law_201 (by omega) ?_
    refine z_sld (by omega) (by omega) dL_law_202 ?_
    refine z_ifeq (tgt := 210) dL_law_203 (by decide) (fun h9 => absurd h9 hb) (fun _ => ?_)
    refine z_iconst dL_law_206 (by decide) ?_
    refine z_goto (tgt := 211) dL_law_207 (by decide) ?_
    refine z_callV2 (k_X11_wall (zRel_x h hN) (Or.inr rfl)) m_X11_wall zl_0 l_L_13 (Nat.le_of_ble_eq_true rfl) ⟨(Nat.le_of_ble_eq_true rfl), (Nat.le_of_ble_eq_true rfl)⟩ ⟨rfl, rfl⟩ dL_law_211 (fun r ν hX => ?_)
    obtain ⟨⟨z, rfl⟩, hi⟩ := hi_wall hX
    have g := zRel_n h hN hi
    refine z_aload_2 dL_law_214 ?_
    refine z_aload_0 dL_law_215 ?_
    refine z_iload_3 dL_law_216 ?_
    refine z_iconst dL_law_217 (by decide) ?_
    refine z_iadd dL_law_218 (by omega) ?_
    refine z_sld (by omega) (by omega) dL_law_219 ?_
    refine z_aload_0 dL_law_220 ?_
    refine z_iload_3 dL_law_221 ?_
    refine z_iconst dL_law_222 (by decide) ?_
    refine z_iadd dL_law_223 (by omega) ?_
    refine z_sld (by omega) (by omega) dL_law_224 ?_
    refine z_ifeq (tgt := 232) dL_law_225 (by decide) (fun h9 => absurd h9 hb) (fun _ => ?_)
    refine z_iconst dL_law_228 (by decide) ?_
    refine z_goto (tgt := 233) dL_law_229 (by decide) ?_
    refine z_callV2 (k_X12_wall g.1 (Or.inr rfl)) m_X12_wall zl_393 l_L_17 (Nat.le_of_ble_eq_true rfl) ⟨(Nat.le_of_ble_eq_true rfl), (Nat.le_of_ble_eq_true rfl)⟩ ⟨rfl, rfl⟩ dL_law_233 (fun u ξ hM => ?_)
    obtain ⟨z2, e1, rfl, hR⟩ := pr_wall (Or.inr rfl) h hX hM
    cases e1
    exact z_icmpeq (tgt := 1299) dL_law_236 (by decide) (fun _ => kk _ hR) (fun h9 => absurd rfl h9)
set_option maxRecDepth 100000 in
set_option maxHeartbeats 4000000 in
theorem lw_board {X : zX} {E : zE} {μ : zM} {i N : Int} (h : zRel N μ) (hN : N ≤ 100000) (h0 : 0 ≤ i) (h1 : i + 6 ≤ (zsl E : Int)) (hL : zsl E ≤ 3072) (kk : ∀ ξ, zRel (N + 1) ξ → MW X E cL_law RL room_1 (some .boolean) zLp 1299 [zR 9002, zR 0, zR 393, zI i] [] ξ) : MW X E cL_law RL room_1 (some .boolean) zLp 241 [zR 9002, zR 0, zR 393, zI i] [] μ := by
  refine z_aload_1 dL_law_241 ?_
  refine z_aload_0 dL_law_242 ?_
  refine z_iload_3 dL_law_243 ?_
  refine z_iconst dL_law_244 (by decide) ?_
  refine z_iadd dL_law_245 (by omega) ?_
  refine z_sld (by omega) (by omega) dL_law_246 ?_
  refine z_aload_0 dL_law_247 ?_
  refine z_iload_3 dL_law_248 ?_
  refine z_iconst dL_law_249 (by decide) ?_
  refine z_iadd dL_law_250 (by omega) ?_
  refine z_sld (by omega) (by omega) dL_law_251 ?_
  refine z_callV2 (k_X11_board (zRel_x h hN)) m_X11_board zl_0 l_L_18 (Nat.le_of_ble_eq_true rfl) ⟨(Nat.le_of_ble_eq_true rfl), (Nat.le_of_ble_eq_true rfl)⟩ ⟨rfl, rfl⟩ dL_law_252 (fun r ν hX => ?_)
  obtain ⟨⟨z, rfl⟩, hi⟩ := hi_board hX
  have g := zRel_n h hN hi
  refine z_aload_2 dL_law_255 ?_
  refine z_aload_0 dL_law_256 ?_
  refine z_iload_3 dL_law_257 ?_
  refine z_iconst dL_law_258 (by decide) ?_
  refine z_iadd dL_law_259 (by omega) ?_
  refine z_sld (by omega) (by omega) dL_law_260 ?_
  refine z_aload_0 dL_law_261 ?_
  refine z_iload_3 dL_law_262 ?_
  refine z_iconst dL_law_263 (by decide) ?_
  refine z_iadd dL_law_264 (by omega) ?_
  refine z_sld (by omega) (by omega) dL_law_265 ?_
  refine z_callV2 (k_X12_board g.1) m_X12_board zl_393 l_L_22 (Nat.le_of_ble_eq_true rfl) ⟨(Nat.le_of_ble_eq_true rfl), (Nat.le_of_ble_eq_true rfl)⟩ ⟨rfl, rfl⟩ dL_law_266 (fun u ξ hM => ?_)
  obtain ⟨z2, e1, rfl, hR⟩ := pr_board h hX hM
  cases e1
  exact z_icmpeq (tgt := 1299) dL_law_269 (by decide) (fun _ => kk _ hR) (fun h9 => absurd rfl h9)
set_option maxRecDepth 100000 in
set_option maxHeartbeats 4000000 in
theorem lw_put {X : zX} {E : zE} {μ : zM} {i N : Int} (h : zRel N μ) (hN : N ≤ 100000) (h0 : 0 ≤ i) (h1 : i + 6 ≤ (zsl E : Int)) (hL : zsl E ≤ 3072) (kk : ∀ ξ, zRel (N + 1) ξ → MW X E cL_law RL room_1 (some .boolean) zLp 1299 [zR 9002, zR 0, zR 393, zI i] [] ξ) : MW X E cL_law RL room_1 (some .boolean) zLp 274 [zR 9002, zR 0, zR 393, zI i] [] μ := by
  refine z_aload_1 dL_law_274 ?_
  refine z_aload_0 dL_law_275 ?_
  refine z_iload_3 dL_law_276 ?_
  refine z_iconst dL_law_277 (by decide) ?_
  refine z_iadd dL_law_278 (by omega) ?_
  refine z_sld (by omega) (by omega) dL_law_279 ?_
  refine z_aload_0 dL_law_280 ?_
  refine z_iload_3 dL_law_281 ?_
  refine z_iconst dL_law_282 (by decide) ?_
  refine z_iadd dL_law_283 (by omega) ?_
  refine z_sld (by omega) (by omega) dL_law_284 ?_
  refine z_callV2 (k_X11_put (zRel_x h hN)) m_X11_put zl_0 l_L_23 (Nat.le_of_ble_eq_true rfl) ⟨(Nat.le_of_ble_eq_true rfl), (Nat.le_of_ble_eq_true rfl)⟩ ⟨rfl, rfl⟩ dL_law_285 (fun r ν hX => ?_)
  obtain ⟨⟨z, rfl⟩, hi⟩ := hi_put hX
  have g := zRel_n h hN hi
  refine z_aload_2 dL_law_288 ?_
  refine z_aload_0 dL_law_289 ?_
  refine z_iload_3 dL_law_290 ?_
  refine z_iconst dL_law_291 (by decide) ?_
  refine z_iadd dL_law_292 (by omega) ?_
  refine z_sld (by omega) (by omega) dL_law_293 ?_
  refine z_aload_0 dL_law_294 ?_
  refine z_iload_3 dL_law_295 ?_
  refine z_iconst dL_law_296 (by decide) ?_
  refine z_iadd dL_law_297 (by omega) ?_
  refine z_sld (by omega) (by omega) dL_law_298 ?_
  refine z_callV2 (k_X12_put g.1) m_X12_put zl_393 l_L_26 (Nat.le_of_ble_eq_true rfl) ⟨(Nat.le_of_ble_eq_true rfl), (Nat.le_of_ble_eq_true rfl)⟩ ⟨rfl, rfl⟩ dL_law_299 (fun u ξ hM => ?_)
  obtain ⟨z2, e1, rfl, hR⟩ := pr_put h hX hM
  cases e1
  exact z_icmpeq (tgt := 1299) dL_law_302 (by decide) (fun _ => kk _ hR) (fun h9 => absurd rfl h9)
set_option maxRecDepth 100000 in
set_option maxHeartbeats 4000000 in
theorem lw_bed {X : zX} {E : zE} {μ : zM} {i N : Int} (h : zRel N μ) (hN : N ≤ 100000) (h0 : 0 ≤ i) (h1 : i + 6 ≤ (zsl E : Int)) (hL : zsl E ≤ 3072) (kk : ∀ ξ, zRel (N + 1) ξ → MW X E cL_law RL room_1 (some .boolean) zLp 1299 [zR 9002, zR 0, zR 393, zI i] [] ξ) : MW X E cL_law RL room_1 (some .boolean) zLp 307 [zR 9002, zR 0, zR 393, zI i] [] μ := by
  refine z_aload_1 dL_law_307 ?_
  refine z_aload_0 dL_law_308 ?_
  refine z_iload_3 dL_law_309 ?_
  refine z_iconst dL_law_310 (by decide) ?_
  refine z_iadd dL_law_311 (by omega) ?_
  refine z_sld (by omega) (by omega) dL_law_312 ?_
  refine z_callV1 (k_X11_bed (zRel_x h hN)) m_X11_bed zl_0 l_L_27 (Nat.le_of_ble_eq_true rfl) ⟨(Nat.le_of_ble_eq_true rfl), (Nat.le_of_ble_eq_true rfl)⟩ ⟨rfl, rfl⟩ dL_law_313 (fun r ν hX => ?_)
  obtain ⟨⟨z, rfl⟩, hi⟩ := hi_bed hX
  have g := zRel_n h hN hi
  refine z_aload_2 dL_law_316 ?_
  refine z_aload_0 dL_law_317 ?_
  refine z_iload_3 dL_law_318 ?_
  refine z_iconst dL_law_319 (by decide) ?_
  refine z_iadd dL_law_320 (by omega) ?_
  refine z_sld (by omega) (by omega) dL_law_321 ?_
  refine z_callV1 (k_X12_bed g.1) m_X12_bed zl_393 l_L_31 (Nat.le_of_ble_eq_true rfl) ⟨(Nat.le_of_ble_eq_true rfl), (Nat.le_of_ble_eq_true rfl)⟩ ⟨rfl, rfl⟩ dL_law_322 (fun u ξ hM => ?_)
  obtain ⟨z2, e1, rfl, hR⟩ := pr_bed h hX hM
  cases e1
  exact z_icmpeq (tgt := 1299) dL_law_325 (by decide) (fun _ => kk _ hR) (fun h9 => absurd rfl h9)
set_option maxRecDepth 100000 in
set_option maxHeartbeats 4000000 in
theorem lw_sleeper {X : zX} {E : zE} {μ : zM} {i N : Int} (h : zRel N μ) (hN : N ≤ 100000) (h0 : 0 ≤ i) (h1 : i + 6 ≤ (zsl E : Int)) (hL : zsl E ≤ 3072) (kk : ∀ ξ, zRel (N + 1) ξ → MW X E cL_law RL room_1 (some .boolean) zLp 1299 [zR 9002, zR 0, zR 393, zI i] [] ξ) : MW X E cL_law RL room_1 (some .boolean) zLp 330 [zR 9002, zR 0, zR 393, zI i] [] μ := by
  refine z_aload_1 dL_law_330 ?_
  refine z_aload_0 dL_law_331 ?_
  refine z_iload_3 dL_law_332 ?_
  refine z_iconst dL_law_333 (by decide) ?_
  refine z_iadd dL_law_334 (by omega) ?_
  refine z_sld (by omega) (by omega) dL_law_335 ?_
  refine z_aload_0 dL_law_336 ?_
  refine z_iload_3 dL_law_337 ?_
  refine z_iconst dL_law_338 (by decide) ?_
  refine z_iadd dL_law_339 (by omega) ?_
  refine z_sld (by omega) (by omega) dL_law_340 ?_
  refine z_aload_0 dL_law_341 ?_
  refine z_iload_3 dL_law_342 ?_
  refine z_iconst dL_law_343 (by decide) ?_
  refine z_iadd dL_law_344 (by omega) ?_
  refine z_sld (by omega) (by omega) dL_law_345 ?_
  refine z_aload_0 dL_law_346 ?_
  refine z_iload_3 dL_law_347 ?_
  refine z_iconst dL_law_348 (by decide) ?_
  refine z_iadd dL_law_349 (by omega) ?_
  refine z_sld (by omega) (by omega) dL_law_350 ?_
  refine z_aload_0 dL_law_351 ?_
  refine z_iload_3 dL_law_352 ?_
  refine z_iconst dL_law_353 (by decide) ?_
  refine z_iadd dL_law_354 (by omega) ?_
  refine z_sld (by omega) (by omega) dL_law_355 ?_
  refine z_callV5 (k_X11_sleeper (zRel_x h hN)) m_X11_sleeper zl_0 l_L_32 (Nat.le_of_ble_eq_true rfl) ⟨(Nat.le_of_ble_eq_true rfl), (Nat.le_of_ble_eq_true rfl)⟩ ⟨rfl, rfl⟩ dL_law_356 (fun r ν hX => ?_)
  obtain ⟨⟨z, rfl⟩, hi⟩ := hi_sleeper hX
  have g := zRel_n h hN hi
  refine z_aload_2 dL_law_359 ?_
  refine z_aload_0 dL_law_360 ?_
  refine z_iload_3 dL_law_361 ?_
  refine z_iconst dL_law_362 (by decide) ?_
  refine z_iadd dL_law_363 (by omega) ?_
  refine z_sld (by omega) (by omega) dL_law_364 ?_
  refine z_aload_0 dL_law_365 ?_
  refine z_iload_3 dL_law_366 ?_
  refine z_iconst dL_law_367 (by decide) ?_
  refine z_iadd dL_law_368 (by omega) ?_
  refine z_sld (by omega) (by omega) dL_law_369 ?_
  refine z_aload_0 dL_law_370 ?_
  refine z_iload_3 dL_law_371 ?_
  refine z_iconst dL_law_372 (by decide) ?_
  refine z_iadd dL_law_373 (by omega) ?_
  refine z_sld (by omega) (by omega) dL_law_374 ?_
  refine z_aload_0 dL_law_375 ?_
  refine z_iload_3 dL_law_376 ?_
  refine z_iconst dL_law_377 (by decide) ?_
  refine z_iadd dL_law_378 (by omega) ?_
  refine z_sld (by omega) (by omega) dL_law_379 ?_
  refine z_aload_0 dL_law_380 ?_
  refine z_iload_3 dL_law_381 ?_
  refine z_iconst dL_law_382 (by decide) ?_
  refine z_iadd dL_law_383 (by omega) ?_
  refine z_sld (by omega) (by omega) dL_law_384 ?_
  refine z_callV5 (k_X12_sleeper g.1) m_X12_sleeper zl_393 l_L_36 (Nat.le_of_ble_eq_true rfl) ⟨(Nat.le_of_ble_eq_true rfl), (Nat.le_of_ble_eq_true rfl)⟩ ⟨rfl, rfl⟩ dL_law_385 (fun u ξ hM => ?_)
  obtain ⟨z2, e1, rfl, hR⟩ := pr_sleeper h hX hM
  cases e1
  exact z_icmpeq (tgt := 1299) dL_law_388 (by decide) (fun _ => kk _ hR) (fun h9 => absurd rfl h9)
set_option maxRecDepth 100000 in
set_option maxHeartbeats 4000000 in
theorem lw_lie {X : zX} {E : zE} {μ : zM} {i N : Int} (h : zRel N μ) (hN : N ≤ 100000) (h0 : 0 ≤ i) (h1 : i + 6 ≤ (zsl E : Int)) (hL : zsl E ≤ 3072) (kk : ∀ ξ, zRel (N + 1) ξ → MW X E cL_law RL room_1 (some .boolean) zLp 1299 [zR 9002, zR 0, zR 393, zI i] [] ξ) : MW X E cL_law RL room_1 (some .boolean) zLp 393 [zR 9002, zR 0, zR 393, zI i] [] μ := by
  refine z_aload_1 dL_law_393 ?_
  refine z_aload_0 dL_law_394 ?_
  refine z_iload_3 dL_law_395 ?_
  refine z_iconst dL_law_396 (by decide) ?_
  refine z_iadd dL_law_397 (by omega) ?_
  refine z_sld (by omega) (by omega) dL_law_398 ?_
  refine z_aload_0 dL_law_399 ?_
  refine z_iload_3 dL_law_400 ?_
  refine z_iconst dL_law_401 (by decide) ?_
  refine z_iadd dL_law_402 (by omega) ?_
  refine z_sld (by omega) (by omega) dL_law_403 ?_
  refine z_callV2 (k_X11_lie (zRel_x h hN)) m_X11_lie zl_0 l_L_37 (Nat.le_of_ble_eq_true rfl) ⟨(Nat.le_of_ble_eq_true rfl), (Nat.le_of_ble_eq_true rfl)⟩ ⟨rfl, rfl⟩ dL_law_404 (fun r ν hX => ?_)
  obtain ⟨⟨z, rfl⟩, hi⟩ := hi_lie hX
  have g := zRel_n h hN hi
  refine z_aload_2 dL_law_407 ?_
  refine z_aload_0 dL_law_408 ?_
  refine z_iload_3 dL_law_409 ?_
  refine z_iconst dL_law_410 (by decide) ?_
  refine z_iadd dL_law_411 (by omega) ?_
  refine z_sld (by omega) (by omega) dL_law_412 ?_
  refine z_aload_0 dL_law_413 ?_
  refine z_iload_3 dL_law_414 ?_
  refine z_iconst dL_law_415 (by decide) ?_
  refine z_iadd dL_law_416 (by omega) ?_
  refine z_sld (by omega) (by omega) dL_law_417 ?_
  refine z_callV2 (k_X12_lie g.1) m_X12_lie zl_393 l_L_40 (Nat.le_of_ble_eq_true rfl) ⟨(Nat.le_of_ble_eq_true rfl), (Nat.le_of_ble_eq_true rfl)⟩ ⟨rfl, rfl⟩ dL_law_418 (fun u ξ hM => ?_)
  obtain ⟨z2, e1, rfl, hR⟩ := pr_lie h hX hM
  cases e1
  exact z_icmpeq (tgt := 1299) dL_law_421 (by decide) (fun _ => kk _ hR) (fun h9 => absurd rfl h9)
set_option maxRecDepth 100000 in
set_option maxHeartbeats 4000000 in
theorem lw_sound {X : zX} {E : zE} {μ : zM} {i N : Int} (h : zRel N μ) (hN : N ≤ 100000) (h0 : 0 ≤ i) (h1 : i + 6 ≤ (zsl E : Int)) (hL : zsl E ≤ 3072) (kk : ∀ ξ, zRel (N + 1) ξ → MW X E cL_law RL room_1 (some .boolean) zLp 1299 [zR 9002, zR 0, zR 393, zI i] [] ξ) : MW X E cL_law RL room_1 (some .boolean) zLp 426 [zR 9002, zR 0, zR 393, zI i] [] μ := by
  refine z_aload_1 dL_law_426 ?_
  refine z_aload_0 dL_law_427 ?_
  refine z_iload_3 dL_law_428 ?_
  refine z_iconst dL_law_429 (by decide) ?_
  refine z_iadd dL_law_430 (by omega) ?_
  refine z_sld (by omega) (by omega) dL_law_431 ?_
  refine z_aload_0 dL_law_432 ?_
  refine z_iload_3 dL_law_433 ?_
  refine z_iconst dL_law_434 (by decide) ?_
  refine z_iadd dL_law_435 (by omega) ?_
  refine z_sld (by omega) (by omega) dL_law_436 ?_
  refine z_aload_0 dL_law_437 ?_
  refine z_iload_3 dL_law_438 ?_
  refine z_iconst dL_law_439 (by decide) ?_
  refine z_iadd dL_law_440 (by omega) ?_
  refine z_sld (by omega) (by omega) dL_law_441 ?_
  refine z_aload_0 dL_law_442 ?_
  refine z_iload_3 dL_law_443 ?_
  refine z_iconst dL_law_444 (by decide) ?_
  refine z_iadd dL_law_445 (by omega) ?_
  refine z_sld (by omega) (by omega) dL_law_446 ?_
  refine z_aload_0 dL_law_447 ?_
  refine z_iload_3 dL_law_448 ?_
  refine z_iconst dL_law_449 (by decide) ?_
  refine z_iadd dL_law_450 (by omega) ?_
  refine z_sld (by omega) (by omega) dL_law_451 ?_
  refine z_callV5 (k_X11_sound (zRel_x h hN)) m_X11_sound zl_0 l_L_41 (Nat.le_of_ble_eq_true rfl) ⟨(Nat.le_of_ble_eq_true rfl), (Nat.le_of_ble_eq_true rfl)⟩ ⟨rfl, rfl⟩ dL_law_452 (fun r ν hX => ?_)
  obtain ⟨⟨z, rfl⟩, hi⟩ := hi_sound hX
  have g := zRel_n h hN hi
  refine z_aload_2 dL_law_455 ?_
  refine z_aload_0 dL_law_456 ?_
  refine z_iload_3 dL_law_457 ?_
  refine z_iconst dL_law_458 (by decide) ?_
  refine z_iadd dL_law_459 (by omega) ?_
  refine z_sld (by omega) (by omega) dL_law_460 ?_
  refine z_aload_0 dL_law_461 ?_
  refine z_iload_3 dL_law_462 ?_
  refine z_iconst dL_law_463 (by decide) ?_
  refine z_iadd dL_law_464 (by omega) ?_
  refine z_sld (by omega) (by omega) dL_law_465 ?_
  refine z_aload_0 dL_law_466 ?_
  refine z_iload_3 dL_law_467 ?_
  refine z_iconst dL_law_468 (by decide) ?_
  refine z_iadd dL_law_469 (by omega) ?_
  refine z_sld (by omega) (by omega) dL_law_470 ?_
  refine z_aload_0 dL_law_471 ?_
  refine z_iload_3 dL_law_472 ?_
  refine z_iconst dL_law_473 (by decide) ?_
  refine z_iadd dL_law_474 (by omega) ?_
  refine z_sld (by omega) (by omega) dL_law_475 ?_
  refine z_aload_0 dL_law_476 ?_
  refine z_iload_3 dL_law_477 ?_
  refine z_iconst dL_law_478 (by decide) ?_
  refine z_iadd dL_law_479 (by omega) ?_
  refine z_sld (by omega) (by omega) dL_law_480 ?_
  refine z_callV5 (k_X12_sound g.1) m_X12_sound zl_393 l_L_44 (Nat.le_of_ble_eq_true rfl) ⟨(Nat.le_of_ble_eq_true rfl), (Nat.le_of_ble_eq_true rfl)⟩ ⟨rfl, rfl⟩ dL_law_481 (fun u ξ hM => ?_)
  obtain ⟨z2, e1, rfl, hR⟩ := pr_sound h hX hM
  cases e1
  exact z_icmpeq (tgt := 1299) dL_law_484 (by decide) (fun _ => kk _ hR) (fun h9 => absurd rfl h9)
set_option maxRecDepth 100000 in
set_option maxHeartbeats 4000000 in
theorem lw_still {X : zX} {E : zE} {μ : zM} {i N : Int} (h : zRel N μ) (hN : N ≤ 100000) (h0 : 0 ≤ i) (h1 : i + 6 ≤ (zsl E : Int)) (hL : zsl E ≤ 3072) (kk : ∀ ξ, zRel (N + 1) ξ → MW X E cL_law RL room_1 (some .boolean) zLp 1299 [zR 9002, zR 0, zR 393, zI i] [] ξ) : MW X E cL_law RL room_1 (some .boolean) zLp 489 [zR 9002, zR 0, zR 393, zI i] [] μ := by
  refine z_aload_1 dL_law_489 ?_
  refine z_callV0 (k_X11_still (zRel_x h hN)) m_X11_still zl_0 l_L_45 (Nat.le_of_ble_eq_true rfl) ⟨(Nat.le_of_ble_eq_true rfl), (Nat.le_of_ble_eq_true rfl)⟩ ⟨rfl, rfl⟩ dL_law_490 (fun r ν hX => ?_)
  obtain ⟨⟨z, rfl⟩, hi⟩ := hi_still hX
  have g := zRel_n h hN hi
  refine z_aload_2 dL_law_493 ?_
  refine z_callV0 (k_X12_still g.1) m_X12_still zl_393 l_L_49 (Nat.le_of_ble_eq_true rfl) ⟨(Nat.le_of_ble_eq_true rfl), (Nat.le_of_ble_eq_true rfl)⟩ ⟨rfl, rfl⟩ dL_law_494 (fun u ξ hM => ?_)
  obtain ⟨z2, e1, rfl, hR⟩ := pr_still h hX hM
  cases e1
  exact z_icmpeq (tgt := 1299) dL_law_497 (by decide) (fun _ => kk _ hR) (fun h9 => absurd rfl h9)
set_option maxRecDepth 100000 in
set_option maxHeartbeats 4000000 in
theorem lw_type {X : zX} {E : zE} {μ : zM} {i N : Int} (h : zRel N μ) (hN : N ≤ 100000) (h0 : 0 ≤ i) (h1 : i + 6 ≤ (zsl E : Int)) (hL : zsl E ≤ 3072) (kk : ∀ ξ, zRel (N + 1) ξ → MW X E cL_law RL room_1 (some .boolean) zLp 1299 [zR 9002, zR 0, zR 393, zI i] [] ξ) : MW X E cL_law RL room_1 (some .boolean) zLp 502 [zR 9002, zR 0, zR 393, zI i] [] μ := by
  refine z_aload_1 dL_law_502 ?_
  refine z_aload_0 dL_law_503 ?_
  refine z_iload_3 dL_law_504 ?_
  refine z_iconst dL_law_505 (by decide) ?_
  refine z_iadd dL_law_506 (by omega) ?_
  refine z_sld (by omega) (by omega) dL_law_507 ?_
  refine z_i2l dL_law_508 ?_
  refine z_bipush dL_law_509 (by decide) ?_
  refine z_lshl dL_law_511 ?_
  refine z_aload_0 dL_law_512 ?_
  refine z_iload_3 dL_law_513 ?_
  refine z_iconst dL_law_514 (by decide) ?_
  refine z_iadd dL_law_515 (by omega) ?_
  refine z_sld (by omega) (by omega) dL_law_516 ?_
  refine z_i2l dL_law_517 ?_
  refine z_ldc2 (n := 4294967295) k_L_50 dL_law_518 (by decide +kernel) ?_
  refine z_land dL_law_521 ?_
  refine z_lor dL_law_522 ?_
  refine z_aload_0 dL_law_523 ?_
  refine z_iload_3 dL_law_524 ?_
  refine z_iconst dL_law_525 (by decide) ?_
  refine z_iadd dL_law_526 (by omega) ?_
  refine z_sld (by omega) (by omega) dL_law_527 ?_
  refine z_callV2 (k_X11_type (zRel_x h hN) (zRel_t h).1 (zRel_t h).2) m_X11_type zl_0 l_L_52 (Nat.le_of_ble_eq_true rfl) ⟨(Nat.le_of_ble_eq_true rfl), (Nat.le_of_ble_eq_true rfl)⟩ ⟨rfl, rfl⟩ dL_law_528 (fun r ν hX => ?_)
  obtain ⟨⟨z, rfl⟩, hi⟩ := hi_type hX
  have g := zRel_n h hN hi
  refine z_aload_2 dL_law_531 ?_
  refine z_aload_0 dL_law_532 ?_
  refine z_iload_3 dL_law_533 ?_
  refine z_iconst dL_law_534 (by decide) ?_
  refine z_iadd dL_law_535 (by omega) ?_
  refine z_sld (by omega) (by omega) dL_law_536 ?_
  refine z_i2l dL_law_537 ?_
  refine z_bipush dL_law_538 (by decide) ?_
  refine z_lshl dL_law_540 ?_
  refine z_aload_0 dL_law_541 ?_
  refine z_iload_3 dL_law_542 ?_
  refine z_iconst dL_law_543 (by decide) ?_
  refine z_iadd dL_law_544 (by omega) ?_
  refine z_sld (by omega) (by omega) dL_law_545 ?_
  refine z_i2l dL_law_546 ?_
  refine z_ldc2 (n := 4294967295) k_L_50 dL_law_547 (by decide +kernel) ?_
  refine z_land dL_law_550 ?_
  refine z_lor dL_law_551 ?_
  refine z_aload_0 dL_law_552 ?_
  refine z_iload_3 dL_law_553 ?_
  refine z_iconst dL_law_554 (by decide) ?_
  refine z_iadd dL_law_555 (by omega) ?_
  refine z_sld (by omega) (by omega) dL_law_556 ?_
  refine z_callV2 (k_X12_type g.1 g.2.2.2.1.1 g.2.2.2.1.2) m_X12_type zl_393 l_L_56 (Nat.le_of_ble_eq_true rfl) ⟨(Nat.le_of_ble_eq_true rfl), (Nat.le_of_ble_eq_true rfl)⟩ ⟨rfl, rfl⟩ dL_law_557 (fun u ξ hM => ?_)
  obtain ⟨z2, e1, rfl, hR⟩ := pr_type h hX hM
  cases e1
  exact z_icmpeq (tgt := 1299) dL_law_560 (by decide) (fun _ => kk _ hR) (fun h9 => absurd rfl h9)
set_option maxRecDepth 100000 in
set_option maxHeartbeats 4000000 in
theorem lw_clear {X : zX} {E : zE} {μ : zM} {i N : Int} (h : zRel N μ) (hN : N ≤ 100000) (h0 : 0 ≤ i) (h1 : i + 6 ≤ (zsl E : Int)) (hL : zsl E ≤ 3072) (kk : ∀ ξ, zRel (N + 1) ξ → MW X E cL_law RL room_1 (some .boolean) zLp 1299 [zR 9002, zR 0, zR 393, zI i] [] ξ) : MW X E cL_law RL room_1 (some .boolean) zLp 565 [zR 9002, zR 0, zR 393, zI i] [] μ := by
  refine z_aload_1 dL_law_565 ?_
  refine z_callV0 (k_X11_clear ) m_X11_clear zl_0 l_L_57 (Nat.le_of_ble_eq_true rfl) ⟨(Nat.le_of_ble_eq_true rfl), (Nat.le_of_ble_eq_true rfl)⟩ ⟨rfl, rfl⟩ dL_law_566 (fun r ν hX => ?_)
  obtain ⟨⟨z, rfl⟩, hi⟩ := hi_clear hX
  have g := zRel_n h hN hi
  refine z_aload_2 dL_law_569 ?_
  refine z_callV0 (k_X12_clear ) m_X12_clear zl_393 l_L_60 (Nat.le_of_ble_eq_true rfl) ⟨(Nat.le_of_ble_eq_true rfl), (Nat.le_of_ble_eq_true rfl)⟩ ⟨rfl, rfl⟩ dL_law_570 (fun u ξ hM => ?_)
  obtain ⟨z2, e1, rfl, hR⟩ := pr_clear h hX hM
  cases e1
  exact z_icmpeq (tgt := 1299) dL_law_573 (by decide) (fun _ => kk _ hR) (fun h9 => absurd rfl h9)
set_option maxRecDepth 100000 in
set_option maxHeartbeats 4000000 in
theorem lw_house {X : zX} {E : zE} {μ : zM} {i N : Int} (h : zRel N μ) (hN : N ≤ 100000) (h0 : 0 ≤ i) (h1 : i + 6 ≤ (zsl E : Int)) (hL : zsl E ≤ 3072) (kk : ∀ ξ, zRel (N + 1) ξ → MW X E cL_law RL room_1 (some .boolean) zLp 1299 [zR 9002, zR 0, zR 393, zI i] [] ξ) : MW X E cL_law RL room_1 (some .boolean) zLp 578 [zR 9002, zR 0, zR 393, zI i] [] μ := by
  refine z_aload_1 dL_law_578 ?_
  refine z_callV0 (k_X11_house (zRel_t h)) m_X11_house zl_0 l_L_61 (Nat.le_of_ble_eq_true rfl) ⟨(Nat.le_of_ble_eq_true rfl), (Nat.le_of_ble_eq_true rfl)⟩ ⟨rfl, rfl⟩ dL_law_579 (fun r ν hX => ?_)
  obtain ⟨⟨z, rfl⟩, hi⟩ := hi_house hX
  have g := zRel_n h hN hi
  refine z_aload_2 dL_law_582 ?_
  refine z_callV0 (k_X12_house g.1 g.2.2.2.1 g.2.2.1) m_X12_house zl_393 l_L_64 (Nat.le_of_ble_eq_true rfl) ⟨(Nat.le_of_ble_eq_true rfl), (Nat.le_of_ble_eq_true rfl)⟩ ⟨rfl, rfl⟩ dL_law_583 (fun u ξ hM => ?_)
  obtain ⟨z2, e1, rfl, hR⟩ := pr_house h hX hM
  cases e1
  exact z_icmpeq (tgt := 1299) dL_law_586 (by decide) (fun _ => kk _ hR) (fun h9 => absurd rfl h9)
set_option maxRecDepth 100000 in
set_option maxHeartbeats 4000000 in
theorem lw_distance {X : zX} {E : zE} {μ : zM} {i N : Int} (h : zRel N μ) (hN : N ≤ 100000) (h0 : 0 ≤ i) (h1 : i + 6 ≤ (zsl E : Int)) (hL : zsl E ≤ 3072) (kk : ∀ ξ, zRel (N + 1) ξ → MW X E cL_law RL room_1 (some .boolean) zLp 1299 [zR 9002, zR 0, zR 393, zI i] [] ξ) : MW X E cL_law RL room_1 (some .boolean) zLp 591 [zR 9002, zR 0, zR 393, zI i] [] μ := by
  refine z_aload_1 dL_law_591 ?_
  refine z_aload_0 dL_law_592 ?_
  refine z_iload_3 dL_law_593 ?_
  refine z_iconst dL_law_594 (by decide) ?_
  refine z_iadd dL_law_595 (by omega) ?_
  refine z_sld (by omega) (by omega) dL_law_596 ?_
  refine z_aload_0 dL_law_597 ?_
  refine z_iload_3 dL_law_598 ?_
  refine z_iconst dL_law_599 (by decide) ?_
  refine z_iadd dL_law_600 (by omega) ?_
  refine z_sld (by omega) (by omega) dL_law_601 ?_
  refine z_callV2 (k_X11_distance (zRel_x h hN)) m_X11_distance zl_0 l_L_65 (Nat.le_of_ble_eq_true rfl) ⟨(Nat.le_of_ble_eq_true rfl), (Nat.le_of_ble_eq_true rfl)⟩ ⟨rfl, rfl⟩ dL_law_602 (fun r ν hX => ?_)
  obtain ⟨⟨z, rfl⟩, hi⟩ := hi_distance hX
  have g := zRel_n h hN hi
  refine z_aload_2 dL_law_605 ?_
  refine z_aload_0 dL_law_606 ?_
  refine z_iload_3 dL_law_607 ?_
  refine z_iconst dL_law_608 (by decide) ?_
  refine z_iadd dL_law_609 (by omega) ?_
  refine z_sld (by omega) (by omega) dL_law_610 ?_
  refine z_aload_0 dL_law_611 ?_
  refine z_iload_3 dL_law_612 ?_
  refine z_iconst dL_law_613 (by decide) ?_
  refine z_iadd dL_law_614 (by omega) ?_
  refine z_sld (by omega) (by omega) dL_law_615 ?_
  refine z_callV2 (k_X12_distance g.1) m_X12_distance zl_393 l_L_68 (Nat.le_of_ble_eq_true rfl) ⟨(Nat.le_of_ble_eq_true rfl), (Nat.le_of_ble_eq_true rfl)⟩ ⟨rfl, rfl⟩ dL_law_616 (fun u ξ hM => ?_)
  obtain ⟨z2, e1, rfl, hR⟩ := pr_distance h hX hM
  cases e1
  exact z_icmpeq (tgt := 1299) dL_law_619 (by decide) (fun _ => kk _ hR) (fun h9 => absurd rfl h9)
set_option maxRecDepth 100000 in
set_option maxHeartbeats 4000000 in
theorem lw_heard {X : zX} {E : zE} {μ : zM} {i N : Int} (h : zRel N μ) (hN : N ≤ 100000) (h0 : 0 ≤ i) (h1 : i + 6 ≤ (zsl E : Int)) (hL : zsl E ≤ 3072) (kk : ∀ ξ, zRel (N + 1) ξ → MW X E cL_law RL room_1 (some .boolean) zLp 1299 [zR 9002, zR 0, zR 393, zI i] [] ξ) : MW X E cL_law RL room_1 (some .boolean) zLp 624 [zR 9002, zR 0, zR 393, zI i] [] μ := by
  refine z_aload_1 dL_law_624 ?_
  refine z_aload_0 dL_law_625 ?_
  refine z_iload_3 dL_law_626 ?_
  refine z_iconst dL_law_627 (by decide) ?_
  refine z_iadd dL_law_628 (by omega) ?_
  refine z_sld (by omega) (by omega) dL_law_629 ?_
  refine z_aload_0 dL_law_630 ?_
  refine z_iload_3 dL_law_631 ?_
  refine z_iconst dL_law_632 (by decide) ?_
  refine z_iadd dL_law_633 (by omega) ?_
  refine z_sld (by omega) (by omega) dL_law_634 ?_
  refine z_aload_0 dL_law_635 ?_
  refine z_iload_3 dL_law_636 ?_
  refine z_iconst dL_law_637 (by decide) ?_
  refine z_iadd dL_law_638 (by omega) ?_
  refine z_sld (by omega) (by omega) dL_law_639 ?_
  refine z_aload_0 dL_law_640 ?_
  refine z_iload_3 dL_law_641 ?_
  refine z_iconst dL_law_642 (by decide) ?_
  refine z_iadd dL_law_643 (by omega) ?_
  refine z_sld (by omega) (by omega) dL_law_644 ?_
  refine z_callV4 (k_X11_heard (zRel_x h hN)) m_X11_heard zl_0 l_L_69 (Nat.le_of_ble_eq_true rfl) ⟨(Nat.le_of_ble_eq_true rfl), (Nat.le_of_ble_eq_true rfl)⟩ ⟨rfl, rfl⟩ dL_law_645 (fun r ν hX => ?_)
  obtain ⟨⟨z, rfl⟩, hi⟩ := hi_heard hX
  have g := zRel_n h hN hi
  refine z_aload_2 dL_law_648 ?_
  refine z_aload_0 dL_law_649 ?_
  refine z_iload_3 dL_law_650 ?_
  refine z_iconst dL_law_651 (by decide) ?_
  refine z_iadd dL_law_652 (by omega) ?_
  refine z_sld (by omega) (by omega) dL_law_653 ?_
  refine z_aload_0 dL_law_654 ?_
  refine z_iload_3 dL_law_655 ?_
  refine z_iconst dL_law_656 (by decide) ?_
  refine z_iadd dL_law_657 (by omega) ?_
  refine z_sld (by omega) (by omega) dL_law_658 ?_
  refine z_aload_0 dL_law_659 ?_
  refine z_iload_3 dL_law_660 ?_
  refine z_iconst dL_law_661 (by decide) ?_
  refine z_iadd dL_law_662 (by omega) ?_
  refine z_sld (by omega) (by omega) dL_law_663 ?_
  refine z_aload_0 dL_law_664 ?_
  refine z_iload_3 dL_law_665 ?_
  refine z_iconst dL_law_666 (by decide) ?_
  refine z_iadd dL_law_667 (by omega) ?_
  refine z_sld (by omega) (by omega) dL_law_668 ?_
  refine z_callV4 (k_X12_heard g.1 g.2.1) m_X12_heard zl_393 l_L_73 (Nat.le_of_ble_eq_true rfl) ⟨(Nat.le_of_ble_eq_true rfl), (Nat.le_of_ble_eq_true rfl)⟩ ⟨rfl, rfl⟩ dL_law_669 (fun u ξ hM => ?_)
  obtain ⟨z2, e1, rfl, hR⟩ := pr_heard h hX hM
  cases e1
  exact z_icmpeq (tgt := 1299) dL_law_672 (by decide) (fun _ => kk _ hR) (fun h9 => absurd rfl h9)
set_option maxRecDepth 100000 in
set_option maxHeartbeats 4000000 in
theorem lw_slept {X : zX} {E : zE} {μ : zM} {i N : Int} (h : zRel N μ) (hN : N ≤ 100000) (h0 : 0 ≤ i) (h1 : i + 6 ≤ (zsl E : Int)) (hL : zsl E ≤ 3072) (kk : ∀ ξ, zRel (N + 1) ξ → MW X E cL_law RL room_1 (some .boolean) zLp 1299 [zR 9002, zR 0, zR 393, zI i] [] ξ) : MW X E cL_law RL room_1 (some .boolean) zLp 677 [zR 9002, zR 0, zR 393, zI i] [] μ := by
  refine z_aload_1 dL_law_677 ?_
  refine z_aload_0 dL_law_678 ?_
  refine z_iload_3 dL_law_679 ?_
  refine z_iconst dL_law_680 (by decide) ?_
  refine z_iadd dL_law_681 (by omega) ?_
  refine z_sld (by omega) (by omega) dL_law_682 ?_
  refine z_callV1 (k_X11_slept (zRel_x h hN)) m_X11_slept zl_0 l_L_74 (Nat.le_of_ble_eq_true rfl) ⟨(Nat.le_of_ble_eq_true rfl), (Nat.le_of_ble_eq_true rfl)⟩ ⟨rfl, rfl⟩ dL_law_683 (fun r ν hX => ?_)
  obtain ⟨⟨z, rfl⟩, hi⟩ := hi_slept hX
  have g := zRel_n h hN hi
  refine z_aload_2 dL_law_686 ?_
  refine z_aload_0 dL_law_687 ?_
  refine z_iload_3 dL_law_688 ?_
  refine z_iconst dL_law_689 (by decide) ?_
  refine z_iadd dL_law_690 (by omega) ?_
  refine z_sld (by omega) (by omega) dL_law_691 ?_
  refine z_callV1 (k_X12_slept g.1 g.2.1) m_X12_slept zl_393 l_L_77 (Nat.le_of_ble_eq_true rfl) ⟨(Nat.le_of_ble_eq_true rfl), (Nat.le_of_ble_eq_true rfl)⟩ ⟨rfl, rfl⟩ dL_law_692 (fun u ξ hM => ?_)
  obtain ⟨z2, e1, rfl, hR⟩ := pr_slept h hX hM
  cases e1
  exact z_icmpeq (tgt := 1299) dL_law_695 (by decide) (fun _ => kk _ hR) (fun h9 => absurd rfl h9)
set_option maxRecDepth 100000 in
set_option maxHeartbeats 4000000 in
theorem lw_is {X : zX} {E : zE} {μ : zM} {i N : Int} (h : zRel N μ) (hN : N ≤ 100000) (h0 : 0 ≤ i) (h1 : i + 6 ≤ (zsl E : Int)) (hL : zsl E ≤ 3072) (kk : ∀ ξ, zRel (N + 1) ξ → MW X E cL_law RL room_1 (some .boolean) zLp 1299 [zR 9002, zR 0, zR 393, zI i] [] ξ) : MW X E cL_law RL room_1 (some .boolean) zLp 700 [zR 9002, zR 0, zR 393, zI i] [] μ := by
  refine z_aload_1 dL_law_700 ?_
  refine z_aload_0 dL_law_701 ?_
  refine z_iload_3 dL_law_702 ?_
  refine z_iconst dL_law_703 (by decide) ?_
  refine z_iadd dL_law_704 (by omega) ?_
  refine z_sld (by omega) (by omega) dL_law_705 ?_
  refine z_aload_0 dL_law_706 ?_
  refine z_iload_3 dL_law_707 ?_
  refine z_iconst dL_law_708 (by decide) ?_
  refine z_iadd dL_law_709 (by omega) ?_
  refine z_sld (by omega) (by omega) dL_law_710 ?_
  refine z_callV2 (k_X11_is (zRel_x h hN)) m_X11_is zl_0 l_L_78 (Nat.le_of_ble_eq_true rfl) ⟨(Nat.le_of_ble_eq_true rfl), (Nat.le_of_ble_eq_true rfl)⟩ ⟨rfl, rfl⟩ dL_law_711 (fun r ν hX => ?_)
  obtain ⟨⟨z, rfl⟩, hi⟩ := hi_is hX
  have g := zRel_n h hN hi
  refine z_aload_2 dL_law_714 ?_
  refine z_aload_0 dL_law_715 ?_
  refine z_iload_3 dL_law_716 ?_
  refine z_iconst dL_law_717 (by decide) ?_
  refine z_iadd dL_law_718 (by omega) ?_
  refine z_sld (by omega) (by omega) dL_law_719 ?_
  refine z_aload_0 dL_law_720 ?_
  refine z_iload_3 dL_law_721 ?_
  refine z_iconst dL_law_722 (by decide) ?_
  refine z_iadd dL_law_723 (by omega) ?_
  refine z_sld (by omega) (by omega) dL_law_724 ?_
  refine z_callV2 (k_X12_is g.1 g.2.1) m_X12_is zl_393 l_L_81 (Nat.le_of_ble_eq_true rfl) ⟨(Nat.le_of_ble_eq_true rfl), (Nat.le_of_ble_eq_true rfl)⟩ ⟨rfl, rfl⟩ dL_law_725 (fun u ξ hM => ?_)
  obtain ⟨z2, e1, rfl, hR⟩ := pr_is h hX hM
  cases e1
  exact z_icmpeq (tgt := 1299) dL_law_728 (by decide) (fun _ => kk _ hR) (fun h9 => absurd rfl h9)
set_option maxRecDepth 100000 in
set_option maxHeartbeats 4000000 in
theorem lw_wakes {X : zX} {E : zE} {μ : zM} {i N : Int} (h : zRel N μ) (hN : N ≤ 100000) (h0 : 0 ≤ i) (h1 : i + 6 ≤ (zsl E : Int)) (hL : zsl E ≤ 3072) (kk : ∀ ξ, zRel (N + 1) ξ → MW X E cL_law RL room_1 (some .boolean) zLp 1299 [zR 9002, zR 0, zR 393, zI i] [] ξ) : MW X E cL_law RL room_1 (some .boolean) zLp 733 [zR 9002, zR 0, zR 393, zI i] [] μ := by
  refine z_aload_1 dL_law_733 ?_
  refine z_aload_0 dL_law_734 ?_
  refine z_iload_3 dL_law_735 ?_
  refine z_iconst dL_law_736 (by decide) ?_
  refine z_iadd dL_law_737 (by omega) ?_
  refine z_sld (by omega) (by omega) dL_law_738 ?_
  refine z_aload_0 dL_law_739 ?_
  refine z_iload_3 dL_law_740 ?_
  refine z_iconst dL_law_741 (by decide) ?_
  refine z_iadd dL_law_742 (by omega) ?_
  refine z_sld (by omega) (by omega) dL_law_743 ?_
  refine z_callV2 (k_X11_wakes (zRel_x h hN)) m_X11_wakes zl_0 l_L_82 (Nat.le_of_ble_eq_true rfl) ⟨(Nat.le_of_ble_eq_true rfl), (Nat.le_of_ble_eq_true rfl)⟩ ⟨rfl, rfl⟩ dL_law_744 (fun r ν hX => ?_)
  obtain ⟨⟨z, rfl⟩, hi⟩ := hi_wakes hX
  have g := zRel_n h hN hi
  refine z_aload_2 dL_law_747 ?_
  refine z_aload_0 dL_law_748 ?_
  refine z_iload_3 dL_law_749 ?_
  refine z_iconst dL_law_750 (by decide) ?_
  refine z_iadd dL_law_751 (by omega) ?_
  refine z_sld (by omega) (by omega) dL_law_752 ?_
  refine z_aload_0 dL_law_753 ?_
  refine z_iload_3 dL_law_754 ?_
  refine z_iconst dL_law_755 (by decide) ?_
  refine z_iadd dL_law_756 (by omega) ?_
  refine z_sld (by omega) (by omega) dL_law_757 ?_
  refine z_callV2 (k_X12_wakes g.1 g.2.1) m_X12_wakes zl_393 l_L_85 (Nat.le_of_ble_eq_true rfl) ⟨(Nat.le_of_ble_eq_true rfl), (Nat.le_of_ble_eq_true rfl)⟩ ⟨rfl, rfl⟩ dL_law_758 (fun u ξ hM => ?_)
  obtain ⟨z2, e1, rfl, hR⟩ := pr_wakes h hX hM
  cases e1
  exact z_icmpeq (tgt := 1299) dL_law_761 (by decide) (fun _ => kk _ hR) (fun h9 => absurd rfl h9)
set_option maxRecDepth 100000 in
set_option maxHeartbeats 4000000 in
theorem lw_woke {X : zX} {E : zE} {μ : zM} {i N : Int} (h : zRel N μ) (hN : N ≤ 100000) (h0 : 0 ≤ i) (h1 : i + 6 ≤ (zsl E : Int)) (hL : zsl E ≤ 3072) (kk : ∀ ξ, zRel (N + 1) ξ → MW X E cL_law RL room_1 (some .boolean) zLp 1299 [zR 9002, zR 0, zR 393, zI i] [] ξ) : MW X E cL_law RL room_1 (some .boolean) zLp 766 [zR 9002, zR 0, zR 393, zI i] [] μ := by
  refine z_aload_1 dL_law_766 ?_
  refine z_aload_0 dL_law_767 ?_
  refine z_iload_3 dL_law_768 ?_
  refine z_iconst dL_law_769 (by decide) ?_
  refine z_iadd dL_law_770 (by omega) ?_
  refine z_sld (by omega) (by omega) dL_law_771 ?_
  refine z_aload_0 dL_law_772 ?_
  refine z_iload_3 dL_law_773 ?_
  refine z_iconst dL_law_774 (by decide) ?_
  refine z_iadd dL_law_775 (by omega) ?_
  refine z_sld (by omega) (by omega) dL_law_776 ?_
  refine z_callV2 (k_X11_woke (zRel_x h hN)) m_X11_woke zl_0 l_L_86 (Nat.le_of_ble_eq_true rfl) ⟨(Nat.le_of_ble_eq_true rfl), (Nat.le_of_ble_eq_true rfl)⟩ ⟨rfl, rfl⟩ dL_law_777 (fun r ν hX => ?_)
  obtain ⟨⟨z, rfl⟩, hi⟩ := hi_woke hX
  have g := zRel_n h hN hi
  refine z_aload_2 dL_law_780 ?_
  refine z_aload_0 dL_law_781 ?_
  refine z_iload_3 dL_law_782 ?_
  refine z_iconst dL_law_783 (by decide) ?_
  refine z_iadd dL_law_784 (by omega) ?_
  refine z_sld (by omega) (by omega) dL_law_785 ?_
  refine z_aload_0 dL_law_786 ?_
  refine z_iload_3 dL_law_787 ?_
  refine z_iconst dL_law_788 (by decide) ?_
  refine z_iadd dL_law_789 (by omega) ?_
  refine z_sld (by omega) (by omega) dL_law_790 ?_
  refine z_callV2 (k_X12_woke g.1 g.2.1) m_X12_woke zl_393 l_L_89 (Nat.le_of_ble_eq_true rfl) ⟨(Nat.le_of_ble_eq_true rfl), (Nat.le_of_ble_eq_true rfl)⟩ ⟨rfl, rfl⟩ dL_law_791 (fun u ξ hM => ?_)
  obtain ⟨z2, e1, rfl, hR⟩ := pr_woke h hX hM
  cases e1
  exact z_icmpeq (tgt := 1299) dL_law_794 (by decide) (fun _ => kk _ hR) (fun h9 => absurd rfl h9)
set_option maxRecDepth 100000 in
set_option maxHeartbeats 4000000 in
theorem lw_night {X : zX} {E : zE} {μ : zM} {i N : Int} (h : zRel N μ) (hN : N ≤ 100000) (h0 : 0 ≤ i) (h1 : i + 6 ≤ (zsl E : Int)) (hL : zsl E ≤ 3072) (kk : ∀ ξ, zRel (N + 1) ξ → MW X E cL_law RL room_1 (some .boolean) zLp 1299 [zR 9002, zR 0, zR 393, zI i] [] ξ) : MW X E cL_law RL room_1 (some .boolean) zLp 799 [zR 9002, zR 0, zR 393, zI i] [] μ := by
  refine z_aload_1 dL_law_799 ?_
  refine z_aload_0 dL_law_800 ?_
  refine z_iload_3 dL_law_801 ?_
  refine z_iconst dL_law_802 (by decide) ?_
  refine z_iadd dL_law_803 (by omega) ?_
  refine z_sld (by omega) (by omega) dL_law_804 ?_
  refine z_callV1 (k_X11_night (zRel_x h hN)) m_X11_night zl_0 l_L_90 (Nat.le_of_ble_eq_true rfl) ⟨(Nat.le_of_ble_eq_true rfl), (Nat.le_of_ble_eq_true rfl)⟩ ⟨rfl, rfl⟩ dL_law_805 (fun r ν hX => ?_)
  obtain ⟨⟨z, rfl⟩, hi⟩ := hi_night hX
  have g := zRel_n h hN hi
  refine z_aload_2 dL_law_808 ?_
  refine z_aload_0 dL_law_809 ?_
  refine z_iload_3 dL_law_810 ?_
  refine z_iconst dL_law_811 (by decide) ?_
  refine z_iadd dL_law_812 (by omega) ?_
  refine z_sld (by omega) (by omega) dL_law_813 ?_
  refine z_callV1 (k_X12_night g.1 g.2.1) m_X12_night zl_393 l_L_93 (Nat.le_of_ble_eq_true rfl) ⟨(Nat.le_of_ble_eq_true rfl), (Nat.le_of_ble_eq_true rfl)⟩ ⟨rfl, rfl⟩ dL_law_814 (fun u ξ hM => ?_)
  obtain ⟨z2, e1, rfl, hR⟩ := pr_night h hX hM
  cases e1
  exact z_icmpeq (tgt := 1299) dL_law_817 (by decide) (fun _ => kk _ hR) (fun h9 => absurd rfl h9)
set_option maxRecDepth 100000 in
set_option maxHeartbeats 4000000 in
theorem lw_way {X : zX} {E : zE} {μ : zM} {i N : Int} (h : zRel N μ) (hN : N ≤ 100000) (h0 : 0 ≤ i) (h1 : i + 6 ≤ (zsl E : Int)) (hL : zsl E ≤ 3072) (kk : ∀ ξ, zRel (N + 1) ξ → MW X E cL_law RL room_1 (some .boolean) zLp 1299 [zR 9002, zR 0, zR 393, zI i] [] ξ) : MW X E cL_law RL room_1 (some .boolean) zLp 822 [zR 9002, zR 0, zR 393, zI i] [] μ := by
  refine z_aload_1 dL_law_822 ?_
  refine z_aload_0 dL_law_823 ?_
  refine z_iload_3 dL_law_824 ?_
  refine z_iconst dL_law_825 (by decide) ?_
  refine z_iadd dL_law_826 (by omega) ?_
  refine z_sld (by omega) (by omega) dL_law_827 ?_
  refine z_aload_0 dL_law_828 ?_
  refine z_iload_3 dL_law_829 ?_
  refine z_iconst dL_law_830 (by decide) ?_
  refine z_iadd dL_law_831 (by omega) ?_
  refine z_sld (by omega) (by omega) dL_law_832 ?_
  refine z_aload_0 dL_law_833 ?_
  refine z_iload_3 dL_law_834 ?_
  refine z_iconst dL_law_835 (by decide) ?_
  refine z_iadd dL_law_836 (by omega) ?_
  refine z_sld (by omega) (by omega) dL_law_837 ?_
  refine z_callV3 (k_X11_way (zRel_x h hN) (fun x a b => zWk_D a b)) m_X11_way zl_0 l_L_94 (Nat.le_of_ble_eq_true rfl) ⟨(Nat.le_of_ble_eq_true rfl), (Nat.le_of_ble_eq_true rfl)⟩ ⟨rfl, rfl⟩ dL_law_838 (fun r ν hX => ?_)
  obtain ⟨⟨z, rfl⟩, hi⟩ := hi_way hX
  have g := zRel_n h hN hi
  refine z_aload_2 dL_law_841 ?_
  refine z_aload_0 dL_law_842 ?_
  refine z_iload_3 dL_law_843 ?_
  refine z_iconst dL_law_844 (by decide) ?_
  refine z_iadd dL_law_845 (by omega) ?_
  refine z_sld (by omega) (by omega) dL_law_846 ?_
  refine z_aload_0 dL_law_847 ?_
  refine z_iload_3 dL_law_848 ?_
  refine z_iconst dL_law_849 (by decide) ?_
  refine z_iadd dL_law_850 (by omega) ?_
  refine z_sld (by omega) (by omega) dL_law_851 ?_
  refine z_aload_0 dL_law_852 ?_
  refine z_iload_3 dL_law_853 ?_
  refine z_iconst dL_law_854 (by decide) ?_
  refine z_iadd dL_law_855 (by omega) ?_
  refine z_sld (by omega) (by omega) dL_law_856 ?_
  refine z_callV3 (k_X12_way g.1 g.2.1) m_X12_way zl_393 l_L_98 (Nat.le_of_ble_eq_true rfl) ⟨(Nat.le_of_ble_eq_true rfl), (Nat.le_of_ble_eq_true rfl)⟩ ⟨rfl, rfl⟩ dL_law_857 (fun u ξ hM => ?_)
  obtain ⟨z2, e1, rfl, hR⟩ := pr_way h hX hM
  cases e1
  exact z_icmpeq (tgt := 1299) dL_law_860 (by decide) (fun _ => kk _ hR) (fun h9 => absurd rfl h9)
set_option maxRecDepth 100000 in
set_option maxHeartbeats 4000000 in
theorem lw_rule {X : zX} {E : zE} {μ : zM} {i N : Int} (h : zRel N μ) (hN : N ≤ 100000) (h0 : 0 ≤ i) (h1 : i + 6 ≤ (zsl E : Int)) (hL : zsl E ≤ 3072) (kk : ∀ ξ, zRel (N + 1) ξ → MW X E cL_law RL room_1 (some .boolean) zLp 1299 [zR 9002, zR 0, zR 393, zI i] [] ξ) : MW X E cL_law RL room_1 (some .boolean) zLp 865 [zR 9002, zR 0, zR 393, zI i] [] μ := by
  by_cases hb : (zsx E (i + 3).toNat).toInt = 0
  · refine z_aload_1 dL_law_865 ?_
    refine z_aload_0 dL_law_866 ?_
    refine z_iload_3 dL_law_867 ?_
    refine z_iconst dL_law_868 (by decide) ?_
    refine z_iadd dL_law_869 (by omega) ?_
    refine z_sld (by omega) (by omega) dL_law_870 ?_
    refine z_aload_0 dL_law_871 ?_
    refine z_iload_3 dL_law_872 ?_
    refine z_iconst dL_law_873 (by decide) ?_
    refine z_iadd dL_law_874 (by omega) ?_
    refine z_sld (by omega) (by omega) dL_law_875 ?_
    refine z_aload_0 dL_law_876 ?_
    refine z_iload_3 dL_law_877 ?_
    refine z_iconst dL_law_878 (by decide) ?_
    refine z_iadd dL_law_879 (by omega) ?_
    refine z_sld (by omega) (by omega) dL_law_880 ?_
    refine z_ifeq (tgt := 888) dL_law_881 (by decide) (fun _ => ?_) (fun h9 => absurd hb h9)
    refine z_iconst dL_law_888 (by decide) ?_
    refine z_callV3 (k_X11_rule (zRel_x h hN) (Or.inl rfl)) m_X11_rule zl_0 l_L_99 (Nat.le_of_ble_eq_true rfl) ⟨(Nat.le_of_ble_eq_true rfl), (Nat.le_of_ble_eq_true rfl)⟩ ⟨rfl, rfl⟩ dL_law_889 (fun r ν hX => ?_)
    obtain ⟨⟨z, rfl⟩, hi⟩ := hi_rule hX
    have g := zRel_n h hN hi
    refine z_aload_2 dL_law_892 ?_
    refine z_aload_0 dL_law_893 ?_
    refine z_iload_3 dL_law_894 ?_
    refine z_iconst dL_law_895 (by decide) ?_
    refine z_iadd dL_law_896 (by omega) ?_
    refine z_sld (by omega) (by omega) dL_law_897 ?_
    refine z_aload_0 dL_law_898 ?_
    refine z_iload_3 dL_law_899 ?_
    refine z_iconst dL_law_900 (by decide) ?_
    refine z_iadd dL_law_901 (by omega) ?_
    refine z_sld (by omega) (by omega) dL_law_902 ?_
    refine z_aload_0 dL_law_903 ?_
    refine z_iload_3 dL_law_904 ?_
    refine z_iconst dL_law_905 (by decide) ?_
    refine z_iadd dL_law_906 (by omega) ?_
    refine z_sld (by omega) (by omega) dL_law_907 ?_
    refine z_ifeq (tgt := 915) dL_law_908 (by decide) (fun _ => ?_) (fun h9 => absurd hb h9)
    refine z_iconst dL_law_915 (by decide) ?_
    refine z_callV3 (k_X12_rule g.1 (Or.inl rfl)) m_X12_rule zl_393 l_L_103 (Nat.le_of_ble_eq_true rfl) ⟨(Nat.le_of_ble_eq_true rfl), (Nat.le_of_ble_eq_true rfl)⟩ ⟨rfl, rfl⟩ dL_law_916 (fun u ξ hM => ?_)
    obtain ⟨z2, e1, rfl, hR⟩ := pr_rule (Or.inl rfl) h hX hM
    cases e1
    exact z_icmpeq (tgt := 1299) dL_law_919 (by decide) (fun _ => kk _ hR) (fun h9 => absurd rfl h9)
  · refine z_aload_1 dL_law_865 ?_
    refine z_aload_0 dL_law_866 ?_
    refine z_iload_3 dL_law_867 ?_
    refine z_iconst dL_law_868 (by decide) ?_
    refine z_iadd dL_law_869 (by omega) ?_
    refine z_sld (by omega) (by omega) dL_law_870 ?_
    refine z_aload_0 dL_law_871 ?_
    refine z_iload_3 dL_law_872 ?_
    refine z_iconst dL_law_873 (by decide) ?_
    refine z_iadd dL_law_874 (by omega) ?_
    refine z_sld (by omega) (by omega) dL_law_875 ?_
    refine z_aload_0 dL_law_876 ?_
    refine z_iload_3 dL_law_877 ?_
    refine z_iconst dL_law_878 (by decide) ?_
    refine z_iadd dL_law_879 (by omega) ?_
    refine z_sld (by omega) (by omega) dL_law_880 ?_
    refine z_ifeq (tgt := 888) dL_law_881 (by decide) (fun h9 => absurd h9 hb) (fun _ => ?_)
    refine z_iconst dL_law_884 (by decide) ?_
    refine z_goto (tgt := 889) dL_law_885 (by decide) ?_
    refine z_callV3 (k_X11_rule (zRel_x h hN) (Or.inr rfl)) m_X11_rule zl_0 l_L_99 (Nat.le_of_ble_eq_true rfl) ⟨(Nat.le_of_ble_eq_true rfl), (Nat.le_of_ble_eq_true rfl)⟩ ⟨rfl, rfl⟩ dL_law_889 (fun r ν hX => ?_)
    obtain ⟨⟨z, rfl⟩, hi⟩ := hi_rule hX
    have g := zRel_n h hN hi
    refine z_aload_2 dL_law_892 ?_
    refine z_aload_0 dL_law_893 ?_
    refine z_iload_3 dL_law_894 ?_
    refine z_iconst dL_law_895 (by decide) ?_
    refine z_iadd dL_law_896 (by omega) ?_
    refine z_sld (by omega) (by omega) dL_law_897 ?_
    refine z_aload_0 dL_law_898 ?_
    refine z_iload_3 dL_law_899 ?_
    refine z_iconst dL_law_900 (by decide) ?_
    refine z_iadd dL_law_901 (by omega) ?_
    refine z_sld (by omega) (by omega) dL_law_902 ?_
    refine z_aload_0 dL_law_903 ?_
    refine z_iload_3 dL_law_904 ?_
    refine z_iconst dL_law_905 (by decide) ?_
    refine z_iadd dL_law_906 (by omega) ?_
    refine z_sld (by omega) (by omega) dL_law_907 ?_
    refine z_ifeq (tgt := 915) dL_law_908 (by decide) (fun h9 => absurd h9 hb) (fun _ => ?_)
    refine z_iconst dL_law_911 (by decide) ?_
    refine z_goto (tgt := 916) dL_law_912 (by decide) ?_
    refine z_callV3 (k_X12_rule g.1 (Or.inr rfl)) m_X12_rule zl_393 l_L_103 (Nat.le_of_ble_eq_true rfl) ⟨(Nat.le_of_ble_eq_true rfl), (Nat.le_of_ble_eq_true rfl)⟩ ⟨rfl, rfl⟩ dL_law_916 (fun u ξ hM => ?_)
    obtain ⟨z2, e1, rfl, hR⟩ := pr_rule (Or.inr rfl) h hX hM
    cases e1
    exact z_icmpeq (tgt := 1299) dL_law_919 (by decide) (fun _ => kk _ hR) (fun h9 => absurd rfl h9)
set_option maxRecDepth 100000 in
set_option maxHeartbeats 4000000 in
theorem lw_free {X : zX} {E : zE} {μ : zM} {i N : Int} (h : zRel N μ) (hN : N ≤ 100000) (h0 : 0 ≤ i) (h1 : i + 6 ≤ (zsl E : Int)) (hL : zsl E ≤ 3072) (kk : ∀ ξ, zRel (N + 1) ξ → MW X E cL_law RL room_1 (some .boolean) zLp 1299 [zR 9002, zR 0, zR 393, zI i] [] ξ) : MW X E cL_law RL room_1 (some .boolean) zLp 924 [zR 9002, zR 0, zR 393, zI i] [] μ := by
  refine z_aload_1 dL_law_924 ?_
  refine z_callV0 (k_X11_free (zRel_x h hN)) m_X11_free zl_0 l_L_104 (Nat.le_of_ble_eq_true rfl) ⟨(Nat.le_of_ble_eq_true rfl), (Nat.le_of_ble_eq_true rfl)⟩ ⟨rfl, rfl⟩ dL_law_925 (fun r ν hX => ?_)
  obtain ⟨⟨z, rfl⟩, hi⟩ := hi_free hX
  have g := zRel_n h hN hi
  refine z_aload_2 dL_law_928 ?_
  refine z_callV0 (k_X12_free g.1) m_X12_free zl_393 l_L_107 (Nat.le_of_ble_eq_true rfl) ⟨(Nat.le_of_ble_eq_true rfl), (Nat.le_of_ble_eq_true rfl)⟩ ⟨rfl, rfl⟩ dL_law_929 (fun u ξ hM => ?_)
  obtain ⟨z2, e1, rfl, hR⟩ := pr_free h hX hM
  cases e1
  exact z_icmpeq (tgt := 1299) dL_law_932 (by decide) (fun _ => kk _ hR) (fun h9 => absurd rfl h9)
set_option maxRecDepth 100000 in
set_option maxHeartbeats 4000000 in
theorem lw_best {X : zX} {E : zE} {μ : zM} {i N : Int} (h : zRel N μ) (hN : N ≤ 100000) (h0 : 0 ≤ i) (h1 : i + 6 ≤ (zsl E : Int)) (hL : zsl E ≤ 3072) (kk : ∀ ξ, zRel (N + 1) ξ → MW X E cL_law RL room_1 (some .boolean) zLp 1299 [zR 9002, zR 0, zR 393, zI i] [] ξ) : MW X E cL_law RL room_1 (some .boolean) zLp 937 [zR 9002, zR 0, zR 393, zI i] [] μ := by
  by_cases hb : (zsx E (i + 1).toNat).toInt = 0
  · refine z_aload_1 dL_law_937 ?_
    refine z_aload_0 dL_law_938 ?_
    refine z_iload_3 dL_law_939 ?_
    refine z_iconst dL_law_940 (by decide) ?_
    refine z_iadd dL_law_941 (by omega) ?_
    refine z_sld (by omega) (by omega) dL_law_942 ?_
    refine z_ifeq (tgt := 950) dL_law_943 (by decide) (fun _ => ?_) (fun h9 => absurd hb h9)
    refine z_iconst dL_law_950 (by decide) ?_
    refine z_aload_0 dL_law_951 ?_
    refine z_iload_3 dL_law_952 ?_
    refine z_iconst dL_law_953 (by decide) ?_
    refine z_iadd dL_law_954 (by omega) ?_
    refine z_sld (by omega) (by omega) dL_law_955 ?_
    refine z_callV2 (k_X11_best (zRel_x h hN)) m_X11_best zl_0 l_L_108 (Nat.le_of_ble_eq_true rfl) ⟨(Nat.le_of_ble_eq_true rfl), (Nat.le_of_ble_eq_true rfl)⟩ ⟨rfl, rfl⟩ dL_law_956 (fun r ν hX => ?_)
    obtain ⟨⟨z, rfl⟩, hi⟩ := hi_best hX
    have g := zRel_n h hN hi
    refine z_aload_2 dL_law_959 ?_
    refine z_aload_0 dL_law_960 ?_
    refine z_iload_3 dL_law_961 ?_
    refine z_iconst dL_law_962 (by decide) ?_
    refine z_iadd dL_law_963 (by omega) ?_
    refine z_sld (by omega) (by omega) dL_law_964 ?_
    refine z_ifeq (tgt := 972) dL_law_965 (by decide) (fun _ => ?_) (fun h9 => absurd hb h9)
    refine z_iconst dL_law_972 (by decide) ?_
    refine z_aload_0 dL_law_973 ?_
    refine z_iload_3 dL_law_974 ?_
    refine z_iconst dL_law_975 (by decide) ?_
    refine z_iadd dL_law_976 (by omega) ?_
    refine z_sld (by omega) (by omega) dL_law_977 ?_
    refine z_callV2 (k_X12_best g.1 g.2.1) m_X12_best zl_393 l_L_112 (Nat.le_of_ble_eq_true rfl) ⟨(Nat.le_of_ble_eq_true rfl), (Nat.le_of_ble_eq_true rfl)⟩ ⟨rfl, rfl⟩ dL_law_978 (fun u ξ hM => ?_)
    obtain ⟨z2, e1, rfl, hR⟩ := pr_best h hX hM
    cases e1
    exact z_icmpeq (tgt := 1299) dL_law_981 (by decide) (fun _ => kk _ hR) (fun h9 => absurd rfl h9)
  · refine z_aload_1 dL_law_937 ?_
    refine z_aload_0 dL_law_938 ?_
    refine z_iload_3 dL_law_939 ?_
    refine z_iconst dL_law_940 (by decide) ?_
    refine z_iadd dL_law_941 (by omega) ?_
    refine z_sld (by omega) (by omega) dL_law_942 ?_
    refine z_ifeq (tgt := 950) dL_law_943 (by decide) (fun h9 => absurd h9 hb) (fun _ => ?_)
    refine z_iconst dL_law_946 (by decide) ?_
    refine z_goto (tgt := 951) dL_law_947 (by decide) ?_
    refine z_aload_0 dL_law_951 ?_
    refine z_iload_3 dL_law_952 ?_
    refine z_iconst dL_law_953 (by decide) ?_
    refine z_iadd dL_law_954 (by omega) ?_
    refine z_sld (by omega) (by omega) dL_law_955 ?_
    refine z_callV2 (k_X11_best (zRel_x h hN)) m_X11_best zl_0 l_L_108 (Nat.le_of_ble_eq_true rfl) ⟨(Nat.le_of_ble_eq_true rfl), (Nat.le_of_ble_eq_true rfl)⟩ ⟨rfl, rfl⟩ dL_law_956 (fun r ν hX => ?_)
    obtain ⟨⟨z, rfl⟩, hi⟩ := hi_best hX
    have g := zRel_n h hN hi
    refine z_aload_2 dL_law_959 ?_
    refine z_aload_0 dL_law_960 ?_
    refine z_iload_3 dL_law_961 ?_
    refine z_iconst dL_law_962 (by decide) ?_
    refine z_iadd dL_law_963 (by omega) ?_
    refine z_sld (by omega) (by omega) dL_law_964 ?_
    refine z_ifeq (tgt := 972) dL_law_965 (by decide) (fun h9 => absurd h9 hb) (fun _ => ?_)
    refine z_iconst dL_law_968 (by decide) ?_
    refine z_goto (tgt := 973) dL_law_969 (by decide) ?_
    refine z_aload_0 dL_law_973 ?_
    refine z_iload_3 dL_law_974 ?_
    refine z_iconst dL_law_975 (by decide) ?_
    refine z_iadd dL_law_976 (by omega) ?_
    refine z_sld (by omega) (by omega) dL_law_977 ?_
    refine z_callV2 (k_X12_best g.1 g.2.1) m_X12_best zl_393 l_L_112 (Nat.le_of_ble_eq_true rfl) ⟨(Nat.le_of_ble_eq_true rfl), (Nat.le_of_ble_eq_true rfl)⟩ ⟨rfl, rfl⟩ dL_law_978 (fun u ξ hM => ?_)
    obtain ⟨z2, e1, rfl, hR⟩ := pr_best h hX hM
    cases e1
    exact z_icmpeq (tgt := 1299) dL_law_981 (by decide) (fun _ => kk _ hR) (fun h9 => absurd rfl h9)
set_option maxRecDepth 100000 in
set_option maxHeartbeats 4000000 in
theorem lw_cost {X : zX} {E : zE} {μ : zM} {i N : Int} (h : zRel N μ) (hN : N ≤ 100000) (h0 : 0 ≤ i) (h1 : i + 6 ≤ (zsl E : Int)) (hL : zsl E ≤ 3072) (kk : ∀ ξ, zRel (N + 1) ξ → MW X E cL_law RL room_1 (some .boolean) zLp 1299 [zR 9002, zR 0, zR 393, zI i] [] ξ) : MW X E cL_law RL room_1 (some .boolean) zLp 986 [zR 9002, zR 0, zR 393, zI i] [] μ := by
  refine z_aload_1 dL_law_986 ?_
  refine z_callV0 (k_X11_cost (zRel_x h hN)) m_X11_cost zl_0 l_L_113 (Nat.le_of_ble_eq_true rfl) ⟨(Nat.le_of_ble_eq_true rfl), (Nat.le_of_ble_eq_true rfl)⟩ ⟨rfl, rfl⟩ dL_law_987 (fun r ν hX => ?_)
  obtain ⟨⟨z, rfl⟩, hi⟩ := hi_cost hX
  have g := zRel_n h hN hi
  refine z_aload_2 dL_law_990 ?_
  refine z_callV0 (k_X12_cost g.1 g.2.1) m_X12_cost zl_393 l_L_116 (Nat.le_of_ble_eq_true rfl) ⟨(Nat.le_of_ble_eq_true rfl), (Nat.le_of_ble_eq_true rfl)⟩ ⟨rfl, rfl⟩ dL_law_991 (fun u ξ hM => ?_)
  obtain ⟨z2, e1, rfl, hR⟩ := pr_cost h hX hM
  cases e1
  exact z_icmpeq (tgt := 1299) dL_law_994 (by decide) (fun _ => kk _ hR) (fun h9 => absurd rfl h9)
set_option maxRecDepth 100000 in
set_option maxHeartbeats 4000000 in
theorem lw_order {X : zX} {E : zE} {μ : zM} {i N : Int} (h : zRel N μ) (hN : N ≤ 100000) (h0 : 0 ≤ i) (h1 : i + 6 ≤ (zsl E : Int)) (hL : zsl E ≤ 3072) (kk : ∀ ξ, zRel (N + 1) ξ → MW X E cL_law RL room_1 (some .boolean) zLp 1299 [zR 9002, zR 0, zR 393, zI i] [] ξ) : MW X E cL_law RL room_1 (some .boolean) zLp 999 [zR 9002, zR 0, zR 393, zI i] [] μ := by
  refine z_aload_1 dL_law_999 ?_
  refine z_aload_0 dL_law_1000 ?_
  refine z_iload_3 dL_law_1001 ?_
  refine z_iconst dL_law_1002 (by decide) ?_
  refine z_iadd dL_law_1003 (by omega) ?_
  refine z_sld (by omega) (by omega) dL_law_1004 ?_
  refine z_callV1 (k_X11_order (zRel_x h hN)) m_X11_order zl_0 l_L_117 (Nat.le_of_ble_eq_true rfl) ⟨(Nat.le_of_ble_eq_true rfl), (Nat.le_of_ble_eq_true rfl)⟩ ⟨rfl, rfl⟩ dL_law_1005 (fun r ν hX => ?_)
  obtain ⟨⟨z, rfl⟩, hi⟩ := hi_order hX
  have g := zRel_n h hN hi
  refine z_aload_2 dL_law_1008 ?_
  refine z_aload_0 dL_law_1009 ?_
  refine z_iload_3 dL_law_1010 ?_
  refine z_iconst dL_law_1011 (by decide) ?_
  refine z_iadd dL_law_1012 (by omega) ?_
  refine z_sld (by omega) (by omega) dL_law_1013 ?_
  refine z_callV1 (k_X12_order g.1 g.2.1) m_X12_order zl_393 l_L_120 (Nat.le_of_ble_eq_true rfl) ⟨(Nat.le_of_ble_eq_true rfl), (Nat.le_of_ble_eq_true rfl)⟩ ⟨rfl, rfl⟩ dL_law_1014 (fun u ξ hM => ?_)
  obtain ⟨z2, e1, rfl, hR⟩ := pr_order h hX hM
  cases e1
  exact z_icmpeq (tgt := 1299) dL_law_1017 (by decide) (fun _ => kk _ hR) (fun h9 => absurd rfl h9)
set_option maxRecDepth 100000 in
set_option maxHeartbeats 4000000 in
theorem lw_worth {X : zX} {E : zE} {μ : zM} {i N : Int} (h : zRel N μ) (hN : N ≤ 100000) (h0 : 0 ≤ i) (h1 : i + 6 ≤ (zsl E : Int)) (hL : zsl E ≤ 3072) (kk : ∀ ξ, zRel (N + 1) ξ → MW X E cL_law RL room_1 (some .boolean) zLp 1299 [zR 9002, zR 0, zR 393, zI i] [] ξ) : MW X E cL_law RL room_1 (some .boolean) zLp 1022 [zR 9002, zR 0, zR 393, zI i] [] μ := by
  refine z_aload_1 dL_law_1022 ?_
  refine z_aload_0 dL_law_1023 ?_
  refine z_iload_3 dL_law_1024 ?_
  refine z_iconst dL_law_1025 (by decide) ?_
  refine z_iadd dL_law_1026 (by omega) ?_
  refine z_sld (by omega) (by omega) dL_law_1027 ?_
  refine z_aload_0 dL_law_1028 ?_
  refine z_iload_3 dL_law_1029 ?_
  refine z_iconst dL_law_1030 (by decide) ?_
  refine z_iadd dL_law_1031 (by omega) ?_
  refine z_sld (by omega) (by omega) dL_law_1032 ?_
  refine z_callV2 (k_X11_worth (zRel_x h hN) (zRel_e h)) m_X11_worth zl_0 l_L_121 (Nat.le_of_ble_eq_true rfl) ⟨(Nat.le_of_ble_eq_true rfl), (Nat.le_of_ble_eq_true rfl)⟩ ⟨rfl, rfl⟩ dL_law_1033 (fun r ν hX => ?_)
  obtain ⟨⟨z, rfl⟩, hi⟩ := hi_worth hX
  have g := zRel_n h hN hi
  refine z_aload_2 dL_law_1036 ?_
  refine z_aload_0 dL_law_1037 ?_
  refine z_iload_3 dL_law_1038 ?_
  refine z_iconst dL_law_1039 (by decide) ?_
  refine z_iadd dL_law_1040 (by omega) ?_
  refine z_sld (by omega) (by omega) dL_law_1041 ?_
  refine z_aload_0 dL_law_1042 ?_
  refine z_iload_3 dL_law_1043 ?_
  refine z_iconst dL_law_1044 (by decide) ?_
  refine z_iadd dL_law_1045 (by omega) ?_
  refine z_sld (by omega) (by omega) dL_law_1046 ?_
  refine z_callV2 (k_X12_worth g.1 g.2.1 g.2.2.2.2) m_X12_worth zl_393 l_L_124 (Nat.le_of_ble_eq_true rfl) ⟨(Nat.le_of_ble_eq_true rfl), (Nat.le_of_ble_eq_true rfl)⟩ ⟨rfl, rfl⟩ dL_law_1047 (fun u ξ hM => ?_)
  obtain ⟨z2, e1, rfl, hR⟩ := pr_worth h hX hM
  cases e1
  exact z_icmpeq (tgt := 1299) dL_law_1050 (by decide) (fun _ => kk _ hR) (fun h9 => absurd rfl h9)
set_option maxRecDepth 100000 in
set_option maxHeartbeats 4000000 in
theorem lw_screw {X : zX} {E : zE} {μ : zM} {i N : Int} (h : zRel N μ) (hN : N ≤ 100000) (h0 : 0 ≤ i) (h1 : i + 6 ≤ (zsl E : Int)) (hL : zsl E ≤ 3072) (kk : ∀ ξ, zRel (N + 1) ξ → MW X E cL_law RL room_1 (some .boolean) zLp 1299 [zR 9002, zR 0, zR 393, zI i] [] ξ) : MW X E cL_law RL room_1 (some .boolean) zLp 1055 [zR 9002, zR 0, zR 393, zI i] [] μ := by
  refine z_aload_1 dL_law_1055 ?_
  refine z_callV0 (k_X11_screw (zRel_x h hN) (zRel_e h)) m_X11_screw zl_0 l_L_125 (Nat.le_of_ble_eq_true rfl) ⟨(Nat.le_of_ble_eq_true rfl), (Nat.le_of_ble_eq_true rfl)⟩ ⟨rfl, rfl⟩ dL_law_1056 (fun r ν hX => ?_)
  obtain ⟨⟨z, rfl⟩, hi⟩ := hi_screw hX
  have g := zRel_n h hN hi
  refine z_aload_2 dL_law_1059 ?_
  refine z_callV0 (k_X12_screw g.1 g.2.1 g.2.2.2.2) m_X12_screw zl_393 l_L_128 (Nat.le_of_ble_eq_true rfl) ⟨(Nat.le_of_ble_eq_true rfl), (Nat.le_of_ble_eq_true rfl)⟩ ⟨rfl, rfl⟩ dL_law_1060 (fun u ξ hM => ?_)
  obtain ⟨z2, e1, rfl, hR⟩ := pr_screw h hX hM
  cases e1
  exact z_icmpeq (tgt := 1299) dL_law_1063 (by decide) (fun _ => kk _ hR) (fun h9 => absurd rfl h9)
set_option maxRecDepth 100000 in
set_option maxHeartbeats 4000000 in
theorem lw_rooms {X : zX} {E : zE} {μ : zM} {i N : Int} (h : zRel N μ) (hN : N ≤ 100000) (h0 : 0 ≤ i) (h1 : i + 6 ≤ (zsl E : Int)) (hL : zsl E ≤ 3072) (kk : ∀ ξ, zRel (N + 1) ξ → MW X E cL_law RL room_1 (some .boolean) zLp 1299 [zR 9002, zR 0, zR 393, zI i] [] ξ) : MW X E cL_law RL room_1 (some .boolean) zLp 1068 [zR 9002, zR 0, zR 393, zI i] [] μ := by
  refine z_aload_1 dL_law_1068 ?_
  refine z_callV0 (k_X11_rooms (zRel_x h hN)) m_X11_rooms zl_0 l_L_129 (Nat.le_of_ble_eq_true rfl) ⟨(Nat.le_of_ble_eq_true rfl), (Nat.le_of_ble_eq_true rfl)⟩ ⟨rfl, rfl⟩ dL_law_1069 (fun r ν hX => ?_)
  obtain ⟨⟨z, rfl⟩, hi⟩ := hi_rooms hX
  have g := zRel_n h hN hi
  refine z_aload_2 dL_law_1072 ?_
  refine z_callV0 (k_X12_rooms g.1 g.2.1) m_X12_rooms zl_393 l_L_132 (Nat.le_of_ble_eq_true rfl) ⟨(Nat.le_of_ble_eq_true rfl), (Nat.le_of_ble_eq_true rfl)⟩ ⟨rfl, rfl⟩ dL_law_1073 (fun u ξ hM => ?_)
  obtain ⟨z2, e1, rfl, hR⟩ := pr_rooms h hX hM
  cases e1
  exact z_icmpeq (tgt := 1299) dL_law_1076 (by decide) (fun _ => kk _ hR) (fun h9 => absurd rfl h9)
set_option maxRecDepth 100000 in
set_option maxHeartbeats 4000000 in
theorem lw_temper {X : zX} {E : zE} {μ : zM} {i N : Int} (h : zRel N μ) (hN : N ≤ 100000) (h0 : 0 ≤ i) (h1 : i + 6 ≤ (zsl E : Int)) (hL : zsl E ≤ 3072) (kk : ∀ ξ, zRel (N + 1) ξ → MW X E cL_law RL room_1 (some .boolean) zLp 1299 [zR 9002, zR 0, zR 393, zI i] [] ξ) : MW X E cL_law RL room_1 (some .boolean) zLp 1081 [zR 9002, zR 0, zR 393, zI i] [] μ := by
  refine z_aload_1 dL_law_1081 ?_
  refine z_aload_0 dL_law_1082 ?_
  refine z_iload_3 dL_law_1083 ?_
  refine z_iconst dL_law_1084 (by decide) ?_
  refine z_iadd dL_law_1085 (by omega) ?_
  refine z_sld (by omega) (by omega) dL_law_1086 ?_
  refine z_aload_0 dL_law_1087 ?_
  refine z_iload_3 dL_law_1088 ?_
  refine z_iconst dL_law_1089 (by decide) ?_
  refine z_iadd dL_law_1090 (by omega) ?_
  refine z_sld (by omega) (by omega) dL_law_1091 ?_
  refine z_callV2 (k_X11_temper (zRel_x h hN)) m_X11_temper zl_0 l_L_133 (Nat.le_of_ble_eq_true rfl) ⟨(Nat.le_of_ble_eq_true rfl), (Nat.le_of_ble_eq_true rfl)⟩ ⟨rfl, rfl⟩ dL_law_1092 (fun r ν hX => ?_)
  obtain ⟨⟨z, rfl⟩, hi⟩ := hi_temper hX
  have g := zRel_n h hN hi
  refine z_aload_2 dL_law_1095 ?_
  refine z_aload_0 dL_law_1096 ?_
  refine z_iload_3 dL_law_1097 ?_
  refine z_iconst dL_law_1098 (by decide) ?_
  refine z_iadd dL_law_1099 (by omega) ?_
  refine z_sld (by omega) (by omega) dL_law_1100 ?_
  refine z_aload_0 dL_law_1101 ?_
  refine z_iload_3 dL_law_1102 ?_
  refine z_iconst dL_law_1103 (by decide) ?_
  refine z_iadd dL_law_1104 (by omega) ?_
  refine z_sld (by omega) (by omega) dL_law_1105 ?_
  refine z_callV2 (k_X12_temper g.1 g.2.1) m_X12_temper zl_393 l_L_136 (Nat.le_of_ble_eq_true rfl) ⟨(Nat.le_of_ble_eq_true rfl), (Nat.le_of_ble_eq_true rfl)⟩ ⟨rfl, rfl⟩ dL_law_1106 (fun u ξ hM => ?_)
  obtain ⟨z2, e1, rfl, hR⟩ := pr_temper h hX hM
  cases e1
  exact z_icmpeq (tgt := 1299) dL_law_1109 (by decide) (fun _ => kk _ hR) (fun h9 => absurd rfl h9)
set_option maxRecDepth 100000 in
set_option maxHeartbeats 4000000 in
theorem lw_quarrel {X : zX} {E : zE} {μ : zM} {i N : Int} (h : zRel N μ) (hN : N ≤ 100000) (h0 : 0 ≤ i) (h1 : i + 6 ≤ (zsl E : Int)) (hL : zsl E ≤ 3072) (kk : ∀ ξ, zRel (N + 1) ξ → MW X E cL_law RL room_1 (some .boolean) zLp 1299 [zR 9002, zR 0, zR 393, zI i] [] ξ) : MW X E cL_law RL room_1 (some .boolean) zLp 1114 [zR 9002, zR 0, zR 393, zI i] [] μ := by
  refine z_aload_1 dL_law_1114 ?_
  refine z_aload_0 dL_law_1115 ?_
  refine z_iload_3 dL_law_1116 ?_
  refine z_iconst dL_law_1117 (by decide) ?_
  refine z_iadd dL_law_1118 (by omega) ?_
  refine z_sld (by omega) (by omega) dL_law_1119 ?_
  refine z_callV1 (k_X11_quarrel (zRel_x h hN)) m_X11_quarrel zl_0 l_L_137 (Nat.le_of_ble_eq_true rfl) ⟨(Nat.le_of_ble_eq_true rfl), (Nat.le_of_ble_eq_true rfl)⟩ ⟨rfl, rfl⟩ dL_law_1120 (fun r ν hX => ?_)
  obtain ⟨⟨z, rfl⟩, hi⟩ := hi_quarrel hX
  have g := zRel_n h hN hi
  refine z_aload_2 dL_law_1123 ?_
  refine z_aload_0 dL_law_1124 ?_
  refine z_iload_3 dL_law_1125 ?_
  refine z_iconst dL_law_1126 (by decide) ?_
  refine z_iadd dL_law_1127 (by omega) ?_
  refine z_sld (by omega) (by omega) dL_law_1128 ?_
  refine z_callV1 (k_X12_quarrel g.1 g.2.1) m_X12_quarrel zl_393 l_L_140 (Nat.le_of_ble_eq_true rfl) ⟨(Nat.le_of_ble_eq_true rfl), (Nat.le_of_ble_eq_true rfl)⟩ ⟨rfl, rfl⟩ dL_law_1129 (fun u ξ hM => ?_)
  obtain ⟨z2, e1, rfl, hR⟩ := pr_quarrel h hX hM
  cases e1
  exact z_icmpeq (tgt := 1299) dL_law_1132 (by decide) (fun _ => kk _ hR) (fun h9 => absurd rfl h9)
set_option maxRecDepth 100000 in
set_option maxHeartbeats 4000000 in
theorem lw_tent {X : zX} {E : zE} {μ : zM} {i N : Int} (h : zRel N μ) (hN : N ≤ 100000) (h0 : 0 ≤ i) (h1 : i + 6 ≤ (zsl E : Int)) (hL : zsl E ≤ 3072) (kk : ∀ ξ, zRel (N + 1) ξ → MW X E cL_law RL room_1 (some .boolean) zLp 1299 [zR 9002, zR 0, zR 393, zI i] [] ξ) : MW X E cL_law RL room_1 (some .boolean) zLp 1137 [zR 9002, zR 0, zR 393, zI i] [] μ := by
  refine z_aload_1 dL_law_1137 ?_
  refine z_aload_0 dL_law_1138 ?_
  refine z_iload_3 dL_law_1139 ?_
  refine z_iconst dL_law_1140 (by decide) ?_
  refine z_iadd dL_law_1141 (by omega) ?_
  refine z_sld (by omega) (by omega) dL_law_1142 ?_
  refine z_aload_0 dL_law_1143 ?_
  refine z_iload_3 dL_law_1144 ?_
  refine z_iconst dL_law_1145 (by decide) ?_
  refine z_iadd dL_law_1146 (by omega) ?_
  refine z_sld (by omega) (by omega) dL_law_1147 ?_
  refine z_callV2 (k_X11_tent (zRel_x h hN)) m_X11_tent zl_0 l_L_141 (Nat.le_of_ble_eq_true rfl) ⟨(Nat.le_of_ble_eq_true rfl), (Nat.le_of_ble_eq_true rfl)⟩ ⟨rfl, rfl⟩ dL_law_1148 (fun r ν hX => ?_)
  obtain ⟨⟨z, rfl⟩, hi⟩ := hi_tent hX
  have g := zRel_n h hN hi
  refine z_aload_2 dL_law_1151 ?_
  refine z_aload_0 dL_law_1152 ?_
  refine z_iload_3 dL_law_1153 ?_
  refine z_iconst dL_law_1154 (by decide) ?_
  refine z_iadd dL_law_1155 (by omega) ?_
  refine z_sld (by omega) (by omega) dL_law_1156 ?_
  refine z_aload_0 dL_law_1157 ?_
  refine z_iload_3 dL_law_1158 ?_
  refine z_iconst dL_law_1159 (by decide) ?_
  refine z_iadd dL_law_1160 (by omega) ?_
  refine z_sld (by omega) (by omega) dL_law_1161 ?_
  refine z_callV2 (k_X12_tent g.1) m_X12_tent zl_393 l_L_144 (Nat.le_of_ble_eq_true rfl) ⟨(Nat.le_of_ble_eq_true rfl), (Nat.le_of_ble_eq_true rfl)⟩ ⟨rfl, rfl⟩ dL_law_1162 (fun u ξ hM => ?_)
  obtain ⟨z2, e1, rfl, hR⟩ := pr_tent h hX hM
  cases e1
  exact z_icmpeq (tgt := 1299) dL_law_1165 (by decide) (fun _ => kk _ hR) (fun h9 => absurd rfl h9)
set_option maxRecDepth 100000 in
set_option maxHeartbeats 4000000 in
theorem lw_part {X : zX} {E : zE} {μ : zM} {i N : Int} (h : zRel N μ) (hN : N ≤ 100000) (h0 : 0 ≤ i) (h1 : i + 6 ≤ (zsl E : Int)) (hL : zsl E ≤ 3072) (kk : ∀ ξ, zRel (N + 1) ξ → MW X E cL_law RL room_1 (some .boolean) zLp 1299 [zR 9002, zR 0, zR 393, zI i] [] ξ) : MW X E cL_law RL room_1 (some .boolean) zLp 1170 [zR 9002, zR 0, zR 393, zI i] [] μ := by
  refine z_aload_1 dL_law_1170 ?_
  refine z_aload_0 dL_law_1171 ?_
  refine z_iload_3 dL_law_1172 ?_
  refine z_iconst dL_law_1173 (by decide) ?_
  refine z_iadd dL_law_1174 (by omega) ?_
  refine z_sld (by omega) (by omega) dL_law_1175 ?_
  refine z_callV1 (k_X11_part (zRel_x h hN)) m_X11_part zl_0 l_L_145 (Nat.le_of_ble_eq_true rfl) ⟨(Nat.le_of_ble_eq_true rfl), (Nat.le_of_ble_eq_true rfl)⟩ ⟨rfl, rfl⟩ dL_law_1176 (fun r ν hX => ?_)
  obtain ⟨⟨z, rfl⟩, hi⟩ := hi_part hX
  have g := zRel_n h hN hi
  refine z_aload_2 dL_law_1179 ?_
  refine z_aload_0 dL_law_1180 ?_
  refine z_iload_3 dL_law_1181 ?_
  refine z_iconst dL_law_1182 (by decide) ?_
  refine z_iadd dL_law_1183 (by omega) ?_
  refine z_sld (by omega) (by omega) dL_law_1184 ?_
  refine z_callV1 (k_X12_part g.1) m_X12_part zl_393 l_L_148 (Nat.le_of_ble_eq_true rfl) ⟨(Nat.le_of_ble_eq_true rfl), (Nat.le_of_ble_eq_true rfl)⟩ ⟨rfl, rfl⟩ dL_law_1185 (fun u ξ hM => ?_)
  obtain ⟨z2, e1, rfl, hR⟩ := pr_part h hX hM
  cases e1
  exact z_icmpeq (tgt := 1299) dL_law_1188 (by decide) (fun _ => kk _ hR) (fun h9 => absurd rfl h9)
set_option maxRecDepth 100000 in
set_option maxHeartbeats 4000000 in
theorem lw_image {X : zX} {E : zE} {μ : zM} {i N : Int} (h : zRel N μ) (hN : N ≤ 100000) (h0 : 0 ≤ i) (h1 : i + 6 ≤ (zsl E : Int)) (hL : zsl E ≤ 3072) (kk : ∀ ξ, zRel (N + 1) ξ → MW X E cL_law RL room_1 (some .boolean) zLp 1299 [zR 9002, zR 0, zR 393, zI i] [] ξ) : MW X E cL_law RL room_1 (some .boolean) zLp 1193 [zR 9002, zR 0, zR 393, zI i] [] μ := by
  refine z_aload_1 dL_law_1193 ?_
  refine z_aload_0 dL_law_1194 ?_
  refine z_iload_3 dL_law_1195 ?_
  refine z_iconst dL_law_1196 (by decide) ?_
  refine z_iadd dL_law_1197 (by omega) ?_
  refine z_sld (by omega) (by omega) dL_law_1198 ?_
  refine z_callV1 (k_X11_image (zRel_x h hN)) m_X11_image zl_0 l_L_149 (Nat.le_of_ble_eq_true rfl) ⟨(Nat.le_of_ble_eq_true rfl), (Nat.le_of_ble_eq_true rfl)⟩ ⟨rfl, rfl⟩ dL_law_1199 (fun r ν hX => ?_)
  obtain ⟨⟨z, rfl⟩, hi⟩ := hi_image hX
  have g := zRel_n h hN hi
  refine z_aload_2 dL_law_1202 ?_
  refine z_aload_0 dL_law_1203 ?_
  refine z_iload_3 dL_law_1204 ?_
  refine z_iconst dL_law_1205 (by decide) ?_
  refine z_iadd dL_law_1206 (by omega) ?_
  refine z_sld (by omega) (by omega) dL_law_1207 ?_
  refine z_callV1 (k_X12_image g.1) m_X12_image zl_393 l_L_152 (Nat.le_of_ble_eq_true rfl) ⟨(Nat.le_of_ble_eq_true rfl), (Nat.le_of_ble_eq_true rfl)⟩ ⟨rfl, rfl⟩ dL_law_1208 (fun u ξ hM => ?_)
  obtain ⟨z2, e1, rfl, hR⟩ := pr_image h hX hM
  cases e1
  exact z_icmpeq (tgt := 1299) dL_law_1211 (by decide) (fun _ => kk _ hR) (fun h9 => absurd rfl h9)
set_option maxRecDepth 100000 in
set_option maxHeartbeats 4000000 in
theorem lw_from {X : zX} {E : zE} {μ : zM} {i N : Int} (h : zRel N μ) (hN : N ≤ 100000) (h0 : 0 ≤ i) (h1 : i + 6 ≤ (zsl E : Int)) (hL : zsl E ≤ 3072) (kk : ∀ ξ, zRel (N + 1) ξ → MW X E cL_law RL room_1 (some .boolean) zLp 1299 [zR 9002, zR 0, zR 393, zI i] [] ξ) : MW X E cL_law RL room_1 (some .boolean) zLp 1216 [zR 9002, zR 0, zR 393, zI i] [] μ := by
  refine z_aload_1 dL_law_1216 ?_
  refine z_aload_0 dL_law_1217 ?_
  refine z_iload_3 dL_law_1218 ?_
  refine z_iconst dL_law_1219 (by decide) ?_
  refine z_iadd dL_law_1220 (by omega) ?_
  refine z_sld (by omega) (by omega) dL_law_1221 ?_
  refine z_callV1 (k_X11_from (zRel_x h hN) (fun a b c => zRel_xk h a b c)) m_X11_from zl_0 l_L_153 (Nat.le_of_ble_eq_true rfl) ⟨(Nat.le_of_ble_eq_true rfl), (Nat.le_of_ble_eq_true rfl)⟩ ⟨rfl, rfl⟩ dL_law_1222 (fun r ν hX => ?_)
  obtain ⟨⟨z, rfl⟩, hi⟩ := hi_from hX
  have g := zRel_n h hN hi
  refine z_aload_2 dL_law_1225 ?_
  refine z_aload_0 dL_law_1226 ?_
  refine z_iload_3 dL_law_1227 ?_
  refine z_iconst dL_law_1228 (by decide) ?_
  refine z_iadd dL_law_1229 (by omega) ?_
  refine z_sld (by omega) (by omega) dL_law_1230 ?_
  refine z_callV1 (k_X12_from g.1) m_X12_from zl_393 l_L_156 (Nat.le_of_ble_eq_true rfl) ⟨(Nat.le_of_ble_eq_true rfl), (Nat.le_of_ble_eq_true rfl)⟩ ⟨rfl, rfl⟩ dL_law_1231 (fun u ξ hM => ?_)
  obtain ⟨z2, e1, rfl, hR⟩ := pr_from h hX hM
  cases e1
  exact z_icmpeq (tgt := 1299) dL_law_1234 (by decide) (fun _ => kk _ hR) (fun h9 => absurd rfl h9)
set_option maxRecDepth 100000 in
set_option maxHeartbeats 4000000 in
theorem lw_status {X : zX} {E : zE} {μ : zM} {i N : Int} (h : zRel N μ) (hN : N ≤ 100000) (h0 : 0 ≤ i) (h1 : i + 6 ≤ (zsl E : Int)) (hL : zsl E ≤ 3072) (kk : ∀ ξ, zRel (N + 1) ξ → MW X E cL_law RL room_1 (some .boolean) zLp 1299 [zR 9002, zR 0, zR 393, zI i] [] ξ) : MW X E cL_law RL room_1 (some .boolean) zLp 1239 [zR 9002, zR 0, zR 393, zI i] [] μ := by
  refine z_aload_1 dL_law_1239 ?_
  refine z_aload_0 dL_law_1240 ?_
  refine z_iload_3 dL_law_1241 ?_
  refine z_iconst dL_law_1242 (by decide) ?_
  refine z_iadd dL_law_1243 (by omega) ?_
  refine z_sld (by omega) (by omega) dL_law_1244 ?_
  refine z_callV1 (k_X11_status (zRel_x h hN)) m_X11_status zl_0 l_L_157 (Nat.le_of_ble_eq_true rfl) ⟨(Nat.le_of_ble_eq_true rfl), (Nat.le_of_ble_eq_true rfl)⟩ ⟨rfl, rfl⟩ dL_law_1245 (fun r ν hX => ?_)
  obtain ⟨⟨z, rfl⟩, hi⟩ := hi_status hX
  have g := zRel_n h hN hi
  refine z_aload_2 dL_law_1248 ?_
  refine z_aload_0 dL_law_1249 ?_
  refine z_iload_3 dL_law_1250 ?_
  refine z_iconst dL_law_1251 (by decide) ?_
  refine z_iadd dL_law_1252 (by omega) ?_
  refine z_sld (by omega) (by omega) dL_law_1253 ?_
  refine z_callV1 (k_X12_status g.1) m_X12_status zl_393 l_L_160 (Nat.le_of_ble_eq_true rfl) ⟨(Nat.le_of_ble_eq_true rfl), (Nat.le_of_ble_eq_true rfl)⟩ ⟨rfl, rfl⟩ dL_law_1254 (fun u ξ hM => ?_)
  obtain ⟨z2, e1, rfl, hR⟩ := pr_status h hX hM
  cases e1
  exact z_icmpeq (tgt := 1299) dL_law_1257 (by decide) (fun _ => kk _ hR) (fun h9 => absurd rfl h9)
set_option maxRecDepth 100000 in
set_option maxHeartbeats 4000000 in
theorem lw_count {X : zX} {E : zE} {μ : zM} {i N : Int} (h : zRel N μ) (hN : N ≤ 100000) (h0 : 0 ≤ i) (h1 : i + 6 ≤ (zsl E : Int)) (hL : zsl E ≤ 3072) (kk : ∀ ξ, zRel (N + 1) ξ → MW X E cL_law RL room_1 (some .boolean) zLp 1299 [zR 9002, zR 0, zR 393, zI i] [] ξ) : MW X E cL_law RL room_1 (some .boolean) zLp 1262 [zR 9002, zR 0, zR 393, zI i] [] μ := by
  refine z_aload_1 dL_law_1262 ?_
  refine z_aload_0 dL_law_1263 ?_
  refine z_iload_3 dL_law_1264 ?_
  refine z_iconst dL_law_1265 (by decide) ?_
  refine z_iadd dL_law_1266 (by omega) ?_
  refine z_sld (by omega) (by omega) dL_law_1267 ?_
  refine z_callV1 (k_X11_count (zRel_x h hN) (zRel_t h).1) m_X11_count zl_0 l_L_161 (Nat.le_of_ble_eq_true rfl) ⟨(Nat.le_of_ble_eq_true rfl), (Nat.le_of_ble_eq_true rfl)⟩ ⟨rfl, rfl⟩ dL_law_1268 (fun r ν hX => ?_)
  obtain ⟨⟨z, rfl⟩, hi⟩ := hi_count hX
  have g := zRel_n h hN hi
  refine z_aload_2 dL_law_1271 ?_
  refine z_aload_0 dL_law_1272 ?_
  refine z_iload_3 dL_law_1273 ?_
  refine z_iconst dL_law_1274 (by decide) ?_
  refine z_iadd dL_law_1275 (by omega) ?_
  refine z_sld (by omega) (by omega) dL_law_1276 ?_
  refine z_callV1 (k_X12_count g.1) m_X12_count zl_393 l_L_164 (Nat.le_of_ble_eq_true rfl) ⟨(Nat.le_of_ble_eq_true rfl), (Nat.le_of_ble_eq_true rfl)⟩ ⟨rfl, rfl⟩ dL_law_1277 (fun u ξ hM => ?_)
  obtain ⟨z2, e1, rfl, hR⟩ := pr_count h hX hM
  cases e1
  exact z_icmpeq (tgt := 1299) dL_law_1280 (by decide) (fun _ => kk _ hR) (fun h9 => absurd rfl h9)
set_option maxRecDepth 100000 in
set_option maxHeartbeats 4000000 in
theorem lw_digest {X : zX} {E : zE} {μ : zM} {i N : Int} (h : zRel N μ) (hN : N ≤ 100000) (h0 : 0 ≤ i) (h1 : i + 6 ≤ (zsl E : Int)) (hL : zsl E ≤ 3072) (kk : ∀ ξ, zRel (N + 1) ξ → MW X E cL_law RL room_1 (some .boolean) zLp 1299 [zR 9002, zR 0, zR 393, zI i] [] ξ) : MW X E cL_law RL room_1 (some .boolean) zLp 1285 [zR 9002, zR 0, zR 393, zI i] [] μ := by
  refine z_aload_1 dL_law_1285 ?_
  refine z_callV0 (k_X11_digest (zRel_x h hN)) m_X11_digest zl_0 l_L_165 (Nat.le_of_ble_eq_true rfl) ⟨(Nat.le_of_ble_eq_true rfl), (Nat.le_of_ble_eq_true rfl)⟩ ⟨rfl, rfl⟩ dL_law_1286 (fun r ν hX => ?_)
  obtain ⟨⟨z, rfl⟩, hi⟩ := hi_digest hX
  have g := zRel_n h hN hi
  refine z_aload_2 dL_law_1289 ?_
  refine z_callV0 (k_X12_digest g.1) m_X12_digest zl_393 l_L_169 (Nat.le_of_ble_eq_true rfl) ⟨(Nat.le_of_ble_eq_true rfl), (Nat.le_of_ble_eq_true rfl)⟩ ⟨rfl, rfl⟩ dL_law_1290 (fun u ξ hM => ?_)
  obtain ⟨z2, e1, rfl, hR⟩ := pr_digest h hX hM
  cases e1
  refine z_lcmp dL_law_1293 ?_
  exact z_ifeq (tgt := 1299) dL_law_1294 (by decide) (fun _ => kk _ hR) (fun h9 => absurd zcmp_0 h9)
