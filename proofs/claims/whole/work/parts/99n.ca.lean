/-! the law's calls: those that set nothing but the row -/
set_option maxHeartbeats 4000000 in
set_option maxRecDepth 100000 in
theorem lc_0 {l : Launch} {E : ic_E} {nm : String} {b L : Nat} {xs : Nat → Int32} {kc : Nat × Nat} {w : ic_w} {i : Nat} (hb : b < ic_b E) (hL : L ≤ 2560) (hi : i + 4 < L) (hk : kc.1 ≤ 600000 ∧ kc.2 ≤ 7302250) (h : Rel w) (kk : ∀ u, Rel u → xx l E (lw_F E nm b L xs False) kc 1755 (lw_L E b i) [] SHs (hn u)) : xx l E (lw_F E nm b L xs False) kc 252 (lw_L E b i) [] SHs (hn w) := by
  have hs := h.2.1
  have hI := hs.1
  have hR := hs.2.1
  have hP := hs.2.2.1
  refine xx_aload_nP (pc := 252) dL_law_252 2 rfl rfl ?_
  refine lw_arg (pc := 253) 1 hb hL (by omega) cc_iconst_1 dL_law_253 dL_law_254 dL_law_255 dL_law_256 dL_law_257 ?_
  refine lw_arg (pc := 258) 2 hb hL (by omega) cc_iconst_2 dL_law_258 dL_law_259 dL_law_260 dL_law_261 dL_law_262 ?_
  refine lw_arg (pc := 263) 3 hb hL (by omega) cc_iconst_3 dL_law_263 dL_law_264 dL_law_265 dL_law_266 dL_law_267 ?_
  refine lw_arg (pc := 268) 4 hb hL (by omega) cc_iconst_4 dL_law_268 dL_law_269 dL_law_270 dL_law_271 dL_law_272 ?_
  refine xx_callV0 (pc := 273) (st := []) sh_0 (cC_rider (w := w) (tn_lt _) (tn_lt _) (tn_lt _) (tn_lt _) h.1 hI) kX11_rider vL_13_11 dL_law_273 rfl rfl (Nat.le_of_ble_eq_true rfl) ⟨Nat.le_of_ble_eq_true rfl, Nat.le_of_ble_eq_true rfl⟩ hk (ic_ki (fun v1 h1 q1 => ?_))
  obtain ⟨rfl, w1, rfl, f1, c1⟩ := q1
  have g := Gc.fn h f1
  have e5 : w1 115 = w 115 := g.1 115 (by omega)
  refine xx_aload_nP (pc := 276) dL_law_276 1 rfl rfl ?_
  refine lw_arg (pc := 277) 1 hb hL (by omega) cc_iconst_1 dL_law_277 dL_law_278 dL_law_279 dL_law_280 dL_law_281 ?_
  refine lw_arg (pc := 282) 2 hb hL (by omega) cc_iconst_2 dL_law_282 dL_law_283 dL_law_284 dL_law_285 dL_law_286 ?_
  refine lw_arg (pc := 287) 3 hb hL (by omega) cc_iconst_3 dL_law_287 dL_law_288 dL_law_289 dL_law_290 dL_law_291 ?_
  refine lw_arg (pc := 292) 4 hb hL (by omega) cc_iconst_4 dL_law_292 dL_law_293 dL_law_294 dL_law_295 dL_law_296 ?_
  refine xx_callV0 (pc := 297) (st := [.int _]) sh_114 (cM_rider (w := w1) (tn_lt _) (tn_lt _) (tn_lt _) (tn_lt _) (by rw [e5]; exact hI)) kX12_rider vL_17_12 dL_law_297 rfl rfl (Nat.le_of_ble_eq_true rfl) ⟨Nat.le_of_ble_eq_true rfl, Nat.le_of_ble_eq_true rfl⟩ hk (ic_ki (fun v2 h2 q2 => ?_))
  obtain ⟨rfl, rfl⟩ := q2
  refine xx_icmp_eq (pc := 300) 1755 dL_law_300 (by decide) (fun _ => ?_) (fun c => absurd ?_ c)
  · exact kk _ (h.go g c1 (Gm.rr _ _) ((wr_s _ _ _).trans (by rw [e5])) (by
        split
        · rename_i c
          exact hs.new c.1 c.2
        · exact hs
        ))
  · rw [e5]
set_option maxHeartbeats 4000000 in
set_option maxRecDepth 100000 in
theorem lc_1 {l : Launch} {E : ic_E} {nm : String} {b L : Nat} {xs : Nat → Int32} {kc : Nat × Nat} {w : ic_w} {i : Nat} (hb : b < ic_b E) (hL : L ≤ 2560) (hi : i + 4 < L) (hk : kc.1 ≤ 600000 ∧ kc.2 ≤ 7302250) (h : Rel w) (kk : ∀ u, Rel u → xx l E (lw_F E nm b L xs False) kc 1755 (lw_L E b i) [] SHs (hn u)) : xx l E (lw_F E nm b L xs False) kc 305 (lw_L E b i) [] SHs (hn w) := by
  have hs := h.2.1
  have hI := hs.1
  have hR := hs.2.1
  have hP := hs.2.2.1
  refine xx_aload_nP (pc := 305) dL_law_305 2 rfl rfl ?_
  refine lw_arg (pc := 306) 1 hb hL (by omega) cc_iconst_1 dL_law_306 dL_law_307 dL_law_308 dL_law_309 dL_law_310 ?_
  refine lw_arg (pc := 311) 2 hb hL (by omega) cc_iconst_2 dL_law_311 dL_law_312 dL_law_313 dL_law_314 dL_law_315 ?_
  refine xx_callV0 (pc := 316) (st := []) sh_0 (cC_riderOf (w := w) (tn_lt _) (tn_lt _) h.1 hI hR) kX11_riderOf vL_18_11 dL_law_316 rfl rfl (Nat.le_of_ble_eq_true rfl) ⟨Nat.le_of_ble_eq_true rfl, Nat.le_of_ble_eq_true rfl⟩ hk (ic_ki (fun v1 h1 q1 => ?_))
  obtain ⟨rfl, w1, rfl, f1⟩ := q1
  have g := Gc.fp h f1
  have c1 := h.1.fp f1
  have e5 : w1 115 = w 115 := g.1 115 (by omega)
  refine xx_aload_nP (pc := 319) dL_law_319 1 rfl rfl ?_
  refine lw_arg (pc := 320) 1 hb hL (by omega) cc_iconst_1 dL_law_320 dL_law_321 dL_law_322 dL_law_323 dL_law_324 ?_
  refine lw_arg (pc := 325) 2 hb hL (by omega) cc_iconst_2 dL_law_325 dL_law_326 dL_law_327 dL_law_328 dL_law_329 ?_
  refine xx_callV0 (pc := 330) (st := [.int _]) sh_114 (cM_riderOf (w := w1) (tn_lt _) (tn_lt _) (by rw [e5]; exact hI) (by rw [e5]; exact hR)) kX12_riderOf vL_22_12 dL_law_330 rfl rfl (Nat.le_of_ble_eq_true rfl) ⟨Nat.le_of_ble_eq_true rfl, Nat.le_of_ble_eq_true rfl⟩ hk (ic_ke ?_)
  refine xx_icmp_eq (pc := 333) 1755 dL_law_333 (by decide) (fun _ => ?_) (fun c => absurd ?_ c)
  · exact kk _ (h.pure g c1 (Gm.rf _) rfl)
  · rw [e5]
set_option maxHeartbeats 4000000 in
set_option maxRecDepth 100000 in
theorem lc_2 {l : Launch} {E : ic_E} {nm : String} {b L : Nat} {xs : Nat → Int32} {kc : Nat × Nat} {w : ic_w} {i : Nat} (hb : b < ic_b E) (hL : L ≤ 2560) (hi : i + 4 < L) (hk : kc.1 ≤ 600000 ∧ kc.2 ≤ 7302250) (h : Rel w) (kk : ∀ u, Rel u → xx l E (lw_F E nm b L xs False) kc 1755 (lw_L E b i) [] SHs (hn u)) : xx l E (lw_F E nm b L xs False) kc 338 (lw_L E b i) [] SHs (hn w) := by
  have hs := h.2.1
  have hI := hs.1
  have hR := hs.2.1
  have hP := hs.2.2.1
  refine xx_aload_nP (pc := 338) dL_law_338 2 rfl rfl ?_
  refine lw_arg (pc := 339) 1 hb hL (by omega) cc_iconst_1 dL_law_339 dL_law_340 dL_law_341 dL_law_342 dL_law_343 ?_
  refine lw_arg (pc := 344) 2 hb hL (by omega) cc_iconst_2 dL_law_344 dL_law_345 dL_law_346 dL_law_347 dL_law_348 ?_
  refine lw_arg (pc := 349) 3 hb hL (by omega) cc_iconst_3 dL_law_349 dL_law_350 dL_law_351 dL_law_352 dL_law_353 ?_
  refine xx_callV0 (pc := 354) (st := []) sh_0 (cC_change (w := w) (tn_lt _) (tn_lt _) (tn_lt _) h.1 hI hR) kX11_change vL_23_11 dL_law_354 rfl rfl (Nat.le_of_ble_eq_true rfl) ⟨Nat.le_of_ble_eq_true rfl, Nat.le_of_ble_eq_true rfl⟩ hk (ic_ki (fun v1 h1 q1 => ?_))
  obtain ⟨rfl, w1, rfl, f1, c1⟩ := q1
  have g := Gc.fn h f1
  have e5 : w1 115 = w 115 := g.1 115 (by omega)
  refine xx_aload_nP (pc := 357) dL_law_357 1 rfl rfl ?_
  refine lw_arg (pc := 358) 1 hb hL (by omega) cc_iconst_1 dL_law_358 dL_law_359 dL_law_360 dL_law_361 dL_law_362 ?_
  refine lw_arg (pc := 363) 2 hb hL (by omega) cc_iconst_2 dL_law_363 dL_law_364 dL_law_365 dL_law_366 dL_law_367 ?_
  refine lw_arg (pc := 368) 3 hb hL (by omega) cc_iconst_3 dL_law_368 dL_law_369 dL_law_370 dL_law_371 dL_law_372 ?_
  refine xx_callV0 (pc := 373) (st := [.int _]) sh_114 (cM_change (w := w1) (tn_lt _) (tn_lt _) (tn_lt _) (by rw [e5]; exact hI)) kX12_change vL_27_12 dL_law_373 rfl rfl (Nat.le_of_ble_eq_true rfl) ⟨Nat.le_of_ble_eq_true rfl, Nat.le_of_ble_eq_true rfl⟩ hk (ic_ki (fun v2 h2 q2 => ?_))
  obtain ⟨rfl, rfl⟩ := q2
  refine xx_icmp_eq (pc := 376) 1755 dL_law_376 (by decide) (fun _ => ?_) (fun c => absurd ?_ c)
  · exact kk _ (h.go g c1 (Gm.rr _ _) ((wr_s _ _ _).trans (by rw [e5])) (by
        split
        · rename_i c
          exact hs.chg c
        · exact hs
        ))
  · rw [e5]
set_option maxHeartbeats 4000000 in
set_option maxRecDepth 100000 in
theorem lc_3 {l : Launch} {E : ic_E} {nm : String} {b L : Nat} {xs : Nat → Int32} {kc : Nat × Nat} {w : ic_w} {i : Nat} (hb : b < ic_b E) (hL : L ≤ 2560) (hi : i + 4 < L) (hk : kc.1 ≤ 600000 ∧ kc.2 ≤ 7302250) (h : Rel w) (kk : ∀ u, Rel u → xx l E (lw_F E nm b L xs False) kc 1755 (lw_L E b i) [] SHs (hn u)) : xx l E (lw_F E nm b L xs False) kc 381 (lw_L E b i) [] SHs (hn w) := by
  have hs := h.2.1
  have hI := hs.1
  have hR := hs.2.1
  have hP := hs.2.2.1
  refine xx_aload_nP (pc := 381) dL_law_381 2 rfl rfl ?_
  refine lw_arg (pc := 382) 1 hb hL (by omega) cc_iconst_1 dL_law_382 dL_law_383 dL_law_384 dL_law_385 dL_law_386 ?_
  refine lw_arg (pc := 387) 2 hb hL (by omega) cc_iconst_2 dL_law_387 dL_law_388 dL_law_389 dL_law_390 dL_law_391 ?_
  refine xx_callV0 (pc := 392) (st := []) sh_0 (cC_remake (w := w) (tn_lt _) (tn_lt _) h.1 hI) kX11_remake vL_28_11 dL_law_392 rfl rfl (Nat.le_of_ble_eq_true rfl) ⟨Nat.le_of_ble_eq_true rfl, Nat.le_of_ble_eq_true rfl⟩ hk (ic_ki (fun v1 h1 q1 => ?_))
  obtain ⟨rfl, w1, rfl, f1, c1⟩ := q1
  have g := Gc.fn h f1
  have e5 : w1 115 = w 115 := g.1 115 (by omega)
  refine xx_aload_nP (pc := 395) dL_law_395 1 rfl rfl ?_
  refine lw_arg (pc := 396) 1 hb hL (by omega) cc_iconst_1 dL_law_396 dL_law_397 dL_law_398 dL_law_399 dL_law_400 ?_
  refine lw_arg (pc := 401) 2 hb hL (by omega) cc_iconst_2 dL_law_401 dL_law_402 dL_law_403 dL_law_404 dL_law_405 ?_
  refine xx_callV0 (pc := 406) (st := [.int _]) sh_114 (cM_remake (w := w1) (tn_lt _) (tn_lt _) (by rw [e5]; exact hI)) kX12_remake vL_31_12 dL_law_406 rfl rfl (Nat.le_of_ble_eq_true rfl) ⟨Nat.le_of_ble_eq_true rfl, Nat.le_of_ble_eq_true rfl⟩ hk (ic_ki (fun v2 h2 q2 => ?_))
  obtain ⟨rfl, rfl⟩ := q2
  refine xx_icmp_eq (pc := 409) 1755 dL_law_409 (by decide) (fun _ => ?_) (fun c => absurd ?_ c)
  · exact kk _ (h.go g c1 (Gm.rr _ _) ((wr_s _ _ _).trans (by rw [e5])) (by
        split
        · rename_i c
          exact hs.rem c
        · exact hs
        ))
  · rw [e5]
set_option maxHeartbeats 4000000 in
set_option maxRecDepth 100000 in
theorem lc_4 {l : Launch} {E : ic_E} {nm : String} {b L : Nat} {xs : Nat → Int32} {kc : Nat × Nat} {w : ic_w} {i : Nat} (hb : b < ic_b E) (hL : L ≤ 2560) (hi : i + 4 < L) (hk : kc.1 ≤ 600000 ∧ kc.2 ≤ 7302250) (h : Rel w) (kk : ∀ u, Rel u → xx l E (lw_F E nm b L xs False) kc 1755 (lw_L E b i) [] SHs (hn u)) : xx l E (lw_F E nm b L xs False) kc 414 (lw_L E b i) [] SHs (hn w) := by
  have hs := h.2.1
  have hI := hs.1
  have hR := hs.2.1
  have hP := hs.2.2.1
  refine xx_aload_nP (pc := 414) dL_law_414 2 rfl rfl ?_
  refine lw_arg (pc := 415) 1 hb hL (by omega) cc_iconst_1 dL_law_415 dL_law_416 dL_law_417 dL_law_418 dL_law_419 ?_
  refine lw_arg (pc := 420) 2 hb hL (by omega) cc_iconst_2 dL_law_420 dL_law_421 dL_law_422 dL_law_423 dL_law_424 ?_
  refine xx_callV0 (pc := 425) (st := []) sh_0 (cC_crowd (w := w) (tn_lt _) (tn_lt _) h.1 hI) kX11_crowd vL_32_11 dL_law_425 rfl rfl (Nat.le_of_ble_eq_true rfl) ⟨Nat.le_of_ble_eq_true rfl, Nat.le_of_ble_eq_true rfl⟩ hk (ic_ki (fun v1 h1 q1 => ?_))
  obtain ⟨rfl, w1, rfl, f1, c1⟩ := q1
  have g := Gc.fn h f1
  have e5 : w1 115 = w 115 := g.1 115 (by omega)
  refine xx_aload_nP (pc := 428) dL_law_428 1 rfl rfl ?_
  refine lw_arg (pc := 429) 1 hb hL (by omega) cc_iconst_1 dL_law_429 dL_law_430 dL_law_431 dL_law_432 dL_law_433 ?_
  refine lw_arg (pc := 434) 2 hb hL (by omega) cc_iconst_2 dL_law_434 dL_law_435 dL_law_436 dL_law_437 dL_law_438 ?_
  refine xx_callV0 (pc := 439) (st := [.int _]) sh_114 (cM_crowd (w := w1) (tn_lt _) (tn_lt _) ) kX12_crowd vL_35_12 dL_law_439 rfl rfl (Nat.le_of_ble_eq_true rfl) ⟨Nat.le_of_ble_eq_true rfl, Nat.le_of_ble_eq_true rfl⟩ hk (ic_ki (fun v2 h2 q2 => ?_))
  obtain ⟨rfl, rfl⟩ := q2
  refine xx_icmp_eq (pc := 442) 1755 dL_law_442 (by decide) (fun _ => ?_) (fun c => absurd ?_ c)
  · exact kk _ (h.go g c1 (Gm.rr _ _) ((wr_s _ _ _).trans (by rw [e5])) (by
        split
        · rename_i c
          exact hs.crd c
        · exact hs
        ))
  · rw [e5]
set_option maxHeartbeats 4000000 in
set_option maxRecDepth 100000 in
theorem lc_5 {l : Launch} {E : ic_E} {nm : String} {b L : Nat} {xs : Nat → Int32} {kc : Nat × Nat} {w : ic_w} {i : Nat} (hb : b < ic_b E) (hL : L ≤ 2560) (hi : i + 4 < L) (hk : kc.1 ≤ 600000 ∧ kc.2 ≤ 7302250) (h : Rel w) (kk : ∀ u, Rel u → xx l E (lw_F E nm b L xs False) kc 1755 (lw_L E b i) [] SHs (hn u)) : xx l E (lw_F E nm b L xs False) kc 447 (lw_L E b i) [] SHs (hn w) := by
  have hs := h.2.1
  have hI := hs.1
  have hR := hs.2.1
  have hP := hs.2.2.1
  refine xx_aload_nP (pc := 447) dL_law_447 2 rfl rfl ?_
  refine lw_arg (pc := 448) 1 hb hL (by omega) cc_iconst_1 dL_law_448 dL_law_449 dL_law_450 dL_law_451 dL_law_452 ?_
  refine lw_arg (pc := 453) 2 hb hL (by omega) cc_iconst_2 dL_law_453 dL_law_454 dL_law_455 dL_law_456 dL_law_457 ?_
  refine lw_arg (pc := 458) 3 hb hL (by omega) cc_iconst_3 dL_law_458 dL_law_459 dL_law_460 dL_law_461 dL_law_462 ?_
  refine xx_callV0 (pc := 463) (st := []) sh_0 (cC_home (w := w) (tn_lt _) (tn_lt _) (tn_lt _) h.1 hI) kX11_home vL_36_11 dL_law_463 rfl rfl (Nat.le_of_ble_eq_true rfl) ⟨Nat.le_of_ble_eq_true rfl, Nat.le_of_ble_eq_true rfl⟩ hk (ic_ki (fun v1 h1 q1 => ?_))
  obtain ⟨rfl, w1, rfl, f1, c1⟩ := q1
  have g := Gc.fn h f1
  have e5 : w1 115 = w 115 := g.1 115 (by omega)
  refine xx_aload_nP (pc := 466) dL_law_466 1 rfl rfl ?_
  refine lw_arg (pc := 467) 1 hb hL (by omega) cc_iconst_1 dL_law_467 dL_law_468 dL_law_469 dL_law_470 dL_law_471 ?_
  refine lw_arg (pc := 472) 2 hb hL (by omega) cc_iconst_2 dL_law_472 dL_law_473 dL_law_474 dL_law_475 dL_law_476 ?_
  refine lw_arg (pc := 477) 3 hb hL (by omega) cc_iconst_3 dL_law_477 dL_law_478 dL_law_479 dL_law_480 dL_law_481 ?_
  refine xx_callV0 (pc := 482) (st := [.int _]) sh_114 (cM_home (w := w1) (tn_lt _) (tn_lt _) (tn_lt _) ) kX12_home vL_39_12 dL_law_482 rfl rfl (Nat.le_of_ble_eq_true rfl) ⟨Nat.le_of_ble_eq_true rfl, Nat.le_of_ble_eq_true rfl⟩ hk (ic_ki (fun v2 h2 q2 => ?_))
  obtain ⟨rfl, rfl⟩ := q2
  refine xx_icmp_eq (pc := 485) 1755 dL_law_485 (by decide) (fun _ => ?_) (fun c => absurd ?_ c)
  · exact kk _ (h.go g c1 (Gm.rr _ _) ((wr_s _ _ _).trans (by rw [e5])) (by
        split
        · rename_i c
          exact hs.hom c
        · exact hs
        ))
  · rw [e5]
set_option maxHeartbeats 4000000 in
set_option maxRecDepth 100000 in
theorem lc_6 {l : Launch} {E : ic_E} {nm : String} {b L : Nat} {xs : Nat → Int32} {kc : Nat × Nat} {w : ic_w} {i : Nat} (hb : b < ic_b E) (hL : L ≤ 2560) (hi : i + 4 < L) (hk : kc.1 ≤ 600000 ∧ kc.2 ≤ 7302250) (h : Rel w) (kk : ∀ u, Rel u → xx l E (lw_F E nm b L xs False) kc 1755 (lw_L E b i) [] SHs (hn u)) : xx l E (lw_F E nm b L xs False) kc 490 (lw_L E b i) [] SHs (hn w) := by
  have hs := h.2.1
  have hI := hs.1
  have hR := hs.2.1
  have hP := hs.2.2.1
  refine xx_aload_nP (pc := 490) dL_law_490 2 rfl rfl ?_
  refine lw_arg (pc := 491) 1 hb hL (by omega) cc_iconst_1 dL_law_491 dL_law_492 dL_law_493 dL_law_494 dL_law_495 ?_
  refine lw_arg (pc := 496) 2 hb hL (by omega) cc_iconst_2 dL_law_496 dL_law_497 dL_law_498 dL_law_499 dL_law_500 ?_
  refine xx_callV0 (pc := 501) (st := []) sh_0 (cC_homeOf (w := w) (tn_lt _) (tn_lt _) h.1 hI) kX11_homeOf vL_40_11 dL_law_501 rfl rfl (Nat.le_of_ble_eq_true rfl) ⟨Nat.le_of_ble_eq_true rfl, Nat.le_of_ble_eq_true rfl⟩ hk (ic_ke ?_)
  have g := Gc.rf h
  have c1 := h.1
  have e5 : w 115 = w 115 := g.1 115 (by omega)
  refine xx_aload_nP (pc := 504) dL_law_504 1 rfl rfl ?_
  refine lw_arg (pc := 505) 1 hb hL (by omega) cc_iconst_1 dL_law_505 dL_law_506 dL_law_507 dL_law_508 dL_law_509 ?_
  refine lw_arg (pc := 510) 2 hb hL (by omega) cc_iconst_2 dL_law_510 dL_law_511 dL_law_512 dL_law_513 dL_law_514 ?_
  refine xx_callV0 (pc := 515) (st := [.int _]) sh_114 (cM_homeOf (w := w) (tn_lt _) (tn_lt _) ) kX12_homeOf vL_43_12 dL_law_515 rfl rfl (Nat.le_of_ble_eq_true rfl) ⟨Nat.le_of_ble_eq_true rfl, Nat.le_of_ble_eq_true rfl⟩ hk (ic_ke ?_)
  refine xx_icmp_eq (pc := 518) 1755 dL_law_518 (by decide) (fun _ => ?_) (fun c => absurd ?_ c)
  · exact kk _ (h.pure g c1 (Gm.rf _) rfl)
  · rfl
set_option maxHeartbeats 4000000 in
set_option maxRecDepth 100000 in
theorem lc_7 {l : Launch} {E : ic_E} {nm : String} {b L : Nat} {xs : Nat → Int32} {kc : Nat × Nat} {w : ic_w} {i : Nat} (hb : b < ic_b E) (hL : L ≤ 2560) (hi : i + 4 < L) (hk : kc.1 ≤ 600000 ∧ kc.2 ≤ 7302250) (h : Rel w) (kk : ∀ u, Rel u → xx l E (lw_F E nm b L xs False) kc 1755 (lw_L E b i) [] SHs (hn u)) : xx l E (lw_F E nm b L xs False) kc 523 (lw_L E b i) [] SHs (hn w) := by
  have hs := h.2.1
  have hI := hs.1
  have hR := hs.2.1
  have hP := hs.2.2.1
  refine xx_aload_nP (pc := 523) dL_law_523 2 rfl rfl ?_
  refine lw_arg (pc := 524) 1 hb hL (by omega) cc_iconst_1 dL_law_524 dL_law_525 dL_law_526 dL_law_527 dL_law_528 ?_
  refine xx_callV0 (pc := 529) (st := []) sh_0 (cC_ends (w := w) (tn_lt _) h.1 hI) kX11_ends vL_44_11 dL_law_529 rfl rfl (Nat.le_of_ble_eq_true rfl) ⟨Nat.le_of_ble_eq_true rfl, Nat.le_of_ble_eq_true rfl⟩ hk (ic_ki (fun v1 h1 q1 => ?_))
  obtain ⟨rfl, w1, rfl, f1, c1⟩ := q1
  have g := Gc.fn h f1
  have e5 : w1 115 = w 115 := g.1 115 (by omega)
  refine xx_aload_nP (pc := 532) dL_law_532 1 rfl rfl ?_
  refine lw_arg (pc := 533) 1 hb hL (by omega) cc_iconst_1 dL_law_533 dL_law_534 dL_law_535 dL_law_536 dL_law_537 ?_
  refine xx_callV0 (pc := 538) (st := [.int _]) sh_114 (cM_ends (w := w1) (tn_lt _) (by rw [e5]; exact hI)) kX12_ends vL_48_12 dL_law_538 rfl rfl (Nat.le_of_ble_eq_true rfl) ⟨Nat.le_of_ble_eq_true rfl, Nat.le_of_ble_eq_true rfl⟩ hk (ic_ki (fun v2 h2 q2 => ?_))
  obtain ⟨rfl, rfl⟩ := q2
  refine xx_icmp_eq (pc := 541) 1755 dL_law_541 (by decide) (fun _ => ?_) (fun c => absurd ?_ c)
  · exact kk _ (h.go g c1 (Gm.rr _ _) ((wr_s _ _ _).trans (by rw [e5])) (by
        split
        · rename_i c
          exact hs.end c
        · exact hs
        ))
  · rw [e5]
set_option maxHeartbeats 4000000 in
set_option maxRecDepth 100000 in
theorem lc_8 {l : Launch} {E : ic_E} {nm : String} {b L : Nat} {xs : Nat → Int32} {kc : Nat × Nat} {w : ic_w} {i : Nat} (hb : b < ic_b E) (hL : L ≤ 2560) (hi : i + 4 < L) (hk : kc.1 ≤ 600000 ∧ kc.2 ≤ 7302250) (h : Rel w) (kk : ∀ u, Rel u → xx l E (lw_F E nm b L xs False) kc 1755 (lw_L E b i) [] SHs (hn u)) : xx l E (lw_F E nm b L xs False) kc 546 (lw_L E b i) [] SHs (hn w) := by
  have hs := h.2.1
  have hI := hs.1
  have hR := hs.2.1
  have hP := hs.2.2.1
  refine xx_aload_nP (pc := 546) dL_law_546 2 rfl rfl ?_
  refine xx_callV0 (pc := 547) (st := []) sh_0 (cC_anew (w := w)  h.1 hI) kX11_anew vL_49_11 dL_law_547 rfl rfl (Nat.le_of_ble_eq_true rfl) ⟨Nat.le_of_ble_eq_true rfl, Nat.le_of_ble_eq_true rfl⟩ hk (ic_ki (fun v1 h1 q1 => ?_))
  obtain ⟨rfl, w1, rfl, f1, c1⟩ := q1
  have g := Gc.fn h f1
  have e5 : w1 115 = w 115 := g.1 115 (by omega)
  refine xx_aload_nP (pc := 550) dL_law_550 1 rfl rfl ?_
  refine xx_callV0 (pc := 551) (st := [.int _]) sh_114 (cM_anew (w := w1)  (by rw [e5]; exact hI)) kX12_anew vL_53_12 dL_law_551 rfl rfl (Nat.le_of_ble_eq_true rfl) ⟨Nat.le_of_ble_eq_true rfl, Nat.le_of_ble_eq_true rfl⟩ hk (ic_ki (fun v2 h2 q2 => ?_))
  obtain ⟨rfl, rfl⟩ := q2
  refine xx_icmp_eq (pc := 554) 1755 dL_law_554 (by decide) (fun _ => ?_) (fun c => absurd ?_ c)
  · exact kk _ (h.go g c1 (Gm.rr _ _) ((wr_s _ _ _).trans (by rw [e5])) (hs.anw))
  · rw [e5]
set_option maxHeartbeats 4000000 in
set_option maxRecDepth 100000 in
theorem lc_9 {l : Launch} {E : ic_E} {nm : String} {b L : Nat} {xs : Nat → Int32} {kc : Nat × Nat} {w : ic_w} {i : Nat} (hb : b < ic_b E) (hL : L ≤ 2560) (hi : i + 4 < L) (hk : kc.1 ≤ 600000 ∧ kc.2 ≤ 7302250) (h : Rel w) (kk : ∀ u, Rel u → xx l E (lw_F E nm b L xs False) kc 1755 (lw_L E b i) [] SHs (hn u)) : xx l E (lw_F E nm b L xs False) kc 559 (lw_L E b i) [] SHs (hn w) := by
  have hs := h.2.1
  have hI := hs.1
  have hR := hs.2.1
  have hP := hs.2.2.1
  refine xx_aload_nP (pc := 559) dL_law_559 2 rfl rfl ?_
  refine lw_arg (pc := 560) 1 hb hL (by omega) cc_iconst_1 dL_law_560 dL_law_561 dL_law_562 dL_law_563 dL_law_564 ?_
  refine xx_callV0 (pc := 565) (st := []) sh_0 (cC_state (w := w) (tn_lt _) h.1 hI) kX11_state vL_54_11 dL_law_565 rfl rfl (Nat.le_of_ble_eq_true rfl) ⟨Nat.le_of_ble_eq_true rfl, Nat.le_of_ble_eq_true rfl⟩ hk (ic_ke ?_)
  have g := Gc.rf h
  have c1 := h.1
  have e5 : w 115 = w 115 := g.1 115 (by omega)
  refine xx_aload_nP (pc := 568) dL_law_568 1 rfl rfl ?_
  refine lw_arg (pc := 569) 1 hb hL (by omega) cc_iconst_1 dL_law_569 dL_law_570 dL_law_571 dL_law_572 dL_law_573 ?_
  refine xx_callV0 (pc := 574) (st := [.int _]) sh_114 (cM_state (w := w) (tn_lt _) hI) kX12_state vL_57_12 dL_law_574 rfl rfl (Nat.le_of_ble_eq_true rfl) ⟨Nat.le_of_ble_eq_true rfl, Nat.le_of_ble_eq_true rfl⟩ hk (ic_ke ?_)
  refine xx_icmp_eq (pc := 577) 1755 dL_law_577 (by decide) (fun _ => ?_) (fun c => absurd ?_ c)
  · exact kk _ (h.pure g c1 (Gm.rf _) rfl)
  · rfl
set_option maxHeartbeats 4000000 in
set_option maxRecDepth 100000 in
theorem lc_12 {l : Launch} {E : ic_E} {nm : String} {b L : Nat} {xs : Nat → Int32} {kc : Nat × Nat} {w : ic_w} {i : Nat} (hb : b < ic_b E) (hL : L ≤ 2560) (hi : i + 4 < L) (hk : kc.1 ≤ 600000 ∧ kc.2 ≤ 7302250) (h : Rel w) (kk : ∀ u, Rel u → xx l E (lw_F E nm b L xs False) kc 1755 (lw_L E b i) [] SHs (hn u)) : xx l E (lw_F E nm b L xs False) kc 658 (lw_L E b i) [] SHs (hn w) := by
  have hs := h.2.1
  have hI := hs.1
  have hR := hs.2.1
  have hP := hs.2.2.1
  refine xx_aload_nP (pc := 658) dL_law_658 2 rfl rfl ?_
  refine xx_callV0 (pc := 659) (st := []) sh_0 (cC_train (w := w)  h.1 hI hR) kX11_train vL_69_11 dL_law_659 rfl rfl (Nat.le_of_ble_eq_true rfl) ⟨Nat.le_of_ble_eq_true rfl, Nat.le_of_ble_eq_true rfl⟩ hk (ic_ki (fun v1 h1 q1 => ?_))
  obtain ⟨rfl, w1, rfl, f1, c1⟩ := q1
  have g := Gc.fn h f1
  have e5 : w1 115 = w 115 := g.1 115 (by omega)
  refine xx_aload_nP (pc := 662) dL_law_662 1 rfl rfl ?_
  refine xx_callV0 (pc := 663) (st := [.int _]) sh_114 (cM_train (w := w1)  (by rw [e5]; exact hI) (by rw [e5]; exact hR)) kX12_train vL_72_12 dL_law_663 rfl rfl (Nat.le_of_ble_eq_true rfl) ⟨Nat.le_of_ble_eq_true rfl, Nat.le_of_ble_eq_true rfl⟩ hk (ic_ki (fun v2 h2 q2 => ?_))
  obtain ⟨rfl, w2, rfl, k2⟩ := q2
  refine xx_icmp_eq (pc := 666) 1755 dL_law_666 (by decide) (fun _ => ?_) (fun c => absurd ?_ c)
  · by_cases c : w 115 2 ≤ w 115 1
    · rw [e5, if_pos c] at k2
      subst k2
      rw [if_pos c] at c1
      exact kk _ (h.pure g c1 (Gm.rf _) rfl)
    · rw [e5, if_neg c] at k2
      rw [if_neg c] at c1
      exact kk _ (h.go g c1 (Gm.go k2.2) (k2.1.trans (by rw [e5])) (hs.go (Nat.le_trans (mo_rest_le _) hI.n) (by omega)))
  · rw [e5]
set_option maxHeartbeats 4000000 in
set_option maxRecDepth 100000 in
theorem lc_13 {l : Launch} {E : ic_E} {nm : String} {b L : Nat} {xs : Nat → Int32} {kc : Nat × Nat} {w : ic_w} {i : Nat} (hb : b < ic_b E) (hL : L ≤ 2560) (hi : i + 4 < L) (hk : kc.1 ≤ 600000 ∧ kc.2 ≤ 7302250) (h : Rel w) (kk : ∀ u, Rel u → xx l E (lw_F E nm b L xs False) kc 1755 (lw_L E b i) [] SHs (hn u)) : xx l E (lw_F E nm b L xs False) kc 671 (lw_L E b i) [] SHs (hn w) := by
  have hs := h.2.1
  have hI := hs.1
  have hR := hs.2.1
  have hP := hs.2.2.1
  refine xx_aload_nP (pc := 671) dL_law_671 2 rfl rfl ?_
  refine lw_arg (pc := 672) 1 hb hL (by omega) cc_iconst_1 dL_law_672 dL_law_673 dL_law_674 dL_law_675 dL_law_676 ?_
  refine xx_callV0 (pc := 677) (st := []) sh_0 (cC_on (w := w) (tn_lt _) h.1 hI hR) kX11_on vL_73_11 dL_law_677 rfl rfl (Nat.le_of_ble_eq_true rfl) ⟨Nat.le_of_ble_eq_true rfl, Nat.le_of_ble_eq_true rfl⟩ hk (ic_ki (fun v1 h1 q1 => ?_))
  obtain ⟨rfl, w1, rfl, f1⟩ := q1
  have g := Gc.fp h f1
  have c1 := h.1.fp f1
  have e5 : w1 115 = w 115 := g.1 115 (by omega)
  refine xx_aload_nP (pc := 680) dL_law_680 1 rfl rfl ?_
  refine lw_arg (pc := 681) 1 hb hL (by omega) cc_iconst_1 dL_law_681 dL_law_682 dL_law_683 dL_law_684 dL_law_685 ?_
  refine xx_callV0 (pc := 686) (st := [.int _]) sh_114 (cM_on (w := w1) (tn_lt _) (by rw [e5]; exact hI) (by rw [e5]; exact hR)) kX12_on vL_76_12 dL_law_686 rfl rfl (Nat.le_of_ble_eq_true rfl) ⟨Nat.le_of_ble_eq_true rfl, Nat.le_of_ble_eq_true rfl⟩ hk (ic_ki (fun v2 h2 q2 => ?_))
  obtain ⟨rfl, w2, rfl, k2⟩ := q2
  refine xx_icmp_eq (pc := 689) 1755 dL_law_689 (by decide) (fun _ => ?_) (fun c => absurd ?_ c)
  · exact kk _ (h.pure g c1 (Gm.sc k2) (k2 115 (by omega) (by omega)))
  · rw [e5]
set_option maxHeartbeats 4000000 in
set_option maxRecDepth 100000 in
theorem lc_14 {l : Launch} {E : ic_E} {nm : String} {b L : Nat} {xs : Nat → Int32} {kc : Nat × Nat} {w : ic_w} {i : Nat} (hb : b < ic_b E) (hL : L ≤ 2560) (hi : i + 4 < L) (hk : kc.1 ≤ 600000 ∧ kc.2 ≤ 7302250) (h : Rel w) (kk : ∀ u, Rel u → xx l E (lw_F E nm b L xs False) kc 1755 (lw_L E b i) [] SHs (hn u)) : xx l E (lw_F E nm b L xs False) kc 694 (lw_L E b i) [] SHs (hn w) := by
  have hs := h.2.1
  have hI := hs.1
  have hR := hs.2.1
  have hP := hs.2.2.1
  refine xx_aload_nP (pc := 694) dL_law_694 2 rfl rfl ?_
  refine lw_arg (pc := 695) 1 hb hL (by omega) cc_iconst_1 dL_law_695 dL_law_696 dL_law_697 dL_law_698 dL_law_699 ?_
  refine xx_callV0 (pc := 700) (st := []) sh_0 (cC_when (w := w) (tn_lt _) h.1 hI hR) kX11_when vL_77_11 dL_law_700 rfl rfl (Nat.le_of_ble_eq_true rfl) ⟨Nat.le_of_ble_eq_true rfl, Nat.le_of_ble_eq_true rfl⟩ hk (ic_ki (fun v1 h1 q1 => ?_))
  obtain ⟨rfl, w1, rfl, f1⟩ := q1
  have g := Gc.fp h f1
  have c1 := h.1.fp f1
  have e5 : w1 115 = w 115 := g.1 115 (by omega)
  refine xx_aload_nP (pc := 703) dL_law_703 1 rfl rfl ?_
  refine lw_arg (pc := 704) 1 hb hL (by omega) cc_iconst_1 dL_law_704 dL_law_705 dL_law_706 dL_law_707 dL_law_708 ?_
  refine xx_callV0 (pc := 709) (st := [.int _]) sh_114 (cM_when (w := w1) (tn_lt _) (by rw [e5]; exact hI) (by rw [e5]; exact hR)) kX12_when vL_80_12 dL_law_709 rfl rfl (Nat.le_of_ble_eq_true rfl) ⟨Nat.le_of_ble_eq_true rfl, Nat.le_of_ble_eq_true rfl⟩ hk (ic_ki (fun v2 h2 q2 => ?_))
  obtain ⟨rfl, w2, rfl, k2⟩ := q2
  refine xx_icmp_eq (pc := 712) 1755 dL_law_712 (by decide) (fun _ => ?_) (fun c => absurd ?_ c)
  · exact kk _ (h.pure g c1 (Gm.sc k2) (k2 115 (by omega) (by omega)))
  · rw [e5]
set_option maxHeartbeats 4000000 in
set_option maxRecDepth 100000 in
theorem lc_15 {l : Launch} {E : ic_E} {nm : String} {b L : Nat} {xs : Nat → Int32} {kc : Nat × Nat} {w : ic_w} {i : Nat} (hb : b < ic_b E) (hL : L ≤ 2560) (hi : i + 4 < L) (hk : kc.1 ≤ 600000 ∧ kc.2 ≤ 7302250) (h : Rel w) (kk : ∀ u, Rel u → xx l E (lw_F E nm b L xs False) kc 1755 (lw_L E b i) [] SHs (hn u)) : xx l E (lw_F E nm b L xs False) kc 717 (lw_L E b i) [] SHs (hn w) := by
  have hs := h.2.1
  have hI := hs.1
  have hR := hs.2.1
  have hP := hs.2.2.1
  refine xx_aload_nP (pc := 717) dL_law_717 2 rfl rfl ?_
  refine lw_arg (pc := 718) 1 hb hL (by omega) cc_iconst_1 dL_law_718 dL_law_719 dL_law_720 dL_law_721 dL_law_722 ?_
  refine xx_callV0 (pc := 723) (st := []) sh_0 (cC_wishFor (w := w) (tn_lt _) h.1 hI hR) kX11_wishFor vL_81_11 dL_law_723 rfl rfl (Nat.le_of_ble_eq_true rfl) ⟨Nat.le_of_ble_eq_true rfl, Nat.le_of_ble_eq_true rfl⟩ hk (ic_ki (fun v1 h1 q1 => ?_))
  obtain ⟨rfl, w1, rfl, f1⟩ := q1
  have g := Gc.fp h f1
  have c1 := h.1.fp f1
  have e5 : w1 115 = w 115 := g.1 115 (by omega)
  refine xx_aload_nP (pc := 726) dL_law_726 1 rfl rfl ?_
  refine lw_arg (pc := 727) 1 hb hL (by omega) cc_iconst_1 dL_law_727 dL_law_728 dL_law_729 dL_law_730 dL_law_731 ?_
  refine xx_callV0 (pc := 732) (st := [.int _]) sh_114 (cM_wishFor (w := w1) (tn_lt _) (by rw [e5]; exact hI) (by rw [e5]; exact hR)) kX12_wishFor vL_84_12 dL_law_732 rfl rfl (Nat.le_of_ble_eq_true rfl) ⟨Nat.le_of_ble_eq_true rfl, Nat.le_of_ble_eq_true rfl⟩ hk (ic_ki (fun v2 h2 q2 => ?_))
  obtain ⟨rfl, w2, rfl, k2⟩ := q2
  refine xx_icmp_eq (pc := 735) 1755 dL_law_735 (by decide) (fun _ => ?_) (fun c => absurd ?_ c)
  · exact kk _ (h.pure g c1 (Gm.sc k2) (k2 115 (by omega) (by omega)))
  · rw [e5]
set_option maxHeartbeats 4000000 in
set_option maxRecDepth 100000 in
theorem lc_16 {l : Launch} {E : ic_E} {nm : String} {b L : Nat} {xs : Nat → Int32} {kc : Nat × Nat} {w : ic_w} {i : Nat} (hb : b < ic_b E) (hL : L ≤ 2560) (hi : i + 4 < L) (hk : kc.1 ≤ 600000 ∧ kc.2 ≤ 7302250) (h : Rel w) (kk : ∀ u, Rel u → xx l E (lw_F E nm b L xs False) kc 1755 (lw_L E b i) [] SHs (hn u)) : xx l E (lw_F E nm b L xs False) kc 740 (lw_L E b i) [] SHs (hn w) := by
  have hs := h.2.1
  have hI := hs.1
  have hR := hs.2.1
  have hP := hs.2.2.1
  refine xx_aload_nP (pc := 740) dL_law_740 2 rfl rfl ?_
  refine lw_arg (pc := 741) 1 hb hL (by omega) cc_iconst_1 dL_law_741 dL_law_742 dL_law_743 dL_law_744 dL_law_745 ?_
  refine xx_callV0 (pc := 746) (st := []) sh_0 (cC_homeFor (w := w) (tn_lt _) h.1 hI hR) kX11_homeFor vL_85_11 dL_law_746 rfl rfl (Nat.le_of_ble_eq_true rfl) ⟨Nat.le_of_ble_eq_true rfl, Nat.le_of_ble_eq_true rfl⟩ hk (ic_ki (fun v1 h1 q1 => ?_))
  obtain ⟨rfl, w1, rfl, f1⟩ := q1
  have g := Gc.fp h f1
  have c1 := h.1.fp f1
  have e5 : w1 115 = w 115 := g.1 115 (by omega)
  refine xx_aload_nP (pc := 749) dL_law_749 1 rfl rfl ?_
  refine lw_arg (pc := 750) 1 hb hL (by omega) cc_iconst_1 dL_law_750 dL_law_751 dL_law_752 dL_law_753 dL_law_754 ?_
  refine xx_callV0 (pc := 755) (st := [.int _]) sh_114 (cM_homeFor (w := w1) (tn_lt _) (by rw [e5]; exact hI) (by rw [e5]; exact hR)) kX12_homeFor vL_88_12 dL_law_755 rfl rfl (Nat.le_of_ble_eq_true rfl) ⟨Nat.le_of_ble_eq_true rfl, Nat.le_of_ble_eq_true rfl⟩ hk (ic_ki (fun v2 h2 q2 => ?_))
  obtain ⟨rfl, w2, rfl, k2⟩ := q2
  refine xx_icmp_eq (pc := 758) 1755 dL_law_758 (by decide) (fun _ => ?_) (fun c => absurd ?_ c)
  · exact kk _ (h.pure g c1 (Gm.sc k2) (k2 115 (by omega) (by omega)))
  · rw [e5]
set_option maxHeartbeats 4000000 in
set_option maxRecDepth 100000 in
theorem lc_17 {l : Launch} {E : ic_E} {nm : String} {b L : Nat} {xs : Nat → Int32} {kc : Nat × Nat} {w : ic_w} {i : Nat} (hb : b < ic_b E) (hL : L ≤ 2560) (hi : i + 4 < L) (hk : kc.1 ≤ 600000 ∧ kc.2 ≤ 7302250) (h : Rel w) (kk : ∀ u, Rel u → xx l E (lw_F E nm b L xs False) kc 1755 (lw_L E b i) [] SHs (hn u)) : xx l E (lw_F E nm b L xs False) kc 763 (lw_L E b i) [] SHs (hn w) := by
  have hs := h.2.1
  have hI := hs.1
  have hR := hs.2.1
  have hP := hs.2.2.1
  refine xx_aload_nP (pc := 763) dL_law_763 2 rfl rfl ?_
  refine lw_arg (pc := 764) 1 hb hL (by omega) cc_iconst_1 dL_law_764 dL_law_765 dL_law_766 dL_law_767 dL_law_768 ?_
  refine xx_callV0 (pc := 769) (st := []) sh_0 (cC_lost (w := w) (tn_lt _) h.1 hI hR) kX11_lost vL_89_11 dL_law_769 rfl rfl (Nat.le_of_ble_eq_true rfl) ⟨Nat.le_of_ble_eq_true rfl, Nat.le_of_ble_eq_true rfl⟩ hk (ic_ki (fun v1 h1 q1 => ?_))
  obtain ⟨rfl, w1, rfl, f1⟩ := q1
  have g := Gc.fp h f1
  have c1 := h.1.fp f1
  have e5 : w1 115 = w 115 := g.1 115 (by omega)
  refine xx_aload_nP (pc := 772) dL_law_772 1 rfl rfl ?_
  refine lw_arg (pc := 773) 1 hb hL (by omega) cc_iconst_1 dL_law_773 dL_law_774 dL_law_775 dL_law_776 dL_law_777 ?_
  refine xx_callV0 (pc := 778) (st := [.int _]) sh_114 (cM_lost (w := w1) (tn_lt _) (by rw [e5]; exact hI) (by rw [e5]; exact hR)) kX12_lost vL_92_12 dL_law_778 rfl rfl (Nat.le_of_ble_eq_true rfl) ⟨Nat.le_of_ble_eq_true rfl, Nat.le_of_ble_eq_true rfl⟩ hk (ic_ki (fun v2 h2 q2 => ?_))
  obtain ⟨rfl, w2, rfl, k2⟩ := q2
  refine xx_icmp_eq (pc := 781) 1755 dL_law_781 (by decide) (fun _ => ?_) (fun c => absurd ?_ c)
  · exact kk _ (h.pure g c1 (Gm.sc k2) (k2 115 (by omega) (by omega)))
  · rw [e5]
set_option maxHeartbeats 4000000 in
set_option maxRecDepth 100000 in
theorem lc_18 {l : Launch} {E : ic_E} {nm : String} {b L : Nat} {xs : Nat → Int32} {kc : Nat × Nat} {w : ic_w} {i : Nat} (hb : b < ic_b E) (hL : L ≤ 2560) (hi : i + 4 < L) (hk : kc.1 ≤ 600000 ∧ kc.2 ≤ 7302250) (h : Rel w) (kk : ∀ u, Rel u → xx l E (lw_F E nm b L xs False) kc 1755 (lw_L E b i) [] SHs (hn u)) : xx l E (lw_F E nm b L xs False) kc 786 (lw_L E b i) [] SHs (hn w) := by
  have hs := h.2.1
  have hI := hs.1
  have hR := hs.2.1
  have hP := hs.2.2.1
  refine xx_aload_nP (pc := 786) dL_law_786 2 rfl rfl ?_
  refine lw_arg (pc := 787) 1 hb hL (by omega) cc_iconst_1 dL_law_787 dL_law_788 dL_law_789 dL_law_790 dL_law_791 ?_
  refine lw_arg (pc := 792) 2 hb hL (by omega) cc_iconst_2 dL_law_792 dL_law_793 dL_law_794 dL_law_795 dL_law_796 ?_
  refine xx_callV0 (pc := 797) (st := []) sh_0 (cC_reach (w := w) (tn_lt _) (tn_lt _) h.1 hI) kX11_reach vL_93_11 dL_law_797 rfl rfl (Nat.le_of_ble_eq_true rfl) ⟨Nat.le_of_ble_eq_true rfl, Nat.le_of_ble_eq_true rfl⟩ hk (ic_ke ?_)
  have g := Gc.rf h
  have c1 := h.1
  have e5 : w 115 = w 115 := g.1 115 (by omega)
  refine xx_aload_nP (pc := 800) dL_law_800 1 rfl rfl ?_
  refine lw_arg (pc := 801) 1 hb hL (by omega) cc_iconst_1 dL_law_801 dL_law_802 dL_law_803 dL_law_804 dL_law_805 ?_
  refine lw_arg (pc := 806) 2 hb hL (by omega) cc_iconst_2 dL_law_806 dL_law_807 dL_law_808 dL_law_809 dL_law_810 ?_
  refine xx_callV0 (pc := 811) (st := [.int _]) sh_114 (cM_reach (w := w) (tn_lt _) (tn_lt _) hI) kX12_reach vL_96_12 dL_law_811 rfl rfl (Nat.le_of_ble_eq_true rfl) ⟨Nat.le_of_ble_eq_true rfl, Nat.le_of_ble_eq_true rfl⟩ hk (ic_ke ?_)
  refine xx_icmp_eq (pc := 814) 1755 dL_law_814 (by decide) (fun _ => ?_) (fun c => absurd ?_ c)
  · exact kk _ (h.pure g c1 (Gm.rf _) rfl)
  · rfl
set_option maxHeartbeats 4000000 in
set_option maxRecDepth 100000 in
theorem lc_19 {l : Launch} {E : ic_E} {nm : String} {b L : Nat} {xs : Nat → Int32} {kc : Nat × Nat} {w : ic_w} {i : Nat} (hb : b < ic_b E) (hL : L ≤ 2560) (hi : i + 4 < L) (hk : kc.1 ≤ 600000 ∧ kc.2 ≤ 7302250) (h : Rel w) (kk : ∀ u, Rel u → xx l E (lw_F E nm b L xs False) kc 1755 (lw_L E b i) [] SHs (hn u)) : xx l E (lw_F E nm b L xs False) kc 819 (lw_L E b i) [] SHs (hn w) := by
  have hs := h.2.1
  have hI := hs.1
  have hR := hs.2.1
  have hP := hs.2.2.1
  refine xx_aload_nP (pc := 819) dL_law_819 2 rfl rfl ?_
  refine lw_arg (pc := 820) 1 hb hL (by omega) cc_iconst_1 dL_law_820 dL_law_821 dL_law_822 dL_law_823 dL_law_824 ?_
  refine xx_callV0 (pc := 825) (st := []) sh_0 (cC_carriages (w := w) (tn_lt _) h.1 hI) kX11_carriages vL_97_11 dL_law_825 rfl rfl (Nat.le_of_ble_eq_true rfl) ⟨Nat.le_of_ble_eq_true rfl, Nat.le_of_ble_eq_true rfl⟩ hk (ic_ke ?_)
  have g := Gc.rf h
  have c1 := h.1
  have e5 : w 115 = w 115 := g.1 115 (by omega)
  refine xx_aload_nP (pc := 828) dL_law_828 1 rfl rfl ?_
  refine lw_arg (pc := 829) 1 hb hL (by omega) cc_iconst_1 dL_law_829 dL_law_830 dL_law_831 dL_law_832 dL_law_833 ?_
  refine xx_callV0 (pc := 834) (st := [.int _]) sh_114 (cM_carriages (w := w) (tn_lt _) hI) kX12_carriages vL_100_12 dL_law_834 rfl rfl (Nat.le_of_ble_eq_true rfl) ⟨Nat.le_of_ble_eq_true rfl, Nat.le_of_ble_eq_true rfl⟩ hk (ic_ke ?_)
  refine xx_icmp_eq (pc := 837) 1755 dL_law_837 (by decide) (fun _ => ?_) (fun c => absurd ?_ c)
  · exact kk _ (h.pure g c1 (Gm.rf _) rfl)
  · rfl
set_option maxHeartbeats 4000000 in
set_option maxRecDepth 100000 in
theorem lc_20 {l : Launch} {E : ic_E} {nm : String} {b L : Nat} {xs : Nat → Int32} {kc : Nat × Nat} {w : ic_w} {i : Nat} (hb : b < ic_b E) (hL : L ≤ 2560) (hi : i + 4 < L) (hk : kc.1 ≤ 600000 ∧ kc.2 ≤ 7302250) (h : Rel w) (kk : ∀ u, Rel u → xx l E (lw_F E nm b L xs False) kc 1755 (lw_L E b i) [] SHs (hn u)) : xx l E (lw_F E nm b L xs False) kc 842 (lw_L E b i) [] SHs (hn w) := by
  have hs := h.2.1
  have hI := hs.1
  have hR := hs.2.1
  have hP := hs.2.2.1
  refine xx_aload_nP (pc := 842) dL_law_842 2 rfl rfl ?_
  refine lw_arg (pc := 843) 1 hb hL (by omega) cc_iconst_1 dL_law_843 dL_law_844 dL_law_845 dL_law_846 dL_law_847 ?_
  refine lw_arg (pc := 848) 2 hb hL (by omega) cc_iconst_2 dL_law_848 dL_law_849 dL_law_850 dL_law_851 dL_law_852 ?_
  refine xx_callV0 (pc := 853) (st := []) sh_0 (cC_press (w := w) (tn_lt _) (tn_lt _) h.1 hI hR) kX11_press vL_101_11 dL_law_853 rfl rfl (Nat.le_of_ble_eq_true rfl) ⟨Nat.le_of_ble_eq_true rfl, Nat.le_of_ble_eq_true rfl⟩ hk (ic_ki (fun v1 h1 q1 => ?_))
  obtain ⟨rfl, w1, rfl, f1⟩ := q1
  have g := Gc.fp h f1
  have c1 := h.1.fp f1
  have e5 : w1 115 = w 115 := g.1 115 (by omega)
  refine xx_aload_nP (pc := 856) dL_law_856 1 rfl rfl ?_
  refine lw_arg (pc := 857) 1 hb hL (by omega) cc_iconst_1 dL_law_857 dL_law_858 dL_law_859 dL_law_860 dL_law_861 ?_
  refine lw_arg (pc := 862) 2 hb hL (by omega) cc_iconst_2 dL_law_862 dL_law_863 dL_law_864 dL_law_865 dL_law_866 ?_
  refine xx_callV0 (pc := 867) (st := [.int _]) sh_114 (cM_press (w := w1) (tn_lt _) (tn_lt _) (by rw [e5]; exact hI) (by rw [e5]; exact hR)) kX12_press vL_104_12 dL_law_867 rfl rfl (Nat.le_of_ble_eq_true rfl) ⟨Nat.le_of_ble_eq_true rfl, Nat.le_of_ble_eq_true rfl⟩ hk (ic_ki (fun v2 h2 q2 => ?_))
  obtain ⟨rfl, w2, rfl, k2⟩ := q2
  refine xx_icmp_eq (pc := 870) 1755 dL_law_870 (by decide) (fun _ => ?_) (fun c => absurd ?_ c)
  · exact kk _ (h.pure g c1 (Gm.sc k2) (k2 115 (by omega) (by omega)))
  · rw [e5]
set_option maxHeartbeats 4000000 in
set_option maxRecDepth 100000 in
theorem lc_21 {l : Launch} {E : ic_E} {nm : String} {b L : Nat} {xs : Nat → Int32} {kc : Nat × Nat} {w : ic_w} {i : Nat} (hb : b < ic_b E) (hL : L ≤ 2560) (hi : i + 4 < L) (hk : kc.1 ≤ 600000 ∧ kc.2 ≤ 7302250) (h : Rel w) (kk : ∀ u, Rel u → xx l E (lw_F E nm b L xs False) kc 1755 (lw_L E b i) [] SHs (hn u)) : xx l E (lw_F E nm b L xs False) kc 875 (lw_L E b i) [] SHs (hn w) := by
  have hs := h.2.1
  have hI := hs.1
  have hR := hs.2.1
  have hP := hs.2.2.1
  refine xx_aload_nP (pc := 875) dL_law_875 2 rfl rfl ?_
  refine lw_arg (pc := 876) 1 hb hL (by omega) cc_iconst_1 dL_law_876 dL_law_877 dL_law_878 dL_law_879 dL_law_880 ?_
  refine xx_callV0 (pc := 881) (st := []) sh_0 (cC_best (w := w) (tn_lt _) h.1 hI hR) kX11_best vL_105_11 dL_law_881 rfl rfl (Nat.le_of_ble_eq_true rfl) ⟨Nat.le_of_ble_eq_true rfl, Nat.le_of_ble_eq_true rfl⟩ hk (ic_ki (fun v1 h1 q1 => ?_))
  obtain ⟨rfl, w1, rfl, f1⟩ := q1
  have g := Gc.fp h f1
  have c1 := h.1.fp f1
  have e5 : w1 115 = w 115 := g.1 115 (by omega)
  refine xx_aload_nP (pc := 884) dL_law_884 1 rfl rfl ?_
  refine lw_arg (pc := 885) 1 hb hL (by omega) cc_iconst_1 dL_law_885 dL_law_886 dL_law_887 dL_law_888 dL_law_889 ?_
  refine xx_callV0 (pc := 890) (st := [.int _]) sh_114 (cM_best (w := w1) (tn_lt _) (by rw [e5]; exact hI) (by rw [e5]; exact hR)) kX12_best vL_108_12 dL_law_890 rfl rfl (Nat.le_of_ble_eq_true rfl) ⟨Nat.le_of_ble_eq_true rfl, Nat.le_of_ble_eq_true rfl⟩ hk (ic_ki (fun v2 h2 q2 => ?_))
  obtain ⟨rfl, w2, rfl, k2⟩ := q2
  refine xx_icmp_eq (pc := 893) 1755 dL_law_893 (by decide) (fun _ => ?_) (fun c => absurd ?_ c)
  · exact kk _ (h.pure g c1 (Gm.s2 k2) (s2_115 k2))
  · rw [e5]
set_option maxHeartbeats 4000000 in
set_option maxRecDepth 100000 in
theorem lc_22 {l : Launch} {E : ic_E} {nm : String} {b L : Nat} {xs : Nat → Int32} {kc : Nat × Nat} {w : ic_w} {i : Nat} (hb : b < ic_b E) (hL : L ≤ 2560) (hi : i + 4 < L) (hk : kc.1 ≤ 600000 ∧ kc.2 ≤ 7302250) (h : Rel w) (kk : ∀ u, Rel u → xx l E (lw_F E nm b L xs False) kc 1755 (lw_L E b i) [] SHs (hn u)) : xx l E (lw_F E nm b L xs False) kc 898 (lw_L E b i) [] SHs (hn w) := by
  have hs := h.2.1
  have hI := hs.1
  have hR := hs.2.1
  have hP := hs.2.2.1
  refine xx_aload_nP (pc := 898) dL_law_898 2 rfl rfl ?_
  refine lw_arg (pc := 899) 1 hb hL (by omega) cc_iconst_1 dL_law_899 dL_law_900 dL_law_901 dL_law_902 dL_law_903 ?_
  refine lw_arg (pc := 904) 2 hb hL (by omega) cc_iconst_2 dL_law_904 dL_law_905 dL_law_906 dL_law_907 dL_law_908 ?_
  refine xx_callV0 (pc := 909) (st := []) sh_0 (cC_ith (w := w) (tn_lt _) (tn_lt _) h.1 hI hR) kX11_ith vL_109_11 dL_law_909 rfl rfl (Nat.le_of_ble_eq_true rfl) ⟨Nat.le_of_ble_eq_true rfl, Nat.le_of_ble_eq_true rfl⟩ hk (ic_ki (fun v1 h1 q1 => ?_))
  obtain ⟨rfl, w1, rfl, f1⟩ := q1
  have g := Gc.fp h f1
  have c1 := h.1.fp f1
  have e5 : w1 115 = w 115 := g.1 115 (by omega)
  refine xx_aload_nP (pc := 912) dL_law_912 1 rfl rfl ?_
  refine lw_arg (pc := 913) 1 hb hL (by omega) cc_iconst_1 dL_law_913 dL_law_914 dL_law_915 dL_law_916 dL_law_917 ?_
  refine lw_arg (pc := 918) 2 hb hL (by omega) cc_iconst_2 dL_law_918 dL_law_919 dL_law_920 dL_law_921 dL_law_922 ?_
  refine xx_callV0 (pc := 923) (st := [.int _]) sh_114 (cM_ith (w := w1) (tn_lt _) (tn_lt _) (by rw [e5]; exact hI) (by rw [e5]; exact hR)) kX12_ith vL_112_12 dL_law_923 rfl rfl (Nat.le_of_ble_eq_true rfl) ⟨Nat.le_of_ble_eq_true rfl, Nat.le_of_ble_eq_true rfl⟩ hk (ic_ki (fun v2 h2 q2 => ?_))
  obtain ⟨rfl, w2, rfl, k2⟩ := q2
  refine xx_icmp_eq (pc := 926) 1755 dL_law_926 (by decide) (fun _ => ?_) (fun c => absurd ?_ c)
  · exact kk _ (h.pure g c1 (Gm.s2 k2) (s2_115 k2))
  · rw [e5]
set_option maxHeartbeats 4000000 in
set_option maxRecDepth 100000 in
theorem lc_23 {l : Launch} {E : ic_E} {nm : String} {b L : Nat} {xs : Nat → Int32} {kc : Nat × Nat} {w : ic_w} {i : Nat} (hb : b < ic_b E) (hL : L ≤ 2560) (hi : i + 4 < L) (hk : kc.1 ≤ 600000 ∧ kc.2 ≤ 7302250) (h : Rel w) (kk : ∀ u, Rel u → xx l E (lw_F E nm b L xs False) kc 1755 (lw_L E b i) [] SHs (hn u)) : xx l E (lw_F E nm b L xs False) kc 931 (lw_L E b i) [] SHs (hn w) := by
  have hs := h.2.1
  have hI := hs.1
  have hR := hs.2.1
  have hP := hs.2.2.1
  refine xx_aload_nP (pc := 931) dL_law_931 2 rfl rfl ?_
  refine lw_arg (pc := 932) 1 hb hL (by omega) cc_iconst_1 dL_law_932 dL_law_933 dL_law_934 dL_law_935 dL_law_936 ?_
  refine xx_callV0 (pc := 937) (st := []) sh_0 (cC_ways (w := w) (tn_lt _) h.1 hI hR) kX11_ways vL_113_11 dL_law_937 rfl rfl (Nat.le_of_ble_eq_true rfl) ⟨Nat.le_of_ble_eq_true rfl, Nat.le_of_ble_eq_true rfl⟩ hk (ic_ki (fun v1 h1 q1 => ?_))
  obtain ⟨rfl, w1, rfl, f1⟩ := q1
  have g := Gc.fp h f1
  have c1 := h.1.fp f1
  have e5 : w1 115 = w 115 := g.1 115 (by omega)
  refine xx_aload_nP (pc := 940) dL_law_940 1 rfl rfl ?_
  refine lw_arg (pc := 941) 1 hb hL (by omega) cc_iconst_1 dL_law_941 dL_law_942 dL_law_943 dL_law_944 dL_law_945 ?_
  refine xx_callV0 (pc := 946) (st := [.int _]) sh_114 (cM_ways (w := w1) (tn_lt _) (by rw [e5]; exact hI) (by rw [e5]; exact hR)) kX12_ways vL_116_12 dL_law_946 rfl rfl (Nat.le_of_ble_eq_true rfl) ⟨Nat.le_of_ble_eq_true rfl, Nat.le_of_ble_eq_true rfl⟩ hk (ic_ki (fun v2 h2 q2 => ?_))
  obtain ⟨rfl, w2, rfl, k2⟩ := q2
  refine xx_icmp_eq (pc := 949) 1755 dL_law_949 (by decide) (fun _ => ?_) (fun c => absurd ?_ c)
  · exact kk _ (h.pure g c1 (Gm.s2 k2) (s2_115 k2))
  · rw [e5]
set_option maxHeartbeats 4000000 in
set_option maxRecDepth 100000 in
theorem lc_24 {l : Launch} {E : ic_E} {nm : String} {b L : Nat} {xs : Nat → Int32} {kc : Nat × Nat} {w : ic_w} {i : Nat} (hb : b < ic_b E) (hL : L ≤ 2560) (hi : i + 4 < L) (hk : kc.1 ≤ 600000 ∧ kc.2 ≤ 7302250) (h : Rel w) (kk : ∀ u, Rel u → xx l E (lw_F E nm b L xs False) kc 1755 (lw_L E b i) [] SHs (hn u)) : xx l E (lw_F E nm b L xs False) kc 954 (lw_L E b i) [] SHs (hn w) := by
  have hs := h.2.1
  have hI := hs.1
  have hR := hs.2.1
  have hP := hs.2.2.1
  refine xx_aload_nP (pc := 954) dL_law_954 2 rfl rfl ?_
  refine lw_arg (pc := 955) 1 hb hL (by omega) cc_iconst_1 dL_law_955 dL_law_956 dL_law_957 dL_law_958 dL_law_959 ?_
  refine lw_arg (pc := 960) 2 hb hL (by omega) cc_iconst_2 dL_law_960 dL_law_961 dL_law_962 dL_law_963 dL_law_964 ?_
  refine xx_callV0 (pc := 965) (st := []) sh_0 (cC_ticket (w := w) (tn_lt _) (tn_lt _) h.1 hI hR) kX11_ticket vL_117_11 dL_law_965 rfl rfl (Nat.le_of_ble_eq_true rfl) ⟨Nat.le_of_ble_eq_true rfl, Nat.le_of_ble_eq_true rfl⟩ hk (ic_ki (fun v1 h1 q1 => ?_))
  obtain ⟨rfl, w1, rfl, f1⟩ := q1
  have g := Gc.fp h f1
  have c1 := h.1.fp f1
  have e5 : w1 115 = w 115 := g.1 115 (by omega)
  refine xx_aload_nP (pc := 968) dL_law_968 1 rfl rfl ?_
  refine lw_arg (pc := 969) 1 hb hL (by omega) cc_iconst_1 dL_law_969 dL_law_970 dL_law_971 dL_law_972 dL_law_973 ?_
  refine lw_arg (pc := 974) 2 hb hL (by omega) cc_iconst_2 dL_law_974 dL_law_975 dL_law_976 dL_law_977 dL_law_978 ?_
  refine xx_callV0 (pc := 979) (st := [.int _]) sh_114 (cM_ticket (w := w1) (tn_lt _) (tn_lt _) (by rw [e5]; exact hI) (by rw [e5]; exact hR)) kX12_ticket vL_120_12 dL_law_979 rfl rfl (Nat.le_of_ble_eq_true rfl) ⟨Nat.le_of_ble_eq_true rfl, Nat.le_of_ble_eq_true rfl⟩ hk (ic_ki (fun v2 h2 q2 => ?_))
  obtain ⟨rfl, w2, rfl, k2⟩ := q2
  refine xx_icmp_eq (pc := 982) 1755 dL_law_982 (by decide) (fun _ => ?_) (fun c => absurd ?_ c)
  · exact kk _ (h.pure g c1 (Gm.s2 k2) (s2_115 k2))
  · rw [e5]
set_option maxHeartbeats 4000000 in
set_option maxRecDepth 100000 in
theorem lc_25 {l : Launch} {E : ic_E} {nm : String} {b L : Nat} {xs : Nat → Int32} {kc : Nat × Nat} {w : ic_w} {i : Nat} (hb : b < ic_b E) (hL : L ≤ 2560) (hi : i + 4 < L) (hk : kc.1 ≤ 600000 ∧ kc.2 ≤ 7302250) (h : Rel w) (kk : ∀ u, Rel u → xx l E (lw_F E nm b L xs False) kc 1755 (lw_L E b i) [] SHs (hn u)) : xx l E (lw_F E nm b L xs False) kc 987 (lw_L E b i) [] SHs (hn w) := by
  have hs := h.2.1
  have hI := hs.1
  have hR := hs.2.1
  have hP := hs.2.2.1
  refine xx_aload_nP (pc := 987) dL_law_987 2 rfl rfl ?_
  refine lw_arg (pc := 988) 1 hb hL (by omega) cc_iconst_1 dL_law_988 dL_law_989 dL_law_990 dL_law_991 dL_law_992 ?_
  refine lw_arg (pc := 993) 2 hb hL (by omega) cc_iconst_2 dL_law_993 dL_law_994 dL_law_995 dL_law_996 dL_law_997 ?_
  refine xx_callV0 (pc := 998) (st := []) sh_0 (cC_bars (w := w) (tn_lt _) (tn_lt _) h.1 hI hR) kX11_bars vL_121_11 dL_law_998 rfl rfl (Nat.le_of_ble_eq_true rfl) ⟨Nat.le_of_ble_eq_true rfl, Nat.le_of_ble_eq_true rfl⟩ hk (ic_ki (fun v1 h1 q1 => ?_))
  obtain ⟨rfl, w1, rfl, f1⟩ := q1
  have g := Gc.fp h f1
  have c1 := h.1.fp f1
  have e5 : w1 115 = w 115 := g.1 115 (by omega)
  refine xx_aload_nP (pc := 1001) dL_law_1001 1 rfl rfl ?_
  refine lw_arg (pc := 1002) 1 hb hL (by omega) cc_iconst_1 dL_law_1002 dL_law_1003 dL_law_1004 dL_law_1005 dL_law_1006 ?_
  refine lw_arg (pc := 1007) 2 hb hL (by omega) cc_iconst_2 dL_law_1007 dL_law_1008 dL_law_1009 dL_law_1010 dL_law_1011 ?_
  refine xx_callV0 (pc := 1012) (st := [.int _]) sh_114 (cM_bars (w := w1) (tn_lt _) (tn_lt _) (by rw [e5]; exact hI) (by rw [e5]; exact hR)) kX12_bars vL_124_12 dL_law_1012 rfl rfl (Nat.le_of_ble_eq_true rfl) ⟨Nat.le_of_ble_eq_true rfl, Nat.le_of_ble_eq_true rfl⟩ hk (ic_ki (fun v2 h2 q2 => ?_))
  obtain ⟨rfl, w2, rfl, k2⟩ := q2
  refine xx_icmp_eq (pc := 1015) 1755 dL_law_1015 (by decide) (fun _ => ?_) (fun c => absurd ?_ c)
  · exact kk _ (h.pure g c1 (Gm.s2 k2) (s2_115 k2))
  · rw [e5]
set_option maxHeartbeats 4000000 in
set_option maxRecDepth 100000 in
theorem lc_26 {l : Launch} {E : ic_E} {nm : String} {b L : Nat} {xs : Nat → Int32} {kc : Nat × Nat} {w : ic_w} {i : Nat} (hb : b < ic_b E) (hL : L ≤ 2560) (hi : i + 4 < L) (hk : kc.1 ≤ 600000 ∧ kc.2 ≤ 7302250) (h : Rel w) (kk : ∀ u, Rel u → xx l E (lw_F E nm b L xs False) kc 1755 (lw_L E b i) [] SHs (hn u)) : xx l E (lw_F E nm b L xs False) kc 1020 (lw_L E b i) [] SHs (hn w) := by
  have hs := h.2.1
  have hI := hs.1
  have hR := hs.2.1
  have hP := hs.2.2.1
  refine xx_aload_nP (pc := 1020) dL_law_1020 2 rfl rfl ?_
  refine lw_arg (pc := 1021) 1 hb hL (by omega) cc_iconst_1 dL_law_1021 dL_law_1022 dL_law_1023 dL_law_1024 dL_law_1025 ?_
  refine xx_callV0 (pc := 1026) (st := []) sh_0 (cC_game (w := w) (tn_lt _) h.1 hI hR) kX11_game vL_125_11 dL_law_1026 rfl rfl (Nat.le_of_ble_eq_true rfl) ⟨Nat.le_of_ble_eq_true rfl, Nat.le_of_ble_eq_true rfl⟩ hk (ic_ki (fun v1 h1 q1 => ?_))
  obtain ⟨rfl, w1, rfl, f1⟩ := q1
  have g := Gc.fp h f1
  have c1 := h.1.fp f1
  have e5 : w1 115 = w 115 := g.1 115 (by omega)
  refine xx_aload_nP (pc := 1029) dL_law_1029 1 rfl rfl ?_
  refine lw_arg (pc := 1030) 1 hb hL (by omega) cc_iconst_1 dL_law_1030 dL_law_1031 dL_law_1032 dL_law_1033 dL_law_1034 ?_
  refine xx_callV0 (pc := 1035) (st := [.int _]) sh_114 (cM_game (w := w1) (tn_lt _) (by rw [e5]; exact hI) (by rw [e5]; exact hR)) kX12_game vL_128_12 dL_law_1035 rfl rfl (Nat.le_of_ble_eq_true rfl) ⟨Nat.le_of_ble_eq_true rfl, Nat.le_of_ble_eq_true rfl⟩ hk (ic_ki (fun v2 h2 q2 => ?_))
  obtain ⟨rfl, w2, rfl, k2⟩ := q2
  refine xx_icmp_eq (pc := 1038) 1755 dL_law_1038 (by decide) (fun _ => ?_) (fun c => absurd ?_ c)
  · exact kk _ (h.pure g c1 (Gm.s2 k2) (s2_115 k2))
  · rw [e5]
set_option maxHeartbeats 4000000 in
set_option maxRecDepth 100000 in
theorem lc_27 {l : Launch} {E : ic_E} {nm : String} {b L : Nat} {xs : Nat → Int32} {kc : Nat × Nat} {w : ic_w} {i : Nat} (hb : b < ic_b E) (hL : L ≤ 2560) (hi : i + 4 < L) (hk : kc.1 ≤ 600000 ∧ kc.2 ≤ 7302250) (h : Rel w) (kk : ∀ u, Rel u → xx l E (lw_F E nm b L xs False) kc 1755 (lw_L E b i) [] SHs (hn u)) : xx l E (lw_F E nm b L xs False) kc 1043 (lw_L E b i) [] SHs (hn w) := by
  have hs := h.2.1
  have hI := hs.1
  have hR := hs.2.1
  have hP := hs.2.2.1
  refine xx_aload_nP (pc := 1043) dL_law_1043 2 rfl rfl ?_
  refine lw_arg (pc := 1044) 1 hb hL (by omega) cc_iconst_1 dL_law_1044 dL_law_1045 dL_law_1046 dL_law_1047 dL_law_1048 ?_
  refine xx_callV0 (pc := 1049) (st := []) sh_0 (cC_play (w := w) (tn_lt _) h.1 hI hR) kX11_play vL_129_11 dL_law_1049 rfl rfl (Nat.le_of_ble_eq_true rfl) ⟨Nat.le_of_ble_eq_true rfl, Nat.le_of_ble_eq_true rfl⟩ hk (ic_ki (fun v1 h1 q1 => ?_))
  obtain ⟨rfl, w1, rfl, f1⟩ := q1
  have g := Gc.fp h f1
  have c1 := h.1.fp f1
  have e5 : w1 115 = w 115 := g.1 115 (by omega)
  refine xx_aload_nP (pc := 1052) dL_law_1052 1 rfl rfl ?_
  refine lw_arg (pc := 1053) 1 hb hL (by omega) cc_iconst_1 dL_law_1053 dL_law_1054 dL_law_1055 dL_law_1056 dL_law_1057 ?_
  refine xx_callV0 (pc := 1058) (st := [.int _]) sh_114 (cM_play (w := w1) (tn_lt _) (by rw [e5]; exact hI) (by rw [e5]; exact hR)) kX12_play vL_132_12 dL_law_1058 rfl rfl (Nat.le_of_ble_eq_true rfl) ⟨Nat.le_of_ble_eq_true rfl, Nat.le_of_ble_eq_true rfl⟩ hk (ic_ki (fun v2 h2 q2 => ?_))
  obtain ⟨rfl, w2, rfl, k2⟩ := q2
  refine xx_icmp_eq (pc := 1061) 1755 dL_law_1061 (by decide) (fun _ => ?_) (fun c => absurd ?_ c)
  · exact kk _ (h.pure g c1 (Gm.s2 k2) (s2_115 k2))
  · rw [e5]
set_option maxHeartbeats 4000000 in
set_option maxRecDepth 100000 in
theorem lc_28 {l : Launch} {E : ic_E} {nm : String} {b L : Nat} {xs : Nat → Int32} {kc : Nat × Nat} {w : ic_w} {i : Nat} (hb : b < ic_b E) (hL : L ≤ 2560) (hi : i + 4 < L) (hk : kc.1 ≤ 600000 ∧ kc.2 ≤ 7302250) (h : Rel w) (kk : ∀ u, Rel u → xx l E (lw_F E nm b L xs False) kc 1755 (lw_L E b i) [] SHs (hn u)) : xx l E (lw_F E nm b L xs False) kc 1066 (lw_L E b i) [] SHs (hn w) := by
  have hs := h.2.1
  have hI := hs.1
  have hR := hs.2.1
  have hP := hs.2.2.1
  refine xx_aload_nP (pc := 1066) dL_law_1066 2 rfl rfl ?_
  refine lw_arg (pc := 1067) 1 hb hL (by omega) cc_iconst_1 dL_law_1067 dL_law_1068 dL_law_1069 dL_law_1070 dL_law_1071 ?_
  refine lw_arg (pc := 1072) 2 hb hL (by omega) cc_iconst_2 dL_law_1072 dL_law_1073 dL_law_1074 dL_law_1075 dL_law_1076 ?_
  refine lw_arg (pc := 1077) 3 hb hL (by omega) cc_iconst_3 dL_law_1077 dL_law_1078 dL_law_1079 dL_law_1080 dL_law_1081 ?_
  refine lw_arg (pc := 1082) 4 hb hL (by omega) cc_iconst_4 dL_law_1082 dL_law_1083 dL_law_1084 dL_law_1085 dL_law_1086 ?_
  refine xx_callV0 (pc := 1087) (st := []) sh_0 (cC_report (w := w) (tn_lt _) (tn_lt _) (tn_lt _) (tn_lt _) h.1 hI) kX11_report vL_133_11 dL_law_1087 rfl rfl (Nat.le_of_ble_eq_true rfl) ⟨Nat.le_of_ble_eq_true rfl, Nat.le_of_ble_eq_true rfl⟩ hk (ic_ki (fun v1 h1 q1 => ?_))
  obtain ⟨rfl, w1, rfl, f1, c1⟩ := q1
  have g := Gc.fn h f1
  have e5 : w1 115 = w 115 := g.1 115 (by omega)
  refine xx_aload_nP (pc := 1090) dL_law_1090 1 rfl rfl ?_
  refine lw_arg (pc := 1091) 1 hb hL (by omega) cc_iconst_1 dL_law_1091 dL_law_1092 dL_law_1093 dL_law_1094 dL_law_1095 ?_
  refine lw_arg (pc := 1096) 2 hb hL (by omega) cc_iconst_2 dL_law_1096 dL_law_1097 dL_law_1098 dL_law_1099 dL_law_1100 ?_
  refine lw_arg (pc := 1101) 3 hb hL (by omega) cc_iconst_3 dL_law_1101 dL_law_1102 dL_law_1103 dL_law_1104 dL_law_1105 ?_
  refine lw_arg (pc := 1106) 4 hb hL (by omega) cc_iconst_4 dL_law_1106 dL_law_1107 dL_law_1108 dL_law_1109 dL_law_1110 ?_
  refine xx_callV0 (pc := 1111) (st := [.int _]) sh_114 (cM_report (w := w1) (tn_lt _) (tn_lt _) (tn_lt _) (tn_lt _) (by rw [e5]; exact hI)) kX12_report vL_136_12 dL_law_1111 rfl rfl (Nat.le_of_ble_eq_true rfl) ⟨Nat.le_of_ble_eq_true rfl, Nat.le_of_ble_eq_true rfl⟩ hk (ic_ki (fun v2 h2 q2 => ?_))
  obtain ⟨rfl, rfl⟩ := q2
  refine xx_icmp_eq (pc := 1114) 1755 dL_law_1114 (by decide) (fun _ => ?_) (fun c => absurd ?_ c)
  · exact kk _ (h.go g c1 (Gm.rr _ _) ((wr_s _ _ _).trans (by rw [e5])) (by
        split
        · rename_i c
          exact hs.rep c
        · exact hs
        ))
  · rw [e5]
set_option maxHeartbeats 4000000 in
set_option maxRecDepth 100000 in
theorem lc_29 {l : Launch} {E : ic_E} {nm : String} {b L : Nat} {xs : Nat → Int32} {kc : Nat × Nat} {w : ic_w} {i : Nat} (hb : b < ic_b E) (hL : L ≤ 2560) (hi : i + 4 < L) (hk : kc.1 ≤ 600000 ∧ kc.2 ≤ 7302250) (h : Rel w) (kk : ∀ u, Rel u → xx l E (lw_F E nm b L xs False) kc 1755 (lw_L E b i) [] SHs (hn u)) : xx l E (lw_F E nm b L xs False) kc 1119 (lw_L E b i) [] SHs (hn w) := by
  have hs := h.2.1
  have hI := hs.1
  have hR := hs.2.1
  have hP := hs.2.2.1
  refine xx_aload_nP (pc := 1119) dL_law_1119 2 rfl rfl ?_
  refine xx_callV0 (pc := 1120) (st := []) sh_0 (cC_forget (w := w)  h.1 hI) kX11_forget vL_137_11 dL_law_1120 rfl rfl (Nat.le_of_ble_eq_true rfl) ⟨Nat.le_of_ble_eq_true rfl, Nat.le_of_ble_eq_true rfl⟩ hk (ic_ki (fun v1 h1 q1 => ?_))
  obtain ⟨rfl, w1, rfl, f1, c1⟩ := q1
  have g := Gc.fn h f1
  have e5 : w1 115 = w 115 := g.1 115 (by omega)
  refine xx_aload_nP (pc := 1123) dL_law_1123 1 rfl rfl ?_
  refine xx_callV0 (pc := 1124) (st := [.int _]) sh_114 (cM_forget (w := w1)  ) kX12_forget vL_140_12 dL_law_1124 rfl rfl (Nat.le_of_ble_eq_true rfl) ⟨Nat.le_of_ble_eq_true rfl, Nat.le_of_ble_eq_true rfl⟩ hk (ic_ki (fun v2 h2 q2 => ?_))
  obtain ⟨rfl, rfl⟩ := q2
  refine xx_icmp_eq (pc := 1127) 1755 dL_law_1127 (by decide) (fun _ => ?_) (fun c => absurd ?_ c)
  · exact kk _ (h.go g c1 (Gm.rr _ _) ((wr_s _ _ _).trans (by rw [e5])) (hs.fgt))
  · rw [e5]
set_option maxHeartbeats 4000000 in
set_option maxRecDepth 100000 in
theorem lc_30 {l : Launch} {E : ic_E} {nm : String} {b L : Nat} {xs : Nat → Int32} {kc : Nat × Nat} {w : ic_w} {i : Nat} (hb : b < ic_b E) (hL : L ≤ 2560) (hi : i + 4 < L) (hk : kc.1 ≤ 600000 ∧ kc.2 ≤ 7302250) (h : Rel w) (kk : ∀ u, Rel u → xx l E (lw_F E nm b L xs False) kc 1755 (lw_L E b i) [] SHs (hn u)) : xx l E (lw_F E nm b L xs False) kc 1132 (lw_L E b i) [] SHs (hn w) := by
  have hs := h.2.1
  have hI := hs.1
  have hR := hs.2.1
  have hP := hs.2.2.1
  refine xx_aload_nP (pc := 1132) dL_law_1132 2 rfl rfl ?_
  refine lw_arg (pc := 1133) 1 hb hL (by omega) cc_iconst_1 dL_law_1133 dL_law_1134 dL_law_1135 dL_law_1136 dL_law_1137 ?_
  refine xx_callV0 (pc := 1138) (st := []) sh_0 (cC_lone (w := w) (tn_lt _) h.1 hI hP h.2.2.1.1 h.2.2.1.2) kX11_lone vL_141_11 dL_law_1138 rfl rfl (Nat.le_of_ble_eq_true rfl) ⟨Nat.le_of_ble_eq_true rfl, Nat.le_of_ble_eq_true rfl⟩ hk (ic_ki (fun v1 h1 q1 => ?_))
  obtain ⟨rfl, w1, rfl, f1⟩ := q1
  have g := Gc.fr f1
  have c1 := h.1.fr f1
  have e5 : w1 115 = w 115 := g.1 115 (by omega)
  refine xx_aload_nP (pc := 1141) dL_law_1141 1 rfl rfl ?_
  refine lw_arg (pc := 1142) 1 hb hL (by omega) cc_iconst_1 dL_law_1142 dL_law_1143 dL_law_1144 dL_law_1145 dL_law_1146 ?_
  refine xx_callV0 (pc := 1147) (st := [.int _]) sh_114 (cM_lone (w := w1) (tn_lt _) (by rw [e5]; exact hI) (by rw [e5]; exact hP)) kX12_lone vL_144_12 dL_law_1147 rfl rfl (Nat.le_of_ble_eq_true rfl) ⟨Nat.le_of_ble_eq_true rfl, Nat.le_of_ble_eq_true rfl⟩ hk (ic_ki (fun v2 h2 q2 => ?_))
  obtain ⟨rfl, w2, rfl, k2⟩ := q2
  refine xx_icmp_eq (pc := 1150) 1755 dL_law_1150 (by decide) (fun _ => ?_) (fun c => absurd ?_ c)
  · exact kk _ (h.pure g c1 (Gm.s2 k2) (s2_115 k2))
  · rw [e5]
set_option maxHeartbeats 4000000 in
set_option maxRecDepth 100000 in
theorem lc_31 {l : Launch} {E : ic_E} {nm : String} {b L : Nat} {xs : Nat → Int32} {kc : Nat × Nat} {w : ic_w} {i : Nat} (hb : b < ic_b E) (hL : L ≤ 2560) (hi : i + 4 < L) (hk : kc.1 ≤ 600000 ∧ kc.2 ≤ 7302250) (h : Rel w) (kk : ∀ u, Rel u → xx l E (lw_F E nm b L xs False) kc 1755 (lw_L E b i) [] SHs (hn u)) : xx l E (lw_F E nm b L xs False) kc 1155 (lw_L E b i) [] SHs (hn w) := by
  have hs := h.2.1
  have hI := hs.1
  have hR := hs.2.1
  have hP := hs.2.2.1
  refine xx_aload_nP (pc := 1155) dL_law_1155 2 rfl rfl ?_
  refine xx_callV0 (pc := 1156) (st := []) sh_0 (cC_liar (w := w)  h.1 hI hP h.2.2.1.1 h.2.2.1.2) kX11_liar vL_145_11 dL_law_1156 rfl rfl (Nat.le_of_ble_eq_true rfl) ⟨Nat.le_of_ble_eq_true rfl, Nat.le_of_ble_eq_true rfl⟩ hk (ic_ki (fun v1 h1 q1 => ?_))
  obtain ⟨rfl, w1, rfl, f1⟩ := q1
  have g := Gc.fr f1
  have c1 := h.1.fr f1
  have e5 : w1 115 = w 115 := g.1 115 (by omega)
  refine xx_aload_nP (pc := 1159) dL_law_1159 1 rfl rfl ?_
  refine xx_callV0 (pc := 1160) (st := [.int _]) sh_114 (cM_liar (w := w1)  (by rw [e5]; exact hI) (by rw [e5]; exact hP)) kX12_liar vL_148_12 dL_law_1160 rfl rfl (Nat.le_of_ble_eq_true rfl) ⟨Nat.le_of_ble_eq_true rfl, Nat.le_of_ble_eq_true rfl⟩ hk (ic_ki (fun v2 h2 q2 => ?_))
  obtain ⟨rfl, w2, rfl, k2⟩ := q2
  refine xx_icmp_eq (pc := 1163) 1755 dL_law_1163 (by decide) (fun _ => ?_) (fun c => absurd ?_ c)
  · exact kk _ (h.pure g c1 (Gm.s2 k2) (s2_115 k2))
  · rw [e5]
set_option maxHeartbeats 4000000 in
set_option maxRecDepth 100000 in
theorem lc_32 {l : Launch} {E : ic_E} {nm : String} {b L : Nat} {xs : Nat → Int32} {kc : Nat × Nat} {w : ic_w} {i : Nat} (hb : b < ic_b E) (hL : L ≤ 2560) (hi : i + 4 < L) (hk : kc.1 ≤ 600000 ∧ kc.2 ≤ 7302250) (h : Rel w) (kk : ∀ u, Rel u → xx l E (lw_F E nm b L xs False) kc 1755 (lw_L E b i) [] SHs (hn u)) : xx l E (lw_F E nm b L xs False) kc 1168 (lw_L E b i) [] SHs (hn w) := by
  have hs := h.2.1
  have hI := hs.1
  have hR := hs.2.1
  have hP := hs.2.2.1
  refine xx_aload_nP (pc := 1168) dL_law_1168 2 rfl rfl ?_
  refine lw_arg (pc := 1169) 1 hb hL (by omega) cc_iconst_1 dL_law_1169 dL_law_1170 dL_law_1171 dL_law_1172 dL_law_1173 ?_
  refine xx_callV0 (pc := 1174) (st := []) sh_0 (cC_seed (w := w) (tn_lt _) h.1 hI) kX11_seed vL_149_11 dL_law_1174 rfl rfl (Nat.le_of_ble_eq_true rfl) ⟨Nat.le_of_ble_eq_true rfl, Nat.le_of_ble_eq_true rfl⟩ hk (ic_ki (fun v1 h1 q1 => ?_))
  obtain ⟨rfl, w1, rfl, f1, c1⟩ := q1
  have g := Gc.fn h f1
  have e5 : w1 115 = w 115 := g.1 115 (by omega)
  refine xx_aload_nP (pc := 1177) dL_law_1177 1 rfl rfl ?_
  refine lw_arg (pc := 1178) 1 hb hL (by omega) cc_iconst_1 dL_law_1178 dL_law_1179 dL_law_1180 dL_law_1181 dL_law_1182 ?_
  refine xx_callV0 (pc := 1183) (st := [.int _]) sh_114 (cM_seed (w := w1) (tn_lt _) ) kX12_seed vL_152_12 dL_law_1183 rfl rfl (Nat.le_of_ble_eq_true rfl) ⟨Nat.le_of_ble_eq_true rfl, Nat.le_of_ble_eq_true rfl⟩ hk (ic_ki (fun v2 h2 q2 => ?_))
  obtain ⟨rfl, rfl⟩ := q2
  refine xx_icmp_eq (pc := 1186) 1755 dL_law_1186 (by decide) (fun _ => ?_) (fun c => absurd ?_ c)
  · exact kk _ (h.go g c1 (Gm.rr _ _) ((wr_s _ _ _).trans (by rw [e5])) (hs.see (tn_lt _)))
  · rw [e5]
set_option maxHeartbeats 4000000 in
set_option maxRecDepth 100000 in
theorem lc_33 {l : Launch} {E : ic_E} {nm : String} {b L : Nat} {xs : Nat → Int32} {kc : Nat × Nat} {w : ic_w} {i : Nat} (hb : b < ic_b E) (hL : L ≤ 2560) (hi : i + 4 < L) (hk : kc.1 ≤ 600000 ∧ kc.2 ≤ 7302250) (h : Rel w) (kk : ∀ u, Rel u → xx l E (lw_F E nm b L xs False) kc 1755 (lw_L E b i) [] SHs (hn u)) : xx l E (lw_F E nm b L xs False) kc 1191 (lw_L E b i) [] SHs (hn w) := by
  have hs := h.2.1
  have hI := hs.1
  have hR := hs.2.1
  have hP := hs.2.2.1
  refine xx_aload_nP (pc := 1191) dL_law_1191 2 rfl rfl ?_
  refine xx_callV0 (pc := 1192) (st := []) sh_0 (cC_lot (w := w)  h.1 hI hR) kX11_lot vL_153_11 dL_law_1192 rfl rfl (Nat.le_of_ble_eq_true rfl) ⟨Nat.le_of_ble_eq_true rfl, Nat.le_of_ble_eq_true rfl⟩ hk (ic_ki (fun v1 h1 q1 => ?_))
  obtain ⟨rfl, w1, rfl, f1, c1⟩ := q1
  have g := Gc.fn h f1
  have e5 : w1 115 = w 115 := g.1 115 (by omega)
  refine xx_aload_nP (pc := 1195) dL_law_1195 1 rfl rfl ?_
  refine xx_callV0 (pc := 1196) (st := [.int _]) sh_114 (cM_lot (w := w1)  (by rw [e5]; exact hI) (by rw [e5]; exact hR)) kX12_lot vL_156_12 dL_law_1196 rfl rfl (Nat.le_of_ble_eq_true rfl) ⟨Nat.le_of_ble_eq_true rfl, Nat.le_of_ble_eq_true rfl⟩ hk (ic_ki (fun v2 h2 q2 => ?_))
  obtain ⟨rfl, w2, rfl, k2⟩ := q2
  refine xx_icmp_eq (pc := 1199) 1755 dL_law_1199 (by decide) (fun _ => ?_) (fun c => absurd ?_ c)
  · by_cases c : w 115 2 ≤ w 115 1
    · rw [e5, if_pos c] at k2
      subst k2
      rw [if_pos c] at c1
      exact kk _ (h.pure g c1 (Gm.rf _) rfl)
    · rw [e5, if_neg c] at k2
      rw [if_neg c] at c1
      exact kk _ (h.go g c1 (Gm.go k2.2) k2.1 (hs.lgo (by omega)))
  · rw [e5]
set_option maxHeartbeats 4000000 in
set_option maxRecDepth 100000 in
theorem lc_34 {l : Launch} {E : ic_E} {nm : String} {b L : Nat} {xs : Nat → Int32} {kc : Nat × Nat} {w : ic_w} {i : Nat} (hb : b < ic_b E) (hL : L ≤ 2560) (hi : i + 4 < L) (hk : kc.1 ≤ 600000 ∧ kc.2 ≤ 7302250) (h : Rel w) (kk : ∀ u, Rel u → xx l E (lw_F E nm b L xs False) kc 1755 (lw_L E b i) [] SHs (hn u)) : xx l E (lw_F E nm b L xs False) kc 1204 (lw_L E b i) [] SHs (hn w) := by
  have hs := h.2.1
  have hI := hs.1
  have hR := hs.2.1
  have hP := hs.2.2.1
  refine xx_aload_nP (pc := 1204) dL_law_1204 2 rfl rfl ?_
  refine lw_arg (pc := 1205) 1 hb hL (by omega) cc_iconst_1 dL_law_1205 dL_law_1206 dL_law_1207 dL_law_1208 dL_law_1209 ?_
  refine lw_arg (pc := 1210) 2 hb hL (by omega) cc_iconst_2 dL_law_1210 dL_law_1211 dL_law_1212 dL_law_1213 dL_law_1214 ?_
  refine xx_callV0 (pc := 1215) (st := []) sh_0 (cC_times (w := w) (tn_lt _) (tn_lt _) h.1 hI hR) kX11_times vL_157_11 dL_law_1215 rfl rfl (Nat.le_of_ble_eq_true rfl) ⟨Nat.le_of_ble_eq_true rfl, Nat.le_of_ble_eq_true rfl⟩ hk (ic_ki (fun v1 h1 q1 => ?_))
  obtain ⟨rfl, w1, rfl, f1⟩ := q1
  have g := Gc.fp h f1
  have c1 := h.1.fp f1
  have e5 : w1 115 = w 115 := g.1 115 (by omega)
  refine xx_aload_nP (pc := 1218) dL_law_1218 1 rfl rfl ?_
  refine lw_arg (pc := 1219) 1 hb hL (by omega) cc_iconst_1 dL_law_1219 dL_law_1220 dL_law_1221 dL_law_1222 dL_law_1223 ?_
  refine lw_arg (pc := 1224) 2 hb hL (by omega) cc_iconst_2 dL_law_1224 dL_law_1225 dL_law_1226 dL_law_1227 dL_law_1228 ?_
  refine xx_callV0 (pc := 1229) (st := [.int _]) sh_114 (cM_times (w := w1) (tn_lt _) (tn_lt _) (by rw [e5]; exact hI) (by rw [e5]; exact hR)) kX12_times vL_160_12 dL_law_1229 rfl rfl (Nat.le_of_ble_eq_true rfl) ⟨Nat.le_of_ble_eq_true rfl, Nat.le_of_ble_eq_true rfl⟩ hk (ic_ki (fun v2 h2 q2 => ?_))
  obtain ⟨rfl, w2, rfl, k2⟩ := q2
  refine xx_icmp_eq (pc := 1232) 1755 dL_law_1232 (by decide) (fun _ => ?_) (fun c => absurd ?_ c)
  · exact kk _ (h.pure g c1 (Gm.sc k2) (k2 115 (by omega) (by omega)))
  · rw [e5]
set_option maxHeartbeats 4000000 in
set_option maxRecDepth 100000 in
theorem lc_36 {l : Launch} {E : ic_E} {nm : String} {b L : Nat} {xs : Nat → Int32} {kc : Nat × Nat} {w : ic_w} {i : Nat} (hb : b < ic_b E) (hL : L ≤ 2560) (hi : i + 4 < L) (hk : kc.1 ≤ 600000 ∧ kc.2 ≤ 7302250) (h : Rel w) (kk : ∀ u, Rel u → xx l E (lw_F E nm b L xs False) kc 1755 (lw_L E b i) [] SHs (hn u)) : xx l E (lw_F E nm b L xs False) kc 1260 (lw_L E b i) [] SHs (hn w) := by
  have hs := h.2.1
  have hI := hs.1
  have hR := hs.2.1
  have hP := hs.2.2.1
  refine xx_aload_nP (pc := 1260) dL_law_1260 2 rfl rfl ?_
  refine lw_arg (pc := 1261) 1 hb hL (by omega) cc_iconst_1 dL_law_1261 dL_law_1262 dL_law_1263 dL_law_1264 dL_law_1265 ?_
  refine lw_arg (pc := 1266) 2 hb hL (by omega) cc_iconst_2 dL_law_1266 dL_law_1267 dL_law_1268 dL_law_1269 dL_law_1270 ?_
  refine xx_callV0 (pc := 1271) (st := []) sh_0 (cC_row (w := w) (tn_lt _) (tn_lt _) h.2.2.2.2.2.1.1) kX11_row vL_165_11 dL_law_1271 rfl rfl (Nat.le_of_ble_eq_true rfl) ⟨Nat.le_of_ble_eq_true rfl, Nat.le_of_ble_eq_true rfl⟩ hk (ic_ke ?_)
  have g := Gc.rf h
  have c1 := h.1
  have e5 : w 115 = w 115 := g.1 115 (by omega)
  refine xx_aload_nP (pc := 1274) dL_law_1274 1 rfl rfl ?_
  refine lw_arg (pc := 1275) 1 hb hL (by omega) cc_iconst_1 dL_law_1275 dL_law_1276 dL_law_1277 dL_law_1278 dL_law_1279 ?_
  refine lw_arg (pc := 1280) 2 hb hL (by omega) cc_iconst_2 dL_law_1280 dL_law_1281 dL_law_1282 dL_law_1283 dL_law_1284 ?_
  refine xx_callV0 (pc := 1285) (st := [.int _]) sh_114 (cM_row (w := w) (tn_lt _) (tn_lt _) h.2.2.2.2.2.1.1.2.1) kX12_row vL_168_12 dL_law_1285 rfl rfl (Nat.le_of_ble_eq_true rfl) ⟨Nat.le_of_ble_eq_true rfl, Nat.le_of_ble_eq_true rfl⟩ hk (ic_ke ?_)
  refine xx_icmp_eq (pc := 1288) 1755 dL_law_1288 (by decide) (fun _ => ?_) (fun c => absurd ?_ c)
  · exact kk _ (h.pure g c1 (Gm.rf _) rfl)
  · rfl
set_option maxHeartbeats 4000000 in
set_option maxRecDepth 100000 in
theorem lc_38 {l : Launch} {E : ic_E} {nm : String} {b L : Nat} {xs : Nat → Int32} {kc : Nat × Nat} {w : ic_w} {i : Nat} (hb : b < ic_b E) (hL : L ≤ 2560) (hi : i + 4 < L) (hk : kc.1 ≤ 600000 ∧ kc.2 ≤ 7302250) (h : Rel w) (kk : ∀ u, Rel u → xx l E (lw_F E nm b L xs False) kc 1755 (lw_L E b i) [] SHs (hn u)) : xx l E (lw_F E nm b L xs False) kc 1336 (lw_L E b i) [] SHs (hn w) := by
  have hs := h.2.1
  have hI := hs.1
  have hR := hs.2.1
  have hP := hs.2.2.1
  refine xx_aload_nP (pc := 1336) dL_law_1336 2 rfl rfl ?_
  refine xx_callV0 (pc := 1337) (st := []) sh_0 (cC_judge (w := w)  h.1 hI hR h.2.2.2.2.2.1.1 h.2.2.2.2.2.1.2) kX11_judge vL_173_11 dL_law_1337 rfl rfl (Nat.le_of_ble_eq_true rfl) ⟨Nat.le_of_ble_eq_true rfl, Nat.le_of_ble_eq_true rfl⟩ hk (ic_ki (fun v1 h1 q1 => ?_))
  obtain ⟨rfl, w1, rfl, f1⟩ := q1
  have g := Gc.fp h f1
  have c1 := h.1.fp f1
  have e5 : w1 115 = w 115 := g.1 115 (by omega)
  have e28 : w1 114 28 = w 114 28 := by rw [g.1 114 (by omega)]
  have e125 : w1 125 = w 125 := g.1 125 (by omega)
  refine xx_aload_nP (pc := 1340) dL_law_1340 1 rfl rfl ?_
  refine xx_callV0 (pc := 1341) (st := [.int _]) sh_114 (cM_judge (w := w1)  (by rw [e5]; exact hI) (by rw [e5]; exact hR) (by rw [e28]; exact h.2.2.2.2.2.1.1.2.1) (by rw [e125]; exact h.2.2.2.2.2.1.2)) kX12_judge vL_176_12 dL_law_1341 rfl rfl (Nat.le_of_ble_eq_true rfl) ⟨Nat.le_of_ble_eq_true rfl, Nat.le_of_ble_eq_true rfl⟩ hk (ic_ki (fun v2 h2 q2 => ?_))
  obtain ⟨rfl, w2, rfl, k2⟩ := q2
  refine xx_icmp_eq (pc := 1344) 1755 dL_law_1344 (by decide) (fun _ => ?_) (fun c => absurd ?_ c)
  · exact kk _ (h.pure g c1 (Gm.sc k2) (k2 115 (by omega) (by omega)))
  · rw [e5, e28, e125]
set_option maxHeartbeats 4000000 in
set_option maxRecDepth 100000 in
theorem lc_41 {l : Launch} {E : ic_E} {nm : String} {b L : Nat} {xs : Nat → Int32} {kc : Nat × Nat} {w : ic_w} {i : Nat} (hb : b < ic_b E) (hL : L ≤ 2560) (hi : i + 4 < L) (hk : kc.1 ≤ 600000 ∧ kc.2 ≤ 7302250) (h : Rel w) (kk : ∀ u, Rel u → xx l E (lw_F E nm b L xs False) kc 1755 (lw_L E b i) [] SHs (hn u)) : xx l E (lw_F E nm b L xs False) kc 1435 (lw_L E b i) [] SHs (hn w) := by
  have hs := h.2.1
  have hI := hs.1
  have hR := hs.2.1
  have hP := hs.2.2.1
  refine xx_aload_nP (pc := 1435) dL_law_1435 2 rfl rfl ?_
  refine lw_arg (pc := 1436) 1 hb hL (by omega) cc_iconst_1 dL_law_1436 dL_law_1437 dL_law_1438 dL_law_1439 dL_law_1440 ?_
  refine lw_arg (pc := 1441) 2 hb hL (by omega) cc_iconst_2 dL_law_1441 dL_law_1442 dL_law_1443 dL_law_1444 dL_law_1445 ?_
  refine lw_arg (pc := 1446) 3 hb hL (by omega) cc_iconst_3 dL_law_1446 dL_law_1447 dL_law_1448 dL_law_1449 dL_law_1450 ?_
  refine xx_callV0 (pc := 1451) (st := []) sh_0 (cC_item (w := w) (tn_lt _) (tn_lt _) (tn_lt _) h.2.2.2.2.2.2.1) kX11_item vL_185_11 dL_law_1451 rfl rfl (Nat.le_of_ble_eq_true rfl) ⟨Nat.le_of_ble_eq_true rfl, Nat.le_of_ble_eq_true rfl⟩ hk (ic_ke ?_)
  have g := Gc.rf h
  have c1 := h.1
  have e5 : w 115 = w 115 := g.1 115 (by omega)
  refine xx_aload_nP (pc := 1454) dL_law_1454 1 rfl rfl ?_
  refine lw_arg (pc := 1455) 1 hb hL (by omega) cc_iconst_1 dL_law_1455 dL_law_1456 dL_law_1457 dL_law_1458 dL_law_1459 ?_
  refine lw_arg (pc := 1460) 2 hb hL (by omega) cc_iconst_2 dL_law_1460 dL_law_1461 dL_law_1462 dL_law_1463 dL_law_1464 ?_
  refine lw_arg (pc := 1465) 3 hb hL (by omega) cc_iconst_3 dL_law_1465 dL_law_1466 dL_law_1467 dL_law_1468 dL_law_1469 ?_
  refine xx_callV0 (pc := 1470) (st := [.int _]) sh_114 (cM_item (w := w) (tn_lt _) (tn_lt _) (tn_lt _) (Ct.St h.2.2.2.2.2.2.1)) kX12_item vL_188_12 dL_law_1470 rfl rfl (Nat.le_of_ble_eq_true rfl) ⟨Nat.le_of_ble_eq_true rfl, Nat.le_of_ble_eq_true rfl⟩ hk (ic_ke ?_)
  refine xx_icmp_eq (pc := 1473) 1755 dL_law_1473 (by decide) (fun _ => ?_) (fun c => absurd ?_ c)
  · exact kk _ (h.pure g c1 (Gm.rf _) rfl)
  · rfl
set_option maxHeartbeats 4000000 in
set_option maxRecDepth 100000 in
theorem lc_42 {l : Launch} {E : ic_E} {nm : String} {b L : Nat} {xs : Nat → Int32} {kc : Nat × Nat} {w : ic_w} {i : Nat} (hb : b < ic_b E) (hL : L ≤ 2560) (hi : i + 4 < L) (hk : kc.1 ≤ 600000 ∧ kc.2 ≤ 7302250) (h : Rel w) (kk : ∀ u, Rel u → xx l E (lw_F E nm b L xs False) kc 1755 (lw_L E b i) [] SHs (hn u)) : xx l E (lw_F E nm b L xs False) kc 1478 (lw_L E b i) [] SHs (hn w) := by
  have hs := h.2.1
  have hI := hs.1
  have hR := hs.2.1
  have hP := hs.2.2.1
  refine xx_aload_nP (pc := 1478) dL_law_1478 2 rfl rfl ?_
  refine lw_arg (pc := 1479) 1 hb hL (by omega) cc_iconst_1 dL_law_1479 dL_law_1480 dL_law_1481 dL_law_1482 dL_law_1483 ?_
  refine lw_arg (pc := 1484) 2 hb hL (by omega) cc_iconst_2 dL_law_1484 dL_law_1485 dL_law_1486 dL_law_1487 dL_law_1488 ?_
  refine lw_arg (pc := 1489) 3 hb hL (by omega) cc_iconst_3 dL_law_1489 dL_law_1490 dL_law_1491 dL_law_1492 dL_law_1493 ?_
  refine xx_callV0 (pc := 1494) (st := []) sh_0 (cC_goAll (w := w) (tn_lt _) (tn_lt _) (tn_lt _) h.1 hI hR h.2.2.2.2.2.2.1) kX11_goAll vL_189_11 dL_law_1494 rfl rfl (Nat.le_of_ble_eq_true rfl) ⟨Nat.le_of_ble_eq_true rfl, Nat.le_of_ble_eq_true rfl⟩ hk (ic_ki (fun v1 h1 q1 => ?_))
  obtain ⟨rfl, w1, rfl, f1, c1⟩ := q1
  have g := Gc.fn h f1
  have e5 : w1 115 = w 115 := g.1 115 (by omega)
  have e126 : w1 126 = w 126 := g.1 126 (by omega)
  have e127 : w1 127 = w 127 := g.1 127 (by omega)
  have e128 : w1 128 = w 128 := g.1 128 (by omega)
  have st1 : mo_St w1 := by
    have := Ct.St h.2.2.2.2.2.2.1
    unfold mo_St at this ⊢
    rw [e126, e127, e128]
    exact this
  have lk : mo_lk w1 = mo_lt (w 126) := by
    funext q r
    show mo_lt (w1 126) q r = _
    rw [e126]
  refine xx_aload_nP (pc := 1497) dL_law_1497 1 rfl rfl ?_
  refine lw_arg (pc := 1498) 1 hb hL (by omega) cc_iconst_1 dL_law_1498 dL_law_1499 dL_law_1500 dL_law_1501 dL_law_1502 ?_
  refine lw_arg (pc := 1503) 2 hb hL (by omega) cc_iconst_2 dL_law_1503 dL_law_1504 dL_law_1505 dL_law_1506 dL_law_1507 ?_
  refine lw_arg (pc := 1508) 3 hb hL (by omega) cc_iconst_3 dL_law_1508 dL_law_1509 dL_law_1510 dL_law_1511 dL_law_1512 ?_
  refine xx_callV0 (pc := 1513) (st := [.int _]) sh_114 (cM_goAll (w := w1) (tn_lt _) (tn_lt _) (tn_lt _) st1 (by rw [e5]; exact hI) (by rw [e5]; exact hR)) kX12_goAll vL_192_12 dL_law_1513 rfl rfl (Nat.le_of_ble_eq_true rfl) ⟨Nat.le_of_ble_eq_true rfl, Nat.le_of_ble_eq_true rfl⟩ hk (ic_ki (fun v2 h2 q2 => ?_))
  obtain ⟨rfl, w2, rfl, k2, k3⟩ := q2
  refine xx_icmp_eq (pc := 1516) 1755 dL_law_1516 (by decide) (fun _ => ?_) (fun c => absurd ?_ c)
  · exact kk _ (h.go g c1 (Gm.go k3) (k2.trans (by rw [lk, e127, e128, e5])) (by
        split
        · rename_i c
          exact Is.gx _ _ _ hs
        · exact hs
        ))
  · rw [e5, e127, e128, lk]
set_option maxHeartbeats 4000000 in
set_option maxRecDepth 100000 in
theorem lc_43 {l : Launch} {E : ic_E} {nm : String} {b L : Nat} {xs : Nat → Int32} {kc : Nat × Nat} {w : ic_w} {i : Nat} (hb : b < ic_b E) (hL : L ≤ 2560) (hi : i + 4 < L) (hk : kc.1 ≤ 600000 ∧ kc.2 ≤ 7302250) (h : Rel w) (kk : ∀ u, Rel u → xx l E (lw_F E nm b L xs False) kc 1755 (lw_L E b i) [] SHs (hn u)) : xx l E (lw_F E nm b L xs False) kc 1521 (lw_L E b i) [] SHs (hn w) := by
  have hs := h.2.1
  have hI := hs.1
  have hR := hs.2.1
  have hP := hs.2.2.1
  refine xx_aload_nP (pc := 1521) dL_law_1521 2 rfl rfl ?_
  refine lw_arg (pc := 1522) 1 hb hL (by omega) cc_iconst_1 dL_law_1522 dL_law_1523 dL_law_1524 dL_law_1525 dL_law_1526 ?_
  refine lw_arg (pc := 1527) 2 hb hL (by omega) cc_iconst_2 dL_law_1527 dL_law_1528 dL_law_1529 dL_law_1530 dL_law_1531 ?_
  refine lw_arg (pc := 1532) 3 hb hL (by omega) cc_iconst_3 dL_law_1532 dL_law_1533 dL_law_1534 dL_law_1535 dL_law_1536 ?_
  refine xx_callV0 (pc := 1537) (st := []) sh_0 (cC_wouldBe (w := w) (tn_lt _) (tn_lt _) (tn_lt _) h.1 hI hR h.2.2.2.2.2.2.1) kX11_wouldBe vL_193_11 dL_law_1537 rfl rfl (Nat.le_of_ble_eq_true rfl) ⟨Nat.le_of_ble_eq_true rfl, Nat.le_of_ble_eq_true rfl⟩ hk (ic_ki (fun v1 h1 q1 => ?_))
  obtain ⟨rfl, w1, rfl, f1⟩ := q1
  have g := Gc.fp h f1
  have c1 := h.1.fp f1
  have e5 : w1 115 = w 115 := g.1 115 (by omega)
  have e126 : w1 126 = w 126 := g.1 126 (by omega)
  have e127 : w1 127 = w 127 := g.1 127 (by omega)
  have e128 : w1 128 = w 128 := g.1 128 (by omega)
  have st1 : mo_St w1 := by
    have := Ct.St h.2.2.2.2.2.2.1
    unfold mo_St at this ⊢
    rw [e126, e127, e128]
    exact this
  have lk : mo_lk w1 = mo_lt (w 126) := by
    funext q r
    show mo_lt (w1 126) q r = _
    rw [e126]
  refine xx_aload_nP (pc := 1540) dL_law_1540 1 rfl rfl ?_
  refine lw_arg (pc := 1541) 1 hb hL (by omega) cc_iconst_1 dL_law_1541 dL_law_1542 dL_law_1543 dL_law_1544 dL_law_1545 ?_
  refine lw_arg (pc := 1546) 2 hb hL (by omega) cc_iconst_2 dL_law_1546 dL_law_1547 dL_law_1548 dL_law_1549 dL_law_1550 ?_
  refine lw_arg (pc := 1551) 3 hb hL (by omega) cc_iconst_3 dL_law_1551 dL_law_1552 dL_law_1553 dL_law_1554 dL_law_1555 ?_
  refine xx_callV0 (pc := 1556) (st := [.int _]) sh_114 (cM_wouldBe (w := w1) (tn_lt _) (tn_lt _) (tn_lt _) st1 (by rw [e5]; exact hI) (by rw [e5]; exact hR)) kX12_wouldBe vL_196_12 dL_law_1556 rfl rfl (Nat.le_of_ble_eq_true rfl) ⟨Nat.le_of_ble_eq_true rfl, Nat.le_of_ble_eq_true rfl⟩ hk (ic_ki (fun v2 h2 q2 => ?_))
  obtain ⟨rfl, w2, rfl, k2⟩ := q2
  refine xx_icmp_eq (pc := 1559) 1755 dL_law_1559 (by decide) (fun _ => ?_) (fun c => absurd ?_ c)
  · exact kk _ (h.pure g c1 (Gm.sc k2) (k2 115 (by omega) (by omega)))
  · rw [e5, e127, e128, lk]
set_option maxHeartbeats 4000000 in
set_option maxRecDepth 100000 in
theorem lc_45 {l : Launch} {E : ic_E} {nm : String} {b L : Nat} {xs : Nat → Int32} {kc : Nat × Nat} {w : ic_w} {i : Nat} (hb : b < ic_b E) (hL : L ≤ 2560) (hi : i + 4 < L) (hk : kc.1 ≤ 600000 ∧ kc.2 ≤ 7302250) (h : Rel w) (kk : ∀ u, Rel u → xx l E (lw_F E nm b L xs False) kc 1755 (lw_L E b i) [] SHs (hn u)) : xx l E (lw_F E nm b L xs False) kc 1607 (lw_L E b i) [] SHs (hn w) := by
  have hs := h.2.1
  have hI := hs.1
  have hR := hs.2.1
  have hP := hs.2.2.1
  refine xx_aload_nP (pc := 1607) dL_law_1607 2 rfl rfl ?_
  refine lw_arg (pc := 1608) 1 hb hL (by omega) cc_iconst_1 dL_law_1608 dL_law_1609 dL_law_1610 dL_law_1611 dL_law_1612 ?_
  refine lw_arg (pc := 1613) 2 hb hL (by omega) cc_iconst_2 dL_law_1613 dL_law_1614 dL_law_1615 dL_law_1616 dL_law_1617 ?_
  refine xx_callV0 (pc := 1618) (st := []) sh_0 (cC_taken (w := w) (tn_lt _) (tn_lt _) h.1.1 hI h.2.2.2.2.2.2.2.1.1) kX11_taken vL_201_11 dL_law_1618 rfl rfl (Nat.le_of_ble_eq_true rfl) ⟨Nat.le_of_ble_eq_true rfl, Nat.le_of_ble_eq_true rfl⟩ hk (ic_ke ?_)
  have g := Gc.rf h
  have c1 := h.1
  have e5 : w 115 = w 115 := g.1 115 (by omega)
  refine xx_aload_nP (pc := 1621) dL_law_1621 1 rfl rfl ?_
  refine lw_arg (pc := 1622) 1 hb hL (by omega) cc_iconst_1 dL_law_1622 dL_law_1623 dL_law_1624 dL_law_1625 dL_law_1626 ?_
  refine lw_arg (pc := 1627) 2 hb hL (by omega) cc_iconst_2 dL_law_1627 dL_law_1628 dL_law_1629 dL_law_1630 dL_law_1631 ?_
  refine xx_callV0 (pc := 1632) (st := [.int _]) sh_114 (cM_taken (w := w) (tn_lt _) (tn_lt _) h.2.2.2.2.2.2.2.1.2 hI) kX12_taken vL_204_12 dL_law_1632 rfl rfl (Nat.le_of_ble_eq_true rfl) ⟨Nat.le_of_ble_eq_true rfl, Nat.le_of_ble_eq_true rfl⟩ hk (ic_ke ?_)
  refine xx_icmp_eq (pc := 1635) 1755 dL_law_1635 (by decide) (fun _ => ?_) (fun c => absurd ?_ c)
  · exact kk _ (h.pure g c1 (Gm.rf _) rfl)
  · rfl
set_option maxHeartbeats 4000000 in
set_option maxRecDepth 100000 in
theorem lc_47 {l : Launch} {E : ic_E} {nm : String} {b L : Nat} {xs : Nat → Int32} {kc : Nat × Nat} {w : ic_w} {i : Nat} (hb : b < ic_b E) (hL : L ≤ 2560) (hi : i + 4 < L) (hk : kc.1 ≤ 600000 ∧ kc.2 ≤ 7302250) (h : Rel w) (kk : ∀ u, Rel u → xx l E (lw_F E nm b L xs False) kc 1755 (lw_L E b i) [] SHs (hn u)) : xx l E (lw_F E nm b L xs False) kc 1683 (lw_L E b i) [] SHs (hn w) := by
  have hs := h.2.1
  have hI := hs.1
  have hR := hs.2.1
  have hP := hs.2.2.1
  obtain ⟨a30, W, aW, aE, a132⟩ := h.2.2.2.2.2.2.2.2
  refine xx_aload_nP (pc := 1683) dL_law_1683 2 rfl rfl ?_
  refine lw_arg (pc := 1684) 1 hb hL (by omega) cc_iconst_1 dL_law_1684 dL_law_1685 dL_law_1686 dL_law_1687 dL_law_1688 ?_
  refine xx_callV0 (pc := 1689) (st := []) sh_0 (cC_trace (w := w) (tn_lt _) aW) kX11_trace vL_209_11 dL_law_1689 rfl rfl (Nat.le_of_ble_eq_true rfl) ⟨Nat.le_of_ble_eq_true rfl, Nat.le_of_ble_eq_true rfl⟩ hk (ic_ke ?_)
  have g := Gc.rf h
  have c1 := h.1
  have e5 : w 115 = w 115 := g.1 115 (by omega)
  refine xx_aload_nP (pc := 1692) dL_law_1692 1 rfl rfl ?_
  refine lw_arg (pc := 1693) 1 hb hL (by omega) cc_iconst_1 dL_law_1693 dL_law_1694 dL_law_1695 dL_law_1696 dL_law_1697 ?_
  refine xx_callV0 (pc := 1698) (st := [.int _]) sh_114 (cM_trace (w := w) (tn_lt _) h.2.2.2.2.2.2.2.2.1) kX12_trace vL_212_12 dL_law_1698 rfl rfl (Nat.le_of_ble_eq_true rfl) ⟨Nat.le_of_ble_eq_true rfl, Nat.le_of_ble_eq_true rfl⟩ hk (ic_ke ?_)
  refine xx_icmp_eq (pc := 1701) 1755 dL_law_1701 (by decide) (fun _ => ?_) (fun c => absurd ?_ c)
  · exact kk _ (h.pure g c1 (Gm.rf _) rfl)
  · rw [aE, a132]
set_option maxHeartbeats 4000000 in
set_option maxRecDepth 100000 in
theorem lc_48 {l : Launch} {E : ic_E} {nm : String} {b L : Nat} {xs : Nat → Int32} {kc : Nat × Nat} {w : ic_w} {i : Nat} (hb : b < ic_b E) (hL : L ≤ 2560) (hi : i + 4 < L) (hk : kc.1 ≤ 600000 ∧ kc.2 ≤ 7302250) (h : Rel w) (kk : ∀ u, Rel u → xx l E (lw_F E nm b L xs False) kc 1755 (lw_L E b i) [] SHs (hn u)) : xx l E (lw_F E nm b L xs False) kc 1706 (lw_L E b i) [] SHs (hn w) := by
  have hs := h.2.1
  have hI := hs.1
  have hR := hs.2.1
  have hP := hs.2.2.1
  obtain ⟨a30, W, aW, aE, a132⟩ := h.2.2.2.2.2.2.2.2
  refine xx_aload_nP (pc := 1706) dL_law_1706 2 rfl rfl ?_
  refine lw_arg (pc := 1707) 1 hb hL (by omega) cc_iconst_1 dL_law_1707 dL_law_1708 dL_law_1709 dL_law_1710 dL_law_1711 ?_
  refine xx_callV0 (pc := 1712) (st := []) sh_0 (cC_many (w := w) (tn_lt _) h.1.1 h.1.2.1 hI h.2.2.2.2.2.1.1.1 h.2.2.2.2.1.1.1 aW) kX11_many vL_213_11 dL_law_1712 rfl rfl (Nat.le_of_ble_eq_true rfl) ⟨Nat.le_of_ble_eq_true rfl, Nat.le_of_ble_eq_true rfl⟩ hk (ic_ke ?_)
  have g := Gc.rf h
  have c1 := h.1
  have e5 : w 115 = w 115 := g.1 115 (by omega)
  refine xx_aload_nP (pc := 1715) dL_law_1715 1 rfl rfl ?_
  refine lw_arg (pc := 1716) 1 hb hL (by omega) cc_iconst_1 dL_law_1716 dL_law_1717 dL_law_1718 dL_law_1719 dL_law_1720 ?_
  refine xx_callV0 (pc := 1721) (st := [.int _]) sh_114 (cM_many (w := w) (tn_lt _) hI) kX12_many vL_216_12 dL_law_1721 rfl rfl (Nat.le_of_ble_eq_true rfl) ⟨Nat.le_of_ble_eq_true rfl, Nat.le_of_ble_eq_true rfl⟩ hk (ic_ke ?_)
  refine xx_icmp_eq (pc := 1724) 1755 dL_law_1724 (by decide) (fun _ => ?_) (fun c => absurd ?_ c)
  · exact kk _ (h.pure g c1 (Gm.rf _) rfl)
  · rw [aE]
    rfl
