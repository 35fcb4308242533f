/-! TOTAL: written by vcg.py -/
set_option maxRecDepth 4000 in
set_option maxHeartbeats 8000000 in
theorem s_MO_doLine_90 {n : Nat} {L : Int32} (hn : 8589934592 ≤ n) {x1 : Int32} {s0 : Int32} {t : mz_St}  (ci : HI L t) (i0 : (((mz_gI t 0 34).toInt ≤ 1 ∧ (mz_gI t 0 48).toInt ≤ 0) ∨ (2 ≤ (mz_gI t 0 34).toInt ∧ (mz_gI t 0 48).toInt ≤ 2390 + 310 * (mz_gI t 0 34).toInt))) (i1 : (((mz_gI t 0 34).toInt ≤ 1 ∧ (mz_gI t 0 51).toInt ≤ 0) ∨ (2 ≤ (mz_gI t 0 34).toInt ∧ (mz_gI t 0 51).toInt ≤ 3310 * (mz_gI t 0 34).toInt - 610))) (i2 : 1 ≤ (mz_gI t 0 34).toInt) (i3 : (¬ (mz_gI t 0 34).toInt = 1 ∨ (mz_gI t 0 60).toInt ≤ 3000)) (i4 : ((mz_gI t 0 34).toInt ≤ 1 ∨ (mz_gI t 0 60).toInt ≤ 300)) (i5 : (s0.toInt = 0 ∨ (mz_gI t 0 61).toInt ≤ (mz_gI t 0 60).toInt)) (i6 : (¬ (mz_gI t 0 34).toInt = 1 ∨ (mz_gI t 0 60).toInt ≤ (mz_gI t 3 x1.toNatClampNeg).toInt - (mz_gI t 2 x1.toNatClampNeg).toInt)) (i7 : 0 ≤ x1.toInt) (i8 : x1.toInt ≤ 3000) : Tp (f_MO_doLine_90 n x1 s0 t) (fun r => HI L r ∧ (0 < (mz_gI r 0 6).toInt ∨ (((mz_gI r 0 34).toInt ≤ 1 ∧ (mz_gI r 0 48).toInt ≤ 0) ∨ (2 ≤ (mz_gI r 0 34).toInt ∧ (mz_gI r 0 48).toInt ≤ 2390 + 310 * (mz_gI r 0 34).toInt))) ∧ (0 < (mz_gI r 0 6).toInt ∨ (((mz_gI r 0 34).toInt ≤ 1 ∧ (mz_gI r 0 51).toInt ≤ 0) ∨ (2 ≤ (mz_gI r 0 34).toInt ∧ (mz_gI r 0 51).toInt ≤ 3310 * (mz_gI r 0 34).toInt - 610))) ∧ (0 < (mz_gI r 0 6).toInt ∨ (mz_gI t 0 8).toInt ≤ (mz_gI r 0 8).toInt)) := by
  unfold f_MO_doLine_90
  have b2296 := FX_0_34 (HI_FX ci)
  have b2297 := FX_0_48 (HI_FX ci)
  have b2298 := FX_0_51 (HI_FX ci)
  have b2299 := HI_g23 ci (c := 0) (p := 60) rfl
  have b2300 := HI_g24 ci (c := 0) (p := 61) rfl
  have b2301 := FX_3 (HI_FX ci) x1.toNatClampNeg
  have b2302 := FX_l (HI_FX ci) x1.toNatClampNeg
  have b2303 := FX_2 (HI_FX ci) x1.toNatClampNeg
  have b2304 := FX_0_8 (HI_FX ci)
  refine Tp_if (fun h2305 => ?_) (fun h2305 => ?_)
  · have g2306 := ti_q h2305
    have i2307 := ti_rg s0
    have l2308 : (0 : Int32).toInt = 0 := rfl
    have l2311 : ((1 : Int32)).toInt = 1 := rfl
    have i2312 := ti_rg (mz_gI t 0 63)
    refine Tp_bi (s_MO_failL hn ci (by omega) (t := t) (x1 := (1 : Int32)) (x2 := mz_gI t 0 63)) (fun q2309 h2310 => ?_)
    obtain ⟨ci2313, E2314, p2315, p2316⟩ := h2310
    have b2317 := HI_g29 ci2313 (c := 0) (p := 6) rfl
    have b2318 := FX_0_8 (HI_FX ci2313)
    have b2319 := HI_g29 ci (c := 0) (p := 6) rfl
    have b2320 := HI_g23 ci2313 (c := 0) (p := 60) rfl
    have e2321 : (mz_gI q2309 0 60).toInt = (mz_gI t 0 60).toInt := by rw [E2314 _ _ (by simp)]
    refine Tp_so ?_
    have b2322 := FX_0_34 (HI_FX ci2313)
    have e2323 : (mz_gI q2309 0 34).toInt = (mz_gI t 0 34).toInt := by rw [E2314 _ _ (by simp)]
    have b2324 := FX_0_48 (HI_FX ci2313)
    have e2325 : (mz_gI q2309 0 48).toInt = (mz_gI t 0 48).toInt := by rw [E2314 _ _ (by simp)]
    have b2326 := FX_0_51 (HI_FX ci2313)
    have e2327 : (mz_gI q2309 0 51).toInt = (mz_gI t 0 51).toInt := by rw [E2314 _ _ (by simp)]
    refine ⟨ci2313, ?_, ?_, ?_⟩
    · (try dsimp only) <;> first | omega | assumption
    · (try dsimp only) <;> first | omega | assumption
    · (try dsimp only) <;> first | omega | assumption
  · have g2328 := ti_nq h2305
    have i2329 := ti_rg s0
    have l2330 : (0 : Int32).toInt = 0 := rfl
    refine Tp_if (fun h2331 => ?_) (fun h2331 => ?_)
    · have g2332 := ti_q h2331
      have l2333 : ((5 : Int32)).toInt = 5 := rfl
      unfold f_MO_doLine_124
      have i2336 := ti_rg x1
      refine Tp_bi (s_MO_turn hn ci (by omega) (by omega) (by omega) (by omega) (by omega) (t := t) (x1 := s0) (x2 := x1)) (fun q2334 h2335 => ?_)
      obtain ⟨ci2337, p2338, p2339, p2340⟩ := h2335
      have b2341 := HI_g29 ci2337 (c := 0) (p := 6) rfl
      have b2342 := HI_g29 ci (c := 0) (p := 6) rfl
      have b2343 := FX_0_8 (HI_FX ci2337)
      have b2344 := FX_0_34 (HI_FX ci2337)
      have b2345 := FX_0_48 (HI_FX ci2337)
      have b2346 := FX_0_51 (HI_FX ci2337)
      refine Tp_so ?_
      refine ⟨ci2337, ?_, ?_, ?_⟩
      · (try dsimp only) <;> first | omega | assumption
      · (try dsimp only) <;> first | omega | assumption
      · (try dsimp only) <;> first | omega | assumption
    · have g2347 := ti_nq h2331
      have l2348 : ((5 : Int32)).toInt = 5 := rfl
      refine Tp_if (fun h2349 => ?_) (fun h2349 => ?_)
      · have g2350 := ti_q h2349
        have l2351 : ((6 : Int32)).toInt = 6 := rfl
        unfold f_MO_doLine_124
        have i2354 := ti_rg x1
        refine Tp_bi (s_MO_turn hn ci (by omega) (by omega) (by omega) (by omega) (by omega) (t := t) (x1 := s0) (x2 := x1)) (fun q2352 h2353 => ?_)
        obtain ⟨ci2355, p2356, p2357, p2358⟩ := h2353
        have b2359 := HI_g29 ci2355 (c := 0) (p := 6) rfl
        have b2360 := HI_g29 ci (c := 0) (p := 6) rfl
        have b2361 := FX_0_8 (HI_FX ci2355)
        have b2362 := FX_0_34 (HI_FX ci2355)
        have b2363 := FX_0_48 (HI_FX ci2355)
        have b2364 := FX_0_51 (HI_FX ci2355)
        refine Tp_so ?_
        refine ⟨ci2355, ?_, ?_, ?_⟩
        · (try dsimp only) <;> first | omega | assumption
        · (try dsimp only) <;> first | omega | assumption
        · (try dsimp only) <;> first | omega | assumption
      · have g2365 := ti_nq h2349
        have l2366 : ((6 : Int32)).toInt = 6 := rfl
        refine Tp_if (fun h2367 => ?_) (fun h2367 => ?_)
        · have g2368 := ti_q h2367
          have l2369 : ((7 : Int32)).toInt = 7 := rfl
          unfold f_MO_doLine_124
          have i2372 := ti_rg x1
          refine Tp_bi (s_MO_turn hn ci (by omega) (by omega) (by omega) (by omega) (by omega) (t := t) (x1 := s0) (x2 := x1)) (fun q2370 h2371 => ?_)
          obtain ⟨ci2373, p2374, p2375, p2376⟩ := h2371
          have b2377 := HI_g29 ci2373 (c := 0) (p := 6) rfl
          have b2378 := HI_g29 ci (c := 0) (p := 6) rfl
          have b2379 := FX_0_8 (HI_FX ci2373)
          have b2380 := FX_0_34 (HI_FX ci2373)
          have b2381 := FX_0_48 (HI_FX ci2373)
          have b2382 := FX_0_51 (HI_FX ci2373)
          refine Tp_so ?_
          refine ⟨ci2373, ?_, ?_, ?_⟩
          · (try dsimp only) <;> first | omega | assumption
          · (try dsimp only) <;> first | omega | assumption
          · (try dsimp only) <;> first | omega | assumption
        · have g2383 := ti_nq h2367
          have l2384 : ((7 : Int32)).toInt = 7 := rfl
          have i2387 := ti_rg x1
          refine Tp_bi (s_MO_direct hn ci (by omega) (by omega) (by omega) (by omega) (by omega) (by omega) (by omega) (by omega) (by omega) (t := t) (x1 := s0) (x2 := x1)) (fun q2385 h2386 => ?_)
          obtain ⟨ci2388, p2389, p2390, p2391⟩ := h2386
          have b2392 := HI_g29 ci2388 (c := 0) (p := 6) rfl
          have b2393 := HI_g29 ci (c := 0) (p := 6) rfl
          have b2394 := FX_0_8 (HI_FX ci2388)
          have b2395 := FX_0_34 (HI_FX ci2388)
          have b2396 := FX_0_48 (HI_FX ci2388)
          have b2397 := FX_0_51 (HI_FX ci2388)
          refine Tp_so ?_
          refine ⟨ci2388, ?_, ?_, ?_⟩
          · (try dsimp only) <;> first | omega | assumption
          · (try dsimp only) <;> first | omega | assumption
          · (try dsimp only) <;> first | omega | assumption
set_option maxRecDepth 4000 in
set_option maxHeartbeats 8000000 in
theorem s_MO_doLine_179 {n : Nat} {L : Int32} (hn : 8589934592 ≤ n) {s0 : Int32} {t : mz_St}  (ci : HI L t) (i0 : (((mz_gI t 0 34).toInt ≤ 1 ∧ (mz_gI t 0 48).toInt ≤ 0) ∨ (2 ≤ (mz_gI t 0 34).toInt ∧ (mz_gI t 0 48).toInt ≤ 2390 + 310 * (mz_gI t 0 34).toInt))) (i1 : (((mz_gI t 0 34).toInt ≤ 1 ∧ (mz_gI t 0 51).toInt ≤ 0) ∨ (2 ≤ (mz_gI t 0 34).toInt ∧ (mz_gI t 0 51).toInt ≤ 3310 * (mz_gI t 0 34).toInt - 610))) (i2 : 1 ≤ (mz_gI t 0 34).toInt) (i3 : (¬ (mz_gI t 0 34).toInt = 1 ∨ (mz_gI t 0 60).toInt ≤ 3000)) (i4 : ((mz_gI t 0 34).toInt ≤ 1 ∨ (mz_gI t 0 60).toInt ≤ 300)) (i5 : s0.toInt ≤ 15) : Tp (f_MO_doLine_179 n s0 t) (fun r => HI L r ∧ (0 < (mz_gI r 0 6).toInt ∨ (((mz_gI r 0 34).toInt ≤ 1 ∧ (mz_gI r 0 48).toInt ≤ 0) ∨ (2 ≤ (mz_gI r 0 34).toInt ∧ (mz_gI r 0 48).toInt ≤ 2390 + 310 * (mz_gI r 0 34).toInt))) ∧ (0 < (mz_gI r 0 6).toInt ∨ (((mz_gI r 0 34).toInt ≤ 1 ∧ (mz_gI r 0 51).toInt ≤ 0) ∨ (2 ≤ (mz_gI r 0 34).toInt ∧ (mz_gI r 0 51).toInt ≤ 3310 * (mz_gI r 0 34).toInt - 610))) ∧ (0 < (mz_gI r 0 6).toInt ∨ (mz_gI t 0 8).toInt ≤ (mz_gI r 0 8).toInt)) := by
  unfold f_MO_doLine_179
  have b2398 := FX_0_34 (HI_FX ci)
  have b2399 := FX_0_48 (HI_FX ci)
  have b2400 := FX_0_51 (HI_FX ci)
  have b2401 := HI_g23 ci (c := 0) (p := 60) rfl
  have b2402 := FX_0_8 (HI_FX ci)
  refine Tp_if (fun h2403 => ?_) (fun h2403 => ?_)
  · have g2404 := ti_l h2403
    have i2405 := ti_rg s0
    have l2406 : (0 : Int32).toInt = 0 := rfl
    unfold f_MO_doLine_190
    refine Tp_bi (s_MO_goOut hn (HI_MI ci)  (t := t)) (fun q2407 h2408 => ?_)
    have mi2410 := h2408
    have ci2409 := HI_tr ci mi2410
    refine Tp_so ?_
    have b2411 := HI_g29 ci2409 (c := 0) (p := 6) rfl
    have b2412 := HI_g29 ci (c := 0) (p := 6) rfl
    have b2413 := FX_0_8 (HI_FX ci2409)
    have e2414 : (mz_gI q2407 0 8).toInt = (mz_gI t 0 8).toInt := MI_13 mi2410 rfl
    have b2415 := FX_0_34 (HI_FX ci2409)
    have e2416 : (mz_gI q2407 0 34).toInt = (mz_gI t 0 34).toInt := MI_13 mi2410 rfl
    have b2417 := FX_0_48 (HI_FX ci2409)
    have e2418 : (mz_gI q2407 0 48).toInt = (mz_gI t 0 48).toInt := MI_13 mi2410 rfl
    have b2419 := FX_0_51 (HI_FX ci2409)
    have e2420 : (mz_gI q2407 0 51).toInt = (mz_gI t 0 51).toInt := MI_13 mi2410 rfl
    refine ⟨ci2409, ?_, ?_, ?_⟩
    · (try dsimp only) <;> first | omega | assumption
    · (try dsimp only) <;> first | omega | assumption
    · (try dsimp only) <;> first | omega | assumption
  · have g2421 := ti_nl h2403
    have i2422 := ti_rg s0
    have l2423 : (0 : Int32).toInt = 0 := rfl
    refine Tp_bi (s_MO_call hn ci (by omega) (by omega) (by omega) (by omega) (by omega) (by omega) (by omega) (t := t) (x1 := s0)) (fun q2424 h2425 => ?_)
    obtain ⟨ci2426, p2427, p2428, p2429⟩ := h2425
    have b2430 := HI_g29 ci2426 (c := 0) (p := 6) rfl
    have b2431 := HI_g29 ci (c := 0) (p := 6) rfl
    have b2432 := FX_0_8 (HI_FX ci2426)
    have b2433 := FX_0_34 (HI_FX ci2426)
    have b2434 := FX_0_48 (HI_FX ci2426)
    have b2435 := FX_0_51 (HI_FX ci2426)
    refine Tp_so ?_
    refine ⟨ci2426, ?_, ?_, ?_⟩
    · (try dsimp only) <;> first | omega | assumption
    · (try dsimp only) <;> first | omega | assumption
    · (try dsimp only) <;> first | omega | assumption
set_option maxRecDepth 4000 in
set_option maxHeartbeats 8000000 in
theorem s_MO_doLine {n : Nat} {L : Int32} (hn : 8589934592 ≤ n) {x1 : Int32} {t : mz_St}  (ci : HI L t) (i0 : (((mz_gI t 0 34).toInt ≤ 1 ∧ (mz_gI t 0 48).toInt ≤ 0) ∨ (2 ≤ (mz_gI t 0 34).toInt ∧ (mz_gI t 0 48).toInt ≤ 2390 + 310 * (mz_gI t 0 34).toInt))) (i1 : (((mz_gI t 0 34).toInt ≤ 1 ∧ (mz_gI t 0 51).toInt ≤ 0) ∨ (2 ≤ (mz_gI t 0 34).toInt ∧ (mz_gI t 0 51).toInt ≤ 3310 * (mz_gI t 0 34).toInt - 610))) (i2 : 1 ≤ (mz_gI t 0 34).toInt) (i3 : 0 ≤ x1.toInt) (i4 : x1.toInt ≤ 3000) : Tp (f_MO_doLine n x1 t) (fun r => HI L r ∧ (0 < (mz_gI r 0 6).toInt ∨ (((mz_gI r 0 34).toInt ≤ 1 ∧ (mz_gI r 0 48).toInt ≤ 0) ∨ (2 ≤ (mz_gI r 0 34).toInt ∧ (mz_gI r 0 48).toInt ≤ 2390 + 310 * (mz_gI r 0 34).toInt))) ∧ (0 < (mz_gI r 0 6).toInt ∨ (((mz_gI r 0 34).toInt ≤ 1 ∧ (mz_gI r 0 51).toInt ≤ 0) ∨ (2 ≤ (mz_gI r 0 34).toInt ∧ (mz_gI r 0 51).toInt ≤ 3310 * (mz_gI r 0 34).toInt - 610))) ∧ (0 < (mz_gI r 0 6).toInt ∨ (mz_gI t 0 8).toInt ≤ (mz_gI r 0 8).toInt)) := by
  unfold f_MO_doLine
  have b2436 := FX_0_34 (HI_FX ci)
  have b2437 := FX_0_48 (HI_FX ci)
  have b2438 := FX_0_51 (HI_FX ci)
  have b2439 := FX_0_8 (HI_FX ci)
  have i2442 := ti_rg x1
  have b2443 := FX_3 (HI_FX ci) x1.toNatClampNeg
  have b2444 := FX_l (HI_FX ci) x1.toNatClampNeg
  have b2445 := FX_2 (HI_FX ci) x1.toNatClampNeg
  refine Tp_bi (s_MO_takeLine hn (HI_MI ci) (by omega) (by omega) (t := t) (x1 := x1)) (fun q2440 h2441 => ?_)
  obtain ⟨mi2450, p2447, p2448, p2449⟩ := h2441
  have ci2446 := HI_tr ci mi2450
  have b2451 := HI_g23 ci2446 (c := 0) (p := 60) rfl
  have b2452 := HI_g23 ci (c := 0) (p := 60) rfl
  refine Tp_if (fun h2453 => ?_) (fun h2453 => ?_)
  · have g2454 := ti_e h2453
    have i2455 := ti_rg q2440.1
    have l2456 : (0 : Int32).toInt = 0 := rfl
    refine Tp_bi (s_MO_beginLine hn (HI_MI ci2446)  (t := q2440.2)) (fun q2457 h2458 => ?_)
    obtain ⟨mi2463, p2460, p2461, p2462⟩ := h2458
    have ci2459 := HI_tr ci2446 mi2463
    have b2464 := HI_g23 ci2459 (c := 0) (p := 60) rfl
    have b2465 := HI_g24 ci2459 (c := 0) (p := 61) rfl
    have b2466 := HI_g24 ci2446 (c := 0) (p := 61) rfl
    have b2467 := HI_g2 ci2459 (c := 0) (p := 62) rfl
    have b2468 := HI_g2 ci2446 (c := 0) (p := 62) rfl
    refine Tp_if (fun h2469 => ?_) (fun h2469 => ?_)
    · have g2470 := ti_q h2469
      refine Tp_so ?_
      have b2471 := HI_g29 ci2459 (c := 0) (p := 6) rfl
      have b2472 := HI_g29 ci (c := 0) (p := 6) rfl
      have b2473 := FX_0_8 (HI_FX ci2459)
      have e2474 : (mz_gI q2457 0 8).toInt = (mz_gI q2440.2 0 8).toInt := MI_13 mi2463 rfl
      have b2475 := FX_0_8 (HI_FX ci2446)
      have e2476 : (mz_gI q2440.2 0 8).toInt = (mz_gI t 0 8).toInt := MI_13 mi2450 rfl
      have b2477 := FX_0_34 (HI_FX ci2459)
      have e2478 : (mz_gI q2457 0 34).toInt = (mz_gI q2440.2 0 34).toInt := MI_13 mi2463 rfl
      have b2479 := FX_0_34 (HI_FX ci2446)
      have e2480 : (mz_gI q2440.2 0 34).toInt = (mz_gI t 0 34).toInt := MI_13 mi2450 rfl
      have b2481 := FX_0_48 (HI_FX ci2459)
      have e2482 : (mz_gI q2457 0 48).toInt = (mz_gI q2440.2 0 48).toInt := MI_13 mi2463 rfl
      have b2483 := FX_0_48 (HI_FX ci2446)
      have e2484 : (mz_gI q2440.2 0 48).toInt = (mz_gI t 0 48).toInt := MI_13 mi2450 rfl
      have b2485 := FX_0_51 (HI_FX ci2459)
      have e2486 : (mz_gI q2457 0 51).toInt = (mz_gI q2440.2 0 51).toInt := MI_13 mi2463 rfl
      have b2487 := FX_0_51 (HI_FX ci2446)
      have e2488 : (mz_gI q2440.2 0 51).toInt = (mz_gI t 0 51).toInt := MI_13 mi2450 rfl
      refine ⟨ci2459, ?_, ?_, ?_⟩
      · (try dsimp only) <;> first | omega | assumption
      · (try dsimp only) <;> first | omega | assumption
      · (try dsimp only) <;> first | omega | assumption
    · have g2489 := ti_nq h2469
      have l2490 : ((0 : Int32)).toInt = 0 := rfl
      refine Tp_gd (ti_ix (by omega) (by omega)) ?_
      refine Tp_if (fun h2491 => ?_) (fun h2491 => ?_)
      · have g2492 := ti_q h2491
        have i2493 := ti_rg (mz_gI q2457 43 (0 : Int32).toNatClampNeg)
        have l2494 : ((46 : Int32)).toInt = 46 := rfl
        have l2497 : ((1 : Int32)).toInt = 1 := rfl
        refine Tp_le (fun t2495 E2496 => ?_)
        have l2499 : (61 : Int32).toInt = 61 := rfl
        have ci2498 := HI_p24 ci2459 E2496 rfl (by omega) (by omega)
        refine Tp_bi (s_MO_here hn (HI_MI ci2498)  (t := t2495)) (fun q2500 h2501 => ?_)
        obtain ⟨mi2505, E2503, p2504⟩ := h2501
        have ci2502 := HI_tr ci2498 mi2505
        have b2506 := HI_g24 ci2498 (c := 0) (p := 61) rfl
        have e2507 : (mz_gI t2495 0 61).toInt = ((1 : Int32)).toInt := by rw [E2496, gI_same]
        have b2508 := HI_g23 ci2498 (c := 0) (p := 60) rfl
        have e2509 : (mz_gI t2495 0 60).toInt = (mz_gI q2457 0 60).toInt := by rw [E2496, gI_oth _ _ (by simp)]
        try rw [E2503]
        have i2512 := ti_rg q2500.1
        refine Tp_bi (s_MO_isBegin hn (HI_MI ci2498)  (t := t2495) (x0 := q2500.1)) (fun q2510 h2511 => ?_)
        obtain ⟨mi2518, E2514, p2515, p2516, p2517⟩ := h2511
        have ci2513 := HI_tr ci2498 mi2518
        try rw [E2514]
        have i2519 := ti_rg q2510.1
        refine Tp_gd (ti_b (by omega) (by omega)) ?_
        refine Tp_le (fun t2520 E2521 => ?_)
        have l2523 : (62 : Int32).toInt = 62 := rfl
        have ci2522 := HI_p2 ci2498 E2521 rfl (by omega) (by omega)
        refine Tp_bi (s_MO_word hn (HI_MI ci2522)  (t := t2520)) (fun q2524 h2525 => ?_)
        obtain ⟨mi2532, p2527, p2528, p2529, p2530, p2531⟩ := h2525
        have ci2526 := HI_tr ci2522 mi2532
        have b2533 := HI_g23 ci2522 (c := 0) (p := 60) rfl
        have e2534 : (mz_gI t2520 0 60).toInt = (mz_gI t2495 0 60).toInt := by rw [E2521, gI_oth _ _ (by simp)]
        have b2535 := HI_g24 ci2522 (c := 0) (p := 61) rfl
        have e2536 : (mz_gI t2520 0 61).toInt = (mz_gI t2495 0 61).toInt := by rw [E2521, gI_oth _ _ (by simp)]
        have b2537 := HI_g23 ci2526 (c := 0) (p := 60) rfl
        have b2538 := HI_g24 ci2526 (c := 0) (p := 61) rfl
        have b2539 := HI_g2 ci2526 (c := 0) (p := 62) rfl
        have b2540 := HI_g2 ci2522 (c := 0) (p := 62) rfl
        have e2541 : (mz_gI t2520 0 62).toInt = (q2510.1).toInt := by rw [E2521, gI_same]
        refine Tp_if (fun h2542 => ?_) (fun h2542 => ?_)
        · have g2543 := ti_q h2542
          unfold f_MO_doLine_89
          have b2544 := FX_0_34 (HI_FX ci2526)
          have e2545 : (mz_gI q2524 0 34).toInt = (mz_gI t2520 0 34).toInt := MI_13 mi2532 rfl
          have b2546 := FX_0_34 (HI_FX ci2522)
          have e2547 : (mz_gI t2520 0 34).toInt = (mz_gI t2495 0 34).toInt := by rw [E2521, gI_oth _ _ (by simp)]
          have b2548 := FX_0_34 (HI_FX ci2498)
          have e2549 : (mz_gI t2495 0 34).toInt = (mz_gI q2457 0 34).toInt := by rw [E2496, gI_oth _ _ (by simp)]
          have b2550 := FX_0_34 (HI_FX ci2459)
          have e2551 : (mz_gI q2457 0 34).toInt = (mz_gI q2440.2 0 34).toInt := MI_13 mi2463 rfl
          have b2552 := FX_0_34 (HI_FX ci2446)
          have e2553 : (mz_gI q2440.2 0 34).toInt = (mz_gI t 0 34).toInt := MI_13 mi2450 rfl
          have b2554 := FX_0_48 (HI_FX ci2526)
          have e2555 : (mz_gI q2524 0 48).toInt = (mz_gI t2520 0 48).toInt := MI_13 mi2532 rfl
          have b2556 := FX_0_48 (HI_FX ci2522)
          have e2557 : (mz_gI t2520 0 48).toInt = (mz_gI t2495 0 48).toInt := by rw [E2521, gI_oth _ _ (by simp)]
          have b2558 := FX_0_48 (HI_FX ci2498)
          have e2559 : (mz_gI t2495 0 48).toInt = (mz_gI q2457 0 48).toInt := by rw [E2496, gI_oth _ _ (by simp)]
          have b2560 := FX_0_48 (HI_FX ci2459)
          have e2561 : (mz_gI q2457 0 48).toInt = (mz_gI q2440.2 0 48).toInt := MI_13 mi2463 rfl
          have b2562 := FX_0_48 (HI_FX ci2446)
          have e2563 : (mz_gI q2440.2 0 48).toInt = (mz_gI t 0 48).toInt := MI_13 mi2450 rfl
          have b2564 := FX_0_51 (HI_FX ci2526)
          have e2565 : (mz_gI q2524 0 51).toInt = (mz_gI t2520 0 51).toInt := MI_13 mi2532 rfl
          have b2566 := FX_0_51 (HI_FX ci2522)
          have e2567 : (mz_gI t2520 0 51).toInt = (mz_gI t2495 0 51).toInt := by rw [E2521, gI_oth _ _ (by simp)]
          have b2568 := FX_0_51 (HI_FX ci2498)
          have e2569 : (mz_gI t2495 0 51).toInt = (mz_gI q2457 0 51).toInt := by rw [E2496, gI_oth _ _ (by simp)]
          have b2570 := FX_0_51 (HI_FX ci2459)
          have e2571 : (mz_gI q2457 0 51).toInt = (mz_gI q2440.2 0 51).toInt := MI_13 mi2463 rfl
          have b2572 := FX_0_51 (HI_FX ci2446)
          have e2573 : (mz_gI q2440.2 0 51).toInt = (mz_gI t 0 51).toInt := MI_13 mi2450 rfl
          have b2574 := FX_3 (HI_FX ci2526) x1.toNatClampNeg
          have b2575 := FX_l (HI_FX ci2526) x1.toNatClampNeg
          have e2576 : (mz_gI q2524 3 x1.toNatClampNeg).toInt = (mz_gI t2520 3 x1.toNatClampNeg).toInt := MI_13 mi2532 rfl
          have b2577 := FX_3 (HI_FX ci2522) x1.toNatClampNeg
          have b2578 := FX_l (HI_FX ci2522) x1.toNatClampNeg
          have e2579 : (mz_gI t2520 3 x1.toNatClampNeg).toInt = (mz_gI t2495 3 x1.toNatClampNeg).toInt := by rw [E2521, gI_oth _ _ (by simp)]
          have b2580 := FX_3 (HI_FX ci2498) x1.toNatClampNeg
          have b2581 := FX_l (HI_FX ci2498) x1.toNatClampNeg
          have e2582 : (mz_gI t2495 3 x1.toNatClampNeg).toInt = (mz_gI q2457 3 x1.toNatClampNeg).toInt := by rw [E2496, gI_oth _ _ (by simp)]
          have b2583 := FX_3 (HI_FX ci2459) x1.toNatClampNeg
          have b2584 := FX_l (HI_FX ci2459) x1.toNatClampNeg
          have e2585 : (mz_gI q2457 3 x1.toNatClampNeg).toInt = (mz_gI q2440.2 3 x1.toNatClampNeg).toInt := MI_13 mi2463 rfl
          have b2586 := FX_3 (HI_FX ci2446) x1.toNatClampNeg
          have b2587 := FX_l (HI_FX ci2446) x1.toNatClampNeg
          have e2588 : (mz_gI q2440.2 3 x1.toNatClampNeg).toInt = (mz_gI t 3 x1.toNatClampNeg).toInt := MI_13 mi2450 rfl
          have b2589 := FX_2 (HI_FX ci2526) x1.toNatClampNeg
          have e2590 : (mz_gI q2524 2 x1.toNatClampNeg).toInt = (mz_gI t2520 2 x1.toNatClampNeg).toInt := MI_13 mi2532 rfl
          have b2591 := FX_2 (HI_FX ci2522) x1.toNatClampNeg
          have e2592 : (mz_gI t2520 2 x1.toNatClampNeg).toInt = (mz_gI t2495 2 x1.toNatClampNeg).toInt := by rw [E2521, gI_oth _ _ (by simp)]
          have b2593 := FX_2 (HI_FX ci2498) x1.toNatClampNeg
          have e2594 : (mz_gI t2495 2 x1.toNatClampNeg).toInt = (mz_gI q2457 2 x1.toNatClampNeg).toInt := by rw [E2496, gI_oth _ _ (by simp)]
          have b2595 := FX_2 (HI_FX ci2459) x1.toNatClampNeg
          have e2596 : (mz_gI q2457 2 x1.toNatClampNeg).toInt = (mz_gI q2440.2 2 x1.toNatClampNeg).toInt := MI_13 mi2463 rfl
          have b2597 := FX_2 (HI_FX ci2446) x1.toNatClampNeg
          have e2598 : (mz_gI q2440.2 2 x1.toNatClampNeg).toInt = (mz_gI t 2 x1.toNatClampNeg).toInt := MI_13 mi2450 rfl
          refine Tp_mo (s_MO_doLine_90 hn ci2526 (by omega) (by omega) (by omega) (by omega) (by omega) (by omega) (by omega) (by omega) (by omega) (t := q2524) (x1 := x1) (s0 := (0 : Int32))) (fun q2599 h2600 => ?_)
          obtain ⟨ci2601, p2602, p2603, p2604⟩ := h2600
          have b2605 := FX_0_8 (HI_FX ci2526)
          have e2606 : (mz_gI q2524 0 8).toInt = (mz_gI t2520 0 8).toInt := MI_13 mi2532 rfl
          have b2607 := FX_0_8 (HI_FX ci2522)
          have e2608 : (mz_gI t2520 0 8).toInt = (mz_gI t2495 0 8).toInt := by rw [E2521, gI_oth _ _ (by simp)]
          have b2609 := FX_0_8 (HI_FX ci2498)
          have e2610 : (mz_gI t2495 0 8).toInt = (mz_gI q2457 0 8).toInt := by rw [E2496, gI_oth _ _ (by simp)]
          have b2611 := FX_0_8 (HI_FX ci2459)
          have e2612 : (mz_gI q2457 0 8).toInt = (mz_gI q2440.2 0 8).toInt := MI_13 mi2463 rfl
          have b2613 := FX_0_8 (HI_FX ci2446)
          have e2614 : (mz_gI q2440.2 0 8).toInt = (mz_gI t 0 8).toInt := MI_13 mi2450 rfl
          have b2615 := HI_g29 ci2601 (c := 0) (p := 6) rfl
          have b2616 := HI_g29 ci2526 (c := 0) (p := 6) rfl
          have b2617 := FX_0_8 (HI_FX ci2601)
          have b2618 := FX_0_34 (HI_FX ci2601)
          have b2619 := FX_0_48 (HI_FX ci2601)
          have b2620 := FX_0_51 (HI_FX ci2601)
          have b2621 := HI_g29 ci (c := 0) (p := 6) rfl
          refine ⟨ci2601, ?_, ?_, ?_⟩
          · (try dsimp only) <;> first | omega | assumption
          · (try dsimp only) <;> first | omega | assumption
          · (try dsimp only) <;> first | omega | assumption
        · have g2622 := ti_nq h2542
          refine Tp_if (fun h2623 => ?_) (fun h2623 => ?_)
          · skip
            refine Tp_bi (s_MO_directiveOf hn (HI_MI ci2526)  (t := q2524) (x0 := mz_gL q2524 0 65)) (fun q2624 h2625 => ?_)
            obtain ⟨mi2630, E2627, p2628, p2629⟩ := h2625
            have ci2626 := HI_tr ci2526 mi2630
            try rw [E2627]
            have i2631 := ti_rg q2624.1
            have b2632 := FX_0_34 (HI_FX ci2526)
            have e2633 : (mz_gI q2524 0 34).toInt = (mz_gI t2520 0 34).toInt := MI_13 mi2532 rfl
            have b2634 := FX_0_34 (HI_FX ci2522)
            have e2635 : (mz_gI t2520 0 34).toInt = (mz_gI t2495 0 34).toInt := by rw [E2521, gI_oth _ _ (by simp)]
            have b2636 := FX_0_34 (HI_FX ci2498)
            have e2637 : (mz_gI t2495 0 34).toInt = (mz_gI q2457 0 34).toInt := by rw [E2496, gI_oth _ _ (by simp)]
            have b2638 := FX_0_34 (HI_FX ci2459)
            have e2639 : (mz_gI q2457 0 34).toInt = (mz_gI q2440.2 0 34).toInt := MI_13 mi2463 rfl
            have b2640 := FX_0_34 (HI_FX ci2446)
            have e2641 : (mz_gI q2440.2 0 34).toInt = (mz_gI t 0 34).toInt := MI_13 mi2450 rfl
            have b2642 := FX_0_48 (HI_FX ci2526)
            have e2643 : (mz_gI q2524 0 48).toInt = (mz_gI t2520 0 48).toInt := MI_13 mi2532 rfl
            have b2644 := FX_0_48 (HI_FX ci2522)
            have e2645 : (mz_gI t2520 0 48).toInt = (mz_gI t2495 0 48).toInt := by rw [E2521, gI_oth _ _ (by simp)]
            have b2646 := FX_0_48 (HI_FX ci2498)
            have e2647 : (mz_gI t2495 0 48).toInt = (mz_gI q2457 0 48).toInt := by rw [E2496, gI_oth _ _ (by simp)]
            have b2648 := FX_0_48 (HI_FX ci2459)
            have e2649 : (mz_gI q2457 0 48).toInt = (mz_gI q2440.2 0 48).toInt := MI_13 mi2463 rfl
            have b2650 := FX_0_48 (HI_FX ci2446)
            have e2651 : (mz_gI q2440.2 0 48).toInt = (mz_gI t 0 48).toInt := MI_13 mi2450 rfl
            have b2652 := FX_0_51 (HI_FX ci2526)
            have e2653 : (mz_gI q2524 0 51).toInt = (mz_gI t2520 0 51).toInt := MI_13 mi2532 rfl
            have b2654 := FX_0_51 (HI_FX ci2522)
            have e2655 : (mz_gI t2520 0 51).toInt = (mz_gI t2495 0 51).toInt := by rw [E2521, gI_oth _ _ (by simp)]
            have b2656 := FX_0_51 (HI_FX ci2498)
            have e2657 : (mz_gI t2495 0 51).toInt = (mz_gI q2457 0 51).toInt := by rw [E2496, gI_oth _ _ (by simp)]
            have b2658 := FX_0_51 (HI_FX ci2459)
            have e2659 : (mz_gI q2457 0 51).toInt = (mz_gI q2440.2 0 51).toInt := MI_13 mi2463 rfl
            have b2660 := FX_0_51 (HI_FX ci2446)
            have e2661 : (mz_gI q2440.2 0 51).toInt = (mz_gI t 0 51).toInt := MI_13 mi2450 rfl
            have b2662 := FX_3 (HI_FX ci2526) x1.toNatClampNeg
            have b2663 := FX_l (HI_FX ci2526) x1.toNatClampNeg
            have e2664 : (mz_gI q2524 3 x1.toNatClampNeg).toInt = (mz_gI t2520 3 x1.toNatClampNeg).toInt := MI_13 mi2532 rfl
            have b2665 := FX_3 (HI_FX ci2522) x1.toNatClampNeg
            have b2666 := FX_l (HI_FX ci2522) x1.toNatClampNeg
            have e2667 : (mz_gI t2520 3 x1.toNatClampNeg).toInt = (mz_gI t2495 3 x1.toNatClampNeg).toInt := by rw [E2521, gI_oth _ _ (by simp)]
            have b2668 := FX_3 (HI_FX ci2498) x1.toNatClampNeg
            have b2669 := FX_l (HI_FX ci2498) x1.toNatClampNeg
            have e2670 : (mz_gI t2495 3 x1.toNatClampNeg).toInt = (mz_gI q2457 3 x1.toNatClampNeg).toInt := by rw [E2496, gI_oth _ _ (by simp)]
            have b2671 := FX_3 (HI_FX ci2459) x1.toNatClampNeg
            have b2672 := FX_l (HI_FX ci2459) x1.toNatClampNeg
            have e2673 : (mz_gI q2457 3 x1.toNatClampNeg).toInt = (mz_gI q2440.2 3 x1.toNatClampNeg).toInt := MI_13 mi2463 rfl
            have b2674 := FX_3 (HI_FX ci2446) x1.toNatClampNeg
            have b2675 := FX_l (HI_FX ci2446) x1.toNatClampNeg
            have e2676 : (mz_gI q2440.2 3 x1.toNatClampNeg).toInt = (mz_gI t 3 x1.toNatClampNeg).toInt := MI_13 mi2450 rfl
            have b2677 := FX_2 (HI_FX ci2526) x1.toNatClampNeg
            have e2678 : (mz_gI q2524 2 x1.toNatClampNeg).toInt = (mz_gI t2520 2 x1.toNatClampNeg).toInt := MI_13 mi2532 rfl
            have b2679 := FX_2 (HI_FX ci2522) x1.toNatClampNeg
            have e2680 : (mz_gI t2520 2 x1.toNatClampNeg).toInt = (mz_gI t2495 2 x1.toNatClampNeg).toInt := by rw [E2521, gI_oth _ _ (by simp)]
            have b2681 := FX_2 (HI_FX ci2498) x1.toNatClampNeg
            have e2682 : (mz_gI t2495 2 x1.toNatClampNeg).toInt = (mz_gI q2457 2 x1.toNatClampNeg).toInt := by rw [E2496, gI_oth _ _ (by simp)]
            have b2683 := FX_2 (HI_FX ci2459) x1.toNatClampNeg
            have e2684 : (mz_gI q2457 2 x1.toNatClampNeg).toInt = (mz_gI q2440.2 2 x1.toNatClampNeg).toInt := MI_13 mi2463 rfl
            have b2685 := FX_2 (HI_FX ci2446) x1.toNatClampNeg
            have e2686 : (mz_gI q2440.2 2 x1.toNatClampNeg).toInt = (mz_gI t 2 x1.toNatClampNeg).toInt := MI_13 mi2450 rfl
            refine Tp_mo (s_MO_doLine_90 hn ci2526 (by omega) (by omega) (by omega) (by omega) (by omega) (by omega) (by omega) (by omega) (by omega) (t := q2524) (x1 := x1) (s0 := q2624.1)) (fun q2687 h2688 => ?_)
            obtain ⟨ci2689, p2690, p2691, p2692⟩ := h2688
            have b2693 := FX_0_8 (HI_FX ci2526)
            have e2694 : (mz_gI q2524 0 8).toInt = (mz_gI t2520 0 8).toInt := MI_13 mi2532 rfl
            have b2695 := FX_0_8 (HI_FX ci2522)
            have e2696 : (mz_gI t2520 0 8).toInt = (mz_gI t2495 0 8).toInt := by rw [E2521, gI_oth _ _ (by simp)]
            have b2697 := FX_0_8 (HI_FX ci2498)
            have e2698 : (mz_gI t2495 0 8).toInt = (mz_gI q2457 0 8).toInt := by rw [E2496, gI_oth _ _ (by simp)]
            have b2699 := FX_0_8 (HI_FX ci2459)
            have e2700 : (mz_gI q2457 0 8).toInt = (mz_gI q2440.2 0 8).toInt := MI_13 mi2463 rfl
            have b2701 := FX_0_8 (HI_FX ci2446)
            have e2702 : (mz_gI q2440.2 0 8).toInt = (mz_gI t 0 8).toInt := MI_13 mi2450 rfl
            have b2703 := HI_g29 ci2689 (c := 0) (p := 6) rfl
            have b2704 := HI_g29 ci2526 (c := 0) (p := 6) rfl
            have b2705 := FX_0_8 (HI_FX ci2689)
            have b2706 := FX_0_34 (HI_FX ci2689)
            have b2707 := FX_0_48 (HI_FX ci2689)
            have b2708 := FX_0_51 (HI_FX ci2689)
            have b2709 := HI_g29 ci (c := 0) (p := 6) rfl
            refine ⟨ci2689, ?_, ?_, ?_⟩
            · (try dsimp only) <;> first | omega | assumption
            · (try dsimp only) <;> first | omega | assumption
            · (try dsimp only) <;> first | omega | assumption
          · skip
            unfold f_MO_doLine_89
            have b2710 := FX_0_34 (HI_FX ci2526)
            have e2711 : (mz_gI q2524 0 34).toInt = (mz_gI t2520 0 34).toInt := MI_13 mi2532 rfl
            have b2712 := FX_0_34 (HI_FX ci2522)
            have e2713 : (mz_gI t2520 0 34).toInt = (mz_gI t2495 0 34).toInt := by rw [E2521, gI_oth _ _ (by simp)]
            have b2714 := FX_0_34 (HI_FX ci2498)
            have e2715 : (mz_gI t2495 0 34).toInt = (mz_gI q2457 0 34).toInt := by rw [E2496, gI_oth _ _ (by simp)]
            have b2716 := FX_0_34 (HI_FX ci2459)
            have e2717 : (mz_gI q2457 0 34).toInt = (mz_gI q2440.2 0 34).toInt := MI_13 mi2463 rfl
            have b2718 := FX_0_34 (HI_FX ci2446)
            have e2719 : (mz_gI q2440.2 0 34).toInt = (mz_gI t 0 34).toInt := MI_13 mi2450 rfl
            have b2720 := FX_0_48 (HI_FX ci2526)
            have e2721 : (mz_gI q2524 0 48).toInt = (mz_gI t2520 0 48).toInt := MI_13 mi2532 rfl
            have b2722 := FX_0_48 (HI_FX ci2522)
            have e2723 : (mz_gI t2520 0 48).toInt = (mz_gI t2495 0 48).toInt := by rw [E2521, gI_oth _ _ (by simp)]
            have b2724 := FX_0_48 (HI_FX ci2498)
            have e2725 : (mz_gI t2495 0 48).toInt = (mz_gI q2457 0 48).toInt := by rw [E2496, gI_oth _ _ (by simp)]
            have b2726 := FX_0_48 (HI_FX ci2459)
            have e2727 : (mz_gI q2457 0 48).toInt = (mz_gI q2440.2 0 48).toInt := MI_13 mi2463 rfl
            have b2728 := FX_0_48 (HI_FX ci2446)
            have e2729 : (mz_gI q2440.2 0 48).toInt = (mz_gI t 0 48).toInt := MI_13 mi2450 rfl
            have b2730 := FX_0_51 (HI_FX ci2526)
            have e2731 : (mz_gI q2524 0 51).toInt = (mz_gI t2520 0 51).toInt := MI_13 mi2532 rfl
            have b2732 := FX_0_51 (HI_FX ci2522)
            have e2733 : (mz_gI t2520 0 51).toInt = (mz_gI t2495 0 51).toInt := by rw [E2521, gI_oth _ _ (by simp)]
            have b2734 := FX_0_51 (HI_FX ci2498)
            have e2735 : (mz_gI t2495 0 51).toInt = (mz_gI q2457 0 51).toInt := by rw [E2496, gI_oth _ _ (by simp)]
            have b2736 := FX_0_51 (HI_FX ci2459)
            have e2737 : (mz_gI q2457 0 51).toInt = (mz_gI q2440.2 0 51).toInt := MI_13 mi2463 rfl
            have b2738 := FX_0_51 (HI_FX ci2446)
            have e2739 : (mz_gI q2440.2 0 51).toInt = (mz_gI t 0 51).toInt := MI_13 mi2450 rfl
            have b2740 := FX_3 (HI_FX ci2526) x1.toNatClampNeg
            have b2741 := FX_l (HI_FX ci2526) x1.toNatClampNeg
            have e2742 : (mz_gI q2524 3 x1.toNatClampNeg).toInt = (mz_gI t2520 3 x1.toNatClampNeg).toInt := MI_13 mi2532 rfl
            have b2743 := FX_3 (HI_FX ci2522) x1.toNatClampNeg
            have b2744 := FX_l (HI_FX ci2522) x1.toNatClampNeg
            have e2745 : (mz_gI t2520 3 x1.toNatClampNeg).toInt = (mz_gI t2495 3 x1.toNatClampNeg).toInt := by rw [E2521, gI_oth _ _ (by simp)]
            have b2746 := FX_3 (HI_FX ci2498) x1.toNatClampNeg
            have b2747 := FX_l (HI_FX ci2498) x1.toNatClampNeg
            have e2748 : (mz_gI t2495 3 x1.toNatClampNeg).toInt = (mz_gI q2457 3 x1.toNatClampNeg).toInt := by rw [E2496, gI_oth _ _ (by simp)]
            have b2749 := FX_3 (HI_FX ci2459) x1.toNatClampNeg
            have b2750 := FX_l (HI_FX ci2459) x1.toNatClampNeg
            have e2751 : (mz_gI q2457 3 x1.toNatClampNeg).toInt = (mz_gI q2440.2 3 x1.toNatClampNeg).toInt := MI_13 mi2463 rfl
            have b2752 := FX_3 (HI_FX ci2446) x1.toNatClampNeg
            have b2753 := FX_l (HI_FX ci2446) x1.toNatClampNeg
            have e2754 : (mz_gI q2440.2 3 x1.toNatClampNeg).toInt = (mz_gI t 3 x1.toNatClampNeg).toInt := MI_13 mi2450 rfl
            have b2755 := FX_2 (HI_FX ci2526) x1.toNatClampNeg
            have e2756 : (mz_gI q2524 2 x1.toNatClampNeg).toInt = (mz_gI t2520 2 x1.toNatClampNeg).toInt := MI_13 mi2532 rfl
            have b2757 := FX_2 (HI_FX ci2522) x1.toNatClampNeg
            have e2758 : (mz_gI t2520 2 x1.toNatClampNeg).toInt = (mz_gI t2495 2 x1.toNatClampNeg).toInt := by rw [E2521, gI_oth _ _ (by simp)]
            have b2759 := FX_2 (HI_FX ci2498) x1.toNatClampNeg
            have e2760 : (mz_gI t2495 2 x1.toNatClampNeg).toInt = (mz_gI q2457 2 x1.toNatClampNeg).toInt := by rw [E2496, gI_oth _ _ (by simp)]
            have b2761 := FX_2 (HI_FX ci2459) x1.toNatClampNeg
            have e2762 : (mz_gI q2457 2 x1.toNatClampNeg).toInt = (mz_gI q2440.2 2 x1.toNatClampNeg).toInt := MI_13 mi2463 rfl
            have b2763 := FX_2 (HI_FX ci2446) x1.toNatClampNeg
            have e2764 : (mz_gI q2440.2 2 x1.toNatClampNeg).toInt = (mz_gI t 2 x1.toNatClampNeg).toInt := MI_13 mi2450 rfl
            refine Tp_mo (s_MO_doLine_90 hn ci2526 (by omega) (by omega) (by omega) (by omega) (by omega) (by omega) (by omega) (by omega) (by omega) (t := q2524) (x1 := x1) (s0 := (0 : Int32))) (fun q2765 h2766 => ?_)
            obtain ⟨ci2767, p2768, p2769, p2770⟩ := h2766
            have b2771 := FX_0_8 (HI_FX ci2526)
            have e2772 : (mz_gI q2524 0 8).toInt = (mz_gI t2520 0 8).toInt := MI_13 mi2532 rfl
            have b2773 := FX_0_8 (HI_FX ci2522)
            have e2774 : (mz_gI t2520 0 8).toInt = (mz_gI t2495 0 8).toInt := by rw [E2521, gI_oth _ _ (by simp)]
            have b2775 := FX_0_8 (HI_FX ci2498)
            have e2776 : (mz_gI t2495 0 8).toInt = (mz_gI q2457 0 8).toInt := by rw [E2496, gI_oth _ _ (by simp)]
            have b2777 := FX_0_8 (HI_FX ci2459)
            have e2778 : (mz_gI q2457 0 8).toInt = (mz_gI q2440.2 0 8).toInt := MI_13 mi2463 rfl
            have b2779 := FX_0_8 (HI_FX ci2446)
            have e2780 : (mz_gI q2440.2 0 8).toInt = (mz_gI t 0 8).toInt := MI_13 mi2450 rfl
            have b2781 := HI_g29 ci2767 (c := 0) (p := 6) rfl
            have b2782 := HI_g29 ci2526 (c := 0) (p := 6) rfl
            have b2783 := FX_0_8 (HI_FX ci2767)
            have b2784 := FX_0_34 (HI_FX ci2767)
            have b2785 := FX_0_48 (HI_FX ci2767)
            have b2786 := FX_0_51 (HI_FX ci2767)
            have b2787 := HI_g29 ci (c := 0) (p := 6) rfl
            refine ⟨ci2767, ?_, ?_, ?_⟩
            · (try dsimp only) <;> first | omega | assumption
            · (try dsimp only) <;> first | omega | assumption
            · (try dsimp only) <;> first | omega | assumption
      · have g2788 := ti_nq h2491
        have i2789 := ti_rg (mz_gI q2457 43 (0 : Int32).toNatClampNeg)
        have l2790 : ((46 : Int32)).toInt = 46 := rfl
        refine Tp_gd (ti_ix (by omega) (by omega)) ?_
        refine Tp_bi (s_MO_isBegin hn (HI_MI ci2459)  (t := q2457) (x0 := mz_gI q2457 43 (0 : Int32).toNatClampNeg)) (fun q2791 h2792 => ?_)
        obtain ⟨mi2798, E2794, p2795, p2796, p2797⟩ := h2792
        have ci2793 := HI_tr ci2459 mi2798
        try rw [E2794]
        refine Tp_if (fun h2799 => ?_) (fun h2799 => ?_)
        · have g2800 := ti_q h2799
          have i2801 := ti_rg q2791.1
          unfold f_MO_doLine_190
          refine Tp_bi (s_MO_goOut hn (HI_MI ci2459)  (t := q2457)) (fun q2802 h2803 => ?_)
          have mi2805 := h2803
          have ci2804 := HI_tr ci2459 mi2805
          refine Tp_so ?_
          have b2806 := HI_g29 ci2804 (c := 0) (p := 6) rfl
          have b2807 := HI_g29 ci (c := 0) (p := 6) rfl
          have b2808 := FX_0_8 (HI_FX ci2804)
          have e2809 : (mz_gI q2802 0 8).toInt = (mz_gI q2457 0 8).toInt := MI_13 mi2805 rfl
          have b2810 := FX_0_8 (HI_FX ci2459)
          have e2811 : (mz_gI q2457 0 8).toInt = (mz_gI q2440.2 0 8).toInt := MI_13 mi2463 rfl
          have b2812 := FX_0_8 (HI_FX ci2446)
          have e2813 : (mz_gI q2440.2 0 8).toInt = (mz_gI t 0 8).toInt := MI_13 mi2450 rfl
          have b2814 := FX_0_34 (HI_FX ci2804)
          have e2815 : (mz_gI q2802 0 34).toInt = (mz_gI q2457 0 34).toInt := MI_13 mi2805 rfl
          have b2816 := FX_0_34 (HI_FX ci2459)
          have e2817 : (mz_gI q2457 0 34).toInt = (mz_gI q2440.2 0 34).toInt := MI_13 mi2463 rfl
          have b2818 := FX_0_34 (HI_FX ci2446)
          have e2819 : (mz_gI q2440.2 0 34).toInt = (mz_gI t 0 34).toInt := MI_13 mi2450 rfl
          have b2820 := FX_0_48 (HI_FX ci2804)
          have e2821 : (mz_gI q2802 0 48).toInt = (mz_gI q2457 0 48).toInt := MI_13 mi2805 rfl
          have b2822 := FX_0_48 (HI_FX ci2459)
          have e2823 : (mz_gI q2457 0 48).toInt = (mz_gI q2440.2 0 48).toInt := MI_13 mi2463 rfl
          have b2824 := FX_0_48 (HI_FX ci2446)
          have e2825 : (mz_gI q2440.2 0 48).toInt = (mz_gI t 0 48).toInt := MI_13 mi2450 rfl
          have b2826 := FX_0_51 (HI_FX ci2804)
          have e2827 : (mz_gI q2802 0 51).toInt = (mz_gI q2457 0 51).toInt := MI_13 mi2805 rfl
          have b2828 := FX_0_51 (HI_FX ci2459)
          have e2829 : (mz_gI q2457 0 51).toInt = (mz_gI q2440.2 0 51).toInt := MI_13 mi2463 rfl
          have b2830 := FX_0_51 (HI_FX ci2446)
          have e2831 : (mz_gI q2440.2 0 51).toInt = (mz_gI t 0 51).toInt := MI_13 mi2450 rfl
          refine ⟨ci2804, ?_, ?_, ?_⟩
          · (try dsimp only) <;> first | omega | assumption
          · (try dsimp only) <;> first | omega | assumption
          · (try dsimp only) <;> first | omega | assumption
        · have g2832 := ti_nq h2799
          have i2833 := ti_rg q2791.1
          refine Tp_bi (s_MO_word hn (HI_MI ci2459)  (t := q2457)) (fun q2834 h2835 => ?_)
          obtain ⟨mi2842, p2837, p2838, p2839, p2840, p2841⟩ := h2835
          have ci2836 := HI_tr ci2459 mi2842
          have b2843 := HI_g23 ci2836 (c := 0) (p := 60) rfl
          have b2844 := HI_g24 ci2836 (c := 0) (p := 61) rfl
          have b2845 := HI_g2 ci2836 (c := 0) (p := 62) rfl
          refine Tp_if (fun h2846 => ?_) (fun h2846 => ?_)
          · have g2847 := ti_q h2846
            have l2848 : ((-1 : Int32)).toInt = -1 := rfl
            have b2849 := FX_0_34 (HI_FX ci2836)
            have e2850 : (mz_gI q2834 0 34).toInt = (mz_gI q2457 0 34).toInt := MI_13 mi2842 rfl
            have b2851 := FX_0_34 (HI_FX ci2459)
            have e2852 : (mz_gI q2457 0 34).toInt = (mz_gI q2440.2 0 34).toInt := MI_13 mi2463 rfl
            have b2853 := FX_0_34 (HI_FX ci2446)
            have e2854 : (mz_gI q2440.2 0 34).toInt = (mz_gI t 0 34).toInt := MI_13 mi2450 rfl
            have b2855 := FX_0_48 (HI_FX ci2836)
            have e2856 : (mz_gI q2834 0 48).toInt = (mz_gI q2457 0 48).toInt := MI_13 mi2842 rfl
            have b2857 := FX_0_48 (HI_FX ci2459)
            have e2858 : (mz_gI q2457 0 48).toInt = (mz_gI q2440.2 0 48).toInt := MI_13 mi2463 rfl
            have b2859 := FX_0_48 (HI_FX ci2446)
            have e2860 : (mz_gI q2440.2 0 48).toInt = (mz_gI t 0 48).toInt := MI_13 mi2450 rfl
            have b2861 := FX_0_51 (HI_FX ci2836)
            have e2862 : (mz_gI q2834 0 51).toInt = (mz_gI q2457 0 51).toInt := MI_13 mi2842 rfl
            have b2863 := FX_0_51 (HI_FX ci2459)
            have e2864 : (mz_gI q2457 0 51).toInt = (mz_gI q2440.2 0 51).toInt := MI_13 mi2463 rfl
            have b2865 := FX_0_51 (HI_FX ci2446)
            have e2866 : (mz_gI q2440.2 0 51).toInt = (mz_gI t 0 51).toInt := MI_13 mi2450 rfl
            refine Tp_mo (s_MO_doLine_179 hn ci2836 (by omega) (by omega) (by omega) (by omega) (by omega) (by omega) (t := q2834) (s0 := (-1 : Int32))) (fun q2867 h2868 => ?_)
            obtain ⟨ci2869, p2870, p2871, p2872⟩ := h2868
            have b2873 := FX_0_8 (HI_FX ci2836)
            have e2874 : (mz_gI q2834 0 8).toInt = (mz_gI q2457 0 8).toInt := MI_13 mi2842 rfl
            have b2875 := FX_0_8 (HI_FX ci2459)
            have e2876 : (mz_gI q2457 0 8).toInt = (mz_gI q2440.2 0 8).toInt := MI_13 mi2463 rfl
            have b2877 := FX_0_8 (HI_FX ci2446)
            have e2878 : (mz_gI q2440.2 0 8).toInt = (mz_gI t 0 8).toInt := MI_13 mi2450 rfl
            have b2879 := HI_g29 ci2869 (c := 0) (p := 6) rfl
            have b2880 := HI_g29 ci2836 (c := 0) (p := 6) rfl
            have b2881 := FX_0_8 (HI_FX ci2869)
            have b2882 := FX_0_34 (HI_FX ci2869)
            have b2883 := FX_0_48 (HI_FX ci2869)
            have b2884 := FX_0_51 (HI_FX ci2869)
            have b2885 := HI_g29 ci (c := 0) (p := 6) rfl
            refine ⟨ci2869, ?_, ?_, ?_⟩
            · (try dsimp only) <;> first | omega | assumption
            · (try dsimp only) <;> first | omega | assumption
            · (try dsimp only) <;> first | omega | assumption
          · have g2886 := ti_nq h2846
            refine Tp_bi (s_MO_macroOf hn (HI_MI ci2836)  (t := q2834) (x1 := mz_gL q2834 0 65) (x3 := mz_gL q2834 0 66)) (fun q2887 h2888 => ?_)
            obtain ⟨mi2893, E2890, p2891, p2892⟩ := h2888
            have ci2889 := HI_tr ci2836 mi2893
            have b2894 := FX_0_12 (HI_FX ci2836)
            have e2895 : (mz_gI q2834 0 12).toInt = (mz_gI q2457 0 12).toInt := MI_13 mi2842 rfl
            have b2896 := FX_0_12 (HI_FX ci2459)
            have e2897 : (mz_gI q2457 0 12).toInt = (mz_gI q2440.2 0 12).toInt := MI_13 mi2463 rfl
            have b2898 := FX_0_12 (HI_FX ci2446)
            have e2899 : (mz_gI q2440.2 0 12).toInt = (mz_gI t 0 12).toInt := MI_13 mi2450 rfl
            have b2900 := FX_0_12 (HI_FX ci)
            try rw [E2890]
            have i2901 := ti_rg q2887.1
            have b2902 := FX_0_34 (HI_FX ci2836)
            have e2903 : (mz_gI q2834 0 34).toInt = (mz_gI q2457 0 34).toInt := MI_13 mi2842 rfl
            have b2904 := FX_0_34 (HI_FX ci2459)
            have e2905 : (mz_gI q2457 0 34).toInt = (mz_gI q2440.2 0 34).toInt := MI_13 mi2463 rfl
            have b2906 := FX_0_34 (HI_FX ci2446)
            have e2907 : (mz_gI q2440.2 0 34).toInt = (mz_gI t 0 34).toInt := MI_13 mi2450 rfl
            have b2908 := FX_0_48 (HI_FX ci2836)
            have e2909 : (mz_gI q2834 0 48).toInt = (mz_gI q2457 0 48).toInt := MI_13 mi2842 rfl
            have b2910 := FX_0_48 (HI_FX ci2459)
            have e2911 : (mz_gI q2457 0 48).toInt = (mz_gI q2440.2 0 48).toInt := MI_13 mi2463 rfl
            have b2912 := FX_0_48 (HI_FX ci2446)
            have e2913 : (mz_gI q2440.2 0 48).toInt = (mz_gI t 0 48).toInt := MI_13 mi2450 rfl
            have b2914 := FX_0_51 (HI_FX ci2836)
            have e2915 : (mz_gI q2834 0 51).toInt = (mz_gI q2457 0 51).toInt := MI_13 mi2842 rfl
            have b2916 := FX_0_51 (HI_FX ci2459)
            have e2917 : (mz_gI q2457 0 51).toInt = (mz_gI q2440.2 0 51).toInt := MI_13 mi2463 rfl
            have b2918 := FX_0_51 (HI_FX ci2446)
            have e2919 : (mz_gI q2440.2 0 51).toInt = (mz_gI t 0 51).toInt := MI_13 mi2450 rfl
            refine Tp_mo (s_MO_doLine_179 hn ci2836 (by omega) (by omega) (by omega) (by omega) (by omega) (by omega) (t := q2834) (s0 := q2887.1)) (fun q2920 h2921 => ?_)
            obtain ⟨ci2922, p2923, p2924, p2925⟩ := h2921
            have b2926 := FX_0_8 (HI_FX ci2836)
            have e2927 : (mz_gI q2834 0 8).toInt = (mz_gI q2457 0 8).toInt := MI_13 mi2842 rfl
            have b2928 := FX_0_8 (HI_FX ci2459)
            have e2929 : (mz_gI q2457 0 8).toInt = (mz_gI q2440.2 0 8).toInt := MI_13 mi2463 rfl
            have b2930 := FX_0_8 (HI_FX ci2446)
            have e2931 : (mz_gI q2440.2 0 8).toInt = (mz_gI t 0 8).toInt := MI_13 mi2450 rfl
            have b2932 := HI_g29 ci2922 (c := 0) (p := 6) rfl
            have b2933 := HI_g29 ci2836 (c := 0) (p := 6) rfl
            have b2934 := FX_0_8 (HI_FX ci2922)
            have b2935 := FX_0_34 (HI_FX ci2922)
            have b2936 := FX_0_48 (HI_FX ci2922)
            have b2937 := FX_0_51 (HI_FX ci2922)
            have b2938 := HI_g29 ci (c := 0) (p := 6) rfl
            refine ⟨ci2922, ?_, ?_, ?_⟩
            · (try dsimp only) <;> first | omega | assumption
            · (try dsimp only) <;> first | omega | assumption
            · (try dsimp only) <;> first | omega | assumption
  · have g2939 := ti_ne h2453
    have i2940 := ti_rg q2440.1
    have l2941 : (0 : Int32).toInt = 0 := rfl
    have i2944 := ti_rg (mz_gI q2440.2 0 63)
    refine Tp_bi (s_MO_failL hn ci2446 (by omega) (t := q2440.2) (x1 := q2440.1) (x2 := mz_gI q2440.2 0 63)) (fun q2942 h2943 => ?_)
    obtain ⟨ci2945, E2946, p2947, p2948⟩ := h2943
    have b2949 := FX_0_8 (HI_FX ci2446)
    have e2950 : (mz_gI q2440.2 0 8).toInt = (mz_gI t 0 8).toInt := MI_13 mi2450 rfl
    have b2951 := HI_g29 ci2945 (c := 0) (p := 6) rfl
    have b2952 := FX_0_8 (HI_FX ci2945)
    have b2953 := HI_g29 ci2446 (c := 0) (p := 6) rfl
    have b2954 := HI_g23 ci2945 (c := 0) (p := 60) rfl
    have e2955 : (mz_gI q2942 0 60).toInt = (mz_gI q2440.2 0 60).toInt := by rw [E2946 _ _ (by simp)]
    refine Tp_so ?_
    have b2956 := HI_g29 ci (c := 0) (p := 6) rfl
    have b2957 := FX_0_34 (HI_FX ci2945)
    have e2958 : (mz_gI q2942 0 34).toInt = (mz_gI q2440.2 0 34).toInt := by rw [E2946 _ _ (by simp)]
    have b2959 := FX_0_34 (HI_FX ci2446)
    have e2960 : (mz_gI q2440.2 0 34).toInt = (mz_gI t 0 34).toInt := MI_13 mi2450 rfl
    have b2961 := FX_0_48 (HI_FX ci2945)
    have e2962 : (mz_gI q2942 0 48).toInt = (mz_gI q2440.2 0 48).toInt := by rw [E2946 _ _ (by simp)]
    have b2963 := FX_0_48 (HI_FX ci2446)
    have e2964 : (mz_gI q2440.2 0 48).toInt = (mz_gI t 0 48).toInt := MI_13 mi2450 rfl
    have b2965 := FX_0_51 (HI_FX ci2945)
    have e2966 : (mz_gI q2942 0 51).toInt = (mz_gI q2440.2 0 51).toInt := by rw [E2946 _ _ (by simp)]
    have b2967 := FX_0_51 (HI_FX ci2446)
    have e2968 : (mz_gI q2440.2 0 51).toInt = (mz_gI t 0 51).toInt := MI_13 mi2450 rfl
    refine ⟨ci2945, ?_, ?_, ?_⟩
    · (try dsimp only) <;> first | omega | assumption
    · (try dsimp only) <;> first | omega | assumption
    · (try dsimp only) <;> first | omega | assumption
