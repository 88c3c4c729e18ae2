/-! printed: the law's cases 0 to 7 -/
section LWC
variable {p : Program} {l : Launch} {e : Env} {s : State} {m : MethodId} {below : List Frame} {meth : Method} {c : Code} {H : Heap} {locs : List Loc} {cells slots : Nat} {Q : State → Prop}
variable {b L o : Nat} {xs : Nat → Int32} {ls : Array Slot} {Γ : Wc} {ax am : Nat → Nat → Nat} {σ τ : Sig} {f : Nat → Int64}
set_option maxHeartbeats 4000000 in
set_option maxRecDepth 100000 in
theorem lc_0 (C : LC l Γ p s m b L xs c) (D : LD s ax am o) (I : LI Γ s ax am o σ τ f H locs) (hR : Rl σ τ) {j : Nat} (hj : j + 6 ≤ L ∧ L ≤ 3072) (hl : lv_has ls 9 (LV b ax am o j)) (hcs : cells + 5 ≤ 601024 ∧ slots + 30 ≤ 7293034) {x : Int32} (hx : x.toInt = 0) (K : LK p l e s m b below meth c Γ ax am o Q cells slots j) : W p l e room_1 s m #[Value.ref b] below meth c H locs cells slots Q (F0 m 40 ls [.int x]) := by
  refine lv_tableIn (off := 272) (tgt := 312) C.1 C.2.1 dL_law_40 (by rw [hx]; decide) (by rw [hx]; decide) (by rw [hx]; rfl) (by decide) ?_
  obtain ⟨r, σ', τ', e1, e2, hR'⟩ := lo_append (xs (j + 1)) (xs (j + 2)) (xs (j + 3)) (xs (j + 4)) (xs (j + 5)) hR
  refine lv_aload_n C.1 C.2.1 dL_law_312 rfl (lv_at hl 2 rfl) ?_
  refine l_rd C I 1 (lv_at hl 1 rfl) (lv_at hl 0 rfl) hj (by decide) rfl dL_law_313 dL_law_314 dL_law_316 dL_law_317 dL_law_318 ?_
  refine l_rd C I 2 (lv_at hl 1 rfl) (lv_at hl 0 rfl) hj (by decide) rfl dL_law_319 dL_law_320 dL_law_322 dL_law_323 dL_law_324 ?_
  refine l_rd C I 3 (lv_at hl 1 rfl) (lv_at hl 0 rfl) hj (by decide) rfl dL_law_325 dL_law_326 dL_law_328 dL_law_329 dL_law_330 ?_
  refine l_rd C I 4 (lv_at hl 1 rfl) (lv_at hl 0 rfl) hj (by decide) rfl dL_law_331 dL_law_332 dL_law_334 dL_law_335 dL_law_336 ?_
  refine l_rd C I 5 (lv_at hl 1 rfl) (lv_at hl 0 rfl) hj (by decide) rfl dL_law_337 dL_law_338 dL_law_340 dL_law_341 dL_law_342 ?_
  refine lx_i C D I (As := [.int (xs (j + 1)), .int (xs (j + 2)), .int (xs (j + 3)), .int (xs (j + 4)), .int (xs (j + 5))]) (rest := []) (w11_append l Γ ax (AXs ax) (xs (j + 1)) (xs (j + 2)) (xs (j + 3)) (xs (j + 4)) (xs (j + 5)) σ r σ' e1) mz_150 rfl ⟨Nat.le_of_ble_eq_true rfl, Nat.le_of_ble_eq_true rfl⟩ rfl (Nat.le_of_ble_eq_true rfl) hl.1 ⟨by omega, by omega⟩ dL_law_343 (fun H1 locs1 I1 => ?_)
  refine lv_aload_n C.1 C.2.1 dL_law_346 rfl (lv_at hl 3 rfl) ?_
  refine l_rd C I1 1 (lv_at hl 1 rfl) (lv_at hl 0 rfl) hj (by decide) rfl dL_law_347 dL_law_348 dL_law_350 dL_law_351 dL_law_352 ?_
  refine l_rd C I1 2 (lv_at hl 1 rfl) (lv_at hl 0 rfl) hj (by decide) rfl dL_law_353 dL_law_354 dL_law_356 dL_law_357 dL_law_358 ?_
  refine l_rd C I1 3 (lv_at hl 1 rfl) (lv_at hl 0 rfl) hj (by decide) rfl dL_law_359 dL_law_360 dL_law_362 dL_law_363 dL_law_364 ?_
  refine l_rd C I1 4 (lv_at hl 1 rfl) (lv_at hl 0 rfl) hj (by decide) rfl dL_law_365 dL_law_366 dL_law_368 dL_law_369 dL_law_370 ?_
  refine l_rd C I1 5 (lv_at hl 1 rfl) (lv_at hl 0 rfl) hj (by decide) rfl dL_law_371 dL_law_372 dL_law_374 dL_law_375 dL_law_376 ?_
  refine lm_i C D I1 (As := [.int (xs (j + 1)), .int (xs (j + 2)), .int (xs (j + 3)), .int (xs (j + 4)), .int (xs (j + 5))]) (rest := [.int r]) (w12_append l Γ am (AMs am) (xs (j + 1)) (xs (j + 2)) (xs (j + 3)) (xs (j + 4)) (xs (j + 5)) τ r τ' e2) mz_154 rfl ⟨Nat.le_of_ble_eq_true rfl, Nat.le_of_ble_eq_true rfl⟩ rfl (Nat.le_of_ble_eq_true rfl) hl.1 ⟨by omega, by omega⟩ dL_law_377 (fun H2 locs2 I2 => ?_)
  refine lv_icmp_eq (tgt := 3262) C.1 C.2.1 dL_law_380 (by decide) (fun _ => ?_) (fun h => absurd rfl h)
  refine W.widen (k := cells + 5) (n := slots + 30) (by omega) (by omega) ?_
  exact K _ _ _ _ _ _ I2 hR' hl
set_option maxHeartbeats 4000000 in
set_option maxRecDepth 100000 in
theorem lc_1 (C : LC l Γ p s m b L xs c) (D : LD s ax am o) (I : LI Γ s ax am o σ τ f H locs) (hR : Rl σ τ) {j : Nat} (hj : j + 6 ≤ L ∧ L ≤ 3072) (hl : lv_has ls 9 (LV b ax am o j)) (hcs : cells + 5 ≤ 601024 ∧ slots + 30 ≤ 7293034) {x : Int32} (hx : x.toInt = 1) (K : LK p l e s m b below meth c Γ ax am o Q cells slots j) : W p l e room_1 s m #[Value.ref b] below meth c H locs cells slots Q (F0 m 40 ls [.int x]) := by
  have hcs5 : cells + 5 ≤ 601024 ∧ slots + 30 ≤ 7293034 := hcs
  refine lv_tableIn (off := 345) (tgt := 385) C.1 C.2.1 dL_law_40 (by rw [hx]; decide) (by rw [hx]; decide) (by rw [hx]; rfl) (by decide) ?_
  obtain ⟨q, r, τ', e1, e2, hR', hc⟩ := lo_truncateInput (xs (j + 1)) hR
  refine lv_aload_n C.1 C.2.1 dL_law_385 rfl (lv_at hl 2 rfl) ?_
  refine l_rd C I 1 (lv_at hl 1 rfl) (lv_at hl 0 rfl) hj (by decide) rfl dL_law_386 dL_law_387 dL_law_389 dL_law_390 dL_law_391 ?_
  refine lv_aload_n C.1 C.2.1 dL_law_392 rfl (lv_at hl 4 rfl) ?_
  refine lw_s C D I (As := [.ref (ax 0 0), .int (xs (j + 1)), .ref o]) (rest := []) (wL_truncateInput l (C.2.2.2.2.2.2.2.2.2.2.2) Γ ax o (xs (j + 1)) σ q e1 (by simpa using hq_of hc)) mz_155 ⟨Nat.le_of_ble_eq_true rfl, Nat.le_of_ble_eq_true rfl⟩ rfl (Nat.le_of_ble_eq_true rfl) hl.1 (by decide) hcs dL_law_393 (fun k f1 H1 locs1 I1 hk => ?_)
  have he := th_eq (by decide) (by decide) hc hk
  refine lv_istore (lv' := (5, .int k) :: LV b ax am o j) C.1 C.2.1 dL_law_396 hl (by decide) rfl (fun ls hl => ?_)
  refine lv_aload_n C.1 C.2.1 dL_law_398 rfl (lv_at hl 4 rfl) ?_
  refine l_rd C I1 1 (lv_at hl 2 rfl) (lv_at hl 1 rfl) hj (by decide) rfl dL_law_399 dL_law_400 dL_law_402 dL_law_403 dL_law_404 ?_
  refine lm_i C D I1 (As := [.int (xs (j + 1))]) (rest := []) (w12_truncateInput l Γ am (AMs am) (xs (j + 1)) τ r τ' e2) mz_160 rfl ⟨Nat.le_of_ble_eq_true rfl, Nat.le_of_ble_eq_true rfl⟩ rfl (Nat.le_of_ble_eq_true rfl) hl.1 hcs5 dL_law_405 (fun H2 locs2 I2 => ?_)
  refine lv_istore (lv' := (6, .int r) :: (5, .int k) :: LV b ax am o j) C.1 C.2.1 dL_law_408 hl (by decide) rfl (fun ls hl => ?_)
  refine lv_aload_n C.1 C.2.1 dL_law_410 rfl (lv_at hl 5 rfl) ?_
  refine lm_i C D I2 (As := []) (rest := []) (w12_thrown l Γ am (AMs am) τ' (τ' 0 0 0) rfl) mz_161 rfl ⟨Nat.le_of_ble_eq_true rfl, Nat.le_of_ble_eq_true rfl⟩ rfl (Nat.le_of_ble_eq_true rfl) hl.1 hcs5 dL_law_411 (fun H3 locs3 I3 => ?_)
  refine lv_iload C.1 C.2.1 dL_law_414 (lv_at hl 1 rfl) ?_
  refine lv_icmp_eq (tgt := 421) C.1 C.2.1 dL_law_416 (by decide) (fun _ => ?_) (fun h => absurd he.1 h)
  refine lv_iload C.1 C.2.1 dL_law_421 (lv_at hl 1 rfl) ?_
  refine lv_if_ne (tgt := 438) C.1 C.2.1 dL_law_423 (by decide) (fun _ => (by refine lv_goto (tgt := 3262) C.1 C.2.1 dL_law_438 (by decide) ?_; exact K _ _ _ _ _ _ I3 hR' (lv_sub hl [2, 3, 4, 5, 6] rfl))) (fun h => ?_)
  obtain ⟨h1, h2, h3⟩ := he.2 h
  refine lv_aload_n C.1 C.2.1 dL_law_426 rfl (lv_at hl 6 rfl) ?_
  refine lv_iconst (v := 0) C.1 C.2.1 dL_law_427 (by decide) ?_
  refine va_lald C.1 C.2.1 C.2.2.2.2.2.1 (vaP1 I3.2.2.2) 0 5 rfl rfl vp01 dL_law_428 ?_
  refine lv_iload C.1 C.2.1 dL_law_429 (lv_at hl 0 rfl) ?_
  refine lv_i2l C.1 C.2.1 dL_law_431 rfl ?_
  refine W.lcmp C.1 C.2.1 dL_law_432 ?_
  refine lv_if_eq (tgt := 438) C.1 C.2.1 dL_law_433 (by decide) (fun _ => (by refine lv_goto (tgt := 3262) C.1 C.2.1 dL_law_438 (by decide) ?_; exact K _ _ _ _ _ _ I3 hR' (lv_sub hl [2, 3, 4, 5, 6] rfl))) (fun h => absurd (lg0 (by rw [h2]; exact h3)) h)
set_option maxHeartbeats 4000000 in
set_option maxRecDepth 100000 in
theorem lc_2 (C : LC l Γ p s m b L xs c) (D : LD s ax am o) (I : LI Γ s ax am o σ τ f H locs) (hR : Rl σ τ) {j : Nat} (hj : j + 6 ≤ L ∧ L ≤ 3072) (hl : lv_has ls 9 (LV b ax am o j)) (hcs : cells + 5 ≤ 601024 ∧ slots + 30 ≤ 7293034) {x : Int32} (hx : x.toInt = 2) (K : LK p l e s m b below meth c Γ ax am o Q cells slots j) : W p l e room_1 s m #[Value.ref b] below meth c H locs cells slots Q (F0 m 40 ls [.int x]) := by
  refine lv_tableIn (off := 401) (tgt := 441) C.1 C.2.1 dL_law_40 (by rw [hx]; decide) (by rw [hx]; decide) (by rw [hx]; rfl) (by decide) ?_
  obtain ⟨r, σ', τ', e1, e2, hR'⟩ := lo_runScript hR
  refine lv_aload_n C.1 C.2.1 dL_law_441 rfl (lv_at hl 2 rfl) ?_
  refine lx_i C D I (As := []) (rest := []) (w11_runScript l Γ ax (AXs ax) σ r σ' e1) mz_164 rfl ⟨Nat.le_of_ble_eq_true rfl, Nat.le_of_ble_eq_true rfl⟩ rfl (Nat.le_of_ble_eq_true rfl) hl.1 ⟨by omega, by omega⟩ dL_law_442 (fun H1 locs1 I1 => ?_)
  refine lv_aload_n C.1 C.2.1 dL_law_445 rfl (lv_at hl 3 rfl) ?_
  refine lm_i C D I1 (As := []) (rest := [.int r]) (w12_runScript l Γ am (AMs am) τ r τ' e2) mz_167 rfl ⟨Nat.le_of_ble_eq_true rfl, Nat.le_of_ble_eq_true rfl⟩ rfl (Nat.le_of_ble_eq_true rfl) hl.1 ⟨by omega, by omega⟩ dL_law_446 (fun H2 locs2 I2 => ?_)
  refine lv_icmp_eq (tgt := 3262) C.1 C.2.1 dL_law_449 (by decide) (fun _ => ?_) (fun h => absurd rfl h)
  refine W.widen (k := cells + 5) (n := slots + 30) (by omega) (by omega) ?_
  exact K _ _ _ _ _ _ I2 hR' hl
set_option maxHeartbeats 4000000 in
set_option maxRecDepth 100000 in
theorem lc_3 (C : LC l Γ p s m b L xs c) (D : LD s ax am o) (I : LI Γ s ax am o σ τ f H locs) (hR : Rl σ τ) {j : Nat} (hj : j + 6 ≤ L ∧ L ≤ 3072) (hl : lv_has ls 9 (LV b ax am o j)) (hcs : cells + 5 ≤ 601024 ∧ slots + 30 ≤ 7293034) {x : Int32} (hx : x.toInt = 3) (K : LK p l e s m b below meth c Γ ax am o Q cells slots j) : W p l e room_1 s m #[Value.ref b] below meth c H locs cells slots Q (F0 m 40 ls [.int x]) := by
  have hcs5 : cells + 5 ≤ 601024 ∧ slots + 30 ≤ 7293034 := hcs
  refine lv_tableIn (off := 414) (tgt := 454) C.1 C.2.1 dL_law_40 (by rw [hx]; decide) (by rw [hx]; decide) (by rw [hx]; rfl) (by decide) ?_
  obtain ⟨q, r, τ', e1, e2, hR', hc⟩ := lo_setPrice (xs (j + 1)) (xs (j + 2)) hR
  refine lv_aload_n C.1 C.2.1 dL_law_454 rfl (lv_at hl 2 rfl) ?_
  refine l_rd C I 1 (lv_at hl 1 rfl) (lv_at hl 0 rfl) hj (by decide) rfl dL_law_455 dL_law_456 dL_law_458 dL_law_459 dL_law_460 ?_
  refine l_rd C I 2 (lv_at hl 1 rfl) (lv_at hl 0 rfl) hj (by decide) rfl dL_law_461 dL_law_462 dL_law_464 dL_law_465 dL_law_466 ?_
  refine lv_aload_n C.1 C.2.1 dL_law_467 rfl (lv_at hl 4 rfl) ?_
  refine lw_s C D I (As := [.ref (ax 0 0), .int (xs (j + 1)), .int (xs (j + 2)), .ref o]) (rest := []) (wL_setPrice l (C.2.2.2.2.2.2.2.2.2.2.2) Γ ax o (xs (j + 1)) (xs (j + 2)) σ q e1 (by simpa using hq_of hc)) mz_168 ⟨Nat.le_of_ble_eq_true rfl, Nat.le_of_ble_eq_true rfl⟩ rfl (Nat.le_of_ble_eq_true rfl) hl.1 (by decide) hcs dL_law_468 (fun k f1 H1 locs1 I1 hk => ?_)
  have he := th_eq (by decide) (by decide) hc hk
  refine lv_istore (lv' := (5, .int k) :: LV b ax am o j) C.1 C.2.1 dL_law_471 hl (by decide) rfl (fun ls hl => ?_)
  refine lv_aload_n C.1 C.2.1 dL_law_473 rfl (lv_at hl 4 rfl) ?_
  refine l_rd C I1 1 (lv_at hl 2 rfl) (lv_at hl 1 rfl) hj (by decide) rfl dL_law_474 dL_law_475 dL_law_477 dL_law_478 dL_law_479 ?_
  refine l_rd C I1 2 (lv_at hl 2 rfl) (lv_at hl 1 rfl) hj (by decide) rfl dL_law_480 dL_law_481 dL_law_483 dL_law_484 dL_law_485 ?_
  refine lm_i C D I1 (As := [.int (xs (j + 1)), .int (xs (j + 2))]) (rest := []) (w12_setPrice l Γ am (AMs am) (xs (j + 1)) (xs (j + 2)) τ r τ' e2) mz_171 rfl ⟨Nat.le_of_ble_eq_true rfl, Nat.le_of_ble_eq_true rfl⟩ rfl (Nat.le_of_ble_eq_true rfl) hl.1 hcs5 dL_law_486 (fun H2 locs2 I2 => ?_)
  refine lv_istore (lv' := (6, .int r) :: (5, .int k) :: LV b ax am o j) C.1 C.2.1 dL_law_489 hl (by decide) rfl (fun ls hl => ?_)
  refine lv_aload_n C.1 C.2.1 dL_law_491 rfl (lv_at hl 5 rfl) ?_
  refine lm_i C D I2 (As := []) (rest := []) (w12_thrown l Γ am (AMs am) τ' (τ' 0 0 0) rfl) mz_161 rfl ⟨Nat.le_of_ble_eq_true rfl, Nat.le_of_ble_eq_true rfl⟩ rfl (Nat.le_of_ble_eq_true rfl) hl.1 hcs5 dL_law_492 (fun H3 locs3 I3 => ?_)
  refine lv_iload C.1 C.2.1 dL_law_495 (lv_at hl 1 rfl) ?_
  refine lv_icmp_eq (tgt := 502) C.1 C.2.1 dL_law_497 (by decide) (fun _ => ?_) (fun h => absurd he.1 h)
  refine lv_iload C.1 C.2.1 dL_law_502 (lv_at hl 1 rfl) ?_
  refine lv_if_ne (tgt := 519) C.1 C.2.1 dL_law_504 (by decide) (fun _ => (by refine lv_goto (tgt := 3262) C.1 C.2.1 dL_law_519 (by decide) ?_; exact K _ _ _ _ _ _ I3 hR' (lv_sub hl [2, 3, 4, 5, 6] rfl))) (fun h => ?_)
  obtain ⟨h1, h2, h3⟩ := he.2 h
  refine lv_aload_n C.1 C.2.1 dL_law_507 rfl (lv_at hl 6 rfl) ?_
  refine lv_iconst (v := 0) C.1 C.2.1 dL_law_508 (by decide) ?_
  refine va_lald C.1 C.2.1 C.2.2.2.2.2.1 (vaP1 I3.2.2.2) 0 5 rfl rfl vp01 dL_law_509 ?_
  refine lv_iload C.1 C.2.1 dL_law_510 (lv_at hl 0 rfl) ?_
  refine lv_i2l C.1 C.2.1 dL_law_512 rfl ?_
  refine W.lcmp C.1 C.2.1 dL_law_513 ?_
  refine lv_if_eq (tgt := 519) C.1 C.2.1 dL_law_514 (by decide) (fun _ => (by refine lv_goto (tgt := 3262) C.1 C.2.1 dL_law_519 (by decide) ?_; exact K _ _ _ _ _ _ I3 hR' (lv_sub hl [2, 3, 4, 5, 6] rfl))) (fun h => absurd (lg0 (by rw [h2]; exact h3)) h)
set_option maxHeartbeats 4000000 in
set_option maxRecDepth 100000 in
theorem lc_4 (C : LC l Γ p s m b L xs c) (D : LD s ax am o) (I : LI Γ s ax am o σ τ f H locs) (hR : Rl σ τ) {j : Nat} (hj : j + 6 ≤ L ∧ L ≤ 3072) (hl : lv_has ls 9 (LV b ax am o j)) (hcs : cells + 5 ≤ 601024 ∧ slots + 30 ≤ 7293034) {x : Int32} (hx : x.toInt = 4) (K : LK p l e s m b below meth c Γ ax am o Q cells slots j) : W p l e room_1 s m #[Value.ref b] below meth c H locs cells slots Q (F0 m 40 ls [.int x]) := by
  have hcs5 : cells + 5 ≤ 601024 ∧ slots + 30 ≤ 7293034 := hcs
  refine lv_tableIn (off := 482) (tgt := 522) C.1 C.2.1 dL_law_40 (by rw [hx]; decide) (by rw [hx]; decide) (by rw [hx]; rfl) (by decide) ?_
  obtain ⟨q, r, τ', e1, e2, hR', hc⟩ := lo_setRate (xs (j + 1)) hR
  refine lv_aload_n C.1 C.2.1 dL_law_522 rfl (lv_at hl 2 rfl) ?_
  refine l_rd C I 1 (lv_at hl 1 rfl) (lv_at hl 0 rfl) hj (by decide) rfl dL_law_523 dL_law_524 dL_law_526 dL_law_527 dL_law_528 ?_
  refine lv_aload_n C.1 C.2.1 dL_law_529 rfl (lv_at hl 4 rfl) ?_
  refine lw_s C D I (As := [.ref (ax 0 0), .int (xs (j + 1)), .ref o]) (rest := []) (wL_setRate l (C.2.2.2.2.2.2.2.2.2.2.2) Γ ax o (xs (j + 1)) σ q e1 (by simpa using hq_of hc)) mz_172 ⟨Nat.le_of_ble_eq_true rfl, Nat.le_of_ble_eq_true rfl⟩ rfl (Nat.le_of_ble_eq_true rfl) hl.1 (by decide) hcs dL_law_530 (fun k f1 H1 locs1 I1 hk => ?_)
  have he := th_eq (by decide) (by decide) hc hk
  refine lv_istore (lv' := (5, .int k) :: LV b ax am o j) C.1 C.2.1 dL_law_533 hl (by decide) rfl (fun ls hl => ?_)
  refine lv_aload_n C.1 C.2.1 dL_law_535 rfl (lv_at hl 4 rfl) ?_
  refine l_rd C I1 1 (lv_at hl 2 rfl) (lv_at hl 1 rfl) hj (by decide) rfl dL_law_536 dL_law_537 dL_law_539 dL_law_540 dL_law_541 ?_
  refine lm_i C D I1 (As := [.int (xs (j + 1))]) (rest := []) (w12_setRate l Γ am (AMs am) (xs (j + 1)) τ r τ' e2) mz_174 rfl ⟨Nat.le_of_ble_eq_true rfl, Nat.le_of_ble_eq_true rfl⟩ rfl (Nat.le_of_ble_eq_true rfl) hl.1 hcs5 dL_law_542 (fun H2 locs2 I2 => ?_)
  refine lv_istore (lv' := (6, .int r) :: (5, .int k) :: LV b ax am o j) C.1 C.2.1 dL_law_545 hl (by decide) rfl (fun ls hl => ?_)
  refine lv_aload_n C.1 C.2.1 dL_law_547 rfl (lv_at hl 5 rfl) ?_
  refine lm_i C D I2 (As := []) (rest := []) (w12_thrown l Γ am (AMs am) τ' (τ' 0 0 0) rfl) mz_161 rfl ⟨Nat.le_of_ble_eq_true rfl, Nat.le_of_ble_eq_true rfl⟩ rfl (Nat.le_of_ble_eq_true rfl) hl.1 hcs5 dL_law_548 (fun H3 locs3 I3 => ?_)
  refine lv_iload C.1 C.2.1 dL_law_551 (lv_at hl 1 rfl) ?_
  refine lv_icmp_eq (tgt := 558) C.1 C.2.1 dL_law_553 (by decide) (fun _ => ?_) (fun h => absurd he.1 h)
  refine lv_iload C.1 C.2.1 dL_law_558 (lv_at hl 1 rfl) ?_
  refine lv_if_ne (tgt := 575) C.1 C.2.1 dL_law_560 (by decide) (fun _ => (by refine lv_goto (tgt := 3262) C.1 C.2.1 dL_law_575 (by decide) ?_; exact K _ _ _ _ _ _ I3 hR' (lv_sub hl [2, 3, 4, 5, 6] rfl))) (fun h => ?_)
  obtain ⟨h1, h2, h3⟩ := he.2 h
  refine lv_aload_n C.1 C.2.1 dL_law_563 rfl (lv_at hl 6 rfl) ?_
  refine lv_iconst (v := 0) C.1 C.2.1 dL_law_564 (by decide) ?_
  refine va_lald C.1 C.2.1 C.2.2.2.2.2.1 (vaP1 I3.2.2.2) 0 5 rfl rfl vp01 dL_law_565 ?_
  refine lv_iload C.1 C.2.1 dL_law_566 (lv_at hl 0 rfl) ?_
  refine lv_i2l C.1 C.2.1 dL_law_568 rfl ?_
  refine W.lcmp C.1 C.2.1 dL_law_569 ?_
  refine lv_if_eq (tgt := 575) C.1 C.2.1 dL_law_570 (by decide) (fun _ => (by refine lv_goto (tgt := 3262) C.1 C.2.1 dL_law_575 (by decide) ?_; exact K _ _ _ _ _ _ I3 hR' (lv_sub hl [2, 3, 4, 5, 6] rfl))) (fun h => absurd (lg0 (by rw [h2]; exact h3)) h)
set_option maxHeartbeats 4000000 in
set_option maxRecDepth 100000 in
theorem lc_5 (C : LC l Γ p s m b L xs c) (D : LD s ax am o) (I : LI Γ s ax am o σ τ f H locs) (hR : Rl σ τ) {j : Nat} (hj : j + 6 ≤ L ∧ L ≤ 3072) (hl : lv_has ls 9 (LV b ax am o j)) (hcs : cells + 5 ≤ 601024 ∧ slots + 30 ≤ 7293034) {x : Int32} (hx : x.toInt = 5) (K : LK p l e s m b below meth c Γ ax am o Q cells slots j) : W p l e room_1 s m #[Value.ref b] below meth c H locs cells slots Q (F0 m 40 ls [.int x]) := by
  have hcs5 : cells + 5 ≤ 601024 ∧ slots + 30 ≤ 7293034 := hcs
  refine lv_tableIn (off := 538) (tgt := 578) C.1 C.2.1 dL_law_40 (by rw [hx]; decide) (by rw [hx]; decide) (by rw [hx]; rfl) (by decide) ?_
  obtain ⟨q, r, τ', e1, e2, hR', hc⟩ := lo_layBed (xs (j + 1)) (xs (j + 2)) (xs (j + 3)) (xs (j + 4)) hR
  refine lv_aload_n C.1 C.2.1 dL_law_578 rfl (lv_at hl 2 rfl) ?_
  refine l_rd C I 1 (lv_at hl 1 rfl) (lv_at hl 0 rfl) hj (by decide) rfl dL_law_579 dL_law_580 dL_law_582 dL_law_583 dL_law_584 ?_
  refine l_rd C I 2 (lv_at hl 1 rfl) (lv_at hl 0 rfl) hj (by decide) rfl dL_law_585 dL_law_586 dL_law_588 dL_law_589 dL_law_590 ?_
  refine l_rd C I 3 (lv_at hl 1 rfl) (lv_at hl 0 rfl) hj (by decide) rfl dL_law_591 dL_law_592 dL_law_594 dL_law_595 dL_law_596 ?_
  refine l_rd C I 4 (lv_at hl 1 rfl) (lv_at hl 0 rfl) hj (by decide) rfl dL_law_597 dL_law_598 dL_law_600 dL_law_601 dL_law_602 ?_
  refine lv_aload_n C.1 C.2.1 dL_law_603 rfl (lv_at hl 4 rfl) ?_
  refine lw_s C D I (As := [.ref (ax 0 0), .int (xs (j + 1)), .int (xs (j + 2)), .int (xs (j + 3)), .int (xs (j + 4)), .ref o]) (rest := []) (wL_layBed l (C.2.2.2.2.2.2.2.2.2.2.2) Γ ax o (xs (j + 1)) (xs (j + 2)) (xs (j + 3)) (xs (j + 4)) σ q e1 (by simpa using hq_of hc)) mz_175 ⟨Nat.le_of_ble_eq_true rfl, Nat.le_of_ble_eq_true rfl⟩ rfl (Nat.le_of_ble_eq_true rfl) hl.1 (by decide) hcs dL_law_604 (fun k f1 H1 locs1 I1 hk => ?_)
  have he := th_eq (by decide) (by decide) hc hk
  refine lv_istore (lv' := (5, .int k) :: LV b ax am o j) C.1 C.2.1 dL_law_607 hl (by decide) rfl (fun ls hl => ?_)
  refine lv_aload_n C.1 C.2.1 dL_law_609 rfl (lv_at hl 4 rfl) ?_
  refine l_rd C I1 1 (lv_at hl 2 rfl) (lv_at hl 1 rfl) hj (by decide) rfl dL_law_610 dL_law_611 dL_law_613 dL_law_614 dL_law_615 ?_
  refine l_rd C I1 2 (lv_at hl 2 rfl) (lv_at hl 1 rfl) hj (by decide) rfl dL_law_616 dL_law_617 dL_law_619 dL_law_620 dL_law_621 ?_
  refine l_rd C I1 3 (lv_at hl 2 rfl) (lv_at hl 1 rfl) hj (by decide) rfl dL_law_622 dL_law_623 dL_law_625 dL_law_626 dL_law_627 ?_
  refine l_rd C I1 4 (lv_at hl 2 rfl) (lv_at hl 1 rfl) hj (by decide) rfl dL_law_628 dL_law_629 dL_law_631 dL_law_632 dL_law_633 ?_
  refine lm_i C D I1 (As := [.int (xs (j + 1)), .int (xs (j + 2)), .int (xs (j + 3)), .int (xs (j + 4))]) (rest := []) (w12_layBed l Γ am (AMs am) (xs (j + 1)) (xs (j + 2)) (xs (j + 3)) (xs (j + 4)) τ r τ' e2) mz_178 rfl ⟨Nat.le_of_ble_eq_true rfl, Nat.le_of_ble_eq_true rfl⟩ rfl (Nat.le_of_ble_eq_true rfl) hl.1 hcs5 dL_law_634 (fun H2 locs2 I2 => ?_)
  refine lv_istore (lv' := (6, .int r) :: (5, .int k) :: LV b ax am o j) C.1 C.2.1 dL_law_637 hl (by decide) rfl (fun ls hl => ?_)
  refine lv_aload_n C.1 C.2.1 dL_law_639 rfl (lv_at hl 5 rfl) ?_
  refine lm_i C D I2 (As := []) (rest := []) (w12_thrown l Γ am (AMs am) τ' (τ' 0 0 0) rfl) mz_161 rfl ⟨Nat.le_of_ble_eq_true rfl, Nat.le_of_ble_eq_true rfl⟩ rfl (Nat.le_of_ble_eq_true rfl) hl.1 hcs5 dL_law_640 (fun H3 locs3 I3 => ?_)
  refine lv_iload C.1 C.2.1 dL_law_643 (lv_at hl 1 rfl) ?_
  refine lv_icmp_eq (tgt := 650) C.1 C.2.1 dL_law_645 (by decide) (fun _ => ?_) (fun h => absurd he.1 h)
  refine lv_iload C.1 C.2.1 dL_law_650 (lv_at hl 1 rfl) ?_
  refine lv_if_ne (tgt := 667) C.1 C.2.1 dL_law_652 (by decide) (fun _ => (by refine lv_goto (tgt := 3262) C.1 C.2.1 dL_law_667 (by decide) ?_; exact K _ _ _ _ _ _ I3 hR' (lv_sub hl [2, 3, 4, 5, 6] rfl))) (fun h => ?_)
  obtain ⟨h1, h2, h3⟩ := he.2 h
  refine lv_aload_n C.1 C.2.1 dL_law_655 rfl (lv_at hl 6 rfl) ?_
  refine lv_iconst (v := 0) C.1 C.2.1 dL_law_656 (by decide) ?_
  refine va_lald C.1 C.2.1 C.2.2.2.2.2.1 (vaP1 I3.2.2.2) 0 5 rfl rfl vp01 dL_law_657 ?_
  refine lv_iload C.1 C.2.1 dL_law_658 (lv_at hl 0 rfl) ?_
  refine lv_i2l C.1 C.2.1 dL_law_660 rfl ?_
  refine W.lcmp C.1 C.2.1 dL_law_661 ?_
  refine lv_if_eq (tgt := 667) C.1 C.2.1 dL_law_662 (by decide) (fun _ => (by refine lv_goto (tgt := 3262) C.1 C.2.1 dL_law_667 (by decide) ?_; exact K _ _ _ _ _ _ I3 hR' (lv_sub hl [2, 3, 4, 5, 6] rfl))) (fun h => absurd (lg0 (by rw [h2]; exact h3)) h)
set_option maxHeartbeats 4000000 in
set_option maxRecDepth 100000 in
theorem lc_6 (C : LC l Γ p s m b L xs c) (D : LD s ax am o) (I : LI Γ s ax am o σ τ f H locs) (hR : Rl σ τ) {j : Nat} (hj : j + 6 ≤ L ∧ L ≤ 3072) (hl : lv_has ls 9 (LV b ax am o j)) (hcs : cells + 5 ≤ 601024 ∧ slots + 30 ≤ 7293034) {x : Int32} (hx : x.toInt = 6) (K : LK p l e s m b below meth c Γ ax am o Q cells slots j) : W p l e room_1 s m #[Value.ref b] below meth c H locs cells slots Q (F0 m 40 ls [.int x]) := by
  have hcs5 : cells + 5 ≤ 601024 ∧ slots + 30 ≤ 7293034 := hcs
  refine lv_tableIn (off := 630) (tgt := 670) C.1 C.2.1 dL_law_40 (by rw [hx]; decide) (by rw [hx]; decide) (by rw [hx]; rfl) (by decide) ?_
  obtain ⟨q, r, τ', e1, e2, hR', hc⟩ := lo_setPeacocks (xs (j + 1)) (xs (j + 2)) hR
  refine lv_aload_n C.1 C.2.1 dL_law_670 rfl (lv_at hl 2 rfl) ?_
  refine l_rd C I 1 (lv_at hl 1 rfl) (lv_at hl 0 rfl) hj (by decide) rfl dL_law_671 dL_law_672 dL_law_674 dL_law_675 dL_law_676 ?_
  refine l_rd C I 2 (lv_at hl 1 rfl) (lv_at hl 0 rfl) hj (by decide) rfl dL_law_677 dL_law_678 dL_law_680 dL_law_681 dL_law_682 ?_
  refine lv_aload_n C.1 C.2.1 dL_law_683 rfl (lv_at hl 4 rfl) ?_
  refine lw_s C D I (As := [.ref (ax 0 0), .int (xs (j + 1)), .int (xs (j + 2)), .ref o]) (rest := []) (wL_setPeacocks l (C.2.2.2.2.2.2.2.2.2.2.2) Γ ax o (xs (j + 1)) (xs (j + 2)) σ q e1 (by simpa using hq_of hc)) mz_179 ⟨Nat.le_of_ble_eq_true rfl, Nat.le_of_ble_eq_true rfl⟩ rfl (Nat.le_of_ble_eq_true rfl) hl.1 (by decide) hcs dL_law_684 (fun k f1 H1 locs1 I1 hk => ?_)
  have he := th_eq (by decide) (by decide) hc hk
  refine lv_istore (lv' := (5, .int k) :: LV b ax am o j) C.1 C.2.1 dL_law_687 hl (by decide) rfl (fun ls hl => ?_)
  refine lv_aload_n C.1 C.2.1 dL_law_689 rfl (lv_at hl 4 rfl) ?_
  refine l_rd C I1 1 (lv_at hl 2 rfl) (lv_at hl 1 rfl) hj (by decide) rfl dL_law_690 dL_law_691 dL_law_693 dL_law_694 dL_law_695 ?_
  refine l_rd C I1 2 (lv_at hl 2 rfl) (lv_at hl 1 rfl) hj (by decide) rfl dL_law_696 dL_law_697 dL_law_699 dL_law_700 dL_law_701 ?_
  refine lm_i C D I1 (As := [.int (xs (j + 1)), .int (xs (j + 2))]) (rest := []) (w12_setPeacocks l Γ am (AMs am) (xs (j + 1)) (xs (j + 2)) τ r τ' e2) mz_181 rfl ⟨Nat.le_of_ble_eq_true rfl, Nat.le_of_ble_eq_true rfl⟩ rfl (Nat.le_of_ble_eq_true rfl) hl.1 hcs5 dL_law_702 (fun H2 locs2 I2 => ?_)
  refine lv_istore (lv' := (6, .int r) :: (5, .int k) :: LV b ax am o j) C.1 C.2.1 dL_law_705 hl (by decide) rfl (fun ls hl => ?_)
  refine lv_aload_n C.1 C.2.1 dL_law_707 rfl (lv_at hl 5 rfl) ?_
  refine lm_i C D I2 (As := []) (rest := []) (w12_thrown l Γ am (AMs am) τ' (τ' 0 0 0) rfl) mz_161 rfl ⟨Nat.le_of_ble_eq_true rfl, Nat.le_of_ble_eq_true rfl⟩ rfl (Nat.le_of_ble_eq_true rfl) hl.1 hcs5 dL_law_708 (fun H3 locs3 I3 => ?_)
  refine lv_iload C.1 C.2.1 dL_law_711 (lv_at hl 1 rfl) ?_
  refine lv_icmp_eq (tgt := 718) C.1 C.2.1 dL_law_713 (by decide) (fun _ => ?_) (fun h => absurd he.1 h)
  refine lv_iload C.1 C.2.1 dL_law_718 (lv_at hl 1 rfl) ?_
  refine lv_if_ne (tgt := 735) C.1 C.2.1 dL_law_720 (by decide) (fun _ => (by refine lv_goto (tgt := 3262) C.1 C.2.1 dL_law_735 (by decide) ?_; exact K _ _ _ _ _ _ I3 hR' (lv_sub hl [2, 3, 4, 5, 6] rfl))) (fun h => ?_)
  obtain ⟨h1, h2, h3⟩ := he.2 h
  refine lv_aload_n C.1 C.2.1 dL_law_723 rfl (lv_at hl 6 rfl) ?_
  refine lv_iconst (v := 0) C.1 C.2.1 dL_law_724 (by decide) ?_
  refine va_lald C.1 C.2.1 C.2.2.2.2.2.1 (vaP1 I3.2.2.2) 0 5 rfl rfl vp01 dL_law_725 ?_
  refine lv_iload C.1 C.2.1 dL_law_726 (lv_at hl 0 rfl) ?_
  refine lv_i2l C.1 C.2.1 dL_law_728 rfl ?_
  refine W.lcmp C.1 C.2.1 dL_law_729 ?_
  refine lv_if_eq (tgt := 735) C.1 C.2.1 dL_law_730 (by decide) (fun _ => (by refine lv_goto (tgt := 3262) C.1 C.2.1 dL_law_735 (by decide) ?_; exact K _ _ _ _ _ _ I3 hR' (lv_sub hl [2, 3, 4, 5, 6] rfl))) (fun h => absurd (lg0 (by rw [h2]; exact h3)) h)
set_option maxHeartbeats 4000000 in
set_option maxRecDepth 100000 in
theorem lc_7 (C : LC l Γ p s m b L xs c) (D : LD s ax am o) (I : LI Γ s ax am o σ τ f H locs) (hR : Rl σ τ) {j : Nat} (hj : j + 6 ≤ L ∧ L ≤ 3072) (hl : lv_has ls 9 (LV b ax am o j)) (hcs : cells + 5 ≤ 601024 ∧ slots + 30 ≤ 7293034) {x : Int32} (hx : x.toInt = 7) (K : LK p l e s m b below meth c Γ ax am o Q cells slots j) : W p l e room_1 s m #[Value.ref b] below meth c H locs cells slots Q (F0 m 40 ls [.int x]) := by
  have hcs5 : cells + 5 ≤ 601024 ∧ slots + 30 ≤ 7293034 := hcs
  refine lv_tableIn (off := 698) (tgt := 738) C.1 C.2.1 dL_law_40 (by rw [hx]; decide) (by rw [hx]; decide) (by rw [hx]; rfl) (by decide) ?_
  obtain ⟨q, r, τ', e1, e2, hR', hc⟩ := lo_setPause (xs (j + 1)) hR
  refine lv_aload_n C.1 C.2.1 dL_law_738 rfl (lv_at hl 2 rfl) ?_
  refine l_rd C I 1 (lv_at hl 1 rfl) (lv_at hl 0 rfl) hj (by decide) rfl dL_law_739 dL_law_740 dL_law_742 dL_law_743 dL_law_744 ?_
  refine lv_aload_n C.1 C.2.1 dL_law_745 rfl (lv_at hl 4 rfl) ?_
  refine lw_s C D I (As := [.ref (ax 0 0), .int (xs (j + 1)), .ref o]) (rest := []) (wL_setPause l (C.2.2.2.2.2.2.2.2.2.2.2) Γ ax o (xs (j + 1)) σ q e1 (by simpa using hq_of hc)) mz_182 ⟨Nat.le_of_ble_eq_true rfl, Nat.le_of_ble_eq_true rfl⟩ rfl (Nat.le_of_ble_eq_true rfl) hl.1 (by decide) hcs dL_law_746 (fun k f1 H1 locs1 I1 hk => ?_)
  have he := th_eq (by decide) (by decide) hc hk
  refine lv_istore (lv' := (5, .int k) :: LV b ax am o j) C.1 C.2.1 dL_law_749 hl (by decide) rfl (fun ls hl => ?_)
  refine lv_aload_n C.1 C.2.1 dL_law_751 rfl (lv_at hl 4 rfl) ?_
  refine l_rd C I1 1 (lv_at hl 2 rfl) (lv_at hl 1 rfl) hj (by decide) rfl dL_law_752 dL_law_753 dL_law_755 dL_law_756 dL_law_757 ?_
  refine lm_i C D I1 (As := [.int (xs (j + 1))]) (rest := []) (w12_setPause l Γ am (AMs am) (xs (j + 1)) τ r τ' e2) mz_184 rfl ⟨Nat.le_of_ble_eq_true rfl, Nat.le_of_ble_eq_true rfl⟩ rfl (Nat.le_of_ble_eq_true rfl) hl.1 hcs5 dL_law_758 (fun H2 locs2 I2 => ?_)
  refine lv_istore (lv' := (6, .int r) :: (5, .int k) :: LV b ax am o j) C.1 C.2.1 dL_law_761 hl (by decide) rfl (fun ls hl => ?_)
  refine lv_aload_n C.1 C.2.1 dL_law_763 rfl (lv_at hl 5 rfl) ?_
  refine lm_i C D I2 (As := []) (rest := []) (w12_thrown l Γ am (AMs am) τ' (τ' 0 0 0) rfl) mz_161 rfl ⟨Nat.le_of_ble_eq_true rfl, Nat.le_of_ble_eq_true rfl⟩ rfl (Nat.le_of_ble_eq_true rfl) hl.1 hcs5 dL_law_764 (fun H3 locs3 I3 => ?_)
  refine lv_iload C.1 C.2.1 dL_law_767 (lv_at hl 1 rfl) ?_
  refine lv_icmp_eq (tgt := 774) C.1 C.2.1 dL_law_769 (by decide) (fun _ => ?_) (fun h => absurd he.1 h)
  refine lv_iload C.1 C.2.1 dL_law_774 (lv_at hl 1 rfl) ?_
  refine lv_if_ne (tgt := 791) C.1 C.2.1 dL_law_776 (by decide) (fun _ => (by refine lv_goto (tgt := 3262) C.1 C.2.1 dL_law_791 (by decide) ?_; exact K _ _ _ _ _ _ I3 hR' (lv_sub hl [2, 3, 4, 5, 6] rfl))) (fun h => ?_)
  obtain ⟨h1, h2, h3⟩ := he.2 h
  refine lv_aload_n C.1 C.2.1 dL_law_779 rfl (lv_at hl 6 rfl) ?_
  refine lv_iconst (v := 0) C.1 C.2.1 dL_law_780 (by decide) ?_
  refine va_lald C.1 C.2.1 C.2.2.2.2.2.1 (vaP1 I3.2.2.2) 0 5 rfl rfl vp01 dL_law_781 ?_
  refine lv_iload C.1 C.2.1 dL_law_782 (lv_at hl 0 rfl) ?_
  refine lv_i2l C.1 C.2.1 dL_law_784 rfl ?_
  refine W.lcmp C.1 C.2.1 dL_law_785 ?_
  refine lv_if_eq (tgt := 791) C.1 C.2.1 dL_law_786 (by decide) (fun _ => (by refine lv_goto (tgt := 3262) C.1 C.2.1 dL_law_791 (by decide) ?_; exact K _ _ _ _ _ _ I3 hR' (lv_sub hl [2, 3, 4, 5, 6] rfl))) (fun h => absurd (lg0 (by rw [h2]; exact h3)) h)
end LWC
