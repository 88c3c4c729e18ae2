/-! printed: the law's cases 16 to 23 -/
section LWC
variable {p : Program} {l : Launch} {e : Env} {s : State} {m : MethodId} {below : List Frame} {meth : Method} {c : Code} {H : Heap} {locs : List Loc} {cells slots : Nat} {Q : State → Prop}
variable {b L o : Nat} {xs : Nat → Int32} {ls : Array Slot} {Γ : Wc} {ax am : Nat → Nat → Nat} {σ τ : Sig} {f : Nat → Int64}
set_option maxHeartbeats 4000000 in
set_option maxRecDepth 100000 in
theorem lc_16 (C : LC l Γ p s m b L xs c) (D : LD s ax am o) (I : LI Γ s ax am o σ τ f H locs) (hR : Rl σ τ) {j : Nat} (hj : j + 6 ≤ L ∧ L ≤ 3072) (hl : lv_has ls 9 (LV b ax am o j)) (hcs : cells + 5 ≤ 601024 ∧ slots + 30 ≤ 7293034) {x : Int32} (hx : x.toInt = 16) (K : LK p l e s m b below meth c Γ ax am o Q cells slots j) : W p l e room_1 s m #[Value.ref b] below meth c H locs cells slots Q (F0 m 40 ls [.int x]) := by
  have hcs5 : cells + 5 ≤ 601024 ∧ slots + 30 ≤ 7293034 := hcs
  refine lv_tableIn (off := 1286) (tgt := 1326) C.1 C.2.1 dL_law_40 (by rw [hx]; decide) (by rw [hx]; decide) (by rw [hx]; rfl) (by decide) ?_
  obtain ⟨q, r, τ', e1, e2, hR', hc⟩ := lo_payFines (xs (j + 1)) (xs (j + 2)) hR
  refine lv_aload_n C.1 C.2.1 dL_law_1326 rfl (lv_at hl 2 rfl) ?_
  refine l_rd C I 1 (lv_at hl 1 rfl) (lv_at hl 0 rfl) hj (by decide) rfl dL_law_1327 dL_law_1328 dL_law_1330 dL_law_1331 dL_law_1332 ?_
  refine l_rd C I 2 (lv_at hl 1 rfl) (lv_at hl 0 rfl) hj (by decide) rfl dL_law_1333 dL_law_1334 dL_law_1336 dL_law_1337 dL_law_1338 ?_
  refine lv_aload_n C.1 C.2.1 dL_law_1339 rfl (lv_at hl 4 rfl) ?_
  refine lw_s C D I (As := [.ref (ax 0 0), .int (xs (j + 1)), .int (xs (j + 2)), .ref o]) (rest := []) (wL_payFines l (C.2.2.2.2.2.2.2.2.2.2.2) Γ ax o (xs (j + 1)) (xs (j + 2)) σ q e1 (by simpa using hq_of hc)) mz_209 ⟨Nat.le_of_ble_eq_true rfl, Nat.le_of_ble_eq_true rfl⟩ rfl (Nat.le_of_ble_eq_true rfl) hl.1 (by decide) hcs dL_law_1340 (fun k f1 H1 locs1 I1 hk => ?_)
  have he := th_eq (by decide) (by decide) hc hk
  refine lv_istore (lv' := (5, .int k) :: LV b ax am o j) C.1 C.2.1 dL_law_1343 hl (by decide) rfl (fun ls hl => ?_)
  refine lv_aload_n C.1 C.2.1 dL_law_1345 rfl (lv_at hl 4 rfl) ?_
  refine l_rd C I1 1 (lv_at hl 2 rfl) (lv_at hl 1 rfl) hj (by decide) rfl dL_law_1346 dL_law_1347 dL_law_1349 dL_law_1350 dL_law_1351 ?_
  refine l_rd C I1 2 (lv_at hl 2 rfl) (lv_at hl 1 rfl) hj (by decide) rfl dL_law_1352 dL_law_1353 dL_law_1355 dL_law_1356 dL_law_1357 ?_
  refine lm_i C D I1 (As := [.int (xs (j + 1)), .int (xs (j + 2))]) (rest := []) (w12_payFines l Γ am (AMs am) (xs (j + 1)) (xs (j + 2)) τ r τ' e2) mz_211 rfl ⟨Nat.le_of_ble_eq_true rfl, Nat.le_of_ble_eq_true rfl⟩ rfl (Nat.le_of_ble_eq_true rfl) hl.1 hcs5 dL_law_1358 (fun H2 locs2 I2 => ?_)
  refine lv_istore (lv' := (6, .int r) :: (5, .int k) :: LV b ax am o j) C.1 C.2.1 dL_law_1361 hl (by decide) rfl (fun ls hl => ?_)
  refine lv_aload_n C.1 C.2.1 dL_law_1363 rfl (lv_at hl 5 rfl) ?_
  refine lm_i C D I2 (As := []) (rest := []) (w12_thrown l Γ am (AMs am) τ' (τ' 0 0 0) rfl) mz_161 rfl ⟨Nat.le_of_ble_eq_true rfl, Nat.le_of_ble_eq_true rfl⟩ rfl (Nat.le_of_ble_eq_true rfl) hl.1 hcs5 dL_law_1364 (fun H3 locs3 I3 => ?_)
  refine lv_iload C.1 C.2.1 dL_law_1367 (lv_at hl 1 rfl) ?_
  refine lv_icmp_eq (tgt := 1374) C.1 C.2.1 dL_law_1369 (by decide) (fun _ => ?_) (fun h => absurd he.1 h)
  refine lv_iload C.1 C.2.1 dL_law_1374 (lv_at hl 1 rfl) ?_
  refine lv_if_ne (tgt := 1391) C.1 C.2.1 dL_law_1376 (by decide) (fun _ => (by refine lv_goto (tgt := 3262) C.1 C.2.1 dL_law_1391 (by decide) ?_; exact K _ _ _ _ _ _ I3 hR' (lv_sub hl [2, 3, 4, 5, 6] rfl))) (fun h => ?_)
  obtain ⟨h1, h2, h3⟩ := he.2 h
  refine lv_aload_n C.1 C.2.1 dL_law_1379 rfl (lv_at hl 6 rfl) ?_
  refine lv_iconst (v := 0) C.1 C.2.1 dL_law_1380 (by decide) ?_
  refine va_lald C.1 C.2.1 C.2.2.2.2.2.1 (vaP1 I3.2.2.2) 0 5 rfl rfl vp01 dL_law_1381 ?_
  refine lv_iload C.1 C.2.1 dL_law_1382 (lv_at hl 0 rfl) ?_
  refine lv_i2l C.1 C.2.1 dL_law_1384 rfl ?_
  refine W.lcmp C.1 C.2.1 dL_law_1385 ?_
  refine lv_if_eq (tgt := 1391) C.1 C.2.1 dL_law_1386 (by decide) (fun _ => (by refine lv_goto (tgt := 3262) C.1 C.2.1 dL_law_1391 (by decide) ?_; exact K _ _ _ _ _ _ I3 hR' (lv_sub hl [2, 3, 4, 5, 6] rfl))) (fun h => absurd (lg0 (by rw [h2]; exact h3)) h)
set_option maxHeartbeats 4000000 in
set_option maxRecDepth 100000 in
theorem lc_17 (C : LC l Γ p s m b L xs c) (D : LD s ax am o) (I : LI Γ s ax am o σ τ f H locs) (hR : Rl σ τ) {j : Nat} (hj : j + 6 ≤ L ∧ L ≤ 3072) (hl : lv_has ls 9 (LV b ax am o j)) (hcs : cells + 5 ≤ 601024 ∧ slots + 30 ≤ 7293034) {x : Int32} (hx : x.toInt = 17) (K : LK p l e s m b below meth c Γ ax am o Q cells slots j) : W p l e room_1 s m #[Value.ref b] below meth c H locs cells slots Q (F0 m 40 ls [.int x]) := by
  have hcs5 : cells + 5 ≤ 601024 ∧ slots + 30 ≤ 7293034 := hcs
  refine lv_tableIn (off := 1354) (tgt := 1394) C.1 C.2.1 dL_law_40 (by rw [hx]; decide) (by rw [hx]; decide) (by rw [hx]; rfl) (by decide) ?_
  obtain ⟨q, r, τ', e1, e2, hR', hc⟩ := lo_pass (xs (j + 1)) hR
  refine lv_aload_n C.1 C.2.1 dL_law_1394 rfl (lv_at hl 2 rfl) ?_
  refine l_rd C I 1 (lv_at hl 1 rfl) (lv_at hl 0 rfl) hj (by decide) rfl dL_law_1395 dL_law_1396 dL_law_1398 dL_law_1399 dL_law_1400 ?_
  refine lv_aload_n C.1 C.2.1 dL_law_1401 rfl (lv_at hl 4 rfl) ?_
  refine lw_s C D I (As := [.ref (ax 0 0), .int (xs (j + 1)), .ref o]) (rest := []) (wL_pass l (C.2.2.2.2.2.2.2.2.2.2.2) Γ ax o (xs (j + 1)) σ q e1 (by simpa using hq_of hc)) mz_212 ⟨Nat.le_of_ble_eq_true rfl, Nat.le_of_ble_eq_true rfl⟩ rfl (Nat.le_of_ble_eq_true rfl) hl.1 (by decide) hcs dL_law_1402 (fun k f1 H1 locs1 I1 hk => ?_)
  have he := th_eq (by decide) (by decide) hc hk
  refine lv_istore (lv' := (5, .int k) :: LV b ax am o j) C.1 C.2.1 dL_law_1405 hl (by decide) rfl (fun ls hl => ?_)
  refine lv_aload_n C.1 C.2.1 dL_law_1407 rfl (lv_at hl 4 rfl) ?_
  refine l_rd C I1 1 (lv_at hl 2 rfl) (lv_at hl 1 rfl) hj (by decide) rfl dL_law_1408 dL_law_1409 dL_law_1411 dL_law_1412 dL_law_1413 ?_
  refine lm_i C D I1 (As := [.int (xs (j + 1))]) (rest := []) (w12_pass l Γ am (AMs am) (xs (j + 1)) τ r τ' e2) mz_214 rfl ⟨Nat.le_of_ble_eq_true rfl, Nat.le_of_ble_eq_true rfl⟩ rfl (Nat.le_of_ble_eq_true rfl) hl.1 hcs5 dL_law_1414 (fun H2 locs2 I2 => ?_)
  refine lv_istore (lv' := (6, .int r) :: (5, .int k) :: LV b ax am o j) C.1 C.2.1 dL_law_1417 hl (by decide) rfl (fun ls hl => ?_)
  refine lv_aload_n C.1 C.2.1 dL_law_1419 rfl (lv_at hl 5 rfl) ?_
  refine lm_i C D I2 (As := []) (rest := []) (w12_thrown l Γ am (AMs am) τ' (τ' 0 0 0) rfl) mz_161 rfl ⟨Nat.le_of_ble_eq_true rfl, Nat.le_of_ble_eq_true rfl⟩ rfl (Nat.le_of_ble_eq_true rfl) hl.1 hcs5 dL_law_1420 (fun H3 locs3 I3 => ?_)
  refine lv_iload C.1 C.2.1 dL_law_1423 (lv_at hl 1 rfl) ?_
  refine lv_icmp_eq (tgt := 1430) C.1 C.2.1 dL_law_1425 (by decide) (fun _ => ?_) (fun h => absurd he.1 h)
  refine lv_iload C.1 C.2.1 dL_law_1430 (lv_at hl 1 rfl) ?_
  refine lv_if_ne (tgt := 1447) C.1 C.2.1 dL_law_1432 (by decide) (fun _ => (by refine lv_goto (tgt := 3262) C.1 C.2.1 dL_law_1447 (by decide) ?_; exact K _ _ _ _ _ _ I3 hR' (lv_sub hl [2, 3, 4, 5, 6] rfl))) (fun h => ?_)
  obtain ⟨h1, h2, h3⟩ := he.2 h
  refine lv_aload_n C.1 C.2.1 dL_law_1435 rfl (lv_at hl 6 rfl) ?_
  refine lv_iconst (v := 0) C.1 C.2.1 dL_law_1436 (by decide) ?_
  refine va_lald C.1 C.2.1 C.2.2.2.2.2.1 (vaP1 I3.2.2.2) 0 5 rfl rfl vp01 dL_law_1437 ?_
  refine lv_iload C.1 C.2.1 dL_law_1438 (lv_at hl 0 rfl) ?_
  refine lv_i2l C.1 C.2.1 dL_law_1440 rfl ?_
  refine W.lcmp C.1 C.2.1 dL_law_1441 ?_
  refine lv_if_eq (tgt := 1447) C.1 C.2.1 dL_law_1442 (by decide) (fun _ => (by refine lv_goto (tgt := 3262) C.1 C.2.1 dL_law_1447 (by decide) ?_; exact K _ _ _ _ _ _ I3 hR' (lv_sub hl [2, 3, 4, 5, 6] rfl))) (fun h => absurd (lg0 (by rw [h2]; exact h3)) h)
set_option maxHeartbeats 4000000 in
set_option maxRecDepth 100000 in
theorem lc_18 (C : LC l Γ p s m b L xs c) (D : LD s ax am o) (I : LI Γ s ax am o σ τ f H locs) (hR : Rl σ τ) {j : Nat} (hj : j + 6 ≤ L ∧ L ≤ 3072) (hl : lv_has ls 9 (LV b ax am o j)) (hcs : cells + 5 ≤ 601024 ∧ slots + 30 ≤ 7293034) {x : Int32} (hx : x.toInt = 18) (K : LK p l e s m b below meth c Γ ax am o Q cells slots j) : W p l e room_1 s m #[Value.ref b] below meth c H locs cells slots Q (F0 m 40 ls [.int x]) := by
  refine lv_tableIn (off := 1410) (tgt := 1450) C.1 C.2.1 dL_law_40 (by rw [hx]; decide) (by rw [hx]; decide) (by rw [hx]; rfl) (by decide) ?_
  obtain ⟨r, σ', τ', e1, e2, hR'⟩ := lo_undo hR
  refine lv_aload_n C.1 C.2.1 dL_law_1450 rfl (lv_at hl 2 rfl) ?_
  refine lx_i C D I (As := []) (rest := []) (w11_undo l Γ ax (AXs ax) σ r σ' e1) mz_215 rfl ⟨Nat.le_of_ble_eq_true rfl, Nat.le_of_ble_eq_true rfl⟩ rfl (Nat.le_of_ble_eq_true rfl) hl.1 ⟨by omega, by omega⟩ dL_law_1451 (fun H1 locs1 I1 => ?_)
  refine lv_aload_n C.1 C.2.1 dL_law_1454 rfl (lv_at hl 3 rfl) ?_
  refine lm_i C D I1 (As := []) (rest := [.int r]) (w12_undo l Γ am (AMs am) τ r τ' e2) mz_218 rfl ⟨Nat.le_of_ble_eq_true rfl, Nat.le_of_ble_eq_true rfl⟩ rfl (Nat.le_of_ble_eq_true rfl) hl.1 ⟨by omega, by omega⟩ dL_law_1455 (fun H2 locs2 I2 => ?_)
  refine lv_icmp_eq (tgt := 3262) C.1 C.2.1 dL_law_1458 (by decide) (fun _ => ?_) (fun h => absurd rfl h)
  refine W.widen (k := cells + 5) (n := slots + 30) (by omega) (by omega) ?_
  exact K _ _ _ _ _ _ I2 hR' hl
set_option maxHeartbeats 4000000 in
set_option maxRecDepth 100000 in
theorem lc_19 (C : LC l Γ p s m b L xs c) (D : LD s ax am o) (I : LI Γ s ax am o σ τ f H locs) (hR : Rl σ τ) {j : Nat} (hj : j + 6 ≤ L ∧ L ≤ 3072) (hl : lv_has ls 9 (LV b ax am o j)) (hcs : cells + 5 ≤ 601024 ∧ slots + 30 ≤ 7293034) {x : Int32} (hx : x.toInt = 19) (K : LK p l e s m b below meth c Γ ax am o Q cells slots j) : W p l e room_1 s m #[Value.ref b] below meth c H locs cells slots Q (F0 m 40 ls [.int x]) := by
  refine lv_tableIn (off := 1423) (tgt := 1463) C.1 C.2.1 dL_law_40 (by rw [hx]; decide) (by rw [hx]; decide) (by rw [hx]; rfl) (by decide) ?_
  obtain ⟨r, τ', e1, e2, hR'⟩ := lo_undoCount hR
  refine lv_aload_n C.1 C.2.1 dL_law_1463 rfl (lv_at hl 2 rfl) ?_
  refine lx_i C D I (As := []) (rest := []) (w11_undoCount l Γ ax (AXs ax) σ r e1) mz_219 rfl ⟨Nat.le_of_ble_eq_true rfl, Nat.le_of_ble_eq_true rfl⟩ rfl (Nat.le_of_ble_eq_true rfl) hl.1 ⟨by omega, by omega⟩ dL_law_1464 (fun H1 locs1 I1 => ?_)
  refine lv_aload_n C.1 C.2.1 dL_law_1467 rfl (lv_at hl 3 rfl) ?_
  refine lm_i C D I1 (As := []) (rest := [.int r]) (w12_undoCount l Γ am (AMs am) τ r τ' e2) mz_222 rfl ⟨Nat.le_of_ble_eq_true rfl, Nat.le_of_ble_eq_true rfl⟩ rfl (Nat.le_of_ble_eq_true rfl) hl.1 ⟨by omega, by omega⟩ dL_law_1468 (fun H2 locs2 I2 => ?_)
  refine lv_icmp_eq (tgt := 3262) C.1 C.2.1 dL_law_1471 (by decide) (fun _ => ?_) (fun h => absurd rfl h)
  refine W.widen (k := cells + 5) (n := slots + 30) (by omega) (by omega) ?_
  exact K _ _ _ _ _ _ I2 hR' hl
set_option maxHeartbeats 4000000 in
set_option maxRecDepth 100000 in
theorem lc_20 (C : LC l Γ p s m b L xs c) (D : LD s ax am o) (I : LI Γ s ax am o σ τ f H locs) (hR : Rl σ τ) {j : Nat} (hj : j + 6 ≤ L ∧ L ≤ 3072) (hl : lv_has ls 9 (LV b ax am o j)) (hcs : cells + 5 ≤ 601024 ∧ slots + 30 ≤ 7293034) {x : Int32} (hx : x.toInt = 20) (K : LK p l e s m b below meth c Γ ax am o Q cells slots j) : W p l e room_1 s m #[Value.ref b] below meth c H locs cells slots Q (F0 m 40 ls [.int x]) := by
  refine lv_tableIn (off := 1436) (tgt := 1476) C.1 C.2.1 dL_law_40 (by rw [hx]; decide) (by rw [hx]; decide) (by rw [hx]; rfl) (by decide) ?_
  obtain ⟨r, σ', τ', e1, e2, hR'⟩ := lo_saveSnapshot hR
  refine lv_aload_n C.1 C.2.1 dL_law_1476 rfl (lv_at hl 2 rfl) ?_
  refine lx_i C D I (As := []) (rest := []) (w11_saveSnapshot l Γ ax (AXs ax) σ r σ' e1) mz_223 rfl ⟨Nat.le_of_ble_eq_true rfl, Nat.le_of_ble_eq_true rfl⟩ rfl (Nat.le_of_ble_eq_true rfl) hl.1 ⟨by omega, by omega⟩ dL_law_1477 (fun H1 locs1 I1 => ?_)
  refine lv_aload_n C.1 C.2.1 dL_law_1480 rfl (lv_at hl 3 rfl) ?_
  refine lm_i C D I1 (As := []) (rest := [.int r]) (w12_saveSnapshot l Γ am (AMs am) τ r τ' e2) mz_226 rfl ⟨Nat.le_of_ble_eq_true rfl, Nat.le_of_ble_eq_true rfl⟩ rfl (Nat.le_of_ble_eq_true rfl) hl.1 ⟨by omega, by omega⟩ dL_law_1481 (fun H2 locs2 I2 => ?_)
  refine lv_icmp_eq (tgt := 3262) C.1 C.2.1 dL_law_1484 (by decide) (fun _ => ?_) (fun h => absurd rfl h)
  refine W.widen (k := cells + 5) (n := slots + 30) (by omega) (by omega) ?_
  exact K _ _ _ _ _ _ I2 hR' hl
set_option maxHeartbeats 4000000 in
set_option maxRecDepth 100000 in
theorem lc_21 (C : LC l Γ p s m b L xs c) (D : LD s ax am o) (I : LI Γ s ax am o σ τ f H locs) (hR : Rl σ τ) {j : Nat} (hj : j + 6 ≤ L ∧ L ≤ 3072) (hl : lv_has ls 9 (LV b ax am o j)) (hcs : cells + 5 ≤ 601024 ∧ slots + 30 ≤ 7293034) {x : Int32} (hx : x.toInt = 21) (K : LK p l e s m b below meth c Γ ax am o Q cells slots j) : W p l e room_1 s m #[Value.ref b] below meth c H locs cells slots Q (F0 m 40 ls [.int x]) := by
  have hcs5 : cells + 5 ≤ 601024 ∧ slots + 30 ≤ 7293034 := hcs
  refine lv_tableIn (off := 1449) (tgt := 1489) C.1 C.2.1 dL_law_40 (by rw [hx]; decide) (by rw [hx]; decide) (by rw [hx]; rfl) (by decide) ?_
  obtain ⟨q, r, τ', e1, e2, hR', hc⟩ := lo_restoreSnapshot hR
  refine lv_aload_n C.1 C.2.1 dL_law_1489 rfl (lv_at hl 2 rfl) ?_
  refine lv_aload_n C.1 C.2.1 dL_law_1490 rfl (lv_at hl 4 rfl) ?_
  refine lw_s C D I (As := [.ref (ax 0 0), .ref o]) (rest := []) (wL_restoreSnapshot l (C.2.2.2.2.2.2.2.2.2.2.2) Γ ax o σ q e1 (by simpa using hq_of hc)) mz_227 ⟨Nat.le_of_ble_eq_true rfl, Nat.le_of_ble_eq_true rfl⟩ rfl (Nat.le_of_ble_eq_true rfl) hl.1 (by decide) hcs dL_law_1491 (fun k f1 H1 locs1 I1 hk => ?_)
  have he := th_eq (by decide) (by decide) hc hk
  refine lv_istore (lv' := (5, .int k) :: LV b ax am o j) C.1 C.2.1 dL_law_1494 hl (by decide) rfl (fun ls hl => ?_)
  refine lv_aload_n C.1 C.2.1 dL_law_1496 rfl (lv_at hl 4 rfl) ?_
  refine lm_i C D I1 (As := []) (rest := []) (w12_restoreSnapshot l Γ am (AMs am) τ r τ' e2) mz_230 rfl ⟨Nat.le_of_ble_eq_true rfl, Nat.le_of_ble_eq_true rfl⟩ rfl (Nat.le_of_ble_eq_true rfl) hl.1 hcs5 dL_law_1497 (fun H2 locs2 I2 => ?_)
  refine lv_istore (lv' := (6, .int r) :: (5, .int k) :: LV b ax am o j) C.1 C.2.1 dL_law_1500 hl (by decide) rfl (fun ls hl => ?_)
  refine lv_aload_n C.1 C.2.1 dL_law_1502 rfl (lv_at hl 5 rfl) ?_
  refine lm_i C D I2 (As := []) (rest := []) (w12_thrown l Γ am (AMs am) τ' (τ' 0 0 0) rfl) mz_161 rfl ⟨Nat.le_of_ble_eq_true rfl, Nat.le_of_ble_eq_true rfl⟩ rfl (Nat.le_of_ble_eq_true rfl) hl.1 hcs5 dL_law_1503 (fun H3 locs3 I3 => ?_)
  refine lv_iload C.1 C.2.1 dL_law_1506 (lv_at hl 1 rfl) ?_
  refine lv_icmp_eq (tgt := 1513) C.1 C.2.1 dL_law_1508 (by decide) (fun _ => ?_) (fun h => absurd he.1 h)
  refine lv_iload C.1 C.2.1 dL_law_1513 (lv_at hl 1 rfl) ?_
  refine lv_if_ne (tgt := 1530) C.1 C.2.1 dL_law_1515 (by decide) (fun _ => (by refine lv_goto (tgt := 3262) C.1 C.2.1 dL_law_1530 (by decide) ?_; exact K _ _ _ _ _ _ I3 hR' (lv_sub hl [2, 3, 4, 5, 6] rfl))) (fun h => ?_)
  obtain ⟨h1, h2, h3⟩ := he.2 h
  refine lv_aload_n C.1 C.2.1 dL_law_1518 rfl (lv_at hl 6 rfl) ?_
  refine lv_iconst (v := 0) C.1 C.2.1 dL_law_1519 (by decide) ?_
  refine va_lald C.1 C.2.1 C.2.2.2.2.2.1 (vaP1 I3.2.2.2) 0 5 rfl rfl vp01 dL_law_1520 ?_
  refine lv_iload C.1 C.2.1 dL_law_1521 (lv_at hl 0 rfl) ?_
  refine lv_i2l C.1 C.2.1 dL_law_1523 rfl ?_
  refine W.lcmp C.1 C.2.1 dL_law_1524 ?_
  refine lv_if_eq (tgt := 1530) C.1 C.2.1 dL_law_1525 (by decide) (fun _ => (by refine lv_goto (tgt := 3262) C.1 C.2.1 dL_law_1530 (by decide) ?_; exact K _ _ _ _ _ _ I3 hR' (lv_sub hl [2, 3, 4, 5, 6] rfl))) (fun h => absurd (lg0 (by rw [h2]; exact h3)) h)
set_option maxHeartbeats 4000000 in
set_option maxRecDepth 100000 in
theorem lc_22 (C : LC l Γ p s m b L xs c) (D : LD s ax am o) (I : LI Γ s ax am o σ τ f H locs) (hR : Rl σ τ) {j : Nat} (hj : j + 6 ≤ L ∧ L ≤ 3072) (hl : lv_has ls 9 (LV b ax am o j)) (hcs : cells + 5 ≤ 601024 ∧ slots + 30 ≤ 7293034) {x : Int32} (hx : x.toInt = 22) (K : LK p l e s m b below meth c Γ ax am o Q cells slots j) : W p l e room_1 s m #[Value.ref b] below meth c H locs cells slots Q (F0 m 40 ls [.int x]) := by
  refine lv_tableIn (off := 1493) (tgt := 1533) C.1 C.2.1 dL_law_40 (by rw [hx]; decide) (by rw [hx]; decide) (by rw [hx]; rfl) (by decide) ?_
  obtain ⟨r, τ', e1, e2, hR'⟩ := lo_scriptErrorKind hR
  refine lv_aload_n C.1 C.2.1 dL_law_1533 rfl (lv_at hl 2 rfl) ?_
  refine lx_i C D I (As := []) (rest := []) (w11_scriptErrorKind l Γ ax (AXs ax) σ r e1) mz_231 rfl ⟨Nat.le_of_ble_eq_true rfl, Nat.le_of_ble_eq_true rfl⟩ rfl (Nat.le_of_ble_eq_true rfl) hl.1 ⟨by omega, by omega⟩ dL_law_1534 (fun H1 locs1 I1 => ?_)
  refine lv_aload_n C.1 C.2.1 dL_law_1537 rfl (lv_at hl 3 rfl) ?_
  refine lm_i C D I1 (As := []) (rest := [.int r]) (w12_scriptErrorKind l Γ am (AMs am) τ r τ' e2) mz_234 rfl ⟨Nat.le_of_ble_eq_true rfl, Nat.le_of_ble_eq_true rfl⟩ rfl (Nat.le_of_ble_eq_true rfl) hl.1 ⟨by omega, by omega⟩ dL_law_1538 (fun H2 locs2 I2 => ?_)
  refine lv_icmp_eq (tgt := 3262) C.1 C.2.1 dL_law_1541 (by decide) (fun _ => ?_) (fun h => absurd rfl h)
  refine W.widen (k := cells + 5) (n := slots + 30) (by omega) (by omega) ?_
  exact K _ _ _ _ _ _ I2 hR' hl
set_option maxHeartbeats 4000000 in
set_option maxRecDepth 100000 in
theorem lc_23 (C : LC l Γ p s m b L xs c) (D : LD s ax am o) (I : LI Γ s ax am o σ τ f H locs) (hR : Rl σ τ) {j : Nat} (hj : j + 6 ≤ L ∧ L ≤ 3072) (hl : lv_has ls 9 (LV b ax am o j)) (hcs : cells + 5 ≤ 601024 ∧ slots + 30 ≤ 7293034) {x : Int32} (hx : x.toInt = 23) (K : LK p l e s m b below meth c Γ ax am o Q cells slots j) : W p l e room_1 s m #[Value.ref b] below meth c H locs cells slots Q (F0 m 40 ls [.int x]) := by
  refine lv_tableIn (off := 1506) (tgt := 1546) C.1 C.2.1 dL_law_40 (by rw [hx]; decide) (by rw [hx]; decide) (by rw [hx]; rfl) (by decide) ?_
  obtain ⟨r, τ', e1, e2, hR'⟩ := lo_scriptErrorOffset hR
  refine lv_aload_n C.1 C.2.1 dL_law_1546 rfl (lv_at hl 2 rfl) ?_
  refine lx_i C D I (As := []) (rest := []) (w11_scriptErrorOffset l Γ ax (AXs ax) σ r e1) mz_235 rfl ⟨Nat.le_of_ble_eq_true rfl, Nat.le_of_ble_eq_true rfl⟩ rfl (Nat.le_of_ble_eq_true rfl) hl.1 ⟨by omega, by omega⟩ dL_law_1547 (fun H1 locs1 I1 => ?_)
  refine lv_aload_n C.1 C.2.1 dL_law_1550 rfl (lv_at hl 3 rfl) ?_
  refine lm_i C D I1 (As := []) (rest := [.int r]) (w12_scriptErrorOffset l Γ am (AMs am) τ r τ' e2) mz_238 rfl ⟨Nat.le_of_ble_eq_true rfl, Nat.le_of_ble_eq_true rfl⟩ rfl (Nat.le_of_ble_eq_true rfl) hl.1 ⟨by omega, by omega⟩ dL_law_1551 (fun H2 locs2 I2 => ?_)
  refine lv_icmp_eq (tgt := 3262) C.1 C.2.1 dL_law_1554 (by decide) (fun _ => ?_) (fun h => absurd rfl h)
  refine W.widen (k := cells + 5) (n := slots + 30) (by omega) (by omega) ?_
  exact K _ _ _ _ _ _ I2 hR' hl
end LWC
