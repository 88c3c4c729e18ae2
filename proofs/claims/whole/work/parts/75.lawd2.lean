/-! printed: the law's cases 16 to 23, decoded; their words -/
theorem dL_law_1326 : decode cL_law 1326 = .ok (.aload_n 1, 1) := by decide +kernel
theorem dL_law_1327 : decode cL_law 1327 = .ok (.aload_n 0, 1) := by decide +kernel
theorem dL_law_1328 : decode cL_law 1328 = .ok (.iload 4, 2) := by decide +kernel
theorem dL_law_1330 : decode cL_law 1330 = .ok (.iconst 1, 1) := by decide +kernel
theorem dL_law_1331 : decode cL_law 1331 = .ok (.iadd, 1) := by decide +kernel
theorem dL_law_1332 : decode cL_law 1332 = .ok (.iaload, 1) := by decide +kernel
theorem dL_law_1333 : decode cL_law 1333 = .ok (.aload_n 0, 1) := by decide +kernel
theorem dL_law_1334 : decode cL_law 1334 = .ok (.iload 4, 2) := by decide +kernel
theorem dL_law_1336 : decode cL_law 1336 = .ok (.iconst 2, 1) := by decide +kernel
theorem dL_law_1337 : decode cL_law 1337 = .ok (.iadd, 1) := by decide +kernel
theorem dL_law_1338 : decode cL_law 1338 = .ok (.iaload, 1) := by decide +kernel
theorem dL_law_1339 : decode cL_law 1339 = .ok (.aload_n 3, 1) := by decide +kernel
theorem dL_law_1340 : decode cL_law 1340 = .ok (.invokestatic 209, 3) := by decide +kernel
theorem dL_law_1343 : decode cL_law 1343 = .ok (.istore 5, 2) := by decide +kernel
theorem dL_law_1345 : decode cL_law 1345 = .ok (.aload_n 2, 1) := by decide +kernel
theorem dL_law_1346 : decode cL_law 1346 = .ok (.aload_n 0, 1) := by decide +kernel
theorem dL_law_1347 : decode cL_law 1347 = .ok (.iload 4, 2) := by decide +kernel
theorem dL_law_1349 : decode cL_law 1349 = .ok (.iconst 1, 1) := by decide +kernel
theorem dL_law_1350 : decode cL_law 1350 = .ok (.iadd, 1) := by decide +kernel
theorem dL_law_1351 : decode cL_law 1351 = .ok (.iaload, 1) := by decide +kernel
theorem dL_law_1352 : decode cL_law 1352 = .ok (.aload_n 0, 1) := by decide +kernel
theorem dL_law_1353 : decode cL_law 1353 = .ok (.iload 4, 2) := by decide +kernel
theorem dL_law_1355 : decode cL_law 1355 = .ok (.iconst 2, 1) := by decide +kernel
theorem dL_law_1356 : decode cL_law 1356 = .ok (.iadd, 1) := by decide +kernel
theorem dL_law_1357 : decode cL_law 1357 = .ok (.iaload, 1) := by decide +kernel
theorem dL_law_1358 : decode cL_law 1358 = .ok (.invokevirtual 211, 3) := by decide +kernel
theorem dL_law_1361 : decode cL_law 1361 = .ok (.istore 6, 2) := by decide +kernel
theorem dL_law_1363 : decode cL_law 1363 = .ok (.aload_n 2, 1) := by decide +kernel
theorem dL_law_1364 : decode cL_law 1364 = .ok (.invokevirtual 161, 3) := by decide +kernel
theorem dL_law_1367 : decode cL_law 1367 = .ok (.iload 5, 2) := by decide +kernel
theorem dL_law_1369 : decode cL_law 1369 = .ok (.if_icmp .eq 5, 3) := by decide +kernel
theorem dL_law_1374 : decode cL_law 1374 = .ok (.iload 5, 2) := by decide +kernel
theorem dL_law_1376 : decode cL_law 1376 = .ok (.ifCond .ne 15, 3) := by decide +kernel
theorem dL_law_1379 : decode cL_law 1379 = .ok (.aload_n 3, 1) := by decide +kernel
theorem dL_law_1380 : decode cL_law 1380 = .ok (.iconst 0, 1) := by decide +kernel
theorem dL_law_1381 : decode cL_law 1381 = .ok (.laload, 1) := by decide +kernel
theorem dL_law_1382 : decode cL_law 1382 = .ok (.iload 6, 2) := by decide +kernel
theorem dL_law_1384 : decode cL_law 1384 = .ok (.i2l, 1) := by decide +kernel
theorem dL_law_1385 : decode cL_law 1385 = .ok (.lcmp, 1) := by decide +kernel
theorem dL_law_1386 : decode cL_law 1386 = .ok (.ifCond .eq 5, 3) := by decide +kernel
theorem dL_law_1391 : decode cL_law 1391 = .ok (.goto 1871, 3) := by decide +kernel
theorem dL_law_1394 : decode cL_law 1394 = .ok (.aload_n 1, 1) := by decide +kernel
theorem dL_law_1395 : decode cL_law 1395 = .ok (.aload_n 0, 1) := by decide +kernel
theorem dL_law_1396 : decode cL_law 1396 = .ok (.iload 4, 2) := by decide +kernel
theorem dL_law_1398 : decode cL_law 1398 = .ok (.iconst 1, 1) := by decide +kernel
theorem dL_law_1399 : decode cL_law 1399 = .ok (.iadd, 1) := by decide +kernel
theorem dL_law_1400 : decode cL_law 1400 = .ok (.iaload, 1) := by decide +kernel
theorem dL_law_1401 : decode cL_law 1401 = .ok (.aload_n 3, 1) := by decide +kernel
theorem dL_law_1402 : decode cL_law 1402 = .ok (.invokestatic 212, 3) := by decide +kernel
theorem dL_law_1405 : decode cL_law 1405 = .ok (.istore 5, 2) := by decide +kernel
theorem dL_law_1407 : decode cL_law 1407 = .ok (.aload_n 2, 1) := by decide +kernel
theorem dL_law_1408 : decode cL_law 1408 = .ok (.aload_n 0, 1) := by decide +kernel
theorem dL_law_1409 : decode cL_law 1409 = .ok (.iload 4, 2) := by decide +kernel
theorem dL_law_1411 : decode cL_law 1411 = .ok (.iconst 1, 1) := by decide +kernel
theorem dL_law_1412 : decode cL_law 1412 = .ok (.iadd, 1) := by decide +kernel
theorem dL_law_1413 : decode cL_law 1413 = .ok (.iaload, 1) := by decide +kernel
theorem dL_law_1414 : decode cL_law 1414 = .ok (.invokevirtual 214, 3) := by decide +kernel
theorem dL_law_1417 : decode cL_law 1417 = .ok (.istore 6, 2) := by decide +kernel
theorem dL_law_1419 : decode cL_law 1419 = .ok (.aload_n 2, 1) := by decide +kernel
theorem dL_law_1420 : decode cL_law 1420 = .ok (.invokevirtual 161, 3) := by decide +kernel
theorem dL_law_1423 : decode cL_law 1423 = .ok (.iload 5, 2) := by decide +kernel
theorem dL_law_1425 : decode cL_law 1425 = .ok (.if_icmp .eq 5, 3) := by decide +kernel
theorem dL_law_1430 : decode cL_law 1430 = .ok (.iload 5, 2) := by decide +kernel
theorem dL_law_1432 : decode cL_law 1432 = .ok (.ifCond .ne 15, 3) := by decide +kernel
theorem dL_law_1435 : decode cL_law 1435 = .ok (.aload_n 3, 1) := by decide +kernel
theorem dL_law_1436 : decode cL_law 1436 = .ok (.iconst 0, 1) := by decide +kernel
theorem dL_law_1437 : decode cL_law 1437 = .ok (.laload, 1) := by decide +kernel
theorem dL_law_1438 : decode cL_law 1438 = .ok (.iload 6, 2) := by decide +kernel
theorem dL_law_1440 : decode cL_law 1440 = .ok (.i2l, 1) := by decide +kernel
theorem dL_law_1441 : decode cL_law 1441 = .ok (.lcmp, 1) := by decide +kernel
theorem dL_law_1442 : decode cL_law 1442 = .ok (.ifCond .eq 5, 3) := by decide +kernel
theorem dL_law_1447 : decode cL_law 1447 = .ok (.goto 1815, 3) := by decide +kernel
theorem dL_law_1450 : decode cL_law 1450 = .ok (.aload_n 1, 1) := by decide +kernel
theorem dL_law_1451 : decode cL_law 1451 = .ok (.invokevirtual 215, 3) := by decide +kernel
theorem dL_law_1454 : decode cL_law 1454 = .ok (.aload_n 2, 1) := by decide +kernel
theorem dL_law_1455 : decode cL_law 1455 = .ok (.invokevirtual 218, 3) := by decide +kernel
theorem dL_law_1458 : decode cL_law 1458 = .ok (.if_icmp .eq 1804, 3) := by decide +kernel
theorem dL_law_1463 : decode cL_law 1463 = .ok (.aload_n 1, 1) := by decide +kernel
theorem dL_law_1464 : decode cL_law 1464 = .ok (.invokevirtual 219, 3) := by decide +kernel
theorem dL_law_1467 : decode cL_law 1467 = .ok (.aload_n 2, 1) := by decide +kernel
theorem dL_law_1468 : decode cL_law 1468 = .ok (.invokevirtual 222, 3) := by decide +kernel
theorem dL_law_1471 : decode cL_law 1471 = .ok (.if_icmp .eq 1791, 3) := by decide +kernel
theorem dL_law_1476 : decode cL_law 1476 = .ok (.aload_n 1, 1) := by decide +kernel
theorem dL_law_1477 : decode cL_law 1477 = .ok (.invokevirtual 223, 3) := by decide +kernel
theorem dL_law_1480 : decode cL_law 1480 = .ok (.aload_n 2, 1) := by decide +kernel
theorem dL_law_1481 : decode cL_law 1481 = .ok (.invokevirtual 226, 3) := by decide +kernel
theorem dL_law_1484 : decode cL_law 1484 = .ok (.if_icmp .eq 1778, 3) := by decide +kernel
theorem dL_law_1489 : decode cL_law 1489 = .ok (.aload_n 1, 1) := by decide +kernel
theorem dL_law_1490 : decode cL_law 1490 = .ok (.aload_n 3, 1) := by decide +kernel
theorem dL_law_1491 : decode cL_law 1491 = .ok (.invokestatic 227, 3) := by decide +kernel
theorem dL_law_1494 : decode cL_law 1494 = .ok (.istore 5, 2) := by decide +kernel
theorem dL_law_1496 : decode cL_law 1496 = .ok (.aload_n 2, 1) := by decide +kernel
theorem dL_law_1497 : decode cL_law 1497 = .ok (.invokevirtual 230, 3) := by decide +kernel
theorem dL_law_1500 : decode cL_law 1500 = .ok (.istore 6, 2) := by decide +kernel
theorem dL_law_1502 : decode cL_law 1502 = .ok (.aload_n 2, 1) := by decide +kernel
theorem dL_law_1503 : decode cL_law 1503 = .ok (.invokevirtual 161, 3) := by decide +kernel
theorem dL_law_1506 : decode cL_law 1506 = .ok (.iload 5, 2) := by decide +kernel
theorem dL_law_1508 : decode cL_law 1508 = .ok (.if_icmp .eq 5, 3) := by decide +kernel
theorem dL_law_1513 : decode cL_law 1513 = .ok (.iload 5, 2) := by decide +kernel
theorem dL_law_1515 : decode cL_law 1515 = .ok (.ifCond .ne 15, 3) := by decide +kernel
theorem dL_law_1518 : decode cL_law 1518 = .ok (.aload_n 3, 1) := by decide +kernel
theorem dL_law_1519 : decode cL_law 1519 = .ok (.iconst 0, 1) := by decide +kernel
theorem dL_law_1520 : decode cL_law 1520 = .ok (.laload, 1) := by decide +kernel
theorem dL_law_1521 : decode cL_law 1521 = .ok (.iload 6, 2) := by decide +kernel
theorem dL_law_1523 : decode cL_law 1523 = .ok (.i2l, 1) := by decide +kernel
theorem dL_law_1524 : decode cL_law 1524 = .ok (.lcmp, 1) := by decide +kernel
theorem dL_law_1525 : decode cL_law 1525 = .ok (.ifCond .eq 5, 3) := by decide +kernel
theorem dL_law_1530 : decode cL_law 1530 = .ok (.goto 1732, 3) := by decide +kernel
theorem dL_law_1533 : decode cL_law 1533 = .ok (.aload_n 1, 1) := by decide +kernel
theorem dL_law_1534 : decode cL_law 1534 = .ok (.invokevirtual 231, 3) := by decide +kernel
theorem dL_law_1537 : decode cL_law 1537 = .ok (.aload_n 2, 1) := by decide +kernel
theorem dL_law_1538 : decode cL_law 1538 = .ok (.invokevirtual 234, 3) := by decide +kernel
theorem dL_law_1541 : decode cL_law 1541 = .ok (.if_icmp .eq 1721, 3) := by decide +kernel
theorem dL_law_1546 : decode cL_law 1546 = .ok (.aload_n 1, 1) := by decide +kernel
theorem dL_law_1547 : decode cL_law 1547 = .ok (.invokevirtual 235, 3) := by decide +kernel
theorem dL_law_1550 : decode cL_law 1550 = .ok (.aload_n 2, 1) := by decide +kernel
theorem dL_law_1551 : decode cL_law 1551 = .ok (.invokevirtual 238, 3) := by decide +kernel
theorem dL_law_1554 : decode cL_law 1554 = .ok (.if_icmp .eq 1708, 3) := by decide +kernel
theorem lo_payFines {σ τ : Sig} (a0 a1 : Int32) (h : Rl σ τ) : OKx [2, 1, 3] (f11_payFines a0 a1 σ) (f12_payFines a0 a1 τ) := by
  have e1 : xg σ 8 (σ 9) = σ := xg_self σ 8
  have e2 : mr τ (τ 0 1) = τ := mr_self τ
  have q := ok_payFines (σ := σ) (τ := τ) (G := σ 9) (w := τ 0 1) a0 a1 (by rw [e1, e2]; exact h)
  rw [e1, e2] at q
  exact q
theorem mz_209 : MWz 209 yL_payFines cL_payFines 5 [(0, 10, 13, 19), (0, 10, 17, 13), (0, 10, 21, 28)] 4 := ⟨gw_t (tin6 (List.mem_of_getElem? (i := 37) rfl)) rfl, gw_t (tin6 (List.mem_of_getElem? (i := 38) rfl)) rfl, gw_t (tin1 (List.mem_of_getElem? (i := 0) rfl)) rfl, gw_t (tin6 (List.mem_of_getElem? (i := 39) rfl)) rfl, by decide, by decide, by decide +kernel⟩
theorem mz_211 : MWv RL 211 yX12_payFines cX12_payFines 3 (some .int) 2 := ⟨gw_t (tin8 (List.mem_of_getElem? (i := 95) rfl)) rfl, gw_t (tin8 (List.mem_of_getElem? (i := 96) rfl)) rfl, gw_t (tin8 (List.mem_of_getElem? (i := 97) rfl)) rfl, gw_t (tin1 (List.mem_of_getElem? (i := 19) rfl)) rfl, gw_t (tin8 (List.mem_of_getElem? (i := 98) rfl)) rfl, by decide, by decide, by decide +kernel⟩
theorem lo_pass {σ τ : Sig} (a0 : Int32) (h : Rl σ τ) : OKx [1, 3] (f11_pass a0 σ) (f12_pass a0 τ) := by
  have e1 : xg σ 8 (σ 9) = σ := xg_self σ 8
  have e2 : mr τ (τ 0 1) = τ := mr_self τ
  have q := ok_pass (σ := σ) (τ := τ) (G := σ 9) (w := τ 0 1) a0 (by rw [e1, e2]; exact h)
  rw [e1, e2] at q
  exact q
theorem mz_212 : MWz 212 yL_pass cL_pass 4 [(0, 9, 12, 13), (0, 9, 15, 28)] 3 := ⟨gw_t (tin6 (List.mem_of_getElem? (i := 45) rfl)) rfl, gw_t (tin6 (List.mem_of_getElem? (i := 46) rfl)) rfl, gw_t (tin1 (List.mem_of_getElem? (i := 0) rfl)) rfl, gw_t (tin6 (List.mem_of_getElem? (i := 47) rfl)) rfl, by decide, by decide, by decide +kernel⟩
theorem mz_214 : MWv RL 214 yX12_pass cX12_pass 2 (some .int) 1 := ⟨gw_t (tin8 (List.mem_of_getElem? (i := 99) rfl)) rfl, gw_t (tin8 (List.mem_of_getElem? (i := 100) rfl)) rfl, gw_t (tin8 (List.mem_of_getElem? (i := 101) rfl)) rfl, gw_t (tin1 (List.mem_of_getElem? (i := 19) rfl)) rfl, gw_t (tin8 (List.mem_of_getElem? (i := 102) rfl)) rfl, by decide, by decide, by decide +kernel⟩
theorem lo_undo {σ τ : Sig} (h : Rl σ τ) : OKi (f11_undo σ) (f12_undo τ) := by
  have e1 : xg σ 8 (σ 9) = σ := xg_self σ 8
  have e2 : mr τ (τ 0 1) = τ := mr_self τ
  have q := ok_undo (σ := σ) (τ := τ) (G := σ 9) (w := τ 0 1) (by rw [e1, e2]; exact h)
  rw [e1, e2] at q
  exact q
theorem mz_215 : MWv RL 215 yX11_undo cX11_undo 1 (some .int) 0 := ⟨gw_t (tin4 (List.mem_of_getElem? (i := 99) rfl)) rfl, gw_t (tin4 (List.mem_of_getElem? (i := 100) rfl)) rfl, gw_t (tin4 (List.mem_of_getElem? (i := 101) rfl)) rfl, gw_t (tin1 (List.mem_of_getElem? (i := 1) rfl)) rfl, gw_t (tin4 (List.mem_of_getElem? (i := 102) rfl)) rfl, by decide, by decide, by decide +kernel⟩
theorem mz_218 : MWv RL 218 yX12_undo cX12_undo 1 (some .int) 0 := ⟨gw_t (tin8 (List.mem_of_getElem? (i := 103) rfl)) rfl, gw_t (tin8 (List.mem_of_getElem? (i := 104) rfl)) rfl, gw_t (tin8 (List.mem_of_getElem? (i := 105) rfl)) rfl, gw_t (tin1 (List.mem_of_getElem? (i := 19) rfl)) rfl, gw_t (tin8 (List.mem_of_getElem? (i := 106) rfl)) rfl, by decide, by decide, by decide +kernel⟩
theorem lo_undoCount {σ τ : Sig} (h : Rl σ τ) : OKp σ (f11_undoCount σ) (f12_undoCount τ) := by
  have e1 : xg σ 8 (σ 9) = σ := xg_self σ 8
  have e2 : mr τ (τ 0 1) = τ := mr_self τ
  have q := ok_undoCount (σ := σ) (τ := τ) (G := σ 9) (w := τ 0 1) (by rw [e1, e2]; exact h)
  rw [e1, e2] at q
  exact q
theorem mz_219 : MWv RL 219 yX11_undoCount cX11_undoCount 1 (some .int) 0 := ⟨gw_t (tin4 (List.mem_of_getElem? (i := 107) rfl)) rfl, gw_t (tin4 (List.mem_of_getElem? (i := 108) rfl)) rfl, gw_t (tin4 (List.mem_of_getElem? (i := 109) rfl)) rfl, gw_t (tin1 (List.mem_of_getElem? (i := 1) rfl)) rfl, gw_t (tin4 (List.mem_of_getElem? (i := 110) rfl)) rfl, by decide, by decide, by decide +kernel⟩
theorem mz_222 : MWv RL 222 yX12_undoCount cX12_undoCount 1 (some .int) 0 := ⟨gw_t (tin8 (List.mem_of_getElem? (i := 107) rfl)) rfl, gw_t (tin8 (List.mem_of_getElem? (i := 108) rfl)) rfl, gw_t (tin8 (List.mem_of_getElem? (i := 109) rfl)) rfl, gw_t (tin1 (List.mem_of_getElem? (i := 19) rfl)) rfl, gw_t (tin8 (List.mem_of_getElem? (i := 110) rfl)) rfl, by decide, by decide, by decide +kernel⟩
theorem lo_saveSnapshot {σ τ : Sig} (h : Rl σ τ) : OKi (f11_saveSnapshot σ) (f12_saveSnapshot τ) := by
  have e1 : xg σ 8 (σ 9) = σ := xg_self σ 8
  have e2 : mr τ (τ 0 1) = τ := mr_self τ
  have q := ok_saveSnapshot (σ := σ) (τ := τ) (G := σ 9) (w := τ 0 1) (by rw [e1, e2]; exact h)
  rw [e1, e2] at q
  exact q
theorem mz_223 : MWv RL 223 yX11_saveSnapshot cX11_saveSnapshot 1 (some .int) 0 := ⟨gw_t (tin4 (List.mem_of_getElem? (i := 111) rfl)) rfl, gw_t (tin4 (List.mem_of_getElem? (i := 112) rfl)) rfl, gw_t (tin4 (List.mem_of_getElem? (i := 113) rfl)) rfl, gw_t (tin1 (List.mem_of_getElem? (i := 1) rfl)) rfl, gw_t (tin4 (List.mem_of_getElem? (i := 114) rfl)) rfl, by decide, by decide, by decide +kernel⟩
theorem mz_226 : MWv RL 226 yX12_saveSnapshot cX12_saveSnapshot 1 (some .int) 0 := ⟨gw_t (tin8 (List.mem_of_getElem? (i := 111) rfl)) rfl, gw_t (tin8 (List.mem_of_getElem? (i := 112) rfl)) rfl, gw_t (tin8 (List.mem_of_getElem? (i := 113) rfl)) rfl, gw_t (tin1 (List.mem_of_getElem? (i := 19) rfl)) rfl, gw_t (tin8 (List.mem_of_getElem? (i := 114) rfl)) rfl, by decide, by decide, by decide +kernel⟩
theorem lo_restoreSnapshot {σ τ : Sig} (h : Rl σ τ) : OKx [4] (f11_restoreSnapshot σ) (f12_restoreSnapshot τ) := by
  have e1 : xg σ 8 (σ 9) = σ := xg_self σ 8
  have e2 : mr τ (τ 0 1) = τ := mr_self τ
  have q := ok_restoreSnapshot (σ := σ) (τ := τ) (G := σ 9) (w := τ 0 1) (by rw [e1, e2]; exact h)
  rw [e1, e2] at q
  exact q
theorem mz_227 : MWz 227 yL_restoreSnapshot cL_restoreSnapshot 3 [(0, 8, 11, 70)] 2 := ⟨gw_t (tin6 (List.mem_of_getElem? (i := 54) rfl)) rfl, gw_t (tin6 (List.mem_of_getElem? (i := 55) rfl)) rfl, gw_t (tin1 (List.mem_of_getElem? (i := 0) rfl)) rfl, gw_t (tin6 (List.mem_of_getElem? (i := 56) rfl)) rfl, by decide, by decide, by decide +kernel⟩
theorem mz_230 : MWv RL 230 yX12_restoreSnapshot cX12_restoreSnapshot 1 (some .int) 0 := ⟨gw_t (tin8 (List.mem_of_getElem? (i := 115) rfl)) rfl, gw_t (tin8 (List.mem_of_getElem? (i := 116) rfl)) rfl, gw_t (tin8 (List.mem_of_getElem? (i := 117) rfl)) rfl, gw_t (tin1 (List.mem_of_getElem? (i := 19) rfl)) rfl, gw_t (tin8 (List.mem_of_getElem? (i := 118) rfl)) rfl, by decide, by decide, by decide +kernel⟩
theorem lo_scriptErrorKind {σ τ : Sig} (h : Rl σ τ) : OKp σ (f11_scriptErrorKind σ) (f12_scriptErrorKind τ) := by
  have e1 : xg σ 8 (σ 9) = σ := xg_self σ 8
  have e2 : mr τ (τ 0 1) = τ := mr_self τ
  have q := ok_scriptErrorKind (σ := σ) (τ := τ) (G := σ 9) (w := τ 0 1) (by rw [e1, e2]; exact h)
  rw [e1, e2] at q
  exact q
theorem mz_231 : MWv RL 231 yX11_scriptErrorKind cX11_scriptErrorKind 1 (some .int) 0 := ⟨gw_t (tin4 (List.mem_of_getElem? (i := 115) rfl)) rfl, gw_t (tin4 (List.mem_of_getElem? (i := 116) rfl)) rfl, gw_t (tin4 (List.mem_of_getElem? (i := 117) rfl)) rfl, gw_t (tin1 (List.mem_of_getElem? (i := 1) rfl)) rfl, gw_t (tin4 (List.mem_of_getElem? (i := 118) rfl)) rfl, by decide, by decide, by decide +kernel⟩
theorem mz_234 : MWv RL 234 yX12_scriptErrorKind cX12_scriptErrorKind 1 (some .int) 0 := ⟨gw_t (tin8 (List.mem_of_getElem? (i := 218) rfl)) rfl, gw_t (tin8 (List.mem_of_getElem? (i := 219) rfl)) rfl, gw_t (tin8 (List.mem_of_getElem? (i := 220) rfl)) rfl, gw_t (tin1 (List.mem_of_getElem? (i := 19) rfl)) rfl, gw_t (tin8 (List.mem_of_getElem? (i := 221) rfl)) rfl, by decide, by decide, by decide +kernel⟩
theorem lo_scriptErrorOffset {σ τ : Sig} (h : Rl σ τ) : OKp σ (f11_scriptErrorOffset σ) (f12_scriptErrorOffset τ) := by
  have e1 : xg σ 8 (σ 9) = σ := xg_self σ 8
  have e2 : mr τ (τ 0 1) = τ := mr_self τ
  have q := ok_scriptErrorOffset (σ := σ) (τ := τ) (G := σ 9) (w := τ 0 1) (by rw [e1, e2]; exact h)
  rw [e1, e2] at q
  exact q
theorem mz_235 : MWv RL 235 yX11_scriptErrorOffset cX11_scriptErrorOffset 1 (some .int) 0 := ⟨gw_t (tin4 (List.mem_of_getElem? (i := 119) rfl)) rfl, gw_t (tin4 (List.mem_of_getElem? (i := 120) rfl)) rfl, gw_t (tin4 (List.mem_of_getElem? (i := 121) rfl)) rfl, gw_t (tin1 (List.mem_of_getElem? (i := 1) rfl)) rfl, gw_t (tin4 (List.mem_of_getElem? (i := 122) rfl)) rfl, by decide, by decide, by decide +kernel⟩
theorem mz_238 : MWv RL 238 yX12_scriptErrorOffset cX12_scriptErrorOffset 1 (some .int) 0 := ⟨gw_t (tin8 (List.mem_of_getElem? (i := 222) rfl)) rfl, gw_t (tin8 (List.mem_of_getElem? (i := 223) rfl)) rfl, gw_t (tin8 (List.mem_of_getElem? (i := 224) rfl)) rfl, gw_t (tin1 (List.mem_of_getElem? (i := 19) rfl)) rfl, gw_t (tin8 (List.mem_of_getElem? (i := 225) rfl)) rfl, by decide, by decide, by decide +kernel⟩
